set_option maxHeartbeats 4000000 in
set_option maxRecDepth 100000 in
theorem x_both (l : Launch) (G : GC) (M : Mm) (Y : Nat → Int32) (n hN : Nat) (hR : YR M 1 Y n hN) (hY : YOk Y n hN) (hI : yI Y n) (hJ : yJ Y n) (child : Int32) : CI l G 3 yX9_both cX9_both 2 .int [.ref (gb G + 0), .int child] M ((bothS Y n child).2.1) (PubC M (bothS Y n child).2.2 n hN (bothS Y n child).1) := by
  refine Con.of (by decide +kernel) (Nat.le_of_ble_eq_true rfl) ?_
  intro f C hRm hRt _
  have hn2 := hY.1.2.1
  have h5 := hY.1.2.2.2
  show Vc f G NPh M 0 [(0, .ref (gb G + 0)), (1, .int child)] []
  refine v_aload_n C 0 dX9_both_0 rfl ?_
  refine v_iload_n C 1 dX9_both_1 rfl ?_
  refine n_callVp C hRm [.int child] cw_X9_noChild ml_X9_84 (by decide) (show shp 0 = 9 from by decide +kernel) (by decide) rfl (c_noChild l G M Y _ _ hR hY child) (by decide) rfl rfl (Nat.le_of_ble_eq_true rfl) dX9_both_2 ?_
  refine nb_if_eq C 14 dX9_both_5 rfl (fun h_5 => ?_) (fun h_5 => ?_)
  · skip
    obtain ⟨c, hc, rfl⟩ := is_nat hY.1.1 hY.1.2.1 (Decidable.not_not.mp h_5)
    refine v_aload_n C 0 dX9_both_14 rfl ?_
    refine g_X9_25 C (by decide) (show shp 0 = 9 from by decide +kernel) dX9_both_15 ?_
    refine v_aload_n C 0 dX9_both_18 rfl ?_
    refine g_X9_10 C (by decide) (show shp 0 = 9 from by decide +kernel) dX9_both_19 ?_
    refine n_callVv C hRm [.ref (gb G + 1)] cw_X1_look ml_X9_207 (by decide) (show shp 184 = 1 from by decide +kernel) (by decide) rfl (f_look l G M 1 (by decide) Y _ _ hR hY hJ.1 hJ.2.1) (by decide) rfl rfl (Nat.le_of_ble_eq_true rfl) dX9_both_22 (fun Mq1 hP_22 => ?_)
    obtain ⟨hLq1, hFrq1⟩ := hP_22
    have hRq1 := hR.fr (fun a h1 h2 => hLq1 a (by omega))
    have hGq1 := (okG.rf M).fri hLq1
    refine v_aload_n C 0 dX9_both_25 rfl ?_
    refine g_X9_25 C (by decide) (show shp 0 = 9 from by decide +kernel) dX9_both_26 ?_
    refine g_X9_211 C (by decide) (show shp 184 = 1 from by decide +kernel) dX9_both_29 ?_
    refine v_iload_n C 1 dX9_both_32 rfl ?_
    refine v_iald C (by decide) (show shp 186 = 1000 + 10 from by decide +kernel) (by omega) (by decide) dX9_both_33 ?_
    refine v_top (nI (bothM Y n c)) (hFrq1.2.2.2 c (by omega)) ?_
    have hS : bothS Y n (nI c) = (0, nI (bothM Y n c), Y) := by unfold bothS; (try rw [nI_clamp (by omega)]); (try rw [nI_clamp (by omega)]); (try rw [nI_clamp (by omega)]); (first | rw [if_neg h_5] | rw [if_pos (Decidable.not_not.mp h_5)] | rw [if_pos h_5] | rw [if_pos (congrArg nI h_5)] | rw [if_neg (fun q9 => h_5 ((nI_eq (by omega) (by omega)).mp q9))] | rw [if_neg (Nat.not_le.mpr h_5)] | rw [if_neg (Nat.not_lt.mpr h_5)] | skip); all_goals rfl
    exact n_iret C hRt (rfl) dX9_both_34 (by rw [hS] <;> rfl) (by rw [hS]; exact pc_ok hRq1 hGq1)
  · skip
    refine v_aload_n C 0 dX9_both_8 rfl ?_
    refine v_iconst C (nI 1) dX9_both_9 (by decide) ?_
    refine n_callVi C hRm [.int (nI 1)] cw_X9_error ml_X9_58 (by decide) (show shp 0 = 9 from by decide +kernel) (by decide) rfl (c_error l G M 1 (by decide)) (by decide) rfl rfl (Nat.le_of_ble_eq_true rfl) dX9_both_10 (fun M5 hP_10 => ?_)
    subst hP_10
    have hS : bothS Y n child = er 1 Y := by unfold bothS; (try rw [nI_clamp (by omega)]); (try rw [nI_clamp (by omega)]); (try rw [nI_clamp (by omega)]); (first | rw [if_neg h_5] | rw [if_pos (Decidable.not_not.mp h_5)] | rw [if_pos h_5] | rw [if_pos (congrArg nI h_5)] | rw [if_neg (fun q9 => h_5 ((nI_eq (by omega) (by omega)).mp q9))] | rw [if_neg (Nat.not_le.mpr h_5)] | rw [if_neg (Nat.not_lt.mpr h_5)] | skip); all_goals rfl
    exact n_iret C hRt (rfl) dX9_both_13 (by rw [hS] <;> rfl) (by rw [hS]; exact pc_er hR (okG.rf M) (show (1 : Nat) ≠ 0 by decide))
set_option maxHeartbeats 4000000 in
set_option maxRecDepth 100000 in
theorem x_ring (l : Launch) (G : GC) (M : Mm) (Y : Nat → Int32) (n hN : Nat) (hR : YR M 1 Y n hN) (hY : YOk Y n hN) (hI : yI Y n) (hJ : yJ Y n) (child : Int32) : CI l G 3 yX9_ring cX9_ring 2 .int [.ref (gb G + 0), .int child] M ((ringS Y n child).2.1) (PubC M (ringS Y n child).2.2 n hN (ringS Y n child).1) := by
  refine Con.of (by decide +kernel) (Nat.le_of_ble_eq_true rfl) ?_
  intro f C hRm hRt _
  have hn2 := hY.1.2.1
  have h5 := hY.1.2.2.2
  show Vc f G NPh M 0 [(0, .ref (gb G + 0)), (1, .int child)] []
  refine v_aload_n C 0 dX9_ring_0 rfl ?_
  refine v_iload_n C 1 dX9_ring_1 rfl ?_
  refine n_callVp C hRm [.int child] cw_X9_noChild ml_X9_84 (by decide) (show shp 0 = 9 from by decide +kernel) (by decide) rfl (c_noChild l G M Y _ _ hR hY child) (by decide) rfl rfl (Nat.le_of_ble_eq_true rfl) dX9_ring_2 ?_
  refine nb_if_eq C 14 dX9_ring_5 rfl (fun h_5 => ?_) (fun h_5 => ?_)
  · skip
    obtain ⟨c, hc, rfl⟩ := is_nat hY.1.1 hY.1.2.1 (Decidable.not_not.mp h_5)
    refine v_aload_n C 0 dX9_ring_14 rfl ?_
    refine g_X9_25 C (by decide) (show shp 0 = 9 from by decide +kernel) dX9_ring_15 ?_
    refine v_aload_n C 0 dX9_ring_18 rfl ?_
    refine g_X9_10 C (by decide) (show shp 0 = 9 from by decide +kernel) dX9_ring_19 ?_
    refine n_callVv C hRm [.ref (gb G + 1)] cw_X1_look ml_X9_207 (by decide) (show shp 184 = 1 from by decide +kernel) (by decide) rfl (f_look l G M 1 (by decide) Y _ _ hR hY hJ.1 hJ.2.1) (by decide) rfl rfl (Nat.le_of_ble_eq_true rfl) dX9_ring_22 (fun Mq1 hP_22 => ?_)
    obtain ⟨hLq1, hFrq1⟩ := hP_22
    have hRq1 := hR.fr (fun a h1 h2 => hLq1 a (by omega))
    have hGq1 := (okG.rf M).fri hLq1
    refine v_aload_n C 0 dX9_ring_25 rfl ?_
    refine g_X9_25 C (by decide) (show shp 0 = 9 from by decide +kernel) dX9_ring_26 ?_
    refine v_iload_n C 1 dX9_ring_29 rfl ?_
    refine n_callVp C hRm [.int (nI c)] cw_X1_ringOf ml_X9_214 (by decide) (show shp 184 = 1 from by decide +kernel) (by decide) rfl (f_ringOf l G Mq1 Y n hn2 hFrq1 c (by omega)) (by decide) rfl rfl (Nat.le_of_ble_eq_true rfl) dX9_ring_30 ?_
    have hS : ringS Y n (nI c) = (0, nI (ringM Y n c), Y) := by unfold ringS; (try rw [nI_clamp (by omega)]); (try rw [nI_clamp (by omega)]); (try rw [nI_clamp (by omega)]); (first | rw [if_neg h_5] | rw [if_pos (Decidable.not_not.mp h_5)] | rw [if_pos h_5] | rw [if_pos (congrArg nI h_5)] | rw [if_neg (fun q9 => h_5 ((nI_eq (by omega) (by omega)).mp q9))] | rw [if_neg (Nat.not_le.mpr h_5)] | rw [if_neg (Nat.not_lt.mpr h_5)] | skip); all_goals rfl
    exact n_iret C hRt (rfl) dX9_ring_33 (by rw [hS] <;> rfl) (by rw [hS]; exact pc_ok hRq1 hGq1)
  · skip
    refine v_aload_n C 0 dX9_ring_8 rfl ?_
    refine v_iconst C (nI 1) dX9_ring_9 (by decide) ?_
    refine n_callVi C hRm [.int (nI 1)] cw_X9_error ml_X9_58 (by decide) (show shp 0 = 9 from by decide +kernel) (by decide) rfl (c_error l G M 1 (by decide)) (by decide) rfl rfl (Nat.le_of_ble_eq_true rfl) dX9_ring_10 (fun M5 hP_10 => ?_)
    subst hP_10
    have hS : ringS Y n child = er 1 Y := by unfold ringS; (try rw [nI_clamp (by omega)]); (try rw [nI_clamp (by omega)]); (try rw [nI_clamp (by omega)]); (first | rw [if_neg h_5] | rw [if_pos (Decidable.not_not.mp h_5)] | rw [if_pos h_5] | rw [if_pos (congrArg nI h_5)] | rw [if_neg (fun q9 => h_5 ((nI_eq (by omega) (by omega)).mp q9))] | rw [if_neg (Nat.not_le.mpr h_5)] | rw [if_neg (Nat.not_lt.mpr h_5)] | skip); all_goals rfl
    exact n_iret C hRt (rfl) dX9_ring_13 (by rw [hS] <;> rfl) (by rw [hS]; exact pc_er hR (okG.rf M) (show (1 : Nat) ≠ 0 by decide))
set_option maxHeartbeats 4000000 in
set_option maxRecDepth 100000 in
theorem x_net (l : Launch) (G : GC) (M : Mm) (Y : Nat → Int32) (n hN : Nat) (hR : YR M 1 Y n hN) (hY : YOk Y n hN) (hI : yI Y n) (hJ : yJ Y n) (what : Int32) : CI l G 4 yX9_net cX9_net 2 .int [.ref (gb G + 0), .int what] M ((netS Y n what).2.1) (PubC M (netS Y n what).2.2 n hN (netS Y n what).1) := by
  refine Con.of (by decide +kernel) (Nat.le_of_ble_eq_true rfl) ?_
  intro f C hRm hRt _
  have hn2 := hY.1.2.1
  have h5 := hY.1.2.2.2
  show Vc f G NPh M 0 [(0, .ref (gb G + 0)), (1, .int what)] []
  refine v_iload_n C 1 dX9_net_0 rfl ?_
  refine v_iconst C (nI 0) dX9_net_1 (by decide) ?_
  refine v_iconst C (nI 3) dX9_net_2 (by decide) ?_
  refine n_callSp C hRm [.int what, .int (nI 0), .int (nI 3)] cw_X9_outside st_X9_outside ml_X9_54 (c_outside l G M what (nI 0) (nI 3)) (by decide) rfl rfl (Nat.le_of_ble_eq_true rfl) dX9_net_3 ?_
  refine nb_if_eq C 15 dX9_net_6 rfl (fun h_6 => ?_) (fun h_6 => ?_)
  · skip
    obtain ⟨q, hq, rfl⟩ := within_nat (by decide) (Decidable.not_not.mp h_6)
    refine v_aload_n C 0 dX9_net_15 rfl ?_
    refine g_X9_25 C (by decide) (show shp 0 = 9 from by decide +kernel) dX9_net_16 ?_
    refine v_aload_n C 0 dX9_net_19 rfl ?_
    refine g_X9_10 C (by decide) (show shp 0 = 9 from by decide +kernel) dX9_net_20 ?_
    refine n_callVv C hRm [.ref (gb G + 1)] cw_X1_look ml_X9_207 (by decide) (show shp 184 = 1 from by decide +kernel) (by decide) rfl (f_look l G M 1 (by decide) Y _ _ hR hY hJ.1 hJ.2.1) (by decide) rfl rfl (Nat.le_of_ble_eq_true rfl) dX9_net_23 (fun Mq1 hP_23 => ?_)
    obtain ⟨hLq1, hFrq1⟩ := hP_23
    have hRq1 := hR.fr (fun a h1 h2 => hLq1 a (by omega))
    have hGq1 := (okG.rf M).fri hLq1
    refine v_iload_n C 1 dX9_net_26 rfl ?_
    rcases (show q = 0 ∨ q = 1 ∨ q = 2 ∨ q = 3 by omega) with h_0 | h_0 | h_0 | h_0
    · subst h_0
      refine v_tableIn (off := 25) C 52 dX9_net_27 (by decide +kernel) (by decide +kernel) (by decide +kernel) rfl ?_
      refine v_aload_n C 0 dX9_net_52 rfl ?_
      refine g_X9_25 C (by decide) (show shp 0 = 9 from by decide +kernel) dX9_net_53 ?_
      refine n_callVp C hRm [] cw_X1_countRings ml_X9_217 (by decide) (show shp 184 = 1 from by decide +kernel) (by decide) rfl (f_countRings l G Mq1 Y n hn2 hFrq1 ) (by decide) rfl rfl (Nat.le_of_ble_eq_true rfl) dX9_net_56 ?_
      have hS : netS Y n (nI 0) = (0, nI (rngA Y n n), Y) := by unfold netS; (rw [if_pos (show nI 0 ≤ nI 0 ∧ nI 0 ≤ nI 3 by decide)]); (rw [if_pos (show nI 0 = 0 by decide)]); (first | rw [if_neg h_6] | rw [if_pos (Decidable.not_not.mp h_6)] | rw [if_pos h_6] | rw [if_pos (congrArg nI h_6)] | rw [if_neg (fun q9 => h_6 ((nI_eq (by omega) (by omega)).mp q9))] | rw [if_neg (Nat.not_le.mpr h_6)] | rw [if_neg (Nat.not_lt.mpr h_6)] | skip); all_goals rfl
      exact n_iret C hRt (rfl) dX9_net_59 (by rw [hS] <;> rfl) (by rw [hS]; exact pc_ok hRq1 hGq1)
    · subst h_0
      refine v_tableIn (off := 33) C 60 dX9_net_27 (by decide +kernel) (by decide +kernel) (by decide +kernel) rfl ?_
      refine v_aload_n C 0 dX9_net_60 rfl ?_
      refine g_X9_25 C (by decide) (show shp 0 = 9 from by decide +kernel) dX9_net_61 ?_
      refine n_callVp C hRm [] cw_X1_countPairs ml_X9_220 (by decide) (show shp 184 = 1 from by decide +kernel) (by decide) rfl (f_countPairs l G Mq1 Y n hn2 hFrq1 ) (by decide) rfl rfl (Nat.le_of_ble_eq_true rfl) dX9_net_64 ?_
      have hS : netS Y n (nI 1) = (0, nI (parA Y n n) / nI 2, Y) := by unfold netS; (rw [if_pos (show nI 0 ≤ nI 1 ∧ nI 1 ≤ nI 3 by decide)]); (rw [if_neg (show ¬ nI 1 = 0 by decide), if_pos (show nI 1 = nI 1 from rfl)]); (first | rw [if_neg h_6] | rw [if_pos (Decidable.not_not.mp h_6)] | rw [if_pos h_6] | rw [if_pos (congrArg nI h_6)] | rw [if_neg (fun q9 => h_6 ((nI_eq (by omega) (by omega)).mp q9))] | rw [if_neg (Nat.not_le.mpr h_6)] | rw [if_neg (Nat.not_lt.mpr h_6)] | skip); all_goals rfl
      exact n_iret C hRt (rfl) dX9_net_67 (by rw [hS] <;> rfl) (by rw [hS]; exact pc_ok hRq1 hGq1)
    · subst h_0
      refine v_tableIn (off := 41) C 68 dX9_net_27 (by decide +kernel) (by decide +kernel) (by decide +kernel) rfl ?_
      refine v_aload_n C 0 dX9_net_68 rfl ?_
      refine g_X9_25 C (by decide) (show shp 0 = 9 from by decide +kernel) dX9_net_69 ?_
      refine n_callVp C hRm [] cw_X1_mostNamed ml_X9_223 (by decide) (show shp 184 = 1 from by decide +kernel) (by decide) rfl (f_mostNamed l G Mq1 Y n hn2 hFrq1 ) (by decide) rfl rfl (Nat.le_of_ble_eq_true rfl) dX9_net_72 ?_
      have hS : netS Y n (nI 2) = (0, mosA Y n n, Y) := by unfold netS; (rw [if_pos (show nI 0 ≤ nI 2 ∧ nI 2 ≤ nI 3 by decide)]); (rw [if_neg (show ¬ nI 2 = 0 by decide), if_neg (show ¬ nI 2 = nI 1 by decide), if_pos (show nI 2 = nI 2 from rfl)]); (first | rw [if_neg h_6] | rw [if_pos (Decidable.not_not.mp h_6)] | rw [if_pos h_6] | rw [if_pos (congrArg nI h_6)] | rw [if_neg (fun q9 => h_6 ((nI_eq (by omega) (by omega)).mp q9))] | rw [if_neg (Nat.not_le.mpr h_6)] | rw [if_neg (Nat.not_lt.mpr h_6)] | skip); all_goals rfl
      exact n_iret C hRt (rfl) dX9_net_75 (by rw [hS] <;> rfl) (by rw [hS]; exact pc_ok hRq1 hGq1)
    · subst h_0
      refine v_tableOut C 76 dX9_net_27 (by first | exact Or.inr (by decide +kernel) | exact Or.inl (by decide +kernel)) rfl ?_
      refine v_aload_n C 0 dX9_net_76 rfl ?_
      refine g_X9_25 C (by decide) (show shp 0 = 9 from by decide +kernel) dX9_net_77 ?_
      refine n_callVp C hRm [] cw_X1_leftOut ml_X9_226 (by decide) (show shp 184 = 1 from by decide +kernel) (by decide) rfl (f_leftOut l G Mq1 Y n hn2 hFrq1 ) (by decide) rfl rfl (Nat.le_of_ble_eq_true rfl) dX9_net_80 ?_
      have hS : netS Y n (nI 3) = (0, nI (outA Y n n), Y) := by unfold netS; (rw [if_pos (show nI 0 ≤ nI 3 ∧ nI 3 ≤ nI 3 by decide)]); (rw [if_neg (show ¬ nI 3 = 0 by decide), if_neg (show ¬ nI 3 = nI 1 by decide), if_neg (show ¬ nI 3 = nI 2 by decide)]); (first | rw [if_neg h_6] | rw [if_pos (Decidable.not_not.mp h_6)] | rw [if_pos h_6] | rw [if_pos (congrArg nI h_6)] | rw [if_neg (fun q9 => h_6 ((nI_eq (by omega) (by omega)).mp q9))] | rw [if_neg (Nat.not_le.mpr h_6)] | rw [if_neg (Nat.not_lt.mpr h_6)] | skip); all_goals rfl
      exact n_iret C hRt (rfl) dX9_net_83 (by rw [hS] <;> rfl) (by rw [hS]; exact pc_ok hRq1 hGq1)
  · skip
    refine v_aload_n C 0 dX9_net_9 rfl ?_
    refine v_iconst C (nI 1) dX9_net_10 (by decide) ?_
    refine n_callVi C hRm [.int (nI 1)] cw_X9_error ml_X9_58 (by decide) (show shp 0 = 9 from by decide +kernel) (by decide) rfl (c_error l G M 1 (by decide)) (by decide) rfl rfl (Nat.le_of_ble_eq_true rfl) dX9_net_11 (fun M5 hP_11 => ?_)
    subst hP_11
    have hS : netS Y n what = er 1 Y := by unfold netS; (try rw [nI_clamp (by omega)]); (try rw [nI_clamp (by omega)]); (try rw [nI_clamp (by omega)]); (first | rw [if_neg h_6] | rw [if_pos (Decidable.not_not.mp h_6)] | rw [if_pos h_6] | rw [if_pos (congrArg nI h_6)] | rw [if_neg (fun q9 => h_6 ((nI_eq (by omega) (by omega)).mp q9))] | rw [if_neg (Nat.not_le.mpr h_6)] | rw [if_neg (Nat.not_lt.mpr h_6)] | skip); all_goals rfl
    exact n_iret C hRt (rfl) dX9_net_14 (by rw [hS] <;> rfl) (by rw [hS]; exact pc_er hR (okG.rf M) (show (1 : Nat) ≠ 0 by decide))
set_option maxHeartbeats 4000000 in
set_option maxRecDepth 100000 in
theorem x_classes (l : Launch) (G : GC) (M : Mm) (Y : Nat → Int32) (n hN : Nat) (hR : YR M 1 Y n hN) (hY : YOk Y n hN) (hI : yI Y n) (hJ : yJ Y n) (what : Int32) : CI l G 3 yX9_classes cX9_classes 3 .int [.ref (gb G + 0), .int what] M ((classesS Y n what).2.1) (PubC M (classesS Y n what).2.2 n hN (classesS Y n what).1) := by
  refine Con.of (by decide +kernel) (Nat.le_of_ble_eq_true rfl) ?_
  intro f C hRm hRt _
  have hn2 := hY.1.2.1
  have h5 := hY.1.2.2.2
  show Vc f G NPh M 0 [(0, .ref (gb G + 0)), (1, .int what)] []
  refine v_iload_n C 1 dX9_classes_0 rfl ?_
  refine v_iconst C (nI 0) dX9_classes_1 (by decide) ?_
  refine v_iconst C (nI 1) dX9_classes_2 (by decide) ?_
  refine n_callSp C hRm [.int what, .int (nI 0), .int (nI 1)] cw_X9_outside st_X9_outside ml_X9_54 (c_outside l G M what (nI 0) (nI 1)) (by decide) rfl rfl (Nat.le_of_ble_eq_true rfl) dX9_classes_3 ?_
  refine nb_if_eq C 15 dX9_classes_6 rfl (fun h_6 => ?_) (fun h_6 => ?_)
  · skip
    refine v_aload_n C 0 dX9_classes_15 rfl ?_
    refine g_X9_10 C (by decide) (show shp 0 = 9 from by decide +kernel) dX9_classes_16 ?_
    refine g_X9_62 C (by decide) (s_y (by decide)) dX9_classes_19 ?_
    refine v_top (nI n) (hR.n) ?_
    refine v_iconst C (nI 2) dX9_classes_22 (by decide) ?_
    refine n_icmp_ge C (by omega) (by omega) 32 dX9_classes_23 rfl (fun h_23 => ?_) (fun h_23 => ?_)
    · skip
      refine v_aload_n C 0 dX9_classes_32 rfl ?_
      refine g_X9_25 C (by decide) (show shp 0 = 9 from by decide +kernel) dX9_classes_33 ?_
      refine v_aload_n C 0 dX9_classes_36 rfl ?_
      refine g_X9_10 C (by decide) (show shp 0 = 9 from by decide +kernel) dX9_classes_37 ?_
      refine n_callVv C hRm [.ref (gb G + 1)] cw_X1_look ml_X9_207 (by decide) (show shp 184 = 1 from by decide +kernel) (by decide) rfl (f_look l G M 1 (by decide) Y _ _ hR hY hJ.1 hJ.2.1) (by decide) rfl rfl (Nat.le_of_ble_eq_true rfl) dX9_classes_40 (fun Mq1 hP_40 => ?_)
      obtain ⟨hLq1, hFrq1⟩ := hP_40
      have hRq1 := hR.fr (fun a h1 h2 => hLq1 a (by omega))
      have hGq1 := (okG.rf M).fri hLq1
      refine v_aload_n C 0 dX9_classes_43 rfl ?_
      refine g_X9_25 C (by decide) (show shp 0 = 9 from by decide +kernel) dX9_classes_44 ?_
      refine n_callVp C hRm [] cw_X1_secondClass ml_X9_237 (by decide) (show shp 184 = 1 from by decide +kernel) (by decide) rfl (f_secondClass l G Mq1 Y n hn2 hFrq1 h_23) (by decide) rfl rfl (Nat.le_of_ble_eq_true rfl) dX9_classes_47 ?_
      refine v_istore_n C [(2, .int (cv (clA Y n (2 ^ n / 2)).1)), (0, .ref (gb G + 0)), (1, .int what)] dX9_classes_50 rfl (by decide) rfl ?_
      refine v_iload_n C 2 dX9_classes_51 rfl ?_
      refine v_if_ne C 59 dX9_classes_52 rfl (fun h_52 => ?_) (fun h_52 => ?_)
      · skip
        refine v_aload_n C 1 dX9_classes_59 rfl ?_
        refine g_X9_25 C (by decide) (show shp 0 = 9 from by decide +kernel) dX9_classes_60 ?_
        refine v_iload_n C 0 dX9_classes_63 rfl ?_
        have hce := cl_ex (Y := Y) hn2 h_23
        have hcl := (clA_le Y n (2 ^ n / 2) (by have := pow_n n hn2; omega)).1
        refine v_top (nI (clA Y n (2 ^ n / 2)).1) (cv_lt (by omega)) ?_
        refine n_callVp C hRm [.int (nI ((clA Y n (2 ^ n / 2)).1))] cw_X1_countLonely ml_X9_240 (by decide) (show shp 184 = 1 from by decide +kernel) (by decide) rfl (f_countLonely l G Mq1 Y n hn2 hFrq1 ((clA Y n (2 ^ n / 2)).1) (by omega)) (by decide) rfl rfl (Nat.le_of_ble_eq_true rfl) dX9_classes_64 ?_
        have hS : classesS Y n what = (0, nI (lonA Y n ((clA Y n (2 ^ n / 2)).1) n), Y) := by unfold classesS; (first | rw [if_neg h_6] | rw [if_pos (Decidable.not_not.mp h_6)] | rw [if_pos h_6] | rw [if_pos (congrArg nI h_6)] | rw [if_neg (fun q9 => h_6 ((nI_eq (by omega) (by omega)).mp q9))] | rw [if_neg (Nat.not_le.mpr h_6)] | rw [if_neg (Nat.not_lt.mpr h_6)] | skip); (first | rw [if_neg h_23] | rw [if_pos (Decidable.not_not.mp h_23)] | rw [if_pos h_23] | rw [if_pos (congrArg nI h_23)] | rw [if_neg (fun q9 => h_23 ((nI_eq (by omega) (by omega)).mp q9))] | rw [if_neg (Nat.not_le.mpr h_23)] | rw [if_neg (Nat.not_lt.mpr h_23)] | skip); (first | rw [if_neg h_52] | rw [if_pos (Decidable.not_not.mp h_52)] | rw [if_pos h_52] | rw [if_pos (congrArg nI h_52)] | rw [if_neg (fun q9 => h_52 ((nI_eq (by omega) (by omega)).mp q9))] | rw [if_neg (Nat.not_le.mpr h_52)] | rw [if_neg (Nat.not_lt.mpr h_52)] | skip); rw [cl_val _ hce]; all_goals rfl
        exact n_iret C hRt (rfl) dX9_classes_67 (by rw [hS] <;> rfl) (by rw [hS]; exact pc_ok hRq1 hGq1)
      · skip
        refine v_iload_n C 0 dX9_classes_55 rfl ?_
        refine v_goto C 67 dX9_classes_56 rfl ?_
        have hS : classesS Y n what = (0, cv (clA Y n (2 ^ n / 2)).1, Y) := by unfold classesS; (first | rw [if_neg h_6] | rw [if_pos (Decidable.not_not.mp h_6)] | rw [if_pos h_6] | rw [if_pos (congrArg nI h_6)] | rw [if_neg (fun q9 => h_6 ((nI_eq (by omega) (by omega)).mp q9))] | rw [if_neg (Nat.not_le.mpr h_6)] | rw [if_neg (Nat.not_lt.mpr h_6)] | skip); (first | rw [if_neg h_23] | rw [if_pos (Decidable.not_not.mp h_23)] | rw [if_pos h_23] | rw [if_pos (congrArg nI h_23)] | rw [if_neg (fun q9 => h_23 ((nI_eq (by omega) (by omega)).mp q9))] | rw [if_neg (Nat.not_le.mpr h_23)] | rw [if_neg (Nat.not_lt.mpr h_23)] | skip); (first | rw [if_neg h_52] | rw [if_pos (Decidable.not_not.mp h_52)] | rw [if_pos h_52] | rw [if_pos (congrArg nI h_52)] | rw [if_neg (fun q9 => h_52 ((nI_eq (by omega) (by omega)).mp q9))] | rw [if_neg (Nat.not_le.mpr h_52)] | rw [if_neg (Nat.not_lt.mpr h_52)] | skip); all_goals rfl
        exact n_iret C hRt (rfl) dX9_classes_67 (by rw [hS] <;> rfl) (by rw [hS]; exact pc_ok hRq1 hGq1)
    · skip
      refine v_aload_n C 0 dX9_classes_26 rfl ?_
      refine v_iconst C (nI 2) dX9_classes_27 (by decide) ?_
      refine n_callVi C hRm [.int (nI 2)] cw_X9_error ml_X9_58 (by decide) (show shp 0 = 9 from by decide +kernel) (by decide) rfl (c_error l G M 2 (by decide)) (by decide) rfl rfl (Nat.le_of_ble_eq_true rfl) dX9_classes_28 (fun M5 hP_28 => ?_)
      subst hP_28
      have hS : classesS Y n what = er 2 Y := by unfold classesS; (first | rw [if_neg h_6] | rw [if_pos (Decidable.not_not.mp h_6)] | rw [if_pos h_6] | rw [if_pos (congrArg nI h_6)] | rw [if_neg (fun q9 => h_6 ((nI_eq (by omega) (by omega)).mp q9))] | rw [if_neg (Nat.not_le.mpr h_6)] | rw [if_neg (Nat.not_lt.mpr h_6)] | skip); (first | rw [if_neg h_23] | rw [if_pos (Decidable.not_not.mp h_23)] | rw [if_pos h_23] | rw [if_pos (congrArg nI h_23)] | rw [if_neg (fun q9 => h_23 ((nI_eq (by omega) (by omega)).mp q9))] | rw [if_neg (Nat.not_le.mpr h_23)] | rw [if_neg (Nat.not_lt.mpr h_23)] | skip); all_goals rfl
      exact n_iret C hRt (rfl) dX9_classes_31 (by rw [hS] <;> rfl) (by rw [hS]; exact pc_er hR (okG.rf M) (show (2 : Nat) ≠ 0 by decide))
  · skip
    refine v_aload_n C 0 dX9_classes_9 rfl ?_
    refine v_iconst C (nI 1) dX9_classes_10 (by decide) ?_
    refine n_callVi C hRm [.int (nI 1)] cw_X9_error ml_X9_58 (by decide) (show shp 0 = 9 from by decide +kernel) (by decide) rfl (c_error l G M 1 (by decide)) (by decide) rfl rfl (Nat.le_of_ble_eq_true rfl) dX9_classes_11 (fun M5 hP_11 => ?_)
    subst hP_11
    have hS : classesS Y n what = er 1 Y := by unfold classesS; (first | rw [if_neg h_6] | rw [if_pos (Decidable.not_not.mp h_6)] | rw [if_pos h_6] | rw [if_pos (congrArg nI h_6)] | rw [if_neg (fun q9 => h_6 ((nI_eq (by omega) (by omega)).mp q9))] | rw [if_neg (Nat.not_le.mpr h_6)] | rw [if_neg (Nat.not_lt.mpr h_6)] | skip); all_goals rfl
    exact n_iret C hRt (rfl) dX9_classes_14 (by rw [hS] <;> rfl) (by rw [hS]; exact pc_er hR (okG.rf M) (show (1 : Nat) ≠ 0 by decide))
theorem minC_hi (Y : Nat → Int32) {n hN : Nat} (hY : YOk Y n hN) {i : Nat} (hi : ∀ c, c < n → i ≠ 7 + 6 * c + 4 ∧ i ≠ 7 + 6 * c + 5 ∧ ¬ (187 + 5 * c ≤ i ∧ i < 187 + 5 * c + 5)) (hf : ¬ (167 ≤ i ∧ i < 187 ∧ (i - 167) % 4 = 3)) (h6 : i ≠ 6) : ∀ c, c ≤ n → minC Y n hN c i = Y i
  | 0, _ => rfl
  | c + 1, hc => by
    have hk := yk_minC hY c (by omega)
    have hn := hk.1.2.1
    have h5 := hk.1.2.2.2
    have ih := minC_hi Y hY hi hf h6 c (by omega)
    have h1 := hi c (by omega)
    have g2 : ∀ k, k < hN → lY2 (minC Y n hN c) c k i = Y i := fun k hk2 => (l2_ap _ c k h6 (by omega)).trans ih
    rw [minC_try]
    split
    · exact ih
    · rcases bst_cases (minC Y n hN c) n c hN with hb | ⟨k, hk2, hb⟩
      · rw [try_w hb, upd_ne _ _ (by omega)]; exact ih
      · by_cases hq : remS (ush8 (zN (lY1 (minC Y n hN c) c k))) (nI 100) < chS (lY1 (minC Y n hN c) c k) n k c
        · rw [try_in (by omega) hb hq, goes_ap _ _ hn (by omega) h5, if_neg (by omega), if_neg (by omega), if_neg (by omega)]; exact g2 k hk2
        · rw [try_no (by omega) hb hq, upd_ne _ _ (by omega)]; exact g2 k hk2
theorem falC_hi {Z : Nat → Int32} {n hN : Nat} (hY : YOk Z n hN) (m : Nat) {i : Nat} (hi : ∀ c, c < n → i ≠ 7 + 6 * c + 4 ∧ ¬ (187 + 5 * c ≤ i ∧ i < 187 + 5 * c + 5)) (hf : ¬ (167 ≤ i ∧ i < 187 ∧ (i - 167) % 4 = 3)) : ∀ c, c ≤ n → falC Z n hN m c i = Z i
  | 0, _ => rfl
  | c + 1, hc => by
    have hk := yk_falC hY m c (by omega)
    have hn := hk.1.2.1
    have h5 := hk.1.2.2.2
    have ih := falC_hi hY m hi hf c (by omega)
    have h1 := hi c (by omega)
    unfold falC
    split
    · rw [goes_ap _ _ hn (by omega) h5, if_neg (by omega), if_neg (by omega), if_neg (by omega)]; exact ih
    · exact ih
theorem minH_hi {Z : Nat → Int32} {n hN : Nat} (hY : YOk Z n hN) {i : Nat} (hi : ∀ c, c < n → i ≠ 7 + 6 * c + 4 ∧ ¬ (187 + 5 * c ≤ i ∧ i < 187 + 5 * c + 5)) (hf : ¬ (167 ≤ i ∧ i < 187 ∧ (i - 167) % 4 = 3)) : ∀ h, h ≤ hN → minH Z n hN h i = Z i
  | 0, _ => rfl
  | h + 1, hh => by
    have hk := yk_minH hY h (by omega)
    have h5 := hk.1.2.2.2
    have ih := minH_hi hY hi hf h (by omega)
    have e : fewN (minH Z n hN h) n h i = Z i := (upd_ne _ _ (by omega)).trans ih
    rw [minH_wear]
    unfold wearS
    split
    · unfold fallS
      rw [upd_ne _ _ (by omega), falC_hi (yk_fewN hk (by omega)) _ hi hf n (Nat.le_refl _)]; exact e
    · exact e
theorem minute_hi {Y : Nat → Int32} {n hN : Nat} (hY : YOk Y n hN) {i : Nat} (hi : ∀ c, c < n → i ≠ 7 + 6 * c + 4 ∧ i ≠ 7 + 6 * c + 5 ∧ ¬ (187 + 5 * c ≤ i ∧ i < 187 + 5 * c + 5)) (hf : ¬ (167 ≤ i ∧ i < 187 ∧ (i - 167) % 4 = 3)) (h6 : i ≠ 6) (h2 : i ≠ 2) : minuteS Y n hN i = Y i := by
  unfold minuteS
  rw [upd_ne _ _ h2, minH_hi (yk_minC hY n (Nat.le_refl _)) (fun c hc => ⟨(hi c hc).1, (hi c hc).2.2⟩) hf hN (Nat.le_refl _)]
  exact minC_hi Y hY hi hf h6 n (Nat.le_refl _)
/-- what minutes leave as it was -/
theorem pass_hi {Y : Nat → Int32} {n hN : Nat} (hY : YOk Y n hN) {i : Nat} (hi : ∀ c, c < n → i ≠ 7 + 6 * c + 4 ∧ i ≠ 7 + 6 * c + 5 ∧ ¬ (187 + 5 * c ≤ i ∧ i < 187 + 5 * c + 5)) (hf : ¬ (167 ≤ i ∧ i < 187 ∧ (i - 167) % 4 = 3)) (h6 : i ≠ 6) (h2 : i ≠ 2) : ∀ k, passS Y n hN k i = Y i
  | 0 => rfl
  | k + 1 => by
    show minuteS (passS Y n hN k) n hN i = Y i
    rw [minute_hi (yk_pass hY k) hi hf h6 h2]
    exact pass_hi hY hi hf h6 h2 k
theorem yJ.to {Y Y' : Nat → Int32} {n : Nat} (h : yJ Y n) (hm : ∀ c, c < n → Y' (7 + 6 * c + 3) = Y (7 + 6 * c + 3)) (hs : ∀ c, c < 10 → Y' (67 + 10 * c + c) = Y (67 + 10 * c + c)) (ha : ∀ c, n ≤ c → c < 10 → Y' (7 + 6 * c + 5) = Y (7 + 6 * c + 5)) (ht : ∀ i, i = 4 ∨ 237 ≤ i → Y' i = Y i) : yJ Y' n := by
  refine ⟨fun c hc => by rw [hm c hc]; exact h.1 c hc, fun c hc => by rw [hs c hc]; exact h.2.1 c hc, fun c h1 h2 => by rw [ha c h1 h2]; exact h.2.2.1 c h1 h2, fun k hk => ?_, fun k hk => ?_⟩
  · rw [cN_eq (ht 4 (by omega))] at hk
    rw [ht _ (by omega)]; exact h.2.2.2.1 k hk
  · rw [cN_eq (ht _ (by omega))] at hk
    rw [cN_eq (ht _ (by omega))]; exact h.2.2.2.2 k hk
theorem yj_pass {Y : Nat → Int32} {n hN : Nat} (hY : YOk Y n hN) (h : yJ Y n) (k : Nat) : yJ (passS Y n hN k) n := by
  have hn := hY.1.2.1
  exact h.to (fun c hc => pass_hi hY (fun d hd => ⟨by omega, by omega, by omega⟩) (by omega) (by omega) (by omega) k) (fun c hc => pass_hi hY (fun d hd => ⟨by omega, by omega, by omega⟩) (by omega) (by omega) (by omega) k) (fun c h1 h2 => pass_hi hY (fun d hd => ⟨by omega, by omega, by omega⟩) (by omega) (by omega) (by omega) k) (fun i hi => pass_hi hY (fun d hd => ⟨by omega, by omega, by omega⟩) (by omega) (by omega) (by omega) k)
set_option maxHeartbeats 4000000 in
set_option maxRecDepth 100000 in
theorem x_sorrow (l : Launch) (G : GC) (M : Mm) (Y : Nat → Int32) (n hN : Nat) (hR : YR M 1 Y n hN) (hY : YOk Y n hN) (hI : yI Y n) (hJ : yJ Y n) (k : Int32) : CI l G 8 yX9_sorrow cX9_sorrow 2 .int [.ref (gb G + 0), .int k] M ((sorrowS Y n hN k).2.1) (PubC M (sorrowS Y n hN k).2.2 n hN (sorrowS Y n hN k).1) := by
  refine Con.of (by decide +kernel) (Nat.le_of_ble_eq_true rfl) ?_
  intro f C hRm hRt _
  have hn2 := hY.1.2.1
  have h5 := hY.1.2.2.2
  show Vc f G NPh M 0 [(0, .ref (gb G + 0)), (1, .int k)] []
  refine v_iload_n C 1 dX9_sorrow_0 rfl ?_
  refine n_callSp C hRm [.int k] cw_X9_notAhead st_X9_notAhead ml_X9_229 (c_notAhead l G M k) (by decide) rfl rfl (Nat.le_of_ble_eq_true rfl) dX9_sorrow_1 ?_
  refine nb_if_eq C 13 dX9_sorrow_4 rfl (fun h_4 => ?_) (fun h_4 => ?_)
  · skip
    obtain ⟨j, hj, rfl⟩ := within_nat (by decide) (Decidable.not_not.mp h_4)
    refine v_aload_n C 0 dX9_sorrow_13 rfl ?_
    refine g_X9_16 C (by decide) (show shp 0 = 9 from by decide +kernel) dX9_sorrow_14 ?_
    refine v_aload_n C 0 dX9_sorrow_17 rfl ?_
    refine g_X9_10 C (by decide) (show shp 0 = 9 from by decide +kernel) dX9_sorrow_18 ?_
    refine n_callVv C hRm [.ref (gb G + 1)] cw_X8_takeFrom ml_X9_232 (by decide) (s_y (by decide)) (by decide) rfl (y_take l G M 62 1 (by decide) (by decide) (by decide) Y _ _ hR hY) (by decide) rfl rfl (Nat.le_of_ble_eq_true rfl) dX9_sorrow_21 (fun Mq1 hP_21 => ?_)
    obtain ⟨hRq1, hFq1⟩ := hP_21
    have hRq1o := hR.fr (fun a h1 h2 => hFq1 a (by omega))
    have hGq1 := (okG.rf M).tr hFq1
    refine v_aload_n C 0 dX9_sorrow_24 rfl ?_
    refine g_X9_16 C (by decide) (show shp 0 = 9 from by decide +kernel) dX9_sorrow_25 ?_
    refine v_iload_n C 1 dX9_sorrow_28 rfl ?_
    refine n_callVv C hRm [.int (nI j)] cw_X8_pass ml_X9_192 (by decide) (s_y (by decide)) (by decide) rfl (y_pass l G Mq1 62 (by decide) Y _ _ hRq1 hY hI j (by omega)) (by decide) rfl rfl (Nat.le_of_ble_eq_true rfl) dX9_sorrow_29 (fun Mq2 hP_29 => ?_)
    obtain ⟨hRq2, hFq2⟩ := hP_29
    have hRq2o := hRq1o.fr (fun a h1 h2 => hFq2 a (by omega))
    have hGq2 := hGq1.tr hFq2
    refine v_aload_n C 0 dX9_sorrow_32 rfl ?_
    refine g_X9_16 C (by decide) (show shp 0 = 9 from by decide +kernel) dX9_sorrow_33 ?_
    refine n_callVp C hRm [] cw_X8_grief ml_X9_195 (by decide) (s_y (by decide)) (by decide) rfl (y_grief l G Mq2 62 (by decide) (passS Y n hN j) _ _ hRq2 (yk_pass hY j)  ) (by decide) rfl rfl (Nat.le_of_ble_eq_true rfl) dX9_sorrow_36 ?_
    have hS : sorrowS Y n hN (nI j) = (0, sorA (passS Y n hN j) n, Y) := by unfold sorrowS; (try rw [nI_clamp (by omega)]); (try rw [nI_clamp (by omega)]); (try rw [nI_clamp (by omega)]); (first | rw [if_neg h_4] | rw [if_pos (Decidable.not_not.mp h_4)] | rw [if_pos h_4] | rw [if_pos (congrArg nI h_4)] | rw [if_neg (fun q9 => h_4 ((nI_eq (by omega) (by omega)).mp q9))] | rw [if_neg (Nat.not_le.mpr h_4)] | rw [if_neg (Nat.not_lt.mpr h_4)] | skip); all_goals rfl
    exact n_iret C hRt (rfl) dX9_sorrow_39 (by rw [hS] <;> rfl) (by rw [hS]; exact pc_ok hRq2o hGq2)
  · skip
    refine v_aload_n C 0 dX9_sorrow_7 rfl ?_
    refine v_iconst C (nI 1) dX9_sorrow_8 (by decide) ?_
    refine n_callVi C hRm [.int (nI 1)] cw_X9_error ml_X9_58 (by decide) (show shp 0 = 9 from by decide +kernel) (by decide) rfl (c_error l G M 1 (by decide)) (by decide) rfl rfl (Nat.le_of_ble_eq_true rfl) dX9_sorrow_9 (fun M5 hP_9 => ?_)
    subst hP_9
    have hS : sorrowS Y n hN k = er 1 Y := by unfold sorrowS; (try rw [nI_clamp (by omega)]); (try rw [nI_clamp (by omega)]); (try rw [nI_clamp (by omega)]); (first | rw [if_neg h_4] | rw [if_pos (Decidable.not_not.mp h_4)] | rw [if_pos h_4] | rw [if_pos (congrArg nI h_4)] | rw [if_neg (fun q9 => h_4 ((nI_eq (by omega) (by omega)).mp q9))] | rw [if_neg (Nat.not_le.mpr h_4)] | rw [if_neg (Nat.not_lt.mpr h_4)] | skip); all_goals rfl
    exact n_iret C hRt (rfl) dX9_sorrow_12 (by rw [hS] <;> rfl) (by rw [hS]; exact pc_er hR (okG.rf M) (show (1 : Nat) ≠ 0 by decide))
set_option maxHeartbeats 4000000 in
set_option maxRecDepth 100000 in
theorem x_then (l : Launch) (G : GC) (M : Mm) (Y : Nat → Int32) (n hN : Nat) (hR : YR M 1 Y n hN) (hY : YOk Y n hN) (hI : yI Y n) (hJ : yJ Y n) (k child what : Int32) : CI l G 8 yX9_then cX9_then 4 .int [.ref (gb G + 0), .int k, .int child, .int what] M ((thenS Y n hN k child what).2.1) (PubC M (thenS Y n hN k child what).2.2 n hN (thenS Y n hN k child what).1) := by
  refine Con.of (by decide +kernel) (Nat.le_of_ble_eq_true rfl) ?_
  intro f C hRm hRt _
  have hn2 := hY.1.2.1
  have h5 := hY.1.2.2.2
  show Vc f G NPh M 0 [(0, .ref (gb G + 0)), (1, .int k), (2, .int child), (3, .int what)] []
  refine v_iload_n C 1 dX9_then_0 rfl ?_
  refine n_callSp C hRm [.int k] cw_X9_notAhead st_X9_notAhead ml_X9_229 (c_notAhead l G M k) (by decide) rfl rfl (Nat.le_of_ble_eq_true rfl) dX9_then_1 ?_
  refine nb_if_ne C 25 dX9_then_4 rfl (fun h_4 => ?_) (fun h_4 => ?_)
  · skip
    refine v_aload_n C 0 dX9_then_25 rfl ?_
    refine v_iconst C (nI 1) dX9_then_26 (by decide) ?_
    refine n_callVi C hRm [.int (nI 1)] cw_X9_error ml_X9_58 (by decide) (show shp 0 = 9 from by decide +kernel) (by decide) rfl (c_error l G M 1 (by decide)) (by decide) rfl rfl (Nat.le_of_ble_eq_true rfl) dX9_then_27 (fun M5 hP_27 => ?_)
    subst hP_27
    have hS : thenS Y n hN k child what = er 1 Y := by unfold thenS; (try rw [nI_clamp (by omega)]); (try rw [nI_clamp (by omega)]); (try rw [nI_clamp (by omega)]); (first | rw [if_neg h_4] | rw [if_pos (Decidable.not_not.mp h_4)] | rw [if_pos h_4] | rw [if_pos (congrArg nI h_4)] | rw [if_neg (fun q9 => h_4 ((nI_eq (by omega) (by omega)).mp q9))] | rw [if_neg (Nat.not_le.mpr h_4)] | rw [if_neg (Nat.not_lt.mpr h_4)] | skip); all_goals rfl
    exact n_iret C hRt (rfl) dX9_then_30 (by rw [hS] <;> rfl) (by rw [hS]; exact pc_er hR (okG.rf M) (show (1 : Nat) ≠ 0 by decide))
  · skip
    obtain ⟨j, hj, rfl⟩ := within_nat (by decide) (Decidable.not_not.mp h_4)
    refine v_aload_n C 0 dX9_then_7 rfl ?_
    refine v_iload_n C 2 dX9_then_8 rfl ?_
    refine n_callVp C hRm [.int child] cw_X9_noChild ml_X9_84 (by decide) (show shp 0 = 9 from by decide +kernel) (by decide) rfl (c_noChild l G M Y _ _ hR hY child) (by decide) rfl rfl (Nat.le_of_ble_eq_true rfl) dX9_then_9 ?_
    refine nb_if_ne C 25 dX9_then_12 rfl (fun h_12 => ?_) (fun h_12 => ?_)
    · skip
      refine v_aload_n C 0 dX9_then_25 rfl ?_
      refine v_iconst C (nI 1) dX9_then_26 (by decide) ?_
      refine n_callVi C hRm [.int (nI 1)] cw_X9_error ml_X9_58 (by decide) (show shp 0 = 9 from by decide +kernel) (by decide) rfl (c_error l G M 1 (by decide)) (by decide) rfl rfl (Nat.le_of_ble_eq_true rfl) dX9_then_27 (fun M5 hP_27 => ?_)
      subst hP_27
      have hS : thenS Y n hN (nI j) child what = er 1 Y := by unfold thenS; (try rw [nI_clamp (by omega)]); (try rw [nI_clamp (by omega)]); (try rw [nI_clamp (by omega)]); (first | rw [if_neg h_4] | rw [if_pos (Decidable.not_not.mp h_4)] | rw [if_pos h_4] | rw [if_pos (congrArg nI h_4)] | rw [if_neg (fun q9 => h_4 ((nI_eq (by omega) (by omega)).mp q9))] | rw [if_neg (Nat.not_le.mpr h_4)] | rw [if_neg (Nat.not_lt.mpr h_4)] | skip); (first | rw [if_neg h_12] | rw [if_pos (Decidable.not_not.mp h_12)] | rw [if_pos h_12] | rw [if_pos (congrArg nI h_12)] | rw [if_neg (fun q9 => h_12 ((nI_eq (by omega) (by omega)).mp q9))] | rw [if_neg (Nat.not_le.mpr h_12)] | rw [if_neg (Nat.not_lt.mpr h_12)] | skip); all_goals rfl
      exact n_iret C hRt (rfl) dX9_then_30 (by rw [hS] <;> rfl) (by rw [hS]; exact pc_er hR (okG.rf M) (show (1 : Nat) ≠ 0 by decide))
    · skip
      obtain ⟨c, hc, rfl⟩ := is_nat hY.1.1 hY.1.2.1 (Decidable.not_not.mp h_12)
      refine v_iload_n C 3 dX9_then_15 rfl ?_
      refine v_iconst C (nI 0) dX9_then_16 (by decide) ?_
      refine v_bipush C (nI 7) dX9_then_17 (by decide) ?_
      refine n_callSp C hRm [.int what, .int (nI 0), .int (nI 7)] cw_X9_outside st_X9_outside ml_X9_54 (c_outside l G M what (nI 0) (nI 7)) (by decide) rfl rfl (Nat.le_of_ble_eq_true rfl) dX9_then_19 ?_
      refine nb_if_eq C 31 dX9_then_22 rfl (fun h_22 => ?_) (fun h_22 => ?_)
      · skip
        obtain ⟨q, hq, rfl⟩ := within_nat (by decide) (Decidable.not_not.mp h_22)
        refine v_aload_n C 0 dX9_then_31 rfl ?_
        refine g_X9_16 C (by decide) (show shp 0 = 9 from by decide +kernel) dX9_then_32 ?_
        refine v_aload_n C 0 dX9_then_35 rfl ?_
        refine g_X9_10 C (by decide) (show shp 0 = 9 from by decide +kernel) dX9_then_36 ?_
        refine n_callVv C hRm [.ref (gb G + 1)] cw_X8_takeFrom ml_X9_232 (by decide) (s_y (by decide)) (by decide) rfl (y_take l G M 62 1 (by decide) (by decide) (by decide) Y _ _ hR hY) (by decide) rfl rfl (Nat.le_of_ble_eq_true rfl) dX9_then_39 (fun Mq1 hP_39 => ?_)
        obtain ⟨hRq1, hFq1⟩ := hP_39
        have hRq1o := hR.fr (fun a h1 h2 => hFq1 a (by omega))
        have hGq1 := (okG.rf M).tr hFq1
        refine v_aload_n C 0 dX9_then_42 rfl ?_
        refine g_X9_16 C (by decide) (show shp 0 = 9 from by decide +kernel) dX9_then_43 ?_
        refine v_iload_n C 1 dX9_then_46 rfl ?_
        refine n_callVv C hRm [.int (nI j)] cw_X8_pass ml_X9_192 (by decide) (s_y (by decide)) (by decide) rfl (y_pass l G Mq1 62 (by decide) Y _ _ hRq1 hY hI j (by omega)) (by decide) rfl rfl (Nat.le_of_ble_eq_true rfl) dX9_then_47 (fun Mq2 hP_47 => ?_)
        obtain ⟨hRq2, hFq2⟩ := hP_47
        have hRq2o := hRq1o.fr (fun a h1 h2 => hFq2 a (by omega))
        have hGq2 := hGq1.tr hFq2
        refine v_aload_n C 0 dX9_then_50 rfl ?_
        refine v_aload_n C 0 dX9_then_51 rfl ?_
        refine g_X9_16 C (by decide) (show shp 0 = 9 from by decide +kernel) dX9_then_52 ?_
        refine v_iload_n C 2 dX9_then_55 rfl ?_
        refine v_iload_n C 3 dX9_then_56 rfl ?_
        refine n_callVi C hRm [.ref (gb G + 62), .int (nI c), .int (nI q)] cw_X9_ofChild ml_X9_88 (by decide) (show shp 0 = 9 from by decide +kernel) (by decide) rfl (c_ofChild l G Mq2 62 (by decide) (passS Y n hN j) _ _ hRq2 (yk_pass hY j) ((yj_pass hY hJ j).1) ((yj_pass hY hJ j).2.1) c q (by omega) (by omega)) (by decide) rfl rfl (Nat.le_of_ble_eq_true rfl) dX9_then_57 (fun Mq3 hP_57 => ?_)
        have hLq3 : frF Mq2 Mq3 := hP_57
        have hRq3x1 := hRq2o.fr (fun a h1 h2 => hLq3 a (by omega))
        have hRq3x62 := hRq2.fr (fun a h1 h2 => hLq3 a (by omega))
        have hGq3 := hGq2.fri hLq3
        have hS : thenS Y n hN (nI j) (nI c) (nI q) = (0, toldS (passS Y n hN j) n c q, Y) := by unfold thenS; (try rw [nI_clamp (by omega)]); (try rw [nI_clamp (by omega)]); (try rw [nI_clamp (by omega)]); (first | rw [if_neg h_4] | rw [if_pos (Decidable.not_not.mp h_4)] | rw [if_pos h_4] | rw [if_pos (congrArg nI h_4)] | rw [if_neg (fun q9 => h_4 ((nI_eq (by omega) (by omega)).mp q9))] | rw [if_neg (Nat.not_le.mpr h_4)] | rw [if_neg (Nat.not_lt.mpr h_4)] | skip); (first | rw [if_neg h_12] | rw [if_pos (Decidable.not_not.mp h_12)] | rw [if_pos h_12] | rw [if_pos (congrArg nI h_12)] | rw [if_neg (fun q9 => h_12 ((nI_eq (by omega) (by omega)).mp q9))] | rw [if_neg (Nat.not_le.mpr h_12)] | rw [if_neg (Nat.not_lt.mpr h_12)] | skip); (first | rw [if_neg h_22] | rw [if_pos (Decidable.not_not.mp h_22)] | rw [if_pos h_22] | rw [if_pos (congrArg nI h_22)] | rw [if_neg (fun q9 => h_22 ((nI_eq (by omega) (by omega)).mp q9))] | rw [if_neg (Nat.not_le.mpr h_22)] | rw [if_neg (Nat.not_lt.mpr h_22)] | skip); all_goals rfl
        exact n_iret C hRt (rfl) dX9_then_60 (by rw [hS] <;> rfl) (by rw [hS]; exact pc_ok hRq3x1 hGq3)
      · skip
        refine v_aload_n C 0 dX9_then_25 rfl ?_
        refine v_iconst C (nI 1) dX9_then_26 (by decide) ?_
        refine n_callVi C hRm [.int (nI 1)] cw_X9_error ml_X9_58 (by decide) (show shp 0 = 9 from by decide +kernel) (by decide) rfl (c_error l G M 1 (by decide)) (by decide) rfl rfl (Nat.le_of_ble_eq_true rfl) dX9_then_27 (fun M5 hP_27 => ?_)
        subst hP_27
        have hS : thenS Y n hN (nI j) (nI c) what = er 1 Y := by unfold thenS; (try rw [nI_clamp (by omega)]); (try rw [nI_clamp (by omega)]); (try rw [nI_clamp (by omega)]); (first | rw [if_neg h_4] | rw [if_pos (Decidable.not_not.mp h_4)] | rw [if_pos h_4] | rw [if_pos (congrArg nI h_4)] | rw [if_neg (fun q9 => h_4 ((nI_eq (by omega) (by omega)).mp q9))] | rw [if_neg (Nat.not_le.mpr h_4)] | rw [if_neg (Nat.not_lt.mpr h_4)] | skip); (first | rw [if_neg h_12] | rw [if_pos (Decidable.not_not.mp h_12)] | rw [if_pos h_12] | rw [if_pos (congrArg nI h_12)] | rw [if_neg (fun q9 => h_12 ((nI_eq (by omega) (by omega)).mp q9))] | rw [if_neg (Nat.not_le.mpr h_12)] | rw [if_neg (Nat.not_lt.mpr h_12)] | skip); (first | rw [if_neg h_22] | rw [if_pos (Decidable.not_not.mp h_22)] | rw [if_pos h_22] | rw [if_pos (congrArg nI h_22)] | rw [if_neg (fun q9 => h_22 ((nI_eq (by omega) (by omega)).mp q9))] | rw [if_neg (Nat.not_le.mpr h_22)] | rw [if_neg (Nat.not_lt.mpr h_22)] | skip); all_goals rfl
        exact n_iret C hRt (rfl) dX9_then_30 (by rw [hS] <;> rfl) (by rw [hS]; exact pc_er hR (okG.rf M) (show (1 : Nat) ≠ 0 by decide))
