theorem within_nat2 {x : Int32} {lo k : Nat} (hlo : lo ≤ k) (hk : k < 2 ^ 31) (h : nI lo ≤ x ∧ x ≤ nI k) : ∃ j, (lo ≤ j ∧ j ≤ k) ∧ x = nI j := by
  obtain ⟨j, h1, h2⟩ := within_nat hk ⟨Int32.le_trans (nI_le (Nat.zero_le lo) (by omega)) h.1, h.2⟩
  subst h2
  exact ⟨j, ⟨(nI_leI (by omega) (by omega)).mp h.1, h1⟩, rfl⟩
set_option maxHeartbeats 4000000 in
set_option maxRecDepth 100000 in
theorem r_join (l : Launch) (G : GC) (M : Mm) (Y : Nat → Int32) (n hN : Nat) (hY : YOk Y n hN) (child heap : Int32) : CI l G 5 yX10_join cX10_join 3 .int [.ref (gb G + 205), .int child, .int heap] (upA M 206 Y) ((joinS Y n hN child heap).2.1) (PubR M (joinS Y n hN child heap).2.2 (joinS Y n hN child heap).1) := by
  refine Con.of (by decide +kernel) (Nat.le_of_ble_eq_true rfl) ?_
  intro f C hRm hRt _
  show Vc f G NPh (upA M 206 Y) 0 [(0, .ref (gb G + 205)), (1, .int child), (2, .int heap)] []
  have h10 := hY.1.2.1
  have h5N := hY.1.2.2.2
  refine v_aload_n C 0 dX10_join_0 rfl ?_
  refine v_iload_n C 1 dX10_join_1 rfl ?_
  refine v_iconst C (nI 0) dX10_join_2 (by decide) ?_
  refine n_callVp C hRm [.int child, .int (nI 0)] cw_X10_is ml_X10_95 (by decide) sh_205 (by decide) rfl (r_is l G M Y child 0 (by decide)) (by decide) rfl rfl (Nat.le_of_ble_eq_true rfl) dX10_join_3 ?_
  refine nb_if_eq C 18 dX10_join_6 rfl (fun h_6 => ?_) (fun h_6 => ?_)
  · skip
    refine v_aload_n C 0 dX10_join_18 rfl ?_
    refine v_ldc C (-1000001) kc_X10_80 dX10_join_19 ?_
    refine n_callVi C hRm [.int (-1000001)] cw_X10_finding ml_X10_81 (by decide) sh_205 (by decide) rfl (r_finding l G (upA M 206 Y) 1 (by decide) (-1000001) (by decide)) (by decide) rfl rfl (Nat.le_of_ble_eq_true rfl) dX10_join_21 (fun M5 hP_21 => ?_)
    subst hP_21
    refine v_mem (upA (fndM M 1) 206 Y) (fnd_upA _ _ _) ?_
    have hS : joinS Y n hN child heap = er 1 Y := by unfold joinS; (try rw [nI_clamp (by omega)]); (try rw [nI_clamp (by omega)]); (first | rw [if_pos h_6] | rw [if_neg h_6] | rw [if_pos (congrArg nI h_6)] | rw [if_neg (fun q9 => h_6 ((nI_eq (by omega) (by omega)).mp q9))] | rw [if_neg (Nat.not_le.mpr h_6)] | rw [if_neg (Nat.not_lt.mpr h_6)] | skip); all_goals rfl
    exact n_iret C hRt rfl dX10_join_24 (by rw [hS] <;> rfl) (by rw [hS]; exact ⟨_, rfl, (eqM.rf M).tr (eqM.fnd _ (show (1 : Nat) ≠ 0 by decide))⟩)
  · skip
    obtain ⟨c, hc, rfl⟩ := is_nat hY.1.1 hY.1.2.1 h_6
    refine v_aload_n C 0 dX10_join_9 rfl ?_
    refine v_iload_n C 2 dX10_join_10 rfl ?_
    refine v_iconst C (nI 1) dX10_join_11 (by decide) ?_
    refine n_callVp C hRm [.int heap, .int (nI 1)] cw_X10_is ml_X10_95 (by decide) sh_205 (by decide) rfl (r_is l G M Y heap 1 (by decide)) (by decide) rfl rfl (Nat.le_of_ble_eq_true rfl) dX10_join_12 ?_
    refine nb_if_ne C 25 dX10_join_15 rfl (fun h_15 => ?_) (fun h_15 => ?_)
    · skip
      obtain ⟨h, hh, rfl⟩ := is_nat hY.1.2.2.1 (by omega) h_15
      refine v_aload_n C 0 dX10_join_25 rfl ?_
      refine v_iload_n C 1 dX10_join_26 rfl ?_
      refine v_iconst C (nI 4) dX10_join_27 (by decide) ?_
      refine n_callVp C hRm [.int (nI c), .int (nI 4)] cw_X10_of ml_X10_86 (by decide) sh_205 (by decide) rfl (r_of l G M Y c 4 (by omega)) (by decide) rfl rfl (Nat.le_of_ble_eq_true rfl) dX10_join_28 ?_
      refine v_iload_n C 2 dX10_join_31 rfl ?_
      refine v_icmp_ne C 42 dX10_join_32 rfl (fun h_32 => ?_) (fun h_32 => ?_)
      · skip
        refine v_aload_n C 0 dX10_join_42 rfl ?_
        refine v_iload_n C 1 dX10_join_43 rfl ?_
        refine v_iload_n C 2 dX10_join_44 rfl ?_
        refine n_callVv C hRm [.int (nI c), .int (nI h)] cw_X10_goesTo ml_X10_123 (by decide) sh_205 (by decide) rfl (r_goesTo l G M Y n hN hY.1.1 hY.1.2.1 hY.1.2.2.1 hY.1.2.2.2 c (by omega) (nI h)) (by decide) rfl rfl (Nat.le_of_ble_eq_true rfl) dX10_join_45 (fun M5 hP_45 => ?_)
        subst hP_45
        have hYG : YOk (goesS Y n hN c (nI h)) n hN := yk_goes hY (by omega) (Or.inr ⟨h, hh, rfl⟩)
        refine v_aload_n C 0 dX10_join_48 rfl ?_
        refine v_iload_n C 2 dX10_join_49 rfl ?_
        refine n_callVp C hRm [.int (nI h)] cw_X10_inHeap ml_X10_112 (by decide) sh_205 (by decide) rfl (r_inHeap l G M (goesS Y n hN c (nI h)) n hYG.1.1 hYG.1.2.1 (nI h)) (by decide) rfl rfl (Nat.le_of_ble_eq_true rfl) dX10_join_50 ?_
        refine v_top (nI (mskA (goesS Y n hN c (nI h)) (nI h) n)) (inA_msk _ _ n hY.1.2.1) ?_
        refine n_callSp C hRm [.int (nI (mskA (goesS Y n hN c (nI h)) (nI h) n))] cw_X10_bits st_X10_bits ml_X10_115 (r_bits l G (upA M 206 (goesS Y n hN c (nI h))) (mskA (goesS Y n hN c (nI h)) (nI h) n) (msk_1024 _ _ hY.1.2.1)) (by decide) rfl rfl (Nat.le_of_ble_eq_true rfl) dX10_join_53 ?_
        have hS : joinS Y n hN (nI c) (nI h) = (0, nI (popN (mskA (goesS Y n hN c (nI h)) (nI h) n)), goesS Y n hN c (nI h)) := by unfold joinS; (try rw [nI_clamp (by omega)]); (try rw [nI_clamp (by omega)]); (first | rw [if_pos h_6] | rw [if_neg h_6] | rw [if_pos (congrArg nI h_6)] | rw [if_neg (fun q9 => h_6 ((nI_eq (by omega) (by omega)).mp q9))] | rw [if_neg (Nat.not_le.mpr h_6)] | rw [if_neg (Nat.not_lt.mpr h_6)] | skip); (first | rw [if_pos h_15] | rw [if_neg h_15] | rw [if_pos (congrArg nI h_15)] | rw [if_neg (fun q9 => h_15 ((nI_eq (by omega) (by omega)).mp q9))] | rw [if_neg (Nat.not_le.mpr h_15)] | rw [if_neg (Nat.not_lt.mpr h_15)] | skip); (first | rw [if_pos h_32] | rw [if_neg h_32] | rw [if_pos (congrArg nI h_32)] | rw [if_neg (fun q9 => h_32 ((nI_eq (by omega) (by omega)).mp q9))] | rw [if_neg (Nat.not_le.mpr h_32)] | rw [if_neg (Nat.not_lt.mpr h_32)] | skip); all_goals rfl
        exact n_iret C hRt rfl dX10_join_56 (by rw [hS] <;> rfl) (by rw [hS]; exact ⟨_, rfl, eqM.rf M⟩)
      · skip
        refine v_aload_n C 0 dX10_join_35 rfl ?_
        refine v_ldc C (-1000003) kc_X10_122 dX10_join_36 ?_
        refine n_callVi C hRm [.int (-1000003)] cw_X10_finding ml_X10_81 (by decide) sh_205 (by decide) rfl (r_finding l G (upA M 206 Y) 3 (by decide) (-1000003) (by decide)) (by decide) rfl rfl (Nat.le_of_ble_eq_true rfl) dX10_join_38 (fun M5 hP_38 => ?_)
        subst hP_38
        refine v_mem (upA (fndM M 3) 206 Y) (fnd_upA _ _ _) ?_
        have hS : joinS Y n hN (nI c) (nI h) = er 3 Y := by unfold joinS; (try rw [nI_clamp (by omega)]); (try rw [nI_clamp (by omega)]); (first | rw [if_pos h_6] | rw [if_neg h_6] | rw [if_pos (congrArg nI h_6)] | rw [if_neg (fun q9 => h_6 ((nI_eq (by omega) (by omega)).mp q9))] | rw [if_neg (Nat.not_le.mpr h_6)] | rw [if_neg (Nat.not_lt.mpr h_6)] | skip); (first | rw [if_pos h_15] | rw [if_neg h_15] | rw [if_pos (congrArg nI h_15)] | rw [if_neg (fun q9 => h_15 ((nI_eq (by omega) (by omega)).mp q9))] | rw [if_neg (Nat.not_le.mpr h_15)] | rw [if_neg (Nat.not_lt.mpr h_15)] | skip); (first | rw [if_pos h_32] | rw [if_neg h_32] | rw [if_pos (congrArg nI h_32)] | rw [if_neg (fun q9 => h_32 ((nI_eq (by omega) (by omega)).mp q9))] | rw [if_neg (Nat.not_le.mpr h_32)] | rw [if_neg (Nat.not_lt.mpr h_32)] | skip); all_goals rfl
        exact n_iret C hRt rfl dX10_join_41 (by rw [hS] <;> rfl) (by rw [hS]; exact ⟨_, rfl, (eqM.rf M).tr (eqM.fnd _ (show (3 : Nat) ≠ 0 by decide))⟩)
    · skip
      refine v_aload_n C 0 dX10_join_18 rfl ?_
      refine v_ldc C (-1000001) kc_X10_80 dX10_join_19 ?_
      refine n_callVi C hRm [.int (-1000001)] cw_X10_finding ml_X10_81 (by decide) sh_205 (by decide) rfl (r_finding l G (upA M 206 Y) 1 (by decide) (-1000001) (by decide)) (by decide) rfl rfl (Nat.le_of_ble_eq_true rfl) dX10_join_21 (fun M5 hP_21 => ?_)
      subst hP_21
      refine v_mem (upA (fndM M 1) 206 Y) (fnd_upA _ _ _) ?_
      have hS : joinS Y n hN (nI c) heap = er 1 Y := by unfold joinS; (try rw [nI_clamp (by omega)]); (try rw [nI_clamp (by omega)]); (first | rw [if_pos h_6] | rw [if_neg h_6] | rw [if_pos (congrArg nI h_6)] | rw [if_neg (fun q9 => h_6 ((nI_eq (by omega) (by omega)).mp q9))] | rw [if_neg (Nat.not_le.mpr h_6)] | rw [if_neg (Nat.not_lt.mpr h_6)] | skip); (first | rw [if_pos h_15] | rw [if_neg h_15] | rw [if_pos (congrArg nI h_15)] | rw [if_neg (fun q9 => h_15 ((nI_eq (by omega) (by omega)).mp q9))] | rw [if_neg (Nat.not_le.mpr h_15)] | rw [if_neg (Nat.not_lt.mpr h_15)] | skip); all_goals rfl
      exact n_iret C hRt rfl dX10_join_24 (by rw [hS] <;> rfl) (by rw [hS]; exact ⟨_, rfl, (eqM.rf M).tr (eqM.fnd _ (show (1 : Nat) ≠ 0 by decide))⟩)
set_option maxHeartbeats 4000000 in
set_option maxRecDepth 100000 in
theorem r_leave (l : Launch) (G : GC) (M : Mm) (Y : Nat → Int32) (n hN : Nat) (hY : YOk Y n hN) (child : Int32) : CI l G 5 yX10_leave cX10_leave 3 .int [.ref (gb G + 205), .int child] (upA M 206 Y) ((leaveS Y n hN child).2.1) (PubR M (leaveS Y n hN child).2.2 (leaveS Y n hN child).1) := by
  refine Con.of (by decide +kernel) (Nat.le_of_ble_eq_true rfl) ?_
  intro f C hRm hRt _
  show Vc f G NPh (upA M 206 Y) 0 [(0, .ref (gb G + 205)), (1, .int child)] []
  have h10 := hY.1.2.1
  have h5N := hY.1.2.2.2
  refine v_aload_n C 0 dX10_leave_0 rfl ?_
  refine v_iload_n C 1 dX10_leave_1 rfl ?_
  refine v_iconst C (nI 0) dX10_leave_2 (by decide) ?_
  refine n_callVp C hRm [.int child, .int (nI 0)] cw_X10_is ml_X10_95 (by decide) sh_205 (by decide) rfl (r_is l G M Y child 0 (by decide)) (by decide) rfl rfl (Nat.le_of_ble_eq_true rfl) dX10_leave_3 ?_
  refine nb_if_ne C 16 dX10_leave_6 rfl (fun h_6 => ?_) (fun h_6 => ?_)
  · skip
    obtain ⟨c, hc, rfl⟩ := is_nat hY.1.1 hY.1.2.1 h_6
    refine v_aload_n C 0 dX10_leave_16 rfl ?_
    refine v_iload_n C 1 dX10_leave_17 rfl ?_
    refine v_iconst C (nI 4) dX10_leave_18 (by decide) ?_
    refine n_callVp C hRm [.int (nI c), .int (nI 4)] cw_X10_of ml_X10_86 (by decide) sh_205 (by decide) rfl (r_of l G M Y c 4 (by omega)) (by decide) rfl rfl (Nat.le_of_ble_eq_true rfl) dX10_leave_19 ?_
    refine v_istore_n C [(2, .int (Y (7 + 6 * c + 4))), (0, .ref (gb G + 205)), (1, .int (nI c))] dX10_leave_22 rfl (by decide) rfl ?_
    refine v_iload_n C 0 dX10_leave_23 rfl ?_
    refine v_if_ge C 34 dX10_leave_24 rfl (fun h_24 => ?_) (fun h_24 => ?_)
    · skip
      refine v_aload_n C 1 dX10_leave_34 rfl ?_
      refine v_iload_n C 2 dX10_leave_35 rfl ?_
      refine v_iconst C (-1) dX10_leave_36 (by decide) ?_
      refine n_callVv C hRm [.int (nI c), .int (-1)] cw_X10_goesTo ml_X10_123 (by decide) sh_205 (by decide) rfl (r_goesTo l G M Y n hN hY.1.1 hY.1.2.1 hY.1.2.2.1 hY.1.2.2.2 c (by omega) (-1)) (by decide) rfl rfl (Nat.le_of_ble_eq_true rfl) dX10_leave_37 (fun M5 hP_37 => ?_)
      subst hP_37
      have hYG : YOk (goesS Y n hN c (-1)) n hN := yk_goes hY (by omega) (Or.inl rfl)
      refine v_iload_n C 0 dX10_leave_40 rfl ?_
      have hS : leaveS Y n hN (nI c) = (0, Y (7 + 6 * c + 4), goesS Y n hN c (-1)) := by unfold leaveS; (try rw [nI_clamp (by omega)]); (try rw [nI_clamp (by omega)]); (first | rw [if_pos h_6] | rw [if_neg h_6] | rw [if_pos (congrArg nI h_6)] | rw [if_neg (fun q9 => h_6 ((nI_eq (by omega) (by omega)).mp q9))] | rw [if_neg (Nat.not_le.mpr h_6)] | rw [if_neg (Nat.not_lt.mpr h_6)] | skip); (first | rw [if_pos h_24] | rw [if_neg h_24] | rw [if_pos (congrArg nI h_24)] | rw [if_neg (fun q9 => h_24 ((nI_eq (by omega) (by omega)).mp q9))] | rw [if_neg (Nat.not_le.mpr h_24)] | rw [if_neg (Nat.not_lt.mpr h_24)] | skip); all_goals rfl
      exact n_iret C hRt rfl dX10_leave_41 (by rw [hS] <;> rfl) (by rw [hS]; exact ⟨_, rfl, eqM.rf M⟩)
    · skip
      refine v_aload_n C 1 dX10_leave_27 rfl ?_
      refine v_ldc C (-1000003) kc_X10_122 dX10_leave_28 ?_
      refine n_callVi C hRm [.int (-1000003)] cw_X10_finding ml_X10_81 (by decide) sh_205 (by decide) rfl (r_finding l G (upA M 206 Y) 3 (by decide) (-1000003) (by decide)) (by decide) rfl rfl (Nat.le_of_ble_eq_true rfl) dX10_leave_30 (fun M5 hP_30 => ?_)
      subst hP_30
      refine v_mem (upA (fndM M 3) 206 Y) (fnd_upA _ _ _) ?_
      have hS : leaveS Y n hN (nI c) = er 3 Y := by unfold leaveS; (try rw [nI_clamp (by omega)]); (try rw [nI_clamp (by omega)]); (first | rw [if_pos h_6] | rw [if_neg h_6] | rw [if_pos (congrArg nI h_6)] | rw [if_neg (fun q9 => h_6 ((nI_eq (by omega) (by omega)).mp q9))] | rw [if_neg (Nat.not_le.mpr h_6)] | rw [if_neg (Nat.not_lt.mpr h_6)] | skip); (first | rw [if_pos h_24] | rw [if_neg h_24] | rw [if_pos (congrArg nI h_24)] | rw [if_neg (fun q9 => h_24 ((nI_eq (by omega) (by omega)).mp q9))] | rw [if_neg (Nat.not_le.mpr h_24)] | rw [if_neg (Nat.not_lt.mpr h_24)] | skip); all_goals rfl
      exact n_iret C hRt rfl dX10_leave_33 (by rw [hS] <;> rfl) (by rw [hS]; exact ⟨_, rfl, (eqM.rf M).tr (eqM.fnd _ (show (3 : Nat) ≠ 0 by decide))⟩)
  · skip
    refine v_aload_n C 0 dX10_leave_9 rfl ?_
    refine v_ldc C (-1000001) kc_X10_80 dX10_leave_10 ?_
    refine n_callVi C hRm [.int (-1000001)] cw_X10_finding ml_X10_81 (by decide) sh_205 (by decide) rfl (r_finding l G (upA M 206 Y) 1 (by decide) (-1000001) (by decide)) (by decide) rfl rfl (Nat.le_of_ble_eq_true rfl) dX10_leave_12 (fun M5 hP_12 => ?_)
    subst hP_12
    refine v_mem (upA (fndM M 1) 206 Y) (fnd_upA _ _ _) ?_
    have hS : leaveS Y n hN child = er 1 Y := by unfold leaveS; (try rw [nI_clamp (by omega)]); (try rw [nI_clamp (by omega)]); (first | rw [if_pos h_6] | rw [if_neg h_6] | rw [if_pos (congrArg nI h_6)] | rw [if_neg (fun q9 => h_6 ((nI_eq (by omega) (by omega)).mp q9))] | rw [if_neg (Nat.not_le.mpr h_6)] | rw [if_neg (Nat.not_lt.mpr h_6)] | skip); all_goals rfl
    exact n_iret C hRt rfl dX10_leave_15 (by rw [hS] <;> rfl) (by rw [hS]; exact ⟨_, rfl, (eqM.rf M).tr (eqM.fnd _ (show (1 : Nat) ≠ 0 by decide))⟩)
set_option maxHeartbeats 4000000 in
set_option maxRecDepth 100000 in
theorem r_between (l : Launch) (G : GC) (M : Mm) (Y : Nat → Int32) (n hN : Nat) (hY : YOk Y n hN) (child heap what : Int32) : CI l G 6 yX10_between cX10_between 4 .int [.ref (gb G + 205), .int child, .int heap, .int what] (upA M 206 Y) ((betweenS Y n child heap what).2.1) (PubR M (betweenS Y n child heap what).2.2 (betweenS Y n child heap what).1) := by
  refine Con.of (by decide +kernel) (Nat.le_of_ble_eq_true rfl) ?_
  intro f C hRm hRt _
  show Vc f G NPh (upA M 206 Y) 0 [(0, .ref (gb G + 205)), (1, .int child), (2, .int heap), (3, .int what)] []
  have h10 := hY.1.2.1
  have h5N := hY.1.2.2.2
  refine v_aload_n C 0 dX10_between_0 rfl ?_
  refine v_iload_n C 1 dX10_between_1 rfl ?_
  refine v_iconst C (nI 0) dX10_between_2 (by decide) ?_
  refine n_callVp C hRm [.int child, .int (nI 0)] cw_X10_is ml_X10_95 (by decide) sh_205 (by decide) rfl (r_is l G M Y child 0 (by decide)) (by decide) rfl rfl (Nat.le_of_ble_eq_true rfl) dX10_between_3 ?_
  refine nb_if_eq C 27 dX10_between_6 rfl (fun h_6 => ?_) (fun h_6 => ?_)
  · skip
    refine v_aload_n C 0 dX10_between_27 rfl ?_
    refine v_ldc C (-1000001) kc_X10_80 dX10_between_28 ?_
    refine n_callVi C hRm [.int (-1000001)] cw_X10_finding ml_X10_81 (by decide) sh_205 (by decide) rfl (r_finding l G (upA M 206 Y) 1 (by decide) (-1000001) (by decide)) (by decide) rfl rfl (Nat.le_of_ble_eq_true rfl) dX10_between_30 (fun M5 hP_30 => ?_)
    subst hP_30
    refine v_mem (upA (fndM M 1) 206 Y) (fnd_upA _ _ _) ?_
    have hS : betweenS Y n child heap what = er 1 Y := by unfold betweenS; (try rw [nI_clamp (by omega)]); (try rw [nI_clamp (by omega)]); (first | rw [if_pos h_6] | rw [if_neg h_6] | rw [if_pos (congrArg nI h_6)] | rw [if_neg (fun q9 => h_6 ((nI_eq (by omega) (by omega)).mp q9))] | rw [if_neg (Nat.not_le.mpr h_6)] | rw [if_neg (Nat.not_lt.mpr h_6)] | skip); all_goals rfl
    exact n_iret C hRt rfl dX10_between_33 (by rw [hS] <;> rfl) (by rw [hS]; exact ⟨_, rfl, (eqM.rf M).tr (eqM.fnd _ (show (1 : Nat) ≠ 0 by decide))⟩)
  · skip
    obtain ⟨c, hc, rfl⟩ := is_nat hY.1.1 hY.1.2.1 h_6
    refine v_aload_n C 0 dX10_between_9 rfl ?_
    refine v_iload_n C 2 dX10_between_10 rfl ?_
    refine v_iconst C (nI 1) dX10_between_11 (by decide) ?_
    refine n_callVp C hRm [.int heap, .int (nI 1)] cw_X10_is ml_X10_95 (by decide) sh_205 (by decide) rfl (r_is l G M Y heap 1 (by decide)) (by decide) rfl rfl (Nat.le_of_ble_eq_true rfl) dX10_between_12 ?_
    refine nb_if_eq C 27 dX10_between_15 rfl (fun h_15 => ?_) (fun h_15 => ?_)
    · skip
      refine v_aload_n C 0 dX10_between_27 rfl ?_
      refine v_ldc C (-1000001) kc_X10_80 dX10_between_28 ?_
      refine n_callVi C hRm [.int (-1000001)] cw_X10_finding ml_X10_81 (by decide) sh_205 (by decide) rfl (r_finding l G (upA M 206 Y) 1 (by decide) (-1000001) (by decide)) (by decide) rfl rfl (Nat.le_of_ble_eq_true rfl) dX10_between_30 (fun M5 hP_30 => ?_)
      subst hP_30
      refine v_mem (upA (fndM M 1) 206 Y) (fnd_upA _ _ _) ?_
      have hS : betweenS Y n (nI c) heap what = er 1 Y := by unfold betweenS; (try rw [nI_clamp (by omega)]); (try rw [nI_clamp (by omega)]); (first | rw [if_pos h_6] | rw [if_neg h_6] | rw [if_pos (congrArg nI h_6)] | rw [if_neg (fun q9 => h_6 ((nI_eq (by omega) (by omega)).mp q9))] | rw [if_neg (Nat.not_le.mpr h_6)] | rw [if_neg (Nat.not_lt.mpr h_6)] | skip); (first | rw [if_pos h_15] | rw [if_neg h_15] | rw [if_pos (congrArg nI h_15)] | rw [if_neg (fun q9 => h_15 ((nI_eq (by omega) (by omega)).mp q9))] | rw [if_neg (Nat.not_le.mpr h_15)] | rw [if_neg (Nat.not_lt.mpr h_15)] | skip); all_goals rfl
      exact n_iret C hRt rfl dX10_between_33 (by rw [hS] <;> rfl) (by rw [hS]; exact ⟨_, rfl, (eqM.rf M).tr (eqM.fnd _ (show (1 : Nat) ≠ 0 by decide))⟩)
    · skip
      obtain ⟨h, hh, rfl⟩ := is_nat hY.1.2.2.1 (by omega) h_15
      refine v_iload_n C 3 dX10_between_18 rfl ?_
      refine v_iconst C (nI 0) dX10_between_19 (by decide) ?_
      refine v_iconst C (nI 2) dX10_between_20 (by decide) ?_
      refine n_callSp C hRm [.int what, .int (nI 0), .int (nI 2)] cw_X10_within st_X10_within ml_X10_72 (r_within l G (upA M 206 Y) what (nI 0) (nI 2)) (by decide) rfl rfl (Nat.le_of_ble_eq_true rfl) dX10_between_21 ?_
      refine nb_if_ne C 34 dX10_between_24 rfl (fun h_24 => ?_) (fun h_24 => ?_)
      · skip
        refine v_iload_n C 3 dX10_between_34 rfl ?_
        refine v_if_ne C 47 dX10_between_35 rfl (fun h_35 => ?_) (fun h_35 => ?_)
        · skip
          refine v_iload_n C 3 dX10_between_47 rfl ?_
          refine v_iconst C (nI 1) dX10_between_48 (by decide) ?_
          refine v_icmp_ne C 61 dX10_between_49 rfl (fun h_49 => ?_) (fun h_49 => ?_)
          · skip
            refine v_aload_n C 0 dX10_between_61 rfl ?_
            refine v_iload_n C 1 dX10_between_62 rfl ?_
            refine v_iload_n C 2 dX10_between_63 rfl ?_
            refine n_callVp C hRm [.int (nI c), .int (nI h)] cw_X10_watching ml_X10_139 (by decide) sh_205 (by decide) rfl (r_watching l G M Y c h (by omega)) (by decide) rfl rfl (Nat.le_of_ble_eq_true rfl) dX10_between_64 ?_
            have hS : betweenS Y n (nI c) (nI h) what = (0, Y (187 + 5 * c + h), Y) := by unfold betweenS; (try rw [nI_clamp (by omega)]); (try rw [nI_clamp (by omega)]); (first | rw [if_pos h_6] | rw [if_neg h_6] | rw [if_pos (congrArg nI h_6)] | rw [if_neg (fun q9 => h_6 ((nI_eq (by omega) (by omega)).mp q9))] | rw [if_neg (Nat.not_le.mpr h_6)] | rw [if_neg (Nat.not_lt.mpr h_6)] | skip); (first | rw [if_pos h_15] | rw [if_neg h_15] | rw [if_pos (congrArg nI h_15)] | rw [if_neg (fun q9 => h_15 ((nI_eq (by omega) (by omega)).mp q9))] | rw [if_neg (Nat.not_le.mpr h_15)] | rw [if_neg (Nat.not_lt.mpr h_15)] | skip); (first | rw [if_pos h_24] | rw [if_neg h_24] | rw [if_pos (congrArg nI h_24)] | rw [if_neg (fun q9 => h_24 ((nI_eq (by omega) (by omega)).mp q9))] | rw [if_neg (Nat.not_le.mpr h_24)] | rw [if_neg (Nat.not_lt.mpr h_24)] | skip); (first | rw [if_pos h_35] | rw [if_neg h_35] | rw [if_pos (congrArg nI h_35)] | rw [if_neg (fun q9 => h_35 ((nI_eq (by omega) (by omega)).mp q9))] | rw [if_neg (Nat.not_le.mpr h_35)] | rw [if_neg (Nat.not_lt.mpr h_35)] | skip); (first | rw [if_pos h_49] | rw [if_neg h_49] | rw [if_pos (congrArg nI h_49)] | rw [if_neg (fun q9 => h_49 ((nI_eq (by omega) (by omega)).mp q9))] | rw [if_neg (Nat.not_le.mpr h_49)] | rw [if_neg (Nat.not_lt.mpr h_49)] | skip); all_goals rfl
            exact n_iret C hRt rfl dX10_between_67 (by rw [hS] <;> rfl) (by rw [hS]; exact ⟨_, rfl, eqM.rf M⟩)
          · skip
            refine v_aload_n C 0 dX10_between_52 rfl ?_
            refine v_iload_n C 1 dX10_between_53 rfl ?_
            refine v_iload_n C 2 dX10_between_54 rfl ?_
            refine n_callVi C hRm [.int (nI c), .int (nI h)] cw_X10_chance ml_X10_165 (by decide) sh_205 (by decide) rfl (r_chance l G M Y n hN hY c h (by omega) (by omega)) (by decide) rfl rfl (Nat.le_of_ble_eq_true rfl) dX10_between_55 (fun M6 hP_55 => ?_)
            obtain ⟨X9, rfl, hX9⟩ := hP_55
            refine v_goto C 67 dX10_between_58 rfl ?_
            have hS : betweenS Y n (nI c) (nI h) what = (0, chS Y n h c, Y) := by unfold betweenS; (try rw [nI_clamp (by omega)]); (try rw [nI_clamp (by omega)]); (first | rw [if_pos h_6] | rw [if_neg h_6] | rw [if_pos (congrArg nI h_6)] | rw [if_neg (fun q9 => h_6 ((nI_eq (by omega) (by omega)).mp q9))] | rw [if_neg (Nat.not_le.mpr h_6)] | rw [if_neg (Nat.not_lt.mpr h_6)] | skip); (first | rw [if_pos h_15] | rw [if_neg h_15] | rw [if_pos (congrArg nI h_15)] | rw [if_neg (fun q9 => h_15 ((nI_eq (by omega) (by omega)).mp q9))] | rw [if_neg (Nat.not_le.mpr h_15)] | rw [if_neg (Nat.not_lt.mpr h_15)] | skip); (first | rw [if_pos h_24] | rw [if_neg h_24] | rw [if_pos (congrArg nI h_24)] | rw [if_neg (fun q9 => h_24 ((nI_eq (by omega) (by omega)).mp q9))] | rw [if_neg (Nat.not_le.mpr h_24)] | rw [if_neg (Nat.not_lt.mpr h_24)] | skip); (first | rw [if_pos h_35] | rw [if_neg h_35] | rw [if_pos (congrArg nI h_35)] | rw [if_neg (fun q9 => h_35 ((nI_eq (by omega) (by omega)).mp q9))] | rw [if_neg (Nat.not_le.mpr h_35)] | rw [if_neg (Nat.not_lt.mpr h_35)] | skip); (first | rw [if_pos h_49] | rw [if_neg h_49] | rw [if_pos (congrArg nI h_49)] | rw [if_neg (fun q9 => h_49 ((nI_eq (by omega) (by omega)).mp q9))] | rw [if_neg (Nat.not_le.mpr h_49)] | rw [if_neg (Nat.not_lt.mpr h_49)] | skip); all_goals rfl
            exact n_iret C hRt rfl dX10_between_67 (by rw [hS] <;> rfl) (by rw [hS]; exact ⟨_, rfl, eqM.of23 hX9⟩)
        · skip
          refine v_aload_n C 0 dX10_between_38 rfl ?_
          refine v_iload_n C 1 dX10_between_39 rfl ?_
          refine v_iload_n C 2 dX10_between_40 rfl ?_
          refine n_callVp C hRm [.int (nI c), .int (nI h)] cw_X10_warmth ml_X10_136 (by decide) sh_205 (by decide) rfl (r_warmth l G M Y n hY.1.1 hY.1.2.1 c h (by omega) (by omega)) (by decide) rfl rfl (Nat.le_of_ble_eq_true rfl) dX10_between_41 ?_
          refine v_goto C 67 dX10_between_44 rfl ?_
          have hS : betweenS Y n (nI c) (nI h) what = (0, warmS Y n h c, Y) := by unfold betweenS; (try rw [nI_clamp (by omega)]); (try rw [nI_clamp (by omega)]); (first | rw [if_pos h_6] | rw [if_neg h_6] | rw [if_pos (congrArg nI h_6)] | rw [if_neg (fun q9 => h_6 ((nI_eq (by omega) (by omega)).mp q9))] | rw [if_neg (Nat.not_le.mpr h_6)] | rw [if_neg (Nat.not_lt.mpr h_6)] | skip); (first | rw [if_pos h_15] | rw [if_neg h_15] | rw [if_pos (congrArg nI h_15)] | rw [if_neg (fun q9 => h_15 ((nI_eq (by omega) (by omega)).mp q9))] | rw [if_neg (Nat.not_le.mpr h_15)] | rw [if_neg (Nat.not_lt.mpr h_15)] | skip); (first | rw [if_pos h_24] | rw [if_neg h_24] | rw [if_pos (congrArg nI h_24)] | rw [if_neg (fun q9 => h_24 ((nI_eq (by omega) (by omega)).mp q9))] | rw [if_neg (Nat.not_le.mpr h_24)] | rw [if_neg (Nat.not_lt.mpr h_24)] | skip); (first | rw [if_pos h_35] | rw [if_neg h_35] | rw [if_pos (congrArg nI h_35)] | rw [if_neg (fun q9 => h_35 ((nI_eq (by omega) (by omega)).mp q9))] | rw [if_neg (Nat.not_le.mpr h_35)] | rw [if_neg (Nat.not_lt.mpr h_35)] | skip); all_goals rfl
          exact n_iret C hRt rfl dX10_between_67 (by rw [hS] <;> rfl) (by rw [hS]; exact ⟨_, rfl, eqM.rf M⟩)
      · skip
        refine v_aload_n C 0 dX10_between_27 rfl ?_
        refine v_ldc C (-1000001) kc_X10_80 dX10_between_28 ?_
        refine n_callVi C hRm [.int (-1000001)] cw_X10_finding ml_X10_81 (by decide) sh_205 (by decide) rfl (r_finding l G (upA M 206 Y) 1 (by decide) (-1000001) (by decide)) (by decide) rfl rfl (Nat.le_of_ble_eq_true rfl) dX10_between_30 (fun M5 hP_30 => ?_)
        subst hP_30
        refine v_mem (upA (fndM M 1) 206 Y) (fnd_upA _ _ _) ?_
        have hS : betweenS Y n (nI c) (nI h) what = er 1 Y := by unfold betweenS; (try rw [nI_clamp (by omega)]); (try rw [nI_clamp (by omega)]); (first | rw [if_pos h_6] | rw [if_neg h_6] | rw [if_pos (congrArg nI h_6)] | rw [if_neg (fun q9 => h_6 ((nI_eq (by omega) (by omega)).mp q9))] | rw [if_neg (Nat.not_le.mpr h_6)] | rw [if_neg (Nat.not_lt.mpr h_6)] | skip); (first | rw [if_pos h_15] | rw [if_neg h_15] | rw [if_pos (congrArg nI h_15)] | rw [if_neg (fun q9 => h_15 ((nI_eq (by omega) (by omega)).mp q9))] | rw [if_neg (Nat.not_le.mpr h_15)] | rw [if_neg (Nat.not_lt.mpr h_15)] | skip); (first | rw [if_pos h_24] | rw [if_neg h_24] | rw [if_pos (congrArg nI h_24)] | rw [if_neg (fun q9 => h_24 ((nI_eq (by omega) (by omega)).mp q9))] | rw [if_neg (Nat.not_le.mpr h_24)] | rw [if_neg (Nat.not_lt.mpr h_24)] | skip); all_goals rfl
        exact n_iret C hRt rfl dX10_between_33 (by rw [hS] <;> rfl) (by rw [hS]; exact ⟨_, rfl, (eqM.rf M).tr (eqM.fnd _ (show (1 : Nat) ≠ 0 by decide))⟩)
set_option maxHeartbeats 4000000 in
set_option maxRecDepth 100000 in
theorem r_minutes (l : Launch) (G : GC) (M : Mm) (Y : Nat → Int32) (n hN : Nat) (hY : YOk Y n hN) (k : Int32) : CI l G 10 yX10_minutes cX10_minutes 2 .int [.ref (gb G + 205), .int k] (upA M 206 Y) ((minutesS Y n hN k).2.1) (PubR M (minutesS Y n hN k).2.2 (minutesS Y n hN k).1) := by
  refine Con.of (by decide +kernel) (Nat.le_of_ble_eq_true rfl) ?_
  intro f C hRm hRt _
  show Vc f G NPh (upA M 206 Y) 0 [(0, .ref (gb G + 205)), (1, .int k)] []
  have h10 := hY.1.2.1
  have h5N := hY.1.2.2.2
  refine v_iload_n C 1 dX10_minutes_0 rfl ?_
  refine v_iconst C (nI 1) dX10_minutes_1 (by decide) ?_
  refine v_bipush C (nI 60) dX10_minutes_2 (by decide) ?_
  refine n_callSp C hRm [.int k, .int (nI 1), .int (nI 60)] cw_X10_within st_X10_within ml_X10_72 (r_within l G (upA M 206 Y) k (nI 1) (nI 60)) (by decide) rfl rfl (Nat.le_of_ble_eq_true rfl) dX10_minutes_4 ?_
  refine nb_if_ne C 17 dX10_minutes_7 rfl (fun h_7 => ?_) (fun h_7 => ?_)
  · skip
    obtain ⟨j, hj, rfl⟩ := within_nat2 (by decide) (by decide) h_7
    refine v_aload_n C 0 dX10_minutes_17 rfl ?_
    refine g_X10_9 C (by decide) sh_205 dX10_minutes_18 ?_
    refine v_iconst C (nI 2) dX10_minutes_21 (by decide) ?_
    refine n_now_ld C (by decide) sh_206 (by omega) (by decide) dX10_minutes_22 ?_
    refine v_iload_n C 1 dX10_minutes_23 rfl ?_
    refine v_iadd C dX10_minutes_24 ?_
    refine v_ldc C (99999) kc_X10_242 dX10_minutes_25 ?_
    refine v_icmp_le C 37 dX10_minutes_27 rfl (fun h_27 => ?_) (fun h_27 => ?_)
    · skip
      refine v_aload_n C 0 dX10_minutes_37 rfl ?_
      refine v_iload_n C 1 dX10_minutes_38 rfl ?_
      refine n_callVv C hRm [.int (nI j)] cw_X10_minutesGo ml_X10_249 (by decide) sh_205 (by decide) rfl (r_minutesGo l G M Y n hN hY j (by omega)) (by decide) rfl rfl (Nat.le_of_ble_eq_true rfl) dX10_minutes_39 (fun M5 hP_39 => ?_)
      obtain ⟨X9, rfl, hX9⟩ := hP_39
      have hYP := yk_pass hY j
      refine v_aload_n C 0 dX10_minutes_42 rfl ?_
      refine n_callVp C hRm [] cw_X10_sorrowNow ml_X10_252 (by decide) sh_205 (by decide) rfl (r_sorrowNow l G X9 (passS Y n hN j) n hYP.1.1 hYP.1.2.1) (by decide) rfl rfl (Nat.le_of_ble_eq_true rfl) dX10_minutes_43 ?_
      have hS : minutesS Y n hN (nI j) = (0, sorA (passS Y n hN j) n, passS Y n hN j) := by unfold minutesS; (try rw [nI_clamp (by omega)]); (try rw [nI_clamp (by omega)]); (first | rw [if_pos h_7] | rw [if_neg h_7] | rw [if_pos (congrArg nI h_7)] | rw [if_neg (fun q9 => h_7 ((nI_eq (by omega) (by omega)).mp q9))] | rw [if_neg (Nat.not_le.mpr h_7)] | rw [if_neg (Nat.not_lt.mpr h_7)] | skip); (first | rw [if_pos h_27] | rw [if_neg h_27] | rw [if_pos (congrArg nI h_27)] | rw [if_neg (fun q9 => h_27 ((nI_eq (by omega) (by omega)).mp q9))] | rw [if_neg (Nat.not_le.mpr h_27)] | rw [if_neg (Nat.not_lt.mpr h_27)] | skip); all_goals rfl
      exact n_iret C hRt rfl dX10_minutes_46 (by rw [hS] <;> rfl) (by rw [hS]; exact ⟨_, rfl, eqM.of23 hX9⟩)
    · skip
      refine v_aload_n C 0 dX10_minutes_30 rfl ?_
      refine v_ldc C (-1000003) kc_X10_122 dX10_minutes_31 ?_
      refine n_callVi C hRm [.int (-1000003)] cw_X10_finding ml_X10_81 (by decide) sh_205 (by decide) rfl (r_finding l G (upA M 206 Y) 3 (by decide) (-1000003) (by decide)) (by decide) rfl rfl (Nat.le_of_ble_eq_true rfl) dX10_minutes_33 (fun M5 hP_33 => ?_)
      subst hP_33
      refine v_mem (upA (fndM M 3) 206 Y) (fnd_upA _ _ _) ?_
      have hS : minutesS Y n hN (nI j) = er 3 Y := by unfold minutesS; (try rw [nI_clamp (by omega)]); (try rw [nI_clamp (by omega)]); (first | rw [if_pos h_7] | rw [if_neg h_7] | rw [if_pos (congrArg nI h_7)] | rw [if_neg (fun q9 => h_7 ((nI_eq (by omega) (by omega)).mp q9))] | rw [if_neg (Nat.not_le.mpr h_7)] | rw [if_neg (Nat.not_lt.mpr h_7)] | skip); (first | rw [if_pos h_27] | rw [if_neg h_27] | rw [if_pos (congrArg nI h_27)] | rw [if_neg (fun q9 => h_27 ((nI_eq (by omega) (by omega)).mp q9))] | rw [if_neg (Nat.not_le.mpr h_27)] | rw [if_neg (Nat.not_lt.mpr h_27)] | skip); all_goals rfl
      exact n_iret C hRt rfl dX10_minutes_36 (by rw [hS] <;> rfl) (by rw [hS]; exact ⟨_, rfl, (eqM.rf M).tr (eqM.fnd _ (show (3 : Nat) ≠ 0 by decide))⟩)
  · skip
    refine v_aload_n C 0 dX10_minutes_10 rfl ?_
    refine v_ldc C (-1000001) kc_X10_80 dX10_minutes_11 ?_
    refine n_callVi C hRm [.int (-1000001)] cw_X10_finding ml_X10_81 (by decide) sh_205 (by decide) rfl (r_finding l G (upA M 206 Y) 1 (by decide) (-1000001) (by decide)) (by decide) rfl rfl (Nat.le_of_ble_eq_true rfl) dX10_minutes_13 (fun M5 hP_13 => ?_)
    subst hP_13
    refine v_mem (upA (fndM M 1) 206 Y) (fnd_upA _ _ _) ?_
    have hS : minutesS Y n hN k = er 1 Y := by unfold minutesS; (try rw [nI_clamp (by omega)]); (try rw [nI_clamp (by omega)]); (first | rw [if_pos h_7] | rw [if_neg h_7] | rw [if_pos (congrArg nI h_7)] | rw [if_neg (fun q9 => h_7 ((nI_eq (by omega) (by omega)).mp q9))] | rw [if_neg (Nat.not_le.mpr h_7)] | rw [if_neg (Nat.not_lt.mpr h_7)] | skip); all_goals rfl
    exact n_iret C hRt rfl dX10_minutes_16 (by rw [hS] <;> rfl) (by rw [hS]; exact ⟨_, rfl, (eqM.rf M).tr (eqM.fnd _ (show (1 : Nat) ≠ 0 by decide))⟩)
def seedS (Y : Nat → Int32) (v : Int32) : O3 := (0, Y 6, upd Y 6 v)
set_option maxHeartbeats 4000000 in
set_option maxRecDepth 100000 in
theorem r_seed (l : Launch) (G : GC) (M : Mm) (Y : Nat → Int32) (n hN : Nat) (hY : YOk Y n hN) (v : Int32) : CI l G 2 yX10_seed cX10_seed 2 .int [.ref (gb G + 205), .int v] (upA M 206 Y) ((seedS Y v).2.1) (PubR M (seedS Y v).2.2 (seedS Y v).1) := by
  refine Con.of (by decide +kernel) (Nat.le_of_ble_eq_true rfl) ?_
  intro f C hRm hRt _
  show Vc f G NPh (upA M 206 Y) 0 [(0, .ref (gb G + 205)), (1, .int v)] []
  have h10 := hY.1.2.1
  have h5N := hY.1.2.2.2
  refine v_aload_n C 0 dX10_seed_0 rfl ?_
  refine v_bipush C (nI 6) dX10_seed_1 (by decide) ?_
  refine v_iload_n C 1 dX10_seed_3 rfl ?_
  refine n_callVi C hRm [.int (nI 6), .int v] cw_X10_become ml_X10_106 (by decide) sh_205 (by decide) rfl (r_become l G M Y 6 v (by omega)) (by decide) rfl rfl (Nat.le_of_ble_eq_true rfl) dX10_seed_4 (fun M5 hP_4 => ?_)
  subst hP_4
  have hS : seedS Y v = (0, Y 6, upd Y 6 v) := by unfold seedS; skip; all_goals rfl
  exact n_iret C hRt rfl dX10_seed_7 (by rw [hS] <;> rfl) (by rw [hS]; exact ⟨_, rfl, eqM.rf M⟩)
def kv (j : Nat) : Int32 := if j = 7 then -1 else nI j
def aboveN (j : Nat) : Nat := match j with
  | 0 => 7
  | 4 => 1
  | 5 => 2
  | 7 => 7
  | _ => 0
def undB (j q : Nat) : Bool := j == q || aboveN j == q || aboveN (aboveN j) == q
theorem und_step : ∀ j, j < 7 → ∀ q, q < 7 → j ≠ q → undB (aboveN j) q = undB j q := by decide +kernel
theorem und_7 : ∀ q, q < 7 → undB 7 q = false := by decide +kernel
theorem und_self : ∀ q, q < 7 → undB q q = true := by decide +kernel
theorem above_le : ∀ j, j < 7 → aboveN j ≤ 7 := by decide +kernel
def dpN (j : Nat) : Nat := match j with
  | 7 => 0
  | 0 => 1
  | 4 => 3
  | 5 => 3
  | _ => 2
theorem above_dp : ∀ j, j < 7 → dpN (aboveN j) < dpN j := by decide +kernel
theorem kv_neg : ∀ j, j ≤ 7 → kv j < 0 → j = 7 := by decide +kernel
theorem kv_nn : ∀ j, j ≤ 7 → ¬ kv j < 0 → j < 7 := by decide +kernel
theorem kv_lt {j : Nat} (h : j < 7) : kv j = nI j := if_neg (by omega)
def asS (Y : Nat → Int32) (child kind : Int32) : O3 := if nI 0 ≤ child ∧ child ≤ Y 0 - nI 1 then (if nI 0 ≤ kind ∧ kind ≤ nI 6 then (if undB (kN Y child.toNatClampNeg) kind.toNatClampNeg = true then (0, Y (7 + 6 * child.toNatClampNeg + 1), Y) else er 5 Y) else er 1 Y) else er 1 Y
set_option maxHeartbeats 4000000 in
set_option maxRecDepth 100000 in
theorem r_above (l : Launch) (G : GC) (M : Mm) (j : Nat) (hj : j < 7) : CP l G 1 yX10_above cX10_above 1 .int [.int (nI j)] M (kv (aboveN j)) := by
  refine Con.of (by decide +kernel) (Nat.le_of_ble_eq_true rfl) ?_
  intro f C hRm hRt _
  rcases (show j = 0 ∨ j = 1 ∨ j = 2 ∨ j = 3 ∨ j = 4 ∨ j = 5 ∨ j = 6 by omega) with h | h | h | h | h | h | h <;> subst h
  · show Vc f G NPh M 0 [(0, .int (nI 0))] []
    refine v_iload_n C 0 dX10_above_0 rfl ?_
    refine n_if_ne C (by omega) 8 dX10_above_1 rfl (fun h_1 => absurd h_1 (by decide)) (fun _ => ?_)
    refine v_iconst C (-1) dX10_above_4 (by decide) ?_
    refine v_goto C 27 dX10_above_5 rfl ?_
    exact n_iret C hRt rfl dX10_above_27 (by decide +kernel) rfl
  · show Vc f G NPh M 0 [(0, .int (nI 1))] []
    refine v_iload_n C 0 dX10_above_0 rfl ?_
    refine n_if_ne C (by omega) 8 dX10_above_1 rfl (fun _ => ?_) (fun h_1 => absurd h_1 (by decide))
    refine v_iload_n C 0 dX10_above_8 rfl ?_
    refine v_iconst C (nI 4) dX10_above_9 (by decide) ?_
    refine n_icmp_ne C (by omega) (by omega) 17 dX10_above_10 rfl (fun _ => ?_) (fun h_10 => absurd h_10 (by decide))
    refine v_iload_n C 0 dX10_above_17 rfl ?_
    refine v_iconst C (nI 5) dX10_above_18 (by decide) ?_
    refine n_icmp_ne C (by omega) (by omega) 26 dX10_above_19 rfl (fun _ => ?_) (fun h_19 => absurd h_19 (by decide))
    refine v_iconst C (nI 0) dX10_above_26 (by decide) ?_
    exact n_iret C hRt rfl dX10_above_27 (by decide +kernel) rfl
  · show Vc f G NPh M 0 [(0, .int (nI 2))] []
    refine v_iload_n C 0 dX10_above_0 rfl ?_
    refine n_if_ne C (by omega) 8 dX10_above_1 rfl (fun _ => ?_) (fun h_1 => absurd h_1 (by decide))
    refine v_iload_n C 0 dX10_above_8 rfl ?_
    refine v_iconst C (nI 4) dX10_above_9 (by decide) ?_
    refine n_icmp_ne C (by omega) (by omega) 17 dX10_above_10 rfl (fun _ => ?_) (fun h_10 => absurd h_10 (by decide))
    refine v_iload_n C 0 dX10_above_17 rfl ?_
    refine v_iconst C (nI 5) dX10_above_18 (by decide) ?_
    refine n_icmp_ne C (by omega) (by omega) 26 dX10_above_19 rfl (fun _ => ?_) (fun h_19 => absurd h_19 (by decide))
    refine v_iconst C (nI 0) dX10_above_26 (by decide) ?_
    exact n_iret C hRt rfl dX10_above_27 (by decide +kernel) rfl
  · show Vc f G NPh M 0 [(0, .int (nI 3))] []
    refine v_iload_n C 0 dX10_above_0 rfl ?_
    refine n_if_ne C (by omega) 8 dX10_above_1 rfl (fun _ => ?_) (fun h_1 => absurd h_1 (by decide))
    refine v_iload_n C 0 dX10_above_8 rfl ?_
    refine v_iconst C (nI 4) dX10_above_9 (by decide) ?_
    refine n_icmp_ne C (by omega) (by omega) 17 dX10_above_10 rfl (fun _ => ?_) (fun h_10 => absurd h_10 (by decide))
    refine v_iload_n C 0 dX10_above_17 rfl ?_
    refine v_iconst C (nI 5) dX10_above_18 (by decide) ?_
    refine n_icmp_ne C (by omega) (by omega) 26 dX10_above_19 rfl (fun _ => ?_) (fun h_19 => absurd h_19 (by decide))
    refine v_iconst C (nI 0) dX10_above_26 (by decide) ?_
    exact n_iret C hRt rfl dX10_above_27 (by decide +kernel) rfl
  · show Vc f G NPh M 0 [(0, .int (nI 4))] []
    refine v_iload_n C 0 dX10_above_0 rfl ?_
    refine n_if_ne C (by omega) 8 dX10_above_1 rfl (fun _ => ?_) (fun h_1 => absurd h_1 (by decide))
    refine v_iload_n C 0 dX10_above_8 rfl ?_
    refine v_iconst C (nI 4) dX10_above_9 (by decide) ?_
    refine n_icmp_ne C (by omega) (by omega) 17 dX10_above_10 rfl (fun h_10 => absurd h_10 (by decide)) (fun _ => ?_)
    refine v_iconst C (nI 1) dX10_above_13 (by decide) ?_
    refine v_goto C 27 dX10_above_14 rfl ?_
    exact n_iret C hRt rfl dX10_above_27 (by decide +kernel) rfl
  · show Vc f G NPh M 0 [(0, .int (nI 5))] []
    refine v_iload_n C 0 dX10_above_0 rfl ?_
    refine n_if_ne C (by omega) 8 dX10_above_1 rfl (fun _ => ?_) (fun h_1 => absurd h_1 (by decide))
    refine v_iload_n C 0 dX10_above_8 rfl ?_
    refine v_iconst C (nI 4) dX10_above_9 (by decide) ?_
    refine n_icmp_ne C (by omega) (by omega) 17 dX10_above_10 rfl (fun _ => ?_) (fun h_10 => absurd h_10 (by decide))
    refine v_iload_n C 0 dX10_above_17 rfl ?_
    refine v_iconst C (nI 5) dX10_above_18 (by decide) ?_
    refine n_icmp_ne C (by omega) (by omega) 26 dX10_above_19 rfl (fun h_19 => absurd h_19 (by decide)) (fun _ => ?_)
    refine v_iconst C (nI 2) dX10_above_22 (by decide) ?_
    refine v_goto C 27 dX10_above_23 rfl ?_
    exact n_iret C hRt rfl dX10_above_27 (by decide +kernel) rfl
  · show Vc f G NPh M 0 [(0, .int (nI 6))] []
    refine v_iload_n C 0 dX10_above_0 rfl ?_
    refine n_if_ne C (by omega) 8 dX10_above_1 rfl (fun _ => ?_) (fun h_1 => absurd h_1 (by decide))
    refine v_iload_n C 0 dX10_above_8 rfl ?_
    refine v_iconst C (nI 4) dX10_above_9 (by decide) ?_
    refine n_icmp_ne C (by omega) (by omega) 17 dX10_above_10 rfl (fun _ => ?_) (fun h_10 => absurd h_10 (by decide))
    refine v_iload_n C 0 dX10_above_17 rfl ?_
    refine v_iconst C (nI 5) dX10_above_18 (by decide) ?_
    refine n_icmp_ne C (by omega) (by omega) 26 dX10_above_19 rfl (fun _ => ?_) (fun h_19 => absurd h_19 (by decide))
    refine v_iconst C (nI 0) dX10_above_26 (by decide) ?_
    exact n_iret C hRt rfl dX10_above_27 (by decide +kernel) rfl
set_option maxHeartbeats 4000000 in
set_option maxRecDepth 100000 in
theorem r_as (l : Launch) (G : GC) (M : Mm) (Y : Nat → Int32) (n hN : Nat) (hY : YOk Y n hN) (child kind : Int32) : CI l G 3 yX10_as cX10_as 4 .int [.ref (gb G + 205), .int child, .int kind] (upA M 206 Y) ((asS Y child kind).2.1) (PubR M (asS Y child kind).2.2 (asS Y child kind).1) := by
  refine Con.of (by decide +kernel) (Nat.le_of_ble_eq_true rfl) ?_
  intro f C hRm hRt _
  have h10 := hY.1.2.1
  have h5N := hY.1.2.2.2
  show Vc f G NPh (upA M 206 Y) 0 [(0, .ref (gb G + 205)), (1, .int child), (2, .int kind)] []
  refine v_aload_n C 0 dX10_as_0 rfl ?_
  refine v_iload_n C 1 dX10_as_1 rfl ?_
  refine v_iconst C (nI 0) dX10_as_2 (by decide) ?_
  refine n_callVp C hRm [.int child, .int (nI 0)] cw_X10_is ml_X10_95 (by decide) sh_205 (by decide) rfl (r_is l G M Y child 0 (by decide)) (by decide) rfl rfl (Nat.le_of_ble_eq_true rfl) dX10_as_3 ?_
  refine nb_if_eq C 19 dX10_as_6 rfl (fun h_6 => ?_) (fun h_6 => ?_)
  · skip
    refine v_aload_n C 0 dX10_as_19 rfl ?_
    refine v_ldc C (-1000001) kc_X10_80 dX10_as_20 ?_
    refine n_callVi C hRm [.int (-1000001)] cw_X10_finding ml_X10_81 (by decide) sh_205 (by decide) rfl (r_finding l G (upA M 206 Y) 1 (by decide) (-1000001) (by decide)) (by decide) rfl rfl (Nat.le_of_ble_eq_true rfl) dX10_as_22 (fun M5 hP_22 => ?_)
    subst hP_22
    refine v_mem (upA (fndM M 1) 206 Y) (fnd_upA _ _ _) ?_
    have hS : asS Y child kind = er 1 Y := by unfold asS; (try rw [nI_clamp (by omega)]); (try rw [nI_clamp (by omega)]); (first | rw [if_pos h_6] | rw [if_neg h_6] | rw [if_pos (congrArg nI h_6)] | rw [if_neg (fun q9 => h_6 ((nI_eq (by omega) (by omega)).mp q9))] | rw [if_neg (Nat.not_le.mpr h_6)] | rw [if_neg (Nat.not_lt.mpr h_6)] | skip); all_goals rfl
    exact n_iret C hRt rfl dX10_as_25 (by rw [hS] <;> rfl) (by rw [hS]; exact ⟨_, rfl, (eqM.rf M).tr (eqM.fnd _ (show (1 : Nat) ≠ 0 by decide))⟩)
  · skip
    obtain ⟨c, hc, rfl⟩ := is_nat hY.1.1 hY.1.2.1 h_6
    refine v_iload_n C 2 dX10_as_9 rfl ?_
    refine v_iconst C (nI 0) dX10_as_10 (by decide) ?_
    refine v_bipush C (nI 6) dX10_as_11 (by decide) ?_
    refine n_callSp C hRm [.int kind, .int (nI 0), .int (nI 6)] cw_X10_within st_X10_within ml_X10_72 (r_within l G (upA M 206 Y) kind (nI 0) (nI 6)) (by decide) rfl rfl (Nat.le_of_ble_eq_true rfl) dX10_as_13 ?_
    refine nb_if_ne C 26 dX10_as_16 rfl (fun h_16 => ?_) (fun h_16 => ?_)
    · skip
      obtain ⟨q, hq, rfl⟩ := within_nat (by decide) h_16
      refine v_aload_n C 0 dX10_as_26 rfl ?_
      refine v_iload_n C 1 dX10_as_27 rfl ?_
      refine v_iconst C (nI 0) dX10_as_28 (by decide) ?_
      obtain ⟨κ, hκ, hκ2⟩ := hY.2.1 c hc
      refine n_callVp C hRm [.int (nI c), .int (nI 0)] cw_X10_of ml_X10_86 (by decide) sh_205 (by decide) rfl (r_of l G M Y c 0 (by omega)) (by decide) rfl rfl (Nat.le_of_ble_eq_true rfl) dX10_as_29 ?_
      refine v_top (nI κ) hκ2 ?_
      have hkN : kN Y c = κ := cN_of hκ2 (by omega)
      refine v_istore_n C [(3, .int (nI κ)), (0, .ref (gb G + 205)), (1, .int (nI c)), (2, .int (nI q))] dX10_as_32 rfl (by decide) rfl ?_
      have LK : ∀ (kk : Nat) (j : Nat), dpN j = kk → j ≤ 7 → undB j q = undB κ q → Vc f G NPh (upA M 206 Y) 33 [(3, .int (kv j)), (0, .ref (gb G + 205)), (1, .int (nI c)), (2, .int (nI q))] [] := by
        intro kk
        induction kk using Nat.strongRecOn with
        | _ kk ihLK =>
          intro j hkk hj hu
          refine v_iload_n C 0 dX10_as_33 rfl ?_
          refine v_if_lt C 50 dX10_as_34 rfl (fun h_34 => ?_) (fun h_34 => ?_)
          · skip
            have hj7 := kv_neg j hj h_34
            subst hj7
            refine v_iload_n C 0 dX10_as_50 rfl ?_
            refine v_if_ge C 63 dX10_as_51 rfl (fun h_51 => ?_) (fun h_51 => ?_)
            · skip
              exact absurd h_51 (by decide)
            · skip
              refine v_aload_n C 1 dX10_as_54 rfl ?_
              refine v_ldc C (-1000005) kc_X10_105 dX10_as_55 ?_
              refine n_callVi C hRm [.int (-1000005)] cw_X10_finding ml_X10_81 (by decide) sh_205 (by decide) rfl (r_finding l G (upA M 206 Y) 5 (by decide) (-1000005) (by decide)) (by decide) rfl rfl (Nat.le_of_ble_eq_true rfl) dX10_as_57 (fun M5 hP_57 => ?_)
              subst hP_57
              refine v_mem (upA (fndM M 5) 206 Y) (fnd_upA _ _ _) ?_
              refine v_goto C 69 dX10_as_60 rfl ?_
              have hS : asS Y (nI c) (nI q) = er 5 Y := by unfold asS; rw [if_pos h_6, if_pos h_16, nI_clamp (by omega), nI_clamp (by omega), hkN, ← hu, if_neg (by rw [und_7 q (by omega)]; decide)]
              exact n_iret C hRt rfl dX10_as_69 (by rw [hS] <;> rfl) (by rw [hS]; exact ⟨_, rfl, (eqM.rf M).tr (eqM.fnd _ (show (5 : Nat) ≠ 0 by decide))⟩)
          · skip
            have hj7 := kv_nn j hj h_34
            rw [kv_lt hj7]
            have hdp := above_dp j hj7
            refine v_iload_n C 0 dX10_as_37 rfl ?_
            refine v_iload_n C 3 dX10_as_38 rfl ?_
            refine n_icmp_eq C (by omega) (by omega) 50 dX10_as_39 rfl (fun h_39 => ?_) (fun h_39 => ?_)
            · skip
              refine v_iload_n C 0 dX10_as_50 rfl ?_
              refine v_if_ge C 63 dX10_as_51 rfl (fun h_51 => ?_) (fun h_51 => ?_)
              · skip
                refine v_aload_n C 1 dX10_as_63 rfl ?_
                refine v_iload_n C 2 dX10_as_64 rfl ?_
                refine v_iconst C (nI 1) dX10_as_65 (by decide) ?_
                refine n_callVp C hRm [.int (nI c), .int (nI 1)] cw_X10_of ml_X10_86 (by decide) sh_205 (by decide) rfl (r_of l G M Y c 1 (by omega)) (by decide) rfl rfl (Nat.le_of_ble_eq_true rfl) dX10_as_66 ?_
                have hS : asS Y (nI c) (nI q) = (0, Y (7 + 6 * c + 1), Y) := by unfold asS; rw [if_pos h_6, if_pos h_16, nI_clamp (by omega), nI_clamp (by omega), hkN, ← hu, if_pos (by rw [h_39]; exact und_self q (by omega))]
                exact n_iret C hRt rfl dX10_as_69 (by rw [hS] <;> rfl) (by rw [hS]; exact ⟨_, rfl, eqM.rf M⟩)
              · skip
                exact absurd (nI_pos' (n := j) (by omega)) h_51
            · skip
              refine v_iload_n C 0 dX10_as_42 rfl ?_
              refine n_callSp C hRm [.int (nI j)] cw_X10_above st_X10_above ml_X10_102 (r_above l G (upA M 206 Y) j (by omega)) (by decide) rfl rfl (Nat.le_of_ble_eq_true rfl) dX10_as_43 ?_
              refine v_istore_n C [(3, .int (kv (aboveN j))), (0, .ref (gb G + 205)), (1, .int (nI c)), (2, .int (nI q))] dX10_as_46 rfl (by decide) rfl ?_
              refine v_goto C 33 dX10_as_47 rfl ?_
              refine v_sub [0, 1, 2, 3] [(3, .int (kv (aboveN j))), (0, .ref (gb G + 205)), (1, .int (nI c)), (2, .int (nI q))] rfl ?_
              exact ihLK _ (by omega) (aboveN j)  rfl (by exact above_le j hj7) (by exact (und_step j hj7 q (by omega) h_39).trans hu)
      refine v_sub [0, 1, 2, 3] [(3, .int (nI κ)), (0, .ref (gb G + 205)), (1, .int (nI c)), (2, .int (nI q))] rfl ?_
      rw [← kv_lt hκ]
      exact LK _ κ  rfl (by omega) (by rfl)
    · skip
      refine v_aload_n C 0 dX10_as_19 rfl ?_
      refine v_ldc C (-1000001) kc_X10_80 dX10_as_20 ?_
      refine n_callVi C hRm [.int (-1000001)] cw_X10_finding ml_X10_81 (by decide) sh_205 (by decide) rfl (r_finding l G (upA M 206 Y) 1 (by decide) (-1000001) (by decide)) (by decide) rfl rfl (Nat.le_of_ble_eq_true rfl) dX10_as_22 (fun M5 hP_22 => ?_)
      subst hP_22
      refine v_mem (upA (fndM M 1) 206 Y) (fnd_upA _ _ _) ?_
      have hS : asS Y (nI c) kind = er 1 Y := by unfold asS; (try rw [nI_clamp (by omega)]); (try rw [nI_clamp (by omega)]); (first | rw [if_pos h_6] | rw [if_neg h_6] | rw [if_pos (congrArg nI h_6)] | rw [if_neg (fun q9 => h_6 ((nI_eq (by omega) (by omega)).mp q9))] | rw [if_neg (Nat.not_le.mpr h_6)] | rw [if_neg (Nat.not_lt.mpr h_6)] | skip); (first | rw [if_pos h_16] | rw [if_neg h_16] | rw [if_pos (congrArg nI h_16)] | rw [if_neg (fun q9 => h_16 ((nI_eq (by omega) (by omega)).mp q9))] | rw [if_neg (Nat.not_le.mpr h_16)] | rw [if_neg (Nat.not_lt.mpr h_16)] | skip); all_goals rfl
      exact n_iret C hRt rfl dX10_as_25 (by rw [hS] <;> rfl) (by rw [hS]; exact ⟨_, rfl, (eqM.rf M).tr (eqM.fnd _ (show (1 : Nat) ≠ 0 by decide))⟩)
