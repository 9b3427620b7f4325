def setS (Y : Nat → Int32) (child what v : Int32) : O3 := if nI 0 ≤ child ∧ child ≤ Y 0 - nI 1 then (if nI 0 ≤ what ∧ what ≤ nI 3 then (if what = 0 then (if nI 0 ≤ v ∧ v ≤ nI 6 then (0, Y (7 + 6 * child.toNatClampNeg + what.toNatClampNeg), upd Y (7 + 6 * child.toNatClampNeg + what.toNatClampNeg) v) else er 1 Y) else (if what = nI 3 then (if nI 0 ≤ v ∧ v ≤ nI 1 then (0, Y (7 + 6 * child.toNatClampNeg + what.toNatClampNeg), upd Y (7 + 6 * child.toNatClampNeg + what.toNatClampNeg) v) else er 1 Y) else (if nI 0 ≤ v ∧ v ≤ nI 99 then (0, Y (7 + 6 * child.toNatClampNeg + what.toNatClampNeg), upd Y (7 + 6 * child.toNatClampNeg + what.toNatClampNeg) v) else er 1 Y))) else er 1 Y) else er 1 Y
set_option maxHeartbeats 4000000 in
set_option maxRecDepth 100000 in
theorem r_set (l : Launch) (G : GC) (M : Mm) (Y : Nat → Int32) (n hN : Nat) (hY : YOk Y n hN) (child what v : Int32) : CI l G 3 yX10_set cX10_set 5 .int [.ref (gb G + 205), .int child, .int what, .int v] (upA M 206 Y) ((setS Y child what v).2.1) (PubR M (setS Y child what v).2.2 (setS Y child what v).1) := by
  refine Con.of (by decide +kernel) (Nat.le_of_ble_eq_true rfl) ?_
  intro f C hRm hRt _
  show Vc f G NPh (upA M 206 Y) 0 [(0, .ref (gb G + 205)), (1, .int child), (2, .int what), (3, .int v)] []
  have h10 := hY.1.2.1
  have h5N := hY.1.2.2.2
  refine v_aload_n C 0 dX10_set_0 rfl ?_
  refine v_iload_n C 1 dX10_set_1 rfl ?_
  refine v_iconst C (nI 0) dX10_set_2 (by decide) ?_
  refine n_callVp C hRm [.int child, .int (nI 0)] cw_X10_is ml_X10_95 (by decide) sh_205 (by decide) rfl (r_is l G M Y child 0 (by decide)) (by decide) rfl rfl (Nat.le_of_ble_eq_true rfl) dX10_set_3 ?_
  refine nb_if_eq C 50 dX10_set_6 rfl (fun h_6 => ?_) (fun h_6 => ?_)
  · skip
    refine v_iconst C (nI 0) dX10_set_50 (by decide) ?_
    refine v_istore C [(4, .int (nI 0)), (0, .ref (gb G + 205)), (1, .int child), (2, .int what), (3, .int v)] dX10_set_51 (by decide) rfl ?_
    refine v_iload C 0 dX10_set_53 rfl ?_
    refine n_if_eq C (by omega) 75 dX10_set_55 rfl (fun _ => ?_) (fun h_55 => absurd h_55 (by decide))
    refine v_aload_n C 1 dX10_set_75 rfl ?_
    refine v_ldc C (-1000001) kc_X10_80 dX10_set_76 ?_
    refine n_callVi C hRm [.int (-1000001)] cw_X10_finding ml_X10_81 (by decide) sh_205 (by decide) rfl (r_finding l G (upA M 206 Y) 1 (by decide) (-1000001) (by decide)) (by decide) rfl rfl (Nat.le_of_ble_eq_true rfl) dX10_set_78 (fun M5 hP_78 => ?_)
    subst hP_78
    refine v_mem (upA (fndM M 1) 206 Y) (fnd_upA _ _ _) ?_
    have hS : setS Y child what v = er 1 Y := by unfold setS; (try rw [nI_clamp (by omega)]); (try rw [show what.toNatClampNeg = q by rw [hq2, nI_clamp (by omega)]]); (first | rw [if_pos h_6] | rw [if_neg h_6] | rw [if_pos (congrArg nI h_6)] | rw [if_neg (fun q9 => h_6 ((nI_eq (by omega) (by omega)).mp q9))] | rw [if_neg (Nat.not_le.mpr h_6)] | rw [if_neg (Nat.not_lt.mpr h_6)] | skip); all_goals rfl
    exact n_iret C hRt rfl dX10_set_81 (by rw [hS] <;> rfl) (by rw [hS]; exact ⟨_, rfl, (eqM.rf M).tr (eqM.fnd _ (show (1 : Nat) ≠ 0 by decide))⟩)
  · skip
    obtain ⟨c, hc, rfl⟩ := is_nat hY.1.1 hY.1.2.1 h_6
    refine v_iload_n C 2 dX10_set_9 rfl ?_
    refine v_iconst C (nI 0) dX10_set_10 (by decide) ?_
    refine v_iconst C (nI 3) dX10_set_11 (by decide) ?_
    refine n_callSp C hRm [.int what, .int (nI 0), .int (nI 3)] cw_X10_within st_X10_within ml_X10_72 (r_within l G (upA M 206 Y) what (nI 0) (nI 3)) (by decide) rfl rfl (Nat.le_of_ble_eq_true rfl) dX10_set_12 ?_
    refine nb_if_eq C 50 dX10_set_15 rfl (fun h_15 => ?_) (fun h_15 => ?_)
    · skip
      refine v_iconst C (nI 0) dX10_set_50 (by decide) ?_
      refine v_istore C [(4, .int (nI 0)), (0, .ref (gb G + 205)), (1, .int (nI c)), (2, .int what), (3, .int v)] dX10_set_51 (by decide) rfl ?_
      refine v_iload C 0 dX10_set_53 rfl ?_
      refine n_if_eq C (by omega) 75 dX10_set_55 rfl (fun _ => ?_) (fun h_55 => absurd h_55 (by decide))
      refine v_aload_n C 1 dX10_set_75 rfl ?_
      refine v_ldc C (-1000001) kc_X10_80 dX10_set_76 ?_
      refine n_callVi C hRm [.int (-1000001)] cw_X10_finding ml_X10_81 (by decide) sh_205 (by decide) rfl (r_finding l G (upA M 206 Y) 1 (by decide) (-1000001) (by decide)) (by decide) rfl rfl (Nat.le_of_ble_eq_true rfl) dX10_set_78 (fun M5 hP_78 => ?_)
      subst hP_78
      refine v_mem (upA (fndM M 1) 206 Y) (fnd_upA _ _ _) ?_
      have hS : setS Y (nI c) what v = er 1 Y := by unfold setS; (try rw [nI_clamp (by omega)]); (try rw [show what.toNatClampNeg = q by rw [hq2, nI_clamp (by omega)]]); (first | rw [if_pos h_6] | rw [if_neg h_6] | rw [if_pos (congrArg nI h_6)] | rw [if_neg (fun q9 => h_6 ((nI_eq (by omega) (by omega)).mp q9))] | rw [if_neg (Nat.not_le.mpr h_6)] | rw [if_neg (Nat.not_lt.mpr h_6)] | skip); (first | rw [if_pos h_15] | rw [if_neg h_15] | rw [if_pos (congrArg nI h_15)] | rw [if_neg (fun q9 => h_15 ((nI_eq (by omega) (by omega)).mp q9))] | rw [if_neg (Nat.not_le.mpr h_15)] | rw [if_neg (Nat.not_lt.mpr h_15)] | skip); all_goals rfl
      exact n_iret C hRt rfl dX10_set_81 (by rw [hS] <;> rfl) (by rw [hS]; exact ⟨_, rfl, (eqM.rf M).tr (eqM.fnd _ (show (1 : Nat) ≠ 0 by decide))⟩)
    · skip
      refine v_iload_n C 3 dX10_set_18 rfl ?_
      refine v_iconst C (nI 0) dX10_set_19 (by decide) ?_
      refine v_iload_n C 2 dX10_set_20 rfl ?_
      refine v_if_ne C 29 dX10_set_21 rfl (fun h_21 => ?_) (fun h_21 => ?_)
      · skip
        refine v_iload_n C 2 dX10_set_29 rfl ?_
        refine v_iconst C (nI 3) dX10_set_30 (by decide) ?_
        refine v_icmp_ne C 38 dX10_set_31 rfl (fun h_31 => ?_) (fun h_31 => ?_)
        · skip
          refine v_bipush C (nI 99) dX10_set_38 (by decide) ?_
          refine n_callSp C hRm [.int v, .int (nI 0), .int (nI 99)] cw_X10_within st_X10_within ml_X10_72 (r_within l G (upA M 206 Y) v (nI 0) (nI 99)) (by decide) rfl rfl (Nat.le_of_ble_eq_true rfl) dX10_set_40 ?_
          refine nb_if_eq C 50 dX10_set_43 rfl (fun h_43 => ?_) (fun h_43 => ?_)
          · skip
            refine v_iconst C (nI 0) dX10_set_50 (by decide) ?_
            refine v_istore C [(4, .int (nI 0)), (0, .ref (gb G + 205)), (1, .int (nI c)), (2, .int what), (3, .int v)] dX10_set_51 (by decide) rfl ?_
            refine v_iload C 0 dX10_set_53 rfl ?_
            refine n_if_eq C (by omega) 75 dX10_set_55 rfl (fun _ => ?_) (fun h_55 => absurd h_55 (by decide))
            refine v_aload_n C 1 dX10_set_75 rfl ?_
            refine v_ldc C (-1000001) kc_X10_80 dX10_set_76 ?_
            refine n_callVi C hRm [.int (-1000001)] cw_X10_finding ml_X10_81 (by decide) sh_205 (by decide) rfl (r_finding l G (upA M 206 Y) 1 (by decide) (-1000001) (by decide)) (by decide) rfl rfl (Nat.le_of_ble_eq_true rfl) dX10_set_78 (fun M5 hP_78 => ?_)
            subst hP_78
            refine v_mem (upA (fndM M 1) 206 Y) (fnd_upA _ _ _) ?_
            have hS : setS Y (nI c) what v = er 1 Y := by unfold setS; (try rw [nI_clamp (by omega)]); (try rw [show what.toNatClampNeg = q by rw [hq2, nI_clamp (by omega)]]); (first | rw [if_pos h_6] | rw [if_neg h_6] | rw [if_pos (congrArg nI h_6)] | rw [if_neg (fun q9 => h_6 ((nI_eq (by omega) (by omega)).mp q9))] | rw [if_neg (Nat.not_le.mpr h_6)] | rw [if_neg (Nat.not_lt.mpr h_6)] | skip); (first | rw [if_pos h_15] | rw [if_neg h_15] | rw [if_pos (congrArg nI h_15)] | rw [if_neg (fun q9 => h_15 ((nI_eq (by omega) (by omega)).mp q9))] | rw [if_neg (Nat.not_le.mpr h_15)] | rw [if_neg (Nat.not_lt.mpr h_15)] | skip); (first | rw [if_pos h_21] | rw [if_neg h_21] | rw [if_pos (congrArg nI h_21)] | rw [if_neg (fun q9 => h_21 ((nI_eq (by omega) (by omega)).mp q9))] | rw [if_neg (Nat.not_le.mpr h_21)] | rw [if_neg (Nat.not_lt.mpr h_21)] | skip); (first | rw [if_pos h_31] | rw [if_neg h_31] | rw [if_pos (congrArg nI h_31)] | rw [if_neg (fun q9 => h_31 ((nI_eq (by omega) (by omega)).mp q9))] | rw [if_neg (Nat.not_le.mpr h_31)] | rw [if_neg (Nat.not_lt.mpr h_31)] | skip); (first | rw [if_pos h_43] | rw [if_neg h_43] | rw [if_pos (congrArg nI h_43)] | rw [if_neg (fun q9 => h_43 ((nI_eq (by omega) (by omega)).mp q9))] | rw [if_neg (Nat.not_le.mpr h_43)] | rw [if_neg (Nat.not_lt.mpr h_43)] | skip); all_goals rfl
            exact n_iret C hRt rfl dX10_set_81 (by rw [hS] <;> rfl) (by rw [hS]; exact ⟨_, rfl, (eqM.rf M).tr (eqM.fnd _ (show (1 : Nat) ≠ 0 by decide))⟩)
          · skip
            refine v_iconst C (nI 1) dX10_set_46 (by decide) ?_
            refine v_goto C 51 dX10_set_47 rfl ?_
            refine v_istore C [(4, .int (nI 1)), (0, .ref (gb G + 205)), (1, .int (nI c)), (2, .int what), (3, .int v)] dX10_set_51 (by decide) rfl ?_
            refine v_iload C 0 dX10_set_53 rfl ?_
            refine n_if_eq C (by omega) 75 dX10_set_55 rfl (fun h_55 => absurd h_55 (by decide)) (fun _ => ?_)
            refine v_aload_n C 1 dX10_set_58 rfl ?_
            refine v_bipush C (nI 7) dX10_set_59 (by decide) ?_
            refine v_bipush C (nI 6) dX10_set_61 (by decide) ?_
            refine v_iload_n C 2 dX10_set_63 rfl ?_
            refine n_imul C dX10_set_64 ?_
            refine n_iadd C dX10_set_65 ?_
            refine v_iload_n C 3 dX10_set_66 rfl ?_
            refine v_iadd C dX10_set_67 ?_
            obtain ⟨q, hq, hq2⟩ := within_nat (by decide) h_15
            refine v_top (nI (7 + 6 * c + q)) (by rw [hq2, nI_add]) ?_
            refine v_iload_n C 4 dX10_set_68 rfl ?_
            refine n_callVi C hRm [.int (nI (7 + 6 * c + q)), .int v] cw_X10_become ml_X10_106 (by decide) sh_205 (by decide) rfl (r_become l G M Y (7 + 6 * c + q) v (by omega)) (by decide) rfl rfl (Nat.le_of_ble_eq_true rfl) dX10_set_69 (fun M5 hP_69 => ?_)
            subst hP_69
            refine v_goto C 81 dX10_set_72 rfl ?_
            have hS : setS Y (nI c) what v = (0, Y (7 + 6 * c + q), upd Y (7 + 6 * c + q) v) := by unfold setS; (try rw [nI_clamp (by omega)]); (try rw [show what.toNatClampNeg = q by rw [hq2, nI_clamp (by omega)]]); (first | rw [if_pos h_6] | rw [if_neg h_6] | rw [if_pos (congrArg nI h_6)] | rw [if_neg (fun q9 => h_6 ((nI_eq (by omega) (by omega)).mp q9))] | rw [if_neg (Nat.not_le.mpr h_6)] | rw [if_neg (Nat.not_lt.mpr h_6)] | skip); (first | rw [if_pos h_15] | rw [if_neg h_15] | rw [if_pos (congrArg nI h_15)] | rw [if_neg (fun q9 => h_15 ((nI_eq (by omega) (by omega)).mp q9))] | rw [if_neg (Nat.not_le.mpr h_15)] | rw [if_neg (Nat.not_lt.mpr h_15)] | skip); (first | rw [if_pos h_21] | rw [if_neg h_21] | rw [if_pos (congrArg nI h_21)] | rw [if_neg (fun q9 => h_21 ((nI_eq (by omega) (by omega)).mp q9))] | rw [if_neg (Nat.not_le.mpr h_21)] | rw [if_neg (Nat.not_lt.mpr h_21)] | skip); (first | rw [if_pos h_31] | rw [if_neg h_31] | rw [if_pos (congrArg nI h_31)] | rw [if_neg (fun q9 => h_31 ((nI_eq (by omega) (by omega)).mp q9))] | rw [if_neg (Nat.not_le.mpr h_31)] | rw [if_neg (Nat.not_lt.mpr h_31)] | skip); (first | rw [if_pos h_43] | rw [if_neg h_43] | rw [if_pos (congrArg nI h_43)] | rw [if_neg (fun q9 => h_43 ((nI_eq (by omega) (by omega)).mp q9))] | rw [if_neg (Nat.not_le.mpr h_43)] | rw [if_neg (Nat.not_lt.mpr h_43)] | skip); all_goals rfl
            exact n_iret C hRt rfl dX10_set_81 (by rw [hS] <;> rfl) (by rw [hS]; exact ⟨_, rfl, eqM.rf M⟩)
        · skip
          refine v_iconst C (nI 1) dX10_set_34 (by decide) ?_
          refine v_goto C 40 dX10_set_35 rfl ?_
          refine n_callSp C hRm [.int v, .int (nI 0), .int (nI 1)] cw_X10_within st_X10_within ml_X10_72 (r_within l G (upA M 206 Y) v (nI 0) (nI 1)) (by decide) rfl rfl (Nat.le_of_ble_eq_true rfl) dX10_set_40 ?_
          refine nb_if_eq C 50 dX10_set_43 rfl (fun h_43 => ?_) (fun h_43 => ?_)
          · skip
            refine v_iconst C (nI 0) dX10_set_50 (by decide) ?_
            refine v_istore C [(4, .int (nI 0)), (0, .ref (gb G + 205)), (1, .int (nI c)), (2, .int what), (3, .int v)] dX10_set_51 (by decide) rfl ?_
            refine v_iload C 0 dX10_set_53 rfl ?_
            refine n_if_eq C (by omega) 75 dX10_set_55 rfl (fun _ => ?_) (fun h_55 => absurd h_55 (by decide))
            refine v_aload_n C 1 dX10_set_75 rfl ?_
            refine v_ldc C (-1000001) kc_X10_80 dX10_set_76 ?_
            refine n_callVi C hRm [.int (-1000001)] cw_X10_finding ml_X10_81 (by decide) sh_205 (by decide) rfl (r_finding l G (upA M 206 Y) 1 (by decide) (-1000001) (by decide)) (by decide) rfl rfl (Nat.le_of_ble_eq_true rfl) dX10_set_78 (fun M5 hP_78 => ?_)
            subst hP_78
            refine v_mem (upA (fndM M 1) 206 Y) (fnd_upA _ _ _) ?_
            have hS : setS Y (nI c) what v = er 1 Y := by unfold setS; (try rw [nI_clamp (by omega)]); (try rw [show what.toNatClampNeg = q by rw [hq2, nI_clamp (by omega)]]); (first | rw [if_pos h_6] | rw [if_neg h_6] | rw [if_pos (congrArg nI h_6)] | rw [if_neg (fun q9 => h_6 ((nI_eq (by omega) (by omega)).mp q9))] | rw [if_neg (Nat.not_le.mpr h_6)] | rw [if_neg (Nat.not_lt.mpr h_6)] | skip); (first | rw [if_pos h_15] | rw [if_neg h_15] | rw [if_pos (congrArg nI h_15)] | rw [if_neg (fun q9 => h_15 ((nI_eq (by omega) (by omega)).mp q9))] | rw [if_neg (Nat.not_le.mpr h_15)] | rw [if_neg (Nat.not_lt.mpr h_15)] | skip); (first | rw [if_pos h_21] | rw [if_neg h_21] | rw [if_pos (congrArg nI h_21)] | rw [if_neg (fun q9 => h_21 ((nI_eq (by omega) (by omega)).mp q9))] | rw [if_neg (Nat.not_le.mpr h_21)] | rw [if_neg (Nat.not_lt.mpr h_21)] | skip); (first | rw [if_pos h_31] | rw [if_neg h_31] | rw [if_pos (congrArg nI h_31)] | rw [if_neg (fun q9 => h_31 ((nI_eq (by omega) (by omega)).mp q9))] | rw [if_neg (Nat.not_le.mpr h_31)] | rw [if_neg (Nat.not_lt.mpr h_31)] | skip); (first | rw [if_pos h_43] | rw [if_neg h_43] | rw [if_pos (congrArg nI h_43)] | rw [if_neg (fun q9 => h_43 ((nI_eq (by omega) (by omega)).mp q9))] | rw [if_neg (Nat.not_le.mpr h_43)] | rw [if_neg (Nat.not_lt.mpr h_43)] | skip); all_goals rfl
            exact n_iret C hRt rfl dX10_set_81 (by rw [hS] <;> rfl) (by rw [hS]; exact ⟨_, rfl, (eqM.rf M).tr (eqM.fnd _ (show (1 : Nat) ≠ 0 by decide))⟩)
          · skip
            refine v_iconst C (nI 1) dX10_set_46 (by decide) ?_
            refine v_goto C 51 dX10_set_47 rfl ?_
            refine v_istore C [(4, .int (nI 1)), (0, .ref (gb G + 205)), (1, .int (nI c)), (2, .int what), (3, .int v)] dX10_set_51 (by decide) rfl ?_
            refine v_iload C 0 dX10_set_53 rfl ?_
            refine n_if_eq C (by omega) 75 dX10_set_55 rfl (fun h_55 => absurd h_55 (by decide)) (fun _ => ?_)
            refine v_aload_n C 1 dX10_set_58 rfl ?_
            refine v_bipush C (nI 7) dX10_set_59 (by decide) ?_
            refine v_bipush C (nI 6) dX10_set_61 (by decide) ?_
            refine v_iload_n C 2 dX10_set_63 rfl ?_
            refine n_imul C dX10_set_64 ?_
            refine n_iadd C dX10_set_65 ?_
            refine v_iload_n C 3 dX10_set_66 rfl ?_
            refine v_iadd C dX10_set_67 ?_
            obtain ⟨q, hq, hq2⟩ := within_nat (by decide) h_15
            refine v_top (nI (7 + 6 * c + q)) (by rw [hq2, nI_add]) ?_
            refine v_iload_n C 4 dX10_set_68 rfl ?_
            refine n_callVi C hRm [.int (nI (7 + 6 * c + q)), .int v] cw_X10_become ml_X10_106 (by decide) sh_205 (by decide) rfl (r_become l G M Y (7 + 6 * c + q) v (by omega)) (by decide) rfl rfl (Nat.le_of_ble_eq_true rfl) dX10_set_69 (fun M5 hP_69 => ?_)
            subst hP_69
            refine v_goto C 81 dX10_set_72 rfl ?_
            have hS : setS Y (nI c) what v = (0, Y (7 + 6 * c + q), upd Y (7 + 6 * c + q) v) := by unfold setS; (try rw [nI_clamp (by omega)]); (try rw [show what.toNatClampNeg = q by rw [hq2, nI_clamp (by omega)]]); (first | rw [if_pos h_6] | rw [if_neg h_6] | rw [if_pos (congrArg nI h_6)] | rw [if_neg (fun q9 => h_6 ((nI_eq (by omega) (by omega)).mp q9))] | rw [if_neg (Nat.not_le.mpr h_6)] | rw [if_neg (Nat.not_lt.mpr h_6)] | skip); (first | rw [if_pos h_15] | rw [if_neg h_15] | rw [if_pos (congrArg nI h_15)] | rw [if_neg (fun q9 => h_15 ((nI_eq (by omega) (by omega)).mp q9))] | rw [if_neg (Nat.not_le.mpr h_15)] | rw [if_neg (Nat.not_lt.mpr h_15)] | skip); (first | rw [if_pos h_21] | rw [if_neg h_21] | rw [if_pos (congrArg nI h_21)] | rw [if_neg (fun q9 => h_21 ((nI_eq (by omega) (by omega)).mp q9))] | rw [if_neg (Nat.not_le.mpr h_21)] | rw [if_neg (Nat.not_lt.mpr h_21)] | skip); (first | rw [if_pos h_31] | rw [if_neg h_31] | rw [if_pos (congrArg nI h_31)] | rw [if_neg (fun q9 => h_31 ((nI_eq (by omega) (by omega)).mp q9))] | rw [if_neg (Nat.not_le.mpr h_31)] | rw [if_neg (Nat.not_lt.mpr h_31)] | skip); (first | rw [if_pos h_43] | rw [if_neg h_43] | rw [if_pos (congrArg nI h_43)] | rw [if_neg (fun q9 => h_43 ((nI_eq (by omega) (by omega)).mp q9))] | rw [if_neg (Nat.not_le.mpr h_43)] | rw [if_neg (Nat.not_lt.mpr h_43)] | skip); all_goals rfl
            exact n_iret C hRt rfl dX10_set_81 (by rw [hS] <;> rfl) (by rw [hS]; exact ⟨_, rfl, eqM.rf M⟩)
      · skip
        refine v_bipush C (nI 6) dX10_set_24 (by decide) ?_
        refine v_goto C 40 dX10_set_26 rfl ?_
        refine n_callSp C hRm [.int v, .int (nI 0), .int (nI 6)] cw_X10_within st_X10_within ml_X10_72 (r_within l G (upA M 206 Y) v (nI 0) (nI 6)) (by decide) rfl rfl (Nat.le_of_ble_eq_true rfl) dX10_set_40 ?_
        refine nb_if_eq C 50 dX10_set_43 rfl (fun h_43 => ?_) (fun h_43 => ?_)
        · skip
          refine v_iconst C (nI 0) dX10_set_50 (by decide) ?_
          refine v_istore C [(4, .int (nI 0)), (0, .ref (gb G + 205)), (1, .int (nI c)), (2, .int what), (3, .int v)] dX10_set_51 (by decide) rfl ?_
          refine v_iload C 0 dX10_set_53 rfl ?_
          refine n_if_eq C (by omega) 75 dX10_set_55 rfl (fun _ => ?_) (fun h_55 => absurd h_55 (by decide))
          refine v_aload_n C 1 dX10_set_75 rfl ?_
          refine v_ldc C (-1000001) kc_X10_80 dX10_set_76 ?_
          refine n_callVi C hRm [.int (-1000001)] cw_X10_finding ml_X10_81 (by decide) sh_205 (by decide) rfl (r_finding l G (upA M 206 Y) 1 (by decide) (-1000001) (by decide)) (by decide) rfl rfl (Nat.le_of_ble_eq_true rfl) dX10_set_78 (fun M5 hP_78 => ?_)
          subst hP_78
          refine v_mem (upA (fndM M 1) 206 Y) (fnd_upA _ _ _) ?_
          have hS : setS Y (nI c) what v = er 1 Y := by unfold setS; (try rw [nI_clamp (by omega)]); (try rw [show what.toNatClampNeg = q by rw [hq2, nI_clamp (by omega)]]); (first | rw [if_pos h_6] | rw [if_neg h_6] | rw [if_pos (congrArg nI h_6)] | rw [if_neg (fun q9 => h_6 ((nI_eq (by omega) (by omega)).mp q9))] | rw [if_neg (Nat.not_le.mpr h_6)] | rw [if_neg (Nat.not_lt.mpr h_6)] | skip); (first | rw [if_pos h_15] | rw [if_neg h_15] | rw [if_pos (congrArg nI h_15)] | rw [if_neg (fun q9 => h_15 ((nI_eq (by omega) (by omega)).mp q9))] | rw [if_neg (Nat.not_le.mpr h_15)] | rw [if_neg (Nat.not_lt.mpr h_15)] | skip); (first | rw [if_pos h_21] | rw [if_neg h_21] | rw [if_pos (congrArg nI h_21)] | rw [if_neg (fun q9 => h_21 ((nI_eq (by omega) (by omega)).mp q9))] | rw [if_neg (Nat.not_le.mpr h_21)] | rw [if_neg (Nat.not_lt.mpr h_21)] | skip); (first | rw [if_pos h_43] | rw [if_neg h_43] | rw [if_pos (congrArg nI h_43)] | rw [if_neg (fun q9 => h_43 ((nI_eq (by omega) (by omega)).mp q9))] | rw [if_neg (Nat.not_le.mpr h_43)] | rw [if_neg (Nat.not_lt.mpr h_43)] | skip); all_goals rfl
          exact n_iret C hRt rfl dX10_set_81 (by rw [hS] <;> rfl) (by rw [hS]; exact ⟨_, rfl, (eqM.rf M).tr (eqM.fnd _ (show (1 : Nat) ≠ 0 by decide))⟩)
        · skip
          refine v_iconst C (nI 1) dX10_set_46 (by decide) ?_
          refine v_goto C 51 dX10_set_47 rfl ?_
          refine v_istore C [(4, .int (nI 1)), (0, .ref (gb G + 205)), (1, .int (nI c)), (2, .int what), (3, .int v)] dX10_set_51 (by decide) rfl ?_
          refine v_iload C 0 dX10_set_53 rfl ?_
          refine n_if_eq C (by omega) 75 dX10_set_55 rfl (fun h_55 => absurd h_55 (by decide)) (fun _ => ?_)
          refine v_aload_n C 1 dX10_set_58 rfl ?_
          refine v_bipush C (nI 7) dX10_set_59 (by decide) ?_
          refine v_bipush C (nI 6) dX10_set_61 (by decide) ?_
          refine v_iload_n C 2 dX10_set_63 rfl ?_
          refine n_imul C dX10_set_64 ?_
          refine n_iadd C dX10_set_65 ?_
          refine v_iload_n C 3 dX10_set_66 rfl ?_
          refine v_iadd C dX10_set_67 ?_
          obtain ⟨q, hq, hq2⟩ := within_nat (by decide) h_15
          refine v_top (nI (7 + 6 * c + q)) (by rw [hq2, nI_add]) ?_
          refine v_iload_n C 4 dX10_set_68 rfl ?_
          refine n_callVi C hRm [.int (nI (7 + 6 * c + q)), .int v] cw_X10_become ml_X10_106 (by decide) sh_205 (by decide) rfl (r_become l G M Y (7 + 6 * c + q) v (by omega)) (by decide) rfl rfl (Nat.le_of_ble_eq_true rfl) dX10_set_69 (fun M5 hP_69 => ?_)
          subst hP_69
          refine v_goto C 81 dX10_set_72 rfl ?_
          have hS : setS Y (nI c) what v = (0, Y (7 + 6 * c + q), upd Y (7 + 6 * c + q) v) := by unfold setS; (try rw [nI_clamp (by omega)]); (try rw [show what.toNatClampNeg = q by rw [hq2, nI_clamp (by omega)]]); (first | rw [if_pos h_6] | rw [if_neg h_6] | rw [if_pos (congrArg nI h_6)] | rw [if_neg (fun q9 => h_6 ((nI_eq (by omega) (by omega)).mp q9))] | rw [if_neg (Nat.not_le.mpr h_6)] | rw [if_neg (Nat.not_lt.mpr h_6)] | skip); (first | rw [if_pos h_15] | rw [if_neg h_15] | rw [if_pos (congrArg nI h_15)] | rw [if_neg (fun q9 => h_15 ((nI_eq (by omega) (by omega)).mp q9))] | rw [if_neg (Nat.not_le.mpr h_15)] | rw [if_neg (Nat.not_lt.mpr h_15)] | skip); (first | rw [if_pos h_21] | rw [if_neg h_21] | rw [if_pos (congrArg nI h_21)] | rw [if_neg (fun q9 => h_21 ((nI_eq (by omega) (by omega)).mp q9))] | rw [if_neg (Nat.not_le.mpr h_21)] | rw [if_neg (Nat.not_lt.mpr h_21)] | skip); (first | rw [if_pos h_43] | rw [if_neg h_43] | rw [if_pos (congrArg nI h_43)] | rw [if_neg (fun q9 => h_43 ((nI_eq (by omega) (by omega)).mp q9))] | rw [if_neg (Nat.not_le.mpr h_43)] | rw [if_neg (Nat.not_lt.mpr h_43)] | skip); all_goals rfl
          exact n_iret C hRt rfl dX10_set_81 (by rw [hS] <;> rfl) (by rw [hS]; exact ⟨_, rfl, eqM.rf M⟩)
def likesS (Y : Nat → Int32) (one other v : Int32) : O3 := if nI 0 ≤ one ∧ one ≤ Y 0 - nI 1 then (if nI 0 ≤ other ∧ other ≤ Y 0 - nI 1 then (if one = other then er 1 Y else (if nI 0 ≤ v ∧ v ≤ nI 99 then (0, Y (67 + 10 * one.toNatClampNeg + other.toNatClampNeg), upd Y (67 + 10 * one.toNatClampNeg + other.toNatClampNeg) v) else er 1 Y)) else er 1 Y) else er 1 Y
def heapY (Y : Nat → Int32) (hN : Nat) (least most : Int32) : Nat → Int32 := upd (upd (upd (upd (upd Y (167 + 4 * hN + 0) least) (167 + 4 * hN + 1) most) (167 + 4 * hN + 2) (nI 30)) (167 + 4 * hN + 3) (nI 0)) 1 (nI (hN + 1))
def heapS (Y : Nat → Int32) (hN : Nat) (least most : Int32) : O3 := if nI 1 ≤ least ∧ least ≤ nI 10 then (if least ≤ most ∧ most ≤ nI 10 then (if hN = 5 then er 4 Y else (0, nI hN, heapY Y hN least most)) else er 1 Y) else er 1 Y
def heapIsS (Y : Nat → Int32) (n : Nat) (heap what : Int32) : O3 := if nI 0 ≤ heap ∧ heap ≤ Y 1 - nI 1 then (if nI 0 ≤ what ∧ what ≤ nI 4 then (if nI 3 ≤ what then (if what = nI 3 then (0, inA Y heap n, Y) else (0, Y (167 + 4 * heap.toNatClampNeg + 3), Y)) else (0, Y (167 + 4 * heap.toNatClampNeg + what.toNatClampNeg), Y)) else er 1 Y) else er 1 Y
def ruleS (Y : Nat → Int32) (heap v : Int32) : O3 := if nI 0 ≤ heap ∧ heap ≤ Y 1 - nI 1 then (if nI 0 ≤ v ∧ v ≤ nI 99 then (0, Y (167 + 4 * heap.toNatClampNeg + 2), upd Y (167 + 4 * heap.toNatClampNeg + 2) v) else er 1 Y) else er 1 Y
noncomputable def joinS (Y : Nat → Int32) (n hN : Nat) (child heap : Int32) : O3 := if nI 0 ≤ child ∧ child ≤ Y 0 - nI 1 then (if nI 0 ≤ heap ∧ heap ≤ Y 1 - nI 1 then (if Y (7 + 6 * child.toNatClampNeg + 4) = heap then er 3 Y else (0, nI (popN (mskA (goesS Y n hN child.toNatClampNeg heap) heap n)), goesS Y n hN child.toNatClampNeg heap)) else er 1 Y) else er 1 Y
noncomputable def leaveS (Y : Nat → Int32) (n hN : Nat) (child : Int32) : O3 := if nI 0 ≤ child ∧ child ≤ Y 0 - nI 1 then (if 0 ≤ Y (7 + 6 * child.toNatClampNeg + 4) then (0, Y (7 + 6 * child.toNatClampNeg + 4), goesS Y n hN child.toNatClampNeg (-1)) else er 3 Y) else er 1 Y
def betweenS (Y : Nat → Int32) (n : Nat) (child heap what : Int32) : O3 := if nI 0 ≤ child ∧ child ≤ Y 0 - nI 1 then (if nI 0 ≤ heap ∧ heap ≤ Y 1 - nI 1 then (if nI 0 ≤ what ∧ what ≤ nI 2 then (if what = 0 then (0, warmS Y n heap.toNatClampNeg child.toNatClampNeg, Y) else (if what = nI 1 then (0, chS Y n heap.toNatClampNeg child.toNatClampNeg, Y) else (0, Y (187 + 5 * child.toNatClampNeg + heap.toNatClampNeg), Y))) else er 1 Y) else er 1 Y) else er 1 Y
noncomputable def minutesS (Y : Nat → Int32) (n hN : Nat) (k : Int32) : O3 := if nI 1 ≤ k ∧ k ≤ nI 60 then (if Y 2 + k ≤ (99999) then (0, sorA (passS Y n hN k.toNatClampNeg) n, passS Y n hN k.toNatClampNeg) else er 3 Y) else er 1 Y
set_option maxHeartbeats 4000000 in
set_option maxRecDepth 100000 in
theorem r_likes (l : Launch) (G : GC) (M : Mm) (Y : Nat → Int32) (n hN : Nat) (hY : YOk Y n hN) (one other v : Int32) : CI l G 3 yX10_likes cX10_likes 5 .int [.ref (gb G + 205), .int one, .int other, .int v] (upA M 206 Y) ((likesS Y one other v).2.1) (PubR M (likesS Y one other v).2.2 (likesS Y one other v).1) := by
  refine Con.of (by decide +kernel) (Nat.le_of_ble_eq_true rfl) ?_
  intro f C hRm hRt _
  show Vc f G NPh (upA M 206 Y) 0 [(0, .ref (gb G + 205)), (1, .int one), (2, .int other), (3, .int v)] []
  have h10 := hY.1.2.1
  have h5N := hY.1.2.2.2
  refine v_aload_n C 0 dX10_likes_0 rfl ?_
  refine v_iload_n C 1 dX10_likes_1 rfl ?_
  refine v_iconst C (nI 0) dX10_likes_2 (by decide) ?_
  refine n_callVp C hRm [.int one, .int (nI 0)] cw_X10_is ml_X10_95 (by decide) sh_205 (by decide) rfl (r_is l G M Y one 0 (by decide)) (by decide) rfl rfl (Nat.le_of_ble_eq_true rfl) dX10_likes_3 ?_
  refine nb_if_eq C 37 dX10_likes_6 rfl (fun h_6 => ?_) (fun h_6 => ?_)
  · skip
    refine v_iconst C (nI 0) dX10_likes_37 (by decide) ?_
    refine v_istore C [(4, .int (nI 0)), (0, .ref (gb G + 205)), (1, .int one), (2, .int other), (3, .int v)] dX10_likes_38 (by decide) rfl ?_
    refine v_iload C 0 dX10_likes_40 rfl ?_
    refine n_if_eq C (by omega) 62 dX10_likes_42 rfl (fun _ => ?_) (fun h_42 => absurd h_42 (by decide))
    refine v_aload_n C 1 dX10_likes_62 rfl ?_
    refine v_ldc C (-1000001) kc_X10_80 dX10_likes_63 ?_
    refine n_callVi C hRm [.int (-1000001)] cw_X10_finding ml_X10_81 (by decide) sh_205 (by decide) rfl (r_finding l G (upA M 206 Y) 1 (by decide) (-1000001) (by decide)) (by decide) rfl rfl (Nat.le_of_ble_eq_true rfl) dX10_likes_65 (fun M5 hP_65 => ?_)
    subst hP_65
    refine v_mem (upA (fndM M 1) 206 Y) (fnd_upA _ _ _) ?_
    have hS : likesS Y one other v = er 1 Y := by unfold likesS; (try rw [nI_clamp (by omega)]); (try rw [nI_clamp (by omega)]); (first | rw [if_pos h_6] | rw [if_neg h_6] | rw [if_pos (congrArg nI h_6)] | rw [if_neg (fun q9 => h_6 ((nI_eq (by omega) (by omega)).mp q9))] | rw [if_neg (Nat.not_le.mpr h_6)] | rw [if_neg (Nat.not_lt.mpr h_6)] | skip); all_goals rfl
    exact n_iret C hRt rfl dX10_likes_68 (by rw [hS] <;> rfl) (by rw [hS]; exact ⟨_, rfl, (eqM.rf M).tr (eqM.fnd _ (show (1 : Nat) ≠ 0 by decide))⟩)
  · skip
    obtain ⟨c, hc, rfl⟩ := is_nat hY.1.1 hY.1.2.1 h_6
    refine v_aload_n C 0 dX10_likes_9 rfl ?_
    refine v_iload_n C 2 dX10_likes_10 rfl ?_
    refine v_iconst C (nI 0) dX10_likes_11 (by decide) ?_
    refine n_callVp C hRm [.int other, .int (nI 0)] cw_X10_is ml_X10_95 (by decide) sh_205 (by decide) rfl (r_is l G M Y other 0 (by decide)) (by decide) rfl rfl (Nat.le_of_ble_eq_true rfl) dX10_likes_12 ?_
    refine nb_if_eq C 37 dX10_likes_15 rfl (fun h_15 => ?_) (fun h_15 => ?_)
    · skip
      refine v_iconst C (nI 0) dX10_likes_37 (by decide) ?_
      refine v_istore C [(4, .int (nI 0)), (0, .ref (gb G + 205)), (1, .int (nI c)), (2, .int other), (3, .int v)] dX10_likes_38 (by decide) rfl ?_
      refine v_iload C 0 dX10_likes_40 rfl ?_
      refine n_if_eq C (by omega) 62 dX10_likes_42 rfl (fun _ => ?_) (fun h_42 => absurd h_42 (by decide))
      refine v_aload_n C 1 dX10_likes_62 rfl ?_
      refine v_ldc C (-1000001) kc_X10_80 dX10_likes_63 ?_
      refine n_callVi C hRm [.int (-1000001)] cw_X10_finding ml_X10_81 (by decide) sh_205 (by decide) rfl (r_finding l G (upA M 206 Y) 1 (by decide) (-1000001) (by decide)) (by decide) rfl rfl (Nat.le_of_ble_eq_true rfl) dX10_likes_65 (fun M5 hP_65 => ?_)
      subst hP_65
      refine v_mem (upA (fndM M 1) 206 Y) (fnd_upA _ _ _) ?_
      have hS : likesS Y (nI c) other v = er 1 Y := by unfold likesS; (try rw [nI_clamp (by omega)]); (try rw [nI_clamp (by omega)]); (first | rw [if_pos h_6] | rw [if_neg h_6] | rw [if_pos (congrArg nI h_6)] | rw [if_neg (fun q9 => h_6 ((nI_eq (by omega) (by omega)).mp q9))] | rw [if_neg (Nat.not_le.mpr h_6)] | rw [if_neg (Nat.not_lt.mpr h_6)] | skip); (first | rw [if_pos h_15] | rw [if_neg h_15] | rw [if_pos (congrArg nI h_15)] | rw [if_neg (fun q9 => h_15 ((nI_eq (by omega) (by omega)).mp q9))] | rw [if_neg (Nat.not_le.mpr h_15)] | rw [if_neg (Nat.not_lt.mpr h_15)] | skip); all_goals rfl
      exact n_iret C hRt rfl dX10_likes_68 (by rw [hS] <;> rfl) (by rw [hS]; exact ⟨_, rfl, (eqM.rf M).tr (eqM.fnd _ (show (1 : Nat) ≠ 0 by decide))⟩)
    · skip
      obtain ⟨o, ho, rfl⟩ := is_nat hY.1.1 hY.1.2.1 h_15
      refine v_iload_n C 1 dX10_likes_18 rfl ?_
      refine v_iload_n C 2 dX10_likes_19 rfl ?_
      refine n_icmp_eq C (by omega) (by omega) 37 dX10_likes_20 rfl (fun h_20 => ?_) (fun h_20 => ?_)
      · skip
        refine v_iconst C (nI 0) dX10_likes_37 (by decide) ?_
        refine v_istore C [(4, .int (nI 0)), (0, .ref (gb G + 205)), (1, .int (nI c)), (2, .int (nI o)), (3, .int v)] dX10_likes_38 (by decide) rfl ?_
        refine v_iload C 0 dX10_likes_40 rfl ?_
        refine n_if_eq C (by omega) 62 dX10_likes_42 rfl (fun _ => ?_) (fun h_42 => absurd h_42 (by decide))
        refine v_aload_n C 1 dX10_likes_62 rfl ?_
        refine v_ldc C (-1000001) kc_X10_80 dX10_likes_63 ?_
        refine n_callVi C hRm [.int (-1000001)] cw_X10_finding ml_X10_81 (by decide) sh_205 (by decide) rfl (r_finding l G (upA M 206 Y) 1 (by decide) (-1000001) (by decide)) (by decide) rfl rfl (Nat.le_of_ble_eq_true rfl) dX10_likes_65 (fun M5 hP_65 => ?_)
        subst hP_65
        refine v_mem (upA (fndM M 1) 206 Y) (fnd_upA _ _ _) ?_
        have hS : likesS Y (nI c) (nI o) v = er 1 Y := by unfold likesS; (try rw [nI_clamp (by omega)]); (try rw [nI_clamp (by omega)]); (first | rw [if_pos h_6] | rw [if_neg h_6] | rw [if_pos (congrArg nI h_6)] | rw [if_neg (fun q9 => h_6 ((nI_eq (by omega) (by omega)).mp q9))] | rw [if_neg (Nat.not_le.mpr h_6)] | rw [if_neg (Nat.not_lt.mpr h_6)] | skip); (first | rw [if_pos h_15] | rw [if_neg h_15] | rw [if_pos (congrArg nI h_15)] | rw [if_neg (fun q9 => h_15 ((nI_eq (by omega) (by omega)).mp q9))] | rw [if_neg (Nat.not_le.mpr h_15)] | rw [if_neg (Nat.not_lt.mpr h_15)] | skip); (first | rw [if_pos h_20] | rw [if_neg h_20] | rw [if_pos (congrArg nI h_20)] | rw [if_neg (fun q9 => h_20 ((nI_eq (by omega) (by omega)).mp q9))] | rw [if_neg (Nat.not_le.mpr h_20)] | rw [if_neg (Nat.not_lt.mpr h_20)] | skip); all_goals rfl
        exact n_iret C hRt rfl dX10_likes_68 (by rw [hS] <;> rfl) (by rw [hS]; exact ⟨_, rfl, (eqM.rf M).tr (eqM.fnd _ (show (1 : Nat) ≠ 0 by decide))⟩)
      · skip
        refine v_iload_n C 3 dX10_likes_23 rfl ?_
        refine v_iconst C (nI 0) dX10_likes_24 (by decide) ?_
        refine v_bipush C (nI 99) dX10_likes_25 (by decide) ?_
        refine n_callSp C hRm [.int v, .int (nI 0), .int (nI 99)] cw_X10_within st_X10_within ml_X10_72 (r_within l G (upA M 206 Y) v (nI 0) (nI 99)) (by decide) rfl rfl (Nat.le_of_ble_eq_true rfl) dX10_likes_27 ?_
        refine nb_if_eq C 37 dX10_likes_30 rfl (fun h_30 => ?_) (fun h_30 => ?_)
        · skip
          refine v_iconst C (nI 0) dX10_likes_37 (by decide) ?_
          refine v_istore C [(4, .int (nI 0)), (0, .ref (gb G + 205)), (1, .int (nI c)), (2, .int (nI o)), (3, .int v)] dX10_likes_38 (by decide) rfl ?_
          refine v_iload C 0 dX10_likes_40 rfl ?_
          refine n_if_eq C (by omega) 62 dX10_likes_42 rfl (fun _ => ?_) (fun h_42 => absurd h_42 (by decide))
          refine v_aload_n C 1 dX10_likes_62 rfl ?_
          refine v_ldc C (-1000001) kc_X10_80 dX10_likes_63 ?_
          refine n_callVi C hRm [.int (-1000001)] cw_X10_finding ml_X10_81 (by decide) sh_205 (by decide) rfl (r_finding l G (upA M 206 Y) 1 (by decide) (-1000001) (by decide)) (by decide) rfl rfl (Nat.le_of_ble_eq_true rfl) dX10_likes_65 (fun M5 hP_65 => ?_)
          subst hP_65
          refine v_mem (upA (fndM M 1) 206 Y) (fnd_upA _ _ _) ?_
          have hS : likesS Y (nI c) (nI o) v = er 1 Y := by unfold likesS; (try rw [nI_clamp (by omega)]); (try rw [nI_clamp (by omega)]); (first | rw [if_pos h_6] | rw [if_neg h_6] | rw [if_pos (congrArg nI h_6)] | rw [if_neg (fun q9 => h_6 ((nI_eq (by omega) (by omega)).mp q9))] | rw [if_neg (Nat.not_le.mpr h_6)] | rw [if_neg (Nat.not_lt.mpr h_6)] | skip); (first | rw [if_pos h_15] | rw [if_neg h_15] | rw [if_pos (congrArg nI h_15)] | rw [if_neg (fun q9 => h_15 ((nI_eq (by omega) (by omega)).mp q9))] | rw [if_neg (Nat.not_le.mpr h_15)] | rw [if_neg (Nat.not_lt.mpr h_15)] | skip); (first | rw [if_pos h_20] | rw [if_neg h_20] | rw [if_pos (congrArg nI h_20)] | rw [if_neg (fun q9 => h_20 ((nI_eq (by omega) (by omega)).mp q9))] | rw [if_neg (Nat.not_le.mpr h_20)] | rw [if_neg (Nat.not_lt.mpr h_20)] | skip); (first | rw [if_pos h_30] | rw [if_neg h_30] | rw [if_pos (congrArg nI h_30)] | rw [if_neg (fun q9 => h_30 ((nI_eq (by omega) (by omega)).mp q9))] | rw [if_neg (Nat.not_le.mpr h_30)] | rw [if_neg (Nat.not_lt.mpr h_30)] | skip); all_goals rfl
          exact n_iret C hRt rfl dX10_likes_68 (by rw [hS] <;> rfl) (by rw [hS]; exact ⟨_, rfl, (eqM.rf M).tr (eqM.fnd _ (show (1 : Nat) ≠ 0 by decide))⟩)
        · skip
          refine v_iconst C (nI 1) dX10_likes_33 (by decide) ?_
          refine v_goto C 38 dX10_likes_34 rfl ?_
          refine v_istore C [(4, .int (nI 1)), (0, .ref (gb G + 205)), (1, .int (nI c)), (2, .int (nI o)), (3, .int v)] dX10_likes_38 (by decide) rfl ?_
          refine v_iload C 0 dX10_likes_40 rfl ?_
          refine n_if_eq C (by omega) 62 dX10_likes_42 rfl (fun h_42 => absurd h_42 (by decide)) (fun _ => ?_)
          refine v_aload_n C 1 dX10_likes_45 rfl ?_
          refine v_bipush C (nI 67) dX10_likes_46 (by decide) ?_
          refine v_bipush C (nI 10) dX10_likes_48 (by decide) ?_
          refine v_iload_n C 2 dX10_likes_50 rfl ?_
          refine n_imul C dX10_likes_51 ?_
          refine n_iadd C dX10_likes_52 ?_
          refine v_iload_n C 3 dX10_likes_53 rfl ?_
          refine n_iadd C dX10_likes_54 ?_
          refine v_iload_n C 4 dX10_likes_55 rfl ?_
          refine n_callVi C hRm [.int (nI ((67 + (10 * c)) + o)), .int v] cw_X10_become ml_X10_106 (by decide) sh_205 (by decide) rfl (r_become l G M Y ((67 + (10 * c)) + o) v (by omega)) (by decide) rfl rfl (Nat.le_of_ble_eq_true rfl) dX10_likes_56 (fun M5 hP_56 => ?_)
          subst hP_56
          refine v_goto C 68 dX10_likes_59 rfl ?_
          have hS : likesS Y (nI c) (nI o) v = (0, Y ((67 + (10 * c)) + o), upd Y ((67 + (10 * c)) + o) v) := by unfold likesS; (try rw [nI_clamp (by omega)]); (try rw [nI_clamp (by omega)]); (first | rw [if_pos h_6] | rw [if_neg h_6] | rw [if_pos (congrArg nI h_6)] | rw [if_neg (fun q9 => h_6 ((nI_eq (by omega) (by omega)).mp q9))] | rw [if_neg (Nat.not_le.mpr h_6)] | rw [if_neg (Nat.not_lt.mpr h_6)] | skip); (first | rw [if_pos h_15] | rw [if_neg h_15] | rw [if_pos (congrArg nI h_15)] | rw [if_neg (fun q9 => h_15 ((nI_eq (by omega) (by omega)).mp q9))] | rw [if_neg (Nat.not_le.mpr h_15)] | rw [if_neg (Nat.not_lt.mpr h_15)] | skip); (first | rw [if_pos h_20] | rw [if_neg h_20] | rw [if_pos (congrArg nI h_20)] | rw [if_neg (fun q9 => h_20 ((nI_eq (by omega) (by omega)).mp q9))] | rw [if_neg (Nat.not_le.mpr h_20)] | rw [if_neg (Nat.not_lt.mpr h_20)] | skip); (first | rw [if_pos h_30] | rw [if_neg h_30] | rw [if_pos (congrArg nI h_30)] | rw [if_neg (fun q9 => h_30 ((nI_eq (by omega) (by omega)).mp q9))] | rw [if_neg (Nat.not_le.mpr h_30)] | rw [if_neg (Nat.not_lt.mpr h_30)] | skip); all_goals rfl
          exact n_iret C hRt rfl dX10_likes_68 (by rw [hS] <;> rfl) (by rw [hS]; exact ⟨_, rfl, eqM.rf M⟩)
set_option maxHeartbeats 4000000 in
set_option maxRecDepth 100000 in
theorem r_heap (l : Launch) (G : GC) (M : Mm) (Y : Nat → Int32) (n hN : Nat) (hY : YOk Y n hN) (least most : Int32) : CI l G 2 yX10_heap cX10_heap 4 .int [.ref (gb G + 205), .int least, .int most] (upA M 206 Y) ((heapS Y hN least most).2.1) (PubR M (heapS Y hN least most).2.2 (heapS Y hN least most).1) := by
  refine Con.of (by decide +kernel) (Nat.le_of_ble_eq_true rfl) ?_
  intro f C hRm hRt _
  show Vc f G NPh (upA M 206 Y) 0 [(0, .ref (gb G + 205)), (1, .int least), (2, .int most)] []
  have h10 := hY.1.2.1
  have h5N := hY.1.2.2.2
  refine v_iload_n C 1 dX10_heap_0 rfl ?_
  refine v_iconst C (nI 1) dX10_heap_1 (by decide) ?_
  refine v_bipush C (nI 10) dX10_heap_2 (by decide) ?_
  refine n_callSp C hRm [.int least, .int (nI 1), .int (nI 10)] cw_X10_within st_X10_within ml_X10_72 (r_within l G (upA M 206 Y) least (nI 1) (nI 10)) (by decide) rfl rfl (Nat.le_of_ble_eq_true rfl) dX10_heap_4 ?_
  refine nb_if_eq C 20 dX10_heap_7 rfl (fun h_7 => ?_) (fun h_7 => ?_)
  · skip
    refine v_aload_n C 0 dX10_heap_20 rfl ?_
    refine v_ldc C (-1000001) kc_X10_80 dX10_heap_21 ?_
    refine n_callVi C hRm [.int (-1000001)] cw_X10_finding ml_X10_81 (by decide) sh_205 (by decide) rfl (r_finding l G (upA M 206 Y) 1 (by decide) (-1000001) (by decide)) (by decide) rfl rfl (Nat.le_of_ble_eq_true rfl) dX10_heap_23 (fun M5 hP_23 => ?_)
    subst hP_23
    refine v_mem (upA (fndM M 1) 206 Y) (fnd_upA _ _ _) ?_
    have hS : heapS Y hN least most = er 1 Y := by unfold heapS; (first | rw [if_pos h_7] | rw [if_neg h_7] | rw [if_pos (congrArg nI h_7)] | rw [if_neg (fun q9 => h_7 ((nI_eq (by omega) (by omega)).mp q9))] | rw [if_neg (Nat.not_le.mpr h_7)] | rw [if_neg (Nat.not_lt.mpr h_7)] | skip); all_goals rfl
    exact n_iret C hRt rfl dX10_heap_26 (by rw [hS] <;> rfl) (by rw [hS]; exact ⟨_, rfl, (eqM.rf M).tr (eqM.fnd _ (show (1 : Nat) ≠ 0 by decide))⟩)
  · skip
    refine v_iload_n C 2 dX10_heap_10 rfl ?_
    refine v_iload_n C 1 dX10_heap_11 rfl ?_
    refine v_bipush C (nI 10) dX10_heap_12 (by decide) ?_
    refine n_callSp C hRm [.int most, .int least, .int (nI 10)] cw_X10_within st_X10_within ml_X10_72 (r_within l G (upA M 206 Y) most least (nI 10)) (by decide) rfl rfl (Nat.le_of_ble_eq_true rfl) dX10_heap_14 ?_
    refine nb_if_ne C 27 dX10_heap_17 rfl (fun h_17 => ?_) (fun h_17 => ?_)
    · skip
      refine v_aload_n C 0 dX10_heap_27 rfl ?_
      refine g_X10_9 C (by decide) sh_205 dX10_heap_28 ?_
      refine v_iconst C (nI 1) dX10_heap_31 (by decide) ?_
      refine n_now_ld C (by decide) sh_206 (by omega) (by decide) dX10_heap_32 ?_
      refine v_top (nI hN) hY.1.2.2.1 ?_
      refine v_istore_n C [(3, .int (nI hN)), (0, .ref (gb G + 205)), (1, .int least), (2, .int most)] dX10_heap_33 rfl (by decide) rfl ?_
      refine v_iload_n C 0 dX10_heap_34 rfl ?_
      refine v_iconst C (nI 5) dX10_heap_35 (by decide) ?_
      refine n_icmp_ne C (by omega) (by omega) 46 dX10_heap_36 rfl (fun h_36 => ?_) (fun h_36 => ?_)
      · skip
        refine v_aload_n C 1 dX10_heap_46 rfl ?_
        refine g_X10_9 C (by decide) sh_205 dX10_heap_47 ?_
        refine v_sipush C (nI 167) dX10_heap_50 (by decide) ?_
        refine v_iconst C (nI 4) dX10_heap_53 (by decide) ?_
        refine v_iload_n C 0 dX10_heap_54 rfl ?_
        refine n_imul C dX10_heap_55 ?_
        refine n_iadd C dX10_heap_56 ?_
        refine v_iconst C (nI 0) dX10_heap_57 (by decide) ?_
        refine n_iadd C dX10_heap_58 ?_
        refine v_iload_n C 2 dX10_heap_59 rfl ?_
        refine n_now_st C (by decide) sh_206 (by omega) (by decide) dX10_heap_60 ?_
        refine v_aload_n C 1 dX10_heap_61 rfl ?_
        refine g_X10_9 C (by decide) sh_205 dX10_heap_62 ?_
        refine v_sipush C (nI 167) dX10_heap_65 (by decide) ?_
        refine v_iconst C (nI 4) dX10_heap_68 (by decide) ?_
        refine v_iload_n C 0 dX10_heap_69 rfl ?_
        refine n_imul C dX10_heap_70 ?_
        refine n_iadd C dX10_heap_71 ?_
        refine v_iconst C (nI 1) dX10_heap_72 (by decide) ?_
        refine n_iadd C dX10_heap_73 ?_
        refine v_iload_n C 3 dX10_heap_74 rfl ?_
        refine n_now_st C (by decide) sh_206 (by omega) (by decide) dX10_heap_75 ?_
        refine v_aload_n C 1 dX10_heap_76 rfl ?_
        refine g_X10_9 C (by decide) sh_205 dX10_heap_77 ?_
        refine v_sipush C (nI 167) dX10_heap_80 (by decide) ?_
        refine v_iconst C (nI 4) dX10_heap_83 (by decide) ?_
        refine v_iload_n C 0 dX10_heap_84 rfl ?_
        refine n_imul C dX10_heap_85 ?_
        refine n_iadd C dX10_heap_86 ?_
        refine v_iconst C (nI 2) dX10_heap_87 (by decide) ?_
        refine n_iadd C dX10_heap_88 ?_
        refine v_bipush C (nI 30) dX10_heap_89 (by decide) ?_
        refine n_now_st C (by decide) sh_206 (by omega) (by decide) dX10_heap_91 ?_
        refine v_aload_n C 1 dX10_heap_92 rfl ?_
        refine g_X10_9 C (by decide) sh_205 dX10_heap_93 ?_
        refine v_sipush C (nI 167) dX10_heap_96 (by decide) ?_
        refine v_iconst C (nI 4) dX10_heap_99 (by decide) ?_
        refine v_iload_n C 0 dX10_heap_100 rfl ?_
        refine n_imul C dX10_heap_101 ?_
        refine n_iadd C dX10_heap_102 ?_
        refine v_iconst C (nI 3) dX10_heap_103 (by decide) ?_
        refine n_iadd C dX10_heap_104 ?_
        refine v_iconst C (nI 0) dX10_heap_105 (by decide) ?_
        refine n_now_st C (by decide) sh_206 (by omega) (by decide) dX10_heap_106 ?_
        refine v_aload_n C 1 dX10_heap_107 rfl ?_
        refine g_X10_9 C (by decide) sh_205 dX10_heap_108 ?_
        refine v_iconst C (nI 1) dX10_heap_111 (by decide) ?_
        refine v_dup2 C dX10_heap_112 rfl rfl ?_
        refine n_now_ld C (by decide) sh_206 (by omega) (by decide) dX10_heap_113 ?_
        refine v_top (nI hN) (by (repeat rw [upd_ne _ _ (by omega)]); exact hY.1.2.2.1) ?_
        refine v_iconst C (nI 1) dX10_heap_114 (by decide) ?_
        refine n_iadd C dX10_heap_115 ?_
        refine n_now_st C (by decide) sh_206 (by omega) (by decide) dX10_heap_116 ?_
        refine v_iload_n C 0 dX10_heap_117 rfl ?_
        have hS : heapS Y hN least most = (0, nI hN, upd (upd (upd (upd (upd Y ((167 + (4 * hN)) + 0) least) ((167 + (4 * hN)) + 1) most) ((167 + (4 * hN)) + 2) (nI 30)) ((167 + (4 * hN)) + 3) (nI 0)) 1 (nI (hN + 1))) := by unfold heapS; (first | rw [if_pos h_7] | rw [if_neg h_7] | rw [if_pos (congrArg nI h_7)] | rw [if_neg (fun q9 => h_7 ((nI_eq (by omega) (by omega)).mp q9))] | rw [if_neg (Nat.not_le.mpr h_7)] | rw [if_neg (Nat.not_lt.mpr h_7)] | skip); (first | rw [if_pos h_17] | rw [if_neg h_17] | rw [if_pos (congrArg nI h_17)] | rw [if_neg (fun q9 => h_17 ((nI_eq (by omega) (by omega)).mp q9))] | rw [if_neg (Nat.not_le.mpr h_17)] | rw [if_neg (Nat.not_lt.mpr h_17)] | skip); (first | rw [if_pos h_36] | rw [if_neg h_36] | rw [if_pos (congrArg nI h_36)] | rw [if_neg (fun q9 => h_36 ((nI_eq (by omega) (by omega)).mp q9))] | rw [if_neg (Nat.not_le.mpr h_36)] | rw [if_neg (Nat.not_lt.mpr h_36)] | skip); all_goals rfl
        exact n_iret C hRt rfl dX10_heap_118 (by rw [hS] <;> rfl) (by rw [hS]; exact ⟨_, rfl, eqM.rf M⟩)
      · skip
        refine v_aload_n C 1 dX10_heap_39 rfl ?_
        refine v_ldc C (-1000004) kc_X10_85 dX10_heap_40 ?_
        refine n_callVi C hRm [.int (-1000004)] cw_X10_finding ml_X10_81 (by decide) sh_205 (by decide) rfl (r_finding l G (upA M 206 Y) 4 (by decide) (-1000004) (by decide)) (by decide) rfl rfl (Nat.le_of_ble_eq_true rfl) dX10_heap_42 (fun M5 hP_42 => ?_)
        subst hP_42
        refine v_mem (upA (fndM M 4) 206 Y) (fnd_upA _ _ _) ?_
        have hS : heapS Y hN least most = er 4 Y := by unfold heapS; (first | rw [if_pos h_7] | rw [if_neg h_7] | rw [if_pos (congrArg nI h_7)] | rw [if_neg (fun q9 => h_7 ((nI_eq (by omega) (by omega)).mp q9))] | rw [if_neg (Nat.not_le.mpr h_7)] | rw [if_neg (Nat.not_lt.mpr h_7)] | skip); (first | rw [if_pos h_17] | rw [if_neg h_17] | rw [if_pos (congrArg nI h_17)] | rw [if_neg (fun q9 => h_17 ((nI_eq (by omega) (by omega)).mp q9))] | rw [if_neg (Nat.not_le.mpr h_17)] | rw [if_neg (Nat.not_lt.mpr h_17)] | skip); (first | rw [if_pos h_36] | rw [if_neg h_36] | rw [if_pos (congrArg nI h_36)] | rw [if_neg (fun q9 => h_36 ((nI_eq (by omega) (by omega)).mp q9))] | rw [if_neg (Nat.not_le.mpr h_36)] | rw [if_neg (Nat.not_lt.mpr h_36)] | skip); all_goals rfl
        exact n_iret C hRt rfl dX10_heap_45 (by rw [hS] <;> rfl) (by rw [hS]; exact ⟨_, rfl, (eqM.rf M).tr (eqM.fnd _ (show (4 : Nat) ≠ 0 by decide))⟩)
    · skip
      refine v_aload_n C 0 dX10_heap_20 rfl ?_
      refine v_ldc C (-1000001) kc_X10_80 dX10_heap_21 ?_
      refine n_callVi C hRm [.int (-1000001)] cw_X10_finding ml_X10_81 (by decide) sh_205 (by decide) rfl (r_finding l G (upA M 206 Y) 1 (by decide) (-1000001) (by decide)) (by decide) rfl rfl (Nat.le_of_ble_eq_true rfl) dX10_heap_23 (fun M5 hP_23 => ?_)
      subst hP_23
      refine v_mem (upA (fndM M 1) 206 Y) (fnd_upA _ _ _) ?_
      have hS : heapS Y hN least most = er 1 Y := by unfold heapS; (first | rw [if_pos h_7] | rw [if_neg h_7] | rw [if_pos (congrArg nI h_7)] | rw [if_neg (fun q9 => h_7 ((nI_eq (by omega) (by omega)).mp q9))] | rw [if_neg (Nat.not_le.mpr h_7)] | rw [if_neg (Nat.not_lt.mpr h_7)] | skip); (first | rw [if_pos h_17] | rw [if_neg h_17] | rw [if_pos (congrArg nI h_17)] | rw [if_neg (fun q9 => h_17 ((nI_eq (by omega) (by omega)).mp q9))] | rw [if_neg (Nat.not_le.mpr h_17)] | rw [if_neg (Nat.not_lt.mpr h_17)] | skip); all_goals rfl
      exact n_iret C hRt rfl dX10_heap_26 (by rw [hS] <;> rfl) (by rw [hS]; exact ⟨_, rfl, (eqM.rf M).tr (eqM.fnd _ (show (1 : Nat) ≠ 0 by decide))⟩)
set_option maxHeartbeats 4000000 in
set_option maxRecDepth 100000 in
theorem r_heapIs (l : Launch) (G : GC) (M : Mm) (Y : Nat → Int32) (n hN : Nat) (hY : YOk Y n hN) (heap what : Int32) : CI l G 3 yX10_heapIs cX10_heapIs 3 .int [.ref (gb G + 205), .int heap, .int what] (upA M 206 Y) ((heapIsS Y n heap what).2.1) (PubR M (heapIsS Y n heap what).2.2 (heapIsS Y n heap what).1) := by
  refine Con.of (by decide +kernel) (Nat.le_of_ble_eq_true rfl) ?_
  intro f C hRm hRt _
  show Vc f G NPh (upA M 206 Y) 0 [(0, .ref (gb G + 205)), (1, .int heap), (2, .int what)] []
  have h10 := hY.1.2.1
  have h5N := hY.1.2.2.2
  refine v_aload_n C 0 dX10_heapIs_0 rfl ?_
  refine v_iload_n C 1 dX10_heapIs_1 rfl ?_
  refine v_iconst C (nI 1) dX10_heapIs_2 (by decide) ?_
  refine n_callVp C hRm [.int heap, .int (nI 1)] cw_X10_is ml_X10_95 (by decide) sh_205 (by decide) rfl (r_is l G M Y heap 1 (by decide)) (by decide) rfl rfl (Nat.le_of_ble_eq_true rfl) dX10_heapIs_3 ?_
  refine nb_if_eq C 18 dX10_heapIs_6 rfl (fun h_6 => ?_) (fun h_6 => ?_)
  · skip
    refine v_aload_n C 0 dX10_heapIs_18 rfl ?_
    refine v_ldc C (-1000001) kc_X10_80 dX10_heapIs_19 ?_
    refine n_callVi C hRm [.int (-1000001)] cw_X10_finding ml_X10_81 (by decide) sh_205 (by decide) rfl (r_finding l G (upA M 206 Y) 1 (by decide) (-1000001) (by decide)) (by decide) rfl rfl (Nat.le_of_ble_eq_true rfl) dX10_heapIs_21 (fun M5 hP_21 => ?_)
    subst hP_21
    refine v_mem (upA (fndM M 1) 206 Y) (fnd_upA _ _ _) ?_
    have hS : heapIsS Y n heap what = er 1 Y := by unfold heapIsS; (try rw [nI_clamp (by omega)]); (try rw [nI_clamp (by omega)]); (try rw [show what.toNatClampNeg = q by rw [hq2, nI_clamp (by omega)]]); (first | rw [if_pos h_6] | rw [if_neg h_6] | rw [if_pos (congrArg nI h_6)] | rw [if_neg (fun q9 => h_6 ((nI_eq (by omega) (by omega)).mp q9))] | rw [if_neg (Nat.not_le.mpr h_6)] | rw [if_neg (Nat.not_lt.mpr h_6)] | skip); all_goals rfl
    exact n_iret C hRt rfl dX10_heapIs_24 (by rw [hS] <;> rfl) (by rw [hS]; exact ⟨_, rfl, (eqM.rf M).tr (eqM.fnd _ (show (1 : Nat) ≠ 0 by decide))⟩)
  · skip
    obtain ⟨h, hh, rfl⟩ := is_nat hY.1.2.2.1 (by omega) h_6
    refine v_iload_n C 2 dX10_heapIs_9 rfl ?_
    refine v_iconst C (nI 0) dX10_heapIs_10 (by decide) ?_
    refine v_iconst C (nI 4) dX10_heapIs_11 (by decide) ?_
    refine n_callSp C hRm [.int what, .int (nI 0), .int (nI 4)] cw_X10_within st_X10_within ml_X10_72 (r_within l G (upA M 206 Y) what (nI 0) (nI 4)) (by decide) rfl rfl (Nat.le_of_ble_eq_true rfl) dX10_heapIs_12 ?_
    refine nb_if_ne C 25 dX10_heapIs_15 rfl (fun h_15 => ?_) (fun h_15 => ?_)
    · skip
      refine v_iload_n C 2 dX10_heapIs_25 rfl ?_
      refine v_iconst C (nI 3) dX10_heapIs_26 (by decide) ?_
      refine v_icmp_ge C 39 dX10_heapIs_27 rfl (fun h_27 => ?_) (fun h_27 => ?_)
      · skip
        refine v_iload_n C 2 dX10_heapIs_39 rfl ?_
        refine v_iconst C (nI 3) dX10_heapIs_40 (by decide) ?_
        refine v_icmp_ne C 52 dX10_heapIs_41 rfl (fun h_41 => ?_) (fun h_41 => ?_)
        · skip
          refine v_aload_n C 0 dX10_heapIs_52 rfl ?_
          refine v_iload_n C 1 dX10_heapIs_53 rfl ?_
          refine v_iconst C (nI 3) dX10_heapIs_54 (by decide) ?_
          refine n_callVp C hRm [.int (nI h), .int (nI 3)] cw_X10_heapOf ml_X10_109 (by decide) sh_205 (by decide) rfl (r_heapOf l G M Y h 3 (by omega)) (by decide) rfl rfl (Nat.le_of_ble_eq_true rfl) dX10_heapIs_55 ?_
          have hS : heapIsS Y n (nI h) what = (0, Y (167 + 4 * h + 3), Y) := by unfold heapIsS; (try rw [nI_clamp (by omega)]); (try rw [nI_clamp (by omega)]); (try rw [show what.toNatClampNeg = q by rw [hq2, nI_clamp (by omega)]]); (first | rw [if_pos h_6] | rw [if_neg h_6] | rw [if_pos (congrArg nI h_6)] | rw [if_neg (fun q9 => h_6 ((nI_eq (by omega) (by omega)).mp q9))] | rw [if_neg (Nat.not_le.mpr h_6)] | rw [if_neg (Nat.not_lt.mpr h_6)] | skip); (first | rw [if_pos h_15] | rw [if_neg h_15] | rw [if_pos (congrArg nI h_15)] | rw [if_neg (fun q9 => h_15 ((nI_eq (by omega) (by omega)).mp q9))] | rw [if_neg (Nat.not_le.mpr h_15)] | rw [if_neg (Nat.not_lt.mpr h_15)] | skip); (first | rw [if_pos h_27] | rw [if_neg h_27] | rw [if_pos (congrArg nI h_27)] | rw [if_neg (fun q9 => h_27 ((nI_eq (by omega) (by omega)).mp q9))] | rw [if_neg (Nat.not_le.mpr h_27)] | rw [if_neg (Nat.not_lt.mpr h_27)] | skip); (first | rw [if_pos h_41] | rw [if_neg h_41] | rw [if_pos (congrArg nI h_41)] | rw [if_neg (fun q9 => h_41 ((nI_eq (by omega) (by omega)).mp q9))] | rw [if_neg (Nat.not_le.mpr h_41)] | rw [if_neg (Nat.not_lt.mpr h_41)] | skip); all_goals rfl
          exact n_iret C hRt rfl dX10_heapIs_58 (by rw [hS] <;> rfl) (by rw [hS]; exact ⟨_, rfl, eqM.rf M⟩)
        · skip
          refine v_aload_n C 0 dX10_heapIs_44 rfl ?_
          refine v_iload_n C 1 dX10_heapIs_45 rfl ?_
          refine n_callVp C hRm [.int (nI h)] cw_X10_inHeap ml_X10_112 (by decide) sh_205 (by decide) rfl (r_inHeap l G M Y n hY.1.1 hY.1.2.1 (nI h)) (by decide) rfl rfl (Nat.le_of_ble_eq_true rfl) dX10_heapIs_46 ?_
          refine v_goto C 58 dX10_heapIs_49 rfl ?_
          have hS : heapIsS Y n (nI h) what = (0, inA Y (nI h) n, Y) := by unfold heapIsS; (try rw [nI_clamp (by omega)]); (try rw [nI_clamp (by omega)]); (try rw [show what.toNatClampNeg = q by rw [hq2, nI_clamp (by omega)]]); (first | rw [if_pos h_6] | rw [if_neg h_6] | rw [if_pos (congrArg nI h_6)] | rw [if_neg (fun q9 => h_6 ((nI_eq (by omega) (by omega)).mp q9))] | rw [if_neg (Nat.not_le.mpr h_6)] | rw [if_neg (Nat.not_lt.mpr h_6)] | skip); (first | rw [if_pos h_15] | rw [if_neg h_15] | rw [if_pos (congrArg nI h_15)] | rw [if_neg (fun q9 => h_15 ((nI_eq (by omega) (by omega)).mp q9))] | rw [if_neg (Nat.not_le.mpr h_15)] | rw [if_neg (Nat.not_lt.mpr h_15)] | skip); (first | rw [if_pos h_27] | rw [if_neg h_27] | rw [if_pos (congrArg nI h_27)] | rw [if_neg (fun q9 => h_27 ((nI_eq (by omega) (by omega)).mp q9))] | rw [if_neg (Nat.not_le.mpr h_27)] | rw [if_neg (Nat.not_lt.mpr h_27)] | skip); (first | rw [if_pos h_41] | rw [if_neg h_41] | rw [if_pos (congrArg nI h_41)] | rw [if_neg (fun q9 => h_41 ((nI_eq (by omega) (by omega)).mp q9))] | rw [if_neg (Nat.not_le.mpr h_41)] | rw [if_neg (Nat.not_lt.mpr h_41)] | skip); all_goals rfl
          exact n_iret C hRt rfl dX10_heapIs_58 (by rw [hS] <;> rfl) (by rw [hS]; exact ⟨_, rfl, eqM.rf M⟩)
      · skip
        obtain ⟨q, hq, hq2⟩ := within_nat (by decide) h_15
        have hq3 : q < 3 := (nI_ltI (by omega) (by decide)).mp (by rw [← hq2]; exact Int32.not_le.mp h_27)
        rw [hq2]
        refine v_aload_n C 0 dX10_heapIs_30 rfl ?_
        refine v_iload_n C 1 dX10_heapIs_31 rfl ?_
        refine v_iload_n C 2 dX10_heapIs_32 rfl ?_
        refine n_callVp C hRm [.int (nI h), .int (nI q)] cw_X10_heapOf ml_X10_109 (by decide) sh_205 (by decide) rfl (r_heapOf l G M Y h q (by omega)) (by decide) rfl rfl (Nat.le_of_ble_eq_true rfl) dX10_heapIs_33 ?_
        refine v_goto C 58 dX10_heapIs_36 rfl ?_
        have hS : heapIsS Y n (nI h) what = (0, Y (167 + 4 * h + q), Y) := by unfold heapIsS; (try rw [nI_clamp (by omega)]); (try rw [nI_clamp (by omega)]); (try rw [show what.toNatClampNeg = q by rw [hq2, nI_clamp (by omega)]]); (first | rw [if_pos h_6] | rw [if_neg h_6] | rw [if_pos (congrArg nI h_6)] | rw [if_neg (fun q9 => h_6 ((nI_eq (by omega) (by omega)).mp q9))] | rw [if_neg (Nat.not_le.mpr h_6)] | rw [if_neg (Nat.not_lt.mpr h_6)] | skip); (first | rw [if_pos h_15] | rw [if_neg h_15] | rw [if_pos (congrArg nI h_15)] | rw [if_neg (fun q9 => h_15 ((nI_eq (by omega) (by omega)).mp q9))] | rw [if_neg (Nat.not_le.mpr h_15)] | rw [if_neg (Nat.not_lt.mpr h_15)] | skip); (first | rw [if_pos h_27] | rw [if_neg h_27] | rw [if_pos (congrArg nI h_27)] | rw [if_neg (fun q9 => h_27 ((nI_eq (by omega) (by omega)).mp q9))] | rw [if_neg (Nat.not_le.mpr h_27)] | rw [if_neg (Nat.not_lt.mpr h_27)] | skip); all_goals rfl
        exact n_iret C hRt rfl dX10_heapIs_58 (by rw [hS] <;> rfl) (by rw [hS]; exact ⟨_, rfl, eqM.rf M⟩)
    · skip
      refine v_aload_n C 0 dX10_heapIs_18 rfl ?_
      refine v_ldc C (-1000001) kc_X10_80 dX10_heapIs_19 ?_
      refine n_callVi C hRm [.int (-1000001)] cw_X10_finding ml_X10_81 (by decide) sh_205 (by decide) rfl (r_finding l G (upA M 206 Y) 1 (by decide) (-1000001) (by decide)) (by decide) rfl rfl (Nat.le_of_ble_eq_true rfl) dX10_heapIs_21 (fun M5 hP_21 => ?_)
      subst hP_21
      refine v_mem (upA (fndM M 1) 206 Y) (fnd_upA _ _ _) ?_
      have hS : heapIsS Y n (nI h) what = er 1 Y := by unfold heapIsS; (try rw [nI_clamp (by omega)]); (try rw [nI_clamp (by omega)]); (try rw [show what.toNatClampNeg = q by rw [hq2, nI_clamp (by omega)]]); (first | rw [if_pos h_6] | rw [if_neg h_6] | rw [if_pos (congrArg nI h_6)] | rw [if_neg (fun q9 => h_6 ((nI_eq (by omega) (by omega)).mp q9))] | rw [if_neg (Nat.not_le.mpr h_6)] | rw [if_neg (Nat.not_lt.mpr h_6)] | skip); (first | rw [if_pos h_15] | rw [if_neg h_15] | rw [if_pos (congrArg nI h_15)] | rw [if_neg (fun q9 => h_15 ((nI_eq (by omega) (by omega)).mp q9))] | rw [if_neg (Nat.not_le.mpr h_15)] | rw [if_neg (Nat.not_lt.mpr h_15)] | skip); all_goals rfl
      exact n_iret C hRt rfl dX10_heapIs_24 (by rw [hS] <;> rfl) (by rw [hS]; exact ⟨_, rfl, (eqM.rf M).tr (eqM.fnd _ (show (1 : Nat) ≠ 0 by decide))⟩)
set_option maxHeartbeats 4000000 in
set_option maxRecDepth 100000 in
theorem r_rule (l : Launch) (G : GC) (M : Mm) (Y : Nat → Int32) (n hN : Nat) (hY : YOk Y n hN) (heap v : Int32) : CI l G 3 yX10_rule cX10_rule 3 .int [.ref (gb G + 205), .int heap, .int v] (upA M 206 Y) ((ruleS Y heap v).2.1) (PubR M (ruleS Y heap v).2.2 (ruleS Y heap v).1) := by
  refine Con.of (by decide +kernel) (Nat.le_of_ble_eq_true rfl) ?_
  intro f C hRm hRt _
  show Vc f G NPh (upA M 206 Y) 0 [(0, .ref (gb G + 205)), (1, .int heap), (2, .int v)] []
  have h10 := hY.1.2.1
  have h5N := hY.1.2.2.2
  refine v_aload_n C 0 dX10_rule_0 rfl ?_
  refine v_iload_n C 1 dX10_rule_1 rfl ?_
  refine v_iconst C (nI 1) dX10_rule_2 (by decide) ?_
  refine n_callVp C hRm [.int heap, .int (nI 1)] cw_X10_is ml_X10_95 (by decide) sh_205 (by decide) rfl (r_is l G M Y heap 1 (by decide)) (by decide) rfl rfl (Nat.le_of_ble_eq_true rfl) dX10_rule_3 ?_
  refine nb_if_eq C 36 dX10_rule_6 rfl (fun h_6 => ?_) (fun h_6 => ?_)
  · skip
    refine v_aload_n C 0 dX10_rule_36 rfl ?_
    refine v_ldc C (-1000001) kc_X10_80 dX10_rule_37 ?_
    refine n_callVi C hRm [.int (-1000001)] cw_X10_finding ml_X10_81 (by decide) sh_205 (by decide) rfl (r_finding l G (upA M 206 Y) 1 (by decide) (-1000001) (by decide)) (by decide) rfl rfl (Nat.le_of_ble_eq_true rfl) dX10_rule_39 (fun M5 hP_39 => ?_)
    subst hP_39
    refine v_mem (upA (fndM M 1) 206 Y) (fnd_upA _ _ _) ?_
    have hS : ruleS Y heap v = er 1 Y := by unfold ruleS; (try rw [nI_clamp (by omega)]); (try rw [nI_clamp (by omega)]); (first | rw [if_pos h_6] | rw [if_neg h_6] | rw [if_pos (congrArg nI h_6)] | rw [if_neg (fun q9 => h_6 ((nI_eq (by omega) (by omega)).mp q9))] | rw [if_neg (Nat.not_le.mpr h_6)] | rw [if_neg (Nat.not_lt.mpr h_6)] | skip); all_goals rfl
    exact n_iret C hRt rfl dX10_rule_42 (by rw [hS] <;> rfl) (by rw [hS]; exact ⟨_, rfl, (eqM.rf M).tr (eqM.fnd _ (show (1 : Nat) ≠ 0 by decide))⟩)
  · skip
    obtain ⟨h, hh, rfl⟩ := is_nat hY.1.2.2.1 (by omega) h_6
    refine v_iload_n C 2 dX10_rule_9 rfl ?_
    refine v_iconst C (nI 0) dX10_rule_10 (by decide) ?_
    refine v_bipush C (nI 99) dX10_rule_11 (by decide) ?_
    refine n_callSp C hRm [.int v, .int (nI 0), .int (nI 99)] cw_X10_within st_X10_within ml_X10_72 (r_within l G (upA M 206 Y) v (nI 0) (nI 99)) (by decide) rfl rfl (Nat.le_of_ble_eq_true rfl) dX10_rule_13 ?_
    refine nb_if_eq C 36 dX10_rule_16 rfl (fun h_16 => ?_) (fun h_16 => ?_)
    · skip
      refine v_aload_n C 0 dX10_rule_36 rfl ?_
      refine v_ldc C (-1000001) kc_X10_80 dX10_rule_37 ?_
      refine n_callVi C hRm [.int (-1000001)] cw_X10_finding ml_X10_81 (by decide) sh_205 (by decide) rfl (r_finding l G (upA M 206 Y) 1 (by decide) (-1000001) (by decide)) (by decide) rfl rfl (Nat.le_of_ble_eq_true rfl) dX10_rule_39 (fun M5 hP_39 => ?_)
      subst hP_39
      refine v_mem (upA (fndM M 1) 206 Y) (fnd_upA _ _ _) ?_
      have hS : ruleS Y (nI h) v = er 1 Y := by unfold ruleS; (try rw [nI_clamp (by omega)]); (try rw [nI_clamp (by omega)]); (first | rw [if_pos h_6] | rw [if_neg h_6] | rw [if_pos (congrArg nI h_6)] | rw [if_neg (fun q9 => h_6 ((nI_eq (by omega) (by omega)).mp q9))] | rw [if_neg (Nat.not_le.mpr h_6)] | rw [if_neg (Nat.not_lt.mpr h_6)] | skip); (first | rw [if_pos h_16] | rw [if_neg h_16] | rw [if_pos (congrArg nI h_16)] | rw [if_neg (fun q9 => h_16 ((nI_eq (by omega) (by omega)).mp q9))] | rw [if_neg (Nat.not_le.mpr h_16)] | rw [if_neg (Nat.not_lt.mpr h_16)] | skip); all_goals rfl
      exact n_iret C hRt rfl dX10_rule_42 (by rw [hS] <;> rfl) (by rw [hS]; exact ⟨_, rfl, (eqM.rf M).tr (eqM.fnd _ (show (1 : Nat) ≠ 0 by decide))⟩)
    · skip
      refine v_aload_n C 0 dX10_rule_19 rfl ?_
      refine v_sipush C (nI 167) dX10_rule_20 (by decide) ?_
      refine v_iconst C (nI 4) dX10_rule_23 (by decide) ?_
      refine v_iload_n C 1 dX10_rule_24 rfl ?_
      refine n_imul C dX10_rule_25 ?_
      refine n_iadd C dX10_rule_26 ?_
      refine v_iconst C (nI 2) dX10_rule_27 (by decide) ?_
      refine n_iadd C dX10_rule_28 ?_
      refine v_iload_n C 2 dX10_rule_29 rfl ?_
      refine n_callVi C hRm [.int (nI ((167 + (4 * h)) + 2)), .int v] cw_X10_become ml_X10_106 (by decide) sh_205 (by decide) rfl (r_become l G M Y ((167 + (4 * h)) + 2) v (by omega)) (by decide) rfl rfl (Nat.le_of_ble_eq_true rfl) dX10_rule_30 (fun M5 hP_30 => ?_)
      subst hP_30
      refine v_goto C 42 dX10_rule_33 rfl ?_
      have hS : ruleS Y (nI h) v = (0, Y ((167 + (4 * h)) + 2), upd Y ((167 + (4 * h)) + 2) v) := by unfold ruleS; (try rw [nI_clamp (by omega)]); (try rw [nI_clamp (by omega)]); (first | rw [if_pos h_6] | rw [if_neg h_6] | rw [if_pos (congrArg nI h_6)] | rw [if_neg (fun q9 => h_6 ((nI_eq (by omega) (by omega)).mp q9))] | rw [if_neg (Nat.not_le.mpr h_6)] | rw [if_neg (Nat.not_lt.mpr h_6)] | skip); (first | rw [if_pos h_16] | rw [if_neg h_16] | rw [if_pos (congrArg nI h_16)] | rw [if_neg (fun q9 => h_16 ((nI_eq (by omega) (by omega)).mp q9))] | rw [if_neg (Nat.not_le.mpr h_16)] | rw [if_neg (Nat.not_lt.mpr h_16)] | skip); all_goals rfl
      exact n_iret C hRt rfl dX10_rule_42 (by rw [hS] <;> rfl) (by rw [hS]; exact ⟨_, rfl, eqM.rf M⟩)
