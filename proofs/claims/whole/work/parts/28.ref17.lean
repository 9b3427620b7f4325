theorem v_lv {f : FC} {G : GC} {ph : Ph} {M : Mm} {pc : Nat} {lv : List (Nat × Value)} {st0 : List Value} (lv2 : List (Nat × Value)) (h : lv = lv2) (k : Vc f G ph M pc lv2 st0) : Vc f G ph M pc lv st0 := h ▸ k
set_option maxHeartbeats 4000000 in
set_option maxRecDepth 100000 in
theorem r_teach (l : Launch) (G : GC) (M : Mm) (Y : Nat → Int32) (n hN : Nat) (hY : YOk Y n hN) (child k0 : Int32) : CI l G 10 yX10_teach cX10_teach 7 .int [.ref (gb G + 205), .int child, .int k0] (upA M 206 Y) ((teachS Y n hN child k0).2.1) (PubR M (teachS Y n hN child k0).2.2 (teachS Y n hN child k0).1) := by
  refine Con.of (by decide +kernel) (Nat.le_of_ble_eq_true rfl) ?_
  intro f C hRm hRt _
  have h10 := hY.1.2.1
  have h5N := hY.1.2.2.2
  show Vc f G NPh (upA M 206 Y) 0 [(0, .ref (gb G + 205)), (1, .int child), (2, .int k0)] []
  refine v_aload_n C 0 dX10_teach_0 rfl ?_
  refine v_iload_n C 1 dX10_teach_1 rfl ?_
  refine v_iconst C (nI 0) dX10_teach_2 (by decide) ?_
  refine n_callVp C hRm [.int child, .int (nI 0)] cw_X10_is ml_X10_95 (by decide) sh_205 (by decide) rfl (r_is l G M Y child 0 (by decide)) (by decide) rfl rfl (Nat.le_of_ble_eq_true rfl) dX10_teach_3 ?_
  refine nb_if_eq C 16 dX10_teach_6 rfl (fun h_6 => ?_) (fun h_6 => ?_)
  · skip
    refine v_aload_n C 0 dX10_teach_16 rfl ?_
    refine v_ldc C (-1000001) kc_X10_80 dX10_teach_17 ?_
    refine n_callVi C hRm [.int (-1000001)] cw_X10_finding ml_X10_81 (by decide) sh_205 (by decide) rfl (r_finding l G (upA M 206 Y) 1 (by decide) (-1000001) (by decide)) (by decide) rfl rfl (Nat.le_of_ble_eq_true rfl) dX10_teach_19 (fun M5 hP_19 => ?_)
    subst hP_19
    refine v_mem (upA (fndM M 1) 206 Y) (fnd_upA _ _ _) ?_
    have hS : teachS Y n hN child k0 = er 1 Y := by unfold teachS; (try rw [nI_clamp (by omega)]); (try rw [nI_clamp (by omega)]); (first | rw [if_pos h_6] | rw [if_neg h_6] | rw [if_pos (congrArg nI h_6)] | rw [if_neg (fun q9 => h_6 ((nI_eq (by omega) (by omega)).mp q9))] | rw [if_neg (Nat.not_le.mpr h_6)] | rw [if_neg (Nat.not_lt.mpr h_6)] | skip); (try rw [e1]); all_goals rfl
    exact n_iret C hRt rfl dX10_teach_22 (by rw [hS] <;> rfl) (by rw [hS]; exact ⟨_, rfl, (eqM.rf M).tr (eqM.fnd _ (show (1 : Nat) ≠ 0 by decide))⟩)
  · skip
    obtain ⟨c, hc, rfl⟩ := is_nat hY.1.1 hY.1.2.1 h_6
    refine v_iload_n C 2 dX10_teach_9 rfl ?_
    refine n_callSp C hRm [.int k0] cw_X10_isAhead st_X10_isAhead ml_X10_270 (r_isAhead l G (upA M 206 Y) k0) (by decide) rfl rfl (Nat.le_of_ble_eq_true rfl) dX10_teach_10 ?_
    refine nb_if_ne C 23 dX10_teach_13 rfl (fun h_13 => ?_) (fun h_13 => ?_)
    · skip
      obtain ⟨j, hj, rfl⟩ := within_nat (by decide) h_13
      refine v_aload_n C 0 dX10_teach_23 rfl ?_
      refine g_X10_9 C (by decide) sh_205 dX10_teach_24 ?_
      refine v_aload_n C 0 dX10_teach_27 rfl ?_
      refine g_X10_16 C (by decide) sh_205 dX10_teach_28 ?_
      refine n_callSv C hRm [.ref (gb G + 206), .ref (gb G + 208)] cw_X10_copy st_X10_copy ml_X10_76 (r_copy_na l G (upA M 206 Y)) (by decide) rfl rfl (Nat.le_of_ble_eq_true rfl) dX10_teach_31 (fun M5 hP => ?_)
      subst hP
      refine v_mem (upA (upA M 208 Y) 206 Y) (by rw [upA_eq, upA_swap _ _ _ (by decide)]) ?_
      refine v_iconst C (-1) dX10_teach_34 (by decide) ?_
      refine v_istore_n C [(3, .int (-1)), (0, .ref (gb G + 205)), (1, .int (nI c)), (2, .int (nI j))] dX10_teach_35 rfl (by decide) rfl ?_
      refine v_iconst C (nI 0) dX10_teach_36 (by decide) ?_
      refine v_istore C [(4, .int (nI 0)), (3, .int (-1)), (0, .ref (gb G + 205)), (1, .int (nI c)), (2, .int (nI j))] dX10_teach_37 (by decide) rfl ?_
      refine v_iconst C (nI 0) dX10_teach_39 (by decide) ?_
      refine v_istore C [(5, .int (nI 0)), (4, .int (nI 0)), (3, .int (-1)), (0, .ref (gb G + 205)), (1, .int (nI c)), (2, .int (nI j))] dX10_teach_40 (by decide) rfl ?_
      have LT : ∀ (kq : Nat) (k : Nat) (b : Nat) (le : Int32) (X : Mm), 7 - k = kq → k ≤ 7 → b = (tchA Y n hN c j k).1 → le = (tchA Y n hN c j k).2 → X 208 = Y → eqM 0 M X → Vc f G NPh (upA X 206 Y) 42 [(5, .int (nI k)), (3, .int (kv b)), (4, .int le), (0, .ref (gb G + 205)), (1, .int (nI c)), (2, .int (nI j))] [] := by
        intro kq
        induction kq using Nat.strongRecOn with
        | _ kq ihLT =>
          intro k b le X hkq ho hb hle hx8 hem
          have hb9 : b ≤ 7 := hb ▸ tchA_le Y n hN c j k (by omega)
          refine v_iload C 0 dX10_teach_42 rfl ?_
          refine v_bipush C (nI 6) dX10_teach_44 (by decide) ?_
          refine n_icmp_gt C (by omega) (by omega) 106 dX10_teach_46 rfl (fun h_46 => ?_) (fun h_46 => ?_)
          · skip
            refine v_iload_n C 1 dX10_teach_106 rfl ?_
            have e1 : b = (tchA Y n hN c j 7).1 := by rw [hb, show k = 7 by omega]
            have hS : teachS Y n hN (nI c) (nI j) = (0, kv b, Y) := by unfold teachS; (try rw [nI_clamp (by omega)]); (try rw [nI_clamp (by omega)]); (first | rw [if_pos h_6] | rw [if_neg h_6] | rw [if_pos (congrArg nI h_6)] | rw [if_neg (fun q9 => h_6 ((nI_eq (by omega) (by omega)).mp q9))] | rw [if_neg (Nat.not_le.mpr h_6)] | rw [if_neg (Nat.not_lt.mpr h_6)] | skip); (first | rw [if_pos h_13] | rw [if_neg h_13] | rw [if_pos (congrArg nI h_13)] | rw [if_neg (fun q9 => h_13 ((nI_eq (by omega) (by omega)).mp q9))] | rw [if_neg (Nat.not_le.mpr h_13)] | rw [if_neg (Nat.not_lt.mpr h_13)] | skip); (first | rw [if_pos h_46] | rw [if_neg h_46] | rw [if_pos (congrArg nI h_46)] | rw [if_neg (fun q9 => h_46 ((nI_eq (by omega) (by omega)).mp q9))] | rw [if_neg (Nat.not_le.mpr h_46)] | rw [if_neg (Nat.not_lt.mpr h_46)] | skip); (try rw [e1]); all_goals rfl
            exact n_iret C hRt rfl dX10_teach_107 (by rw [hS] <;> rfl) (by rw [hS]; exact ⟨_, rfl, hem⟩)
          · skip
            refine v_aload_n C 3 dX10_teach_49 rfl ?_
            refine g_X10_9 C (by decide) sh_205 dX10_teach_50 ?_
            refine v_bipush C (nI 7) dX10_teach_53 (by decide) ?_
            refine v_bipush C (nI 6) dX10_teach_55 (by decide) ?_
            refine v_iload_n C 4 dX10_teach_57 rfl ?_
            refine n_imul C dX10_teach_58 ?_
            refine n_iadd C dX10_teach_59 ?_
            refine v_iconst C (nI 0) dX10_teach_60 (by decide) ?_
            refine n_iadd C dX10_teach_61 ?_
            refine v_iload C 0 dX10_teach_62 rfl ?_
            refine n_now_st C (by decide) sh_206 (by omega) (by decide) dX10_teach_64 ?_
            have hYK : YOk (upd Y ((7 + (6 * c)) + 0) (nI k)) n hN := yk_kind hY hc (by omega)
            refine v_aload_n C 3 dX10_teach_65 rfl ?_
            refine v_iload_n C 5 dX10_teach_66 rfl ?_
            refine n_callVv C hRm [.int (nI j)] cw_X10_minutesGo ml_X10_249 (by decide) sh_205 (by decide) rfl (r_minutesGo l G X (upd Y ((7 + (6 * c)) + 0) (nI k)) n hN hYK j (by omega)) (by decide) rfl rfl (Nat.le_of_ble_eq_true rfl) dX10_teach_67 (fun M5 hP_67 => ?_)
            obtain ⟨X9, rfl, hX9⟩ := hP_67
            have hYP := yk_pass hYK j
            have h208 : X9 208 = Y := (hX9 208 (by decide) (by decide) (by decide)).trans hx8
            refine v_aload_n C 3 dX10_teach_70 rfl ?_
            refine v_aload_n C 3 dX10_teach_71 rfl ?_
            refine v_iload_n C 4 dX10_teach_72 rfl ?_
            refine v_iconst C (nI 5) dX10_teach_73 (by decide) ?_
            refine n_callVp C hRm [.int (nI c), .int (nI 5)] cw_X10_of ml_X10_86 (by decide) sh_205 (by decide) rfl (r_of l G X9 (passS (upd Y ((7 + (6 * c)) + 0) (nI k)) n hN j) c 5 (by omega)) (by decide) rfl rfl (Nat.le_of_ble_eq_true rfl) dX10_teach_74 ?_
            refine n_callVi C hRm [.int ((passS (upd Y ((7 + (6 * c)) + 0) (nI k)) n hN j) (7 + 6 * c + 5))] cw_X10_putBack ml_X10_273 (by decide) sh_205 (by decide) rfl (r_putBack l G X9 (passS (upd Y ((7 + (6 * c)) + 0) (nI k)) n hN j) ((passS (upd Y ((7 + (6 * c)) + 0) (nI k)) n hN j) (7 + 6 * c + 5))) (by decide) rfl rfl (Nat.le_of_ble_eq_true rfl) dX10_teach_77 (fun M5 hP_77 => ?_)
            subst hP_77
            refine v_mem (upA X9 206 Y) (congrArg (upA X9 206) (h208)) ?_
            refine v_istore C [(6, .int ((passS (upd Y ((7 + (6 * c)) + 0) (nI k)) n hN j) (7 + 6 * c + 5))), (5, .int (nI k)), (3, .int (kv b)), (4, .int le), (0, .ref (gb G + 205)), (1, .int (nI c)), (2, .int (nI j))] dX10_teach_80 (by decide) rfl ?_
            refine v_iload_n C 2 dX10_teach_82 rfl ?_
            refine v_if_lt C 93 dX10_teach_83 rfl (fun h_83 => ?_) (fun h_83 => ?_)
            · skip
              have hj10 := kv_neg b hb9 h_83
              refine v_iload C 1 dX10_teach_93 rfl ?_
              refine v_istore_n C [(3, .int (nI k)), (6, .int ((passS (upd Y ((7 + (6 * c)) + 0) (nI k)) n hN j) (7 + 6 * c + 5))), (5, .int (nI k)), (4, .int le), (0, .ref (gb G + 205)), (1, .int (nI c)), (2, .int (nI j))] dX10_teach_95 rfl (by decide) rfl ?_
              refine v_iload C 1 dX10_teach_96 rfl ?_
              refine v_istore C [(4, .int ((passS (upd Y ((7 + (6 * c)) + 0) (nI k)) n hN j) (7 + 6 * c + 5))), (3, .int (nI k)), (6, .int ((passS (upd Y ((7 + (6 * c)) + 0) (nI k)) n hN j) (7 + 6 * c + 5))), (5, .int (nI k)), (0, .ref (gb G + 205)), (1, .int (nI c)), (2, .int (nI j))] dX10_teach_98 (by decide) rfl ?_
              refine v_iinc C (nI (k + 1)) 3 [(5, .int (nI (k + 1))), (4, .int ((passS (upd Y ((7 + (6 * c)) + 0) (nI k)) n hN j) (7 + 6 * c + 5))), (3, .int (nI k)), (6, .int ((passS (upd Y ((7 + (6 * c)) + 0) (nI k)) n hN j) (7 + 6 * c + 5))), (0, .ref (gb G + 205)), (1, .int (nI c)), (2, .int (nI j))] dX10_teach_100 rfl (nI_add _ _) (by decide) rfl ?_
              refine v_goto C 42 dX10_teach_103 rfl ?_
              refine v_sub [0, 2, 1, 4, 5, 6] [(5, .int (nI (k + 1))), (3, .int (nI k)), (4, .int ((passS (upd Y ((7 + (6 * c)) + 0) (nI k)) n hN j) (7 + 6 * c + 5))), (0, .ref (gb G + 205)), (1, .int (nI c)), (2, .int (nI j))] rfl ?_
              refine v_lv [(5, .int (nI (k + 1))), (3, .int (kv k)), (4, .int ((passS (upd Y ((7 + (6 * c)) + 0) (nI k)) n hN j) (7 + 6 * c + 5))), (0, .ref (gb G + 205)), (1, .int (nI c)), (2, .int (nI j))] (by rw [kv_lt (show k < 7 by omega)]) ?_
              exact ihLT _ (by omega) (k + 1) k ((passS (upd Y ((7 + (6 * c)) + 0) (nI k)) n hN j) (7 + 6 * c + 5)) X9  rfl (by omega) (by (have hcl : tchA Y n hN c j k = (b, le) := (by rw [hb, hle])); simp only [tchA, hcl]; rw [if_pos (by first | exact Or.inl hj10 | exact Or.inr (Int32.not_le.mp h_90))]; all_goals rfl) (by (have hcl : tchA Y n hN c j k = (b, le) := (by rw [hb, hle])); simp only [tchA, hcl]; rw [if_pos (by first | exact Or.inl hj10 | exact Or.inr (Int32.not_le.mp h_90))]; all_goals rfl) (by exact h208) (by exact hem.tr (eqM.of23 hX9))
            · skip
              have hj10 := kv_nn b hb9 h_83
              refine v_iload C 0 dX10_teach_86 rfl ?_
              refine v_iload C 3 dX10_teach_88 rfl ?_
              refine v_icmp_ge C 100 dX10_teach_90 rfl (fun h_90 => ?_) (fun h_90 => ?_)
              · skip
                refine v_iinc C (nI (k + 1)) 1 [(5, .int (nI (k + 1))), (6, .int ((passS (upd Y ((7 + (6 * c)) + 0) (nI k)) n hN j) (7 + 6 * c + 5))), (3, .int (kv b)), (4, .int le), (0, .ref (gb G + 205)), (1, .int (nI c)), (2, .int (nI j))] dX10_teach_100 rfl (nI_add _ _) (by decide) rfl ?_
                refine v_goto C 42 dX10_teach_103 rfl ?_
                refine v_sub [0, 2, 3, 4, 5, 6] [(5, .int (nI (k + 1))), (3, .int (kv b)), (4, .int le), (0, .ref (gb G + 205)), (1, .int (nI c)), (2, .int (nI j))] rfl ?_
                exact ihLT _ (by omega) (k + 1) b le X9  rfl (by omega) (by (have hcl : tchA Y n hN c j k = (b, le) := (by rw [hb, hle])); simp only [tchA, hcl]; rw [if_neg (fun q => by rcases q with q2 | q2; omega; exact Int32.not_lt.mpr h_90 q2)]) (by (have hcl : tchA Y n hN c j k = (b, le) := (by rw [hb, hle])); simp only [tchA, hcl]; rw [if_neg (fun q => by rcases q with q2 | q2; omega; exact Int32.not_lt.mpr h_90 q2)]) (by exact h208) (by exact hem.tr (eqM.of23 hX9))
              · skip
                refine v_iload C 1 dX10_teach_93 rfl ?_
                refine v_istore_n C [(3, .int (nI k)), (6, .int ((passS (upd Y ((7 + (6 * c)) + 0) (nI k)) n hN j) (7 + 6 * c + 5))), (5, .int (nI k)), (4, .int le), (0, .ref (gb G + 205)), (1, .int (nI c)), (2, .int (nI j))] dX10_teach_95 rfl (by decide) rfl ?_
                refine v_iload C 1 dX10_teach_96 rfl ?_
                refine v_istore C [(4, .int ((passS (upd Y ((7 + (6 * c)) + 0) (nI k)) n hN j) (7 + 6 * c + 5))), (3, .int (nI k)), (6, .int ((passS (upd Y ((7 + (6 * c)) + 0) (nI k)) n hN j) (7 + 6 * c + 5))), (5, .int (nI k)), (0, .ref (gb G + 205)), (1, .int (nI c)), (2, .int (nI j))] dX10_teach_98 (by decide) rfl ?_
                refine v_iinc C (nI (k + 1)) 3 [(5, .int (nI (k + 1))), (4, .int ((passS (upd Y ((7 + (6 * c)) + 0) (nI k)) n hN j) (7 + 6 * c + 5))), (3, .int (nI k)), (6, .int ((passS (upd Y ((7 + (6 * c)) + 0) (nI k)) n hN j) (7 + 6 * c + 5))), (0, .ref (gb G + 205)), (1, .int (nI c)), (2, .int (nI j))] dX10_teach_100 rfl (nI_add _ _) (by decide) rfl ?_
                refine v_goto C 42 dX10_teach_103 rfl ?_
                refine v_sub [0, 2, 1, 4, 5, 6] [(5, .int (nI (k + 1))), (3, .int (nI k)), (4, .int ((passS (upd Y ((7 + (6 * c)) + 0) (nI k)) n hN j) (7 + 6 * c + 5))), (0, .ref (gb G + 205)), (1, .int (nI c)), (2, .int (nI j))] rfl ?_
                refine v_lv [(5, .int (nI (k + 1))), (3, .int (kv k)), (4, .int ((passS (upd Y ((7 + (6 * c)) + 0) (nI k)) n hN j) (7 + 6 * c + 5))), (0, .ref (gb G + 205)), (1, .int (nI c)), (2, .int (nI j))] (by rw [kv_lt (show k < 7 by omega)]) ?_
                exact ihLT _ (by omega) (k + 1) k ((passS (upd Y ((7 + (6 * c)) + 0) (nI k)) n hN j) (7 + 6 * c + 5)) X9  rfl (by omega) (by (have hcl : tchA Y n hN c j k = (b, le) := (by rw [hb, hle])); simp only [tchA, hcl]; rw [if_pos (by first | exact Or.inl hj10 | exact Or.inr (Int32.not_le.mp h_90))]; all_goals rfl) (by (have hcl : tchA Y n hN c j k = (b, le) := (by rw [hb, hle])); simp only [tchA, hcl]; rw [if_pos (by first | exact Or.inl hj10 | exact Or.inr (Int32.not_le.mp h_90))]; all_goals rfl) (by exact h208) (by exact hem.tr (eqM.of23 hX9))
      refine v_sub [0, 2, 1, 3, 4, 5] [(5, .int (nI 0)), (3, .int (-1)), (4, .int (nI 0)), (0, .ref (gb G + 205)), (1, .int (nI c)), (2, .int (nI j))] rfl ?_
      exact LT _ 0 7 _ _ rfl (by omega) (by rfl) (by rfl) (by exact upA_eq M 208 Y) (by exact eqM.upA M Y (Or.inl rfl))
    · skip
      refine v_aload_n C 0 dX10_teach_16 rfl ?_
      refine v_ldc C (-1000001) kc_X10_80 dX10_teach_17 ?_
      refine n_callVi C hRm [.int (-1000001)] cw_X10_finding ml_X10_81 (by decide) sh_205 (by decide) rfl (r_finding l G (upA M 206 Y) 1 (by decide) (-1000001) (by decide)) (by decide) rfl rfl (Nat.le_of_ble_eq_true rfl) dX10_teach_19 (fun M5 hP_19 => ?_)
      subst hP_19
      refine v_mem (upA (fndM M 1) 206 Y) (fnd_upA _ _ _) ?_
      have hS : teachS Y n hN (nI c) k0 = er 1 Y := by unfold teachS; (try rw [nI_clamp (by omega)]); (try rw [nI_clamp (by omega)]); (first | rw [if_pos h_6] | rw [if_neg h_6] | rw [if_pos (congrArg nI h_6)] | rw [if_neg (fun q9 => h_6 ((nI_eq (by omega) (by omega)).mp q9))] | rw [if_neg (Nat.not_le.mpr h_6)] | rw [if_neg (Nat.not_lt.mpr h_6)] | skip); (first | rw [if_pos h_13] | rw [if_neg h_13] | rw [if_pos (congrArg nI h_13)] | rw [if_neg (fun q9 => h_13 ((nI_eq (by omega) (by omega)).mp q9))] | rw [if_neg (Nat.not_le.mpr h_13)] | rw [if_neg (Nat.not_lt.mpr h_13)] | skip); (try rw [e1]); all_goals rfl
      exact n_iret C hRt rfl dX10_teach_22 (by rw [hS] <;> rfl) (by rw [hS]; exact ⟨_, rfl, (eqM.rf M).tr (eqM.fnd _ (show (1 : Nat) ≠ 0 by decide))⟩)
def fonM (Y : Nat → Int32) (a b : Nat) : Nat → Nat
  | 0 => 0
  | k + 1 => fonM Y a b k + (if ¬ k = a ∧ ¬ k = b ∧ nI 50 ≤ Y (67 + 10 * a + k) ∧ nI 50 ≤ Y (67 + 10 * b + k) then 1 else 0)
def hpN (Y : Nat → Int32) (a b : Nat) : Int32 := if ¬ Y (7 + 6 * a + 4) < 0 ∧ Y (7 + 6 * a + 4) = Y (7 + 6 * b + 4) then nI 1 else nI 0
def movS (Y : Nat → Int32) (n a b : Nat) : Int32 := if ¬ Y (321 + 62 * 1) ≤ 0 then heldS (valT Y 1 (nm5 (Y (67 + 10 * a + b)) (Y (67 + 10 * b + a)) (nI (fonM Y a b n)) (hpN Y a b) (nI 0))) (nI 0) (nI 99)
  else heldS (Y (67 + 10 * a + b) + (if Y (67 + 10 * b + a) ≤ Y (67 + 10 * a + b) then nI 0 else nI 1) - (if Y (67 + 10 * a + b) ≤ Y (67 + 10 * b + a) then nI 0 else nI 1) + hpN Y a b) (nI 0) (nI 99)
theorem fonM_le (Y : Nat → Int32) (a b : Nat) : ∀ o, fonM Y a b o ≤ o
  | 0 => Nat.le_refl _
  | o + 1 => by
    have := fonM_le Y a b o
    unfold fonM
    split <;> omega
set_option maxHeartbeats 4000000 in
set_option maxRecDepth 100000 in
theorem r_movesTo (l : Launch) (G : GC) (M : Mm) (Y : Nat → Int32) (n hN : Nat) (hY : YOk Y n hN) (a b : Nat) (ha : a < n) (hb : b < n) : CI l G 5 yX10_movesTo cX10_movesTo 8 .int [.ref (gb G + 205), .int (nI a), .int (nI b)] (upA M 206 Y) (movS Y n a b) (fun M' => ∃ X, M' = upA X 206 Y ∧ ex23 M X) := by
  refine Con.of (by decide +kernel) (Nat.le_of_ble_eq_true rfl) ?_
  intro f C hRm hRt _
  have h10 := hY.1.2.1
  obtain ⟨len, hok⟩ := hY.2.2.2.1 1 (by decide)
  have hl0 : ¬ Y (321 + 62 * 1) ≤ 0 → 0 < len := fun q => by
    rcases Nat.eq_zero_or_pos len with h0 | h0
    · subst h0; exact absurd (by rw [show Y (321 + 62 * 1) = nI 0 from hok.2.1]; decide) q
    · exact h0
  have LF : ∀ (kk : Nat) (k : Nat) (f0 : Nat), n - k = kk → k ≤ n → f0 = fonM Y a b k → Vc f G NPh (upA M 206 Y) 21 [(6, .int (nI k)), (5, .int (nI f0)), (3, .int (Y (67 + 10 * a + b))), (4, .int (Y (67 + 10 * b + a))), (0, .ref (gb G + 205)), (1, .int (nI a)), (2, .int (nI b))] [] := by
    intro kk
    induction kk using Nat.strongRecOn with
    | _ kk ihLF =>
      intro k f0 hkk hk hf
      refine v_iload C 0 dX10_movesTo_21 rfl ?_
      refine v_aload_n C 4 dX10_movesTo_23 rfl ?_
      refine g_X10_9 C (by decide) sh_205 dX10_movesTo_24 ?_
      refine v_iconst C (nI 0) dX10_movesTo_27 (by decide) ?_
      refine n_now_ld C (by decide) sh_206 (by omega) (by decide) dX10_movesTo_28 ?_
      refine v_top (nI n) hY.1.1 ?_
      refine n_icmp_ge C (by omega) (by omega) 84 dX10_movesTo_29 rfl (fun h_29 => ?_) (fun h_29 => ?_)
      · skip
        have hf9 : f0 = fonM Y a b n := by rw [hf, show k = n by omega]
        refine v_aload_n C 4 dX10_movesTo_84 rfl ?_
        refine v_iload_n C 5 dX10_movesTo_85 rfl ?_
        refine v_iconst C (nI 4) dX10_movesTo_86 (by decide) ?_
        refine n_callVp C hRm [.int (nI a), .int (nI 4)] cw_X10_of ml_X10_86 (by decide) sh_205 (by decide) rfl (r_of l G M Y a 4 (by omega)) (by decide) rfl rfl (Nat.le_of_ble_eq_true rfl) dX10_movesTo_87 ?_
        refine v_if_lt C 112 dX10_movesTo_90 rfl (fun h_90 => ?_) (fun h_90 => ?_)
        · skip
          refine v_iconst C (nI 0) dX10_movesTo_112 (by decide) ?_
          refine v_istore C [(6, .int (nI 0)), (5, .int (nI f0)), (3, .int (Y (67 + 10 * a + b))), (4, .int (Y (67 + 10 * b + a))), (0, .ref (gb G + 205)), (1, .int (nI a)), (2, .int (nI b))] dX10_movesTo_113 (by decide) rfl ?_
          refine v_iload_n C 2 dX10_movesTo_115 rfl ?_
          refine v_iload C 3 dX10_movesTo_116 rfl ?_
          refine v_iload_n C 2 dX10_movesTo_118 rfl ?_
          refine v_icmp_le C 126 dX10_movesTo_119 rfl (fun h_119 => ?_) (fun h_119 => ?_)
          · skip
            refine v_iconst C (nI 0) dX10_movesTo_126 (by decide) ?_
            refine v_iadd C dX10_movesTo_127 ?_
            refine v_iload C 3 dX10_movesTo_128 rfl ?_
            refine v_iload_n C 2 dX10_movesTo_130 rfl ?_
            refine v_icmp_ge C 138 dX10_movesTo_131 rfl (fun h_131 => ?_) (fun h_131 => ?_)
            · skip
              refine v_iconst C (nI 0) dX10_movesTo_138 (by decide) ?_
              refine v_isub C dX10_movesTo_139 ?_
              refine v_iload C 0 dX10_movesTo_140 rfl ?_
              refine v_iadd C dX10_movesTo_142 ?_
              refine v_istore C [(7, .int ((((Y (67 + 10 * a + b)) + (nI 0)) - (nI 0)) + (nI 0))), (6, .int (nI 0)), (5, .int (nI f0)), (3, .int (Y (67 + 10 * a + b))), (4, .int (Y (67 + 10 * b + a))), (0, .ref (gb G + 205)), (1, .int (nI a)), (2, .int (nI b))] dX10_movesTo_143 (by decide) rfl ?_
              refine v_aload_n C 5 dX10_movesTo_145 rfl ?_
              refine v_iconst C (nI 1) dX10_movesTo_146 (by decide) ?_
              refine n_callVp C hRm [.int (nI 1)] cw_X10_hasText ml_X10_148 (by decide) sh_205 (by decide) rfl (r_hasText l G M Y 1 (by omega)) (by decide) rfl rfl (Nat.le_of_ble_eq_true rfl) dX10_movesTo_147 ?_
              refine nb_if_eq C 169 dX10_movesTo_150 rfl (fun h_150 => ?_) (fun h_150 => ?_)
              · skip
                refine v_iload C 0 dX10_movesTo_169 rfl ?_
                refine v_iconst C (nI 0) dX10_movesTo_171 (by decide) ?_
                refine v_bipush C (nI 99) dX10_movesTo_172 (by decide) ?_
                refine n_callSp C hRm [.int ((((Y (67 + 10 * a + b)) + (nI 0)) - (nI 0)) + (nI 0)), .int (nI 0), .int (nI 99)] cw_X10_held st_X10_held ml_X10_158 (r_held l G (upA M 206 Y) ((((Y (67 + 10 * a + b)) + (nI 0)) - (nI 0)) + (nI 0)) (nI 0) (nI 99)) (by decide) rfl rfl (Nat.le_of_ble_eq_true rfl) dX10_movesTo_174 ?_
                exact n_iret C hRt rfl dX10_movesTo_177 (by unfold movS; rw [if_neg h_150]; unfold hpN; rw [if_neg (show ¬ (¬ Y (7 + 6 * a + 4) < 0 ∧ Y (7 + 6 * a + 4) = Y (7 + 6 * b + 4)) from fun q => (And.left q) h_90)]; (first | rw [if_pos h_119] | rw [if_neg h_119]); (first | rw [if_pos h_131] | rw [if_neg h_131])) ⟨M, rfl, ex23.rf M⟩
              · skip
                refine v_aload_n C 5 dX10_movesTo_153 rfl ?_
                refine v_iconst C (nI 1) dX10_movesTo_154 (by decide) ?_
                refine v_iload_n C 3 dX10_movesTo_155 rfl ?_
                refine v_iload C 4 dX10_movesTo_156 rfl ?_
                refine v_iload C 2 dX10_movesTo_158 rfl ?_
                refine v_iload C 1 dX10_movesTo_160 rfl ?_
                refine v_iconst C (nI 0) dX10_movesTo_162 (by decide) ?_
                refine n_callVi C hRm [.int (nI 1), .int (Y (67 + 10 * a + b)), .int (Y (67 + 10 * b + a)), .int (nI f0), .int (nI 0), .int (nI 0)] cw_X10_given ml_X10_154 (by decide) sh_205 (by decide) rfl (r_given l G M Y 1 (by decide) len hok (hl0 h_150) (Y (67 + 10 * a + b)) (Y (67 + 10 * b + a)) (nI f0) (nI 0) (nI 0)) (by decide) rfl rfl (Nat.le_of_ble_eq_true rfl) dX10_movesTo_163 (fun M9 hP_163 => ?_)
                obtain ⟨X9, rfl, hX9⟩ := hP_163
                refine v_goto C 171 dX10_movesTo_166 rfl ?_
                refine v_iconst C (nI 0) dX10_movesTo_171 (by decide) ?_
                refine v_bipush C (nI 99) dX10_movesTo_172 (by decide) ?_
                refine n_callSp C hRm [.int (valT Y 1 (nm5 (Y (67 + 10 * a + b)) (Y (67 + 10 * b + a)) (nI f0) (nI 0) (nI 0))), .int (nI 0), .int (nI 99)] cw_X10_held st_X10_held ml_X10_158 (r_held l G (upA X9 206 Y) (valT Y 1 (nm5 (Y (67 + 10 * a + b)) (Y (67 + 10 * b + a)) (nI f0) (nI 0) (nI 0))) (nI 0) (nI 99)) (by decide) rfl rfl (Nat.le_of_ble_eq_true rfl) dX10_movesTo_174 ?_
                exact n_iret C hRt rfl dX10_movesTo_177 (by unfold movS; rw [if_pos h_150]; rw [← hf9]; unfold hpN; rw [if_neg (show ¬ (¬ Y (7 + 6 * a + 4) < 0 ∧ Y (7 + 6 * a + 4) = Y (7 + 6 * b + 4)) from fun q => (And.left q) h_90)]; skip) ⟨X9, rfl, hX9⟩
            · skip
              refine v_iconst C (nI 1) dX10_movesTo_134 (by decide) ?_
              refine v_goto C 139 dX10_movesTo_135 rfl ?_
              refine v_isub C dX10_movesTo_139 ?_
              refine v_iload C 0 dX10_movesTo_140 rfl ?_
              refine v_iadd C dX10_movesTo_142 ?_
              refine v_istore C [(7, .int ((((Y (67 + 10 * a + b)) + (nI 0)) - (nI 1)) + (nI 0))), (6, .int (nI 0)), (5, .int (nI f0)), (3, .int (Y (67 + 10 * a + b))), (4, .int (Y (67 + 10 * b + a))), (0, .ref (gb G + 205)), (1, .int (nI a)), (2, .int (nI b))] dX10_movesTo_143 (by decide) rfl ?_
              refine v_aload_n C 5 dX10_movesTo_145 rfl ?_
              refine v_iconst C (nI 1) dX10_movesTo_146 (by decide) ?_
              refine n_callVp C hRm [.int (nI 1)] cw_X10_hasText ml_X10_148 (by decide) sh_205 (by decide) rfl (r_hasText l G M Y 1 (by omega)) (by decide) rfl rfl (Nat.le_of_ble_eq_true rfl) dX10_movesTo_147 ?_
              refine nb_if_eq C 169 dX10_movesTo_150 rfl (fun h_150 => ?_) (fun h_150 => ?_)
              · skip
                refine v_iload C 0 dX10_movesTo_169 rfl ?_
                refine v_iconst C (nI 0) dX10_movesTo_171 (by decide) ?_
                refine v_bipush C (nI 99) dX10_movesTo_172 (by decide) ?_
                refine n_callSp C hRm [.int ((((Y (67 + 10 * a + b)) + (nI 0)) - (nI 1)) + (nI 0)), .int (nI 0), .int (nI 99)] cw_X10_held st_X10_held ml_X10_158 (r_held l G (upA M 206 Y) ((((Y (67 + 10 * a + b)) + (nI 0)) - (nI 1)) + (nI 0)) (nI 0) (nI 99)) (by decide) rfl rfl (Nat.le_of_ble_eq_true rfl) dX10_movesTo_174 ?_
                exact n_iret C hRt rfl dX10_movesTo_177 (by unfold movS; rw [if_neg h_150]; unfold hpN; rw [if_neg (show ¬ (¬ Y (7 + 6 * a + 4) < 0 ∧ Y (7 + 6 * a + 4) = Y (7 + 6 * b + 4)) from fun q => (And.left q) h_90)]; (first | rw [if_pos h_119] | rw [if_neg h_119]); (first | rw [if_pos h_131] | rw [if_neg h_131])) ⟨M, rfl, ex23.rf M⟩
              · skip
                refine v_aload_n C 5 dX10_movesTo_153 rfl ?_
                refine v_iconst C (nI 1) dX10_movesTo_154 (by decide) ?_
                refine v_iload_n C 3 dX10_movesTo_155 rfl ?_
                refine v_iload C 4 dX10_movesTo_156 rfl ?_
                refine v_iload C 2 dX10_movesTo_158 rfl ?_
                refine v_iload C 1 dX10_movesTo_160 rfl ?_
                refine v_iconst C (nI 0) dX10_movesTo_162 (by decide) ?_
                refine n_callVi C hRm [.int (nI 1), .int (Y (67 + 10 * a + b)), .int (Y (67 + 10 * b + a)), .int (nI f0), .int (nI 0), .int (nI 0)] cw_X10_given ml_X10_154 (by decide) sh_205 (by decide) rfl (r_given l G M Y 1 (by decide) len hok (hl0 h_150) (Y (67 + 10 * a + b)) (Y (67 + 10 * b + a)) (nI f0) (nI 0) (nI 0)) (by decide) rfl rfl (Nat.le_of_ble_eq_true rfl) dX10_movesTo_163 (fun M9 hP_163 => ?_)
                obtain ⟨X9, rfl, hX9⟩ := hP_163
                refine v_goto C 171 dX10_movesTo_166 rfl ?_
                refine v_iconst C (nI 0) dX10_movesTo_171 (by decide) ?_
                refine v_bipush C (nI 99) dX10_movesTo_172 (by decide) ?_
                refine n_callSp C hRm [.int (valT Y 1 (nm5 (Y (67 + 10 * a + b)) (Y (67 + 10 * b + a)) (nI f0) (nI 0) (nI 0))), .int (nI 0), .int (nI 99)] cw_X10_held st_X10_held ml_X10_158 (r_held l G (upA X9 206 Y) (valT Y 1 (nm5 (Y (67 + 10 * a + b)) (Y (67 + 10 * b + a)) (nI f0) (nI 0) (nI 0))) (nI 0) (nI 99)) (by decide) rfl rfl (Nat.le_of_ble_eq_true rfl) dX10_movesTo_174 ?_
                exact n_iret C hRt rfl dX10_movesTo_177 (by unfold movS; rw [if_pos h_150]; rw [← hf9]; unfold hpN; rw [if_neg (show ¬ (¬ Y (7 + 6 * a + 4) < 0 ∧ Y (7 + 6 * a + 4) = Y (7 + 6 * b + 4)) from fun q => (And.left q) h_90)]; skip) ⟨X9, rfl, hX9⟩
          · skip
            refine v_iconst C (nI 1) dX10_movesTo_122 (by decide) ?_
            refine v_goto C 127 dX10_movesTo_123 rfl ?_
            refine v_iadd C dX10_movesTo_127 ?_
            refine v_iload C 3 dX10_movesTo_128 rfl ?_
            refine v_iload_n C 2 dX10_movesTo_130 rfl ?_
            refine v_icmp_ge C 138 dX10_movesTo_131 rfl (fun h_131 => ?_) (fun h_131 => ?_)
            · skip
              refine v_iconst C (nI 0) dX10_movesTo_138 (by decide) ?_
              refine v_isub C dX10_movesTo_139 ?_
              refine v_iload C 0 dX10_movesTo_140 rfl ?_
              refine v_iadd C dX10_movesTo_142 ?_
              refine v_istore C [(7, .int ((((Y (67 + 10 * a + b)) + (nI 1)) - (nI 0)) + (nI 0))), (6, .int (nI 0)), (5, .int (nI f0)), (3, .int (Y (67 + 10 * a + b))), (4, .int (Y (67 + 10 * b + a))), (0, .ref (gb G + 205)), (1, .int (nI a)), (2, .int (nI b))] dX10_movesTo_143 (by decide) rfl ?_
              refine v_aload_n C 5 dX10_movesTo_145 rfl ?_
              refine v_iconst C (nI 1) dX10_movesTo_146 (by decide) ?_
              refine n_callVp C hRm [.int (nI 1)] cw_X10_hasText ml_X10_148 (by decide) sh_205 (by decide) rfl (r_hasText l G M Y 1 (by omega)) (by decide) rfl rfl (Nat.le_of_ble_eq_true rfl) dX10_movesTo_147 ?_
              refine nb_if_eq C 169 dX10_movesTo_150 rfl (fun h_150 => ?_) (fun h_150 => ?_)
              · skip
                refine v_iload C 0 dX10_movesTo_169 rfl ?_
                refine v_iconst C (nI 0) dX10_movesTo_171 (by decide) ?_
                refine v_bipush C (nI 99) dX10_movesTo_172 (by decide) ?_
                refine n_callSp C hRm [.int ((((Y (67 + 10 * a + b)) + (nI 1)) - (nI 0)) + (nI 0)), .int (nI 0), .int (nI 99)] cw_X10_held st_X10_held ml_X10_158 (r_held l G (upA M 206 Y) ((((Y (67 + 10 * a + b)) + (nI 1)) - (nI 0)) + (nI 0)) (nI 0) (nI 99)) (by decide) rfl rfl (Nat.le_of_ble_eq_true rfl) dX10_movesTo_174 ?_
                exact n_iret C hRt rfl dX10_movesTo_177 (by unfold movS; rw [if_neg h_150]; unfold hpN; rw [if_neg (show ¬ (¬ Y (7 + 6 * a + 4) < 0 ∧ Y (7 + 6 * a + 4) = Y (7 + 6 * b + 4)) from fun q => (And.left q) h_90)]; (first | rw [if_pos h_119] | rw [if_neg h_119]); (first | rw [if_pos h_131] | rw [if_neg h_131])) ⟨M, rfl, ex23.rf M⟩
              · skip
                refine v_aload_n C 5 dX10_movesTo_153 rfl ?_
                refine v_iconst C (nI 1) dX10_movesTo_154 (by decide) ?_
                refine v_iload_n C 3 dX10_movesTo_155 rfl ?_
                refine v_iload C 4 dX10_movesTo_156 rfl ?_
                refine v_iload C 2 dX10_movesTo_158 rfl ?_
                refine v_iload C 1 dX10_movesTo_160 rfl ?_
                refine v_iconst C (nI 0) dX10_movesTo_162 (by decide) ?_
                refine n_callVi C hRm [.int (nI 1), .int (Y (67 + 10 * a + b)), .int (Y (67 + 10 * b + a)), .int (nI f0), .int (nI 0), .int (nI 0)] cw_X10_given ml_X10_154 (by decide) sh_205 (by decide) rfl (r_given l G M Y 1 (by decide) len hok (hl0 h_150) (Y (67 + 10 * a + b)) (Y (67 + 10 * b + a)) (nI f0) (nI 0) (nI 0)) (by decide) rfl rfl (Nat.le_of_ble_eq_true rfl) dX10_movesTo_163 (fun M9 hP_163 => ?_)
                obtain ⟨X9, rfl, hX9⟩ := hP_163
                refine v_goto C 171 dX10_movesTo_166 rfl ?_
                refine v_iconst C (nI 0) dX10_movesTo_171 (by decide) ?_
                refine v_bipush C (nI 99) dX10_movesTo_172 (by decide) ?_
                refine n_callSp C hRm [.int (valT Y 1 (nm5 (Y (67 + 10 * a + b)) (Y (67 + 10 * b + a)) (nI f0) (nI 0) (nI 0))), .int (nI 0), .int (nI 99)] cw_X10_held st_X10_held ml_X10_158 (r_held l G (upA X9 206 Y) (valT Y 1 (nm5 (Y (67 + 10 * a + b)) (Y (67 + 10 * b + a)) (nI f0) (nI 0) (nI 0))) (nI 0) (nI 99)) (by decide) rfl rfl (Nat.le_of_ble_eq_true rfl) dX10_movesTo_174 ?_
                exact n_iret C hRt rfl dX10_movesTo_177 (by unfold movS; rw [if_pos h_150]; rw [← hf9]; unfold hpN; rw [if_neg (show ¬ (¬ Y (7 + 6 * a + 4) < 0 ∧ Y (7 + 6 * a + 4) = Y (7 + 6 * b + 4)) from fun q => (And.left q) h_90)]; skip) ⟨X9, rfl, hX9⟩
            · skip
              refine v_iconst C (nI 1) dX10_movesTo_134 (by decide) ?_
              refine v_goto C 139 dX10_movesTo_135 rfl ?_
              refine v_isub C dX10_movesTo_139 ?_
              refine v_iload C 0 dX10_movesTo_140 rfl ?_
              refine v_iadd C dX10_movesTo_142 ?_
              refine v_istore C [(7, .int ((((Y (67 + 10 * a + b)) + (nI 1)) - (nI 1)) + (nI 0))), (6, .int (nI 0)), (5, .int (nI f0)), (3, .int (Y (67 + 10 * a + b))), (4, .int (Y (67 + 10 * b + a))), (0, .ref (gb G + 205)), (1, .int (nI a)), (2, .int (nI b))] dX10_movesTo_143 (by decide) rfl ?_
              refine v_aload_n C 5 dX10_movesTo_145 rfl ?_
              refine v_iconst C (nI 1) dX10_movesTo_146 (by decide) ?_
              refine n_callVp C hRm [.int (nI 1)] cw_X10_hasText ml_X10_148 (by decide) sh_205 (by decide) rfl (r_hasText l G M Y 1 (by omega)) (by decide) rfl rfl (Nat.le_of_ble_eq_true rfl) dX10_movesTo_147 ?_
              refine nb_if_eq C 169 dX10_movesTo_150 rfl (fun h_150 => ?_) (fun h_150 => ?_)
              · skip
                refine v_iload C 0 dX10_movesTo_169 rfl ?_
                refine v_iconst C (nI 0) dX10_movesTo_171 (by decide) ?_
                refine v_bipush C (nI 99) dX10_movesTo_172 (by decide) ?_
                refine n_callSp C hRm [.int ((((Y (67 + 10 * a + b)) + (nI 1)) - (nI 1)) + (nI 0)), .int (nI 0), .int (nI 99)] cw_X10_held st_X10_held ml_X10_158 (r_held l G (upA M 206 Y) ((((Y (67 + 10 * a + b)) + (nI 1)) - (nI 1)) + (nI 0)) (nI 0) (nI 99)) (by decide) rfl rfl (Nat.le_of_ble_eq_true rfl) dX10_movesTo_174 ?_
                exact n_iret C hRt rfl dX10_movesTo_177 (by unfold movS; rw [if_neg h_150]; unfold hpN; rw [if_neg (show ¬ (¬ Y (7 + 6 * a + 4) < 0 ∧ Y (7 + 6 * a + 4) = Y (7 + 6 * b + 4)) from fun q => (And.left q) h_90)]; (first | rw [if_pos h_119] | rw [if_neg h_119]); (first | rw [if_pos h_131] | rw [if_neg h_131])) ⟨M, rfl, ex23.rf M⟩
              · skip
                refine v_aload_n C 5 dX10_movesTo_153 rfl ?_
                refine v_iconst C (nI 1) dX10_movesTo_154 (by decide) ?_
                refine v_iload_n C 3 dX10_movesTo_155 rfl ?_
                refine v_iload C 4 dX10_movesTo_156 rfl ?_
                refine v_iload C 2 dX10_movesTo_158 rfl ?_
                refine v_iload C 1 dX10_movesTo_160 rfl ?_
                refine v_iconst C (nI 0) dX10_movesTo_162 (by decide) ?_
                refine n_callVi C hRm [.int (nI 1), .int (Y (67 + 10 * a + b)), .int (Y (67 + 10 * b + a)), .int (nI f0), .int (nI 0), .int (nI 0)] cw_X10_given ml_X10_154 (by decide) sh_205 (by decide) rfl (r_given l G M Y 1 (by decide) len hok (hl0 h_150) (Y (67 + 10 * a + b)) (Y (67 + 10 * b + a)) (nI f0) (nI 0) (nI 0)) (by decide) rfl rfl (Nat.le_of_ble_eq_true rfl) dX10_movesTo_163 (fun M9 hP_163 => ?_)
                obtain ⟨X9, rfl, hX9⟩ := hP_163
                refine v_goto C 171 dX10_movesTo_166 rfl ?_
                refine v_iconst C (nI 0) dX10_movesTo_171 (by decide) ?_
                refine v_bipush C (nI 99) dX10_movesTo_172 (by decide) ?_
                refine n_callSp C hRm [.int (valT Y 1 (nm5 (Y (67 + 10 * a + b)) (Y (67 + 10 * b + a)) (nI f0) (nI 0) (nI 0))), .int (nI 0), .int (nI 99)] cw_X10_held st_X10_held ml_X10_158 (r_held l G (upA X9 206 Y) (valT Y 1 (nm5 (Y (67 + 10 * a + b)) (Y (67 + 10 * b + a)) (nI f0) (nI 0) (nI 0))) (nI 0) (nI 99)) (by decide) rfl rfl (Nat.le_of_ble_eq_true rfl) dX10_movesTo_174 ?_
                exact n_iret C hRt rfl dX10_movesTo_177 (by unfold movS; rw [if_pos h_150]; rw [← hf9]; unfold hpN; rw [if_neg (show ¬ (¬ Y (7 + 6 * a + 4) < 0 ∧ Y (7 + 6 * a + 4) = Y (7 + 6 * b + 4)) from fun q => (And.left q) h_90)]; skip) ⟨X9, rfl, hX9⟩
        · skip
          refine v_aload_n C 4 dX10_movesTo_93 rfl ?_
          refine v_iload_n C 5 dX10_movesTo_94 rfl ?_
          refine v_iconst C (nI 4) dX10_movesTo_95 (by decide) ?_
          refine n_callVp C hRm [.int (nI a), .int (nI 4)] cw_X10_of ml_X10_86 (by decide) sh_205 (by decide) rfl (r_of l G M Y a 4 (by omega)) (by decide) rfl rfl (Nat.le_of_ble_eq_true rfl) dX10_movesTo_96 ?_
          refine v_aload_n C 4 dX10_movesTo_99 rfl ?_
          refine v_iload_n C 6 dX10_movesTo_100 rfl ?_
          refine v_iconst C (nI 4) dX10_movesTo_101 (by decide) ?_
          refine n_callVp C hRm [.int (nI b), .int (nI 4)] cw_X10_of ml_X10_86 (by decide) sh_205 (by decide) rfl (r_of l G M Y b 4 (by omega)) (by decide) rfl rfl (Nat.le_of_ble_eq_true rfl) dX10_movesTo_102 ?_
          refine v_icmp_ne C 112 dX10_movesTo_105 rfl (fun h_105 => ?_) (fun h_105 => ?_)
          · skip
            refine v_iconst C (nI 0) dX10_movesTo_112 (by decide) ?_
            refine v_istore C [(6, .int (nI 0)), (5, .int (nI f0)), (3, .int (Y (67 + 10 * a + b))), (4, .int (Y (67 + 10 * b + a))), (0, .ref (gb G + 205)), (1, .int (nI a)), (2, .int (nI b))] dX10_movesTo_113 (by decide) rfl ?_
            refine v_iload_n C 2 dX10_movesTo_115 rfl ?_
            refine v_iload C 3 dX10_movesTo_116 rfl ?_
            refine v_iload_n C 2 dX10_movesTo_118 rfl ?_
            refine v_icmp_le C 126 dX10_movesTo_119 rfl (fun h_119 => ?_) (fun h_119 => ?_)
            · skip
              refine v_iconst C (nI 0) dX10_movesTo_126 (by decide) ?_
              refine v_iadd C dX10_movesTo_127 ?_
              refine v_iload C 3 dX10_movesTo_128 rfl ?_
              refine v_iload_n C 2 dX10_movesTo_130 rfl ?_
              refine v_icmp_ge C 138 dX10_movesTo_131 rfl (fun h_131 => ?_) (fun h_131 => ?_)
              · skip
                refine v_iconst C (nI 0) dX10_movesTo_138 (by decide) ?_
                refine v_isub C dX10_movesTo_139 ?_
                refine v_iload C 0 dX10_movesTo_140 rfl ?_
                refine v_iadd C dX10_movesTo_142 ?_
                refine v_istore C [(7, .int ((((Y (67 + 10 * a + b)) + (nI 0)) - (nI 0)) + (nI 0))), (6, .int (nI 0)), (5, .int (nI f0)), (3, .int (Y (67 + 10 * a + b))), (4, .int (Y (67 + 10 * b + a))), (0, .ref (gb G + 205)), (1, .int (nI a)), (2, .int (nI b))] dX10_movesTo_143 (by decide) rfl ?_
                refine v_aload_n C 5 dX10_movesTo_145 rfl ?_
                refine v_iconst C (nI 1) dX10_movesTo_146 (by decide) ?_
                refine n_callVp C hRm [.int (nI 1)] cw_X10_hasText ml_X10_148 (by decide) sh_205 (by decide) rfl (r_hasText l G M Y 1 (by omega)) (by decide) rfl rfl (Nat.le_of_ble_eq_true rfl) dX10_movesTo_147 ?_
                refine nb_if_eq C 169 dX10_movesTo_150 rfl (fun h_150 => ?_) (fun h_150 => ?_)
                · skip
                  refine v_iload C 0 dX10_movesTo_169 rfl ?_
                  refine v_iconst C (nI 0) dX10_movesTo_171 (by decide) ?_
                  refine v_bipush C (nI 99) dX10_movesTo_172 (by decide) ?_
                  refine n_callSp C hRm [.int ((((Y (67 + 10 * a + b)) + (nI 0)) - (nI 0)) + (nI 0)), .int (nI 0), .int (nI 99)] cw_X10_held st_X10_held ml_X10_158 (r_held l G (upA M 206 Y) ((((Y (67 + 10 * a + b)) + (nI 0)) - (nI 0)) + (nI 0)) (nI 0) (nI 99)) (by decide) rfl rfl (Nat.le_of_ble_eq_true rfl) dX10_movesTo_174 ?_
                  exact n_iret C hRt rfl dX10_movesTo_177 (by unfold movS; rw [if_neg h_150]; unfold hpN; (first | rw [if_pos (show ¬ Y (7 + 6 * a + 4) < 0 ∧ Y (7 + 6 * a + 4) = Y (7 + 6 * b + 4) from And.intro h_90 h_105)] | rw [if_neg (show ¬ (¬ Y (7 + 6 * a + 4) < 0 ∧ Y (7 + 6 * a + 4) = Y (7 + 6 * b + 4)) from fun q => h_105 (And.right q))]); (first | rw [if_pos h_119] | rw [if_neg h_119]); (first | rw [if_pos h_131] | rw [if_neg h_131])) ⟨M, rfl, ex23.rf M⟩
                · skip
                  refine v_aload_n C 5 dX10_movesTo_153 rfl ?_
                  refine v_iconst C (nI 1) dX10_movesTo_154 (by decide) ?_
                  refine v_iload_n C 3 dX10_movesTo_155 rfl ?_
                  refine v_iload C 4 dX10_movesTo_156 rfl ?_
                  refine v_iload C 2 dX10_movesTo_158 rfl ?_
                  refine v_iload C 1 dX10_movesTo_160 rfl ?_
                  refine v_iconst C (nI 0) dX10_movesTo_162 (by decide) ?_
                  refine n_callVi C hRm [.int (nI 1), .int (Y (67 + 10 * a + b)), .int (Y (67 + 10 * b + a)), .int (nI f0), .int (nI 0), .int (nI 0)] cw_X10_given ml_X10_154 (by decide) sh_205 (by decide) rfl (r_given l G M Y 1 (by decide) len hok (hl0 h_150) (Y (67 + 10 * a + b)) (Y (67 + 10 * b + a)) (nI f0) (nI 0) (nI 0)) (by decide) rfl rfl (Nat.le_of_ble_eq_true rfl) dX10_movesTo_163 (fun M9 hP_163 => ?_)
                  obtain ⟨X9, rfl, hX9⟩ := hP_163
                  refine v_goto C 171 dX10_movesTo_166 rfl ?_
                  refine v_iconst C (nI 0) dX10_movesTo_171 (by decide) ?_
                  refine v_bipush C (nI 99) dX10_movesTo_172 (by decide) ?_
                  refine n_callSp C hRm [.int (valT Y 1 (nm5 (Y (67 + 10 * a + b)) (Y (67 + 10 * b + a)) (nI f0) (nI 0) (nI 0))), .int (nI 0), .int (nI 99)] cw_X10_held st_X10_held ml_X10_158 (r_held l G (upA X9 206 Y) (valT Y 1 (nm5 (Y (67 + 10 * a + b)) (Y (67 + 10 * b + a)) (nI f0) (nI 0) (nI 0))) (nI 0) (nI 99)) (by decide) rfl rfl (Nat.le_of_ble_eq_true rfl) dX10_movesTo_174 ?_
                  exact n_iret C hRt rfl dX10_movesTo_177 (by unfold movS; rw [if_pos h_150]; rw [← hf9]; unfold hpN; (first | rw [if_pos (show ¬ Y (7 + 6 * a + 4) < 0 ∧ Y (7 + 6 * a + 4) = Y (7 + 6 * b + 4) from And.intro h_90 h_105)] | rw [if_neg (show ¬ (¬ Y (7 + 6 * a + 4) < 0 ∧ Y (7 + 6 * a + 4) = Y (7 + 6 * b + 4)) from fun q => h_105 (And.right q))]); skip) ⟨X9, rfl, hX9⟩
              · skip
                refine v_iconst C (nI 1) dX10_movesTo_134 (by decide) ?_
                refine v_goto C 139 dX10_movesTo_135 rfl ?_
                refine v_isub C dX10_movesTo_139 ?_
                refine v_iload C 0 dX10_movesTo_140 rfl ?_
                refine v_iadd C dX10_movesTo_142 ?_
                refine v_istore C [(7, .int ((((Y (67 + 10 * a + b)) + (nI 0)) - (nI 1)) + (nI 0))), (6, .int (nI 0)), (5, .int (nI f0)), (3, .int (Y (67 + 10 * a + b))), (4, .int (Y (67 + 10 * b + a))), (0, .ref (gb G + 205)), (1, .int (nI a)), (2, .int (nI b))] dX10_movesTo_143 (by decide) rfl ?_
                refine v_aload_n C 5 dX10_movesTo_145 rfl ?_
                refine v_iconst C (nI 1) dX10_movesTo_146 (by decide) ?_
                refine n_callVp C hRm [.int (nI 1)] cw_X10_hasText ml_X10_148 (by decide) sh_205 (by decide) rfl (r_hasText l G M Y 1 (by omega)) (by decide) rfl rfl (Nat.le_of_ble_eq_true rfl) dX10_movesTo_147 ?_
                refine nb_if_eq C 169 dX10_movesTo_150 rfl (fun h_150 => ?_) (fun h_150 => ?_)
                · skip
                  refine v_iload C 0 dX10_movesTo_169 rfl ?_
                  refine v_iconst C (nI 0) dX10_movesTo_171 (by decide) ?_
                  refine v_bipush C (nI 99) dX10_movesTo_172 (by decide) ?_
                  refine n_callSp C hRm [.int ((((Y (67 + 10 * a + b)) + (nI 0)) - (nI 1)) + (nI 0)), .int (nI 0), .int (nI 99)] cw_X10_held st_X10_held ml_X10_158 (r_held l G (upA M 206 Y) ((((Y (67 + 10 * a + b)) + (nI 0)) - (nI 1)) + (nI 0)) (nI 0) (nI 99)) (by decide) rfl rfl (Nat.le_of_ble_eq_true rfl) dX10_movesTo_174 ?_
                  exact n_iret C hRt rfl dX10_movesTo_177 (by unfold movS; rw [if_neg h_150]; unfold hpN; (first | rw [if_pos (show ¬ Y (7 + 6 * a + 4) < 0 ∧ Y (7 + 6 * a + 4) = Y (7 + 6 * b + 4) from And.intro h_90 h_105)] | rw [if_neg (show ¬ (¬ Y (7 + 6 * a + 4) < 0 ∧ Y (7 + 6 * a + 4) = Y (7 + 6 * b + 4)) from fun q => h_105 (And.right q))]); (first | rw [if_pos h_119] | rw [if_neg h_119]); (first | rw [if_pos h_131] | rw [if_neg h_131])) ⟨M, rfl, ex23.rf M⟩
                · skip
                  refine v_aload_n C 5 dX10_movesTo_153 rfl ?_
                  refine v_iconst C (nI 1) dX10_movesTo_154 (by decide) ?_
                  refine v_iload_n C 3 dX10_movesTo_155 rfl ?_
                  refine v_iload C 4 dX10_movesTo_156 rfl ?_
                  refine v_iload C 2 dX10_movesTo_158 rfl ?_
                  refine v_iload C 1 dX10_movesTo_160 rfl ?_
                  refine v_iconst C (nI 0) dX10_movesTo_162 (by decide) ?_
                  refine n_callVi C hRm [.int (nI 1), .int (Y (67 + 10 * a + b)), .int (Y (67 + 10 * b + a)), .int (nI f0), .int (nI 0), .int (nI 0)] cw_X10_given ml_X10_154 (by decide) sh_205 (by decide) rfl (r_given l G M Y 1 (by decide) len hok (hl0 h_150) (Y (67 + 10 * a + b)) (Y (67 + 10 * b + a)) (nI f0) (nI 0) (nI 0)) (by decide) rfl rfl (Nat.le_of_ble_eq_true rfl) dX10_movesTo_163 (fun M9 hP_163 => ?_)
                  obtain ⟨X9, rfl, hX9⟩ := hP_163
                  refine v_goto C 171 dX10_movesTo_166 rfl ?_
                  refine v_iconst C (nI 0) dX10_movesTo_171 (by decide) ?_
                  refine v_bipush C (nI 99) dX10_movesTo_172 (by decide) ?_
                  refine n_callSp C hRm [.int (valT Y 1 (nm5 (Y (67 + 10 * a + b)) (Y (67 + 10 * b + a)) (nI f0) (nI 0) (nI 0))), .int (nI 0), .int (nI 99)] cw_X10_held st_X10_held ml_X10_158 (r_held l G (upA X9 206 Y) (valT Y 1 (nm5 (Y (67 + 10 * a + b)) (Y (67 + 10 * b + a)) (nI f0) (nI 0) (nI 0))) (nI 0) (nI 99)) (by decide) rfl rfl (Nat.le_of_ble_eq_true rfl) dX10_movesTo_174 ?_
                  exact n_iret C hRt rfl dX10_movesTo_177 (by unfold movS; rw [if_pos h_150]; rw [← hf9]; unfold hpN; (first | rw [if_pos (show ¬ Y (7 + 6 * a + 4) < 0 ∧ Y (7 + 6 * a + 4) = Y (7 + 6 * b + 4) from And.intro h_90 h_105)] | rw [if_neg (show ¬ (¬ Y (7 + 6 * a + 4) < 0 ∧ Y (7 + 6 * a + 4) = Y (7 + 6 * b + 4)) from fun q => h_105 (And.right q))]); skip) ⟨X9, rfl, hX9⟩
            · skip
              refine v_iconst C (nI 1) dX10_movesTo_122 (by decide) ?_
              refine v_goto C 127 dX10_movesTo_123 rfl ?_
              refine v_iadd C dX10_movesTo_127 ?_
              refine v_iload C 3 dX10_movesTo_128 rfl ?_
              refine v_iload_n C 2 dX10_movesTo_130 rfl ?_
              refine v_icmp_ge C 138 dX10_movesTo_131 rfl (fun h_131 => ?_) (fun h_131 => ?_)
              · skip
                refine v_iconst C (nI 0) dX10_movesTo_138 (by decide) ?_
                refine v_isub C dX10_movesTo_139 ?_
                refine v_iload C 0 dX10_movesTo_140 rfl ?_
                refine v_iadd C dX10_movesTo_142 ?_
                refine v_istore C [(7, .int ((((Y (67 + 10 * a + b)) + (nI 1)) - (nI 0)) + (nI 0))), (6, .int (nI 0)), (5, .int (nI f0)), (3, .int (Y (67 + 10 * a + b))), (4, .int (Y (67 + 10 * b + a))), (0, .ref (gb G + 205)), (1, .int (nI a)), (2, .int (nI b))] dX10_movesTo_143 (by decide) rfl ?_
                refine v_aload_n C 5 dX10_movesTo_145 rfl ?_
                refine v_iconst C (nI 1) dX10_movesTo_146 (by decide) ?_
                refine n_callVp C hRm [.int (nI 1)] cw_X10_hasText ml_X10_148 (by decide) sh_205 (by decide) rfl (r_hasText l G M Y 1 (by omega)) (by decide) rfl rfl (Nat.le_of_ble_eq_true rfl) dX10_movesTo_147 ?_
                refine nb_if_eq C 169 dX10_movesTo_150 rfl (fun h_150 => ?_) (fun h_150 => ?_)
                · skip
                  refine v_iload C 0 dX10_movesTo_169 rfl ?_
                  refine v_iconst C (nI 0) dX10_movesTo_171 (by decide) ?_
                  refine v_bipush C (nI 99) dX10_movesTo_172 (by decide) ?_
                  refine n_callSp C hRm [.int ((((Y (67 + 10 * a + b)) + (nI 1)) - (nI 0)) + (nI 0)), .int (nI 0), .int (nI 99)] cw_X10_held st_X10_held ml_X10_158 (r_held l G (upA M 206 Y) ((((Y (67 + 10 * a + b)) + (nI 1)) - (nI 0)) + (nI 0)) (nI 0) (nI 99)) (by decide) rfl rfl (Nat.le_of_ble_eq_true rfl) dX10_movesTo_174 ?_
                  exact n_iret C hRt rfl dX10_movesTo_177 (by unfold movS; rw [if_neg h_150]; unfold hpN; (first | rw [if_pos (show ¬ Y (7 + 6 * a + 4) < 0 ∧ Y (7 + 6 * a + 4) = Y (7 + 6 * b + 4) from And.intro h_90 h_105)] | rw [if_neg (show ¬ (¬ Y (7 + 6 * a + 4) < 0 ∧ Y (7 + 6 * a + 4) = Y (7 + 6 * b + 4)) from fun q => h_105 (And.right q))]); (first | rw [if_pos h_119] | rw [if_neg h_119]); (first | rw [if_pos h_131] | rw [if_neg h_131])) ⟨M, rfl, ex23.rf M⟩
                · skip
                  refine v_aload_n C 5 dX10_movesTo_153 rfl ?_
                  refine v_iconst C (nI 1) dX10_movesTo_154 (by decide) ?_
                  refine v_iload_n C 3 dX10_movesTo_155 rfl ?_
                  refine v_iload C 4 dX10_movesTo_156 rfl ?_
                  refine v_iload C 2 dX10_movesTo_158 rfl ?_
                  refine v_iload C 1 dX10_movesTo_160 rfl ?_
                  refine v_iconst C (nI 0) dX10_movesTo_162 (by decide) ?_
                  refine n_callVi C hRm [.int (nI 1), .int (Y (67 + 10 * a + b)), .int (Y (67 + 10 * b + a)), .int (nI f0), .int (nI 0), .int (nI 0)] cw_X10_given ml_X10_154 (by decide) sh_205 (by decide) rfl (r_given l G M Y 1 (by decide) len hok (hl0 h_150) (Y (67 + 10 * a + b)) (Y (67 + 10 * b + a)) (nI f0) (nI 0) (nI 0)) (by decide) rfl rfl (Nat.le_of_ble_eq_true rfl) dX10_movesTo_163 (fun M9 hP_163 => ?_)
                  obtain ⟨X9, rfl, hX9⟩ := hP_163
                  refine v_goto C 171 dX10_movesTo_166 rfl ?_
                  refine v_iconst C (nI 0) dX10_movesTo_171 (by decide) ?_
                  refine v_bipush C (nI 99) dX10_movesTo_172 (by decide) ?_
                  refine n_callSp C hRm [.int (valT Y 1 (nm5 (Y (67 + 10 * a + b)) (Y (67 + 10 * b + a)) (nI f0) (nI 0) (nI 0))), .int (nI 0), .int (nI 99)] cw_X10_held st_X10_held ml_X10_158 (r_held l G (upA X9 206 Y) (valT Y 1 (nm5 (Y (67 + 10 * a + b)) (Y (67 + 10 * b + a)) (nI f0) (nI 0) (nI 0))) (nI 0) (nI 99)) (by decide) rfl rfl (Nat.le_of_ble_eq_true rfl) dX10_movesTo_174 ?_
                  exact n_iret C hRt rfl dX10_movesTo_177 (by unfold movS; rw [if_pos h_150]; rw [← hf9]; unfold hpN; (first | rw [if_pos (show ¬ Y (7 + 6 * a + 4) < 0 ∧ Y (7 + 6 * a + 4) = Y (7 + 6 * b + 4) from And.intro h_90 h_105)] | rw [if_neg (show ¬ (¬ Y (7 + 6 * a + 4) < 0 ∧ Y (7 + 6 * a + 4) = Y (7 + 6 * b + 4)) from fun q => h_105 (And.right q))]); skip) ⟨X9, rfl, hX9⟩
              · skip
                refine v_iconst C (nI 1) dX10_movesTo_134 (by decide) ?_
                refine v_goto C 139 dX10_movesTo_135 rfl ?_
                refine v_isub C dX10_movesTo_139 ?_
                refine v_iload C 0 dX10_movesTo_140 rfl ?_
                refine v_iadd C dX10_movesTo_142 ?_
                refine v_istore C [(7, .int ((((Y (67 + 10 * a + b)) + (nI 1)) - (nI 1)) + (nI 0))), (6, .int (nI 0)), (5, .int (nI f0)), (3, .int (Y (67 + 10 * a + b))), (4, .int (Y (67 + 10 * b + a))), (0, .ref (gb G + 205)), (1, .int (nI a)), (2, .int (nI b))] dX10_movesTo_143 (by decide) rfl ?_
                refine v_aload_n C 5 dX10_movesTo_145 rfl ?_
                refine v_iconst C (nI 1) dX10_movesTo_146 (by decide) ?_
                refine n_callVp C hRm [.int (nI 1)] cw_X10_hasText ml_X10_148 (by decide) sh_205 (by decide) rfl (r_hasText l G M Y 1 (by omega)) (by decide) rfl rfl (Nat.le_of_ble_eq_true rfl) dX10_movesTo_147 ?_
                refine nb_if_eq C 169 dX10_movesTo_150 rfl (fun h_150 => ?_) (fun h_150 => ?_)
                · skip
                  refine v_iload C 0 dX10_movesTo_169 rfl ?_
                  refine v_iconst C (nI 0) dX10_movesTo_171 (by decide) ?_
                  refine v_bipush C (nI 99) dX10_movesTo_172 (by decide) ?_
                  refine n_callSp C hRm [.int ((((Y (67 + 10 * a + b)) + (nI 1)) - (nI 1)) + (nI 0)), .int (nI 0), .int (nI 99)] cw_X10_held st_X10_held ml_X10_158 (r_held l G (upA M 206 Y) ((((Y (67 + 10 * a + b)) + (nI 1)) - (nI 1)) + (nI 0)) (nI 0) (nI 99)) (by decide) rfl rfl (Nat.le_of_ble_eq_true rfl) dX10_movesTo_174 ?_
                  exact n_iret C hRt rfl dX10_movesTo_177 (by unfold movS; rw [if_neg h_150]; unfold hpN; (first | rw [if_pos (show ¬ Y (7 + 6 * a + 4) < 0 ∧ Y (7 + 6 * a + 4) = Y (7 + 6 * b + 4) from And.intro h_90 h_105)] | rw [if_neg (show ¬ (¬ Y (7 + 6 * a + 4) < 0 ∧ Y (7 + 6 * a + 4) = Y (7 + 6 * b + 4)) from fun q => h_105 (And.right q))]); (first | rw [if_pos h_119] | rw [if_neg h_119]); (first | rw [if_pos h_131] | rw [if_neg h_131])) ⟨M, rfl, ex23.rf M⟩
                · skip
                  refine v_aload_n C 5 dX10_movesTo_153 rfl ?_
                  refine v_iconst C (nI 1) dX10_movesTo_154 (by decide) ?_
                  refine v_iload_n C 3 dX10_movesTo_155 rfl ?_
                  refine v_iload C 4 dX10_movesTo_156 rfl ?_
                  refine v_iload C 2 dX10_movesTo_158 rfl ?_
                  refine v_iload C 1 dX10_movesTo_160 rfl ?_
                  refine v_iconst C (nI 0) dX10_movesTo_162 (by decide) ?_
                  refine n_callVi C hRm [.int (nI 1), .int (Y (67 + 10 * a + b)), .int (Y (67 + 10 * b + a)), .int (nI f0), .int (nI 0), .int (nI 0)] cw_X10_given ml_X10_154 (by decide) sh_205 (by decide) rfl (r_given l G M Y 1 (by decide) len hok (hl0 h_150) (Y (67 + 10 * a + b)) (Y (67 + 10 * b + a)) (nI f0) (nI 0) (nI 0)) (by decide) rfl rfl (Nat.le_of_ble_eq_true rfl) dX10_movesTo_163 (fun M9 hP_163 => ?_)
                  obtain ⟨X9, rfl, hX9⟩ := hP_163
                  refine v_goto C 171 dX10_movesTo_166 rfl ?_
                  refine v_iconst C (nI 0) dX10_movesTo_171 (by decide) ?_
                  refine v_bipush C (nI 99) dX10_movesTo_172 (by decide) ?_
                  refine n_callSp C hRm [.int (valT Y 1 (nm5 (Y (67 + 10 * a + b)) (Y (67 + 10 * b + a)) (nI f0) (nI 0) (nI 0))), .int (nI 0), .int (nI 99)] cw_X10_held st_X10_held ml_X10_158 (r_held l G (upA X9 206 Y) (valT Y 1 (nm5 (Y (67 + 10 * a + b)) (Y (67 + 10 * b + a)) (nI f0) (nI 0) (nI 0))) (nI 0) (nI 99)) (by decide) rfl rfl (Nat.le_of_ble_eq_true rfl) dX10_movesTo_174 ?_
                  exact n_iret C hRt rfl dX10_movesTo_177 (by unfold movS; rw [if_pos h_150]; rw [← hf9]; unfold hpN; (first | rw [if_pos (show ¬ Y (7 + 6 * a + 4) < 0 ∧ Y (7 + 6 * a + 4) = Y (7 + 6 * b + 4) from And.intro h_90 h_105)] | rw [if_neg (show ¬ (¬ Y (7 + 6 * a + 4) < 0 ∧ Y (7 + 6 * a + 4) = Y (7 + 6 * b + 4)) from fun q => h_105 (And.right q))]); skip) ⟨X9, rfl, hX9⟩
          · skip
            refine v_iconst C (nI 1) dX10_movesTo_108 (by decide) ?_
            refine v_goto C 113 dX10_movesTo_109 rfl ?_
            refine v_istore C [(6, .int (nI 1)), (5, .int (nI f0)), (3, .int (Y (67 + 10 * a + b))), (4, .int (Y (67 + 10 * b + a))), (0, .ref (gb G + 205)), (1, .int (nI a)), (2, .int (nI b))] dX10_movesTo_113 (by decide) rfl ?_
            refine v_iload_n C 2 dX10_movesTo_115 rfl ?_
            refine v_iload C 3 dX10_movesTo_116 rfl ?_
            refine v_iload_n C 2 dX10_movesTo_118 rfl ?_
            refine v_icmp_le C 126 dX10_movesTo_119 rfl (fun h_119 => ?_) (fun h_119 => ?_)
            · skip
              refine v_iconst C (nI 0) dX10_movesTo_126 (by decide) ?_
              refine v_iadd C dX10_movesTo_127 ?_
              refine v_iload C 3 dX10_movesTo_128 rfl ?_
              refine v_iload_n C 2 dX10_movesTo_130 rfl ?_
              refine v_icmp_ge C 138 dX10_movesTo_131 rfl (fun h_131 => ?_) (fun h_131 => ?_)
              · skip
                refine v_iconst C (nI 0) dX10_movesTo_138 (by decide) ?_
                refine v_isub C dX10_movesTo_139 ?_
                refine v_iload C 0 dX10_movesTo_140 rfl ?_
                refine v_iadd C dX10_movesTo_142 ?_
                refine v_istore C [(7, .int ((((Y (67 + 10 * a + b)) + (nI 0)) - (nI 0)) + (nI 1))), (6, .int (nI 1)), (5, .int (nI f0)), (3, .int (Y (67 + 10 * a + b))), (4, .int (Y (67 + 10 * b + a))), (0, .ref (gb G + 205)), (1, .int (nI a)), (2, .int (nI b))] dX10_movesTo_143 (by decide) rfl ?_
                refine v_aload_n C 5 dX10_movesTo_145 rfl ?_
                refine v_iconst C (nI 1) dX10_movesTo_146 (by decide) ?_
                refine n_callVp C hRm [.int (nI 1)] cw_X10_hasText ml_X10_148 (by decide) sh_205 (by decide) rfl (r_hasText l G M Y 1 (by omega)) (by decide) rfl rfl (Nat.le_of_ble_eq_true rfl) dX10_movesTo_147 ?_
                refine nb_if_eq C 169 dX10_movesTo_150 rfl (fun h_150 => ?_) (fun h_150 => ?_)
                · skip
                  refine v_iload C 0 dX10_movesTo_169 rfl ?_
                  refine v_iconst C (nI 0) dX10_movesTo_171 (by decide) ?_
                  refine v_bipush C (nI 99) dX10_movesTo_172 (by decide) ?_
                  refine n_callSp C hRm [.int ((((Y (67 + 10 * a + b)) + (nI 0)) - (nI 0)) + (nI 1)), .int (nI 0), .int (nI 99)] cw_X10_held st_X10_held ml_X10_158 (r_held l G (upA M 206 Y) ((((Y (67 + 10 * a + b)) + (nI 0)) - (nI 0)) + (nI 1)) (nI 0) (nI 99)) (by decide) rfl rfl (Nat.le_of_ble_eq_true rfl) dX10_movesTo_174 ?_
                  exact n_iret C hRt rfl dX10_movesTo_177 (by unfold movS; rw [if_neg h_150]; unfold hpN; (first | rw [if_pos (show ¬ Y (7 + 6 * a + 4) < 0 ∧ Y (7 + 6 * a + 4) = Y (7 + 6 * b + 4) from And.intro h_90 h_105)] | rw [if_neg (show ¬ (¬ Y (7 + 6 * a + 4) < 0 ∧ Y (7 + 6 * a + 4) = Y (7 + 6 * b + 4)) from fun q => h_105 (And.right q))]); (first | rw [if_pos h_119] | rw [if_neg h_119]); (first | rw [if_pos h_131] | rw [if_neg h_131])) ⟨M, rfl, ex23.rf M⟩
                · skip
                  refine v_aload_n C 5 dX10_movesTo_153 rfl ?_
                  refine v_iconst C (nI 1) dX10_movesTo_154 (by decide) ?_
                  refine v_iload_n C 3 dX10_movesTo_155 rfl ?_
                  refine v_iload C 4 dX10_movesTo_156 rfl ?_
                  refine v_iload C 2 dX10_movesTo_158 rfl ?_
                  refine v_iload C 1 dX10_movesTo_160 rfl ?_
                  refine v_iconst C (nI 0) dX10_movesTo_162 (by decide) ?_
                  refine n_callVi C hRm [.int (nI 1), .int (Y (67 + 10 * a + b)), .int (Y (67 + 10 * b + a)), .int (nI f0), .int (nI 1), .int (nI 0)] cw_X10_given ml_X10_154 (by decide) sh_205 (by decide) rfl (r_given l G M Y 1 (by decide) len hok (hl0 h_150) (Y (67 + 10 * a + b)) (Y (67 + 10 * b + a)) (nI f0) (nI 1) (nI 0)) (by decide) rfl rfl (Nat.le_of_ble_eq_true rfl) dX10_movesTo_163 (fun M9 hP_163 => ?_)
                  obtain ⟨X9, rfl, hX9⟩ := hP_163
                  refine v_goto C 171 dX10_movesTo_166 rfl ?_
                  refine v_iconst C (nI 0) dX10_movesTo_171 (by decide) ?_
                  refine v_bipush C (nI 99) dX10_movesTo_172 (by decide) ?_
                  refine n_callSp C hRm [.int (valT Y 1 (nm5 (Y (67 + 10 * a + b)) (Y (67 + 10 * b + a)) (nI f0) (nI 1) (nI 0))), .int (nI 0), .int (nI 99)] cw_X10_held st_X10_held ml_X10_158 (r_held l G (upA X9 206 Y) (valT Y 1 (nm5 (Y (67 + 10 * a + b)) (Y (67 + 10 * b + a)) (nI f0) (nI 1) (nI 0))) (nI 0) (nI 99)) (by decide) rfl rfl (Nat.le_of_ble_eq_true rfl) dX10_movesTo_174 ?_
                  exact n_iret C hRt rfl dX10_movesTo_177 (by unfold movS; rw [if_pos h_150]; rw [← hf9]; unfold hpN; (first | rw [if_pos (show ¬ Y (7 + 6 * a + 4) < 0 ∧ Y (7 + 6 * a + 4) = Y (7 + 6 * b + 4) from And.intro h_90 h_105)] | rw [if_neg (show ¬ (¬ Y (7 + 6 * a + 4) < 0 ∧ Y (7 + 6 * a + 4) = Y (7 + 6 * b + 4)) from fun q => h_105 (And.right q))]); skip) ⟨X9, rfl, hX9⟩
              · skip
                refine v_iconst C (nI 1) dX10_movesTo_134 (by decide) ?_
                refine v_goto C 139 dX10_movesTo_135 rfl ?_
                refine v_isub C dX10_movesTo_139 ?_
                refine v_iload C 0 dX10_movesTo_140 rfl ?_
                refine v_iadd C dX10_movesTo_142 ?_
                refine v_istore C [(7, .int ((((Y (67 + 10 * a + b)) + (nI 0)) - (nI 1)) + (nI 1))), (6, .int (nI 1)), (5, .int (nI f0)), (3, .int (Y (67 + 10 * a + b))), (4, .int (Y (67 + 10 * b + a))), (0, .ref (gb G + 205)), (1, .int (nI a)), (2, .int (nI b))] dX10_movesTo_143 (by decide) rfl ?_
                refine v_aload_n C 5 dX10_movesTo_145 rfl ?_
                refine v_iconst C (nI 1) dX10_movesTo_146 (by decide) ?_
                refine n_callVp C hRm [.int (nI 1)] cw_X10_hasText ml_X10_148 (by decide) sh_205 (by decide) rfl (r_hasText l G M Y 1 (by omega)) (by decide) rfl rfl (Nat.le_of_ble_eq_true rfl) dX10_movesTo_147 ?_
                refine nb_if_eq C 169 dX10_movesTo_150 rfl (fun h_150 => ?_) (fun h_150 => ?_)
                · skip
                  refine v_iload C 0 dX10_movesTo_169 rfl ?_
                  refine v_iconst C (nI 0) dX10_movesTo_171 (by decide) ?_
                  refine v_bipush C (nI 99) dX10_movesTo_172 (by decide) ?_
                  refine n_callSp C hRm [.int ((((Y (67 + 10 * a + b)) + (nI 0)) - (nI 1)) + (nI 1)), .int (nI 0), .int (nI 99)] cw_X10_held st_X10_held ml_X10_158 (r_held l G (upA M 206 Y) ((((Y (67 + 10 * a + b)) + (nI 0)) - (nI 1)) + (nI 1)) (nI 0) (nI 99)) (by decide) rfl rfl (Nat.le_of_ble_eq_true rfl) dX10_movesTo_174 ?_
                  exact n_iret C hRt rfl dX10_movesTo_177 (by unfold movS; rw [if_neg h_150]; unfold hpN; (first | rw [if_pos (show ¬ Y (7 + 6 * a + 4) < 0 ∧ Y (7 + 6 * a + 4) = Y (7 + 6 * b + 4) from And.intro h_90 h_105)] | rw [if_neg (show ¬ (¬ Y (7 + 6 * a + 4) < 0 ∧ Y (7 + 6 * a + 4) = Y (7 + 6 * b + 4)) from fun q => h_105 (And.right q))]); (first | rw [if_pos h_119] | rw [if_neg h_119]); (first | rw [if_pos h_131] | rw [if_neg h_131])) ⟨M, rfl, ex23.rf M⟩
                · skip
                  refine v_aload_n C 5 dX10_movesTo_153 rfl ?_
                  refine v_iconst C (nI 1) dX10_movesTo_154 (by decide) ?_
                  refine v_iload_n C 3 dX10_movesTo_155 rfl ?_
                  refine v_iload C 4 dX10_movesTo_156 rfl ?_
                  refine v_iload C 2 dX10_movesTo_158 rfl ?_
                  refine v_iload C 1 dX10_movesTo_160 rfl ?_
                  refine v_iconst C (nI 0) dX10_movesTo_162 (by decide) ?_
                  refine n_callVi C hRm [.int (nI 1), .int (Y (67 + 10 * a + b)), .int (Y (67 + 10 * b + a)), .int (nI f0), .int (nI 1), .int (nI 0)] cw_X10_given ml_X10_154 (by decide) sh_205 (by decide) rfl (r_given l G M Y 1 (by decide) len hok (hl0 h_150) (Y (67 + 10 * a + b)) (Y (67 + 10 * b + a)) (nI f0) (nI 1) (nI 0)) (by decide) rfl rfl (Nat.le_of_ble_eq_true rfl) dX10_movesTo_163 (fun M9 hP_163 => ?_)
                  obtain ⟨X9, rfl, hX9⟩ := hP_163
                  refine v_goto C 171 dX10_movesTo_166 rfl ?_
                  refine v_iconst C (nI 0) dX10_movesTo_171 (by decide) ?_
                  refine v_bipush C (nI 99) dX10_movesTo_172 (by decide) ?_
                  refine n_callSp C hRm [.int (valT Y 1 (nm5 (Y (67 + 10 * a + b)) (Y (67 + 10 * b + a)) (nI f0) (nI 1) (nI 0))), .int (nI 0), .int (nI 99)] cw_X10_held st_X10_held ml_X10_158 (r_held l G (upA X9 206 Y) (valT Y 1 (nm5 (Y (67 + 10 * a + b)) (Y (67 + 10 * b + a)) (nI f0) (nI 1) (nI 0))) (nI 0) (nI 99)) (by decide) rfl rfl (Nat.le_of_ble_eq_true rfl) dX10_movesTo_174 ?_
                  exact n_iret C hRt rfl dX10_movesTo_177 (by unfold movS; rw [if_pos h_150]; rw [← hf9]; unfold hpN; (first | rw [if_pos (show ¬ Y (7 + 6 * a + 4) < 0 ∧ Y (7 + 6 * a + 4) = Y (7 + 6 * b + 4) from And.intro h_90 h_105)] | rw [if_neg (show ¬ (¬ Y (7 + 6 * a + 4) < 0 ∧ Y (7 + 6 * a + 4) = Y (7 + 6 * b + 4)) from fun q => h_105 (And.right q))]); skip) ⟨X9, rfl, hX9⟩
            · skip
              refine v_iconst C (nI 1) dX10_movesTo_122 (by decide) ?_
              refine v_goto C 127 dX10_movesTo_123 rfl ?_
              refine v_iadd C dX10_movesTo_127 ?_
              refine v_iload C 3 dX10_movesTo_128 rfl ?_
              refine v_iload_n C 2 dX10_movesTo_130 rfl ?_
              refine v_icmp_ge C 138 dX10_movesTo_131 rfl (fun h_131 => ?_) (fun h_131 => ?_)
              · skip
                refine v_iconst C (nI 0) dX10_movesTo_138 (by decide) ?_
                refine v_isub C dX10_movesTo_139 ?_
                refine v_iload C 0 dX10_movesTo_140 rfl ?_
                refine v_iadd C dX10_movesTo_142 ?_
                refine v_istore C [(7, .int ((((Y (67 + 10 * a + b)) + (nI 1)) - (nI 0)) + (nI 1))), (6, .int (nI 1)), (5, .int (nI f0)), (3, .int (Y (67 + 10 * a + b))), (4, .int (Y (67 + 10 * b + a))), (0, .ref (gb G + 205)), (1, .int (nI a)), (2, .int (nI b))] dX10_movesTo_143 (by decide) rfl ?_
                refine v_aload_n C 5 dX10_movesTo_145 rfl ?_
                refine v_iconst C (nI 1) dX10_movesTo_146 (by decide) ?_
                refine n_callVp C hRm [.int (nI 1)] cw_X10_hasText ml_X10_148 (by decide) sh_205 (by decide) rfl (r_hasText l G M Y 1 (by omega)) (by decide) rfl rfl (Nat.le_of_ble_eq_true rfl) dX10_movesTo_147 ?_
                refine nb_if_eq C 169 dX10_movesTo_150 rfl (fun h_150 => ?_) (fun h_150 => ?_)
                · skip
                  refine v_iload C 0 dX10_movesTo_169 rfl ?_
                  refine v_iconst C (nI 0) dX10_movesTo_171 (by decide) ?_
                  refine v_bipush C (nI 99) dX10_movesTo_172 (by decide) ?_
                  refine n_callSp C hRm [.int ((((Y (67 + 10 * a + b)) + (nI 1)) - (nI 0)) + (nI 1)), .int (nI 0), .int (nI 99)] cw_X10_held st_X10_held ml_X10_158 (r_held l G (upA M 206 Y) ((((Y (67 + 10 * a + b)) + (nI 1)) - (nI 0)) + (nI 1)) (nI 0) (nI 99)) (by decide) rfl rfl (Nat.le_of_ble_eq_true rfl) dX10_movesTo_174 ?_
                  exact n_iret C hRt rfl dX10_movesTo_177 (by unfold movS; rw [if_neg h_150]; unfold hpN; (first | rw [if_pos (show ¬ Y (7 + 6 * a + 4) < 0 ∧ Y (7 + 6 * a + 4) = Y (7 + 6 * b + 4) from And.intro h_90 h_105)] | rw [if_neg (show ¬ (¬ Y (7 + 6 * a + 4) < 0 ∧ Y (7 + 6 * a + 4) = Y (7 + 6 * b + 4)) from fun q => h_105 (And.right q))]); (first | rw [if_pos h_119] | rw [if_neg h_119]); (first | rw [if_pos h_131] | rw [if_neg h_131])) ⟨M, rfl, ex23.rf M⟩
                · skip
                  refine v_aload_n C 5 dX10_movesTo_153 rfl ?_
                  refine v_iconst C (nI 1) dX10_movesTo_154 (by decide) ?_
                  refine v_iload_n C 3 dX10_movesTo_155 rfl ?_
                  refine v_iload C 4 dX10_movesTo_156 rfl ?_
                  refine v_iload C 2 dX10_movesTo_158 rfl ?_
                  refine v_iload C 1 dX10_movesTo_160 rfl ?_
                  refine v_iconst C (nI 0) dX10_movesTo_162 (by decide) ?_
                  refine n_callVi C hRm [.int (nI 1), .int (Y (67 + 10 * a + b)), .int (Y (67 + 10 * b + a)), .int (nI f0), .int (nI 1), .int (nI 0)] cw_X10_given ml_X10_154 (by decide) sh_205 (by decide) rfl (r_given l G M Y 1 (by decide) len hok (hl0 h_150) (Y (67 + 10 * a + b)) (Y (67 + 10 * b + a)) (nI f0) (nI 1) (nI 0)) (by decide) rfl rfl (Nat.le_of_ble_eq_true rfl) dX10_movesTo_163 (fun M9 hP_163 => ?_)
                  obtain ⟨X9, rfl, hX9⟩ := hP_163
                  refine v_goto C 171 dX10_movesTo_166 rfl ?_
                  refine v_iconst C (nI 0) dX10_movesTo_171 (by decide) ?_
                  refine v_bipush C (nI 99) dX10_movesTo_172 (by decide) ?_
                  refine n_callSp C hRm [.int (valT Y 1 (nm5 (Y (67 + 10 * a + b)) (Y (67 + 10 * b + a)) (nI f0) (nI 1) (nI 0))), .int (nI 0), .int (nI 99)] cw_X10_held st_X10_held ml_X10_158 (r_held l G (upA X9 206 Y) (valT Y 1 (nm5 (Y (67 + 10 * a + b)) (Y (67 + 10 * b + a)) (nI f0) (nI 1) (nI 0))) (nI 0) (nI 99)) (by decide) rfl rfl (Nat.le_of_ble_eq_true rfl) dX10_movesTo_174 ?_
                  exact n_iret C hRt rfl dX10_movesTo_177 (by unfold movS; rw [if_pos h_150]; rw [← hf9]; unfold hpN; (first | rw [if_pos (show ¬ Y (7 + 6 * a + 4) < 0 ∧ Y (7 + 6 * a + 4) = Y (7 + 6 * b + 4) from And.intro h_90 h_105)] | rw [if_neg (show ¬ (¬ Y (7 + 6 * a + 4) < 0 ∧ Y (7 + 6 * a + 4) = Y (7 + 6 * b + 4)) from fun q => h_105 (And.right q))]); skip) ⟨X9, rfl, hX9⟩
              · skip
                refine v_iconst C (nI 1) dX10_movesTo_134 (by decide) ?_
                refine v_goto C 139 dX10_movesTo_135 rfl ?_
                refine v_isub C dX10_movesTo_139 ?_
                refine v_iload C 0 dX10_movesTo_140 rfl ?_
                refine v_iadd C dX10_movesTo_142 ?_
                refine v_istore C [(7, .int ((((Y (67 + 10 * a + b)) + (nI 1)) - (nI 1)) + (nI 1))), (6, .int (nI 1)), (5, .int (nI f0)), (3, .int (Y (67 + 10 * a + b))), (4, .int (Y (67 + 10 * b + a))), (0, .ref (gb G + 205)), (1, .int (nI a)), (2, .int (nI b))] dX10_movesTo_143 (by decide) rfl ?_
                refine v_aload_n C 5 dX10_movesTo_145 rfl ?_
                refine v_iconst C (nI 1) dX10_movesTo_146 (by decide) ?_
                refine n_callVp C hRm [.int (nI 1)] cw_X10_hasText ml_X10_148 (by decide) sh_205 (by decide) rfl (r_hasText l G M Y 1 (by omega)) (by decide) rfl rfl (Nat.le_of_ble_eq_true rfl) dX10_movesTo_147 ?_
                refine nb_if_eq C 169 dX10_movesTo_150 rfl (fun h_150 => ?_) (fun h_150 => ?_)
                · skip
                  refine v_iload C 0 dX10_movesTo_169 rfl ?_
                  refine v_iconst C (nI 0) dX10_movesTo_171 (by decide) ?_
                  refine v_bipush C (nI 99) dX10_movesTo_172 (by decide) ?_
                  refine n_callSp C hRm [.int ((((Y (67 + 10 * a + b)) + (nI 1)) - (nI 1)) + (nI 1)), .int (nI 0), .int (nI 99)] cw_X10_held st_X10_held ml_X10_158 (r_held l G (upA M 206 Y) ((((Y (67 + 10 * a + b)) + (nI 1)) - (nI 1)) + (nI 1)) (nI 0) (nI 99)) (by decide) rfl rfl (Nat.le_of_ble_eq_true rfl) dX10_movesTo_174 ?_
                  exact n_iret C hRt rfl dX10_movesTo_177 (by unfold movS; rw [if_neg h_150]; unfold hpN; (first | rw [if_pos (show ¬ Y (7 + 6 * a + 4) < 0 ∧ Y (7 + 6 * a + 4) = Y (7 + 6 * b + 4) from And.intro h_90 h_105)] | rw [if_neg (show ¬ (¬ Y (7 + 6 * a + 4) < 0 ∧ Y (7 + 6 * a + 4) = Y (7 + 6 * b + 4)) from fun q => h_105 (And.right q))]); (first | rw [if_pos h_119] | rw [if_neg h_119]); (first | rw [if_pos h_131] | rw [if_neg h_131])) ⟨M, rfl, ex23.rf M⟩
                · skip
                  refine v_aload_n C 5 dX10_movesTo_153 rfl ?_
                  refine v_iconst C (nI 1) dX10_movesTo_154 (by decide) ?_
                  refine v_iload_n C 3 dX10_movesTo_155 rfl ?_
                  refine v_iload C 4 dX10_movesTo_156 rfl ?_
                  refine v_iload C 2 dX10_movesTo_158 rfl ?_
                  refine v_iload C 1 dX10_movesTo_160 rfl ?_
                  refine v_iconst C (nI 0) dX10_movesTo_162 (by decide) ?_
                  refine n_callVi C hRm [.int (nI 1), .int (Y (67 + 10 * a + b)), .int (Y (67 + 10 * b + a)), .int (nI f0), .int (nI 1), .int (nI 0)] cw_X10_given ml_X10_154 (by decide) sh_205 (by decide) rfl (r_given l G M Y 1 (by decide) len hok (hl0 h_150) (Y (67 + 10 * a + b)) (Y (67 + 10 * b + a)) (nI f0) (nI 1) (nI 0)) (by decide) rfl rfl (Nat.le_of_ble_eq_true rfl) dX10_movesTo_163 (fun M9 hP_163 => ?_)
                  obtain ⟨X9, rfl, hX9⟩ := hP_163
                  refine v_goto C 171 dX10_movesTo_166 rfl ?_
                  refine v_iconst C (nI 0) dX10_movesTo_171 (by decide) ?_
                  refine v_bipush C (nI 99) dX10_movesTo_172 (by decide) ?_
                  refine n_callSp C hRm [.int (valT Y 1 (nm5 (Y (67 + 10 * a + b)) (Y (67 + 10 * b + a)) (nI f0) (nI 1) (nI 0))), .int (nI 0), .int (nI 99)] cw_X10_held st_X10_held ml_X10_158 (r_held l G (upA X9 206 Y) (valT Y 1 (nm5 (Y (67 + 10 * a + b)) (Y (67 + 10 * b + a)) (nI f0) (nI 1) (nI 0))) (nI 0) (nI 99)) (by decide) rfl rfl (Nat.le_of_ble_eq_true rfl) dX10_movesTo_174 ?_
                  exact n_iret C hRt rfl dX10_movesTo_177 (by unfold movS; rw [if_pos h_150]; rw [← hf9]; unfold hpN; (first | rw [if_pos (show ¬ Y (7 + 6 * a + 4) < 0 ∧ Y (7 + 6 * a + 4) = Y (7 + 6 * b + 4) from And.intro h_90 h_105)] | rw [if_neg (show ¬ (¬ Y (7 + 6 * a + 4) < 0 ∧ Y (7 + 6 * a + 4) = Y (7 + 6 * b + 4)) from fun q => h_105 (And.right q))]); skip) ⟨X9, rfl, hX9⟩
      · skip
        refine v_iload C 1 dX10_movesTo_32 rfl ?_
        refine v_iload C 0 dX10_movesTo_34 rfl ?_
        refine v_iload_n C 5 dX10_movesTo_36 rfl ?_
        refine n_icmp_eq C (by omega) (by omega) 74 dX10_movesTo_37 rfl (fun h_37 => ?_) (fun h_37 => ?_)
        · skip
          refine v_iconst C (nI 0) dX10_movesTo_74 (by decide) ?_
          refine n_iadd C dX10_movesTo_75 ?_
          refine v_istore C [(5, .int (nI (f0 + 0))), (6, .int (nI k)), (3, .int (Y (67 + 10 * a + b))), (4, .int (Y (67 + 10 * b + a))), (0, .ref (gb G + 205)), (1, .int (nI a)), (2, .int (nI b))] dX10_movesTo_76 (by decide) rfl ?_
          refine v_iinc C (nI (k + 1)) 1 [(6, .int (nI (k + 1))), (5, .int (nI (f0 + 0))), (3, .int (Y (67 + 10 * a + b))), (4, .int (Y (67 + 10 * b + a))), (0, .ref (gb G + 205)), (1, .int (nI a)), (2, .int (nI b))] dX10_movesTo_78 rfl (nI_add _ _) (by decide) rfl ?_
          refine v_goto C 21 dX10_movesTo_81 rfl ?_
          refine v_sub [0, 1, 2, 3, 4, 5, 6] [(6, .int (nI (k + 1))), (5, .int (nI (f0 + 0))), (3, .int (Y (67 + 10 * a + b))), (4, .int (Y (67 + 10 * b + a))), (0, .ref (gb G + 205)), (1, .int (nI a)), (2, .int (nI b))] rfl ?_
          exact ihLF _ (by omega) (k + 1) (f0 + 0)  rfl (by omega) (by subst hf; simp only [fonM]; rw [if_neg (fun q => q.1 h_37)])
        · skip
          refine v_iload C 0 dX10_movesTo_40 rfl ?_
          refine v_iload_n C 6 dX10_movesTo_42 rfl ?_
          refine n_icmp_eq C (by omega) (by omega) 74 dX10_movesTo_43 rfl (fun h_43 => ?_) (fun h_43 => ?_)
          · skip
            refine v_iconst C (nI 0) dX10_movesTo_74 (by decide) ?_
            refine n_iadd C dX10_movesTo_75 ?_
            refine v_istore C [(5, .int (nI (f0 + 0))), (6, .int (nI k)), (3, .int (Y (67 + 10 * a + b))), (4, .int (Y (67 + 10 * b + a))), (0, .ref (gb G + 205)), (1, .int (nI a)), (2, .int (nI b))] dX10_movesTo_76 (by decide) rfl ?_
            refine v_iinc C (nI (k + 1)) 1 [(6, .int (nI (k + 1))), (5, .int (nI (f0 + 0))), (3, .int (Y (67 + 10 * a + b))), (4, .int (Y (67 + 10 * b + a))), (0, .ref (gb G + 205)), (1, .int (nI a)), (2, .int (nI b))] dX10_movesTo_78 rfl (nI_add _ _) (by decide) rfl ?_
            refine v_goto C 21 dX10_movesTo_81 rfl ?_
            refine v_sub [0, 1, 2, 3, 4, 5, 6] [(6, .int (nI (k + 1))), (5, .int (nI (f0 + 0))), (3, .int (Y (67 + 10 * a + b))), (4, .int (Y (67 + 10 * b + a))), (0, .ref (gb G + 205)), (1, .int (nI a)), (2, .int (nI b))] rfl ?_
            exact ihLF _ (by omega) (k + 1) (f0 + 0)  rfl (by omega) (by subst hf; simp only [fonM]; rw [if_neg (fun q => q.2.1 h_43)])
          · skip
            refine v_aload_n C 4 dX10_movesTo_46 rfl ?_
            refine v_iload_n C 5 dX10_movesTo_47 rfl ?_
            refine v_iload C 0 dX10_movesTo_48 rfl ?_
            refine n_callVp C hRm [.int (nI a), .int (nI k)] cw_X10_likesOf ml_X10_130 (by decide) sh_205 (by decide) rfl (r_likesOf l G M Y a k (by omega)) (by decide) rfl rfl (Nat.le_of_ble_eq_true rfl) dX10_movesTo_50 ?_
            refine v_bipush C (nI 50) dX10_movesTo_53 (by decide) ?_
            refine v_icmp_lt C 74 dX10_movesTo_55 rfl (fun h_55 => ?_) (fun h_55 => ?_)
            · skip
              refine v_iconst C (nI 0) dX10_movesTo_74 (by decide) ?_
              refine n_iadd C dX10_movesTo_75 ?_
              refine v_istore C [(5, .int (nI (f0 + 0))), (6, .int (nI k)), (3, .int (Y (67 + 10 * a + b))), (4, .int (Y (67 + 10 * b + a))), (0, .ref (gb G + 205)), (1, .int (nI a)), (2, .int (nI b))] dX10_movesTo_76 (by decide) rfl ?_
              refine v_iinc C (nI (k + 1)) 1 [(6, .int (nI (k + 1))), (5, .int (nI (f0 + 0))), (3, .int (Y (67 + 10 * a + b))), (4, .int (Y (67 + 10 * b + a))), (0, .ref (gb G + 205)), (1, .int (nI a)), (2, .int (nI b))] dX10_movesTo_78 rfl (nI_add _ _) (by decide) rfl ?_
              refine v_goto C 21 dX10_movesTo_81 rfl ?_
              refine v_sub [0, 1, 2, 3, 4, 5, 6] [(6, .int (nI (k + 1))), (5, .int (nI (f0 + 0))), (3, .int (Y (67 + 10 * a + b))), (4, .int (Y (67 + 10 * b + a))), (0, .ref (gb G + 205)), (1, .int (nI a)), (2, .int (nI b))] rfl ?_
              exact ihLF _ (by omega) (k + 1) (f0 + 0)  rfl (by omega) (by subst hf; simp only [fonM]; rw [if_neg (fun q => Int32.not_lt.mpr q.2.2.1 h_55)])
            · skip
              refine v_aload_n C 4 dX10_movesTo_58 rfl ?_
              refine v_iload_n C 6 dX10_movesTo_59 rfl ?_
              refine v_iload C 0 dX10_movesTo_60 rfl ?_
              refine n_callVp C hRm [.int (nI b), .int (nI k)] cw_X10_likesOf ml_X10_130 (by decide) sh_205 (by decide) rfl (r_likesOf l G M Y b k (by omega)) (by decide) rfl rfl (Nat.le_of_ble_eq_true rfl) dX10_movesTo_62 ?_
              refine v_bipush C (nI 50) dX10_movesTo_65 (by decide) ?_
              refine v_icmp_lt C 74 dX10_movesTo_67 rfl (fun h_67 => ?_) (fun h_67 => ?_)
              · skip
                refine v_iconst C (nI 0) dX10_movesTo_74 (by decide) ?_
                refine n_iadd C dX10_movesTo_75 ?_
                refine v_istore C [(5, .int (nI (f0 + 0))), (6, .int (nI k)), (3, .int (Y (67 + 10 * a + b))), (4, .int (Y (67 + 10 * b + a))), (0, .ref (gb G + 205)), (1, .int (nI a)), (2, .int (nI b))] dX10_movesTo_76 (by decide) rfl ?_
                refine v_iinc C (nI (k + 1)) 1 [(6, .int (nI (k + 1))), (5, .int (nI (f0 + 0))), (3, .int (Y (67 + 10 * a + b))), (4, .int (Y (67 + 10 * b + a))), (0, .ref (gb G + 205)), (1, .int (nI a)), (2, .int (nI b))] dX10_movesTo_78 rfl (nI_add _ _) (by decide) rfl ?_
                refine v_goto C 21 dX10_movesTo_81 rfl ?_
                refine v_sub [0, 1, 2, 3, 4, 5, 6] [(6, .int (nI (k + 1))), (5, .int (nI (f0 + 0))), (3, .int (Y (67 + 10 * a + b))), (4, .int (Y (67 + 10 * b + a))), (0, .ref (gb G + 205)), (1, .int (nI a)), (2, .int (nI b))] rfl ?_
                exact ihLF _ (by omega) (k + 1) (f0 + 0)  rfl (by omega) (by subst hf; simp only [fonM]; rw [if_neg (fun q => Int32.not_lt.mpr q.2.2.2 h_67)])
              · skip
                refine v_iconst C (nI 1) dX10_movesTo_70 (by decide) ?_
                refine v_goto C 75 dX10_movesTo_71 rfl ?_
                refine n_iadd C dX10_movesTo_75 ?_
                refine v_istore C [(5, .int (nI (f0 + 1))), (6, .int (nI k)), (3, .int (Y (67 + 10 * a + b))), (4, .int (Y (67 + 10 * b + a))), (0, .ref (gb G + 205)), (1, .int (nI a)), (2, .int (nI b))] dX10_movesTo_76 (by decide) rfl ?_
                refine v_iinc C (nI (k + 1)) 1 [(6, .int (nI (k + 1))), (5, .int (nI (f0 + 1))), (3, .int (Y (67 + 10 * a + b))), (4, .int (Y (67 + 10 * b + a))), (0, .ref (gb G + 205)), (1, .int (nI a)), (2, .int (nI b))] dX10_movesTo_78 rfl (nI_add _ _) (by decide) rfl ?_
                refine v_goto C 21 dX10_movesTo_81 rfl ?_
                refine v_sub [0, 1, 2, 3, 4, 5, 6] [(6, .int (nI (k + 1))), (5, .int (nI (f0 + 1))), (3, .int (Y (67 + 10 * a + b))), (4, .int (Y (67 + 10 * b + a))), (0, .ref (gb G + 205)), (1, .int (nI a)), (2, .int (nI b))] rfl ?_
                exact ihLF _ (by omega) (k + 1) (f0 + 1)  rfl (by omega) (by subst hf; simp only [fonM]; rw [if_pos (And.intro h_37 (And.intro h_43 (And.intro (Int32.not_lt.mp h_55) (Int32.not_lt.mp h_67))))])
  show Vc f G NPh (upA M 206 Y) 0 [(0, .ref (gb G + 205)), (1, .int (nI a)), (2, .int (nI b))] []
  refine v_aload_n C 0 dX10_movesTo_0 rfl ?_
  refine v_iload_n C 1 dX10_movesTo_1 rfl ?_
  refine v_iload_n C 2 dX10_movesTo_2 rfl ?_
  refine n_callVp C hRm [.int (nI a), .int (nI b)] cw_X10_likesOf ml_X10_130 (by decide) sh_205 (by decide) rfl (r_likesOf l G M Y a b (by omega)) (by decide) rfl rfl (Nat.le_of_ble_eq_true rfl) dX10_movesTo_3 ?_
  refine v_istore_n C [(3, .int (Y (67 + 10 * a + b))), (0, .ref (gb G + 205)), (1, .int (nI a)), (2, .int (nI b))] dX10_movesTo_6 rfl (by decide) rfl ?_
  refine v_aload_n C 1 dX10_movesTo_7 rfl ?_
  refine v_iload_n C 3 dX10_movesTo_8 rfl ?_
  refine v_iload_n C 2 dX10_movesTo_9 rfl ?_
  refine n_callVp C hRm [.int (nI b), .int (nI a)] cw_X10_likesOf ml_X10_130 (by decide) sh_205 (by decide) rfl (r_likesOf l G M Y b a (by omega)) (by decide) rfl rfl (Nat.le_of_ble_eq_true rfl) dX10_movesTo_10 ?_
  refine v_istore C [(4, .int (Y (67 + 10 * b + a))), (3, .int (Y (67 + 10 * a + b))), (0, .ref (gb G + 205)), (1, .int (nI a)), (2, .int (nI b))] dX10_movesTo_13 (by decide) rfl ?_
  refine v_iconst C (nI 0) dX10_movesTo_15 (by decide) ?_
  refine v_istore C [(5, .int (nI 0)), (4, .int (Y (67 + 10 * b + a))), (3, .int (Y (67 + 10 * a + b))), (0, .ref (gb G + 205)), (1, .int (nI a)), (2, .int (nI b))] dX10_movesTo_16 (by decide) rfl ?_
  refine v_iconst C (nI 0) dX10_movesTo_18 (by decide) ?_
  refine v_istore C [(6, .int (nI 0)), (5, .int (nI 0)), (4, .int (Y (67 + 10 * b + a))), (3, .int (Y (67 + 10 * a + b))), (0, .ref (gb G + 205)), (1, .int (nI a)), (2, .int (nI b))] dX10_movesTo_19 (by decide) rfl ?_
  refine v_sub [0, 1, 3, 2, 4, 5, 6] [(6, .int (nI 0)), (5, .int (nI 0)), (3, .int (Y (67 + 10 * a + b))), (4, .int (Y (67 + 10 * b + a))), (0, .ref (gb G + 205)), (1, .int (nI a)), (2, .int (nI b))] rfl ?_
  exact LF _ 0 0  rfl (by omega) (by rfl)
