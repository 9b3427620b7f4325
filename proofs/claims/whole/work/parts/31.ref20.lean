abbrev O4 : Type := Nat × Int32 × Mm
def e4 (k : Nat) (M : Mm) : O4 := (k, (-1000000) - nI k, M)
def zrN (M : Mm) (s k : Nat) : Nat → Int32 := fun i => if 24 * s ≤ i ∧ i < 24 * s + k then nI 0 else M 219 i
theorem zrN_0 (M : Mm) (s : Nat) : zrN M s 0 = M 219 := by funext i; unfold zrN; rw [if_neg (by omega)]
theorem zrN_succ (M : Mm) (s k : Nat) : upd (zrN M s k) (24 * s + k) (nI 0) = zrN M s (k + 1) := by
  funext i
  unfold upd zrN
  by_cases h : i = 24 * s + k
  · rw [if_pos h, if_pos (by omega)]
  · rw [if_neg h]
    by_cases h2 : 24 * s ≤ i ∧ i < 24 * s + k
    · rw [if_pos h2, if_pos (by omega)]
    · rw [if_neg h2, if_neg (by omega)]
def shtX (M : Mm) (s : Nat) (bits z : Int32) (k : Nat) : Mm := upA (up2 (up2 M 217 s bits) 218 s z) 219 (zrN M s k)
def shOk (M : Mm) : Prop := ∀ s, s < 4 → ∃ z, z ≤ 24 ∧ M 218 s = nI z
def sheetS (M : Mm) (sheet bits n : Int32) : O4 := if nI 0 ≤ sheet ∧ sheet ≤ nI 3 then (if bits = 0 then (0, nI 1, shtX M sheet.toNatClampNeg bits (nI 0) 24) else if bits = nI 8 ∨ bits = nI 16 ∨ bits = nI 32 then (if 0 ≤ n then (if n ≤ nI 24 then (0, nI 1, shtX M sheet.toNatClampNeg bits n 24) else e4 1 M) else e4 3 M) else e4 1 M) else e4 1 M
set_option maxHeartbeats 4000000 in
set_option maxRecDepth 100000 in
theorem r_isSheet (l : Launch) (G : GC) (M : Mm) (s : Int32) : CP l G 2 yX10_isSheet cX10_isSheet 1 .boolean [.int s] M (b2i (nI 0 ≤ s ∧ s ≤ nI 3)) := by
  refine Con.of (by decide +kernel) (Nat.le_of_ble_eq_true rfl) ?_
  intro f C hRm hRt _
  show Vc f G NPh M 0 [(0, .int s)] []
  refine v_iload_n C 0 dX10_isSheet_0 rfl ?_
  refine v_iconst C (nI 0) dX10_isSheet_1 (by decide) ?_
  refine v_iconst C (nI 3) dX10_isSheet_2 (by decide) ?_
  refine n_callSp C hRm [.int s, .int (nI 0), .int (nI 3)] cw_X10_within st_X10_within ml_X10_72 (r_within l G M s (nI 0) (nI 3)) (by decide) rfl rfl (Nat.le_of_ble_eq_true rfl) dX10_isSheet_3 ?_
  exact n_iret C hRt (narrow_01 (b2i_01 _)) dX10_isSheet_6 (rfl) (rfl)
set_option maxHeartbeats 4000000 in
set_option maxRecDepth 100000 in
theorem r_sheet (l : Launch) (G : GC) (M : Mm) (Y : Nat → Int32) (sheet bits n : Int32) : CI l G 3 yX10_sheet cX10_sheet 5 .int [.ref (gb G + 205), .int sheet, .int bits, .int n] (upA M 206 Y) ((sheetS M sheet bits n).2.1) (PubX (sheetS M sheet bits n).2.2 Y (sheetS M sheet bits n).1) := by
  refine Con.of (by decide +kernel) (Nat.le_of_ble_eq_true rfl) ?_
  intro f C hRm hRt _
  show Vc f G NPh (upA M 206 Y) 0 [(0, .ref (gb G + 205)), (1, .int sheet), (2, .int bits), (3, .int n)] []
  refine v_iload_n C 1 dX10_sheet_0 rfl ?_
  refine n_callSp C hRm [.int sheet] cw_X10_isSheet st_X10_isSheet ml_X10_305 (r_isSheet l G (upA M 206 Y) sheet) (by decide) rfl rfl (Nat.le_of_ble_eq_true rfl) dX10_sheet_1 ?_
  refine nb_if_eq C 29 dX10_sheet_4 rfl (fun h_4 => ?_) (fun h_4 => ?_)
  · skip
    refine v_aload_n C 0 dX10_sheet_29 rfl ?_
    refine v_ldc C (-1000001) kc_X10_80 dX10_sheet_30 ?_
    refine n_callVi C hRm [.int (-1000001)] cw_X10_finding ml_X10_81 (by decide) sh_205 (by decide) rfl (r_finding l G (upA M 206 Y) 1 (by decide) (-1000001) (by decide)) (by decide) rfl rfl (Nat.le_of_ble_eq_true rfl) dX10_sheet_32 (fun M5 hP_32 => ?_)
    subst hP_32
    refine v_mem (upA (fndM M 1) 206 Y) (fnd_upA _ _ _) ?_
    have hS : sheetS M sheet bits n = e4 1 M := by unfold sheetS; (try rw [nI_clamp (by omega)]); (try rw [nI_clamp (by omega)]); rw [if_neg h_4]; all_goals rfl
    exact n_iret C hRt rfl dX10_sheet_35 (by rw [hS] <;> rfl) (by rw [hS]; exact ⟨_, rfl, (eqM.rf M).tr (eqM.fnd _ (show (1 : Nat) ≠ 0 by decide))⟩)
  · skip
    obtain ⟨s, hs, rfl⟩ := within_nat (by decide) h_4
    refine v_iload_n C 2 dX10_sheet_7 rfl ?_
    refine v_if_eq C 36 dX10_sheet_8 rfl (fun h_8 => ?_) (fun h_8 => ?_)
    · skip
      refine v_iload_n C 2 dX10_sheet_36 rfl ?_
      refine v_if_eq C 51 dX10_sheet_37 rfl (fun h_37 => ?_) (fun h_37 => ?_)
      · skip
        refine v_iload_n C 2 dX10_sheet_51 rfl ?_
        refine v_if_eq C 68 dX10_sheet_52 rfl (fun h_52 => ?_) (fun h_52 => ?_)
        · skip
          refine v_aload_n C 0 dX10_sheet_68 rfl ?_
          refine g_X10_50 C (by decide) sh_205 dX10_sheet_69 ?_
          refine v_iload_n C 1 dX10_sheet_72 rfl ?_
          refine v_iload_n C 2 dX10_sheet_73 rfl ?_
          refine v_iast C (by decide) sh_217 (by omega) (by decide) dX10_sheet_74 ?_
          refine v_mem (upA (up2 M 217 s bits) 206 Y) (up2_upA_ne _ _ _ _ (by decide)) ?_
          refine v_aload_n C 0 dX10_sheet_75 rfl ?_
          refine g_X10_53 C (by decide) sh_205 dX10_sheet_76 ?_
          refine v_iload_n C 1 dX10_sheet_79 rfl ?_
          refine v_iload_n C 2 dX10_sheet_80 rfl ?_
          refine v_if_ne C 88 dX10_sheet_81 rfl (fun h_81 => ?_) (fun h_81 => ?_)
          · skip
            exact absurd h_8 h_81
          · skip
            refine v_iconst C (nI 0) dX10_sheet_84 (by decide) ?_
            refine v_goto C 89 dX10_sheet_85 rfl ?_
            refine v_iast C (by decide) sh_218 (by omega) (by decide) dX10_sheet_89 ?_
            refine v_mem (upA (up2 (up2 M 217 s bits) 218 s (nI 0)) 206 Y) (up2_upA_ne _ _ _ _ (by decide)) ?_
            refine v_iconst C (nI 0) dX10_sheet_90 (by decide) ?_
            refine v_istore C [(4, .int (nI 0)), (0, .ref (gb G + 205)), (1, .int (nI s)), (2, .int bits), (3, .int n)] dX10_sheet_91 (by decide) rfl ?_
            have LZ : ∀ (kq : Nat) (k : Nat) (X : Mm), 24 - k = kq → k ≤ 24 → X = shtX M s bits (nI 0) k → Vc f G NPh (upA X 206 Y) 93 [(4, .int (nI k)), (0, .ref (gb G + 205)), (1, .int (nI s)), (2, .int bits), (3, .int n)] [] := by
              intro kq
              induction kq using Nat.strongRecOn with
              | _ kq ihLZ =>
                intro k X hkq hk hX
                refine v_iload C 0 dX10_sheet_93 rfl ?_
                refine v_bipush C (nI 24) dX10_sheet_95 (by decide) ?_
                refine n_icmp_ge C (by omega) (by omega) 119 dX10_sheet_97 rfl (fun h_97 => ?_) (fun h_97 => ?_)
                · skip
                  refine v_iconst C (nI 1) dX10_sheet_119 (by decide) ?_
                  have hS : sheetS M (nI s) bits n = (0, nI 1, shtX M s bits (nI 0) 24) := by unfold sheetS; (try rw [nI_clamp (by omega)]); (try rw [nI_clamp (by omega)]); rw [if_pos h_4]; rw [if_pos h_8]; all_goals rfl
                  exact n_iret C hRt rfl dX10_sheet_120 (by rw [hS] <;> rfl) (by rw [hS]; exact ⟨_, rfl, by rw [hX, show k = 24 by omega]; exact eqM.rf _⟩)
                · skip
                  refine v_aload_n C 1 dX10_sheet_100 rfl ?_
                  refine g_X10_56 C (by decide) sh_205 dX10_sheet_101 ?_
                  refine v_bipush C (nI 24) dX10_sheet_104 (by decide) ?_
                  refine v_iload_n C 2 dX10_sheet_106 rfl ?_
                  refine n_imul C dX10_sheet_107 ?_
                  refine v_iload C 0 dX10_sheet_108 rfl ?_
                  refine n_iadd C dX10_sheet_110 ?_
                  refine v_iconst C (nI 0) dX10_sheet_111 (by decide) ?_
                  refine v_iast C (by decide) sh_219 (by omega) (by decide) dX10_sheet_112 ?_
                  refine v_mem (upA (up2 X 219 ((24 * s) + k) (nI 0)) 206 Y) (up2_upA_ne _ _ _ _ (by decide)) ?_
                  refine v_iinc C (nI (k + 1)) 0 [(4, .int (nI (k + 1))), (0, .ref (gb G + 205)), (1, .int (nI s)), (2, .int bits), (3, .int n)] dX10_sheet_113 rfl (nI_add _ _) (by decide) rfl ?_
                  refine v_goto C 93 dX10_sheet_116 rfl ?_
                  refine v_sub [0, 1, 2, 3, 4] [(4, .int (nI (k + 1))), (0, .ref (gb G + 205)), (1, .int (nI s)), (2, .int bits), (3, .int n)] rfl ?_
                  exact ihLZ _ (by omega) (k + 1) (up2 X 219 ((24 * s) + k) (nI 0))  rfl (by omega) (by rw [hX]; unfold shtX; rw [up2_upA, zrN_succ])
            refine v_sub [0, 1, 2, 3, 4] [(4, .int (nI 0)), (0, .ref (gb G + 205)), (1, .int (nI s)), (2, .int bits), (3, .int n)] rfl ?_
            exact LZ _ 0 (up2 (up2 M 217 s bits) 218 s (nI 0))  rfl (by omega) (by unfold shtX; rw [zrN_0]; exact (upA_self (up2 (up2 M 217 s bits) 218 s (nI 0)) 219).symm)
        · skip
          exact absurd h_8 h_52
      · skip
        exact absurd h_8 h_37
    · skip
      refine v_iload_n C 2 dX10_sheet_11 rfl ?_
      refine v_bipush C (nI 8) dX10_sheet_12 (by decide) ?_
      refine v_icmp_eq C 36 dX10_sheet_14 rfl (fun h_14 => ?_) (fun h_14 => ?_)
      · skip
        refine v_iload_n C 2 dX10_sheet_36 rfl ?_
        refine v_if_eq C 51 dX10_sheet_37 rfl (fun h_37 => ?_) (fun h_37 => ?_)
        · skip
          exact absurd h_37 h_8
        · skip
          refine v_iload_n C 3 dX10_sheet_40 rfl ?_
          refine v_if_ge C 51 dX10_sheet_41 rfl (fun h_41 => ?_) (fun h_41 => ?_)
          · skip
            refine v_iload_n C 2 dX10_sheet_51 rfl ?_
            refine v_if_eq C 68 dX10_sheet_52 rfl (fun h_52 => ?_) (fun h_52 => ?_)
            · skip
              exact absurd h_52 h_8
            · skip
              refine v_iload_n C 3 dX10_sheet_55 rfl ?_
              refine v_bipush C (nI 24) dX10_sheet_56 (by decide) ?_
              refine v_icmp_le C 68 dX10_sheet_58 rfl (fun h_58 => ?_) (fun h_58 => ?_)
              · skip
                refine v_aload_n C 0 dX10_sheet_68 rfl ?_
                refine g_X10_50 C (by decide) sh_205 dX10_sheet_69 ?_
                refine v_iload_n C 1 dX10_sheet_72 rfl ?_
                refine v_iload_n C 2 dX10_sheet_73 rfl ?_
                refine v_iast C (by decide) sh_217 (by omega) (by decide) dX10_sheet_74 ?_
                refine v_mem (upA (up2 M 217 s bits) 206 Y) (up2_upA_ne _ _ _ _ (by decide)) ?_
                refine v_aload_n C 0 dX10_sheet_75 rfl ?_
                refine g_X10_53 C (by decide) sh_205 dX10_sheet_76 ?_
                refine v_iload_n C 1 dX10_sheet_79 rfl ?_
                refine v_iload_n C 2 dX10_sheet_80 rfl ?_
                refine v_if_ne C 88 dX10_sheet_81 rfl (fun h_81 => ?_) (fun h_81 => ?_)
                · skip
                  refine v_iload_n C 3 dX10_sheet_88 rfl ?_
                  refine v_iast C (by decide) sh_218 (by omega) (by decide) dX10_sheet_89 ?_
                  refine v_mem (upA (up2 (up2 M 217 s bits) 218 s n) 206 Y) (up2_upA_ne _ _ _ _ (by decide)) ?_
                  refine v_iconst C (nI 0) dX10_sheet_90 (by decide) ?_
                  refine v_istore C [(4, .int (nI 0)), (0, .ref (gb G + 205)), (1, .int (nI s)), (2, .int bits), (3, .int n)] dX10_sheet_91 (by decide) rfl ?_
                  have LZ : ∀ (kq : Nat) (k : Nat) (X : Mm), 24 - k = kq → k ≤ 24 → X = shtX M s bits (n) k → Vc f G NPh (upA X 206 Y) 93 [(4, .int (nI k)), (0, .ref (gb G + 205)), (1, .int (nI s)), (2, .int bits), (3, .int n)] [] := by
                    intro kq
                    induction kq using Nat.strongRecOn with
                    | _ kq ihLZ =>
                      intro k X hkq hk hX
                      refine v_iload C 0 dX10_sheet_93 rfl ?_
                      refine v_bipush C (nI 24) dX10_sheet_95 (by decide) ?_
                      refine n_icmp_ge C (by omega) (by omega) 119 dX10_sheet_97 rfl (fun h_97 => ?_) (fun h_97 => ?_)
                      · skip
                        refine v_iconst C (nI 1) dX10_sheet_119 (by decide) ?_
                        have hS : sheetS M (nI s) bits n = (0, nI 1, shtX M s bits (n) 24) := by unfold sheetS; (try rw [nI_clamp (by omega)]); (try rw [nI_clamp (by omega)]); rw [if_pos h_4]; rw [if_neg h_8]; rw [if_pos (Or.inl h_14)]; (first | rw [if_pos h_41] | rw [if_neg h_41]); (first | rw [if_pos h_58] | rw [if_neg h_58]); all_goals rfl
                        exact n_iret C hRt rfl dX10_sheet_120 (by rw [hS] <;> rfl) (by rw [hS]; exact ⟨_, rfl, by rw [hX, show k = 24 by omega]; exact eqM.rf _⟩)
                      · skip
                        refine v_aload_n C 1 dX10_sheet_100 rfl ?_
                        refine g_X10_56 C (by decide) sh_205 dX10_sheet_101 ?_
                        refine v_bipush C (nI 24) dX10_sheet_104 (by decide) ?_
                        refine v_iload_n C 2 dX10_sheet_106 rfl ?_
                        refine n_imul C dX10_sheet_107 ?_
                        refine v_iload C 0 dX10_sheet_108 rfl ?_
                        refine n_iadd C dX10_sheet_110 ?_
                        refine v_iconst C (nI 0) dX10_sheet_111 (by decide) ?_
                        refine v_iast C (by decide) sh_219 (by omega) (by decide) dX10_sheet_112 ?_
                        refine v_mem (upA (up2 X 219 ((24 * s) + k) (nI 0)) 206 Y) (up2_upA_ne _ _ _ _ (by decide)) ?_
                        refine v_iinc C (nI (k + 1)) 0 [(4, .int (nI (k + 1))), (0, .ref (gb G + 205)), (1, .int (nI s)), (2, .int bits), (3, .int n)] dX10_sheet_113 rfl (nI_add _ _) (by decide) rfl ?_
                        refine v_goto C 93 dX10_sheet_116 rfl ?_
                        refine v_sub [0, 1, 2, 3, 4] [(4, .int (nI (k + 1))), (0, .ref (gb G + 205)), (1, .int (nI s)), (2, .int bits), (3, .int n)] rfl ?_
                        exact ihLZ _ (by omega) (k + 1) (up2 X 219 ((24 * s) + k) (nI 0))  rfl (by omega) (by rw [hX]; unfold shtX; rw [up2_upA, zrN_succ])
                  refine v_sub [0, 1, 2, 3, 4] [(4, .int (nI 0)), (0, .ref (gb G + 205)), (1, .int (nI s)), (2, .int bits), (3, .int n)] rfl ?_
                  exact LZ _ 0 (up2 (up2 M 217 s bits) 218 s n)  rfl (by omega) (by unfold shtX; rw [zrN_0]; exact (upA_self (up2 (up2 M 217 s bits) 218 s (n)) 219).symm)
                · skip
                  exact absurd h_81 h_8
              · skip
                refine v_aload_n C 0 dX10_sheet_61 rfl ?_
                refine v_ldc C (-1000001) kc_X10_80 dX10_sheet_62 ?_
                refine n_callVi C hRm [.int (-1000001)] cw_X10_finding ml_X10_81 (by decide) sh_205 (by decide) rfl (r_finding l G (upA M 206 Y) 1 (by decide) (-1000001) (by decide)) (by decide) rfl rfl (Nat.le_of_ble_eq_true rfl) dX10_sheet_64 (fun M5 hP_64 => ?_)
                subst hP_64
                refine v_mem (upA (fndM M 1) 206 Y) (fnd_upA _ _ _) ?_
                have hS : sheetS M (nI s) bits n = e4 1 M := by unfold sheetS; (try rw [nI_clamp (by omega)]); (try rw [nI_clamp (by omega)]); rw [if_pos h_4]; rw [if_neg h_8]; rw [if_pos (Or.inl h_14)]; (first | rw [if_pos h_41] | rw [if_neg h_41]); (first | rw [if_pos h_58] | rw [if_neg h_58]); all_goals rfl
                exact n_iret C hRt rfl dX10_sheet_67 (by rw [hS] <;> rfl) (by rw [hS]; exact ⟨_, rfl, (eqM.rf M).tr (eqM.fnd _ (show (1 : Nat) ≠ 0 by decide))⟩)
          · skip
            refine v_aload_n C 0 dX10_sheet_44 rfl ?_
            refine v_ldc C (-1000003) kc_X10_122 dX10_sheet_45 ?_
            refine n_callVi C hRm [.int (-1000003)] cw_X10_finding ml_X10_81 (by decide) sh_205 (by decide) rfl (r_finding l G (upA M 206 Y) 3 (by decide) (-1000003) (by decide)) (by decide) rfl rfl (Nat.le_of_ble_eq_true rfl) dX10_sheet_47 (fun M5 hP_47 => ?_)
            subst hP_47
            refine v_mem (upA (fndM M 3) 206 Y) (fnd_upA _ _ _) ?_
            have hS : sheetS M (nI s) bits n = e4 3 M := by unfold sheetS; (try rw [nI_clamp (by omega)]); (try rw [nI_clamp (by omega)]); rw [if_pos h_4]; rw [if_neg h_8]; rw [if_pos (Or.inl h_14)]; (first | rw [if_pos h_41] | rw [if_neg h_41]); all_goals rfl
            exact n_iret C hRt rfl dX10_sheet_50 (by rw [hS] <;> rfl) (by rw [hS]; exact ⟨_, rfl, (eqM.rf M).tr (eqM.fnd _ (show (3 : Nat) ≠ 0 by decide))⟩)
      · skip
        refine v_iload_n C 2 dX10_sheet_17 rfl ?_
        refine v_bipush C (nI 16) dX10_sheet_18 (by decide) ?_
        refine v_icmp_eq C 36 dX10_sheet_20 rfl (fun h_20 => ?_) (fun h_20 => ?_)
        · skip
          refine v_iload_n C 2 dX10_sheet_36 rfl ?_
          refine v_if_eq C 51 dX10_sheet_37 rfl (fun h_37 => ?_) (fun h_37 => ?_)
          · skip
            exact absurd h_37 h_8
          · skip
            refine v_iload_n C 3 dX10_sheet_40 rfl ?_
            refine v_if_ge C 51 dX10_sheet_41 rfl (fun h_41 => ?_) (fun h_41 => ?_)
            · skip
              refine v_iload_n C 2 dX10_sheet_51 rfl ?_
              refine v_if_eq C 68 dX10_sheet_52 rfl (fun h_52 => ?_) (fun h_52 => ?_)
              · skip
                exact absurd h_52 h_8
              · skip
                refine v_iload_n C 3 dX10_sheet_55 rfl ?_
                refine v_bipush C (nI 24) dX10_sheet_56 (by decide) ?_
                refine v_icmp_le C 68 dX10_sheet_58 rfl (fun h_58 => ?_) (fun h_58 => ?_)
                · skip
                  refine v_aload_n C 0 dX10_sheet_68 rfl ?_
                  refine g_X10_50 C (by decide) sh_205 dX10_sheet_69 ?_
                  refine v_iload_n C 1 dX10_sheet_72 rfl ?_
                  refine v_iload_n C 2 dX10_sheet_73 rfl ?_
                  refine v_iast C (by decide) sh_217 (by omega) (by decide) dX10_sheet_74 ?_
                  refine v_mem (upA (up2 M 217 s bits) 206 Y) (up2_upA_ne _ _ _ _ (by decide)) ?_
                  refine v_aload_n C 0 dX10_sheet_75 rfl ?_
                  refine g_X10_53 C (by decide) sh_205 dX10_sheet_76 ?_
                  refine v_iload_n C 1 dX10_sheet_79 rfl ?_
                  refine v_iload_n C 2 dX10_sheet_80 rfl ?_
                  refine v_if_ne C 88 dX10_sheet_81 rfl (fun h_81 => ?_) (fun h_81 => ?_)
                  · skip
                    refine v_iload_n C 3 dX10_sheet_88 rfl ?_
                    refine v_iast C (by decide) sh_218 (by omega) (by decide) dX10_sheet_89 ?_
                    refine v_mem (upA (up2 (up2 M 217 s bits) 218 s n) 206 Y) (up2_upA_ne _ _ _ _ (by decide)) ?_
                    refine v_iconst C (nI 0) dX10_sheet_90 (by decide) ?_
                    refine v_istore C [(4, .int (nI 0)), (0, .ref (gb G + 205)), (1, .int (nI s)), (2, .int bits), (3, .int n)] dX10_sheet_91 (by decide) rfl ?_
                    have LZ : ∀ (kq : Nat) (k : Nat) (X : Mm), 24 - k = kq → k ≤ 24 → X = shtX M s bits (n) k → Vc f G NPh (upA X 206 Y) 93 [(4, .int (nI k)), (0, .ref (gb G + 205)), (1, .int (nI s)), (2, .int bits), (3, .int n)] [] := by
                      intro kq
                      induction kq using Nat.strongRecOn with
                      | _ kq ihLZ =>
                        intro k X hkq hk hX
                        refine v_iload C 0 dX10_sheet_93 rfl ?_
                        refine v_bipush C (nI 24) dX10_sheet_95 (by decide) ?_
                        refine n_icmp_ge C (by omega) (by omega) 119 dX10_sheet_97 rfl (fun h_97 => ?_) (fun h_97 => ?_)
                        · skip
                          refine v_iconst C (nI 1) dX10_sheet_119 (by decide) ?_
                          have hS : sheetS M (nI s) bits n = (0, nI 1, shtX M s bits (n) 24) := by unfold sheetS; (try rw [nI_clamp (by omega)]); (try rw [nI_clamp (by omega)]); rw [if_pos h_4]; rw [if_neg h_8]; rw [if_pos (Or.inr (Or.inl h_20))]; (first | rw [if_pos h_41] | rw [if_neg h_41]); (first | rw [if_pos h_58] | rw [if_neg h_58]); all_goals rfl
                          exact n_iret C hRt rfl dX10_sheet_120 (by rw [hS] <;> rfl) (by rw [hS]; exact ⟨_, rfl, by rw [hX, show k = 24 by omega]; exact eqM.rf _⟩)
                        · skip
                          refine v_aload_n C 1 dX10_sheet_100 rfl ?_
                          refine g_X10_56 C (by decide) sh_205 dX10_sheet_101 ?_
                          refine v_bipush C (nI 24) dX10_sheet_104 (by decide) ?_
                          refine v_iload_n C 2 dX10_sheet_106 rfl ?_
                          refine n_imul C dX10_sheet_107 ?_
                          refine v_iload C 0 dX10_sheet_108 rfl ?_
                          refine n_iadd C dX10_sheet_110 ?_
                          refine v_iconst C (nI 0) dX10_sheet_111 (by decide) ?_
                          refine v_iast C (by decide) sh_219 (by omega) (by decide) dX10_sheet_112 ?_
                          refine v_mem (upA (up2 X 219 ((24 * s) + k) (nI 0)) 206 Y) (up2_upA_ne _ _ _ _ (by decide)) ?_
                          refine v_iinc C (nI (k + 1)) 0 [(4, .int (nI (k + 1))), (0, .ref (gb G + 205)), (1, .int (nI s)), (2, .int bits), (3, .int n)] dX10_sheet_113 rfl (nI_add _ _) (by decide) rfl ?_
                          refine v_goto C 93 dX10_sheet_116 rfl ?_
                          refine v_sub [0, 1, 2, 3, 4] [(4, .int (nI (k + 1))), (0, .ref (gb G + 205)), (1, .int (nI s)), (2, .int bits), (3, .int n)] rfl ?_
                          exact ihLZ _ (by omega) (k + 1) (up2 X 219 ((24 * s) + k) (nI 0))  rfl (by omega) (by rw [hX]; unfold shtX; rw [up2_upA, zrN_succ])
                    refine v_sub [0, 1, 2, 3, 4] [(4, .int (nI 0)), (0, .ref (gb G + 205)), (1, .int (nI s)), (2, .int bits), (3, .int n)] rfl ?_
                    exact LZ _ 0 (up2 (up2 M 217 s bits) 218 s n)  rfl (by omega) (by unfold shtX; rw [zrN_0]; exact (upA_self (up2 (up2 M 217 s bits) 218 s (n)) 219).symm)
                  · skip
                    exact absurd h_81 h_8
                · skip
                  refine v_aload_n C 0 dX10_sheet_61 rfl ?_
                  refine v_ldc C (-1000001) kc_X10_80 dX10_sheet_62 ?_
                  refine n_callVi C hRm [.int (-1000001)] cw_X10_finding ml_X10_81 (by decide) sh_205 (by decide) rfl (r_finding l G (upA M 206 Y) 1 (by decide) (-1000001) (by decide)) (by decide) rfl rfl (Nat.le_of_ble_eq_true rfl) dX10_sheet_64 (fun M5 hP_64 => ?_)
                  subst hP_64
                  refine v_mem (upA (fndM M 1) 206 Y) (fnd_upA _ _ _) ?_
                  have hS : sheetS M (nI s) bits n = e4 1 M := by unfold sheetS; (try rw [nI_clamp (by omega)]); (try rw [nI_clamp (by omega)]); rw [if_pos h_4]; rw [if_neg h_8]; rw [if_pos (Or.inr (Or.inl h_20))]; (first | rw [if_pos h_41] | rw [if_neg h_41]); (first | rw [if_pos h_58] | rw [if_neg h_58]); all_goals rfl
                  exact n_iret C hRt rfl dX10_sheet_67 (by rw [hS] <;> rfl) (by rw [hS]; exact ⟨_, rfl, (eqM.rf M).tr (eqM.fnd _ (show (1 : Nat) ≠ 0 by decide))⟩)
            · skip
              refine v_aload_n C 0 dX10_sheet_44 rfl ?_
              refine v_ldc C (-1000003) kc_X10_122 dX10_sheet_45 ?_
              refine n_callVi C hRm [.int (-1000003)] cw_X10_finding ml_X10_81 (by decide) sh_205 (by decide) rfl (r_finding l G (upA M 206 Y) 3 (by decide) (-1000003) (by decide)) (by decide) rfl rfl (Nat.le_of_ble_eq_true rfl) dX10_sheet_47 (fun M5 hP_47 => ?_)
              subst hP_47
              refine v_mem (upA (fndM M 3) 206 Y) (fnd_upA _ _ _) ?_
              have hS : sheetS M (nI s) bits n = e4 3 M := by unfold sheetS; (try rw [nI_clamp (by omega)]); (try rw [nI_clamp (by omega)]); rw [if_pos h_4]; rw [if_neg h_8]; rw [if_pos (Or.inr (Or.inl h_20))]; (first | rw [if_pos h_41] | rw [if_neg h_41]); all_goals rfl
              exact n_iret C hRt rfl dX10_sheet_50 (by rw [hS] <;> rfl) (by rw [hS]; exact ⟨_, rfl, (eqM.rf M).tr (eqM.fnd _ (show (3 : Nat) ≠ 0 by decide))⟩)
        · skip
          refine v_iload_n C 2 dX10_sheet_23 rfl ?_
          refine v_bipush C (nI 32) dX10_sheet_24 (by decide) ?_
          refine v_icmp_eq C 36 dX10_sheet_26 rfl (fun h_26 => ?_) (fun h_26 => ?_)
          · skip
            refine v_iload_n C 2 dX10_sheet_36 rfl ?_
            refine v_if_eq C 51 dX10_sheet_37 rfl (fun h_37 => ?_) (fun h_37 => ?_)
            · skip
              exact absurd h_37 h_8
            · skip
              refine v_iload_n C 3 dX10_sheet_40 rfl ?_
              refine v_if_ge C 51 dX10_sheet_41 rfl (fun h_41 => ?_) (fun h_41 => ?_)
              · skip
                refine v_iload_n C 2 dX10_sheet_51 rfl ?_
                refine v_if_eq C 68 dX10_sheet_52 rfl (fun h_52 => ?_) (fun h_52 => ?_)
                · skip
                  exact absurd h_52 h_8
                · skip
                  refine v_iload_n C 3 dX10_sheet_55 rfl ?_
                  refine v_bipush C (nI 24) dX10_sheet_56 (by decide) ?_
                  refine v_icmp_le C 68 dX10_sheet_58 rfl (fun h_58 => ?_) (fun h_58 => ?_)
                  · skip
                    refine v_aload_n C 0 dX10_sheet_68 rfl ?_
                    refine g_X10_50 C (by decide) sh_205 dX10_sheet_69 ?_
                    refine v_iload_n C 1 dX10_sheet_72 rfl ?_
                    refine v_iload_n C 2 dX10_sheet_73 rfl ?_
                    refine v_iast C (by decide) sh_217 (by omega) (by decide) dX10_sheet_74 ?_
                    refine v_mem (upA (up2 M 217 s bits) 206 Y) (up2_upA_ne _ _ _ _ (by decide)) ?_
                    refine v_aload_n C 0 dX10_sheet_75 rfl ?_
                    refine g_X10_53 C (by decide) sh_205 dX10_sheet_76 ?_
                    refine v_iload_n C 1 dX10_sheet_79 rfl ?_
                    refine v_iload_n C 2 dX10_sheet_80 rfl ?_
                    refine v_if_ne C 88 dX10_sheet_81 rfl (fun h_81 => ?_) (fun h_81 => ?_)
                    · skip
                      refine v_iload_n C 3 dX10_sheet_88 rfl ?_
                      refine v_iast C (by decide) sh_218 (by omega) (by decide) dX10_sheet_89 ?_
                      refine v_mem (upA (up2 (up2 M 217 s bits) 218 s n) 206 Y) (up2_upA_ne _ _ _ _ (by decide)) ?_
                      refine v_iconst C (nI 0) dX10_sheet_90 (by decide) ?_
                      refine v_istore C [(4, .int (nI 0)), (0, .ref (gb G + 205)), (1, .int (nI s)), (2, .int bits), (3, .int n)] dX10_sheet_91 (by decide) rfl ?_
                      have LZ : ∀ (kq : Nat) (k : Nat) (X : Mm), 24 - k = kq → k ≤ 24 → X = shtX M s bits (n) k → Vc f G NPh (upA X 206 Y) 93 [(4, .int (nI k)), (0, .ref (gb G + 205)), (1, .int (nI s)), (2, .int bits), (3, .int n)] [] := by
                        intro kq
                        induction kq using Nat.strongRecOn with
                        | _ kq ihLZ =>
                          intro k X hkq hk hX
                          refine v_iload C 0 dX10_sheet_93 rfl ?_
                          refine v_bipush C (nI 24) dX10_sheet_95 (by decide) ?_
                          refine n_icmp_ge C (by omega) (by omega) 119 dX10_sheet_97 rfl (fun h_97 => ?_) (fun h_97 => ?_)
                          · skip
                            refine v_iconst C (nI 1) dX10_sheet_119 (by decide) ?_
                            have hS : sheetS M (nI s) bits n = (0, nI 1, shtX M s bits (n) 24) := by unfold sheetS; (try rw [nI_clamp (by omega)]); (try rw [nI_clamp (by omega)]); rw [if_pos h_4]; rw [if_neg h_8]; rw [if_pos (Or.inr (Or.inr h_26))]; (first | rw [if_pos h_41] | rw [if_neg h_41]); (first | rw [if_pos h_58] | rw [if_neg h_58]); all_goals rfl
                            exact n_iret C hRt rfl dX10_sheet_120 (by rw [hS] <;> rfl) (by rw [hS]; exact ⟨_, rfl, by rw [hX, show k = 24 by omega]; exact eqM.rf _⟩)
                          · skip
                            refine v_aload_n C 1 dX10_sheet_100 rfl ?_
                            refine g_X10_56 C (by decide) sh_205 dX10_sheet_101 ?_
                            refine v_bipush C (nI 24) dX10_sheet_104 (by decide) ?_
                            refine v_iload_n C 2 dX10_sheet_106 rfl ?_
                            refine n_imul C dX10_sheet_107 ?_
                            refine v_iload C 0 dX10_sheet_108 rfl ?_
                            refine n_iadd C dX10_sheet_110 ?_
                            refine v_iconst C (nI 0) dX10_sheet_111 (by decide) ?_
                            refine v_iast C (by decide) sh_219 (by omega) (by decide) dX10_sheet_112 ?_
                            refine v_mem (upA (up2 X 219 ((24 * s) + k) (nI 0)) 206 Y) (up2_upA_ne _ _ _ _ (by decide)) ?_
                            refine v_iinc C (nI (k + 1)) 0 [(4, .int (nI (k + 1))), (0, .ref (gb G + 205)), (1, .int (nI s)), (2, .int bits), (3, .int n)] dX10_sheet_113 rfl (nI_add _ _) (by decide) rfl ?_
                            refine v_goto C 93 dX10_sheet_116 rfl ?_
                            refine v_sub [0, 1, 2, 3, 4] [(4, .int (nI (k + 1))), (0, .ref (gb G + 205)), (1, .int (nI s)), (2, .int bits), (3, .int n)] rfl ?_
                            exact ihLZ _ (by omega) (k + 1) (up2 X 219 ((24 * s) + k) (nI 0))  rfl (by omega) (by rw [hX]; unfold shtX; rw [up2_upA, zrN_succ])
                      refine v_sub [0, 1, 2, 3, 4] [(4, .int (nI 0)), (0, .ref (gb G + 205)), (1, .int (nI s)), (2, .int bits), (3, .int n)] rfl ?_
                      exact LZ _ 0 (up2 (up2 M 217 s bits) 218 s n)  rfl (by omega) (by unfold shtX; rw [zrN_0]; exact (upA_self (up2 (up2 M 217 s bits) 218 s (n)) 219).symm)
                    · skip
                      exact absurd h_81 h_8
                  · skip
                    refine v_aload_n C 0 dX10_sheet_61 rfl ?_
                    refine v_ldc C (-1000001) kc_X10_80 dX10_sheet_62 ?_
                    refine n_callVi C hRm [.int (-1000001)] cw_X10_finding ml_X10_81 (by decide) sh_205 (by decide) rfl (r_finding l G (upA M 206 Y) 1 (by decide) (-1000001) (by decide)) (by decide) rfl rfl (Nat.le_of_ble_eq_true rfl) dX10_sheet_64 (fun M5 hP_64 => ?_)
                    subst hP_64
                    refine v_mem (upA (fndM M 1) 206 Y) (fnd_upA _ _ _) ?_
                    have hS : sheetS M (nI s) bits n = e4 1 M := by unfold sheetS; (try rw [nI_clamp (by omega)]); (try rw [nI_clamp (by omega)]); rw [if_pos h_4]; rw [if_neg h_8]; rw [if_pos (Or.inr (Or.inr h_26))]; (first | rw [if_pos h_41] | rw [if_neg h_41]); (first | rw [if_pos h_58] | rw [if_neg h_58]); all_goals rfl
                    exact n_iret C hRt rfl dX10_sheet_67 (by rw [hS] <;> rfl) (by rw [hS]; exact ⟨_, rfl, (eqM.rf M).tr (eqM.fnd _ (show (1 : Nat) ≠ 0 by decide))⟩)
              · skip
                refine v_aload_n C 0 dX10_sheet_44 rfl ?_
                refine v_ldc C (-1000003) kc_X10_122 dX10_sheet_45 ?_
                refine n_callVi C hRm [.int (-1000003)] cw_X10_finding ml_X10_81 (by decide) sh_205 (by decide) rfl (r_finding l G (upA M 206 Y) 3 (by decide) (-1000003) (by decide)) (by decide) rfl rfl (Nat.le_of_ble_eq_true rfl) dX10_sheet_47 (fun M5 hP_47 => ?_)
                subst hP_47
                refine v_mem (upA (fndM M 3) 206 Y) (fnd_upA _ _ _) ?_
                have hS : sheetS M (nI s) bits n = e4 3 M := by unfold sheetS; (try rw [nI_clamp (by omega)]); (try rw [nI_clamp (by omega)]); rw [if_pos h_4]; rw [if_neg h_8]; rw [if_pos (Or.inr (Or.inr h_26))]; (first | rw [if_pos h_41] | rw [if_neg h_41]); all_goals rfl
                exact n_iret C hRt rfl dX10_sheet_50 (by rw [hS] <;> rfl) (by rw [hS]; exact ⟨_, rfl, (eqM.rf M).tr (eqM.fnd _ (show (3 : Nat) ≠ 0 by decide))⟩)
          · skip
            refine v_aload_n C 0 dX10_sheet_29 rfl ?_
            refine v_ldc C (-1000001) kc_X10_80 dX10_sheet_30 ?_
            refine n_callVi C hRm [.int (-1000001)] cw_X10_finding ml_X10_81 (by decide) sh_205 (by decide) rfl (r_finding l G (upA M 206 Y) 1 (by decide) (-1000001) (by decide)) (by decide) rfl rfl (Nat.le_of_ble_eq_true rfl) dX10_sheet_32 (fun M5 hP_32 => ?_)
            subst hP_32
            refine v_mem (upA (fndM M 1) 206 Y) (fnd_upA _ _ _) ?_
            have hS : sheetS M (nI s) bits n = e4 1 M := by unfold sheetS; (try rw [nI_clamp (by omega)]); (try rw [nI_clamp (by omega)]); rw [if_pos h_4]; rw [if_neg h_8]; rw [if_neg (fun q => by rcases q with q | q | q; exact h_14 q; exact h_20 q; exact h_26 q)]; all_goals rfl
            exact n_iret C hRt rfl dX10_sheet_35 (by rw [hS] <;> rfl) (by rw [hS]; exact ⟨_, rfl, (eqM.rf M).tr (eqM.fnd _ (show (1 : Nat) ≠ 0 by decide))⟩)
def castW (b v : Int32) : Int32 := if b = nI 8 then (Int32.toInt8 v).toInt32 else if b = nI 16 then (Int32.toInt16 v).toInt32 else v
def putS (M : Mm) (sheet i v : Int32) : O4 := if nI 0 ≤ sheet ∧ sheet ≤ nI 3 then (if M 217 sheet.toNatClampNeg = 0 then e4 2 M else (if nI 0 ≤ i ∧ i ≤ M 218 sheet.toNatClampNeg - nI 1 then (0, nI 1, up2 M 219 (24 * sheet.toNatClampNeg + i.toNatClampNeg) (castW (M 217 sheet.toNatClampNeg) v)) else e4 1 M)) else e4 1 M
set_option maxHeartbeats 4000000 in
set_option maxRecDepth 100000 in
theorem r_put (l : Launch) (G : GC) (M : Mm) (Y : Nat → Int32) (hsh : shOk M) (sheet i v : Int32) : CI l G 3 yX10_put cX10_put 4 .int [.ref (gb G + 205), .int sheet, .int i, .int v] (upA M 206 Y) ((putS M sheet i v).2.1) (PubX (putS M sheet i v).2.2 Y (putS M sheet i v).1) := by
  refine Con.of (by decide +kernel) (Nat.le_of_ble_eq_true rfl) ?_
  intro f C hRm hRt _
  show Vc f G NPh (upA M 206 Y) 0 [(0, .ref (gb G + 205)), (1, .int sheet), (2, .int i), (3, .int v)] []
  refine v_iload_n C 1 dX10_put_0 rfl ?_
  refine n_callSp C hRm [.int sheet] cw_X10_isSheet st_X10_isSheet ml_X10_305 (r_isSheet l G (upA M 206 Y) sheet) (by decide) rfl rfl (Nat.le_of_ble_eq_true rfl) dX10_put_1 ?_
  refine nb_if_ne C 14 dX10_put_4 rfl (fun h_4 => ?_) (fun h_4 => ?_)
  · skip
    obtain ⟨s, hs, rfl⟩ := within_nat (by decide) h_4
    obtain ⟨z, hz, hz2⟩ := hsh s (by omega)
    refine v_aload_n C 0 dX10_put_14 rfl ?_
    refine g_X10_50 C (by decide) sh_205 dX10_put_15 ?_
    refine v_iload_n C 1 dX10_put_18 rfl ?_
    refine v_iald C (by decide) sh_217 (by omega) (by decide) dX10_put_19 ?_
    refine v_top (M 217 s) (congrFun (upA_ne M Y (by decide)) _) ?_
    refine v_if_ne C 31 dX10_put_20 rfl (fun h_20 => ?_) (fun h_20 => ?_)
    · skip
      refine v_iload_n C 2 dX10_put_31 rfl ?_
      refine v_iconst C (nI 0) dX10_put_32 (by decide) ?_
      refine v_aload_n C 0 dX10_put_33 rfl ?_
      refine g_X10_53 C (by decide) sh_205 dX10_put_34 ?_
      refine v_iload_n C 1 dX10_put_37 rfl ?_
      refine v_iald C (by decide) sh_218 (by omega) (by decide) dX10_put_38 ?_
      refine v_top (M 218 s) (congrFun (upA_ne M Y (by decide)) _) ?_
      refine v_iconst C (nI 1) dX10_put_39 (by decide) ?_
      refine v_isub C dX10_put_40 ?_
      refine n_callSp C hRm [.int i, .int (nI 0), .int ((M 218 s) - (nI 1))] cw_X10_within st_X10_within ml_X10_72 (r_within l G (upA M 206 Y) i (nI 0) ((M 218 s) - (nI 1))) (by decide) rfl rfl (Nat.le_of_ble_eq_true rfl) dX10_put_41 ?_
      refine nb_if_ne C 54 dX10_put_44 rfl (fun h_44 => ?_) (fun h_44 => ?_)
      · skip
        obtain ⟨q, hq, rfl⟩ := is_natB hz2 (by omega) h_44
        refine v_aload_n C 0 dX10_put_54 rfl ?_
        refine g_X10_56 C (by decide) sh_205 dX10_put_55 ?_
        refine v_bipush C (nI 24) dX10_put_58 (by decide) ?_
        refine v_iload_n C 1 dX10_put_60 rfl ?_
        refine n_imul C dX10_put_61 ?_
        refine v_iload_n C 2 dX10_put_62 rfl ?_
        refine n_iadd C dX10_put_63 ?_
        refine v_aload_n C 0 dX10_put_64 rfl ?_
        refine g_X10_50 C (by decide) sh_205 dX10_put_65 ?_
        refine v_iload_n C 1 dX10_put_68 rfl ?_
        refine v_iald C (by decide) sh_217 (by omega) (by decide) dX10_put_69 ?_
        refine v_top (M 217 s) (congrFun (upA_ne M Y (by decide)) _) ?_
        refine v_bipush C (nI 8) dX10_put_70 (by decide) ?_
        refine v_icmp_ne C 80 dX10_put_72 rfl (fun h_72 => ?_) (fun h_72 => ?_)
        · skip
          refine v_aload_n C 0 dX10_put_80 rfl ?_
          refine g_X10_50 C (by decide) sh_205 dX10_put_81 ?_
          refine v_iload_n C 1 dX10_put_84 rfl ?_
          refine v_iald C (by decide) sh_217 (by omega) (by decide) dX10_put_85 ?_
          refine v_top (M 217 s) (congrFun (upA_ne M Y (by decide)) _) ?_
          refine v_bipush C (nI 16) dX10_put_86 (by decide) ?_
          refine v_icmp_ne C 96 dX10_put_88 rfl (fun h_88 => ?_) (fun h_88 => ?_)
          · skip
            refine v_iload_n C 3 dX10_put_96 rfl ?_
            refine v_iast C (by decide) sh_219 (by omega) (by decide) dX10_put_97 ?_
            refine v_mem (upA (up2 M 219 ((24 * s) + q) v) 206 Y) (up2_upA_ne _ _ _ _ (by decide)) ?_
            refine v_iconst C (nI 1) dX10_put_98 (by decide) ?_
            have hS : putS M (nI s) (nI q) v = (0, nI 1, up2 M 219 ((24 * s) + q) v) := by unfold putS; (try rw [nI_clamp (by omega)]); (try rw [nI_clamp (by omega)]); (try rw [nI_clamp (by omega)]); (try rw [nI_clamp (by omega)]); (first | rw [if_pos h_4] | rw [if_neg h_4] | rw [if_pos (congrArg nI h_4)] | rw [if_neg (fun q9 => h_4 ((nI_eq (by omega) (by omega)).mp q9))] | rw [if_neg (Nat.not_le.mpr h_4)] | rw [if_neg (Nat.not_lt.mpr h_4)] | skip); (first | rw [if_pos h_20] | rw [if_neg h_20] | rw [if_pos (congrArg nI h_20)] | rw [if_neg (fun q9 => h_20 ((nI_eq (by omega) (by omega)).mp q9))] | rw [if_neg (Nat.not_le.mpr h_20)] | rw [if_neg (Nat.not_lt.mpr h_20)] | skip); (first | rw [if_pos h_44] | rw [if_neg h_44] | rw [if_pos (congrArg nI h_44)] | rw [if_neg (fun q9 => h_44 ((nI_eq (by omega) (by omega)).mp q9))] | rw [if_neg (Nat.not_le.mpr h_44)] | rw [if_neg (Nat.not_lt.mpr h_44)] | skip); (first | rw [if_pos h_72] | rw [if_neg h_72] | rw [if_pos (congrArg nI h_72)] | rw [if_neg (fun q9 => h_72 ((nI_eq (by omega) (by omega)).mp q9))] | rw [if_neg (Nat.not_le.mpr h_72)] | rw [if_neg (Nat.not_lt.mpr h_72)] | skip); (first | rw [if_pos h_88] | rw [if_neg h_88] | rw [if_pos (congrArg nI h_88)] | rw [if_neg (fun q9 => h_88 ((nI_eq (by omega) (by omega)).mp q9))] | rw [if_neg (Nat.not_le.mpr h_88)] | rw [if_neg (Nat.not_lt.mpr h_88)] | skip); unfold castW; rw [if_neg h_72, if_neg h_88]; all_goals rfl
            exact n_iret C hRt rfl dX10_put_99 (by rw [hS] <;> rfl) (by rw [hS]; exact ⟨_, rfl, eqM.rf _⟩)
          · skip
            refine v_iload_n C 3 dX10_put_91 rfl ?_
            refine v_i2s C dX10_put_92 ?_
            refine v_goto C 97 dX10_put_93 rfl ?_
            refine v_iast C (by decide) sh_219 (by omega) (by decide) dX10_put_97 ?_
            refine v_mem (upA (up2 M 219 ((24 * s) + q) ((Int32.toInt16 v).toInt32)) 206 Y) (up2_upA_ne _ _ _ _ (by decide)) ?_
            refine v_iconst C (nI 1) dX10_put_98 (by decide) ?_
            have hS : putS M (nI s) (nI q) v = (0, nI 1, up2 M 219 ((24 * s) + q) ((Int32.toInt16 v).toInt32)) := by unfold putS; (try rw [nI_clamp (by omega)]); (try rw [nI_clamp (by omega)]); (try rw [nI_clamp (by omega)]); (try rw [nI_clamp (by omega)]); (first | rw [if_pos h_4] | rw [if_neg h_4] | rw [if_pos (congrArg nI h_4)] | rw [if_neg (fun q9 => h_4 ((nI_eq (by omega) (by omega)).mp q9))] | rw [if_neg (Nat.not_le.mpr h_4)] | rw [if_neg (Nat.not_lt.mpr h_4)] | skip); (first | rw [if_pos h_20] | rw [if_neg h_20] | rw [if_pos (congrArg nI h_20)] | rw [if_neg (fun q9 => h_20 ((nI_eq (by omega) (by omega)).mp q9))] | rw [if_neg (Nat.not_le.mpr h_20)] | rw [if_neg (Nat.not_lt.mpr h_20)] | skip); (first | rw [if_pos h_44] | rw [if_neg h_44] | rw [if_pos (congrArg nI h_44)] | rw [if_neg (fun q9 => h_44 ((nI_eq (by omega) (by omega)).mp q9))] | rw [if_neg (Nat.not_le.mpr h_44)] | rw [if_neg (Nat.not_lt.mpr h_44)] | skip); (first | rw [if_pos h_72] | rw [if_neg h_72] | rw [if_pos (congrArg nI h_72)] | rw [if_neg (fun q9 => h_72 ((nI_eq (by omega) (by omega)).mp q9))] | rw [if_neg (Nat.not_le.mpr h_72)] | rw [if_neg (Nat.not_lt.mpr h_72)] | skip); (first | rw [if_pos h_88] | rw [if_neg h_88] | rw [if_pos (congrArg nI h_88)] | rw [if_neg (fun q9 => h_88 ((nI_eq (by omega) (by omega)).mp q9))] | rw [if_neg (Nat.not_le.mpr h_88)] | rw [if_neg (Nat.not_lt.mpr h_88)] | skip); unfold castW; rw [if_neg h_72, if_pos h_88]; all_goals rfl
            exact n_iret C hRt rfl dX10_put_99 (by rw [hS] <;> rfl) (by rw [hS]; exact ⟨_, rfl, eqM.rf _⟩)
        · skip
          refine v_iload_n C 3 dX10_put_75 rfl ?_
          refine v_i2b C dX10_put_76 ?_
          refine v_goto C 97 dX10_put_77 rfl ?_
          refine v_iast C (by decide) sh_219 (by omega) (by decide) dX10_put_97 ?_
          refine v_mem (upA (up2 M 219 ((24 * s) + q) ((Int32.toInt8 v).toInt32)) 206 Y) (up2_upA_ne _ _ _ _ (by decide)) ?_
          refine v_iconst C (nI 1) dX10_put_98 (by decide) ?_
          have hS : putS M (nI s) (nI q) v = (0, nI 1, up2 M 219 ((24 * s) + q) ((Int32.toInt8 v).toInt32)) := by unfold putS; (try rw [nI_clamp (by omega)]); (try rw [nI_clamp (by omega)]); (try rw [nI_clamp (by omega)]); (try rw [nI_clamp (by omega)]); (first | rw [if_pos h_4] | rw [if_neg h_4] | rw [if_pos (congrArg nI h_4)] | rw [if_neg (fun q9 => h_4 ((nI_eq (by omega) (by omega)).mp q9))] | rw [if_neg (Nat.not_le.mpr h_4)] | rw [if_neg (Nat.not_lt.mpr h_4)] | skip); (first | rw [if_pos h_20] | rw [if_neg h_20] | rw [if_pos (congrArg nI h_20)] | rw [if_neg (fun q9 => h_20 ((nI_eq (by omega) (by omega)).mp q9))] | rw [if_neg (Nat.not_le.mpr h_20)] | rw [if_neg (Nat.not_lt.mpr h_20)] | skip); (first | rw [if_pos h_44] | rw [if_neg h_44] | rw [if_pos (congrArg nI h_44)] | rw [if_neg (fun q9 => h_44 ((nI_eq (by omega) (by omega)).mp q9))] | rw [if_neg (Nat.not_le.mpr h_44)] | rw [if_neg (Nat.not_lt.mpr h_44)] | skip); (first | rw [if_pos h_72] | rw [if_neg h_72] | rw [if_pos (congrArg nI h_72)] | rw [if_neg (fun q9 => h_72 ((nI_eq (by omega) (by omega)).mp q9))] | rw [if_neg (Nat.not_le.mpr h_72)] | rw [if_neg (Nat.not_lt.mpr h_72)] | skip); unfold castW; rw [if_pos h_72]; all_goals rfl
          exact n_iret C hRt rfl dX10_put_99 (by rw [hS] <;> rfl) (by rw [hS]; exact ⟨_, rfl, eqM.rf _⟩)
      · skip
        refine v_aload_n C 0 dX10_put_47 rfl ?_
        refine v_ldc C (-1000001) kc_X10_80 dX10_put_48 ?_
        refine n_callVi C hRm [.int (-1000001)] cw_X10_finding ml_X10_81 (by decide) sh_205 (by decide) rfl (r_finding l G (upA M 206 Y) 1 (by decide) (-1000001) (by decide)) (by decide) rfl rfl (Nat.le_of_ble_eq_true rfl) dX10_put_50 (fun M5 hP_50 => ?_)
        subst hP_50
        refine v_mem (upA (fndM M 1) 206 Y) (fnd_upA _ _ _) ?_
        have hS : putS M (nI s) i v = e4 1 M := by unfold putS; (try rw [nI_clamp (by omega)]); (try rw [nI_clamp (by omega)]); (try rw [nI_clamp (by omega)]); (try rw [nI_clamp (by omega)]); (first | rw [if_pos h_4] | rw [if_neg h_4] | rw [if_pos (congrArg nI h_4)] | rw [if_neg (fun q9 => h_4 ((nI_eq (by omega) (by omega)).mp q9))] | rw [if_neg (Nat.not_le.mpr h_4)] | rw [if_neg (Nat.not_lt.mpr h_4)] | skip); (first | rw [if_pos h_20] | rw [if_neg h_20] | rw [if_pos (congrArg nI h_20)] | rw [if_neg (fun q9 => h_20 ((nI_eq (by omega) (by omega)).mp q9))] | rw [if_neg (Nat.not_le.mpr h_20)] | rw [if_neg (Nat.not_lt.mpr h_20)] | skip); (first | rw [if_pos h_44] | rw [if_neg h_44] | rw [if_pos (congrArg nI h_44)] | rw [if_neg (fun q9 => h_44 ((nI_eq (by omega) (by omega)).mp q9))] | rw [if_neg (Nat.not_le.mpr h_44)] | rw [if_neg (Nat.not_lt.mpr h_44)] | skip); all_goals rfl
        exact n_iret C hRt rfl dX10_put_53 (by rw [hS] <;> rfl) (by rw [hS]; exact ⟨_, rfl, (eqM.rf M).tr (eqM.fnd _ (show (1 : Nat) ≠ 0 by decide))⟩)
    · skip
      refine v_aload_n C 0 dX10_put_23 rfl ?_
      refine v_ldcw C (-1000002) kc_X10_276 dX10_put_24 ?_
      refine n_callVi C hRm [.int (-1000002)] cw_X10_finding ml_X10_81 (by decide) sh_205 (by decide) rfl (r_finding l G (upA M 206 Y) 2 (by decide) (-1000002) (by decide)) (by decide) rfl rfl (Nat.le_of_ble_eq_true rfl) dX10_put_27 (fun M5 hP_27 => ?_)
      subst hP_27
      refine v_mem (upA (fndM M 2) 206 Y) (fnd_upA _ _ _) ?_
      have hS : putS M (nI s) i v = e4 2 M := by unfold putS; (try rw [nI_clamp (by omega)]); (try rw [nI_clamp (by omega)]); (try rw [nI_clamp (by omega)]); (try rw [nI_clamp (by omega)]); (first | rw [if_pos h_4] | rw [if_neg h_4] | rw [if_pos (congrArg nI h_4)] | rw [if_neg (fun q9 => h_4 ((nI_eq (by omega) (by omega)).mp q9))] | rw [if_neg (Nat.not_le.mpr h_4)] | rw [if_neg (Nat.not_lt.mpr h_4)] | skip); (first | rw [if_pos h_20] | rw [if_neg h_20] | rw [if_pos (congrArg nI h_20)] | rw [if_neg (fun q9 => h_20 ((nI_eq (by omega) (by omega)).mp q9))] | rw [if_neg (Nat.not_le.mpr h_20)] | rw [if_neg (Nat.not_lt.mpr h_20)] | skip); all_goals rfl
      exact n_iret C hRt rfl dX10_put_30 (by rw [hS] <;> rfl) (by rw [hS]; exact ⟨_, rfl, (eqM.rf M).tr (eqM.fnd _ (show (2 : Nat) ≠ 0 by decide))⟩)
  · skip
    refine v_aload_n C 0 dX10_put_7 rfl ?_
    refine v_ldc C (-1000001) kc_X10_80 dX10_put_8 ?_
    refine n_callVi C hRm [.int (-1000001)] cw_X10_finding ml_X10_81 (by decide) sh_205 (by decide) rfl (r_finding l G (upA M 206 Y) 1 (by decide) (-1000001) (by decide)) (by decide) rfl rfl (Nat.le_of_ble_eq_true rfl) dX10_put_10 (fun M5 hP_10 => ?_)
    subst hP_10
    refine v_mem (upA (fndM M 1) 206 Y) (fnd_upA _ _ _) ?_
    have hS : putS M sheet i v = e4 1 M := by unfold putS; (try rw [nI_clamp (by omega)]); (try rw [nI_clamp (by omega)]); (try rw [nI_clamp (by omega)]); (try rw [nI_clamp (by omega)]); (first | rw [if_pos h_4] | rw [if_neg h_4] | rw [if_pos (congrArg nI h_4)] | rw [if_neg (fun q9 => h_4 ((nI_eq (by omega) (by omega)).mp q9))] | rw [if_neg (Nat.not_le.mpr h_4)] | rw [if_neg (Nat.not_lt.mpr h_4)] | skip); all_goals rfl
    exact n_iret C hRt rfl dX10_put_13 (by rw [hS] <;> rfl) (by rw [hS]; exact ⟨_, rfl, (eqM.rf M).tr (eqM.fnd _ (show (1 : Nat) ≠ 0 by decide))⟩)
