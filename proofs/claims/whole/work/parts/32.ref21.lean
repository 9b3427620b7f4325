theorem lN_ltB {a b : Nat} (ha : a < 2 ^ 62) (hb : b < 2 ^ 62) : lN a < lN b ↔ a < b := by
  rw [Int64.lt_iff_toInt_lt]
  unfold lN
  rw [lg_ofNat_toInt (by omega), lg_ofNat_toInt (by omega)]
  omega
theorem lN_leB {a b : Nat} (ha : a < 2 ^ 62) (hb : b < 2 ^ 62) : lN a ≤ lN b ↔ a ≤ b := by
  rw [Int64.le_iff_toInt_le]
  unfold lN
  rw [lg_ofNat_toInt (by omega), lg_ofNat_toInt (by omega)]
  omega
def mvF (M : Mm) (s a o b k : Nat) : Nat → Int32 := fun i => if 24 * o + b ≤ i ∧ i < 24 * o + b + k then M 219 (24 * s + a + (i - (24 * o + b))) else M 219 i
theorem mvF_0 (M : Mm) (s a o b : Nat) : mvF M s a o b 0 = M 219 := by funext i; unfold mvF; rw [if_neg (by omega)]
theorem mvF_succ (M : Mm) (s a o b k : Nat) : upd (mvF M s a o b k) (24 * o + b + k) (M 219 (24 * s + a + k)) = mvF M s a o b (k + 1) := by
  funext i
  unfold upd mvF
  by_cases h : i = 24 * o + b + k
  · rw [if_pos h, if_pos (by omega), h, show 24 * o + b + k - (24 * o + b) = k by omega]
  · rw [if_neg h]
    by_cases h2 : 24 * o + b ≤ i ∧ i < 24 * o + b + k
    · rw [if_pos h2, if_pos (by omega)]
    · rw [if_neg h2, if_neg (by omega)]
def zS (M : Mm) (s : Nat) : Nat := cN (M 218) s
noncomputable def moveS (M : Mm) (sheet i other j n : Int32) : O4 := if nI 0 ≤ sheet ∧ sheet ≤ nI 3 then (if nI 0 ≤ other ∧ other ≤ nI 3 then (if M 217 sheet.toNatClampNeg = 0 then e4 2 M else if M 217 other.toNatClampNeg = 0 then e4 2 M else if M 217 sheet.toNatClampNeg = M 217 other.toNatClampNeg then (if n < 0 then e4 1 M else if i < 0 then e4 1 M else if j < 0 then e4 1 M else if i.toNatClampNeg + n.toNatClampNeg ≤ zS M sheet.toNatClampNeg then (if j.toNatClampNeg + n.toNatClampNeg ≤ zS M other.toNatClampNeg then (0, n, upA M 219 (mvF M sheet.toNatClampNeg i.toNatClampNeg other.toNatClampNeg j.toNatClampNeg n.toNatClampNeg)) else e4 1 M) else e4 1 M) else e4 5 M) else e4 1 M) else e4 1 M
theorem toN {x : Nat} (h : x < 2 ^ 31) : Int32.toNatClampNeg (nI x) = x := nI_clamp h
set_option maxHeartbeats 4000000 in
set_option maxRecDepth 100000 in
theorem r_move (l : Launch) (G : GC) (M : Mm) (Y : Nat → Int32) (hsh : shOk M) (sheet i other j n : Int32) : CI l G 3 yX10_move cX10_move 7 .int [.ref (gb G + 205), .int sheet, .int i, .int other, .int j, .int n] (upA M 206 Y) ((moveS M sheet i other j n).2.1) (PubX (moveS M sheet i other j n).2.2 Y (moveS M sheet i other j n).1) := by
  refine Con.of (by decide +kernel) (Nat.le_of_ble_eq_true rfl) ?_
  intro f C hRm hRt _
  show Vc f G NPh (upA M 206 Y) 0 [(0, .ref (gb G + 205)), (1, .int sheet), (2, .int i), (3, .int other), (4, .int j), (5, .int n)] []
  refine v_iload_n C 1 dX10_move_0 rfl ?_
  refine n_callSp C hRm [.int sheet] cw_X10_isSheet st_X10_isSheet ml_X10_305 (r_isSheet l G (upA M 206 Y) sheet) (by decide) rfl rfl (Nat.le_of_ble_eq_true rfl) dX10_move_1 ?_
  refine nb_if_eq C 14 dX10_move_4 rfl (fun h_4 => ?_) (fun h_4 => ?_)
  · skip
    refine v_aload_n C 0 dX10_move_14 rfl ?_
    refine v_ldc C (-1000001) kc_X10_80 dX10_move_15 ?_
    refine n_callVi C hRm [.int (-1000001)] cw_X10_finding ml_X10_81 (by decide) sh_205 (by decide) rfl (r_finding l G (upA M 206 Y) 1 (by decide) (-1000001) (by decide)) (by decide) rfl rfl (Nat.le_of_ble_eq_true rfl) dX10_move_17 (fun M5 hP_17 => ?_)
    subst hP_17
    refine v_mem (upA (fndM M 1) 206 Y) (fnd_upA _ _ _) ?_
    have hS : moveS M sheet i other j n = e4 1 M := by unfold moveS; (first | rw [if_pos h_4] | rw [if_neg h_4]); all_goals rfl
    exact n_iret C hRt rfl dX10_move_20 (by rw [hS] <;> rfl) (by rw [hS]; exact ⟨_, rfl, (eqM.rf M).tr (eqM.fnd _ (show (1 : Nat) ≠ 0 by decide))⟩)
  · skip
    obtain ⟨s, hs, rfl⟩ := within_nat (by decide) h_4
    obtain ⟨z, hz, hz2⟩ := hsh s (by omega)
    have hz3 : zS M s = z := cN_of hz2 (by omega)
    refine v_iload_n C 3 dX10_move_7 rfl ?_
    refine n_callSp C hRm [.int other] cw_X10_isSheet st_X10_isSheet ml_X10_305 (r_isSheet l G (upA M 206 Y) other) (by decide) rfl rfl (Nat.le_of_ble_eq_true rfl) dX10_move_8 ?_
    refine nb_if_ne C 21 dX10_move_11 rfl (fun h_11 => ?_) (fun h_11 => ?_)
    · skip
      obtain ⟨o, ho, rfl⟩ := within_nat (by decide) h_11
      obtain ⟨y, hy, hy2⟩ := hsh o (by omega)
      have hy3 : zS M o = y := cN_of hy2 (by omega)
      refine v_aload_n C 0 dX10_move_21 rfl ?_
      refine g_X10_50 C (by decide) sh_205 dX10_move_22 ?_
      refine v_iload_n C 1 dX10_move_25 rfl ?_
      refine v_iald C (by decide) sh_217 (by omega) (by decide) dX10_move_26 ?_
      refine v_top (M 217 s) (congrFun (upA_ne M Y (by decide)) _) ?_
      refine v_if_eq C 39 dX10_move_27 rfl (fun h_27 => ?_) (fun h_27 => ?_)
      · skip
        refine v_aload_n C 0 dX10_move_39 rfl ?_
        refine v_ldcw C (-1000002) kc_X10_276 dX10_move_40 ?_
        refine n_callVi C hRm [.int (-1000002)] cw_X10_finding ml_X10_81 (by decide) sh_205 (by decide) rfl (r_finding l G (upA M 206 Y) 2 (by decide) (-1000002) (by decide)) (by decide) rfl rfl (Nat.le_of_ble_eq_true rfl) dX10_move_43 (fun M5 hP_43 => ?_)
        subst hP_43
        refine v_mem (upA (fndM M 2) 206 Y) (fnd_upA _ _ _) ?_
        have hS : moveS M (nI s) i (nI o) j n = e4 2 M := by unfold moveS; (try rw [toN (show s < 2 ^ 31 by omega)]); (try rw [toN (show o < 2 ^ 31 by omega)]); (first | rw [if_pos h_4] | rw [if_neg h_4]); (first | rw [if_pos h_11] | rw [if_neg h_11]); (first | rw [if_pos h_27] | rw [if_neg h_27]); all_goals rfl
        exact n_iret C hRt rfl dX10_move_46 (by rw [hS] <;> rfl) (by rw [hS]; exact ⟨_, rfl, (eqM.rf M).tr (eqM.fnd _ (show (2 : Nat) ≠ 0 by decide))⟩)
      · skip
        refine v_aload_n C 0 dX10_move_30 rfl ?_
        refine g_X10_50 C (by decide) sh_205 dX10_move_31 ?_
        refine v_iload_n C 3 dX10_move_34 rfl ?_
        refine v_iald C (by decide) sh_217 (by omega) (by decide) dX10_move_35 ?_
        refine v_top (M 217 o) (congrFun (upA_ne M Y (by decide)) _) ?_
        refine v_if_ne C 47 dX10_move_36 rfl (fun h_36 => ?_) (fun h_36 => ?_)
        · skip
          refine v_aload_n C 0 dX10_move_47 rfl ?_
          refine g_X10_50 C (by decide) sh_205 dX10_move_48 ?_
          refine v_iload_n C 1 dX10_move_51 rfl ?_
          refine v_iald C (by decide) sh_217 (by omega) (by decide) dX10_move_52 ?_
          refine v_top (M 217 s) (congrFun (upA_ne M Y (by decide)) _) ?_
          refine v_aload_n C 0 dX10_move_53 rfl ?_
          refine g_X10_50 C (by decide) sh_205 dX10_move_54 ?_
          refine v_iload_n C 3 dX10_move_57 rfl ?_
          refine v_iald C (by decide) sh_217 (by omega) (by decide) dX10_move_58 ?_
          refine v_top (M 217 o) (congrFun (upA_ne M Y (by decide)) _) ?_
          refine v_icmp_eq C 69 dX10_move_59 rfl (fun h_59 => ?_) (fun h_59 => ?_)
          · skip
            refine v_iload C 5 dX10_move_69 rfl ?_
            refine v_if_lt C 118 dX10_move_71 rfl (fun h_71 => ?_) (fun h_71 => ?_)
            · skip
              refine v_aload_n C 0 dX10_move_118 rfl ?_
              refine v_ldc C (-1000001) kc_X10_80 dX10_move_119 ?_
              refine n_callVi C hRm [.int (-1000001)] cw_X10_finding ml_X10_81 (by decide) sh_205 (by decide) rfl (r_finding l G (upA M 206 Y) 1 (by decide) (-1000001) (by decide)) (by decide) rfl rfl (Nat.le_of_ble_eq_true rfl) dX10_move_121 (fun M5 hP_121 => ?_)
              subst hP_121
              refine v_mem (upA (fndM M 1) 206 Y) (fnd_upA _ _ _) ?_
              have hS : moveS M (nI s) i (nI o) j n = e4 1 M := by unfold moveS; (try rw [toN (show s < 2 ^ 31 by omega)]); (try rw [toN (show o < 2 ^ 31 by omega)]); (first | rw [if_pos h_4] | rw [if_neg h_4]); (first | rw [if_pos h_11] | rw [if_neg h_11]); (first | rw [if_pos h_27] | rw [if_neg h_27]); (first | rw [if_pos h_36] | rw [if_neg h_36]); (first | rw [if_pos h_59] | rw [if_neg h_59]); (first | rw [if_pos h_71] | rw [if_neg h_71]); all_goals rfl
              exact n_iret C hRt rfl dX10_move_124 (by rw [hS] <;> rfl) (by rw [hS]; exact ⟨_, rfl, (eqM.rf M).tr (eqM.fnd _ (show (1 : Nat) ≠ 0 by decide))⟩)
            · skip
              obtain ⟨c, hc, rfl⟩ := nI_of h_71
              refine v_iload_n C 2 dX10_move_74 rfl ?_
              refine v_if_lt C 118 dX10_move_75 rfl (fun h_75 => ?_) (fun h_75 => ?_)
              · skip
                refine v_aload_n C 0 dX10_move_118 rfl ?_
                refine v_ldc C (-1000001) kc_X10_80 dX10_move_119 ?_
                refine n_callVi C hRm [.int (-1000001)] cw_X10_finding ml_X10_81 (by decide) sh_205 (by decide) rfl (r_finding l G (upA M 206 Y) 1 (by decide) (-1000001) (by decide)) (by decide) rfl rfl (Nat.le_of_ble_eq_true rfl) dX10_move_121 (fun M5 hP_121 => ?_)
                subst hP_121
                refine v_mem (upA (fndM M 1) 206 Y) (fnd_upA _ _ _) ?_
                have hS : moveS M (nI s) i (nI o) j (nI c) = e4 1 M := by unfold moveS; (try rw [toN (show s < 2 ^ 31 by omega)]); (try rw [toN (show o < 2 ^ 31 by omega)]); (try rw [toN (show c < 2 ^ 31 by omega)]); (first | rw [if_pos h_4] | rw [if_neg h_4]); (first | rw [if_pos h_11] | rw [if_neg h_11]); (first | rw [if_pos h_27] | rw [if_neg h_27]); (first | rw [if_pos h_36] | rw [if_neg h_36]); (first | rw [if_pos h_59] | rw [if_neg h_59]); (first | rw [if_pos h_71] | rw [if_neg h_71]); (first | rw [if_pos h_75] | rw [if_neg h_75]); all_goals rfl
                exact n_iret C hRt rfl dX10_move_124 (by rw [hS] <;> rfl) (by rw [hS]; exact ⟨_, rfl, (eqM.rf M).tr (eqM.fnd _ (show (1 : Nat) ≠ 0 by decide))⟩)
              · skip
                obtain ⟨a, ha, rfl⟩ := nI_of h_75
                refine v_iload C 4 dX10_move_78 rfl ?_
                refine v_if_lt C 118 dX10_move_80 rfl (fun h_80 => ?_) (fun h_80 => ?_)
                · skip
                  refine v_aload_n C 0 dX10_move_118 rfl ?_
                  refine v_ldc C (-1000001) kc_X10_80 dX10_move_119 ?_
                  refine n_callVi C hRm [.int (-1000001)] cw_X10_finding ml_X10_81 (by decide) sh_205 (by decide) rfl (r_finding l G (upA M 206 Y) 1 (by decide) (-1000001) (by decide)) (by decide) rfl rfl (Nat.le_of_ble_eq_true rfl) dX10_move_121 (fun M5 hP_121 => ?_)
                  subst hP_121
                  refine v_mem (upA (fndM M 1) 206 Y) (fnd_upA _ _ _) ?_
                  have hS : moveS M (nI s) (nI a) (nI o) j (nI c) = e4 1 M := by unfold moveS; (try rw [toN (show s < 2 ^ 31 by omega)]); (try rw [toN (show o < 2 ^ 31 by omega)]); (try rw [toN (show a < 2 ^ 31 by omega)]); (try rw [toN (show c < 2 ^ 31 by omega)]); (first | rw [if_pos h_4] | rw [if_neg h_4]); (first | rw [if_pos h_11] | rw [if_neg h_11]); (first | rw [if_pos h_27] | rw [if_neg h_27]); (first | rw [if_pos h_36] | rw [if_neg h_36]); (first | rw [if_pos h_59] | rw [if_neg h_59]); (first | rw [if_pos h_71] | rw [if_neg h_71]); (first | rw [if_pos h_75] | rw [if_neg h_75]); (first | rw [if_pos h_80] | rw [if_neg h_80]); all_goals rfl
                  exact n_iret C hRt rfl dX10_move_124 (by rw [hS] <;> rfl) (by rw [hS]; exact ⟨_, rfl, (eqM.rf M).tr (eqM.fnd _ (show (1 : Nat) ≠ 0 by decide))⟩)
                · skip
                  obtain ⟨b, hb, rfl⟩ := nI_of h_80
                  refine v_iload_n C 2 dX10_move_83 rfl ?_
                  refine v_i2l C dX10_move_84 ?_
                  refine v_iload C 5 dX10_move_85 rfl ?_
                  refine v_i2l C dX10_move_87 ?_
                  refine v_ladd C dX10_move_88 ?_
                  refine v_aload_n C 0 dX10_move_89 rfl ?_
                  refine g_X10_53 C (by decide) sh_205 dX10_move_90 ?_
                  refine v_iload_n C 1 dX10_move_93 rfl ?_
                  refine v_iald C (by decide) sh_218 (by omega) (by decide) dX10_move_94 ?_
                  refine v_top (M 218 s) (congrFun (upA_ne M Y (by decide)) _) ?_
                  refine v_i2l C dX10_move_95 ?_
                  refine v_lcmp C dX10_move_96 ?_
                  refine v_top (lg_cmp (lN (a + c)) (lN z)) (by rw [nI_l (by omega), nI_l (by omega), lN_add, hz2, nI_l (by omega)]) ?_
                  refine v_if_gt C 118 dX10_move_97 rfl (fun h_97 => ?_) (fun h_97 => ?_)
                  · skip
                    have hq1 : ¬ a + c ≤ z := by have := (lN_ltB (by omega) (by omega)).mp ((lg_cmp_gt _ _).mp h_97); omega
                    refine v_aload_n C 0 dX10_move_118 rfl ?_
                    refine v_ldc C (-1000001) kc_X10_80 dX10_move_119 ?_
                    refine n_callVi C hRm [.int (-1000001)] cw_X10_finding ml_X10_81 (by decide) sh_205 (by decide) rfl (r_finding l G (upA M 206 Y) 1 (by decide) (-1000001) (by decide)) (by decide) rfl rfl (Nat.le_of_ble_eq_true rfl) dX10_move_121 (fun M5 hP_121 => ?_)
                    subst hP_121
                    refine v_mem (upA (fndM M 1) 206 Y) (fnd_upA _ _ _) ?_
                    have hS : moveS M (nI s) (nI a) (nI o) (nI b) (nI c) = e4 1 M := by unfold moveS; (try rw [toN (show s < 2 ^ 31 by omega)]); (try rw [toN (show o < 2 ^ 31 by omega)]); (try rw [toN (show a < 2 ^ 31 by omega)]); (try rw [toN (show b < 2 ^ 31 by omega)]); (try rw [toN (show c < 2 ^ 31 by omega)]); (first | rw [if_pos h_4] | rw [if_neg h_4]); (first | rw [if_pos h_11] | rw [if_neg h_11]); (first | rw [if_pos h_27] | rw [if_neg h_27]); (first | rw [if_pos h_36] | rw [if_neg h_36]); (first | rw [if_pos h_59] | rw [if_neg h_59]); (first | rw [if_pos h_71] | rw [if_neg h_71]); (first | rw [if_pos h_75] | rw [if_neg h_75]); (first | rw [if_pos h_80] | rw [if_neg h_80]); rw [hz3]; (first | rw [if_pos hq1] | rw [if_neg hq1]); all_goals rfl
                    exact n_iret C hRt rfl dX10_move_124 (by rw [hS] <;> rfl) (by rw [hS]; exact ⟨_, rfl, (eqM.rf M).tr (eqM.fnd _ (show (1 : Nat) ≠ 0 by decide))⟩)
                  · skip
                    have hq1 : a + c ≤ z := Nat.not_lt.mp (fun q => h_97 ((lg_cmp_gt _ _).mpr ((lN_ltB (a := z) (b := a + c) (by omega) (by omega)).mpr q)))
                    refine v_iload C 4 dX10_move_100 rfl ?_
                    refine v_i2l C dX10_move_102 ?_
                    refine v_iload C 5 dX10_move_103 rfl ?_
                    refine v_i2l C dX10_move_105 ?_
                    refine v_ladd C dX10_move_106 ?_
                    refine v_aload_n C 0 dX10_move_107 rfl ?_
                    refine g_X10_53 C (by decide) sh_205 dX10_move_108 ?_
                    refine v_iload_n C 3 dX10_move_111 rfl ?_
                    refine v_iald C (by decide) sh_218 (by omega) (by decide) dX10_move_112 ?_
                    refine v_top (M 218 o) (congrFun (upA_ne M Y (by decide)) _) ?_
                    refine v_i2l C dX10_move_113 ?_
                    refine v_lcmp C dX10_move_114 ?_
                    refine v_top (lg_cmp (lN (b + c)) (lN y)) (by rw [nI_l (by omega), nI_l (by omega), lN_add, hy2, nI_l (by omega)]) ?_
                    refine v_if_le C 125 dX10_move_115 rfl (fun h_115 => ?_) (fun h_115 => ?_)
                    · skip
                      have hq2 : b + c ≤ y := (lN_leB (by omega) (by omega)).mp ((lg_cmp_le _ _).mp h_115)
                      refine v_iconst C (nI 0) dX10_move_125 (by decide) ?_
                      refine v_istore C [(6, .int (nI 0)), (0, .ref (gb G + 205)), (1, .int (nI s)), (2, .int (nI a)), (3, .int (nI o)), (4, .int (nI b)), (5, .int (nI c))] dX10_move_126 (by decide) rfl ?_
                      have L2 : ∀ (kq : Nat) (k : Nat) (X : Mm), c - k = kq → k ≤ c → (∀ d, d ≠ 206 → d ≠ 219 → d ≠ 220 → X d = M d) → (∀ q, q < c → X 220 q = M 219 (24 * s + a + q)) → X 219 = mvF M s a o b k → Vc f G NPh (upA X 206 Y) 165 [(6, .int (nI k)), (0, .ref (gb G + 205)), (1, .int (nI s)), (2, .int (nI a)), (3, .int (nI o)), (4, .int (nI b)), (5, .int (nI c))] [] := by
                        intro kq
                        induction kq using Nat.strongRecOn with
                        | _ kq ihL2 =>
                          intro k X hkq hk hA h20 h19
                          refine v_iload C 0 dX10_move_165 rfl ?_
                          refine v_iload C 6 dX10_move_167 rfl ?_
                          refine n_icmp_ge C (by omega) (by omega) 200 dX10_move_169 rfl (fun h_169 => ?_) (fun h_169 => ?_)
                          · skip
                            refine v_iload C 6 dX10_move_200 rfl ?_
                            have hfin : eqM 0 (upA M 219 (mvF M s a o b c)) X := ⟨fun d h1 h2 h3 h4 h5 h6 h7 h8 h9 h10 => by
                              by_cases hd : d = 219
                              · subst hd; rw [upA_eq, h19, show k = c by omega]
                              · rw [upA_ne _ _ hd]; exact hA d h2 hd h10,
                              by rw [hA 205 (by decide) (by decide) (by decide), upA_ne _ _ (by decide)], by rw [hA 205 (by decide) (by decide) (by decide), upA_ne _ _ (by decide)], by rw [hA 209 (by decide) (by decide) (by decide), upA_ne _ _ (by decide)]; rfl⟩
                            have hS : moveS M (nI s) (nI a) (nI o) (nI b) (nI c) = (0, nI c, upA M 219 (mvF M s a o b c)) := by unfold moveS; (try rw [toN (show s < 2 ^ 31 by omega)]); (try rw [toN (show o < 2 ^ 31 by omega)]); (try rw [toN (show a < 2 ^ 31 by omega)]); (try rw [toN (show b < 2 ^ 31 by omega)]); (try rw [toN (show c < 2 ^ 31 by omega)]); (first | rw [if_pos h_4] | rw [if_neg h_4]); (first | rw [if_pos h_11] | rw [if_neg h_11]); (first | rw [if_pos h_27] | rw [if_neg h_27]); (first | rw [if_pos h_36] | rw [if_neg h_36]); (first | rw [if_pos h_59] | rw [if_neg h_59]); (first | rw [if_pos h_71] | rw [if_neg h_71]); (first | rw [if_pos h_75] | rw [if_neg h_75]); (first | rw [if_pos h_80] | rw [if_neg h_80]); rw [hz3]; (first | rw [if_pos hq1] | rw [if_neg hq1]); rw [hy3]; (first | rw [if_pos hq2] | rw [if_neg hq2]); all_goals rfl
                            exact n_iret C hRt rfl dX10_move_202 (by rw [hS] <;> rfl) (by rw [hS]; exact ⟨_, rfl, hfin⟩)
                          · skip
                            refine v_aload_n C 1 dX10_move_172 rfl ?_
                            refine g_X10_56 C (by decide) sh_205 dX10_move_173 ?_
                            refine v_bipush C (nI 24) dX10_move_176 (by decide) ?_
                            refine v_iload_n C 4 dX10_move_178 rfl ?_
                            refine n_imul C dX10_move_179 ?_
                            refine v_iload C 5 dX10_move_180 rfl ?_
                            refine n_iadd C dX10_move_182 ?_
                            refine v_iload C 0 dX10_move_183 rfl ?_
                            refine n_iadd C dX10_move_185 ?_
                            refine v_aload_n C 1 dX10_move_186 rfl ?_
                            refine g_X10_59 C (by decide) sh_205 dX10_move_187 ?_
                            refine v_iload C 0 dX10_move_190 rfl ?_
                            refine v_iald C (by decide) sh_220 (by omega) (by decide) dX10_move_192 ?_
                            refine v_top (X 220 k) (congrFun (upA_ne X Y (by decide)) _) ?_
                            refine v_iast C (by decide) sh_219 (by omega) (by decide) dX10_move_193 ?_
                            refine v_mem (upA (up2 X 219 (((24 * o) + b) + k) (X 220 k)) 206 Y) (up2_upA_ne _ _ _ _ (by decide)) ?_
                            refine v_iinc C (nI (k + 1)) 0 [(6, .int (nI (k + 1))), (0, .ref (gb G + 205)), (1, .int (nI s)), (2, .int (nI a)), (3, .int (nI o)), (4, .int (nI b)), (5, .int (nI c))] dX10_move_194 rfl (nI_add _ _) (by decide) rfl ?_
                            refine v_goto C 165 dX10_move_197 rfl ?_
                            refine v_sub [0, 1, 2, 3, 4, 5, 6] [(6, .int (nI (k + 1))), (0, .ref (gb G + 205)), (1, .int (nI s)), (2, .int (nI a)), (3, .int (nI o)), (4, .int (nI b)), (5, .int (nI c))] rfl ?_
                            exact ihL2 _ (by omega) (k + 1) (up2 X 219 (((24 * o) + b) + k) (X 220 k))  rfl (by omega) (by exact fun d h1 h2 h3 => (up2_ne _ _ _ h2).trans (hA d h1 h2 h3)) (by exact fun q hq => (congrFun (up2_ne _ _ _ (by decide)) q).trans (h20 q hq)) (by rw [up2_eq, h20 k (by omega), h19, mvF_succ])
                      have L1 : ∀ (kq : Nat) (k : Nat) (X : Mm), c - k = kq → k ≤ c → (∀ d, d ≠ 206 → d ≠ 220 → X d = M d) → (∀ q, q < k → X 220 q = M 219 (24 * s + a + q)) → Vc f G NPh (upA X 206 Y) 128 [(6, .int (nI k)), (0, .ref (gb G + 205)), (1, .int (nI s)), (2, .int (nI a)), (3, .int (nI o)), (4, .int (nI b)), (5, .int (nI c))] [] := by
                        intro kq
                        induction kq using Nat.strongRecOn with
                        | _ kq ihL1 =>
                          intro k X hkq hk hX hcr
                          refine v_iload C 0 dX10_move_128 rfl ?_
                          refine v_iload C 6 dX10_move_130 rfl ?_
                          refine n_icmp_ge C (by omega) (by omega) 162 dX10_move_132 rfl (fun h_132 => ?_) (fun h_132 => ?_)
                          · skip
                            refine v_iconst C (nI 0) dX10_move_162 (by decide) ?_
                            refine v_istore C [(6, .int (nI 0)), (0, .ref (gb G + 205)), (1, .int (nI s)), (2, .int (nI a)), (3, .int (nI o)), (4, .int (nI b)), (5, .int (nI c))] dX10_move_163 (by decide) rfl ?_
                            refine v_sub [0, 1, 2, 3, 4, 5, 6] [(6, .int (nI 0)), (0, .ref (gb G + 205)), (1, .int (nI s)), (2, .int (nI a)), (3, .int (nI o)), (4, .int (nI b)), (5, .int (nI c))] rfl ?_
                            exact L2 _ 0 X  rfl (by omega) (by exact fun d h1 h2 h3 => hX d h1 h3) (by exact fun q hq => hcr q (by omega)) (by rw [mvF_0]; exact hX 219 (by decide) (by decide))
                          · skip
                            refine v_aload_n C 1 dX10_move_135 rfl ?_
                            refine g_X10_59 C (by decide) sh_205 dX10_move_136 ?_
                            refine v_iload C 0 dX10_move_139 rfl ?_
                            refine v_aload_n C 1 dX10_move_141 rfl ?_
                            refine g_X10_56 C (by decide) sh_205 dX10_move_142 ?_
                            refine v_bipush C (nI 24) dX10_move_145 (by decide) ?_
                            refine v_iload_n C 2 dX10_move_147 rfl ?_
                            refine n_imul C dX10_move_148 ?_
                            refine v_iload_n C 3 dX10_move_149 rfl ?_
                            refine n_iadd C dX10_move_150 ?_
                            refine v_iload C 0 dX10_move_151 rfl ?_
                            refine n_iadd C dX10_move_153 ?_
                            refine v_iald C (by decide) sh_219 (by omega) (by decide) dX10_move_154 ?_
                            refine v_top (X 219 (((24 * s) + a) + k)) (congrFun (upA_ne X Y (by decide)) _) ?_
                            refine v_iast C (by decide) sh_220 (by omega) (by decide) dX10_move_155 ?_
                            refine v_mem (upA (up2 X 220 k (X 219 (((24 * s) + a) + k))) 206 Y) (up2_upA_ne _ _ _ _ (by decide)) ?_
                            refine v_iinc C (nI (k + 1)) 0 [(6, .int (nI (k + 1))), (0, .ref (gb G + 205)), (1, .int (nI s)), (2, .int (nI a)), (3, .int (nI o)), (4, .int (nI b)), (5, .int (nI c))] dX10_move_156 rfl (nI_add _ _) (by decide) rfl ?_
                            refine v_goto C 128 dX10_move_159 rfl ?_
                            refine v_sub [0, 1, 2, 3, 4, 5, 6] [(6, .int (nI (k + 1))), (0, .ref (gb G + 205)), (1, .int (nI s)), (2, .int (nI a)), (3, .int (nI o)), (4, .int (nI b)), (5, .int (nI c))] rfl ?_
                            exact ihL1 _ (by omega) (k + 1) (up2 X 220 k (X 219 (((24 * s) + a) + k)))  rfl (by omega) (by exact fun d h1 h2 => (up2_ne _ _ _ h2).trans (hX d h1 h2)) (by intro q hq; by_cases h9 : q = k; (subst h9; rw [up2_at]; exact congrFun (hX 219 (by decide) (by decide)) _); exact (up2_at_ne _ _ h9).trans (hcr q (by omega)))
                      refine v_sub [0, 1, 2, 3, 4, 5, 6] [(6, .int (nI 0)), (0, .ref (gb G + 205)), (1, .int (nI s)), (2, .int (nI a)), (3, .int (nI o)), (4, .int (nI b)), (5, .int (nI c))] rfl ?_
                      exact L1 _ 0 M  rfl (by omega) (by exact fun d _ _ => rfl) (by exact fun q hq => absurd hq (Nat.not_lt_zero _))
                    · skip
                      have hq2 : ¬ b + c ≤ y := fun q => h_115 ((lg_cmp_le _ _).mpr ((lN_leB (by omega) (by omega)).mpr q))
                      refine v_aload_n C 0 dX10_move_118 rfl ?_
                      refine v_ldc C (-1000001) kc_X10_80 dX10_move_119 ?_
                      refine n_callVi C hRm [.int (-1000001)] cw_X10_finding ml_X10_81 (by decide) sh_205 (by decide) rfl (r_finding l G (upA M 206 Y) 1 (by decide) (-1000001) (by decide)) (by decide) rfl rfl (Nat.le_of_ble_eq_true rfl) dX10_move_121 (fun M5 hP_121 => ?_)
                      subst hP_121
                      refine v_mem (upA (fndM M 1) 206 Y) (fnd_upA _ _ _) ?_
                      have hS : moveS M (nI s) (nI a) (nI o) (nI b) (nI c) = e4 1 M := by unfold moveS; (try rw [toN (show s < 2 ^ 31 by omega)]); (try rw [toN (show o < 2 ^ 31 by omega)]); (try rw [toN (show a < 2 ^ 31 by omega)]); (try rw [toN (show b < 2 ^ 31 by omega)]); (try rw [toN (show c < 2 ^ 31 by omega)]); (first | rw [if_pos h_4] | rw [if_neg h_4]); (first | rw [if_pos h_11] | rw [if_neg h_11]); (first | rw [if_pos h_27] | rw [if_neg h_27]); (first | rw [if_pos h_36] | rw [if_neg h_36]); (first | rw [if_pos h_59] | rw [if_neg h_59]); (first | rw [if_pos h_71] | rw [if_neg h_71]); (first | rw [if_pos h_75] | rw [if_neg h_75]); (first | rw [if_pos h_80] | rw [if_neg h_80]); rw [hz3]; (first | rw [if_pos hq1] | rw [if_neg hq1]); rw [hy3]; (first | rw [if_pos hq2] | rw [if_neg hq2]); all_goals rfl
                      exact n_iret C hRt rfl dX10_move_124 (by rw [hS] <;> rfl) (by rw [hS]; exact ⟨_, rfl, (eqM.rf M).tr (eqM.fnd _ (show (1 : Nat) ≠ 0 by decide))⟩)
          · skip
            refine v_aload_n C 0 dX10_move_62 rfl ?_
            refine v_ldc C (-1000005) kc_X10_105 dX10_move_63 ?_
            refine n_callVi C hRm [.int (-1000005)] cw_X10_finding ml_X10_81 (by decide) sh_205 (by decide) rfl (r_finding l G (upA M 206 Y) 5 (by decide) (-1000005) (by decide)) (by decide) rfl rfl (Nat.le_of_ble_eq_true rfl) dX10_move_65 (fun M5 hP_65 => ?_)
            subst hP_65
            refine v_mem (upA (fndM M 5) 206 Y) (fnd_upA _ _ _) ?_
            have hS : moveS M (nI s) i (nI o) j n = e4 5 M := by unfold moveS; (try rw [toN (show s < 2 ^ 31 by omega)]); (try rw [toN (show o < 2 ^ 31 by omega)]); (first | rw [if_pos h_4] | rw [if_neg h_4]); (first | rw [if_pos h_11] | rw [if_neg h_11]); (first | rw [if_pos h_27] | rw [if_neg h_27]); (first | rw [if_pos h_36] | rw [if_neg h_36]); (first | rw [if_pos h_59] | rw [if_neg h_59]); all_goals rfl
            exact n_iret C hRt rfl dX10_move_68 (by rw [hS] <;> rfl) (by rw [hS]; exact ⟨_, rfl, (eqM.rf M).tr (eqM.fnd _ (show (5 : Nat) ≠ 0 by decide))⟩)
        · skip
          refine v_aload_n C 0 dX10_move_39 rfl ?_
          refine v_ldcw C (-1000002) kc_X10_276 dX10_move_40 ?_
          refine n_callVi C hRm [.int (-1000002)] cw_X10_finding ml_X10_81 (by decide) sh_205 (by decide) rfl (r_finding l G (upA M 206 Y) 2 (by decide) (-1000002) (by decide)) (by decide) rfl rfl (Nat.le_of_ble_eq_true rfl) dX10_move_43 (fun M5 hP_43 => ?_)
          subst hP_43
          refine v_mem (upA (fndM M 2) 206 Y) (fnd_upA _ _ _) ?_
          have hS : moveS M (nI s) i (nI o) j n = e4 2 M := by unfold moveS; (try rw [toN (show s < 2 ^ 31 by omega)]); (try rw [toN (show o < 2 ^ 31 by omega)]); (first | rw [if_pos h_4] | rw [if_neg h_4]); (first | rw [if_pos h_11] | rw [if_neg h_11]); (first | rw [if_pos h_27] | rw [if_neg h_27]); (first | rw [if_pos h_36] | rw [if_neg h_36]); all_goals rfl
          exact n_iret C hRt rfl dX10_move_46 (by rw [hS] <;> rfl) (by rw [hS]; exact ⟨_, rfl, (eqM.rf M).tr (eqM.fnd _ (show (2 : Nat) ≠ 0 by decide))⟩)
    · skip
      refine v_aload_n C 0 dX10_move_14 rfl ?_
      refine v_ldc C (-1000001) kc_X10_80 dX10_move_15 ?_
      refine n_callVi C hRm [.int (-1000001)] cw_X10_finding ml_X10_81 (by decide) sh_205 (by decide) rfl (r_finding l G (upA M 206 Y) 1 (by decide) (-1000001) (by decide)) (by decide) rfl rfl (Nat.le_of_ble_eq_true rfl) dX10_move_17 (fun M5 hP_17 => ?_)
      subst hP_17
      refine v_mem (upA (fndM M 1) 206 Y) (fnd_upA _ _ _) ?_
      have hS : moveS M (nI s) i other j n = e4 1 M := by unfold moveS; (try rw [toN (show s < 2 ^ 31 by omega)]); (first | rw [if_pos h_4] | rw [if_neg h_4]); (first | rw [if_pos h_11] | rw [if_neg h_11]); all_goals rfl
      exact n_iret C hRt rfl dX10_move_20 (by rw [hS] <;> rfl) (by rw [hS]; exact ⟨_, rfl, (eqM.rf M).tr (eqM.fnd _ (show (1 : Nat) ≠ 0 by decide))⟩)
def slpG (M : Mm) (s c n z : Nat) : Nat → Nat → (Nat → Int32) → Nat × (Nat → Int32)
  | 0, q, Z => (q, Z)
  | k + 1, q, Z => if q < z ∧ (q = c ∨ nI 0 ≤ M 219 (24 * s + q) ∧ M 219 (24 * s + q) ≤ nI 99) then slpG M s c n z k (q + 1) (upd Z (67 + 10 * c + q) (if q = c then nI 0 else M 219 (24 * s + q))) else (q, Z)
def slipsS (Y : Nat → Int32) (M : Mm) (n : Nat) (sheet child : Int32) : O3 := if nI 0 ≤ sheet ∧ sheet ≤ nI 3 then (if nI 0 ≤ child ∧ child ≤ Y 0 - nI 1 then (if M 217 sheet.toNatClampNeg = 0 then er 2 Y else (0, nI (slpG M sheet.toNatClampNeg child.toNatClampNeg n (zS M sheet.toNatClampNeg) n 0 Y).1, (slpG M sheet.toNatClampNeg child.toNatClampNeg n (zS M sheet.toNatClampNeg) n 0 Y).2)) else er 1 Y) else er 1 Y
set_option maxHeartbeats 4000000 in
set_option maxRecDepth 100000 in
theorem r_slips (l : Launch) (G : GC) (M : Mm) (Y : Nat → Int32) (n hN : Nat) (hY : YOk Y n hN) (hsh : shOk M) (sheet child : Int32) : CI l G 3 yX10_slips cX10_slips 4 .int [.ref (gb G + 205), .int sheet, .int child] (upA M 206 Y) ((slipsS Y M n sheet child).2.1) (PubR M (slipsS Y M n sheet child).2.2 (slipsS Y M n sheet child).1) := by
  refine Con.of (by decide +kernel) (Nat.le_of_ble_eq_true rfl) ?_
  intro f C hRm hRt _
  have h10 := hY.1.2.1
  show Vc f G NPh (upA M 206 Y) 0 [(0, .ref (gb G + 205)), (1, .int sheet), (2, .int child)] []
  refine v_iload_n C 1 dX10_slips_0 rfl ?_
  refine n_callSp C hRm [.int sheet] cw_X10_isSheet st_X10_isSheet ml_X10_305 (r_isSheet l G (upA M 206 Y) sheet) (by decide) rfl rfl (Nat.le_of_ble_eq_true rfl) dX10_slips_1 ?_
  refine nb_if_eq C 16 dX10_slips_4 rfl (fun h_4 => ?_) (fun h_4 => ?_)
  · skip
    refine v_aload_n C 0 dX10_slips_16 rfl ?_
    refine v_ldc C (-1000001) kc_X10_80 dX10_slips_17 ?_
    refine n_callVi C hRm [.int (-1000001)] cw_X10_finding ml_X10_81 (by decide) sh_205 (by decide) rfl (r_finding l G (upA M 206 Y) 1 (by decide) (-1000001) (by decide)) (by decide) rfl rfl (Nat.le_of_ble_eq_true rfl) dX10_slips_19 (fun M5 hP_19 => ?_)
    subst hP_19
    refine v_mem (upA (fndM M 1) 206 Y) (fnd_upA _ _ _) ?_
    have hS : slipsS Y M n sheet child = er 1 Y := by unfold slipsS; (try rw [toN (show s < 2 ^ 31 by omega)]); (try rw [toN (show c < 2 ^ 31 by omega)]); (first | rw [if_pos h_4] | rw [if_neg h_4] | rw [if_pos (congrArg nI h_4)] | rw [if_neg (fun q9 => h_4 ((nI_eq (by omega) (by omega)).mp q9))] | rw [if_neg (Nat.not_le.mpr h_4)] | rw [if_neg (Nat.not_lt.mpr h_4)] | skip); all_goals rfl
    exact n_iret C hRt rfl dX10_slips_22 (by rw [hS] <;> rfl) (by rw [hS]; exact ⟨_, rfl, (eqM.rf M).tr (eqM.fnd _ (show (1 : Nat) ≠ 0 by decide))⟩)
  · skip
    obtain ⟨s, hs, rfl⟩ := within_nat (by decide) h_4
    obtain ⟨z, hz, hz2⟩ := hsh s (by omega)
    have hz3 : zS M s = z := cN_of hz2 (by omega)
    refine v_aload_n C 0 dX10_slips_7 rfl ?_
    refine v_iload_n C 2 dX10_slips_8 rfl ?_
    refine v_iconst C (nI 0) dX10_slips_9 (by decide) ?_
    refine n_callVp C hRm [.int child, .int (nI 0)] cw_X10_is ml_X10_95 (by decide) sh_205 (by decide) rfl (r_is l G M Y child 0 (by decide)) (by decide) rfl rfl (Nat.le_of_ble_eq_true rfl) dX10_slips_10 ?_
    refine nb_if_ne C 23 dX10_slips_13 rfl (fun h_13 => ?_) (fun h_13 => ?_)
    · skip
      obtain ⟨c, hc, rfl⟩ := is_nat hY.1.1 hY.1.2.1 h_13
      refine v_aload_n C 0 dX10_slips_23 rfl ?_
      refine g_X10_50 C (by decide) sh_205 dX10_slips_24 ?_
      refine v_iload_n C 1 dX10_slips_27 rfl ?_
      refine v_iald C (by decide) sh_217 (by omega) (by decide) dX10_slips_28 ?_
      refine v_top (M 217 s) (congrFun (upA_ne M Y (by decide)) _) ?_
      refine v_if_ne C 40 dX10_slips_29 rfl (fun h_29 => ?_) (fun h_29 => ?_)
      · skip
        refine v_iconst C (nI 0) dX10_slips_40 (by decide) ?_
        refine v_istore_n C [(3, .int (nI 0)), (0, .ref (gb G + 205)), (1, .int (nI s)), (2, .int (nI c))] dX10_slips_41 rfl (by decide) rfl ?_
        have LS : ∀ (kq : Nat) (q : Nat) (Z : Nat → Int32), n - q = kq → q ≤ n → Z 0 = nI n → slpG M s c n z (n - q) q Z = slpG M s c n z n 0 Y → Vc f G NPh (upA M 206 Z) 42 [(3, .int (nI q)), (0, .ref (gb G + 205)), (1, .int (nI s)), (2, .int (nI c))] [] := by
          intro kq
          induction kq using Nat.strongRecOn with
          | _ kq ihLS =>
            intro q Z hkq hq hZ0 hg
            refine v_iload_n C 0 dX10_slips_42 rfl ?_
            refine v_aload_n C 1 dX10_slips_43 rfl ?_
            refine g_X10_53 C (by decide) sh_205 dX10_slips_44 ?_
            refine v_iload_n C 2 dX10_slips_47 rfl ?_
            refine v_iald C (by decide) sh_218 (by omega) (by decide) dX10_slips_48 ?_
            refine v_top (M 218 s) (congrFun (upA_ne M Z (by decide)) _) ?_
            refine v_top (nI z) hz2 ?_
            refine n_icmp_ge C (by omega) (by omega) 127 dX10_slips_49 rfl (fun h_49 => ?_) (fun h_49 => ?_)
            · skip
              refine v_iload_n C 0 dX10_slips_127 rfl ?_
              have hz9 : slpG M s c n z n 0 Y = (q, Z) := by rw [← hg]; rcases Nat.eq_zero_or_pos (n - q) with h0 | h0; (rw [h0]; rfl); rw [show n - q = (n - q - 1) + 1 by omega]; simp only [slpG]; rw [if_neg (fun q9 => by have := q9.1; omega)]
              have hS : slipsS Y M n (nI s) (nI c) = (0, nI q, Z) := by unfold slipsS; rw [if_pos h_4, if_pos h_13, if_neg (by rw [toN (show s < 2 ^ 31 by omega)]; exact h_29), toN (show s < 2 ^ 31 by omega), toN (show c < 2 ^ 31 by omega), hz3, hz9]
              exact n_iret C hRt rfl dX10_slips_128 (by rw [hS]) (by rw [hS]; exact ⟨_, rfl, eqM.rf M⟩)
            · skip
              refine v_iload_n C 0 dX10_slips_52 rfl ?_
              refine v_aload_n C 1 dX10_slips_53 rfl ?_
              refine g_X10_9 C (by decide) sh_205 dX10_slips_54 ?_
              refine v_iconst C (nI 0) dX10_slips_57 (by decide) ?_
              refine n_now_ld C (by decide) sh_206 (by omega) (by decide) dX10_slips_58 ?_
              refine v_top (nI n) hZ0 ?_
              refine n_icmp_ge C (by omega) (by omega) 127 dX10_slips_59 rfl (fun h_59 => ?_) (fun h_59 => ?_)
              · skip
                refine v_iload_n C 0 dX10_slips_127 rfl ?_
                have hz9 : slpG M s c n z n 0 Y = (q, Z) := by rw [← hg, show n - q = 0 by omega]; rfl
                have hS : slipsS Y M n (nI s) (nI c) = (0, nI q, Z) := by unfold slipsS; rw [if_pos h_4, if_pos h_13, if_neg (by rw [toN (show s < 2 ^ 31 by omega)]; exact h_29), toN (show s < 2 ^ 31 by omega), toN (show c < 2 ^ 31 by omega), hz3, hz9]
                exact n_iret C hRt rfl dX10_slips_128 (by rw [hS]) (by rw [hS]; exact ⟨_, rfl, eqM.rf M⟩)
              · skip
                refine v_iload_n C 0 dX10_slips_62 rfl ?_
                refine v_iload_n C 3 dX10_slips_63 rfl ?_
                refine n_icmp_eq C (by omega) (by omega) 87 dX10_slips_64 rfl (fun h_64 => ?_) (fun h_64 => ?_)
                · skip
                  refine v_aload_n C 1 dX10_slips_87 rfl ?_
                  refine g_X10_9 C (by decide) sh_205 dX10_slips_88 ?_
                  refine v_bipush C (nI 67) dX10_slips_91 (by decide) ?_
                  refine v_bipush C (nI 10) dX10_slips_93 (by decide) ?_
                  refine v_iload_n C 3 dX10_slips_95 rfl ?_
                  refine n_imul C dX10_slips_96 ?_
                  refine n_iadd C dX10_slips_97 ?_
                  refine v_iload_n C 0 dX10_slips_98 rfl ?_
                  refine n_iadd C dX10_slips_99 ?_
                  refine v_iload_n C 0 dX10_slips_100 rfl ?_
                  refine v_iload_n C 3 dX10_slips_101 rfl ?_
                  refine n_icmp_ne C (by omega) (by omega) 109 dX10_slips_102 rfl (fun h_102 => ?_) (fun h_102 => ?_)
                  · skip
                    refine v_aload_n C 1 dX10_slips_109 rfl ?_
                    refine g_X10_56 C (by decide) sh_205 dX10_slips_110 ?_
                    refine v_bipush C (nI 24) dX10_slips_113 (by decide) ?_
                    refine v_iload_n C 2 dX10_slips_115 rfl ?_
                    refine n_imul C dX10_slips_116 ?_
                    refine v_iload_n C 0 dX10_slips_117 rfl ?_
                    refine n_iadd C dX10_slips_118 ?_
                    refine v_iald C (by decide) sh_219 (by omega) (by decide) dX10_slips_119 ?_
                    refine v_top (M 219 ((24 * s) + q)) (congrFun (upA_ne M Z (by decide)) _) ?_
                    refine n_now_st C (by decide) sh_206 (by omega) (by decide) dX10_slips_120 ?_
                    refine v_iinc C (nI (q + 1)) 0 [(3, .int (nI (q + 1))), (0, .ref (gb G + 205)), (1, .int (nI s)), (2, .int (nI c))] dX10_slips_121 rfl (nI_add _ _) (by decide) rfl ?_
                    refine v_goto C 42 dX10_slips_124 rfl ?_
                    refine v_sub [0, 1, 2, 3] [(3, .int (nI (q + 1))), (0, .ref (gb G + 205)), (1, .int (nI s)), (2, .int (nI c))] rfl ?_
                    exact ihLS _ (by omega) (q + 1) (upd Z ((67 + (10 * c)) + q) (M 219 ((24 * s) + q)))  rfl (by omega) (by rw [upd_ne _ _ (by omega)]; exact hZ0) (by rw [← hg, show n - q = (n - (q + 1)) + 1 by omega]; simp only [slpG]; first | (rw [if_pos (And.intro h_49 (Or.inl h_64))]; first | rw [if_pos h_102] | rw [if_neg h_102]) | (rw [if_pos (And.intro h_49 (Or.inr h_84))]; first | rw [if_pos h_102] | rw [if_neg h_102]))
                  · skip
                    refine v_iconst C (nI 0) dX10_slips_105 (by decide) ?_
                    refine v_goto C 120 dX10_slips_106 rfl ?_
                    refine n_now_st C (by decide) sh_206 (by omega) (by decide) dX10_slips_120 ?_
                    refine v_iinc C (nI (q + 1)) 0 [(3, .int (nI (q + 1))), (0, .ref (gb G + 205)), (1, .int (nI s)), (2, .int (nI c))] dX10_slips_121 rfl (nI_add _ _) (by decide) rfl ?_
                    refine v_goto C 42 dX10_slips_124 rfl ?_
                    refine v_sub [0, 1, 2, 3] [(3, .int (nI (q + 1))), (0, .ref (gb G + 205)), (1, .int (nI s)), (2, .int (nI c))] rfl ?_
                    exact ihLS _ (by omega) (q + 1) (upd Z ((67 + (10 * c)) + q) (nI 0))  rfl (by omega) (by rw [upd_ne _ _ (by omega)]; exact hZ0) (by rw [← hg, show n - q = (n - (q + 1)) + 1 by omega]; simp only [slpG]; first | (rw [if_pos (And.intro h_49 (Or.inl h_64))]; first | rw [if_pos h_102] | rw [if_neg h_102]) | (rw [if_pos (And.intro h_49 (Or.inr h_84))]; first | rw [if_pos h_102] | rw [if_neg h_102]))
                · skip
                  refine v_aload_n C 1 dX10_slips_67 rfl ?_
                  refine g_X10_56 C (by decide) sh_205 dX10_slips_68 ?_
                  refine v_bipush C (nI 24) dX10_slips_71 (by decide) ?_
                  refine v_iload_n C 2 dX10_slips_73 rfl ?_
                  refine n_imul C dX10_slips_74 ?_
                  refine v_iload_n C 0 dX10_slips_75 rfl ?_
                  refine n_iadd C dX10_slips_76 ?_
                  refine v_iald C (by decide) sh_219 (by omega) (by decide) dX10_slips_77 ?_
                  refine v_top (M 219 ((24 * s) + q)) (congrFun (upA_ne M Z (by decide)) _) ?_
                  refine v_iconst C (nI 0) dX10_slips_78 (by decide) ?_
                  refine v_bipush C (nI 99) dX10_slips_79 (by decide) ?_
                  refine n_callSp C hRm [.int (M 219 ((24 * s) + q)), .int (nI 0), .int (nI 99)] cw_X10_within st_X10_within ml_X10_72 (r_within l G (upA M 206 Z) (M 219 ((24 * s) + q)) (nI 0) (nI 99)) (by decide) rfl rfl (Nat.le_of_ble_eq_true rfl) dX10_slips_81 ?_
                  refine nb_if_eq C 127 dX10_slips_84 rfl (fun h_84 => ?_) (fun h_84 => ?_)
                  · skip
                    refine v_iload_n C 0 dX10_slips_127 rfl ?_
                    have hz9 : slpG M s c n z n 0 Y = (q, Z) := by rw [← hg, show n - q = (n - (q + 1)) + 1 by omega]; simp only [slpG]; rw [if_neg (fun q9 => by rcases q9.2 with q8 | q8; exact h_64 q8; exact h_84 q8)]
                    have hS : slipsS Y M n (nI s) (nI c) = (0, nI q, Z) := by unfold slipsS; rw [if_pos h_4, if_pos h_13, if_neg (by rw [toN (show s < 2 ^ 31 by omega)]; exact h_29), toN (show s < 2 ^ 31 by omega), toN (show c < 2 ^ 31 by omega), hz3, hz9]
                    exact n_iret C hRt rfl dX10_slips_128 (by rw [hS]) (by rw [hS]; exact ⟨_, rfl, eqM.rf M⟩)
                  · skip
                    refine v_aload_n C 1 dX10_slips_87 rfl ?_
                    refine g_X10_9 C (by decide) sh_205 dX10_slips_88 ?_
                    refine v_bipush C (nI 67) dX10_slips_91 (by decide) ?_
                    refine v_bipush C (nI 10) dX10_slips_93 (by decide) ?_
                    refine v_iload_n C 3 dX10_slips_95 rfl ?_
                    refine n_imul C dX10_slips_96 ?_
                    refine n_iadd C dX10_slips_97 ?_
                    refine v_iload_n C 0 dX10_slips_98 rfl ?_
                    refine n_iadd C dX10_slips_99 ?_
                    refine v_iload_n C 0 dX10_slips_100 rfl ?_
                    refine v_iload_n C 3 dX10_slips_101 rfl ?_
                    refine n_icmp_ne C (by omega) (by omega) 109 dX10_slips_102 rfl (fun h_102 => ?_) (fun h_102 => ?_)
                    · skip
                      refine v_aload_n C 1 dX10_slips_109 rfl ?_
                      refine g_X10_56 C (by decide) sh_205 dX10_slips_110 ?_
                      refine v_bipush C (nI 24) dX10_slips_113 (by decide) ?_
                      refine v_iload_n C 2 dX10_slips_115 rfl ?_
                      refine n_imul C dX10_slips_116 ?_
                      refine v_iload_n C 0 dX10_slips_117 rfl ?_
                      refine n_iadd C dX10_slips_118 ?_
                      refine v_iald C (by decide) sh_219 (by omega) (by decide) dX10_slips_119 ?_
                      refine v_top (M 219 ((24 * s) + q)) (congrFun (upA_ne M Z (by decide)) _) ?_
                      refine n_now_st C (by decide) sh_206 (by omega) (by decide) dX10_slips_120 ?_
                      refine v_iinc C (nI (q + 1)) 0 [(3, .int (nI (q + 1))), (0, .ref (gb G + 205)), (1, .int (nI s)), (2, .int (nI c))] dX10_slips_121 rfl (nI_add _ _) (by decide) rfl ?_
                      refine v_goto C 42 dX10_slips_124 rfl ?_
                      refine v_sub [0, 1, 2, 3] [(3, .int (nI (q + 1))), (0, .ref (gb G + 205)), (1, .int (nI s)), (2, .int (nI c))] rfl ?_
                      exact ihLS _ (by omega) (q + 1) (upd Z ((67 + (10 * c)) + q) (M 219 ((24 * s) + q)))  rfl (by omega) (by rw [upd_ne _ _ (by omega)]; exact hZ0) (by rw [← hg, show n - q = (n - (q + 1)) + 1 by omega]; simp only [slpG]; first | (rw [if_pos (And.intro h_49 (Or.inl h_64))]; first | rw [if_pos h_102] | rw [if_neg h_102]) | (rw [if_pos (And.intro h_49 (Or.inr h_84))]; first | rw [if_pos h_102] | rw [if_neg h_102]))
                    · skip
                      refine v_iconst C (nI 0) dX10_slips_105 (by decide) ?_
                      refine v_goto C 120 dX10_slips_106 rfl ?_
                      refine n_now_st C (by decide) sh_206 (by omega) (by decide) dX10_slips_120 ?_
                      refine v_iinc C (nI (q + 1)) 0 [(3, .int (nI (q + 1))), (0, .ref (gb G + 205)), (1, .int (nI s)), (2, .int (nI c))] dX10_slips_121 rfl (nI_add _ _) (by decide) rfl ?_
                      refine v_goto C 42 dX10_slips_124 rfl ?_
                      refine v_sub [0, 1, 2, 3] [(3, .int (nI (q + 1))), (0, .ref (gb G + 205)), (1, .int (nI s)), (2, .int (nI c))] rfl ?_
                      exact ihLS _ (by omega) (q + 1) (upd Z ((67 + (10 * c)) + q) (nI 0))  rfl (by omega) (by rw [upd_ne _ _ (by omega)]; exact hZ0) (by rw [← hg, show n - q = (n - (q + 1)) + 1 by omega]; simp only [slpG]; first | (rw [if_pos (And.intro h_49 (Or.inl h_64))]; first | rw [if_pos h_102] | rw [if_neg h_102]) | (rw [if_pos (And.intro h_49 (Or.inr h_84))]; first | rw [if_pos h_102] | rw [if_neg h_102]))
        refine v_sub [0, 1, 2, 3] [(3, .int (nI 0)), (0, .ref (gb G + 205)), (1, .int (nI s)), (2, .int (nI c))] rfl ?_
        exact LS _ 0 Y  rfl (by omega) (by exact hY.1.1) (by rfl)
      · skip
        refine v_aload_n C 0 dX10_slips_32 rfl ?_
        refine v_ldcw C (-1000002) kc_X10_276 dX10_slips_33 ?_
        refine n_callVi C hRm [.int (-1000002)] cw_X10_finding ml_X10_81 (by decide) sh_205 (by decide) rfl (r_finding l G (upA M 206 Y) 2 (by decide) (-1000002) (by decide)) (by decide) rfl rfl (Nat.le_of_ble_eq_true rfl) dX10_slips_36 (fun M5 hP_36 => ?_)
        subst hP_36
        refine v_mem (upA (fndM M 2) 206 Y) (fnd_upA _ _ _) ?_
        have hS : slipsS Y M n (nI s) (nI c) = er 2 Y := by unfold slipsS; (try rw [toN (show s < 2 ^ 31 by omega)]); (try rw [toN (show c < 2 ^ 31 by omega)]); (first | rw [if_pos h_4] | rw [if_neg h_4] | rw [if_pos (congrArg nI h_4)] | rw [if_neg (fun q9 => h_4 ((nI_eq (by omega) (by omega)).mp q9))] | rw [if_neg (Nat.not_le.mpr h_4)] | rw [if_neg (Nat.not_lt.mpr h_4)] | skip); (first | rw [if_pos h_13] | rw [if_neg h_13] | rw [if_pos (congrArg nI h_13)] | rw [if_neg (fun q9 => h_13 ((nI_eq (by omega) (by omega)).mp q9))] | rw [if_neg (Nat.not_le.mpr h_13)] | rw [if_neg (Nat.not_lt.mpr h_13)] | skip); (first | rw [if_pos h_29] | rw [if_neg h_29] | rw [if_pos (congrArg nI h_29)] | rw [if_neg (fun q9 => h_29 ((nI_eq (by omega) (by omega)).mp q9))] | rw [if_neg (Nat.not_le.mpr h_29)] | rw [if_neg (Nat.not_lt.mpr h_29)] | skip); all_goals rfl
        exact n_iret C hRt rfl dX10_slips_39 (by rw [hS] <;> rfl) (by rw [hS]; exact ⟨_, rfl, (eqM.rf M).tr (eqM.fnd _ (show (2 : Nat) ≠ 0 by decide))⟩)
    · skip
      refine v_aload_n C 0 dX10_slips_16 rfl ?_
      refine v_ldc C (-1000001) kc_X10_80 dX10_slips_17 ?_
      refine n_callVi C hRm [.int (-1000001)] cw_X10_finding ml_X10_81 (by decide) sh_205 (by decide) rfl (r_finding l G (upA M 206 Y) 1 (by decide) (-1000001) (by decide)) (by decide) rfl rfl (Nat.le_of_ble_eq_true rfl) dX10_slips_19 (fun M5 hP_19 => ?_)
      subst hP_19
      refine v_mem (upA (fndM M 1) 206 Y) (fnd_upA _ _ _) ?_
      have hS : slipsS Y M n (nI s) child = er 1 Y := by unfold slipsS; (try rw [toN (show s < 2 ^ 31 by omega)]); (try rw [toN (show c < 2 ^ 31 by omega)]); (first | rw [if_pos h_4] | rw [if_neg h_4] | rw [if_pos (congrArg nI h_4)] | rw [if_neg (fun q9 => h_4 ((nI_eq (by omega) (by omega)).mp q9))] | rw [if_neg (Nat.not_le.mpr h_4)] | rw [if_neg (Nat.not_lt.mpr h_4)] | skip); (first | rw [if_pos h_13] | rw [if_neg h_13] | rw [if_pos (congrArg nI h_13)] | rw [if_neg (fun q9 => h_13 ((nI_eq (by omega) (by omega)).mp q9))] | rw [if_neg (Nat.not_le.mpr h_13)] | rw [if_neg (Nat.not_lt.mpr h_13)] | skip); all_goals rfl
      exact n_iret C hRt rfl dX10_slips_22 (by rw [hS] <;> rfl) (by rw [hS]; exact ⟨_, rfl, (eqM.rf M).tr (eqM.fnd _ (show (1 : Nat) ≠ 0 by decide))⟩)
def flmG (M : Mm) (Q : Nat → Int32) (s z : Nat) : Nat → Nat → Nat
  | 0, c => c
  | k + 1, c => if c < z ∧ M 219 (24 * s + c) = Q (7 + 6 * c + 4) then flmG M Q s z k (c + 1) else c
noncomputable def filmS (Y : Nat → Int32) (M : Mm) (n hN : Nat) (sheet k : Int32) : O3 := if nI 0 ≤ sheet ∧ sheet ≤ nI 3 then (if nI 0 ≤ k ∧ k ≤ nI 60 then (if M 217 sheet.toNatClampNeg = 0 then er 2 Y else (0, nI (flmG M (passS Y n hN k.toNatClampNeg) sheet.toNatClampNeg (zS M sheet.toNatClampNeg) n 0), Y)) else er 1 Y) else er 1 Y
set_option maxHeartbeats 4000000 in
set_option maxRecDepth 100000 in
theorem r_film (l : Launch) (G : GC) (M : Mm) (Y : Nat → Int32) (n hN : Nat) (hY : YOk Y n hN) (hsh : shOk M) (sheet k : Int32) : CI l G 10 yX10_film cX10_film 4 .int [.ref (gb G + 205), .int sheet, .int k] (upA M 206 Y) ((filmS Y M n hN sheet k).2.1) (PubR M (filmS Y M n hN sheet k).2.2 (filmS Y M n hN sheet k).1) := by
  refine Con.of (by decide +kernel) (Nat.le_of_ble_eq_true rfl) ?_
  intro f C hRm hRt _
  have h10 := hY.1.2.1
  show Vc f G NPh (upA M 206 Y) 0 [(0, .ref (gb G + 205)), (1, .int sheet), (2, .int k)] []
  refine v_iload_n C 1 dX10_film_0 rfl ?_
  refine n_callSp C hRm [.int sheet] cw_X10_isSheet st_X10_isSheet ml_X10_305 (r_isSheet l G (upA M 206 Y) sheet) (by decide) rfl rfl (Nat.le_of_ble_eq_true rfl) dX10_film_1 ?_
  refine nb_if_eq C 14 dX10_film_4 rfl (fun h_4 => ?_) (fun h_4 => ?_)
  · skip
    refine v_aload_n C 0 dX10_film_14 rfl ?_
    refine v_ldc C (-1000001) kc_X10_80 dX10_film_15 ?_
    refine n_callVi C hRm [.int (-1000001)] cw_X10_finding ml_X10_81 (by decide) sh_205 (by decide) rfl (r_finding l G (upA M 206 Y) 1 (by decide) (-1000001) (by decide)) (by decide) rfl rfl (Nat.le_of_ble_eq_true rfl) dX10_film_17 (fun M5 hP_17 => ?_)
    subst hP_17
    refine v_mem (upA (fndM M 1) 206 Y) (fnd_upA _ _ _) ?_
    have hS : filmS Y M n hN sheet k = er 1 Y := by unfold filmS; (try rw [toN (show s < 2 ^ 31 by omega)]); (first | rw [if_pos h_4] | rw [if_neg h_4] | rw [if_pos (congrArg nI h_4)] | rw [if_neg (fun q9 => h_4 ((nI_eq (by omega) (by omega)).mp q9))] | rw [if_neg (Nat.not_le.mpr h_4)] | rw [if_neg (Nat.not_lt.mpr h_4)] | skip); all_goals rfl
    exact n_iret C hRt rfl dX10_film_20 (by rw [hS] <;> rfl) (by rw [hS]; exact ⟨_, rfl, (eqM.rf M).tr (eqM.fnd _ (show (1 : Nat) ≠ 0 by decide))⟩)
  · skip
    obtain ⟨s, hs, rfl⟩ := within_nat (by decide) h_4
    obtain ⟨z, hz, hz2⟩ := hsh s (by omega)
    have hz3 : zS M s = z := cN_of hz2 (by omega)
    refine v_iload_n C 2 dX10_film_7 rfl ?_
    refine n_callSp C hRm [.int k] cw_X10_isAhead st_X10_isAhead ml_X10_270 (r_isAhead l G (upA M 206 Y) k) (by decide) rfl rfl (Nat.le_of_ble_eq_true rfl) dX10_film_8 ?_
    refine nb_if_ne C 21 dX10_film_11 rfl (fun h_11 => ?_) (fun h_11 => ?_)
    · skip
      obtain ⟨j, hj, rfl⟩ := within_nat (by decide) h_11
      refine v_aload_n C 0 dX10_film_21 rfl ?_
      refine g_X10_50 C (by decide) sh_205 dX10_film_22 ?_
      refine v_iload_n C 1 dX10_film_25 rfl ?_
      refine v_iald C (by decide) sh_217 (by omega) (by decide) dX10_film_26 ?_
      refine v_top (M 217 s) (congrFun (upA_ne M Y (by decide)) _) ?_
      refine v_if_ne C 38 dX10_film_27 rfl (fun h_27 => ?_) (fun h_27 => ?_)
      · skip
        refine v_aload_n C 0 dX10_film_38 rfl ?_
        refine g_X10_9 C (by decide) sh_205 dX10_film_39 ?_
        refine v_aload_n C 0 dX10_film_42 rfl ?_
        refine g_X10_16 C (by decide) sh_205 dX10_film_43 ?_
        refine n_callSv C hRm [.ref (gb G + 206), .ref (gb G + 208)] cw_X10_copy st_X10_copy ml_X10_76 (r_copy_na l G (upA M 206 Y)) (by decide) rfl rfl (Nat.le_of_ble_eq_true rfl) dX10_film_46 (fun M5 hP => ?_)
        subst hP
        refine v_mem (upA (upA M 208 Y) 206 Y) (by rw [upA_eq, upA_swap _ _ _ (by decide)]) ?_
        refine v_aload_n C 0 dX10_film_49 rfl ?_
        refine v_iload_n C 2 dX10_film_50 rfl ?_
        refine n_callVv C hRm [.int (nI j)] cw_X10_minutesGo ml_X10_249 (by decide) sh_205 (by decide) rfl (r_minutesGo l G (upA M 208 Y) Y n hN hY j (by omega)) (by decide) rfl rfl (Nat.le_of_ble_eq_true rfl) dX10_film_51 (fun M5 hP_51 => ?_)
        obtain ⟨X9, rfl, hX9⟩ := hP_51
        have hYP := yk_pass hY j
        have h208 : X9 208 = Y := (hX9 208 (by decide) (by decide) (by decide)).trans (upA_eq M 208 Y)
        refine v_iconst C (nI 0) dX10_film_54 (by decide) ?_
        refine v_istore_n C [(3, .int (nI 0)), (0, .ref (gb G + 205)), (1, .int (nI s)), (2, .int (nI j))] dX10_film_55 rfl (by decide) rfl ?_
        have h218 : X9 218 = M 218 := (hX9 218 (by decide) (by decide) (by decide)).trans (upA_ne M Y (by decide))
        have h219 : X9 219 = M 219 := (hX9 219 (by decide) (by decide) (by decide)).trans (upA_ne M Y (by decide))
        have LF : ∀ (kq : Nat) (c : Nat), n - c = kq → c ≤ n → flmG M (passS Y n hN j) s z (n - c) c = flmG M (passS Y n hN j) s z n 0 → Vc f G NPh (upA X9 206 (passS Y n hN j)) 56 [(3, .int (nI c)), (0, .ref (gb G + 205)), (1, .int (nI s)), (2, .int (nI j))] [] := by
          intro kq
          induction kq using Nat.strongRecOn with
          | _ kq ihLF =>
            intro c hkq hc hg
            refine v_iload_n C 0 dX10_film_56 rfl ?_
            refine v_aload_n C 1 dX10_film_57 rfl ?_
            refine g_X10_9 C (by decide) sh_205 dX10_film_58 ?_
            refine v_iconst C (nI 0) dX10_film_61 (by decide) ?_
            refine n_now_ld C (by decide) sh_206 (by omega) (by decide) dX10_film_62 ?_
            refine v_top (nI n) hYP.1.1 ?_
            refine n_icmp_ge C (by omega) (by omega) 102 dX10_film_63 rfl (fun h_63 => ?_) (fun h_63 => ?_)
            · skip
              refine v_aload_n C 1 dX10_film_102 rfl ?_
              refine v_iload_n C 0 dX10_film_103 rfl ?_
              refine n_callVi C hRm [.int (nI c)] cw_X10_putBack ml_X10_273 (by decide) sh_205 (by decide) rfl (r_putBack l G X9 (passS Y n hN j) (nI c)) (by decide) rfl rfl (Nat.le_of_ble_eq_true rfl) dX10_film_104 (fun M5 hP_104 => ?_)
              subst hP_104
              refine v_mem (upA X9 206 Y) (congrArg (upA X9 206) (h208)) ?_
              have hz9 : flmG M (passS Y n hN j) s z n 0 = c := by rw [← hg, show n - c = 0 by omega]; rfl
              have hS : filmS Y M n hN (nI s) (nI j) = (0, nI c, Y) := by unfold filmS; rw [if_pos h_4, if_pos h_11, if_neg (by rw [toN (show s < 2 ^ 31 by omega)]; exact h_27), toN (show s < 2 ^ 31 by omega), toN (show j < 2 ^ 31 by omega), hz3, hz9]
              exact n_iret C hRt rfl dX10_film_107 (by rw [hS]) (by rw [hS]; exact ⟨_, rfl, (eqM.upA M Y (Or.inl rfl)).tr (eqM.of23 hX9)⟩)
            · skip
              refine v_iload_n C 0 dX10_film_66 rfl ?_
              refine v_aload_n C 1 dX10_film_67 rfl ?_
              refine g_X10_53 C (by decide) sh_205 dX10_film_68 ?_
              refine v_iload_n C 2 dX10_film_71 rfl ?_
              refine v_iald C (by decide) sh_218 (by omega) (by decide) dX10_film_72 ?_
              refine v_top (X9 218 s) (congrFun (upA_ne X9 (passS Y n hN j) (by decide)) _) ?_
              refine v_top (nI z) ((congrFun h218 s).trans hz2) ?_
              refine n_icmp_ge C (by omega) (by omega) 102 dX10_film_73 rfl (fun h_73 => ?_) (fun h_73 => ?_)
              · skip
                refine v_aload_n C 1 dX10_film_102 rfl ?_
                refine v_iload_n C 0 dX10_film_103 rfl ?_
                refine n_callVi C hRm [.int (nI c)] cw_X10_putBack ml_X10_273 (by decide) sh_205 (by decide) rfl (r_putBack l G X9 (passS Y n hN j) (nI c)) (by decide) rfl rfl (Nat.le_of_ble_eq_true rfl) dX10_film_104 (fun M5 hP_104 => ?_)
                subst hP_104
                refine v_mem (upA X9 206 Y) (congrArg (upA X9 206) (h208)) ?_
                have hz9 : flmG M (passS Y n hN j) s z n 0 = c := by rw [← hg, show n - c = (n - (c + 1)) + 1 by omega]; simp only [flmG]; rw [if_neg (fun q9 => by have := q9.1; omega)]
                have hS : filmS Y M n hN (nI s) (nI j) = (0, nI c, Y) := by unfold filmS; rw [if_pos h_4, if_pos h_11, if_neg (by rw [toN (show s < 2 ^ 31 by omega)]; exact h_27), toN (show s < 2 ^ 31 by omega), toN (show j < 2 ^ 31 by omega), hz3, hz9]
                exact n_iret C hRt rfl dX10_film_107 (by rw [hS]) (by rw [hS]; exact ⟨_, rfl, (eqM.upA M Y (Or.inl rfl)).tr (eqM.of23 hX9)⟩)
              · skip
                refine v_aload_n C 1 dX10_film_76 rfl ?_
                refine g_X10_56 C (by decide) sh_205 dX10_film_77 ?_
                refine v_bipush C (nI 24) dX10_film_80 (by decide) ?_
                refine v_iload_n C 2 dX10_film_82 rfl ?_
                refine n_imul C dX10_film_83 ?_
                refine v_iload_n C 0 dX10_film_84 rfl ?_
                refine n_iadd C dX10_film_85 ?_
                refine v_iald C (by decide) sh_219 (by omega) (by decide) dX10_film_86 ?_
                refine v_top (X9 219 ((24 * s) + c)) (congrFun (upA_ne X9 (passS Y n hN j) (by decide)) _) ?_
                refine v_top (M 219 ((24 * s) + c)) (congrFun h219 _) ?_
                refine v_aload_n C 1 dX10_film_87 rfl ?_
                refine v_iload_n C 0 dX10_film_88 rfl ?_
                refine v_iconst C (nI 4) dX10_film_89 (by decide) ?_
                refine n_callVp C hRm [.int (nI c), .int (nI 4)] cw_X10_of ml_X10_86 (by decide) sh_205 (by decide) rfl (r_of l G X9 (passS Y n hN j) c 4 (by omega)) (by decide) rfl rfl (Nat.le_of_ble_eq_true rfl) dX10_film_90 ?_
                refine v_icmp_ne C 102 dX10_film_93 rfl (fun h_93 => ?_) (fun h_93 => ?_)
                · skip
                  refine v_aload_n C 1 dX10_film_102 rfl ?_
                  refine v_iload_n C 0 dX10_film_103 rfl ?_
                  refine n_callVi C hRm [.int (nI c)] cw_X10_putBack ml_X10_273 (by decide) sh_205 (by decide) rfl (r_putBack l G X9 (passS Y n hN j) (nI c)) (by decide) rfl rfl (Nat.le_of_ble_eq_true rfl) dX10_film_104 (fun M5 hP_104 => ?_)
                  subst hP_104
                  refine v_mem (upA X9 206 Y) (congrArg (upA X9 206) (h208)) ?_
                  have hz9 : flmG M (passS Y n hN j) s z n 0 = c := by rw [← hg, show n - c = (n - (c + 1)) + 1 by omega]; simp only [flmG]; rw [if_neg (fun q9 => h_93 q9.2)]
                  have hS : filmS Y M n hN (nI s) (nI j) = (0, nI c, Y) := by unfold filmS; rw [if_pos h_4, if_pos h_11, if_neg (by rw [toN (show s < 2 ^ 31 by omega)]; exact h_27), toN (show s < 2 ^ 31 by omega), toN (show j < 2 ^ 31 by omega), hz3, hz9]
                  exact n_iret C hRt rfl dX10_film_107 (by rw [hS]) (by rw [hS]; exact ⟨_, rfl, (eqM.upA M Y (Or.inl rfl)).tr (eqM.of23 hX9)⟩)
                · skip
                  refine v_iinc C (nI (c + 1)) 0 [(3, .int (nI (c + 1))), (0, .ref (gb G + 205)), (1, .int (nI s)), (2, .int (nI j))] dX10_film_96 rfl (nI_add _ _) (by decide) rfl ?_
                  refine v_goto C 56 dX10_film_99 rfl ?_
                  refine v_sub [0, 1, 2, 3] [(3, .int (nI (c + 1))), (0, .ref (gb G + 205)), (1, .int (nI s)), (2, .int (nI j))] rfl ?_
                  exact ihLF _ (by omega) (c + 1)  rfl (by omega) (by rw [← hg, show n - c = (n - (c + 1)) + 1 by omega]; simp only [flmG]; rw [if_pos (And.intro h_73 h_93)])
        refine v_sub [0, 1, 2, 3] [(3, .int (nI 0)), (0, .ref (gb G + 205)), (1, .int (nI s)), (2, .int (nI j))] rfl ?_
        exact LF _ 0  rfl (by omega) (by rfl)
      · skip
        refine v_aload_n C 0 dX10_film_30 rfl ?_
        refine v_ldcw C (-1000002) kc_X10_276 dX10_film_31 ?_
        refine n_callVi C hRm [.int (-1000002)] cw_X10_finding ml_X10_81 (by decide) sh_205 (by decide) rfl (r_finding l G (upA M 206 Y) 2 (by decide) (-1000002) (by decide)) (by decide) rfl rfl (Nat.le_of_ble_eq_true rfl) dX10_film_34 (fun M5 hP_34 => ?_)
        subst hP_34
        refine v_mem (upA (fndM M 2) 206 Y) (fnd_upA _ _ _) ?_
        have hS : filmS Y M n hN (nI s) (nI j) = er 2 Y := by unfold filmS; (try rw [toN (show s < 2 ^ 31 by omega)]); (first | rw [if_pos h_4] | rw [if_neg h_4] | rw [if_pos (congrArg nI h_4)] | rw [if_neg (fun q9 => h_4 ((nI_eq (by omega) (by omega)).mp q9))] | rw [if_neg (Nat.not_le.mpr h_4)] | rw [if_neg (Nat.not_lt.mpr h_4)] | skip); (first | rw [if_pos h_11] | rw [if_neg h_11] | rw [if_pos (congrArg nI h_11)] | rw [if_neg (fun q9 => h_11 ((nI_eq (by omega) (by omega)).mp q9))] | rw [if_neg (Nat.not_le.mpr h_11)] | rw [if_neg (Nat.not_lt.mpr h_11)] | skip); (first | rw [if_pos h_27] | rw [if_neg h_27] | rw [if_pos (congrArg nI h_27)] | rw [if_neg (fun q9 => h_27 ((nI_eq (by omega) (by omega)).mp q9))] | rw [if_neg (Nat.not_le.mpr h_27)] | rw [if_neg (Nat.not_lt.mpr h_27)] | skip); all_goals rfl
        exact n_iret C hRt rfl dX10_film_37 (by rw [hS] <;> rfl) (by rw [hS]; exact ⟨_, rfl, (eqM.rf M).tr (eqM.fnd _ (show (2 : Nat) ≠ 0 by decide))⟩)
    · skip
      refine v_aload_n C 0 dX10_film_14 rfl ?_
      refine v_ldc C (-1000001) kc_X10_80 dX10_film_15 ?_
      refine n_callVi C hRm [.int (-1000001)] cw_X10_finding ml_X10_81 (by decide) sh_205 (by decide) rfl (r_finding l G (upA M 206 Y) 1 (by decide) (-1000001) (by decide)) (by decide) rfl rfl (Nat.le_of_ble_eq_true rfl) dX10_film_17 (fun M5 hP_17 => ?_)
      subst hP_17
      refine v_mem (upA (fndM M 1) 206 Y) (fnd_upA _ _ _) ?_
      have hS : filmS Y M n hN (nI s) k = er 1 Y := by unfold filmS; (try rw [toN (show s < 2 ^ 31 by omega)]); (first | rw [if_pos h_4] | rw [if_neg h_4] | rw [if_pos (congrArg nI h_4)] | rw [if_neg (fun q9 => h_4 ((nI_eq (by omega) (by omega)).mp q9))] | rw [if_neg (Nat.not_le.mpr h_4)] | rw [if_neg (Nat.not_lt.mpr h_4)] | skip); (first | rw [if_pos h_11] | rw [if_neg h_11] | rw [if_pos (congrArg nI h_11)] | rw [if_neg (fun q9 => h_11 ((nI_eq (by omega) (by omega)).mp q9))] | rw [if_neg (Nat.not_le.mpr h_11)] | rw [if_neg (Nat.not_lt.mpr h_11)] | skip); all_goals rfl
      exact n_iret C hRt rfl dX10_film_20 (by rw [hS] <;> rfl) (by rw [hS]; exact ⟨_, rfl, (eqM.rf M).tr (eqM.fnd _ (show (1 : Nat) ≠ 0 by decide))⟩)
