set_option maxHeartbeats 4000000 in
set_option maxRecDepth 100000 in
theorem r_fallsApart (l : Launch) (G : GC) (M : Mm) (Y : Nat → Int32) (n hN : Nat) (hY : YOk Y n hN) (h : Nat) (hh : h < hN) : CV l G 5 yX10_fallsApart cX10_fallsApart 4 [.ref (gb G + 205), .int (nI h)] (upA M 206 Y) (fun M' => M' = upA M 206 (fallS Y n hN h)) := by
  refine Con.of (by decide +kernel) (Nat.le_of_ble_eq_true rfl) ?_
  intro f C hRm hRt _
  obtain ⟨m, hm⟩ : ∃ m, m = mskA Y (nI h) n := ⟨_, rfl⟩
  have h5N := hY.1.2.2.2
  have LC : ∀ (kk : Nat) (c : Nat) (Z : Nat → Int32), n - c = kk → c ≤ n → Z = falC Y n hN m c → Vc f G NPh (upA M 206 Z) 8 [(3, .int (nI c)), (2, .int (nI m)), (0, .ref (gb G + 205)), (1, .int (nI h))] [] := by
    intro kk
    induction kk using Nat.strongRecOn with
    | _ kk ihLC =>
      intro c Z hkk hc hZ
      have hYZ : YOk Z n hN := hZ ▸ yk_falC hY m c hc
      have h10 := hY.1.2.1
      have h5N := hY.1.2.2.2
      refine v_iload_n C 0 dX10_fallsApart_8 rfl ?_
      refine v_aload_n C 2 dX10_fallsApart_9 rfl ?_
      refine g_X10_9 C (by decide) sh_205 dX10_fallsApart_10 ?_
      refine v_iconst C (nI 0) dX10_fallsApart_13 (by decide) ?_
      refine n_now_ld C (by decide) sh_206 (by omega) (by decide) dX10_fallsApart_14 ?_
      refine v_top (nI n) hYZ.1.1 ?_
      refine n_icmp_ge C (by omega) (by omega) 38 dX10_fallsApart_15 rfl (fun h_15 => ?_) (fun h_15 => ?_)
      · skip
        refine v_aload_n C 2 dX10_fallsApart_38 rfl ?_
        refine g_X10_9 C (by decide) sh_205 dX10_fallsApart_39 ?_
        refine v_sipush C (nI 167) dX10_fallsApart_42 (by decide) ?_
        refine v_iconst C (nI 4) dX10_fallsApart_45 (by decide) ?_
        refine v_iload_n C 3 dX10_fallsApart_46 rfl ?_
        refine n_imul C dX10_fallsApart_47 ?_
        refine n_iadd C dX10_fallsApart_48 ?_
        refine v_iconst C (nI 3) dX10_fallsApart_49 (by decide) ?_
        refine n_iadd C dX10_fallsApart_50 ?_
        refine v_iconst C (nI 0) dX10_fallsApart_51 (by decide) ?_
        refine n_now_st C (by decide) sh_206 (by omega) (by decide) dX10_fallsApart_52 ?_
        exact n_ret C hRt dX10_fallsApart_53 (by (have h5 : c = n := (by omega)); subst h5; subst hZ; subst hm; rfl)
      · skip
        refine v_iload_n C 1 dX10_fallsApart_18 rfl ?_
        refine v_iload_n C 0 dX10_fallsApart_19 rfl ?_
        refine n_callSp C hRm [.int (nI m), .int (nI c)] cw_X10_hasBit st_X10_hasBit ml_X10_127 (r_hasBitN l G (upA M 206 Z) m c (hm ▸ msk_1024 _ _ hY.1.2.1) (by omega)) (by decide) rfl rfl (Nat.le_of_ble_eq_true rfl) dX10_fallsApart_20 ?_
        refine nb_if_eq C 32 dX10_fallsApart_23 rfl (fun h_23 => ?_) (fun h_23 => ?_)
        · skip
          refine v_iinc C (nI (c + 1)) 0 [(3, .int (nI (c + 1))), (2, .int (nI m)), (0, .ref (gb G + 205)), (1, .int (nI h))] dX10_fallsApart_32 rfl (nI_add _ _) (by decide) rfl ?_
          refine v_goto C 8 dX10_fallsApart_35 rfl ?_
          refine v_sub [0, 1, 2, 3] [(3, .int (nI (c + 1))), (2, .int (nI m)), (0, .ref (gb G + 205)), (1, .int (nI h))] rfl ?_
          exact ihLC _ (by omega) (c + 1) Z  rfl (by omega) (by subst hZ; simp only [falC]; first | rw [if_pos h_23] | rw [if_neg h_23])
        · skip
          refine v_aload_n C 2 dX10_fallsApart_26 rfl ?_
          refine v_iload_n C 0 dX10_fallsApart_27 rfl ?_
          refine v_iconst C (-1) dX10_fallsApart_28 (by decide) ?_
          refine n_callVv C hRm [.int (nI c), .int (-1)] cw_X10_goesTo ml_X10_123 (by decide) sh_205 (by decide) rfl (r_goesTo l G M Z n hN hYZ.1.1 hYZ.1.2.1 hYZ.1.2.2.1 hYZ.1.2.2.2 c (by omega) (-1)) (by decide) rfl rfl (Nat.le_of_ble_eq_true rfl) dX10_fallsApart_29 (fun M5 hP_29 => ?_)
          subst hP_29
          refine v_iinc C (nI (c + 1)) 0 [(3, .int (nI (c + 1))), (2, .int (nI m)), (0, .ref (gb G + 205)), (1, .int (nI h))] dX10_fallsApart_32 rfl (nI_add _ _) (by decide) rfl ?_
          refine v_goto C 8 dX10_fallsApart_35 rfl ?_
          refine v_sub [0, 1, 2, 3] [(3, .int (nI (c + 1))), (2, .int (nI m)), (0, .ref (gb G + 205)), (1, .int (nI h))] rfl ?_
          exact ihLC _ (by omega) (c + 1) (goesS Z n hN c (-1))  rfl (by omega) (by subst hZ; simp only [falC]; first | rw [if_pos h_23] | rw [if_neg h_23])
  show Vc f G NPh (upA M 206 Y) 0 [(0, .ref (gb G + 205)), (1, .int (nI h))] []
  refine v_aload_n C 0 dX10_fallsApart_0 rfl ?_
  refine v_iload_n C 1 dX10_fallsApart_1 rfl ?_
  refine n_callVp C hRm [.int (nI h)] cw_X10_inHeap ml_X10_112 (by decide) sh_205 (by decide) rfl (r_inHeap l G M Y n hY.1.1 hY.1.2.1 (nI h)) (by decide) rfl rfl (Nat.le_of_ble_eq_true rfl) dX10_fallsApart_2 ?_
  refine v_top (nI m) (hm ▸ inA_msk _ _ n hY.1.2.1) ?_
  refine v_istore_n C [(2, .int (nI m)), (0, .ref (gb G + 205)), (1, .int (nI h))] dX10_fallsApart_5 rfl (by decide) rfl ?_
  refine v_iconst C (nI 0) dX10_fallsApart_6 (by decide) ?_
  refine v_istore_n C [(3, .int (nI 0)), (2, .int (nI m)), (0, .ref (gb G + 205)), (1, .int (nI h))] dX10_fallsApart_7 rfl (by decide) rfl ?_
  refine v_sub [0, 1, 2, 3] [(3, .int (nI 0)), (2, .int (nI m)), (0, .ref (gb G + 205)), (1, .int (nI h))] rfl ?_
  exact LC _ 0 Y  rfl (by omega) (by rfl)
set_option maxHeartbeats 4000000 in
set_option maxRecDepth 100000 in
theorem r_minute (l : Launch) (G : GC) (M : Mm) (Y : Nat → Int32) (n hN : Nat) (hY : YOk Y n hN) : CV l G 8 yX10_minute cX10_minute 3 [.ref (gb G + 205)] (upA M 206 Y) (fun M' => ∃ X, M' = upA X 206 (minuteS Y n hN) ∧ ex23 M X) := by
  refine Con.of (by decide +kernel) (Nat.le_of_ble_eq_true rfl) ?_
  intro f C hRm hRt _
  have LH : ∀ (kk : Nat) (h : Nat) (Z : Nat → Int32) (X : Mm), hN - h = kk → h ≤ hN → ex23 M X → Z = minH (minC Y n hN n) n hN h → Vc f G NPh (upA X 206 Z) 64 [(1, .int (nI h)), (0, .ref (gb G + 205))] [] := by
    intro kk
    induction kk using Nat.strongRecOn with
    | _ kk ihLH =>
      intro h Z X hkk hh hX hZ
      have hYZ : YOk Z n hN := hZ ▸ yk_minH (yk_minC hY n (Nat.le_refl _)) h hh
      have h10 := hY.1.2.1
      have h5N := hY.1.2.2.2
      refine v_iload_n C 0 dX10_minute_64 rfl ?_
      refine v_aload_n C 1 dX10_minute_65 rfl ?_
      refine g_X10_9 C (by decide) sh_205 dX10_minute_66 ?_
      refine v_iconst C (nI 1) dX10_minute_69 (by decide) ?_
      refine n_now_ld C (by decide) sh_206 (by omega) (by decide) dX10_minute_70 ?_
      refine v_top (nI hN) hYZ.1.2.2.1 ?_
      refine n_icmp_ge C (by omega) (by omega) 131 dX10_minute_71 rfl (fun h_71 => ?_) (fun h_71 => ?_)
      · skip
        refine v_aload_n C 1 dX10_minute_131 rfl ?_
        refine g_X10_9 C (by decide) sh_205 dX10_minute_132 ?_
        refine v_iconst C (nI 2) dX10_minute_135 (by decide) ?_
        refine v_dup2 C dX10_minute_136 rfl rfl ?_
        refine n_now_ld C (by decide) sh_206 (by omega) (by decide) dX10_minute_137 ?_
        refine v_iconst C (nI 1) dX10_minute_138 (by decide) ?_
        refine v_iadd C dX10_minute_139 ?_
        refine n_now_st C (by decide) sh_206 (by omega) (by decide) dX10_minute_140 ?_
        exact n_ret C hRt dX10_minute_141 ⟨X, by (have h5 : h = hN := (by omega)); subst h5; rw [hZ]; rfl, hX⟩
      · skip
        refine v_sipush C (nI 167) dX10_minute_74 (by decide) ?_
        refine v_iconst C (nI 4) dX10_minute_77 (by decide) ?_
        refine v_iload_n C 0 dX10_minute_78 rfl ?_
        refine n_imul C dX10_minute_79 ?_
        refine n_iadd C dX10_minute_80 ?_
        refine v_iconst C (nI 3) dX10_minute_81 (by decide) ?_
        refine n_iadd C dX10_minute_82 ?_
        refine v_istore_n C [(2, .int (nI ((167 + (4 * h)) + 3))), (1, .int (nI h)), (0, .ref (gb G + 205))] dX10_minute_83 rfl (by decide) rfl ?_
        refine v_aload_n C 2 dX10_minute_84 rfl ?_
        refine g_X10_9 C (by decide) sh_205 dX10_minute_85 ?_
        refine v_iload_n C 0 dX10_minute_88 rfl ?_
        refine v_aload_n C 2 dX10_minute_89 rfl ?_
        refine v_iload_n C 1 dX10_minute_90 rfl ?_
        refine n_callVp C hRm [.int (nI h)] cw_X10_isFew ml_X10_118 (by decide) sh_205 (by decide) rfl (r_isFew l G X Z n hYZ.1.1 hYZ.1.2.1 h (by omega)) (by decide) rfl rfl (Nat.le_of_ble_eq_true rfl) dX10_minute_91 ?_
        refine nb_if_eq C 108 dX10_minute_94 rfl (fun h_94 => ?_) (fun h_94 => ?_)
        · skip
          refine v_iconst C (nI 0) dX10_minute_108 (by decide) ?_
          refine n_now_st C (by decide) sh_206 (by omega) (by decide) dX10_minute_109 ?_
          refine v_mem (upA X 206 (fewN Z n h)) (congrArg (upA X 206) (by unfold fewN fewV; first | rw [if_pos h_94] | rw [if_neg h_94])) ?_
          have hYF : YOk (fewN Z n h) n hN := yk_upd hYZ _ (by omega) (by omega) (by omega)
          refine v_aload_n C 2 dX10_minute_110 rfl ?_
          refine g_X10_9 C (by decide) sh_205 dX10_minute_111 ?_
          refine v_iload_n C 0 dX10_minute_114 rfl ?_
          refine n_now_ld C (by decide) sh_206 (by omega) (by decide) dX10_minute_115 ?_
          refine v_iconst C (nI 5) dX10_minute_116 (by decide) ?_
          refine v_icmp_ne C 125 dX10_minute_117 rfl (fun h_117 => ?_) (fun h_117 => ?_)
          · skip
            refine v_iinc C (nI (h + 1)) 1 [(1, .int (nI (h + 1))), (2, .int (nI ((167 + (4 * h)) + 3))), (0, .ref (gb G + 205))] dX10_minute_125 rfl (nI_add _ _) (by decide) rfl ?_
            refine v_goto C 64 dX10_minute_128 rfl ?_
            refine v_sub [0, 2] [(1, .int (nI (h + 1))), (0, .ref (gb G + 205))] rfl ?_
            exact ihLH _ (by omega) (h + 1) (fewN Z n h) X  rfl (by omega) (by exact hX) (by subst hZ; simp only [minH]; first | rw [if_pos h_117] | rw [if_neg h_117])
          · skip
            refine v_aload_n C 2 dX10_minute_120 rfl ?_
            refine v_iload_n C 1 dX10_minute_121 rfl ?_
            refine n_callVv C hRm [.int (nI h)] cw_X10_fallsApart ml_X10_243 (by decide) sh_205 (by decide) rfl (r_fallsApart l G X (fewN Z n h) n hN hYF h (by omega)) (by decide) rfl rfl (Nat.le_of_ble_eq_true rfl) dX10_minute_122 (fun M5 hP_122 => ?_)
            subst hP_122
            refine v_iinc C (nI (h + 1)) 1 [(1, .int (nI (h + 1))), (2, .int (nI ((167 + (4 * h)) + 3))), (0, .ref (gb G + 205))] dX10_minute_125 rfl (nI_add _ _) (by decide) rfl ?_
            refine v_goto C 64 dX10_minute_128 rfl ?_
            refine v_sub [0, 2] [(1, .int (nI (h + 1))), (0, .ref (gb G + 205))] rfl ?_
            exact ihLH _ (by omega) (h + 1) (fallS (fewN Z n h) n hN h) X  rfl (by omega) (by exact hX) (by subst hZ; simp only [minH]; first | rw [if_pos h_117] | rw [if_neg h_117])
        · skip
          refine v_aload_n C 2 dX10_minute_97 rfl ?_
          refine g_X10_9 C (by decide) sh_205 dX10_minute_98 ?_
          refine v_iload_n C 0 dX10_minute_101 rfl ?_
          refine n_now_ld C (by decide) sh_206 (by omega) (by decide) dX10_minute_102 ?_
          refine v_iconst C (nI 1) dX10_minute_103 (by decide) ?_
          refine v_iadd C dX10_minute_104 ?_
          refine v_goto C 109 dX10_minute_105 rfl ?_
          refine n_now_st C (by decide) sh_206 (by omega) (by decide) dX10_minute_109 ?_
          refine v_mem (upA X 206 (fewN Z n h)) (congrArg (upA X 206) (by unfold fewN fewV; first | rw [if_pos h_94] | rw [if_neg h_94])) ?_
          have hYF : YOk (fewN Z n h) n hN := yk_upd hYZ _ (by omega) (by omega) (by omega)
          refine v_aload_n C 2 dX10_minute_110 rfl ?_
          refine g_X10_9 C (by decide) sh_205 dX10_minute_111 ?_
          refine v_iload_n C 0 dX10_minute_114 rfl ?_
          refine n_now_ld C (by decide) sh_206 (by omega) (by decide) dX10_minute_115 ?_
          refine v_iconst C (nI 5) dX10_minute_116 (by decide) ?_
          refine v_icmp_ne C 125 dX10_minute_117 rfl (fun h_117 => ?_) (fun h_117 => ?_)
          · skip
            refine v_iinc C (nI (h + 1)) 1 [(1, .int (nI (h + 1))), (2, .int (nI ((167 + (4 * h)) + 3))), (0, .ref (gb G + 205))] dX10_minute_125 rfl (nI_add _ _) (by decide) rfl ?_
            refine v_goto C 64 dX10_minute_128 rfl ?_
            refine v_sub [0, 2] [(1, .int (nI (h + 1))), (0, .ref (gb G + 205))] rfl ?_
            exact ihLH _ (by omega) (h + 1) (fewN Z n h) X  rfl (by omega) (by exact hX) (by subst hZ; simp only [minH]; first | rw [if_pos h_117] | rw [if_neg h_117])
          · skip
            refine v_aload_n C 2 dX10_minute_120 rfl ?_
            refine v_iload_n C 1 dX10_minute_121 rfl ?_
            refine n_callVv C hRm [.int (nI h)] cw_X10_fallsApart ml_X10_243 (by decide) sh_205 (by decide) rfl (r_fallsApart l G X (fewN Z n h) n hN hYF h (by omega)) (by decide) rfl rfl (Nat.le_of_ble_eq_true rfl) dX10_minute_122 (fun M5 hP_122 => ?_)
            subst hP_122
            refine v_iinc C (nI (h + 1)) 1 [(1, .int (nI (h + 1))), (2, .int (nI ((167 + (4 * h)) + 3))), (0, .ref (gb G + 205))] dX10_minute_125 rfl (nI_add _ _) (by decide) rfl ?_
            refine v_goto C 64 dX10_minute_128 rfl ?_
            refine v_sub [0, 2] [(1, .int (nI (h + 1))), (0, .ref (gb G + 205))] rfl ?_
            exact ihLH _ (by omega) (h + 1) (fallS (fewN Z n h) n hN h) X  rfl (by omega) (by exact hX) (by subst hZ; simp only [minH]; first | rw [if_pos h_117] | rw [if_neg h_117])
  have LC : ∀ (kk : Nat) (c : Nat) (Z : Nat → Int32) (X : Mm), n - c = kk → c ≤ n → ex23 M X → Z = minC Y n hN c → Vc f G NPh (upA X 206 Z) 2 [(1, .int (nI c)), (0, .ref (gb G + 205))] [] := by
    intro kk
    induction kk using Nat.strongRecOn with
    | _ kk ihLC =>
      intro c Z X hkk hc hX hZ
      have hYZ : YOk Z n hN := hZ ▸ yk_minC hY c hc
      have h10 := hY.1.2.1
      have h5N := hY.1.2.2.2
      refine v_iload_n C 0 dX10_minute_2 rfl ?_
      refine v_aload_n C 1 dX10_minute_3 rfl ?_
      refine g_X10_9 C (by decide) sh_205 dX10_minute_4 ?_
      refine v_iconst C (nI 0) dX10_minute_7 (by decide) ?_
      refine n_now_ld C (by decide) sh_206 (by omega) (by decide) dX10_minute_8 ?_
      refine v_top (nI n) hYZ.1.1 ?_
      refine n_icmp_ge C (by omega) (by omega) 62 dX10_minute_9 rfl (fun h_9 => ?_) (fun h_9 => ?_)
      · skip
        refine v_iconst C (nI 0) dX10_minute_62 (by decide) ?_
        refine v_istore_n C [(1, .int (nI 0)), (0, .ref (gb G + 205))] dX10_minute_63 rfl (by decide) rfl ?_
        refine v_sub [0, 1] [(1, .int (nI 0)), (0, .ref (gb G + 205))] rfl ?_
        exact LH _ 0 Z X  rfl (by omega) (by exact hX) (by (have h5 : c = n := (by omega)); subst h5; rw [hZ]; rfl)
      · skip
        refine v_aload_n C 1 dX10_minute_12 rfl ?_
        refine v_iload_n C 0 dX10_minute_13 rfl ?_
        refine v_iconst C (nI 4) dX10_minute_14 (by decide) ?_
        refine n_callVp C hRm [.int (nI c), .int (nI 4)] cw_X10_of ml_X10_86 (by decide) sh_205 (by decide) rfl (r_of l G X Z c 4 (by omega)) (by decide) rfl rfl (Nat.le_of_ble_eq_true rfl) dX10_minute_15 ?_
        refine v_if_ge C 56 dX10_minute_18 rfl (fun h_18 => ?_) (fun h_18 => ?_)
        · skip
          refine v_iinc C (nI (c + 1)) 0 [(1, .int (nI (c + 1))), (0, .ref (gb G + 205))] dX10_minute_56 rfl (nI_add _ _) (by decide) rfl ?_
          refine v_goto C 2 dX10_minute_59 rfl ?_
          refine v_sub [0, 1] [(1, .int (nI (c + 1))), (0, .ref (gb G + 205))] rfl ?_
          exact ihLC _ (by omega) (c + 1) Z X  rfl (by omega) (by first | exact hX | exact hX.tr hX9) (by subst hZ; simp only [minC]; first | rw [if_pos h_18] | (rw [if_neg h_18]; first | rw [if_pos h_26] | rw [if_neg h_26]))
        · skip
          refine v_aload_n C 1 dX10_minute_21 rfl ?_
          refine v_iload_n C 0 dX10_minute_22 rfl ?_
          refine n_callVi C hRm [.int (nI c)] cw_X10_isLetIn ml_X10_239 (by decide) sh_205 (by decide) rfl (r_isLetIn l G X Z n hN hYZ c (by omega)) (by decide) rfl rfl (Nat.le_of_ble_eq_true rfl) dX10_minute_23 (fun M5 hP_23 => ?_)
          obtain ⟨X9, rfl, hX9⟩ := hP_23
          refine nb_if_ne C 56 dX10_minute_26 rfl (fun h_26 => ?_) (fun h_26 => ?_)
          · skip
            refine v_iinc C (nI (c + 1)) 0 [(1, .int (nI (c + 1))), (0, .ref (gb G + 205))] dX10_minute_56 rfl (nI_add _ _) (by decide) rfl ?_
            refine v_goto C 2 dX10_minute_59 rfl ?_
            refine v_sub [0, 1] [(1, .int (nI (c + 1))), (0, .ref (gb G + 205))] rfl ?_
            exact ihLC _ (by omega) (c + 1) ((letR Z n hN c).2) X9  rfl (by omega) (by first | exact hX | exact hX.tr hX9) (by subst hZ; simp only [minC]; first | rw [if_pos h_18] | (rw [if_neg h_18]; first | rw [if_pos h_26] | rw [if_neg h_26]))
          · skip
            refine v_aload_n C 1 dX10_minute_29 rfl ?_
            refine g_X10_9 C (by decide) sh_205 dX10_minute_30 ?_
            refine v_bipush C (nI 7) dX10_minute_33 (by decide) ?_
            refine v_bipush C (nI 6) dX10_minute_35 (by decide) ?_
            refine v_iload_n C 0 dX10_minute_37 rfl ?_
            refine n_imul C dX10_minute_38 ?_
            refine n_iadd C dX10_minute_39 ?_
            refine v_iconst C (nI 5) dX10_minute_40 (by decide) ?_
            refine n_iadd C dX10_minute_41 ?_
            refine v_ldc C (99999) kc_X10_242 dX10_minute_42 ?_
            refine v_aload_n C 1 dX10_minute_44 rfl ?_
            refine v_iload_n C 0 dX10_minute_45 rfl ?_
            refine v_iconst C (nI 5) dX10_minute_46 (by decide) ?_
            refine n_callVp C hRm [.int (nI c), .int (nI 5)] cw_X10_of ml_X10_86 (by decide) sh_205 (by decide) rfl (r_of l G X9 ((letR Z n hN c).2) c 5 (by omega)) (by decide) rfl rfl (Nat.le_of_ble_eq_true rfl) dX10_minute_47 ?_
            refine v_iconst C (nI 1) dX10_minute_50 (by decide) ?_
            refine v_iadd C dX10_minute_51 ?_
            refine v_mmin C hRm (by decide) ml_X10_63 (Nat.le_of_ble_eq_true rfl) dX10_minute_52 ?_
            refine v_top (minS (99999) ((((letR Z n hN c).2) (7 + 6 * c + 5)) + (nI 1))) rfl ?_
            refine n_now_st C (by decide) sh_206 (by omega) (by decide) dX10_minute_55 ?_
            refine v_iinc C (nI (c + 1)) 0 [(1, .int (nI (c + 1))), (0, .ref (gb G + 205))] dX10_minute_56 rfl (nI_add _ _) (by decide) rfl ?_
            refine v_goto C 2 dX10_minute_59 rfl ?_
            refine v_sub [0, 1] [(1, .int (nI (c + 1))), (0, .ref (gb G + 205))] rfl ?_
            exact ihLC _ (by omega) (c + 1) (upd ((letR Z n hN c).2) ((7 + (6 * c)) + 5) (minS (99999) ((((letR Z n hN c).2) (7 + 6 * c + 5)) + (nI 1)))) X9  rfl (by omega) (by first | exact hX | exact hX.tr hX9) (by subst hZ; simp only [minC]; first | rw [if_pos h_18] | (rw [if_neg h_18]; first | rw [if_pos h_26] | rw [if_neg h_26]))
  show Vc f G NPh (upA M 206 Y) 0 [(0, .ref (gb G + 205))] []
  refine v_iconst C (nI 0) dX10_minute_0 (by decide) ?_
  refine v_istore_n C [(1, .int (nI 0)), (0, .ref (gb G + 205))] dX10_minute_1 rfl (by decide) rfl ?_
  refine v_sub [0, 1] [(1, .int (nI 0)), (0, .ref (gb G + 205))] rfl ?_
  exact LC _ 0 Y M  rfl (by omega) (by exact ex23.rf M) (by rfl)
set_option maxHeartbeats 4000000 in
set_option maxRecDepth 100000 in
theorem r_minutesGo (l : Launch) (G : GC) (M : Mm) (Y : Nat → Int32) (n hN : Nat) (hY : YOk Y n hN) (k : Nat) (hk : k ≤ 60) : CV l G 9 yX10_minutesGo cX10_minutesGo 3 [.ref (gb G + 205), .int (nI k)] (upA M 206 Y) (fun M' => ∃ X, M' = upA X 206 (passS Y n hN k) ∧ ex23 M X) := by
  refine Con.of (by decide +kernel) (Nat.le_of_ble_eq_true rfl) ?_
  intro f C hRm hRt _
  have LM : ∀ (kk : Nat) (i : Nat) (Z : Nat → Int32) (X : Mm), k - i = kk → i ≤ k → ex23 M X → Z = passS Y n hN i → Vc f G NPh (upA X 206 Z) 2 [(2, .int (nI i)), (0, .ref (gb G + 205)), (1, .int (nI k))] [] := by
    intro kk
    induction kk using Nat.strongRecOn with
    | _ kk ihLM =>
      intro i Z X hkk hi hX hZ
      have hYZ : YOk Z n hN := hZ ▸ yk_pass hY i
      refine v_iload_n C 0 dX10_minutesGo_2 rfl ?_
      refine v_iload_n C 2 dX10_minutesGo_3 rfl ?_
      refine n_icmp_ge C (by omega) (by omega) 17 dX10_minutesGo_4 rfl (fun h_4 => ?_) (fun h_4 => ?_)
      · skip
        exact n_ret C hRt dX10_minutesGo_17 ⟨X, by (have h5 : i = k := (by omega)); subst h5; rw [hZ], hX⟩
      · skip
        refine v_aload_n C 1 dX10_minutesGo_7 rfl ?_
        refine n_callVv C hRm [] cw_X10_minute ml_X10_246 (by decide) sh_205 (by decide) rfl (r_minute l G X Z n hN hYZ) (by decide) rfl rfl (Nat.le_of_ble_eq_true rfl) dX10_minutesGo_8 (fun M5 hP_8 => ?_)
        obtain ⟨X9, rfl, hX9⟩ := hP_8
        refine v_iinc C (nI (i + 1)) 0 [(2, .int (nI (i + 1))), (0, .ref (gb G + 205)), (1, .int (nI k))] dX10_minutesGo_11 rfl (nI_add _ _) (by decide) rfl ?_
        refine v_goto C 2 dX10_minutesGo_14 rfl ?_
        refine v_sub [0, 1, 2] [(2, .int (nI (i + 1))), (0, .ref (gb G + 205)), (1, .int (nI k))] rfl ?_
        exact ihLM _ (by omega) (i + 1) (minuteS Z n hN) X9  rfl (by omega) (by exact hX.tr hX9) (by subst hZ; rfl)
  show Vc f G NPh (upA M 206 Y) 0 [(0, .ref (gb G + 205)), (1, .int (nI k))] []
  refine v_iconst C (nI 0) dX10_minutesGo_0 (by decide) ?_
  refine v_istore_n C [(2, .int (nI 0)), (0, .ref (gb G + 205)), (1, .int (nI k))] dX10_minutesGo_1 rfl (by decide) rfl ?_
  refine v_sub [0, 1, 2] [(2, .int (nI 0)), (0, .ref (gb G + 205)), (1, .int (nI k))] rfl ?_
  exact LM _ 0 Y M  rfl (by omega) (by exact ex23.rf M) (by rfl)
set_option maxHeartbeats 4000000 in
set_option maxRecDepth 100000 in
theorem r_sorrowNow (l : Launch) (G : GC) (M : Mm) (Y : Nat → Int32) (n : Nat) (hn : Y 0 = nI n) (hn2 : n ≤ 10) : CP l G 2 yX10_sorrowNow cX10_sorrowNow 3 .int [.ref (gb G + 205)] (upA M 206 Y) (sorA Y n) := by
  refine Con.of (by decide +kernel) (Nat.le_of_ble_eq_true rfl) ?_
  intro f C hRm hRt _
  have LS : ∀ (kk : Nat) (c : Nat) (a : Int32), n - c = kk → c ≤ n → a = sorA Y c → Vc f G NPh (upA M 206 Y) 4 [(2, .int (nI c)), (1, .int a), (0, .ref (gb G + 205))] [] := by
    intro kk
    induction kk using Nat.strongRecOn with
    | _ kk ihLS =>
      intro c a hkk hc ha
      refine v_iload_n C 0 dX10_sorrowNow_4 rfl ?_
      refine v_aload_n C 2 dX10_sorrowNow_5 rfl ?_
      refine g_X10_9 C (by decide) sh_205 dX10_sorrowNow_6 ?_
      refine v_iconst C (nI 0) dX10_sorrowNow_9 (by decide) ?_
      refine n_now_ld C (by decide) sh_206 (by omega) (by decide) dX10_sorrowNow_10 ?_
      refine v_top (nI n) hn ?_
      refine n_icmp_ge C (by omega) (by omega) 43 dX10_sorrowNow_11 rfl (fun h_11 => ?_) (fun h_11 => ?_)
      · skip
        refine v_iload_n C 1 dX10_sorrowNow_43 rfl ?_
        exact n_iret C hRt rfl dX10_sorrowNow_44 (by (have h5 : c = n := (by omega)); subst h5; exact ha) rfl
      · skip
        refine v_iload_n C 1 dX10_sorrowNow_14 rfl ?_
        refine v_aload_n C 2 dX10_sorrowNow_15 rfl ?_
        refine v_iload_n C 0 dX10_sorrowNow_16 rfl ?_
        refine v_iconst C (nI 3) dX10_sorrowNow_17 (by decide) ?_
        refine n_callVp C hRm [.int (nI c), .int (nI 3)] cw_X10_of ml_X10_86 (by decide) sh_205 (by decide) rfl (r_of l G M Y c 3 (by omega)) (by decide) rfl rfl (Nat.le_of_ble_eq_true rfl) dX10_sorrowNow_18 ?_
        refine v_iconst C (nI 1) dX10_sorrowNow_21 (by decide) ?_
        refine v_icmp_ne C 34 dX10_sorrowNow_22 rfl (fun h_22 => ?_) (fun h_22 => ?_)
        · skip
          refine v_iconst C (nI 0) dX10_sorrowNow_34 (by decide) ?_
          refine v_iadd C dX10_sorrowNow_35 ?_
          refine v_istore_n C [(1, .int (a + (nI 0))), (2, .int (nI c)), (0, .ref (gb G + 205))] dX10_sorrowNow_36 rfl (by decide) rfl ?_
          refine v_iinc C (nI (c + 1)) 1 [(2, .int (nI (c + 1))), (1, .int (a + (nI 0))), (0, .ref (gb G + 205))] dX10_sorrowNow_37 rfl (nI_add _ _) (by decide) rfl ?_
          refine v_goto C 4 dX10_sorrowNow_40 rfl ?_
          refine v_sub [0, 1, 2] [(2, .int (nI (c + 1))), (1, .int (a + (nI 0))), (0, .ref (gb G + 205))] rfl ?_
          exact ihLS _ (by omega) (c + 1) (a + (nI 0))  rfl (by omega) (by subst ha; simp only [sorA]; first | rw [if_pos (by assumption)] | rw [if_neg (by assumption)])
        · skip
          refine v_aload_n C 2 dX10_sorrowNow_25 rfl ?_
          refine v_iload_n C 0 dX10_sorrowNow_26 rfl ?_
          refine v_iconst C (nI 5) dX10_sorrowNow_27 (by decide) ?_
          refine n_callVp C hRm [.int (nI c), .int (nI 5)] cw_X10_of ml_X10_86 (by decide) sh_205 (by decide) rfl (r_of l G M Y c 5 (by omega)) (by decide) rfl rfl (Nat.le_of_ble_eq_true rfl) dX10_sorrowNow_28 ?_
          refine v_goto C 35 dX10_sorrowNow_31 rfl ?_
          refine v_iadd C dX10_sorrowNow_35 ?_
          refine v_istore_n C [(1, .int (a + (Y (7 + 6 * c + 5)))), (2, .int (nI c)), (0, .ref (gb G + 205))] dX10_sorrowNow_36 rfl (by decide) rfl ?_
          refine v_iinc C (nI (c + 1)) 1 [(2, .int (nI (c + 1))), (1, .int (a + (Y (7 + 6 * c + 5)))), (0, .ref (gb G + 205))] dX10_sorrowNow_37 rfl (nI_add _ _) (by decide) rfl ?_
          refine v_goto C 4 dX10_sorrowNow_40 rfl ?_
          refine v_sub [0, 1, 2] [(2, .int (nI (c + 1))), (1, .int (a + (Y (7 + 6 * c + 5)))), (0, .ref (gb G + 205))] rfl ?_
          exact ihLS _ (by omega) (c + 1) (a + (Y (7 + 6 * c + 5)))  rfl (by omega) (by subst ha; simp only [sorA]; first | rw [if_pos (by assumption)] | rw [if_neg (by assumption)])
  show Vc f G NPh (upA M 206 Y) 0 [(0, .ref (gb G + 205))] []
  refine v_iconst C (nI 0) dX10_sorrowNow_0 (by decide) ?_
  refine v_istore_n C [(1, .int (nI 0)), (0, .ref (gb G + 205))] dX10_sorrowNow_1 rfl (by decide) rfl ?_
  refine v_iconst C (nI 0) dX10_sorrowNow_2 (by decide) ?_
  refine v_istore_n C [(2, .int (nI 0)), (1, .int (nI 0)), (0, .ref (gb G + 205))] dX10_sorrowNow_3 rfl (by decide) rfl ?_
  refine v_sub [0, 1, 2] [(2, .int (nI 0)), (1, .int (nI 0)), (0, .ref (gb G + 205))] rfl ?_
  exact LS _ 0 (nI 0)  rfl (by omega) (by rfl)
