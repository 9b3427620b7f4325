set_option maxHeartbeats 4000000 in
set_option maxRecDepth 100000 in
theorem r_fondest (l : Launch) (G : GC) (M : Mm) (Y : Nat → Int32) (n : Nat) (hn : Y 0 = nI n) (hn2 : n ≤ 10) (c h : Nat) (hc : c < 10) (hh : h < 5) : CP l G 2 yX10_fondest cX10_fondest 5 .int [.ref (gb G + 205), .int (nI c), .int (nI h)] (upA M 206 Y) (fonA Y h c n) := by
  refine Con.of (by decide +kernel) (Nat.le_of_ble_eq_true rfl) ?_
  intro f C hRm hRt _
  have LF : ∀ (kk : Nat) (o : Nat) (a : Int32), n - o = kk → o ≤ n → a = fonA Y h c o → Vc f G NPh (upA M 206 Y) 5 [(4, .int (nI o)), (3, .int a), (0, .ref (gb G + 205)), (1, .int (nI c)), (2, .int (nI h))] [] := by
    intro kk
    induction kk using Nat.strongRecOn with
    | _ kk ihLF =>
      intro o a hkk ho ha
      refine v_iload C 0 dX10_fondest_5 rfl ?_
      refine v_aload_n C 2 dX10_fondest_7 rfl ?_
      refine g_X10_9 C (by decide) sh_205 dX10_fondest_8 ?_
      refine v_iconst C (nI 0) dX10_fondest_11 (by decide) ?_
      refine n_now_ld C (by decide) sh_206 (by omega) (by decide) dX10_fondest_12 ?_
      refine v_top (nI n) hn ?_
      refine n_icmp_ge C (by omega) (by omega) 55 dX10_fondest_13 rfl (fun h_13 => ?_) (fun h_13 => ?_)
      · skip
        refine v_iload_n C 1 dX10_fondest_55 rfl ?_
        exact n_iret C hRt rfl dX10_fondest_56 (by (have h5 : o = n := (by omega)); subst h5; exact ha) rfl
      · skip
        refine v_iload C 0 dX10_fondest_16 rfl ?_
        refine v_iload_n C 3 dX10_fondest_18 rfl ?_
        refine n_icmp_eq C (by omega) (by omega) 47 dX10_fondest_19 rfl (fun h_19 => ?_) (fun h_19 => ?_)
        · skip
          refine v_iload_n C 1 dX10_fondest_47 rfl ?_
          refine v_istore_n C [(3, .int a), (4, .int (nI o)), (0, .ref (gb G + 205)), (1, .int (nI c)), (2, .int (nI h))] dX10_fondest_48 rfl (by decide) rfl ?_
          refine v_iinc C (nI (o + 1)) 1 [(4, .int (nI (o + 1))), (3, .int a), (0, .ref (gb G + 205)), (1, .int (nI c)), (2, .int (nI h))] dX10_fondest_49 rfl (nI_add _ _) (by decide) rfl ?_
          refine v_goto C 5 dX10_fondest_52 rfl ?_
          refine v_sub [0, 1, 2, 3, 4] [(4, .int (nI (o + 1))), (3, .int a), (0, .ref (gb G + 205)), (1, .int (nI c)), (2, .int (nI h))] rfl ?_
          exact ihLF _ (by omega) (o + 1) a  rfl (by omega) (by subst ha; simp only [fonA]; first | rw [if_pos ⟨by assumption, by assumption⟩] | rw [if_neg (fun q => by first | exact absurd q.2 (by assumption) | (have := q.1; omega))])
        · skip
          refine v_aload_n C 2 dX10_fondest_22 rfl ?_
          refine v_iload C 0 dX10_fondest_23 rfl ?_
          refine v_iconst C (nI 4) dX10_fondest_25 (by decide) ?_
          refine n_callVp C hRm [.int (nI o), .int (nI 4)] cw_X10_of ml_X10_86 (by decide) sh_205 (by decide) rfl (r_of l G M Y o 4 (by omega)) (by decide) rfl rfl (Nat.le_of_ble_eq_true rfl) dX10_fondest_26 ?_
          refine v_iload_n C 4 dX10_fondest_29 rfl ?_
          refine v_icmp_ne C 47 dX10_fondest_30 rfl (fun h_30 => ?_) (fun h_30 => ?_)
          · skip
            refine v_iload_n C 1 dX10_fondest_47 rfl ?_
            refine v_istore_n C [(3, .int a), (4, .int (nI o)), (0, .ref (gb G + 205)), (1, .int (nI c)), (2, .int (nI h))] dX10_fondest_48 rfl (by decide) rfl ?_
            refine v_iinc C (nI (o + 1)) 1 [(4, .int (nI (o + 1))), (3, .int a), (0, .ref (gb G + 205)), (1, .int (nI c)), (2, .int (nI h))] dX10_fondest_49 rfl (nI_add _ _) (by decide) rfl ?_
            refine v_goto C 5 dX10_fondest_52 rfl ?_
            refine v_sub [0, 1, 2, 3, 4] [(4, .int (nI (o + 1))), (3, .int a), (0, .ref (gb G + 205)), (1, .int (nI c)), (2, .int (nI h))] rfl ?_
            exact ihLF _ (by omega) (o + 1) a  rfl (by omega) (by subst ha; simp only [fonA]; first | rw [if_pos ⟨by assumption, by assumption⟩] | rw [if_neg (fun q => by first | exact absurd q.2 (by assumption) | (have := q.1; omega))])
          · skip
            refine v_iload_n C 1 dX10_fondest_33 rfl ?_
            refine v_aload_n C 2 dX10_fondest_34 rfl ?_
            refine v_iload C 0 dX10_fondest_35 rfl ?_
            refine v_iload_n C 3 dX10_fondest_37 rfl ?_
            refine n_callVp C hRm [.int (nI o), .int (nI c)] cw_X10_likesOf ml_X10_130 (by decide) sh_205 (by decide) rfl (r_likesOf l G M Y o c (by omega)) (by decide) rfl rfl (Nat.le_of_ble_eq_true rfl) dX10_fondest_38 ?_
            refine v_mmax C hRm (by decide) ml_X10_69 (Nat.le_of_ble_eq_true rfl) dX10_fondest_41 ?_
            refine v_top (maxS a (Y (67 + 10 * o + c))) rfl ?_
            refine v_goto C 48 dX10_fondest_44 rfl ?_
            refine v_istore_n C [(3, .int (maxS a (Y (67 + 10 * o + c)))), (4, .int (nI o)), (0, .ref (gb G + 205)), (1, .int (nI c)), (2, .int (nI h))] dX10_fondest_48 rfl (by decide) rfl ?_
            refine v_iinc C (nI (o + 1)) 1 [(4, .int (nI (o + 1))), (3, .int (maxS a (Y (67 + 10 * o + c)))), (0, .ref (gb G + 205)), (1, .int (nI c)), (2, .int (nI h))] dX10_fondest_49 rfl (nI_add _ _) (by decide) rfl ?_
            refine v_goto C 5 dX10_fondest_52 rfl ?_
            refine v_sub [0, 1, 2, 3, 4] [(4, .int (nI (o + 1))), (3, .int (maxS a (Y (67 + 10 * o + c)))), (0, .ref (gb G + 205)), (1, .int (nI c)), (2, .int (nI h))] rfl ?_
            exact ihLF _ (by omega) (o + 1) (maxS a (Y (67 + 10 * o + c)))  rfl (by omega) (by subst ha; simp only [fonA]; first | rw [if_pos ⟨by assumption, by assumption⟩] | rw [if_neg (fun q => by first | exact absurd q.2 (by assumption) | (have := q.1; omega))])
  show Vc f G NPh (upA M 206 Y) 0 [(0, .ref (gb G + 205)), (1, .int (nI c)), (2, .int (nI h))] []
  refine v_iconst C (nI 0) dX10_fondest_0 (by decide) ?_
  refine v_istore_n C [(3, .int (nI 0)), (0, .ref (gb G + 205)), (1, .int (nI c)), (2, .int (nI h))] dX10_fondest_1 rfl (by decide) rfl ?_
  refine v_iconst C (nI 0) dX10_fondest_2 (by decide) ?_
  refine v_istore C [(4, .int (nI 0)), (3, .int (nI 0)), (0, .ref (gb G + 205)), (1, .int (nI c)), (2, .int (nI h))] dX10_fondest_3 (by decide) rfl ?_
  refine v_sub [0, 1, 2, 3, 4] [(4, .int (nI 0)), (3, .int (nI 0)), (0, .ref (gb G + 205)), (1, .int (nI c)), (2, .int (nI h))] rfl ?_
  exact LF _ 0 (nI 0)  rfl (by omega) rfl
set_option maxHeartbeats 4000000 in
set_option maxRecDepth 100000 in
theorem r_likesNobody (l : Launch) (G : GC) (M : Mm) (Y : Nat → Int32) (n : Nat) (hn : Y 0 = nI n) (hn2 : n ≤ 10) (c h : Nat) (hc : c < 10) (hh : h < 5) : CP l G 2 yX10_likesNobody cX10_likesNobody 5 .boolean [.ref (gb G + 205), .int (nI c), .int (nI h)] (upA M 206 Y) (b2i (nobA Y h c n = true)) := by
  refine Con.of (by decide +kernel) (Nat.le_of_ble_eq_true rfl) ?_
  intro f C hRm hRt _
  have LN : ∀ (kk : Nat) (o : Nat) (a : Int32), n - o = kk → o ≤ n → a = b2i (nobA Y h c o = true) → Vc f G NPh (upA M 206 Y) 5 [(4, .int (nI o)), (3, .int a), (0, .ref (gb G + 205)), (1, .int (nI c)), (2, .int (nI h))] [] := by
    intro kk
    induction kk using Nat.strongRecOn with
    | _ kk ihLN =>
      intro o a hkk ho ha
      refine v_iload C 0 dX10_likesNobody_5 rfl ?_
      refine v_aload_n C 2 dX10_likesNobody_7 rfl ?_
      refine g_X10_9 C (by decide) sh_205 dX10_likesNobody_8 ?_
      refine v_iconst C (nI 0) dX10_likesNobody_11 (by decide) ?_
      refine n_now_ld C (by decide) sh_206 (by omega) (by decide) dX10_likesNobody_12 ?_
      refine v_top (nI n) hn ?_
      refine n_icmp_ge C (by omega) (by omega) 61 dX10_likesNobody_13 rfl (fun h_13 => ?_) (fun h_13 => ?_)
      · skip
        refine v_iload_n C 1 dX10_likesNobody_61 rfl ?_
        (have h5 : o = n := (by omega)); subst h5; subst ha
        exact n_iret C hRt (narrow_01 (b2i_01 _)) dX10_likesNobody_62 rfl rfl
      · skip
        refine v_iload_n C 1 dX10_likesNobody_16 rfl ?_
        refine v_if_eq C 53 dX10_likesNobody_17 rfl (fun h_17 => ?_) (fun h_17 => ?_)
        · skip
          refine v_iconst C (nI 0) dX10_likesNobody_53 (by decide) ?_
          refine v_istore_n C [(3, .int (nI 0)), (4, .int (nI o)), (0, .ref (gb G + 205)), (1, .int (nI c)), (2, .int (nI h))] dX10_likesNobody_54 rfl (by decide) rfl ?_
          refine v_iinc C (nI (o + 1)) 1 [(4, .int (nI (o + 1))), (3, .int (nI 0)), (0, .ref (gb G + 205)), (1, .int (nI c)), (2, .int (nI h))] dX10_likesNobody_55 rfl (nI_add _ _) (by decide) rfl ?_
          refine v_goto C 5 dX10_likesNobody_58 rfl ?_
          refine v_sub [0, 1, 2, 3, 4] [(4, .int (nI (o + 1))), (3, .int (nI 0)), (0, .ref (gb G + 205)), (1, .int (nI c)), (2, .int (nI h))] rfl ?_
          exact ihLN _ (by omega) (o + 1) (nI 0)  rfl (by omega) (by simp only [nobA, Bool.and_eq_true, Bool.not_eq_true', decide_eq_false_iff_not]; first | exact b2i_F (fun q => absurd (b2i_eq0.mp (ha.symm.trans h_17)) (not_not_intro q.1)) | exact b2i_F (fun q => q.2 ⟨by assumption, by assumption, by assumption⟩) | exact b2i_T ⟨Decidable.byContradiction (fun q9 => h_17 (ha.trans (b2i_eq0.mpr q9))), fun q => by first | exact absurd q.2.1 (by assumption) | exact absurd q.2.2 (by assumption) | (have := q.1; omega)⟩)
        · skip
          refine v_iload C 0 dX10_likesNobody_20 rfl ?_
          refine v_iload_n C 3 dX10_likesNobody_22 rfl ?_
          refine n_icmp_eq C (by omega) (by omega) 49 dX10_likesNobody_23 rfl (fun h_23 => ?_) (fun h_23 => ?_)
          · skip
            refine v_iconst C (nI 1) dX10_likesNobody_49 (by decide) ?_
            refine v_goto C 54 dX10_likesNobody_50 rfl ?_
            refine v_istore_n C [(3, .int (nI 1)), (4, .int (nI o)), (0, .ref (gb G + 205)), (1, .int (nI c)), (2, .int (nI h))] dX10_likesNobody_54 rfl (by decide) rfl ?_
            refine v_iinc C (nI (o + 1)) 1 [(4, .int (nI (o + 1))), (3, .int (nI 1)), (0, .ref (gb G + 205)), (1, .int (nI c)), (2, .int (nI h))] dX10_likesNobody_55 rfl (nI_add _ _) (by decide) rfl ?_
            refine v_goto C 5 dX10_likesNobody_58 rfl ?_
            refine v_sub [0, 1, 2, 3, 4] [(4, .int (nI (o + 1))), (3, .int (nI 1)), (0, .ref (gb G + 205)), (1, .int (nI c)), (2, .int (nI h))] rfl ?_
            exact ihLN _ (by omega) (o + 1) (nI 1)  rfl (by omega) (by simp only [nobA, Bool.and_eq_true, Bool.not_eq_true', decide_eq_false_iff_not]; first | exact b2i_F (fun q => absurd (b2i_eq0.mp (ha.symm.trans h_17)) (not_not_intro q.1)) | exact b2i_F (fun q => q.2 ⟨by assumption, by assumption, by assumption⟩) | exact b2i_T ⟨Decidable.byContradiction (fun q9 => h_17 (ha.trans (b2i_eq0.mpr q9))), fun q => by first | exact absurd q.2.1 (by assumption) | exact absurd q.2.2 (by assumption) | (have := q.1; omega)⟩)
          · skip
            refine v_aload_n C 2 dX10_likesNobody_26 rfl ?_
            refine v_iload C 0 dX10_likesNobody_27 rfl ?_
            refine v_iconst C (nI 4) dX10_likesNobody_29 (by decide) ?_
            refine n_callVp C hRm [.int (nI o), .int (nI 4)] cw_X10_of ml_X10_86 (by decide) sh_205 (by decide) rfl (r_of l G M Y o 4 (by omega)) (by decide) rfl rfl (Nat.le_of_ble_eq_true rfl) dX10_likesNobody_30 ?_
            refine v_iload_n C 4 dX10_likesNobody_33 rfl ?_
            refine v_icmp_ne C 49 dX10_likesNobody_34 rfl (fun h_34 => ?_) (fun h_34 => ?_)
            · skip
              refine v_iconst C (nI 1) dX10_likesNobody_49 (by decide) ?_
              refine v_goto C 54 dX10_likesNobody_50 rfl ?_
              refine v_istore_n C [(3, .int (nI 1)), (4, .int (nI o)), (0, .ref (gb G + 205)), (1, .int (nI c)), (2, .int (nI h))] dX10_likesNobody_54 rfl (by decide) rfl ?_
              refine v_iinc C (nI (o + 1)) 1 [(4, .int (nI (o + 1))), (3, .int (nI 1)), (0, .ref (gb G + 205)), (1, .int (nI c)), (2, .int (nI h))] dX10_likesNobody_55 rfl (nI_add _ _) (by decide) rfl ?_
              refine v_goto C 5 dX10_likesNobody_58 rfl ?_
              refine v_sub [0, 1, 2, 3, 4] [(4, .int (nI (o + 1))), (3, .int (nI 1)), (0, .ref (gb G + 205)), (1, .int (nI c)), (2, .int (nI h))] rfl ?_
              exact ihLN _ (by omega) (o + 1) (nI 1)  rfl (by omega) (by simp only [nobA, Bool.and_eq_true, Bool.not_eq_true', decide_eq_false_iff_not]; first | exact b2i_F (fun q => absurd (b2i_eq0.mp (ha.symm.trans h_17)) (not_not_intro q.1)) | exact b2i_F (fun q => q.2 ⟨by assumption, by assumption, by assumption⟩) | exact b2i_T ⟨Decidable.byContradiction (fun q9 => h_17 (ha.trans (b2i_eq0.mpr q9))), fun q => by first | exact absurd q.2.1 (by assumption) | exact absurd q.2.2 (by assumption) | (have := q.1; omega)⟩)
            · skip
              refine v_aload_n C 2 dX10_likesNobody_37 rfl ?_
              refine v_iload_n C 3 dX10_likesNobody_38 rfl ?_
              refine v_iload C 0 dX10_likesNobody_39 rfl ?_
              refine n_callVp C hRm [.int (nI c), .int (nI o)] cw_X10_likesOf ml_X10_130 (by decide) sh_205 (by decide) rfl (r_likesOf l G M Y c o (by omega)) (by decide) rfl rfl (Nat.le_of_ble_eq_true rfl) dX10_likesNobody_41 ?_
              refine v_bipush C (nI 50) dX10_likesNobody_44 (by decide) ?_
              refine v_icmp_ge C 53 dX10_likesNobody_46 rfl (fun h_46 => ?_) (fun h_46 => ?_)
              · skip
                refine v_iconst C (nI 0) dX10_likesNobody_53 (by decide) ?_
                refine v_istore_n C [(3, .int (nI 0)), (4, .int (nI o)), (0, .ref (gb G + 205)), (1, .int (nI c)), (2, .int (nI h))] dX10_likesNobody_54 rfl (by decide) rfl ?_
                refine v_iinc C (nI (o + 1)) 1 [(4, .int (nI (o + 1))), (3, .int (nI 0)), (0, .ref (gb G + 205)), (1, .int (nI c)), (2, .int (nI h))] dX10_likesNobody_55 rfl (nI_add _ _) (by decide) rfl ?_
                refine v_goto C 5 dX10_likesNobody_58 rfl ?_
                refine v_sub [0, 1, 2, 3, 4] [(4, .int (nI (o + 1))), (3, .int (nI 0)), (0, .ref (gb G + 205)), (1, .int (nI c)), (2, .int (nI h))] rfl ?_
                exact ihLN _ (by omega) (o + 1) (nI 0)  rfl (by omega) (by simp only [nobA, Bool.and_eq_true, Bool.not_eq_true', decide_eq_false_iff_not]; first | exact b2i_F (fun q => absurd (b2i_eq0.mp (ha.symm.trans h_17)) (not_not_intro q.1)) | exact b2i_F (fun q => q.2 ⟨by assumption, by assumption, by assumption⟩) | exact b2i_T ⟨Decidable.byContradiction (fun q9 => h_17 (ha.trans (b2i_eq0.mpr q9))), fun q => by first | exact absurd q.2.1 (by assumption) | exact absurd q.2.2 (by assumption) | (have := q.1; omega)⟩)
              · skip
                refine v_iconst C (nI 1) dX10_likesNobody_49 (by decide) ?_
                refine v_goto C 54 dX10_likesNobody_50 rfl ?_
                refine v_istore_n C [(3, .int (nI 1)), (4, .int (nI o)), (0, .ref (gb G + 205)), (1, .int (nI c)), (2, .int (nI h))] dX10_likesNobody_54 rfl (by decide) rfl ?_
                refine v_iinc C (nI (o + 1)) 1 [(4, .int (nI (o + 1))), (3, .int (nI 1)), (0, .ref (gb G + 205)), (1, .int (nI c)), (2, .int (nI h))] dX10_likesNobody_55 rfl (nI_add _ _) (by decide) rfl ?_
                refine v_goto C 5 dX10_likesNobody_58 rfl ?_
                refine v_sub [0, 1, 2, 3, 4] [(4, .int (nI (o + 1))), (3, .int (nI 1)), (0, .ref (gb G + 205)), (1, .int (nI c)), (2, .int (nI h))] rfl ?_
                exact ihLN _ (by omega) (o + 1) (nI 1)  rfl (by omega) (by simp only [nobA, Bool.and_eq_true, Bool.not_eq_true', decide_eq_false_iff_not]; first | exact b2i_F (fun q => absurd (b2i_eq0.mp (ha.symm.trans h_17)) (not_not_intro q.1)) | exact b2i_F (fun q => q.2 ⟨by assumption, by assumption, by assumption⟩) | exact b2i_T ⟨Decidable.byContradiction (fun q9 => h_17 (ha.trans (b2i_eq0.mpr q9))), fun q => by first | exact absurd q.2.1 (by assumption) | exact absurd q.2.2 (by assumption) | (have := q.1; omega)⟩)
  show Vc f G NPh (upA M 206 Y) 0 [(0, .ref (gb G + 205)), (1, .int (nI c)), (2, .int (nI h))] []
  refine v_iconst C (nI 1) dX10_likesNobody_0 (by decide) ?_
  refine v_istore_n C [(3, .int (nI 1)), (0, .ref (gb G + 205)), (1, .int (nI c)), (2, .int (nI h))] dX10_likesNobody_1 rfl (by decide) rfl ?_
  refine v_iconst C (nI 0) dX10_likesNobody_2 (by decide) ?_
  refine v_istore C [(4, .int (nI 0)), (3, .int (nI 1)), (0, .ref (gb G + 205)), (1, .int (nI c)), (2, .int (nI h))] dX10_likesNobody_3 (by decide) rfl ?_
  refine v_sub [0, 1, 2, 3, 4] [(4, .int (nI 0)), (3, .int (nI 1)), (0, .ref (gb G + 205)), (1, .int (nI c)), (2, .int (nI h))] rfl ?_
  exact LN _ 0 (nI 1)  rfl (by omega) (by rfl)
set_option maxHeartbeats 4000000 in
set_option maxRecDepth 100000 in
theorem r_agesApart (l : Launch) (G : GC) (M : Mm) (Y : Nat → Int32) (n : Nat) (hn : Y 0 = nI n) (hn2 : n ≤ 10) (c h : Nat) (hc : c < 10) (hh : h < 5) : CP l G 2 yX10_agesApart cX10_agesApart 4 .int [.ref (gb G + 205), .int (nI c), .int (nI h)] (upA M 206 Y) (ageG Y h c n 0) := by
  refine Con.of (by decide +kernel) (Nat.le_of_ble_eq_true rfl) ?_
  intro f C hRm hRt _
  have LA : ∀ (kk : Nat) (o : Nat), n - o = kk → o ≤ n → ageG Y h c (n - o) o = ageG Y h c n 0 → Vc f G NPh (upA M 206 Y) 2 [(3, .int (nI o)), (0, .ref (gb G + 205)), (1, .int (nI c)), (2, .int (nI h))] [] := by
    intro kk
    induction kk using Nat.strongRecOn with
    | _ kk ihLA =>
      intro o hkk ho ha
      refine v_iload_n C 0 dX10_agesApart_2 rfl ?_
      refine v_aload_n C 1 dX10_agesApart_3 rfl ?_
      refine g_X10_9 C (by decide) sh_205 dX10_agesApart_4 ?_
      refine v_iconst C (nI 0) dX10_agesApart_7 (by decide) ?_
      refine n_now_ld C (by decide) sh_206 (by omega) (by decide) dX10_agesApart_8 ?_
      refine v_top (nI n) hn ?_
      refine n_icmp_ge C (by omega) (by omega) 45 dX10_agesApart_9 rfl (fun h_9 => ?_) (fun h_9 => ?_)
      · skip
        refine v_iconst C (nI 0) dX10_agesApart_45 (by decide) ?_
        exact n_iret C hRt rfl dX10_agesApart_46 (by first | (rw [← ha, show n - o = (n - (o + 1)) + 1 by omega]; exact (if_pos (by assumption)).symm) | (rw [← ha, show n - o = 0 by omega]; rfl)) rfl
      · skip
        refine v_aload_n C 1 dX10_agesApart_12 rfl ?_
        refine v_iload_n C 0 dX10_agesApart_13 rfl ?_
        refine v_iconst C (nI 4) dX10_agesApart_14 (by decide) ?_
        refine n_callVp C hRm [.int (nI o), .int (nI 4)] cw_X10_of ml_X10_86 (by decide) sh_205 (by decide) rfl (r_of l G M Y o 4 (by omega)) (by decide) rfl rfl (Nat.le_of_ble_eq_true rfl) dX10_agesApart_15 ?_
        refine v_iload_n C 3 dX10_agesApart_18 rfl ?_
        refine v_icmp_ne C 39 dX10_agesApart_19 rfl (fun h_19 => ?_) (fun h_19 => ?_)
        · skip
          refine v_iinc C (nI (o + 1)) 0 [(3, .int (nI (o + 1))), (0, .ref (gb G + 205)), (1, .int (nI c)), (2, .int (nI h))] dX10_agesApart_39 rfl (nI_add _ _) (by decide) rfl ?_
          refine v_goto C 2 dX10_agesApart_42 rfl ?_
          refine v_sub [0, 1, 2, 3] [(3, .int (nI (o + 1))), (0, .ref (gb G + 205)), (1, .int (nI c)), (2, .int (nI h))] rfl ?_
          exact ihLA _ (by omega) (o + 1)  rfl (by omega) (by rw [← ha, show n - o = (n - (o + 1)) + 1 by omega]; exact (if_neg h_19).symm)
        · skip
          refine v_aload_n C 1 dX10_agesApart_22 rfl ?_
          refine v_iload_n C 0 dX10_agesApart_23 rfl ?_
          refine v_iconst C (nI 2) dX10_agesApart_24 (by decide) ?_
          refine n_callVp C hRm [.int (nI o), .int (nI 2)] cw_X10_of ml_X10_86 (by decide) sh_205 (by decide) rfl (r_of l G M Y o 2 (by omega)) (by decide) rfl rfl (Nat.le_of_ble_eq_true rfl) dX10_agesApart_25 ?_
          refine v_aload_n C 1 dX10_agesApart_28 rfl ?_
          refine v_iload_n C 2 dX10_agesApart_29 rfl ?_
          refine v_iconst C (nI 2) dX10_agesApart_30 (by decide) ?_
          refine n_callVp C hRm [.int (nI c), .int (nI 2)] cw_X10_of ml_X10_86 (by decide) sh_205 (by decide) rfl (r_of l G M Y c 2 (by omega)) (by decide) rfl rfl (Nat.le_of_ble_eq_true rfl) dX10_agesApart_31 ?_
          refine v_isub C dX10_agesApart_34 ?_
          refine v_mabs C hRm (by decide) ml_X10_133 (Nat.le_of_ble_eq_true rfl) dX10_agesApart_35 ?_
          refine v_top (absS ((Y (7 + 6 * o + 2)) - (Y (7 + 6 * c + 2)))) rfl ?_
          exact n_iret C hRt rfl dX10_agesApart_38 (by first | (rw [← ha, show n - o = (n - (o + 1)) + 1 by omega]; exact (if_pos (by assumption)).symm) | (rw [← ha, show n - o = 0 by omega]; rfl)) rfl
  show Vc f G NPh (upA M 206 Y) 0 [(0, .ref (gb G + 205)), (1, .int (nI c)), (2, .int (nI h))] []
  refine v_iconst C (nI 0) dX10_agesApart_0 (by decide) ?_
  refine v_istore_n C [(3, .int (nI 0)), (0, .ref (gb G + 205)), (1, .int (nI c)), (2, .int (nI h))] dX10_agesApart_1 rfl (by decide) rfl ?_
  refine v_sub [0, 1, 2, 3] [(3, .int (nI 0)), (0, .ref (gb G + 205)), (1, .int (nI c)), (2, .int (nI h))] rfl ?_
  exact LA _ 0  rfl (by omega) rfl
set_option maxHeartbeats 4000000 in
set_option maxRecDepth 100000 in
theorem r_watching (l : Launch) (G : GC) (M : Mm) (Y : Nat → Int32) (c h : Nat) (hj : 187 + 5 * c + h < 445) : CP l G 1 yX10_watching cX10_watching 3 .int [.ref (gb G + 205), .int (nI c), .int (nI h)] (upA M 206 Y) (Y (187 + 5 * c + h)) := by
  refine Con.of (by decide +kernel) (Nat.le_of_ble_eq_true rfl) ?_
  intro f C hRm hRt _
  show Vc f G NPh (upA M 206 Y) 0 [(0, .ref (gb G + 205)), (1, .int (nI c)), (2, .int (nI h))] []
  refine v_aload_n C 0 dX10_watching_0 rfl ?_
  refine g_X10_9 C (by decide) sh_205 dX10_watching_1 ?_
  refine v_sipush C (nI 187) dX10_watching_4 (by decide) ?_
  refine v_iconst C (nI 5) dX10_watching_7 (by decide) ?_
  refine v_iload_n C 1 dX10_watching_8 rfl ?_
  refine n_imul C dX10_watching_9 ?_
  refine n_iadd C dX10_watching_10 ?_
  refine v_iload_n C 2 dX10_watching_11 rfl ?_
  refine n_iadd C dX10_watching_12 ?_
  refine n_now_ld C (by decide) sh_206 (by omega) (by decide) dX10_watching_13 ?_
  exact n_iret C hRt rfl dX10_watching_14 (rfl) (rfl)
