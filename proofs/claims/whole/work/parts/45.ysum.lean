theorem bit_and : ∀ o, o < 10 → ∀ b, b < 1024 → (nI b >>> (nI o &&& 31)) &&& nI 1 = b2i (Nat.testBit b o = true) := by decide +kernel
theorem msk_bit (Y : Nat → Int32) (x : Int32) : ∀ n o, o < n → ((mskA Y x n).testBit o = true ↔ Y (7 + 6 * o + 4) = x)
  | 0, o, h => absurd h (Nat.not_lt_zero o)
  | n + 1, o, h => by
    have hl := mskA_lt Y x n
    unfold mskA
    by_cases hc : Y (7 + 6 * n + 4) = x
    · rw [if_pos hc, Nat.add_comm]
      by_cases he : o = n
      · subst he
        rw [Nat.testBit_two_pow_add_eq, Nat.testBit_lt_two_pow hl]
        exact ⟨fun _ => hc, fun _ => rfl⟩
      · rw [Nat.testBit_two_pow_add_gt (by omega)]
        exact msk_bit Y x n o (by omega)
    · rw [if_neg hc, Nat.add_zero]
      by_cases he : o = n
      · subst he
        rw [Nat.testBit_lt_two_pow hl]
        exact ⟨fun q => Bool.noConfusion q, fun q => absurd q hc⟩
      · exact msk_bit Y x n o (by omega)
theorem no_bit : ∀ c, c < 10 → ∀ o, o < 10 → (Nat.testBit (1023 - 2 ^ c) o = true ↔ o ≠ c) := by decide +kernel
theorem oth_bit (Y : Nat → Int32) {n h c o : Nat} (hn : n ≤ 10) (ho : o < n) (hc : c < 10) : (Nat.testBit (othM Y n h c) o = true ↔ (o ≠ c ∧ Y (7 + 6 * o + 4) = nI h)) := by
  unfold othM
  rw [Nat.testBit_and, Bool.and_eq_true, msk_bit Y _ n o ho, no_bit c hc o (by omega)]
  exact And.comm
theorem nob_f (Y : Nat → Int32) (h c : Nat) : ∀ n o, o < n → (o ≠ c ∧ Y (7 + 6 * o + 4) = nI h ∧ nI 50 ≤ Y (67 + 10 * c + o)) → ¬ nobA Y h c n = true
  | 0, o, ho, _ => absurd ho (Nat.not_lt_zero o)
  | n + 1, o, ho, hc => fun q => by
    unfold nobA at q
    rw [Bool.and_eq_true] at q
    by_cases he : o = n
    · subst he
      have q2 := q.2
      rw [decide_eq_true hc] at q2
      cases q2
    · exact nob_f Y h c n o (by omega) hc q.1
theorem nob_s {Y : Nat → Int32} {h c o : Nat} (h1 : nobA Y h c o = true) (h2 : ¬ (o ≠ c ∧ Y (7 + 6 * o + 4) = nI h ∧ nI 50 ≤ Y (67 + 10 * c + o))) : nobA Y h c (o + 1) = true := by
  unfold nobA
  rw [h1, decide_eq_false h2]
  rfl
set_option maxHeartbeats 4000000 in
set_option maxRecDepth 100000 in
theorem y_wall (l : Launch) (G : GC) (M : Mm) (y : Nat) (hy : yd y) (Y : Nat → Int32) (n hN : Nat) (hR : YR M y Y n hN) (hY : YOk Y n hN) : CP l G 1 yX8_wall cX8_wall 3 .int [.ref (gb G + y)] M (nI (mskA Y (-1) n)) := by
  refine Con.of (by decide +kernel) (Nat.le_of_ble_eq_true rfl) ?_
  intro f C hRm hRt _
  have hyl : y + 60 < 221 := yd_lt hy (by decide)
  have hn2 := hY.1.2.1
  have h5 := hY.1.2.2.2
  have LW : ∀ (kk : Nat) (i : Nat) (a : Int32), n - i = kk → i ≤ n → a = nI (mskA Y (-1) i) → Vc f G NPh M 4 [(2, .int (nI i)), (1, .int a), (0, .ref (gb G + y))] [] := by
    intro kk
    induction kk using Nat.strongRecOn with
    | _ kk ihLW =>
      intro i a hkk hi ha
      refine v_iload_n C 0 dX8_wall_4 rfl ?_
      refine v_aload_n C 2 dX8_wall_5 rfl ?_
      refine g_X8_70 C (show y < 221 from by omega) (s_y hy) dX8_wall_6 ?_
      refine v_top (nI n) (hR.n) ?_
      refine n_icmp_ge C (by omega) (by omega) 37 dX8_wall_9 rfl (fun h_9 => ?_) (fun h_9 => ?_)
      · skip
        refine v_iload_n C 1 dX8_wall_37 rfl ?_
        exact n_iret C hRt rfl dX8_wall_38 (by (have h9 : i = n := by omega); subst h9; exact ha) rfl
      · skip
        refine v_aload_n C 2 dX8_wall_12 rfl ?_
        refine g_X8_11 C (show y < 221 from by omega) (s_y hy) dX8_wall_13 ?_
        refine v_iload_n C 0 dX8_wall_16 rfl ?_
        refine v_aald C rfl (show y + 1 < 221 from by omega) (s_y1 hy) (by decide) (by decide) (show i < 10 from by omega) (by decide) (y + 20 + 3 * i) (by simp only [aOff] <;> omega) dX8_wall_17 ?_
        refine g_X8_82 C (show y + 20 + 3 * i < 221 from by omega) (s_ch hy (by omega)) dX8_wall_18 ?_
        refine v_top (Y (7 + 6 * i + 4)) (hR.at (by omega) (by omega)) ?_
        refine v_iconst C (-1) dX8_wall_21 (by decide) ?_
        refine v_icmp_ne C 31 dX8_wall_22 rfl (fun h_22 => ?_) (fun h_22 => ?_)
        · skip
          refine v_iinc C (nI (i + 1)) 0 [(2, .int (nI (i + 1))), (1, .int a), (0, .ref (gb G + y))] dX8_wall_31 rfl (nI_add _ _) (by decide) rfl ?_
          refine v_goto C 4 dX8_wall_34 rfl ?_
          refine v_sub [0, 1, 2] [(2, .int (nI (i + 1))), (1, .int a), (0, .ref (gb G + y))] rfl ?_
          exact ihLW _ (by omega) (i + 1) a rfl (by omega) (by subst ha; simp only [mskA]; first | (rw [if_pos h_22]; exact or_bit i (by omega) _ (mskA_lt _ _ _)) | (rw [if_neg h_22]; rfl))
        · skip
          refine v_iload_n C 1 dX8_wall_25 rfl ?_
          refine v_iconst C (nI 1) dX8_wall_26 (by decide) ?_
          refine v_iload_n C 0 dX8_wall_27 rfl ?_
          refine v_ishl C dX8_wall_28 ?_
          refine v_ior C dX8_wall_29 ?_
          refine v_istore_n C [(1, .int (a ||| ((nI 1) <<< ((nI i) &&& 31)))), (2, .int (nI i)), (0, .ref (gb G + y))] dX8_wall_30 rfl (by decide) rfl ?_
          refine v_iinc C (nI (i + 1)) 1 [(2, .int (nI (i + 1))), (1, .int (a ||| ((nI 1) <<< ((nI i) &&& 31)))), (0, .ref (gb G + y))] dX8_wall_31 rfl (nI_add _ _) (by decide) rfl ?_
          refine v_goto C 4 dX8_wall_34 rfl ?_
          refine v_sub [0, 1, 2] [(2, .int (nI (i + 1))), (1, .int (a ||| ((nI 1) <<< ((nI i) &&& 31)))), (0, .ref (gb G + y))] rfl ?_
          exact ihLW _ (by omega) (i + 1) (a ||| ((nI 1) <<< ((nI i) &&& 31))) rfl (by omega) (by subst ha; simp only [mskA]; first | (rw [if_pos h_22]; exact or_bit i (by omega) _ (mskA_lt _ _ _)) | (rw [if_neg h_22]; rfl))
  show Vc f G NPh M 0 [(0, .ref (gb G + y))] []
  refine v_iconst C (nI 0) dX8_wall_0 (by decide) ?_
  refine v_istore_n C [(1, .int (nI 0)), (0, .ref (gb G + y))] dX8_wall_1 rfl (by decide) rfl ?_
  refine v_iconst C (nI 0) dX8_wall_2 (by decide) ?_
  refine v_istore_n C [(2, .int (nI 0)), (1, .int (nI 0)), (0, .ref (gb G + y))] dX8_wall_3 rfl (by decide) rfl ?_
  refine v_sub [0, 1, 2] [(2, .int (nI 0)), (1, .int (nI 0)), (0, .ref (gb G + y))] rfl ?_
  exact LW _ 0 (nI 0) rfl (by omega) rfl
set_option maxHeartbeats 4000000 in
set_option maxRecDepth 100000 in
theorem y_grief (l : Launch) (G : GC) (M : Mm) (y : Nat) (hy : yd y) (Y : Nat → Int32) (n hN : Nat) (hR : YR M y Y n hN) (hY : YOk Y n hN) : CP l G 1 yX8_grief cX8_grief 3 .int [.ref (gb G + y)] M (sorA Y n) := by
  refine Con.of (by decide +kernel) (Nat.le_of_ble_eq_true rfl) ?_
  intro f C hRm hRt _
  have hyl : y + 60 < 221 := yd_lt hy (by decide)
  have hn2 := hY.1.2.1
  have h5 := hY.1.2.2.2
  have LG : ∀ (kk : Nat) (i : Nat) (a : Int32), n - i = kk → i ≤ n → a = sorA Y i → Vc f G NPh M 4 [(2, .int (nI i)), (1, .int a), (0, .ref (gb G + y))] [] := by
    intro kk
    induction kk using Nat.strongRecOn with
    | _ kk ihLG =>
      intro i a hkk hi ha
      refine v_iload_n C 0 dX8_grief_4 rfl ?_
      refine v_aload_n C 2 dX8_grief_5 rfl ?_
      refine g_X8_70 C (show y < 221 from by omega) (s_y hy) dX8_grief_6 ?_
      refine v_top (nI n) (hR.n) ?_
      refine n_icmp_ge C (by omega) (by omega) 43 dX8_grief_9 rfl (fun h_9 => ?_) (fun h_9 => ?_)
      · skip
        refine v_iload_n C 1 dX8_grief_43 rfl ?_
        exact n_iret C hRt rfl dX8_grief_44 (by (have h9 : i = n := by omega); subst h9; exact ha) rfl
      · skip
        refine v_aload_n C 2 dX8_grief_12 rfl ?_
        refine g_X8_11 C (show y < 221 from by omega) (s_y hy) dX8_grief_13 ?_
        refine v_iload_n C 0 dX8_grief_16 rfl ?_
        refine v_aald C rfl (show y + 1 < 221 from by omega) (s_y1 hy) (by decide) (by decide) (show i < 10 from by omega) (by decide) (y + 20 + 3 * i) (by simp only [aOff] <;> omega) dX8_grief_17 ?_
        refine g_X8_85 C (show y + 20 + 3 * i < 221 from by omega) (s_ch hy (by omega)) dX8_grief_18 ?_
        refine v_top (Y (7 + 6 * i + 3)) (hR.ch (by omega) (by omega) (by omega)) ?_
        refine v_iconst C (nI 1) dX8_grief_21 (by decide) ?_
        refine v_icmp_ne C 37 dX8_grief_22 rfl (fun h_22 => ?_) (fun h_22 => ?_)
        · skip
          refine v_iinc C (nI (i + 1)) 0 [(2, .int (nI (i + 1))), (1, .int a), (0, .ref (gb G + y))] dX8_grief_37 rfl (nI_add _ _) (by decide) rfl ?_
          refine v_goto C 4 dX8_grief_40 rfl ?_
          refine v_sub [0, 1, 2] [(2, .int (nI (i + 1))), (1, .int a), (0, .ref (gb G + y))] rfl ?_
          exact ihLG _ (by omega) (i + 1) a rfl (by omega) (by subst ha; simp only [sorA]; first | rw [if_pos h_22] | rw [if_neg h_22, nI_0, Int32.add_zero])
        · skip
          refine v_iload_n C 1 dX8_grief_25 rfl ?_
          refine v_aload_n C 2 dX8_grief_26 rfl ?_
          refine g_X8_11 C (show y < 221 from by omega) (s_y hy) dX8_grief_27 ?_
          refine v_iload_n C 0 dX8_grief_30 rfl ?_
          refine v_aald C rfl (show y + 1 < 221 from by omega) (s_y1 hy) (by decide) (by decide) (show i < 10 from by omega) (by decide) (y + 20 + 3 * i) (by simp only [aOff] <;> omega) dX8_grief_31 ?_
          refine g_X8_88 C (show y + 20 + 3 * i < 221 from by omega) (s_ch hy (by omega)) dX8_grief_32 ?_
          refine v_top (Y (7 + 6 * i + 5)) (hR.ch (by omega) (by omega) (by omega)) ?_
          refine v_iadd C dX8_grief_35 ?_
          refine v_istore_n C [(1, .int (a + (Y (7 + 6 * i + 5)))), (2, .int (nI i)), (0, .ref (gb G + y))] dX8_grief_36 rfl (by decide) rfl ?_
          refine v_iinc C (nI (i + 1)) 1 [(2, .int (nI (i + 1))), (1, .int (a + (Y (7 + 6 * i + 5)))), (0, .ref (gb G + y))] dX8_grief_37 rfl (nI_add _ _) (by decide) rfl ?_
          refine v_goto C 4 dX8_grief_40 rfl ?_
          refine v_sub [0, 1, 2] [(2, .int (nI (i + 1))), (1, .int (a + (Y (7 + 6 * i + 5)))), (0, .ref (gb G + y))] rfl ?_
          exact ihLG _ (by omega) (i + 1) (a + (Y (7 + 6 * i + 5))) rfl (by omega) (by subst ha; simp only [sorA]; first | rw [if_pos h_22] | rw [if_neg h_22, nI_0, Int32.add_zero])
  show Vc f G NPh M 0 [(0, .ref (gb G + y))] []
  refine v_iconst C (nI 0) dX8_grief_0 (by decide) ?_
  refine v_istore_n C [(1, .int (nI 0)), (0, .ref (gb G + y))] dX8_grief_1 rfl (by decide) rfl ?_
  refine v_iconst C (nI 0) dX8_grief_2 (by decide) ?_
  refine v_istore_n C [(2, .int (nI 0)), (1, .int (nI 0)), (0, .ref (gb G + y))] dX8_grief_3 rfl (by decide) rfl ?_
  refine v_sub [0, 1, 2] [(2, .int (nI 0)), (1, .int (nI 0)), (0, .ref (gb G + y))] rfl ?_
  exact LG _ 0 (nI 0) rfl (by omega) rfl
set_option maxHeartbeats 4000000 in
set_option maxRecDepth 100000 in
theorem y_warmth (l : Launch) (G : GC) (M : Mm) (y : Nat) (hy : yd y) (Y : Nat → Int32) (n hN : Nat) (hR : YR M y Y n hN) (hY : YOk Y n hN) (c h : Nat) (hc : c < 10) (hh : h < 5) : CP l G 2 yX8_warmth cX8_warmth 6 .int [.ref (gb G + y), .int (nI c), .int (nI h)] M (warmS Y n h c) := by
  refine Con.of (by decide +kernel) (Nat.le_of_ble_eq_true rfl) ?_
  intro f C hRm hRt _
  have hyl : y + 60 < 221 := yd_lt hy (by decide)
  have hn2 := hY.1.2.1
  have h5 := hY.1.2.2.2
  have hb9 := othM_lt Y h c hn2
  have LW : ∀ (kk : Nat) (o : Nat) (a : Int32), n - o = kk → o ≤ n → othM Y n h c ≠ 0 → a = sumW Y (othM Y n h c) c o → Vc f G NPh M 28 [(5, .int (nI o)), (4, .int a), (3, .int (nI (othM Y n h c))), (0, .ref (gb G + y)), (1, .int (nI c)), (2, .int (nI h))] [] := by
    intro kk
    induction kk using Nat.strongRecOn with
    | _ kk ihLW =>
      intro o a hkk ho hz ha
      refine v_iload C 0 dX8_warmth_28 rfl ?_
      refine v_aload_n C 3 dX8_warmth_30 rfl ?_
      refine g_X8_70 C (show y < 221 from by omega) (s_y hy) dX8_warmth_31 ?_
      refine v_top (nI n) (hR.n) ?_
      refine n_icmp_ge C (by omega) (by omega) 69 dX8_warmth_34 rfl (fun h_34 => ?_) (fun h_34 => ?_)
      · skip
        refine v_iload C 1 dX8_warmth_69 rfl ?_
        refine v_iload_n C 2 dX8_warmth_71 rfl ?_
        refine n_callSp C hRm [.int (nI (othM Y n h c))] cw_J6_bitCount_0f7a4 st_J6_bitCount_0f7a4 ml_X8_109 (j_bitCount l G M (othM Y n h c) (by omega)) (by decide) rfl rfl (Nat.le_of_ble_eq_true rfl) dX8_warmth_72 ?_
        refine v_idiv C dX8_warmth_75 (pop_ne _ hb9 hz) ?_
        exact n_iret C hRt rfl dX8_warmth_76 (by (have h9 : o = n := by omega); subst h9; subst ha; unfold warmS; rw [if_neg hz]) rfl
      · skip
        refine v_iload_n C 2 dX8_warmth_37 rfl ?_
        refine v_iload C 0 dX8_warmth_38 rfl ?_
        refine v_ishr C dX8_warmth_40 ?_
        refine v_iconst C (nI 1) dX8_warmth_41 (by decide) ?_
        refine v_iand C dX8_warmth_42 ?_
        refine v_top (b2i (Nat.testBit (othM Y n h c) o = true)) (bit_and o (by omega) _ hb9) ?_
        refine nb_if_eq C 63 dX8_warmth_43 rfl (fun h_43 => ?_) (fun h_43 => ?_)
        · skip
          refine v_iinc C (nI (o + 1)) 0 [(5, .int (nI (o + 1))), (4, .int a), (3, .int (nI (othM Y n h c))), (0, .ref (gb G + y)), (1, .int (nI c)), (2, .int (nI h))] dX8_warmth_63 rfl (nI_add _ _) (by decide) rfl ?_
          refine v_goto C 28 dX8_warmth_66 rfl ?_
          refine v_sub [0, 1, 2, 3, 4, 5] [(5, .int (nI (o + 1))), (4, .int a), (3, .int (nI (othM Y n h c))), (0, .ref (gb G + y)), (1, .int (nI c)), (2, .int (nI h))] rfl ?_
          exact ihLW _ (by omega) (o + 1) a rfl (by omega) hz (by subst ha; simp only [sumW]; first | rw [if_pos h_43] | rw [if_neg h_43, nI_0, Int32.add_zero])
        · skip
          refine v_iload C 1 dX8_warmth_46 rfl ?_
          refine v_aload_n C 3 dX8_warmth_48 rfl ?_
          refine g_X8_11 C (show y < 221 from by omega) (s_y hy) dX8_warmth_49 ?_
          refine v_iload C 0 dX8_warmth_52 rfl ?_
          refine v_aald C rfl (show y + 1 < 221 from by omega) (s_y1 hy) (by decide) (by decide) (show o < 10 from by omega) (by decide) (y + 20 + 3 * o) (by simp only [aOff] <;> omega) dX8_warmth_54 ?_
          refine g_X8_106 C (show y + 20 + 3 * o < 221 from by omega) (s_ch hy (by omega)) dX8_warmth_55 ?_
          refine v_iload_n C 4 dX8_warmth_58 rfl ?_
          refine v_iald C (show y + 20 + 3 * o + 1 < 221 from by omega) (s_lk hy (by omega)) (by omega) (by decide) dX8_warmth_59 ?_
          refine v_top (Y (67 + 10 * o + c)) (hR.lk (by omega) (by omega)) ?_
          refine v_iadd C dX8_warmth_60 ?_
          refine v_istore C [(4, .int (a + (Y (67 + 10 * o + c)))), (5, .int (nI o)), (3, .int (nI (othM Y n h c))), (0, .ref (gb G + y)), (1, .int (nI c)), (2, .int (nI h))] dX8_warmth_61 (by decide) rfl ?_
          refine v_iinc C (nI (o + 1)) 1 [(5, .int (nI (o + 1))), (4, .int (a + (Y (67 + 10 * o + c)))), (3, .int (nI (othM Y n h c))), (0, .ref (gb G + y)), (1, .int (nI c)), (2, .int (nI h))] dX8_warmth_63 rfl (nI_add _ _) (by decide) rfl ?_
          refine v_goto C 28 dX8_warmth_66 rfl ?_
          refine v_sub [0, 1, 2, 3, 4, 5] [(5, .int (nI (o + 1))), (4, .int (a + (Y (67 + 10 * o + c)))), (3, .int (nI (othM Y n h c))), (0, .ref (gb G + y)), (1, .int (nI c)), (2, .int (nI h))] rfl ?_
          exact ihLW _ (by omega) (o + 1) (a + (Y (67 + 10 * o + c))) rfl (by omega) hz (by subst ha; simp only [sumW]; first | rw [if_pos h_43] | rw [if_neg h_43, nI_0, Int32.add_zero])
  show Vc f G NPh M 0 [(0, .ref (gb G + y)), (1, .int (nI c)), (2, .int (nI h))] []
  refine v_aload_n C 0 dX8_warmth_0 rfl ?_
  refine g_X8_19 C (show y < 221 from by omega) (s_y hy) dX8_warmth_1 ?_
  refine v_iload_n C 2 dX8_warmth_4 rfl ?_
  refine v_aald C rfl (show y + 2 < 221 from by omega) (s_y2 hy) (by decide) (by decide) (show h < 5 from by omega) (by decide) (y + 50 + h) (by simp only [aOff] <;> omega) dX8_warmth_5 ?_
  refine g_X8_91 C (show y + 50 + h < 221 from by omega) (s_hp hy (by omega)) dX8_warmth_6 ?_
  refine v_top (nI (mskA Y (nI h) n)) (hR.ins (by omega)) ?_
  refine v_iconst C (nI 1) dX8_warmth_9 (by decide) ?_
  refine v_iload_n C 1 dX8_warmth_10 rfl ?_
  refine v_ishl C dX8_warmth_11 ?_
  refine v_iconst C (-1) dX8_warmth_12 (by decide) ?_
  refine v_ixor C dX8_warmth_13 ?_
  refine v_iand C dX8_warmth_14 ?_
  refine v_top (nI (othM Y n h c)) (oth_eq c (by omega) _ (msk_1024 _ _ hn2)) ?_
  refine v_istore_n C [(3, .int (nI (othM Y n h c))), (0, .ref (gb G + y)), (1, .int (nI c)), (2, .int (nI h))] dX8_warmth_15 rfl (by decide) rfl ?_
  refine v_iload_n C 0 dX8_warmth_16 rfl ?_
  refine n_if_ne C (by omega) 22 dX8_warmth_17 rfl (fun h_17 => ?_) (fun h_17 => ?_)
  · skip
    refine v_iconst C (nI 0) dX8_warmth_22 (by decide) ?_
    refine v_istore C [(4, .int (nI 0)), (3, .int (nI (othM Y n h c))), (0, .ref (gb G + y)), (1, .int (nI c)), (2, .int (nI h))] dX8_warmth_23 (by decide) rfl ?_
    refine v_iconst C (nI 0) dX8_warmth_25 (by decide) ?_
    refine v_istore C [(5, .int (nI 0)), (4, .int (nI 0)), (3, .int (nI (othM Y n h c))), (0, .ref (gb G + y)), (1, .int (nI c)), (2, .int (nI h))] dX8_warmth_26 (by decide) rfl ?_
    refine v_sub [0, 1, 2, 3, 4, 5] [(5, .int (nI 0)), (4, .int (nI 0)), (3, .int (nI (othM Y n h c))), (0, .ref (gb G + y)), (1, .int (nI c)), (2, .int (nI h))] rfl ?_
    exact LW _ 0 (nI 0) rfl (by omega) h_17 rfl
  · skip
    refine v_iconst C (nI 0) dX8_warmth_20 (by decide) ?_
    exact n_iret C hRt rfl dX8_warmth_21 (by unfold warmS; rw [if_pos h_17]) rfl
set_option maxHeartbeats 4000000 in
set_option maxRecDepth 100000 in
theorem y_fondest (l : Launch) (G : GC) (M : Mm) (y : Nat) (hy : yd y) (Y : Nat → Int32) (n hN : Nat) (hR : YR M y Y n hN) (hY : YOk Y n hN) (c h : Nat) (hc : c < 10) (hh : h < 5) : CP l G 2 yX8_fondest cX8_fondest 6 .int [.ref (gb G + y), .int (nI c), .int (nI h)] M (fonA Y h c n) := by
  refine Con.of (by decide +kernel) (Nat.le_of_ble_eq_true rfl) ?_
  intro f C hRm hRt _
  have hyl : y + 60 < 221 := yd_lt hy (by decide)
  have hn2 := hY.1.2.1
  have h5 := hY.1.2.2.2
  have hb9 := othM_lt Y h c hn2
  have LF : ∀ (kk : Nat) (o : Nat) (a : Int32), n - o = kk → o ≤ n → a = fonA Y h c o → Vc f G NPh M 22 [(5, .int (nI o)), (4, .int a), (3, .int (nI (othM Y n h c))), (0, .ref (gb G + y)), (1, .int (nI c)), (2, .int (nI h))] [] := by
    intro kk
    induction kk using Nat.strongRecOn with
    | _ kk ihLF =>
      intro o a hkk ho ha
      refine v_iload C 0 dX8_fondest_22 rfl ?_
      refine v_aload_n C 3 dX8_fondest_24 rfl ?_
      refine g_X8_70 C (show y < 221 from by omega) (s_y hy) dX8_fondest_25 ?_
      refine v_top (nI n) (hR.n) ?_
      refine n_icmp_ge C (by omega) (by omega) 65 dX8_fondest_28 rfl (fun h_28 => ?_) (fun h_28 => ?_)
      · skip
        refine v_iload C 1 dX8_fondest_65 rfl ?_
        exact n_iret C hRt rfl dX8_fondest_67 (by (have h9 : o = n := by omega); subst h9; exact ha) rfl
      · skip
        refine v_iload_n C 2 dX8_fondest_31 rfl ?_
        refine v_iload C 0 dX8_fondest_32 rfl ?_
        refine v_ishr C dX8_fondest_34 ?_
        refine v_iconst C (nI 1) dX8_fondest_35 (by decide) ?_
        refine v_iand C dX8_fondest_36 ?_
        refine v_top (b2i (Nat.testBit (othM Y n h c) o = true)) (bit_and o (by omega) _ hb9) ?_
        refine nb_if_eq C 59 dX8_fondest_37 rfl (fun h_37 => ?_) (fun h_37 => ?_)
        · skip
          refine v_iinc C (nI (o + 1)) 0 [(5, .int (nI (o + 1))), (4, .int a), (3, .int (nI (othM Y n h c))), (0, .ref (gb G + y)), (1, .int (nI c)), (2, .int (nI h))] dX8_fondest_59 rfl (nI_add _ _) (by decide) rfl ?_
          refine v_goto C 22 dX8_fondest_62 rfl ?_
          refine v_sub [0, 1, 2, 3, 4, 5] [(5, .int (nI (o + 1))), (4, .int a), (3, .int (nI (othM Y n h c))), (0, .ref (gb G + y)), (1, .int (nI c)), (2, .int (nI h))] rfl ?_
          exact ihLF _ (by omega) (o + 1) a rfl (by omega) (by subst ha; simp only [fonA]; first | exact (if_pos ((oth_bit Y hn2 (by omega) hc).mp h_37)).symm | exact (if_neg (fun q => h_37 ((oth_bit Y hn2 (by omega) hc).mpr q))).symm)
        · skip
          refine v_iload C 1 dX8_fondest_40 rfl ?_
          refine v_aload_n C 3 dX8_fondest_42 rfl ?_
          refine g_X8_11 C (show y < 221 from by omega) (s_y hy) dX8_fondest_43 ?_
          refine v_iload C 0 dX8_fondest_46 rfl ?_
          refine v_aald C rfl (show y + 1 < 221 from by omega) (s_y1 hy) (by decide) (by decide) (show o < 10 from by omega) (by decide) (y + 20 + 3 * o) (by simp only [aOff] <;> omega) dX8_fondest_48 ?_
          refine g_X8_106 C (show y + 20 + 3 * o < 221 from by omega) (s_ch hy (by omega)) dX8_fondest_49 ?_
          refine v_iload_n C 4 dX8_fondest_52 rfl ?_
          refine v_iald C (show y + 20 + 3 * o + 1 < 221 from by omega) (s_lk hy (by omega)) (by omega) (by decide) dX8_fondest_53 ?_
          refine v_top (Y (67 + 10 * o + c)) (hR.lk (by omega) (by omega)) ?_
          refine v_mmax C hRm (by decide) ml_X8_115 (Nat.le_of_ble_eq_true rfl) dX8_fondest_54 ?_
          refine v_top (maxS a (Y (67 + 10 * o + c))) rfl ?_
          refine v_istore C [(4, .int (maxS a (Y (67 + 10 * o + c)))), (5, .int (nI o)), (3, .int (nI (othM Y n h c))), (0, .ref (gb G + y)), (1, .int (nI c)), (2, .int (nI h))] dX8_fondest_57 (by decide) rfl ?_
          refine v_iinc C (nI (o + 1)) 1 [(5, .int (nI (o + 1))), (4, .int (maxS a (Y (67 + 10 * o + c)))), (3, .int (nI (othM Y n h c))), (0, .ref (gb G + y)), (1, .int (nI c)), (2, .int (nI h))] dX8_fondest_59 rfl (nI_add _ _) (by decide) rfl ?_
          refine v_goto C 22 dX8_fondest_62 rfl ?_
          refine v_sub [0, 1, 2, 3, 4, 5] [(5, .int (nI (o + 1))), (4, .int (maxS a (Y (67 + 10 * o + c)))), (3, .int (nI (othM Y n h c))), (0, .ref (gb G + y)), (1, .int (nI c)), (2, .int (nI h))] rfl ?_
          exact ihLF _ (by omega) (o + 1) (maxS a (Y (67 + 10 * o + c))) rfl (by omega) (by subst ha; simp only [fonA]; first | exact (if_pos ((oth_bit Y hn2 (by omega) hc).mp h_37)).symm | exact (if_neg (fun q => h_37 ((oth_bit Y hn2 (by omega) hc).mpr q))).symm)
  show Vc f G NPh M 0 [(0, .ref (gb G + y)), (1, .int (nI c)), (2, .int (nI h))] []
  refine v_aload_n C 0 dX8_fondest_0 rfl ?_
  refine g_X8_19 C (show y < 221 from by omega) (s_y hy) dX8_fondest_1 ?_
  refine v_iload_n C 2 dX8_fondest_4 rfl ?_
  refine v_aald C rfl (show y + 2 < 221 from by omega) (s_y2 hy) (by decide) (by decide) (show h < 5 from by omega) (by decide) (y + 50 + h) (by simp only [aOff] <;> omega) dX8_fondest_5 ?_
  refine g_X8_91 C (show y + 50 + h < 221 from by omega) (s_hp hy (by omega)) dX8_fondest_6 ?_
  refine v_top (nI (mskA Y (nI h) n)) (hR.ins (by omega)) ?_
  refine v_iconst C (nI 1) dX8_fondest_9 (by decide) ?_
  refine v_iload_n C 1 dX8_fondest_10 rfl ?_
  refine v_ishl C dX8_fondest_11 ?_
  refine v_iconst C (-1) dX8_fondest_12 (by decide) ?_
  refine v_ixor C dX8_fondest_13 ?_
  refine v_iand C dX8_fondest_14 ?_
  refine v_top (nI (othM Y n h c)) (oth_eq c (by omega) _ (msk_1024 _ _ hn2)) ?_
  refine v_istore_n C [(3, .int (nI (othM Y n h c))), (0, .ref (gb G + y)), (1, .int (nI c)), (2, .int (nI h))] dX8_fondest_15 rfl (by decide) rfl ?_
  refine v_iconst C (nI 0) dX8_fondest_16 (by decide) ?_
  refine v_istore C [(4, .int (nI 0)), (3, .int (nI (othM Y n h c))), (0, .ref (gb G + y)), (1, .int (nI c)), (2, .int (nI h))] dX8_fondest_17 (by decide) rfl ?_
  refine v_iconst C (nI 0) dX8_fondest_19 (by decide) ?_
  refine v_istore C [(5, .int (nI 0)), (4, .int (nI 0)), (3, .int (nI (othM Y n h c))), (0, .ref (gb G + y)), (1, .int (nI c)), (2, .int (nI h))] dX8_fondest_20 (by decide) rfl ?_
  refine v_sub [0, 1, 2, 3, 4, 5] [(5, .int (nI 0)), (4, .int (nI 0)), (3, .int (nI (othM Y n h c))), (0, .ref (gb G + y)), (1, .int (nI c)), (2, .int (nI h))] rfl ?_
  exact LF _ 0 (nI 0) rfl (by omega) rfl
set_option maxHeartbeats 4000000 in
set_option maxRecDepth 100000 in
theorem y_hasFriend (l : Launch) (G : GC) (M : Mm) (y : Nat) (hy : yd y) (Y : Nat → Int32) (n hN : Nat) (hR : YR M y Y n hN) (hY : YOk Y n hN) (c h : Nat) (hc : c < 10) (hh : h < 5) : CP l G 1 yX8_hasFriend cX8_hasFriend 5 .boolean [.ref (gb G + y), .int (nI c), .int (nI h)] M (b2i (¬ nobA Y h c n = true)) := by
  refine Con.of (by decide +kernel) (Nat.le_of_ble_eq_true rfl) ?_
  intro f C hRm hRt _
  have hyl : y + 60 < 221 := yd_lt hy (by decide)
  have hn2 := hY.1.2.1
  have h5 := hY.1.2.2.2
  have hb9 := othM_lt Y h c hn2
  have LH : ∀ (kk : Nat) (o : Nat), n - o = kk → o ≤ n → nobA Y h c o = true → Vc f G NPh M 19 [(4, .int (nI o)), (3, .int (nI (othM Y n h c))), (0, .ref (gb G + y)), (1, .int (nI c)), (2, .int (nI h))] [] := by
    intro kk
    induction kk using Nat.strongRecOn with
    | _ kk ihLH =>
      intro o hkk ho ha
      refine v_iload C 0 dX8_hasFriend_19 rfl ?_
      refine v_aload_n C 2 dX8_hasFriend_21 rfl ?_
      refine g_X8_70 C (show y < 221 from by omega) (s_y hy) dX8_hasFriend_22 ?_
      refine v_top (nI n) (hR.n) ?_
      refine n_icmp_ge C (by omega) (by omega) 62 dX8_hasFriend_25 rfl (fun h_25 => ?_) (fun h_25 => ?_)
      · skip
        refine v_iconst C (nI 0) dX8_hasFriend_62 (by decide) ?_
        exact n_iret C hRt rfl dX8_hasFriend_63 (b2i_F (fun q => q (by (have h9 : o = n := by omega); subst h9; exact ha))) rfl
      · skip
        refine v_iload_n C 1 dX8_hasFriend_28 rfl ?_
        refine v_iload C 0 dX8_hasFriend_29 rfl ?_
        refine v_ishr C dX8_hasFriend_31 ?_
        refine v_iconst C (nI 1) dX8_hasFriend_32 (by decide) ?_
        refine v_iand C dX8_hasFriend_33 ?_
        refine v_top (b2i (Nat.testBit (othM Y n h c) o = true)) (bit_and o (by omega) _ hb9) ?_
        refine nb_if_eq C 56 dX8_hasFriend_34 rfl (fun h_34 => ?_) (fun h_34 => ?_)
        · skip
          refine v_iinc C (nI (o + 1)) 0 [(4, .int (nI (o + 1))), (3, .int (nI (othM Y n h c))), (0, .ref (gb G + y)), (1, .int (nI c)), (2, .int (nI h))] dX8_hasFriend_56 rfl (nI_add _ _) (by decide) rfl ?_
          refine v_goto C 19 dX8_hasFriend_59 rfl ?_
          refine v_sub [0, 1, 2, 3, 4] [(4, .int (nI (o + 1))), (3, .int (nI (othM Y n h c))), (0, .ref (gb G + y)), (1, .int (nI c)), (2, .int (nI h))] rfl ?_
          exact ihLH _ (by omega) (o + 1) rfl (by omega) (nob_s ha (fun q => h_34 ((oth_bit Y hn2 (by omega) hc).mpr ⟨q.1, q.2.1⟩)))
        · skip
          refine v_aload_n C 2 dX8_hasFriend_37 rfl ?_
          refine g_X8_11 C (show y < 221 from by omega) (s_y hy) dX8_hasFriend_38 ?_
          refine v_iload_n C 3 dX8_hasFriend_41 rfl ?_
          refine v_aald C rfl (show y + 1 < 221 from by omega) (s_y1 hy) (by decide) (by decide) (show c < 10 from by omega) (by decide) (y + 20 + 3 * c) (by simp only [aOff] <;> omega) dX8_hasFriend_42 ?_
          refine g_X8_106 C (show y + 20 + 3 * c < 221 from by omega) (s_ch hy (by omega)) dX8_hasFriend_43 ?_
          refine v_iload C 0 dX8_hasFriend_46 rfl ?_
          refine v_iald C (show y + 20 + 3 * c + 1 < 221 from by omega) (s_lk hy (by omega)) (by omega) (by decide) dX8_hasFriend_48 ?_
          refine v_top (Y (67 + 10 * c + o)) (hR.lk (by omega) (by omega)) ?_
          refine v_bipush C (nI 50) dX8_hasFriend_49 (by decide) ?_
          refine v_icmp_lt C 56 dX8_hasFriend_51 rfl (fun h_51 => ?_) (fun h_51 => ?_)
          · skip
            refine v_iinc C (nI (o + 1)) 0 [(4, .int (nI (o + 1))), (3, .int (nI (othM Y n h c))), (0, .ref (gb G + y)), (1, .int (nI c)), (2, .int (nI h))] dX8_hasFriend_56 rfl (nI_add _ _) (by decide) rfl ?_
            refine v_goto C 19 dX8_hasFriend_59 rfl ?_
            refine v_sub [0, 1, 2, 3, 4] [(4, .int (nI (o + 1))), (3, .int (nI (othM Y n h c))), (0, .ref (gb G + y)), (1, .int (nI c)), (2, .int (nI h))] rfl ?_
            exact ihLH _ (by omega) (o + 1) rfl (by omega) (nob_s ha (fun q => absurd h_51 (Int32.not_lt.mpr q.2.2)))
          · skip
            refine v_iconst C (nI 1) dX8_hasFriend_54 (by decide) ?_
            exact n_iret C hRt rfl dX8_hasFriend_55 (b2i_T (nob_f Y h c n o (by omega) (by have q := (oth_bit Y hn2 (by omega) hc).mp h_34; exact ⟨q.1, q.2, Int32.not_lt.mp h_51⟩))) rfl
  show Vc f G NPh M 0 [(0, .ref (gb G + y)), (1, .int (nI c)), (2, .int (nI h))] []
  refine v_aload_n C 0 dX8_hasFriend_0 rfl ?_
  refine g_X8_19 C (show y < 221 from by omega) (s_y hy) dX8_hasFriend_1 ?_
  refine v_iload_n C 2 dX8_hasFriend_4 rfl ?_
  refine v_aald C rfl (show y + 2 < 221 from by omega) (s_y2 hy) (by decide) (by decide) (show h < 5 from by omega) (by decide) (y + 50 + h) (by simp only [aOff] <;> omega) dX8_hasFriend_5 ?_
  refine g_X8_91 C (show y + 50 + h < 221 from by omega) (s_hp hy (by omega)) dX8_hasFriend_6 ?_
  refine v_top (nI (mskA Y (nI h) n)) (hR.ins (by omega)) ?_
  refine v_iconst C (nI 1) dX8_hasFriend_9 (by decide) ?_
  refine v_iload_n C 1 dX8_hasFriend_10 rfl ?_
  refine v_ishl C dX8_hasFriend_11 ?_
  refine v_iconst C (-1) dX8_hasFriend_12 (by decide) ?_
  refine v_ixor C dX8_hasFriend_13 ?_
  refine v_iand C dX8_hasFriend_14 ?_
  refine v_top (nI (othM Y n h c)) (oth_eq c (by omega) _ (msk_1024 _ _ hn2)) ?_
  refine v_istore_n C [(3, .int (nI (othM Y n h c))), (0, .ref (gb G + y)), (1, .int (nI c)), (2, .int (nI h))] dX8_hasFriend_15 rfl (by decide) rfl ?_
  refine v_iconst C (nI 0) dX8_hasFriend_16 (by decide) ?_
  refine v_istore C [(4, .int (nI 0)), (3, .int (nI (othM Y n h c))), (0, .ref (gb G + y)), (1, .int (nI c)), (2, .int (nI h))] dX8_hasFriend_17 (by decide) rfl ?_
  refine v_sub [0, 1, 2, 3, 4] [(4, .int (nI 0)), (3, .int (nI (othM Y n h c))), (0, .ref (gb G + y)), (1, .int (nI c)), (2, .int (nI h))] rfl ?_
  exact LH _ 0 rfl (by omega) rfl
