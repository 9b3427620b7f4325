theorem bit_test : ∀ o, o < 10 → ∀ b, b < 1024 → ((nI b >>> (nI o &&& 31)) &&& nI 1 = nI 1 ↔ b.testBit o = true) := by decide +kernel
theorem oth_eq : ∀ c, c < 10 → ∀ m, m < 1024 → nI m &&& (sh1 c ^^^ (-1)) = nI (m &&& (1023 - 2 ^ c)) := by decide +kernel
theorem pop_ne : ∀ b, b < 1024 → b ≠ 0 → ¬ nI (popN b) = 0 := by decide +kernel
theorem and_1024 {m c : Nat} (h : m < 1024) : m &&& (1023 - 2 ^ c) < 1024 := Nat.lt_of_le_of_lt Nat.and_le_left h
def othM (Y : Nat → Int32) (n h c : Nat) : Nat := mskA Y (nI h) n &&& (1023 - 2 ^ c)
theorem othM_lt (Y : Nat → Int32) {n : Nat} (h c : Nat) (hn : n ≤ 10) : othM Y n h c < 1024 := and_1024 (msk_1024 Y _ hn)
def sumW (Y : Nat → Int32) (b c : Nat) : Nat → Int32
  | 0 => nI 0
  | o + 1 => sumW Y b c o + (if b.testBit o = true then Y (67 + 10 * o + c) else nI 0)
def warmS (Y : Nat → Int32) (n h c : Nat) : Int32 := if othM Y n h c = 0 then nI 0 else sumW Y (othM Y n h c) c n / nI (popN (othM Y n h c))
def maxS (x y : Int32) : Int32 := if x < y then y else x
def minS (x y : Int32) : Int32 := if y < x then y else x
def absS (x : Int32) : Int32 := if 0 ≤ x then x else 0 - x
def fonA (Y : Nat → Int32) (h c : Nat) : Nat → Int32
  | 0 => nI 0
  | o + 1 => if o ≠ c ∧ Y (7 + 6 * o + 4) = nI h then maxS (fonA Y h c o) (Y (67 + 10 * o + c)) else fonA Y h c o
def nobA (Y : Nat → Int32) (h c : Nat) : Nat → Bool
  | 0 => true
  | o + 1 => nobA Y h c o && !(decide (o ≠ c ∧ Y (7 + 6 * o + 4) = nI h ∧ nI 50 ≤ Y (67 + 10 * c + o)))
def ageG (Y : Nat → Int32) (h c : Nat) : Nat → Nat → Int32
  | 0, _ => nI 0
  | k + 1, o => if Y (7 + 6 * o + 4) = nI h then absS (Y (7 + 6 * o + 2) - Y (7 + 6 * c + 2)) else ageG Y h c k (o + 1)
set_option maxHeartbeats 4000000 in
set_option maxRecDepth 100000 in
theorem r_hasBitN (l : Launch) (G : GC) (M : Mm) (b o : Nat) (hb : b < 1024) (ho : o < 10) : CP l G 1 yX10_hasBit cX10_hasBit 2 .boolean [.int (nI b), .int (nI o)] M (b2i (b.testBit o = true)) := by
  refine Con.of (by decide +kernel) (Nat.le_of_ble_eq_true rfl) ?_
  intro f C hRm hRt _
  show Vc f G NPh M 0 [(0, .int (nI b)), (1, .int (nI o))] []
  refine v_iload_n C 0 dX10_hasBit_0 rfl ?_
  refine v_iload_n C 1 dX10_hasBit_1 rfl ?_
  refine v_ishr C dX10_hasBit_2 ?_
  refine v_iconst C (nI 1) dX10_hasBit_3 (by decide) ?_
  refine v_iand C dX10_hasBit_4 ?_
  refine v_iconst C (nI 1) dX10_hasBit_5 (by decide) ?_
  refine v_icmp_ne C 13 dX10_hasBit_6 rfl (fun h_6 => ?_) (fun h_6 => ?_)
  · skip
    refine v_iconst C (nI 0) dX10_hasBit_13 (by decide) ?_
    exact n_iret C hRt rfl dX10_hasBit_14 (by first | exact b2i_T ((bit_test o ho b hb).mp (by assumption)) | exact b2i_F (fun q => absurd ((bit_test o ho b hb).mpr q) (by assumption))) rfl
  · skip
    refine v_iconst C (nI 1) dX10_hasBit_9 (by decide) ?_
    refine v_goto C 14 dX10_hasBit_10 rfl ?_
    exact n_iret C hRt rfl dX10_hasBit_14 (by first | exact b2i_T ((bit_test o ho b hb).mp (by assumption)) | exact b2i_F (fun q => absurd ((bit_test o ho b hb).mpr q) (by assumption))) rfl
set_option maxHeartbeats 4000000 in
set_option maxRecDepth 100000 in
theorem r_warmth (l : Launch) (G : GC) (M : Mm) (Y : Nat → Int32) (n : Nat) (hn : Y 0 = nI n) (hn2 : n ≤ 10) (c h : Nat) (hc : c < 10) (hh : h < 5) : CP l G 3 yX10_warmth cX10_warmth 6 .int [.ref (gb G + 205), .int (nI c), .int (nI h)] (upA M 206 Y) (warmS Y n h c) := by
  refine Con.of (by decide +kernel) (Nat.le_of_ble_eq_true rfl) ?_
  intro f C hRm hRt _
  have LW : ∀ (kk : Nat) (o : Nat) (a : Int32), n - o = kk → o ≤ n → a = sumW Y (othM Y n h c) c o → Vc f G NPh (upA M 206 Y) 18 [(5, .int (nI o)), (4, .int a), (3, .int (nI (othM Y n h c))), (0, .ref (gb G + 205)), (1, .int (nI c)), (2, .int (nI h))] [] := by
    intro kk
    induction kk using Nat.strongRecOn with
    | _ kk ihLW =>
      intro o a hkk ho ha
      have hb9 := othM_lt Y h c hn2
      refine v_iload C 0 dX10_warmth_18 rfl ?_
      refine v_aload_n C 3 dX10_warmth_20 rfl ?_
      refine g_X10_9 C (by decide) sh_205 dX10_warmth_21 ?_
      refine v_iconst C (nI 0) dX10_warmth_24 (by decide) ?_
      refine n_now_ld C (by decide) sh_206 (by omega) (by decide) dX10_warmth_25 ?_
      refine v_top (nI n) hn ?_
      refine n_icmp_ge C (by omega) (by omega) 60 dX10_warmth_26 rfl (fun h_26 => ?_) (fun h_26 => ?_)
      · skip
        refine v_iload_n C 2 dX10_warmth_60 rfl ?_
        refine n_if_ne C (by omega) 68 dX10_warmth_61 rfl (fun h_61 => ?_) (fun h_61 => ?_)
        · skip
          refine v_iload C 1 dX10_warmth_68 rfl ?_
          refine v_iload_n C 2 dX10_warmth_70 rfl ?_
          refine n_callSp C hRm [.int (nI (othM Y n h c))] cw_X10_bits st_X10_bits ml_X10_115 (r_bits l G (upA M 206 Y) (othM Y n h c) (by first | omega | exact msk_1024 _ _ (by omega))) (by decide) rfl rfl (Nat.le_of_ble_eq_true rfl) dX10_warmth_71 ?_
          refine v_idiv C dX10_warmth_74 (pop_ne _ hb9 h_61) ?_
          exact n_iret C hRt rfl dX10_warmth_75 (by (have h5 : o = n := (by omega)); subst h5; subst ha; unfold warmS; first | rw [if_pos h_61] | rw [if_neg h_61]) rfl
        · skip
          refine v_iconst C (nI 0) dX10_warmth_64 (by decide) ?_
          refine v_goto C 75 dX10_warmth_65 rfl ?_
          exact n_iret C hRt rfl dX10_warmth_75 (by (have h5 : o = n := (by omega)); subst h5; subst ha; unfold warmS; first | rw [if_pos h_61] | rw [if_neg h_61]) rfl
      · skip
        refine v_iload C 1 dX10_warmth_29 rfl ?_
        refine v_iload_n C 2 dX10_warmth_31 rfl ?_
        refine v_iload C 0 dX10_warmth_32 rfl ?_
        refine n_callSp C hRm [.int (nI (othM Y n h c)), .int (nI o)] cw_X10_hasBit st_X10_hasBit ml_X10_127 (r_hasBitN l G (upA M 206 Y) (othM Y n h c) o hb9 (by omega)) (by decide) rfl rfl (Nat.le_of_ble_eq_true rfl) dX10_warmth_34 ?_
        refine nb_if_eq C 50 dX10_warmth_37 rfl (fun h_37 => ?_) (fun h_37 => ?_)
        · skip
          refine v_iconst C (nI 0) dX10_warmth_50 (by decide) ?_
          refine v_iadd C dX10_warmth_51 ?_
          refine v_istore C [(4, .int (a + (nI 0))), (5, .int (nI o)), (3, .int (nI (othM Y n h c))), (0, .ref (gb G + 205)), (1, .int (nI c)), (2, .int (nI h))] dX10_warmth_52 (by decide) rfl ?_
          refine v_iinc C (nI (o + 1)) 1 [(5, .int (nI (o + 1))), (4, .int (a + (nI 0))), (3, .int (nI (othM Y n h c))), (0, .ref (gb G + 205)), (1, .int (nI c)), (2, .int (nI h))] dX10_warmth_54 rfl (nI_add _ _) (by decide) rfl ?_
          refine v_goto C 18 dX10_warmth_57 rfl ?_
          refine v_sub [0, 1, 2, 3, 4, 5] [(5, .int (nI (o + 1))), (4, .int (a + (nI 0))), (3, .int (nI (othM Y n h c))), (0, .ref (gb G + 205)), (1, .int (nI c)), (2, .int (nI h))] rfl ?_
          exact ihLW _ (by omega) (o + 1) (a + (nI 0))  rfl (by omega) (by subst ha; simp only [sumW]; first | rw [if_pos h_37] | rw [if_neg h_37])
        · skip
          refine v_aload_n C 3 dX10_warmth_40 rfl ?_
          refine v_iload C 0 dX10_warmth_41 rfl ?_
          refine v_iload_n C 4 dX10_warmth_43 rfl ?_
          refine n_callVp C hRm [.int (nI o), .int (nI c)] cw_X10_likesOf ml_X10_130 (by decide) sh_205 (by decide) rfl (r_likesOf l G M Y o c (by omega)) (by decide) rfl rfl (Nat.le_of_ble_eq_true rfl) dX10_warmth_44 ?_
          refine v_goto C 51 dX10_warmth_47 rfl ?_
          refine v_iadd C dX10_warmth_51 ?_
          refine v_istore C [(4, .int (a + (Y (67 + 10 * o + c)))), (5, .int (nI o)), (3, .int (nI (othM Y n h c))), (0, .ref (gb G + 205)), (1, .int (nI c)), (2, .int (nI h))] dX10_warmth_52 (by decide) rfl ?_
          refine v_iinc C (nI (o + 1)) 1 [(5, .int (nI (o + 1))), (4, .int (a + (Y (67 + 10 * o + c)))), (3, .int (nI (othM Y n h c))), (0, .ref (gb G + 205)), (1, .int (nI c)), (2, .int (nI h))] dX10_warmth_54 rfl (nI_add _ _) (by decide) rfl ?_
          refine v_goto C 18 dX10_warmth_57 rfl ?_
          refine v_sub [0, 1, 2, 3, 4, 5] [(5, .int (nI (o + 1))), (4, .int (a + (Y (67 + 10 * o + c)))), (3, .int (nI (othM Y n h c))), (0, .ref (gb G + 205)), (1, .int (nI c)), (2, .int (nI h))] rfl ?_
          exact ihLW _ (by omega) (o + 1) (a + (Y (67 + 10 * o + c)))  rfl (by omega) (by subst ha; simp only [sumW]; first | rw [if_pos h_37] | rw [if_neg h_37])
  show Vc f G NPh (upA M 206 Y) 0 [(0, .ref (gb G + 205)), (1, .int (nI c)), (2, .int (nI h))] []
  refine v_aload_n C 0 dX10_warmth_0 rfl ?_
  refine v_iload_n C 2 dX10_warmth_1 rfl ?_
  refine n_callVp C hRm [.int (nI h)] cw_X10_inHeap ml_X10_112 (by decide) sh_205 (by decide) rfl (r_inHeap l G M Y n hn hn2 (nI h)) (by decide) rfl rfl (Nat.le_of_ble_eq_true rfl) dX10_warmth_2 ?_
  refine v_top (nI (mskA Y (nI h) n)) (inA_msk _ _ n hn2) ?_
  refine v_iconst C (nI 1) dX10_warmth_5 (by decide) ?_
  refine v_iload_n C 1 dX10_warmth_6 rfl ?_
  refine v_ishl C dX10_warmth_7 ?_
  refine v_iconst C (-1) dX10_warmth_8 (by decide) ?_
  refine v_ixor C dX10_warmth_9 ?_
  refine v_iand C dX10_warmth_10 ?_
  refine v_top (nI (othM Y n h c)) (oth_eq c (by omega) _ (msk_1024 _ _ hn2)) ?_
  refine v_istore_n C [(3, .int (nI (othM Y n h c))), (0, .ref (gb G + 205)), (1, .int (nI c)), (2, .int (nI h))] dX10_warmth_11 rfl (by decide) rfl ?_
  refine v_iconst C (nI 0) dX10_warmth_12 (by decide) ?_
  refine v_istore C [(4, .int (nI 0)), (3, .int (nI (othM Y n h c))), (0, .ref (gb G + 205)), (1, .int (nI c)), (2, .int (nI h))] dX10_warmth_13 (by decide) rfl ?_
  refine v_iconst C (nI 0) dX10_warmth_15 (by decide) ?_
  refine v_istore C [(5, .int (nI 0)), (4, .int (nI 0)), (3, .int (nI (othM Y n h c))), (0, .ref (gb G + 205)), (1, .int (nI c)), (2, .int (nI h))] dX10_warmth_16 (by decide) rfl ?_
  refine v_sub [0, 1, 2, 3, 4, 5] [(5, .int (nI 0)), (4, .int (nI 0)), (3, .int (nI (othM Y n h c))), (0, .ref (gb G + 205)), (1, .int (nI c)), (2, .int (nI h))] rfl ?_
  exact LW _ 0 (nI 0)  rfl (by omega) rfl
