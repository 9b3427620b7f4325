theorem len_shr : ∀ i, i < 10 → nI (lenS i) >>> (nI 0 &&& 31) = nI (lenS i) := by decide +kernel
theorem lenS_le : ∀ i, i < 10 → lenS i ≤ 5 := by decide +kernel
theorem byt_char : ∀ i, i < 10 → ∀ j, j < lenS i → (Int32.toUInt32 (bytS i j &&& nI 255) % 65536).toInt32 = bytS i j := by decide +kernel
theorem byt_nar : ∀ i, i < 10 → ∀ j, j < lenS i → narrow .char (.int (bytS i j)) = .int (bytS i j) := by decide +kernel
theorem byt_b : ∀ i, i < 10 → ∀ j, j < lenS i → ∀ b, b < 256 → (bytS i j = (Int32.toInt8 (nI b)).toInt32 ↔ bytS i j = nI b) := by decide +kernel
def idxF (i b : Nat) : Nat → Nat → Int32
  | 0, _ => -1
  | k + 1, j => if bytS i j = nI b then nI j else idxF i b k (j + 1)
def idxS (i b : Nat) : Int32 := idxF i b (lenS i) 0
set_option maxHeartbeats 4000000 in
set_option maxRecDepth 100000 in
theorem j_isLatin1 (l : Launch) (G : GC) (M : Mm) (i : Nat) (hi : i < 10) : CP l G 1 yJ0_isLatin1_aae02 cJ0_isLatin1_aae02 1 .boolean [.ref (gK G i)] M (nI 1) := by
  refine Con.of (by decide +kernel) (Nat.le_of_ble_eq_true rfl) ?_
  intro f C hRm hRt _
  show Vc f G NPh M 0 [(0, .ref (gK G i))] []
  refine v_gets C (.int 1) (fun s h => h.2.2.2.1.1) fj_J0_38 dJ0_isLatin1_aae02_0 ?_
  refine v_top (nI 1) rfl ?_
  refine n_if_eq C (by omega) 17 dJ0_isLatin1_aae02_3 rfl (fun h_3 => absurd h_3 (by decide)) (fun _ => ?_)
  refine v_aload_n C 0 dJ0_isLatin1_aae02_6 rfl ?_
  refine v_scod C hi fj_J0_15 dJ0_isLatin1_aae02_7 ?_
  refine v_top (nI 0) rfl ?_
  refine n_if_ne C (by omega) 17 dJ0_isLatin1_aae02_10 rfl (fun h_10 => absurd h_10 (by decide)) (fun _ => ?_)
  refine v_iconst C (nI 1) dJ0_isLatin1_aae02_13 (by decide) ?_
  refine v_goto C 18 dJ0_isLatin1_aae02_14 rfl ?_
  exact n_iret C hRt rfl dJ0_isLatin1_aae02_18 (rfl) rfl
set_option maxHeartbeats 4000000 in
set_option maxRecDepth 100000 in
theorem j_coder (l : Launch) (G : GC) (M : Mm) (i : Nat) (hi : i < 10) : CP l G 1 yJ0_coder_7d493 cJ0_coder_7d493 1 .byte [.ref (gK G i)] M (nI 0) := by
  refine Con.of (by decide +kernel) (Nat.le_of_ble_eq_true rfl) ?_
  intro f C hRm hRt _
  show Vc f G NPh M 0 [(0, .ref (gK G i))] []
  refine v_gets C (.int 1) (fun s h => h.2.2.2.1.1) fj_J0_38 dJ0_coder_7d493_0 ?_
  refine v_top (nI 1) rfl ?_
  refine n_if_eq C (by omega) 13 dJ0_coder_7d493_3 rfl (fun h_3 => absurd h_3 (by decide)) (fun _ => ?_)
  refine v_aload_n C 0 dJ0_coder_7d493_6 rfl ?_
  refine v_scod C hi fj_J0_15 dJ0_coder_7d493_7 ?_
  refine v_top (nI 0) rfl ?_
  refine v_goto C 14 dJ0_coder_7d493_10 rfl ?_
  exact n_iret C hRt rfl dJ0_coder_7d493_14 (rfl) rfl
set_option maxHeartbeats 4000000 in
set_option maxRecDepth 100000 in
theorem j_length (l : Launch) (G : GC) (M : Mm) (i : Nat) (hi : i < 10) : CP l G 2 yJ0_length_8abf5 cJ0_length_8abf5 1 .int [.ref (gK G i)] M (nI (lenS i)) := by
  refine Con.of (by decide +kernel) (Nat.le_of_ble_eq_true rfl) ?_
  intro f C hRm hRt _
  show Vc f G NPh M 0 [(0, .ref (gK G i))] []
  refine v_aload_n C 0 dJ0_length_8abf5_0 rfl ?_
  refine v_sval C hi fj_J0_9 dJ0_length_8abf5_1 ?_
  refine v_slen C hi dJ0_length_8abf5_4 ?_
  refine v_aload_n C 0 dJ0_length_8abf5_5 rfl ?_
  refine n_callTp C hRm [] cw_J0_coder_7d493 rfl ml_J0_335 hi (j_coder l G M i hi) (by decide) rfl rfl (Nat.le_of_ble_eq_true rfl) dJ0_length_8abf5_6 ?_
  refine v_ishr C dJ0_length_8abf5_9 ?_
  refine v_top (nI (lenS i)) (len_shr i hi) ?_
  exact n_iret C hRt rfl dJ0_length_8abf5_10 (rfl) rfl
set_option maxHeartbeats 4000000 in
set_option maxRecDepth 100000 in
theorem j_checkP_n (l : Launch) (G : GC) (M : Mm) (j k : Nat) (hj : j < k) (hk : k < 2 ^ 31) : CP l G 1 yJ3_checkIndex_8e157 cJ3_checkIndex_8e157 3 .int [.int (nI j), .int (nI k), .null] M (nI j) := by
  refine Con.of (by decide +kernel) (Nat.le_of_ble_eq_true rfl) ?_
  intro f C hRm hRt _
  show Vc f G NPh M 0 [(0, .int (nI j)), (1, .int (nI k)), (2, .null)] []
  refine v_iload_n C 0 dJ3_checkIndex_8e157_0 rfl ?_
  refine v_if_lt C 9 dJ3_checkIndex_8e157_1 rfl (fun h_1 => ?_) (fun h_1 => ?_)
  · skip
    exact absurd h_1 (nI_pos (by omega))
  · skip
    refine v_iload_n C 0 dJ3_checkIndex_8e157_4 rfl ?_
    refine v_iload_n C 1 dJ3_checkIndex_8e157_5 rfl ?_
    refine n_icmp_lt C (by omega) (by omega) 16 dJ3_checkIndex_8e157_6 rfl (fun h_6 => ?_) (fun h_6 => ?_)
    · skip
      refine v_iload_n C 0 dJ3_checkIndex_8e157_16 rfl ?_
      exact n_iret C hRt rfl dJ3_checkIndex_8e157_17 (rfl) rfl
    · skip
      omega
set_option maxHeartbeats 4000000 in
set_option maxRecDepth 100000 in
theorem j_checkP_r (l : Launch) (G : GC) (M : Mm) (j k : Nat) (hj : j < k) (hk : k < 2 ^ 31) (a : Nat) : CP l G 1 yJ3_checkIndex_8e157 cJ3_checkIndex_8e157 3 .int [.int (nI j), .int (nI k), .ref a] M (nI j) := by
  refine Con.of (by decide +kernel) (Nat.le_of_ble_eq_true rfl) ?_
  intro f C hRm hRt _
  show Vc f G NPh M 0 [(0, .int (nI j)), (1, .int (nI k)), (2, .ref a)] []
  refine v_iload_n C 0 dJ3_checkIndex_8e157_0 rfl ?_
  refine v_if_lt C 9 dJ3_checkIndex_8e157_1 rfl (fun h_1 => ?_) (fun h_1 => ?_)
  · skip
    exact absurd h_1 (nI_pos (by omega))
  · skip
    refine v_iload_n C 0 dJ3_checkIndex_8e157_4 rfl ?_
    refine v_iload_n C 1 dJ3_checkIndex_8e157_5 rfl ?_
    refine n_icmp_lt C (by omega) (by omega) 16 dJ3_checkIndex_8e157_6 rfl (fun h_6 => ?_) (fun h_6 => ?_)
    · skip
      refine v_iload_n C 0 dJ3_checkIndex_8e157_16 rfl ?_
      exact n_iret C hRt rfl dJ3_checkIndex_8e157_17 (rfl) rfl
    · skip
      omega
theorem j_checkP (l : Launch) (G : GC) (M : Mm) (j k : Nat) (hj : j < k) (hk : k < 2 ^ 31) (vq : Value) (hvq : vq = .null ∨ ∃ a, vq = .ref a) : CP l G 1 yJ3_checkIndex_8e157 cJ3_checkIndex_8e157 3 .int [.int (nI j), .int (nI k), vq] M (nI j) := by
  rcases hvq with rfl | ⟨a, rfl⟩
  · exact j_checkP_n l G M j k hj hk
  · exact j_checkP_r l G M j k hj hk a
set_option maxHeartbeats 4000000 in
set_option maxRecDepth 100000 in
theorem j_checkIndex (l : Launch) (G : GC) (M : Mm) (j k : Nat) (hj : j < k) (hk : k < 2 ^ 31) : CV l G 2 yJ0_checkIndex_df160 cJ0_checkIndex_df160 2 [.int (nI j), .int (nI k)] M (fun M' => M' = M) := by
  refine Con.of (by decide +kernel) (Nat.le_of_ble_eq_true rfl) ?_
  intro f C hRm hRt _
  show Vc f G NPh M 0 [(0, .int (nI j)), (1, .int (nI k))] []
  refine v_iload_n C 0 dJ0_checkIndex_df160_0 rfl ?_
  refine v_iload_n C 1 dJ0_checkIndex_df160_1 rfl ?_
  refine v_getsq C (fun s h => h.2.2.2.1.2) fj_J0_1053 dJ0_checkIndex_df160_2 (fun vq hvq => ?_)
  refine n_callSp C hRm [.int (nI j), .int (nI k), vq] cw_J3_checkIndex_8e157 st_J3_checkIndex_8e157 ml_J0_1059 (j_checkP l G M j k hj (by omega) vq hvq) (by decide) rfl rfl (Nat.le_of_ble_eq_true rfl) dJ0_checkIndex_df160_5 ?_
  refine v_pop C dJ0_checkIndex_df160_8 rfl ?_
  exact n_ret C hRt dJ0_checkIndex_df160_9 rfl
set_option maxHeartbeats 4000000 in
set_option maxRecDepth 100000 in
theorem j_charAtL (l : Launch) (G : GC) (M : Mm) (i : Nat) (hi : i < 10) (j : Nat) (hj : j < lenS i) : CP l G 3 yJ1_charAt_3b067 cJ1_charAt_3b067 2 .char [.ref (gV G i), .int (nI j)] M (bytS i j) := by
  refine Con.of (by decide +kernel) (Nat.le_of_ble_eq_true rfl) ?_
  intro f C hRm hRt _
  have h5 := lenS_le i hi
  show Vc f G NPh M 0 [(0, .ref (gV G i)), (1, .int (nI j))] []
  refine v_iload_n C 1 dJ1_charAt_3b067_0 rfl ?_
  refine v_aload_n C 0 dJ1_charAt_3b067_1 rfl ?_
  refine v_slen C hi dJ1_charAt_3b067_2 ?_
  refine n_callSv C hRm [.int (nI j), .int (nI (lenS i))] cw_J0_checkIndex_df160 st_J0_checkIndex_df160 ml_J1_9 (j_checkIndex l G M j (lenS i) hj (by omega)) (by decide) rfl rfl (Nat.le_of_ble_eq_true rfl) dJ1_charAt_3b067_3 (fun M5 hP_3 => ?_)
  subst hP_3
  refine v_aload_n C 0 dJ1_charAt_3b067_6 rfl ?_
  refine v_iload_n C 1 dJ1_charAt_3b067_7 rfl ?_
  refine v_sbal C hi (by omega) (by omega) dJ1_charAt_3b067_8 ?_
  refine v_sipush C (nI 255) dJ1_charAt_3b067_9 (by decide) ?_
  refine v_iand C dJ1_charAt_3b067_12 ?_
  refine v_i2c C dJ1_charAt_3b067_13 ?_
  refine v_top (bytS i j) (byt_char i hi j hj) ?_
  exact n_iret C hRt (byt_nar i hi j hj) dJ1_charAt_3b067_14 (rfl) rfl
set_option maxHeartbeats 4000000 in
set_option maxRecDepth 100000 in
theorem j_charAt (l : Launch) (G : GC) (M : Mm) (i : Nat) (hi : i < 10) (j : Nat) (hj : j < lenS i) : CP l G 4 yJ0_charAt_5068e cJ0_charAt_5068e 2 .char [.ref (gK G i), .int (nI j)] M (bytS i j) := by
  refine Con.of (by decide +kernel) (Nat.le_of_ble_eq_true rfl) ?_
  intro f C hRm hRt _
  show Vc f G NPh M 0 [(0, .ref (gK G i)), (1, .int (nI j))] []
  refine v_aload_n C 0 dJ0_charAt_5068e_0 rfl ?_
  refine n_callTp C hRm [] cw_J0_isLatin1_aae02 rfl ml_J0_492 hi (j_isLatin1 l G M i hi) (by decide) rfl rfl (Nat.le_of_ble_eq_true rfl) dJ0_charAt_5068e_1 ?_
  refine n_if_eq C (by omega) 16 dJ0_charAt_5068e_4 rfl (fun h_4 => absurd h_4 (by decide)) (fun _ => ?_)
  refine v_aload_n C 0 dJ0_charAt_5068e_7 rfl ?_
  refine v_sval C hi fj_J0_9 dJ0_charAt_5068e_8 ?_
  refine v_iload_n C 1 dJ0_charAt_5068e_11 rfl ?_
  refine n_callSp C hRm [.ref (gV G i), .int (nI j)] cw_J1_charAt_3b067 st_J1_charAt_3b067 ml_J0_495 (j_charAtL l G M i hi j hj) (by decide) rfl rfl (Nat.le_of_ble_eq_true rfl) dJ0_charAt_5068e_12 ?_
  exact n_iret C hRt (byt_nar i hi j hj) dJ0_charAt_5068e_15 (rfl) rfl
set_option maxHeartbeats 4000000 in
set_option maxRecDepth 100000 in
theorem j_canEncode (l : Launch) (G : GC) (M : Mm) (b : Nat) (hb : b < 256) : CP l G 1 yJ1_canEncode_9a6ad cJ1_canEncode_9a6ad 1 .boolean [.int (nI b)] M (nI 1) := by
  refine Con.of (by decide +kernel) (Nat.le_of_ble_eq_true rfl) ?_
  intro f C hRm hRt _
  show Vc f G NPh M 0 [(0, .int (nI b))] []
  refine v_iload_n C 0 dJ1_canEncode_9a6ad_0 rfl ?_
  refine v_if_lt C 15 dJ1_canEncode_9a6ad_1 rfl (fun h_1 => ?_) (fun h_1 => ?_)
  · skip
    exact absurd h_1 (nI_pos (by omega))
  · skip
    refine v_iload_n C 0 dJ1_canEncode_9a6ad_4 rfl ?_
    refine v_sipush C (nI 255) dJ1_canEncode_9a6ad_5 (by decide) ?_
    refine n_icmp_gt C (by omega) (by omega) 15 dJ1_canEncode_9a6ad_8 rfl (fun h_8 => ?_) (fun h_8 => ?_)
    · skip
      omega
    · skip
      refine v_iconst C (nI 1) dJ1_canEncode_9a6ad_11 (by decide) ?_
      refine v_goto C 16 dJ1_canEncode_9a6ad_12 rfl ?_
      exact n_iret C hRt rfl dJ1_canEncode_9a6ad_16 (rfl) rfl
set_option maxHeartbeats 4000000 in
set_option maxRecDepth 100000 in
theorem j_indexOfChar (l : Launch) (G : GC) (M : Mm) (i : Nat) (hi : i < 10) (b : Nat) (hb : b < 256) : CP l G 1 yJ1_indexOfChar_4cfef cJ1_indexOfChar_4cfef 6 .int [.ref (gV G i), .int (nI b), .int (nI 0), .int (nI (lenS i))] M (idxS i b) := by
  refine Con.of (by decide +kernel) (Nat.le_of_ble_eq_true rfl) ?_
  intro f C hRm hRt _
  have h5 := lenS_le i hi
  have LI : ∀ (kk : Nat) (j : Nat), lenS i - j = kk → j ≤ lenS i → idxF i b (lenS i - j) j = idxS i b → Vc f G NPh M 7 [(5, .int (nI j)), (4, .int ((Int32.toInt8 (nI b)).toInt32)), (0, .ref (gV G i)), (1, .int (nI b)), (2, .int (nI 0)), (3, .int (nI (lenS i)))] [] := by
    intro kk
    induction kk using Nat.strongRecOn with
    | _ kk ihLI =>
      intro j hkk hj hg
      refine v_iload C 0 dJ1_indexOfChar_4cfef_7 rfl ?_
      refine v_iload_n C 5 dJ1_indexOfChar_4cfef_9 rfl ?_
      refine n_icmp_ge C (by omega) (by omega) 31 dJ1_indexOfChar_4cfef_10 rfl (fun h_10 => ?_) (fun h_10 => ?_)
      · skip
        refine v_iconst C (-1) dJ1_indexOfChar_4cfef_31 (by decide) ?_
        exact n_iret C hRt rfl dJ1_indexOfChar_4cfef_32 (by rw [← hg, show lenS i - j = 0 by omega]; rfl) rfl
      · skip
        refine v_aload_n C 2 dJ1_indexOfChar_4cfef_13 rfl ?_
        refine v_iload C 0 dJ1_indexOfChar_4cfef_14 rfl ?_
        refine v_sbal C hi (by omega) (by omega) dJ1_indexOfChar_4cfef_16 ?_
        refine v_iload C 1 dJ1_indexOfChar_4cfef_17 rfl ?_
        refine v_icmp_ne C 25 dJ1_indexOfChar_4cfef_19 rfl (fun h_19 => ?_) (fun h_19 => ?_)
        · skip
          refine v_iinc C (nI (j + 1)) 0 [(5, .int (nI (j + 1))), (4, .int ((Int32.toInt8 (nI b)).toInt32)), (0, .ref (gV G i)), (1, .int (nI b)), (2, .int (nI 0)), (3, .int (nI (lenS i)))] dJ1_indexOfChar_4cfef_25 rfl (nI_add _ _) (by decide) rfl ?_
          refine v_goto C 7 dJ1_indexOfChar_4cfef_28 rfl ?_
          refine v_sub [0, 1, 2, 3, 4, 5] [(5, .int (nI (j + 1))), (4, .int ((Int32.toInt8 (nI b)).toInt32)), (0, .ref (gV G i)), (1, .int (nI b)), (2, .int (nI 0)), (3, .int (nI (lenS i)))] rfl ?_
          exact ihLI _ (by omega) (j + 1)  rfl (by omega) (by rw [← hg, show lenS i - j = (lenS i - (j + 1)) + 1 by omega]; simp only [idxF]; rw [if_neg (fun q => h_19 ((byt_b i hi j (by omega) b hb).mpr q))])
        · skip
          refine v_iload C 0 dJ1_indexOfChar_4cfef_22 rfl ?_
          exact n_iret C hRt rfl dJ1_indexOfChar_4cfef_24 (by rw [← hg, show lenS i - j = (lenS i - (j + 1)) + 1 by omega]; simp only [idxF]; rw [if_pos ((byt_b i hi j (by omega) b hb).mp h_19)]) rfl
  show Vc f G NPh M 0 [(0, .ref (gV G i)), (1, .int (nI b)), (2, .int (nI 0)), (3, .int (nI (lenS i)))] []
  refine v_iload_n C 1 dJ1_indexOfChar_4cfef_0 rfl ?_
  refine v_i2b C dJ1_indexOfChar_4cfef_1 ?_
  refine v_istore C [(4, .int ((Int32.toInt8 (nI b)).toInt32)), (0, .ref (gV G i)), (1, .int (nI b)), (2, .int (nI 0)), (3, .int (nI (lenS i)))] dJ1_indexOfChar_4cfef_2 (by decide) rfl ?_
  refine v_iload_n C 3 dJ1_indexOfChar_4cfef_4 rfl ?_
  refine v_istore C [(5, .int (nI 0)), (4, .int ((Int32.toInt8 (nI b)).toInt32)), (0, .ref (gV G i)), (1, .int (nI b)), (2, .int (nI 0)), (3, .int (nI (lenS i)))] dJ1_indexOfChar_4cfef_5 (by decide) rfl ?_
  refine v_sub [0, 1, 2, 3, 4, 5] [(5, .int (nI 0)), (4, .int ((Int32.toInt8 (nI b)).toInt32)), (0, .ref (gV G i)), (1, .int (nI b)), (2, .int (nI 0)), (3, .int (nI (lenS i)))] rfl ?_
  exact LI _ 0  rfl (by omega) (by rfl)
set_option maxHeartbeats 4000000 in
set_option maxRecDepth 100000 in
theorem j_indexOf4 (l : Launch) (G : GC) (M : Mm) (i : Nat) (hi : i < 10) (b : Nat) (hb : b < 256) : CP l G 2 yJ1_indexOf_4cfef cJ1_indexOf_4cfef 4 .int [.ref (gV G i), .int (nI b), .int (nI 0), .int (nI (lenS i))] M (idxS i b) := by
  refine Con.of (by decide +kernel) (Nat.le_of_ble_eq_true rfl) ?_
  intro f C hRm hRt _
  have h5 := lenS_le i hi
  show Vc f G NPh M 0 [(0, .ref (gV G i)), (1, .int (nI b)), (2, .int (nI 0)), (3, .int (nI (lenS i)))] []
  refine v_iload_n C 1 dJ1_indexOf_4cfef_0 rfl ?_
  refine n_callSp C hRm [.int (nI b)] cw_J1_canEncode_9a6ad st_J1_canEncode_9a6ad ml_J1_88 (j_canEncode l G M b hb) (by decide) rfl rfl (Nat.le_of_ble_eq_true rfl) dJ1_indexOf_4cfef_1 ?_
  refine n_if_ne C (by omega) 9 dJ1_indexOf_4cfef_4 rfl (fun _ => ?_) (fun h_4 => absurd h_4 (by decide))
  refine v_iload_n C 2 dJ1_indexOf_4cfef_9 rfl ?_
  refine v_iconst C (nI 0) dJ1_indexOf_4cfef_10 (by decide) ?_
  refine v_mmax C hRm (by decide) ml_J1_92 (Nat.le_of_ble_eq_true rfl) dJ1_indexOf_4cfef_11 ?_
  refine v_top (maxS (nI 0) (nI 0)) rfl ?_
  refine v_top (nI 0) (by decide +kernel) ?_
  refine v_istore_n C [(2, .int (nI 0)), (0, .ref (gV G i)), (1, .int (nI b)), (3, .int (nI (lenS i)))] dJ1_indexOf_4cfef_14 rfl (by decide) rfl ?_
  refine v_iload_n C 3 dJ1_indexOf_4cfef_15 rfl ?_
  refine v_aload_n C 1 dJ1_indexOf_4cfef_16 rfl ?_
  refine v_slen C hi dJ1_indexOf_4cfef_17 ?_
  refine v_mmin C hRm (by decide) ml_J1_38 (Nat.le_of_ble_eq_true rfl) dJ1_indexOf_4cfef_18 ?_
  refine v_top (minS (nI (lenS i)) (nI (lenS i))) rfl ?_
  refine v_top (nI (lenS i)) (ite_self _) ?_
  refine v_istore_n C [(3, .int (nI (lenS i))), (2, .int (nI 0)), (0, .ref (gV G i)), (1, .int (nI b))] dJ1_indexOf_4cfef_21 rfl (by decide) rfl ?_
  refine v_iload_n C 1 dJ1_indexOf_4cfef_22 rfl ?_
  refine v_iload_n C 0 dJ1_indexOf_4cfef_23 rfl ?_
  refine n_icmp_lt C (by omega) (by omega) 29 dJ1_indexOf_4cfef_24 rfl (fun h_24 => ?_) (fun h_24 => ?_)
  · skip
    refine v_aload_n C 2 dJ1_indexOf_4cfef_29 rfl ?_
    refine v_iload_n C 3 dJ1_indexOf_4cfef_30 rfl ?_
    refine v_iload_n C 1 dJ1_indexOf_4cfef_31 rfl ?_
    refine v_iload_n C 0 dJ1_indexOf_4cfef_32 rfl ?_
    refine n_callSp C hRm [.ref (gV G i), .int (nI b), .int (nI 0), .int (nI (lenS i))] cw_J1_indexOfChar_4cfef st_J1_indexOfChar_4cfef ml_J1_95 (j_indexOfChar l G M i hi b hb) (by decide) rfl rfl (Nat.le_of_ble_eq_true rfl) dJ1_indexOf_4cfef_33 ?_
    exact n_iret C hRt rfl dJ1_indexOf_4cfef_36 (rfl) rfl
  · skip
    refine v_iconst C (-1) dJ1_indexOf_4cfef_27 (by decide) ?_
    exact n_iret C hRt rfl dJ1_indexOf_4cfef_28 (by unfold idxS; rw [show lenS i = 0 by omega]; rfl) rfl
set_option maxHeartbeats 4000000 in
set_option maxRecDepth 100000 in
theorem j_indexOf2 (l : Launch) (G : GC) (M : Mm) (i : Nat) (hi : i < 10) (b : Nat) (hb : b < 256) : CP l G 3 yJ0_indexOf_7cf53 cJ0_indexOf_7cf53 3 .int [.ref (gK G i), .int (nI b), .int (nI 0)] M (idxS i b) := by
  refine Con.of (by decide +kernel) (Nat.le_of_ble_eq_true rfl) ?_
  intro f C hRm hRt _
  show Vc f G NPh M 0 [(0, .ref (gK G i)), (1, .int (nI b)), (2, .int (nI 0))] []
  refine v_aload_n C 0 dJ0_indexOf_7cf53_0 rfl ?_
  refine n_callTp C hRm [] cw_J0_isLatin1_aae02 rfl ml_J0_492 hi (j_isLatin1 l G M i hi) (by decide) rfl rfl (Nat.le_of_ble_eq_true rfl) dJ0_indexOf_7cf53_1 ?_
  refine n_if_eq C (by omega) 23 dJ0_indexOf_7cf53_4 rfl (fun h_4 => absurd h_4 (by decide)) (fun _ => ?_)
  refine v_aload_n C 0 dJ0_indexOf_7cf53_7 rfl ?_
  refine v_sval C hi fj_J0_9 dJ0_indexOf_7cf53_8 ?_
  refine v_iload_n C 1 dJ0_indexOf_7cf53_11 rfl ?_
  refine v_iload_n C 2 dJ0_indexOf_7cf53_12 rfl ?_
  refine v_aload_n C 0 dJ0_indexOf_7cf53_13 rfl ?_
  refine n_callTp C hRm [] cw_J0_length_8abf5 rfl ml_J0_505 hi (j_length l G M i hi) (by decide) rfl rfl (Nat.le_of_ble_eq_true rfl) dJ0_indexOf_7cf53_14 ?_
  refine n_callSp C hRm [.ref (gV G i), .int (nI b), .int (nI 0), .int (nI (lenS i))] cw_J1_indexOf_4cfef st_J1_indexOf_4cfef ml_J0_637 (j_indexOf4 l G M i hi b hb) (by decide) rfl rfl (Nat.le_of_ble_eq_true rfl) dJ0_indexOf_7cf53_17 ?_
  refine v_goto C 36 dJ0_indexOf_7cf53_20 rfl ?_
  exact n_iret C hRt rfl dJ0_indexOf_7cf53_36 (rfl) rfl
set_option maxHeartbeats 4000000 in
set_option maxRecDepth 100000 in
theorem j_indexOf (l : Launch) (G : GC) (M : Mm) (i : Nat) (hi : i < 10) (b : Nat) (hb : b < 256) : CP l G 4 yJ0_indexOf_0f7a4 cJ0_indexOf_0f7a4 2 .int [.ref (gK G i), .int (nI b)] M (idxS i b) := by
  refine Con.of (by decide +kernel) (Nat.le_of_ble_eq_true rfl) ?_
  intro f C hRm hRt _
  show Vc f G NPh M 0 [(0, .ref (gK G i)), (1, .int (nI b))] []
  refine v_aload_n C 0 dJ0_indexOf_0f7a4_0 rfl ?_
  refine v_iload_n C 1 dJ0_indexOf_0f7a4_1 rfl ?_
  refine v_iconst C (nI 0) dJ0_indexOf_0f7a4_2 (by decide) ?_
  refine n_callTp C hRm [.int (nI b), .int (nI 0)] cw_J0_indexOf_7cf53 rfl ml_J0_633 hi (j_indexOf2 l G M i hi b hb) (by decide) rfl rfl (Nat.le_of_ble_eq_true rfl) dJ0_indexOf_0f7a4_3 ?_
  exact n_iret C hRt rfl dJ0_indexOf_0f7a4_6 (rfl) rfl
