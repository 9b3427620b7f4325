def bc1 (x : Int32) : Int32 := x - ((Int32.toUInt32 x >>> (Int32.toUInt32 (nI 1) &&& Int32.toUInt32 31)).toInt32 &&& 1431655765)
def bc2 (x : Int32) : Int32 := (x &&& 858993459) + ((Int32.toUInt32 x >>> (Int32.toUInt32 (nI 2) &&& Int32.toUInt32 31)).toInt32 &&& 858993459)
def bc3 (x : Int32) : Int32 := (x + (Int32.toUInt32 x >>> (Int32.toUInt32 (nI 4) &&& Int32.toUInt32 31)).toInt32) &&& 252645135
def bc4 (x : Int32) : Int32 := x + (Int32.toUInt32 x >>> (Int32.toUInt32 (nI 8) &&& Int32.toUInt32 31)).toInt32
def bc5 (x : Int32) : Int32 := x + (Int32.toUInt32 x >>> (Int32.toUInt32 (nI 16) &&& Int32.toUInt32 31)).toInt32
theorem bc_pop : ∀ m, m < 1024 → bc5 (bc4 (bc3 (bc2 (bc1 (nI m))))) &&& nI 63 = nI (popN m) := by decide +kernel
def tzN (m : Nat) : Nat := ((List.range 10).find? (fun i => m.testBit i)).getD 10
theorem tz_ex : ∀ m, m < 1024 → m ≠ 0 → tzN m < 10 ∧ (nI m ^^^ (-1)) &&& nI (m - 1) = nI (2 ^ tzN m - 1) := by decide +kernel
def cmpS (a b : Int32) : Int32 := if a < b then -1 else if a = b then 0 else 1
theorem fill_c (M : Mm) (k L : Nat) (v : Int32) : True := trivial
set_option maxHeartbeats 4000000 in
set_option maxRecDepth 100000 in
theorem j_bitCount (l : Launch) (G : GC) (M : Mm) (m : Nat) (hm : m < 1024) : CP l G 1 yJ6_bitCount_0f7a4 cJ6_bitCount_0f7a4 1 .int [.int (nI m)] M (nI (popN m)) := by
  refine Con.of (by decide +kernel) (Nat.le_of_ble_eq_true rfl) ?_
  intro f C hRm hRt _
  show Vc f G NPh M 0 [(0, .int (nI m))] []
  refine v_iload_n C 0 dJ6_bitCount_0f7a4_0 rfl ?_
  refine v_iload_n C 0 dJ6_bitCount_0f7a4_1 rfl ?_
  refine v_iconst C (nI 1) dJ6_bitCount_0f7a4_2 (by decide) ?_
  refine v_iushr C dJ6_bitCount_0f7a4_3 ?_
  refine v_ldcw C (1431655765) kc_J6_265 dJ6_bitCount_0f7a4_4 ?_
  refine v_iand C dJ6_bitCount_0f7a4_7 ?_
  refine v_isub C dJ6_bitCount_0f7a4_8 ?_
  refine v_top (bc1 (nI m)) rfl ?_
  refine v_istore_n C [(0, .int (bc1 (nI m)))] dJ6_bitCount_0f7a4_9 rfl (by decide) rfl ?_
  refine v_iload_n C 0 dJ6_bitCount_0f7a4_10 rfl ?_
  refine v_ldcw C (858993459) kc_J6_266 dJ6_bitCount_0f7a4_11 ?_
  refine v_iand C dJ6_bitCount_0f7a4_14 ?_
  refine v_iload_n C 0 dJ6_bitCount_0f7a4_15 rfl ?_
  refine v_iconst C (nI 2) dJ6_bitCount_0f7a4_16 (by decide) ?_
  refine v_iushr C dJ6_bitCount_0f7a4_17 ?_
  refine v_ldcw C (858993459) kc_J6_266 dJ6_bitCount_0f7a4_18 ?_
  refine v_iand C dJ6_bitCount_0f7a4_21 ?_
  refine v_iadd C dJ6_bitCount_0f7a4_22 ?_
  refine v_top (bc2 (bc1 (nI m))) rfl ?_
  refine v_istore_n C [(0, .int (bc2 (bc1 (nI m))))] dJ6_bitCount_0f7a4_23 rfl (by decide) rfl ?_
  refine v_iload_n C 0 dJ6_bitCount_0f7a4_24 rfl ?_
  refine v_iload_n C 0 dJ6_bitCount_0f7a4_25 rfl ?_
  refine v_iconst C (nI 4) dJ6_bitCount_0f7a4_26 (by decide) ?_
  refine v_iushr C dJ6_bitCount_0f7a4_27 ?_
  refine v_iadd C dJ6_bitCount_0f7a4_28 ?_
  refine v_ldcw C (252645135) kc_J6_267 dJ6_bitCount_0f7a4_29 ?_
  refine v_iand C dJ6_bitCount_0f7a4_32 ?_
  refine v_top (bc3 (bc2 (bc1 (nI m)))) rfl ?_
  refine v_istore_n C [(0, .int (bc3 (bc2 (bc1 (nI m)))))] dJ6_bitCount_0f7a4_33 rfl (by decide) rfl ?_
  refine v_iload_n C 0 dJ6_bitCount_0f7a4_34 rfl ?_
  refine v_iload_n C 0 dJ6_bitCount_0f7a4_35 rfl ?_
  refine v_bipush C (nI 8) dJ6_bitCount_0f7a4_36 (by decide) ?_
  refine v_iushr C dJ6_bitCount_0f7a4_38 ?_
  refine v_iadd C dJ6_bitCount_0f7a4_39 ?_
  refine v_top (bc4 (bc3 (bc2 (bc1 (nI m))))) rfl ?_
  refine v_istore_n C [(0, .int (bc4 (bc3 (bc2 (bc1 (nI m))))))] dJ6_bitCount_0f7a4_40 rfl (by decide) rfl ?_
  refine v_iload_n C 0 dJ6_bitCount_0f7a4_41 rfl ?_
  refine v_iload_n C 0 dJ6_bitCount_0f7a4_42 rfl ?_
  refine v_bipush C (nI 16) dJ6_bitCount_0f7a4_43 (by decide) ?_
  refine v_iushr C dJ6_bitCount_0f7a4_45 ?_
  refine v_iadd C dJ6_bitCount_0f7a4_46 ?_
  refine v_top (bc5 (bc4 (bc3 (bc2 (bc1 (nI m)))))) rfl ?_
  refine v_istore_n C [(0, .int (bc5 (bc4 (bc3 (bc2 (bc1 (nI m)))))))] dJ6_bitCount_0f7a4_47 rfl (by decide) rfl ?_
  refine v_iload_n C 0 dJ6_bitCount_0f7a4_48 rfl ?_
  refine v_bipush C (nI 63) dJ6_bitCount_0f7a4_49 (by decide) ?_
  refine v_iand C dJ6_bitCount_0f7a4_51 ?_
  exact n_iret C hRt rfl dJ6_bitCount_0f7a4_52 (bc_pop m hm) rfl
set_option maxHeartbeats 4000000 in
set_option maxRecDepth 100000 in
theorem j_compare (l : Launch) (G : GC) (M : Mm) (a b : Int32) : CP l G 1 yJ6_compare_7cf53 cJ6_compare_7cf53 2 .int [.int a, .int b] M (cmpS a b) := by
  refine Con.of (by decide +kernel) (Nat.le_of_ble_eq_true rfl) ?_
  intro f C hRm hRt _
  show Vc f G NPh M 0 [(0, .int a), (1, .int b)] []
  refine v_iload_n C 0 dJ6_compare_7cf53_0 rfl ?_
  refine v_iload_n C 1 dJ6_compare_7cf53_1 rfl ?_
  refine v_icmp_ge C 9 dJ6_compare_7cf53_2 rfl (fun h_2 => ?_) (fun h_2 => ?_)
  · skip
    refine v_iload_n C 0 dJ6_compare_7cf53_9 rfl ?_
    refine v_iload_n C 1 dJ6_compare_7cf53_10 rfl ?_
    refine v_icmp_ne C 18 dJ6_compare_7cf53_11 rfl (fun h_11 => ?_) (fun h_11 => ?_)
    · skip
      refine v_iconst C (nI 1) dJ6_compare_7cf53_18 (by decide) ?_
      exact n_iret C hRt rfl dJ6_compare_7cf53_19 (by unfold cmpS; rw [if_neg (Int32.not_lt.mpr h_2), if_neg h_11]; rfl) rfl
    · skip
      refine v_iconst C (nI 0) dJ6_compare_7cf53_14 (by decide) ?_
      refine v_goto C 19 dJ6_compare_7cf53_15 rfl ?_
      exact n_iret C hRt rfl dJ6_compare_7cf53_19 (by unfold cmpS; rw [if_neg (Int32.not_lt.mpr h_2), if_pos h_11]; rfl) rfl
  · skip
    refine v_iconst C (-1) dJ6_compare_7cf53_5 (by decide) ?_
    refine v_goto C 19 dJ6_compare_7cf53_6 rfl ?_
    exact n_iret C hRt rfl dJ6_compare_7cf53_19 (by unfold cmpS; rw [if_pos (Int32.not_le.mp h_2)]) rfl
set_option maxHeartbeats 4000000 in
set_option maxRecDepth 100000 in
theorem j_tz (l : Launch) (G : GC) (M : Mm) (m : Nat) (hm : m < 1024) (h0 : m ≠ 0) : CP l G 1 yJ6_numberOfTrailingZeros_0f7a4 cJ6_numberOfTrailingZeros_0f7a4 2 .int [.int (nI m)] M (nI (tzN m)) := by
  refine Con.of (by decide +kernel) (Nat.le_of_ble_eq_true rfl) ?_
  intro f C hRm hRt _
  obtain ⟨ht, hx⟩ := tz_ex m hm h0
  generalize tzN m = t at ht hx hRt ⊢
  rcases (show t = 0 ∨ t = 1 ∨ t = 2 ∨ t = 3 ∨ t = 4 ∨ t = 5 ∨ t = 6 ∨ t = 7 ∨ t = 8 ∨ t = 9 by omega) with h | h | h | h | h | h | h | h | h | h <;> subst h
  · show Vc f G NPh M 0 [(0, .int (nI m))] []
    refine v_iload_n C 0 dJ6_numberOfTrailingZeros_0f7a4_0 rfl ?_
    refine v_iconst C (-1) dJ6_numberOfTrailingZeros_0f7a4_1 (by decide) ?_
    refine v_ixor C dJ6_numberOfTrailingZeros_0f7a4_2 ?_
    refine v_iload_n C 0 dJ6_numberOfTrailingZeros_0f7a4_3 rfl ?_
    refine v_iconst C (nI 1) dJ6_numberOfTrailingZeros_0f7a4_4 (by decide) ?_
    refine n_isub C (by omega) dJ6_numberOfTrailingZeros_0f7a4_5 ?_
    refine v_iand C dJ6_numberOfTrailingZeros_0f7a4_6 ?_
    refine v_top (nI 0) hx ?_
    refine v_istore_n C [(0, .int (nI 0))] dJ6_numberOfTrailingZeros_0f7a4_7 rfl (by decide) rfl ?_
    refine v_iload_n C 0 dJ6_numberOfTrailingZeros_0f7a4_8 rfl ?_
    refine v_if_gt C 17 dJ6_numberOfTrailingZeros_0f7a4_9 rfl (fun h_9 => absurd h_9 (by decide +kernel)) (fun _ => ?_)
    refine v_iload_n C 0 dJ6_numberOfTrailingZeros_0f7a4_12 rfl ?_
    refine v_bipush C (nI 32) dJ6_numberOfTrailingZeros_0f7a4_13 (by decide) ?_
    refine v_iand C dJ6_numberOfTrailingZeros_0f7a4_15 ?_
    exact n_iret C hRt rfl dJ6_numberOfTrailingZeros_0f7a4_16 (by decide +kernel) rfl
  · show Vc f G NPh M 0 [(0, .int (nI m))] []
    refine v_iload_n C 0 dJ6_numberOfTrailingZeros_0f7a4_0 rfl ?_
    refine v_iconst C (-1) dJ6_numberOfTrailingZeros_0f7a4_1 (by decide) ?_
    refine v_ixor C dJ6_numberOfTrailingZeros_0f7a4_2 ?_
    refine v_iload_n C 0 dJ6_numberOfTrailingZeros_0f7a4_3 rfl ?_
    refine v_iconst C (nI 1) dJ6_numberOfTrailingZeros_0f7a4_4 (by decide) ?_
    refine n_isub C (by omega) dJ6_numberOfTrailingZeros_0f7a4_5 ?_
    refine v_iand C dJ6_numberOfTrailingZeros_0f7a4_6 ?_
    refine v_top (nI 1) hx ?_
    refine v_istore_n C [(0, .int (nI 1))] dJ6_numberOfTrailingZeros_0f7a4_7 rfl (by decide) rfl ?_
    refine v_iload_n C 0 dJ6_numberOfTrailingZeros_0f7a4_8 rfl ?_
    refine v_if_gt C 17 dJ6_numberOfTrailingZeros_0f7a4_9 rfl (fun _ => ?_) (fun h_9 => absurd h_9 (by decide +kernel))
    refine v_iconst C (nI 1) dJ6_numberOfTrailingZeros_0f7a4_17 (by decide) ?_
    refine v_istore_n C [(1, .int (nI 1)), (0, .int (nI 1))] dJ6_numberOfTrailingZeros_0f7a4_18 rfl (by decide) rfl ?_
    refine v_iload_n C 1 dJ6_numberOfTrailingZeros_0f7a4_19 rfl ?_
    refine v_ldcw C (65536) kc_J6_264 dJ6_numberOfTrailingZeros_0f7a4_20 ?_
    refine v_top (nI 65536) (by decide +kernel) ?_
    refine n_icmp_le C (by omega) (by omega) 34 dJ6_numberOfTrailingZeros_0f7a4_23 rfl (fun _ => ?_) (fun h_23 => absurd h_23 (by decide))
    refine v_iload_n C 1 dJ6_numberOfTrailingZeros_0f7a4_34 rfl ?_
    refine v_sipush C (nI 256) dJ6_numberOfTrailingZeros_0f7a4_35 (by decide) ?_
    refine n_icmp_le C (by omega) (by omega) 49 dJ6_numberOfTrailingZeros_0f7a4_38 rfl (fun _ => ?_) (fun h_38 => absurd h_38 (by decide))
    refine v_iload_n C 1 dJ6_numberOfTrailingZeros_0f7a4_49 rfl ?_
    refine v_bipush C (nI 16) dJ6_numberOfTrailingZeros_0f7a4_50 (by decide) ?_
    refine n_icmp_le C (by omega) (by omega) 62 dJ6_numberOfTrailingZeros_0f7a4_52 rfl (fun _ => ?_) (fun h_52 => absurd h_52 (by decide))
    refine v_iload_n C 1 dJ6_numberOfTrailingZeros_0f7a4_62 rfl ?_
    refine v_iconst C (nI 4) dJ6_numberOfTrailingZeros_0f7a4_63 (by decide) ?_
    refine n_icmp_le C (by omega) (by omega) 74 dJ6_numberOfTrailingZeros_0f7a4_64 rfl (fun _ => ?_) (fun h_64 => absurd h_64 (by decide))
    refine v_iload_n C 0 dJ6_numberOfTrailingZeros_0f7a4_74 rfl ?_
    refine v_iload_n C 1 dJ6_numberOfTrailingZeros_0f7a4_75 rfl ?_
    refine v_iconst C (nI 1) dJ6_numberOfTrailingZeros_0f7a4_76 (by decide) ?_
    refine v_iushr C dJ6_numberOfTrailingZeros_0f7a4_77 ?_
    refine v_iadd C dJ6_numberOfTrailingZeros_0f7a4_78 ?_
    exact n_iret C hRt rfl dJ6_numberOfTrailingZeros_0f7a4_79 (by decide +kernel) rfl
  · show Vc f G NPh M 0 [(0, .int (nI m))] []
    refine v_iload_n C 0 dJ6_numberOfTrailingZeros_0f7a4_0 rfl ?_
    refine v_iconst C (-1) dJ6_numberOfTrailingZeros_0f7a4_1 (by decide) ?_
    refine v_ixor C dJ6_numberOfTrailingZeros_0f7a4_2 ?_
    refine v_iload_n C 0 dJ6_numberOfTrailingZeros_0f7a4_3 rfl ?_
    refine v_iconst C (nI 1) dJ6_numberOfTrailingZeros_0f7a4_4 (by decide) ?_
    refine n_isub C (by omega) dJ6_numberOfTrailingZeros_0f7a4_5 ?_
    refine v_iand C dJ6_numberOfTrailingZeros_0f7a4_6 ?_
    refine v_top (nI 3) hx ?_
    refine v_istore_n C [(0, .int (nI 3))] dJ6_numberOfTrailingZeros_0f7a4_7 rfl (by decide) rfl ?_
    refine v_iload_n C 0 dJ6_numberOfTrailingZeros_0f7a4_8 rfl ?_
    refine v_if_gt C 17 dJ6_numberOfTrailingZeros_0f7a4_9 rfl (fun _ => ?_) (fun h_9 => absurd h_9 (by decide +kernel))
    refine v_iconst C (nI 1) dJ6_numberOfTrailingZeros_0f7a4_17 (by decide) ?_
    refine v_istore_n C [(1, .int (nI 1)), (0, .int (nI 3))] dJ6_numberOfTrailingZeros_0f7a4_18 rfl (by decide) rfl ?_
    refine v_iload_n C 1 dJ6_numberOfTrailingZeros_0f7a4_19 rfl ?_
    refine v_ldcw C (65536) kc_J6_264 dJ6_numberOfTrailingZeros_0f7a4_20 ?_
    refine v_top (nI 65536) (by decide +kernel) ?_
    refine n_icmp_le C (by omega) (by omega) 34 dJ6_numberOfTrailingZeros_0f7a4_23 rfl (fun _ => ?_) (fun h_23 => absurd h_23 (by decide))
    refine v_iload_n C 1 dJ6_numberOfTrailingZeros_0f7a4_34 rfl ?_
    refine v_sipush C (nI 256) dJ6_numberOfTrailingZeros_0f7a4_35 (by decide) ?_
    refine n_icmp_le C (by omega) (by omega) 49 dJ6_numberOfTrailingZeros_0f7a4_38 rfl (fun _ => ?_) (fun h_38 => absurd h_38 (by decide))
    refine v_iload_n C 1 dJ6_numberOfTrailingZeros_0f7a4_49 rfl ?_
    refine v_bipush C (nI 16) dJ6_numberOfTrailingZeros_0f7a4_50 (by decide) ?_
    refine n_icmp_le C (by omega) (by omega) 62 dJ6_numberOfTrailingZeros_0f7a4_52 rfl (fun _ => ?_) (fun h_52 => absurd h_52 (by decide))
    refine v_iload_n C 1 dJ6_numberOfTrailingZeros_0f7a4_62 rfl ?_
    refine v_iconst C (nI 4) dJ6_numberOfTrailingZeros_0f7a4_63 (by decide) ?_
    refine n_icmp_le C (by omega) (by omega) 74 dJ6_numberOfTrailingZeros_0f7a4_64 rfl (fun _ => ?_) (fun h_64 => absurd h_64 (by decide))
    refine v_iload_n C 0 dJ6_numberOfTrailingZeros_0f7a4_74 rfl ?_
    refine v_iload_n C 1 dJ6_numberOfTrailingZeros_0f7a4_75 rfl ?_
    refine v_iconst C (nI 1) dJ6_numberOfTrailingZeros_0f7a4_76 (by decide) ?_
    refine v_iushr C dJ6_numberOfTrailingZeros_0f7a4_77 ?_
    refine v_iadd C dJ6_numberOfTrailingZeros_0f7a4_78 ?_
    exact n_iret C hRt rfl dJ6_numberOfTrailingZeros_0f7a4_79 (by decide +kernel) rfl
  · show Vc f G NPh M 0 [(0, .int (nI m))] []
    refine v_iload_n C 0 dJ6_numberOfTrailingZeros_0f7a4_0 rfl ?_
    refine v_iconst C (-1) dJ6_numberOfTrailingZeros_0f7a4_1 (by decide) ?_
    refine v_ixor C dJ6_numberOfTrailingZeros_0f7a4_2 ?_
    refine v_iload_n C 0 dJ6_numberOfTrailingZeros_0f7a4_3 rfl ?_
    refine v_iconst C (nI 1) dJ6_numberOfTrailingZeros_0f7a4_4 (by decide) ?_
    refine n_isub C (by omega) dJ6_numberOfTrailingZeros_0f7a4_5 ?_
    refine v_iand C dJ6_numberOfTrailingZeros_0f7a4_6 ?_
    refine v_top (nI 7) hx ?_
    refine v_istore_n C [(0, .int (nI 7))] dJ6_numberOfTrailingZeros_0f7a4_7 rfl (by decide) rfl ?_
    refine v_iload_n C 0 dJ6_numberOfTrailingZeros_0f7a4_8 rfl ?_
    refine v_if_gt C 17 dJ6_numberOfTrailingZeros_0f7a4_9 rfl (fun _ => ?_) (fun h_9 => absurd h_9 (by decide +kernel))
    refine v_iconst C (nI 1) dJ6_numberOfTrailingZeros_0f7a4_17 (by decide) ?_
    refine v_istore_n C [(1, .int (nI 1)), (0, .int (nI 7))] dJ6_numberOfTrailingZeros_0f7a4_18 rfl (by decide) rfl ?_
    refine v_iload_n C 1 dJ6_numberOfTrailingZeros_0f7a4_19 rfl ?_
    refine v_ldcw C (65536) kc_J6_264 dJ6_numberOfTrailingZeros_0f7a4_20 ?_
    refine v_top (nI 65536) (by decide +kernel) ?_
    refine n_icmp_le C (by omega) (by omega) 34 dJ6_numberOfTrailingZeros_0f7a4_23 rfl (fun _ => ?_) (fun h_23 => absurd h_23 (by decide))
    refine v_iload_n C 1 dJ6_numberOfTrailingZeros_0f7a4_34 rfl ?_
    refine v_sipush C (nI 256) dJ6_numberOfTrailingZeros_0f7a4_35 (by decide) ?_
    refine n_icmp_le C (by omega) (by omega) 49 dJ6_numberOfTrailingZeros_0f7a4_38 rfl (fun _ => ?_) (fun h_38 => absurd h_38 (by decide))
    refine v_iload_n C 1 dJ6_numberOfTrailingZeros_0f7a4_49 rfl ?_
    refine v_bipush C (nI 16) dJ6_numberOfTrailingZeros_0f7a4_50 (by decide) ?_
    refine n_icmp_le C (by omega) (by omega) 62 dJ6_numberOfTrailingZeros_0f7a4_52 rfl (fun _ => ?_) (fun h_52 => absurd h_52 (by decide))
    refine v_iload_n C 1 dJ6_numberOfTrailingZeros_0f7a4_62 rfl ?_
    refine v_iconst C (nI 4) dJ6_numberOfTrailingZeros_0f7a4_63 (by decide) ?_
    refine n_icmp_le C (by omega) (by omega) 74 dJ6_numberOfTrailingZeros_0f7a4_64 rfl (fun h_64 => absurd h_64 (by decide)) (fun _ => ?_)
    refine v_iinc C (nI (1 + 2)) 0 [(1, .int (nI (1 + 2))), (0, .int (nI 7))] dJ6_numberOfTrailingZeros_0f7a4_67 rfl (nI_add _ _) (by decide) rfl ?_
    refine v_iload_n C 1 dJ6_numberOfTrailingZeros_0f7a4_70 rfl ?_
    refine v_iconst C (nI 2) dJ6_numberOfTrailingZeros_0f7a4_71 (by decide) ?_
    refine v_iushr C dJ6_numberOfTrailingZeros_0f7a4_72 ?_
    refine v_top (nI 1) (by decide +kernel) ?_
    refine v_istore_n C [(0, .int (nI 1)), (1, .int (nI (1 + 2)))] dJ6_numberOfTrailingZeros_0f7a4_73 rfl (by decide) rfl ?_
    refine v_iload_n C 1 dJ6_numberOfTrailingZeros_0f7a4_74 rfl ?_
    refine v_iload_n C 0 dJ6_numberOfTrailingZeros_0f7a4_75 rfl ?_
    refine v_iconst C (nI 1) dJ6_numberOfTrailingZeros_0f7a4_76 (by decide) ?_
    refine v_iushr C dJ6_numberOfTrailingZeros_0f7a4_77 ?_
    refine v_iadd C dJ6_numberOfTrailingZeros_0f7a4_78 ?_
    exact n_iret C hRt rfl dJ6_numberOfTrailingZeros_0f7a4_79 (by decide +kernel) rfl
  · show Vc f G NPh M 0 [(0, .int (nI m))] []
    refine v_iload_n C 0 dJ6_numberOfTrailingZeros_0f7a4_0 rfl ?_
    refine v_iconst C (-1) dJ6_numberOfTrailingZeros_0f7a4_1 (by decide) ?_
    refine v_ixor C dJ6_numberOfTrailingZeros_0f7a4_2 ?_
    refine v_iload_n C 0 dJ6_numberOfTrailingZeros_0f7a4_3 rfl ?_
    refine v_iconst C (nI 1) dJ6_numberOfTrailingZeros_0f7a4_4 (by decide) ?_
    refine n_isub C (by omega) dJ6_numberOfTrailingZeros_0f7a4_5 ?_
    refine v_iand C dJ6_numberOfTrailingZeros_0f7a4_6 ?_
    refine v_top (nI 15) hx ?_
    refine v_istore_n C [(0, .int (nI 15))] dJ6_numberOfTrailingZeros_0f7a4_7 rfl (by decide) rfl ?_
    refine v_iload_n C 0 dJ6_numberOfTrailingZeros_0f7a4_8 rfl ?_
    refine v_if_gt C 17 dJ6_numberOfTrailingZeros_0f7a4_9 rfl (fun _ => ?_) (fun h_9 => absurd h_9 (by decide +kernel))
    refine v_iconst C (nI 1) dJ6_numberOfTrailingZeros_0f7a4_17 (by decide) ?_
    refine v_istore_n C [(1, .int (nI 1)), (0, .int (nI 15))] dJ6_numberOfTrailingZeros_0f7a4_18 rfl (by decide) rfl ?_
    refine v_iload_n C 1 dJ6_numberOfTrailingZeros_0f7a4_19 rfl ?_
    refine v_ldcw C (65536) kc_J6_264 dJ6_numberOfTrailingZeros_0f7a4_20 ?_
    refine v_top (nI 65536) (by decide +kernel) ?_
    refine n_icmp_le C (by omega) (by omega) 34 dJ6_numberOfTrailingZeros_0f7a4_23 rfl (fun _ => ?_) (fun h_23 => absurd h_23 (by decide))
    refine v_iload_n C 1 dJ6_numberOfTrailingZeros_0f7a4_34 rfl ?_
    refine v_sipush C (nI 256) dJ6_numberOfTrailingZeros_0f7a4_35 (by decide) ?_
    refine n_icmp_le C (by omega) (by omega) 49 dJ6_numberOfTrailingZeros_0f7a4_38 rfl (fun _ => ?_) (fun h_38 => absurd h_38 (by decide))
    refine v_iload_n C 1 dJ6_numberOfTrailingZeros_0f7a4_49 rfl ?_
    refine v_bipush C (nI 16) dJ6_numberOfTrailingZeros_0f7a4_50 (by decide) ?_
    refine n_icmp_le C (by omega) (by omega) 62 dJ6_numberOfTrailingZeros_0f7a4_52 rfl (fun _ => ?_) (fun h_52 => absurd h_52 (by decide))
    refine v_iload_n C 1 dJ6_numberOfTrailingZeros_0f7a4_62 rfl ?_
    refine v_iconst C (nI 4) dJ6_numberOfTrailingZeros_0f7a4_63 (by decide) ?_
    refine n_icmp_le C (by omega) (by omega) 74 dJ6_numberOfTrailingZeros_0f7a4_64 rfl (fun h_64 => absurd h_64 (by decide)) (fun _ => ?_)
    refine v_iinc C (nI (1 + 2)) 0 [(1, .int (nI (1 + 2))), (0, .int (nI 15))] dJ6_numberOfTrailingZeros_0f7a4_67 rfl (nI_add _ _) (by decide) rfl ?_
    refine v_iload_n C 1 dJ6_numberOfTrailingZeros_0f7a4_70 rfl ?_
    refine v_iconst C (nI 2) dJ6_numberOfTrailingZeros_0f7a4_71 (by decide) ?_
    refine v_iushr C dJ6_numberOfTrailingZeros_0f7a4_72 ?_
    refine v_top (nI 3) (by decide +kernel) ?_
    refine v_istore_n C [(0, .int (nI 3)), (1, .int (nI (1 + 2)))] dJ6_numberOfTrailingZeros_0f7a4_73 rfl (by decide) rfl ?_
    refine v_iload_n C 1 dJ6_numberOfTrailingZeros_0f7a4_74 rfl ?_
    refine v_iload_n C 0 dJ6_numberOfTrailingZeros_0f7a4_75 rfl ?_
    refine v_iconst C (nI 1) dJ6_numberOfTrailingZeros_0f7a4_76 (by decide) ?_
    refine v_iushr C dJ6_numberOfTrailingZeros_0f7a4_77 ?_
    refine v_iadd C dJ6_numberOfTrailingZeros_0f7a4_78 ?_
    exact n_iret C hRt rfl dJ6_numberOfTrailingZeros_0f7a4_79 (by decide +kernel) rfl
  · show Vc f G NPh M 0 [(0, .int (nI m))] []
    refine v_iload_n C 0 dJ6_numberOfTrailingZeros_0f7a4_0 rfl ?_
    refine v_iconst C (-1) dJ6_numberOfTrailingZeros_0f7a4_1 (by decide) ?_
    refine v_ixor C dJ6_numberOfTrailingZeros_0f7a4_2 ?_
    refine v_iload_n C 0 dJ6_numberOfTrailingZeros_0f7a4_3 rfl ?_
    refine v_iconst C (nI 1) dJ6_numberOfTrailingZeros_0f7a4_4 (by decide) ?_
    refine n_isub C (by omega) dJ6_numberOfTrailingZeros_0f7a4_5 ?_
    refine v_iand C dJ6_numberOfTrailingZeros_0f7a4_6 ?_
    refine v_top (nI 31) hx ?_
    refine v_istore_n C [(0, .int (nI 31))] dJ6_numberOfTrailingZeros_0f7a4_7 rfl (by decide) rfl ?_
    refine v_iload_n C 0 dJ6_numberOfTrailingZeros_0f7a4_8 rfl ?_
    refine v_if_gt C 17 dJ6_numberOfTrailingZeros_0f7a4_9 rfl (fun _ => ?_) (fun h_9 => absurd h_9 (by decide +kernel))
    refine v_iconst C (nI 1) dJ6_numberOfTrailingZeros_0f7a4_17 (by decide) ?_
    refine v_istore_n C [(1, .int (nI 1)), (0, .int (nI 31))] dJ6_numberOfTrailingZeros_0f7a4_18 rfl (by decide) rfl ?_
    refine v_iload_n C 1 dJ6_numberOfTrailingZeros_0f7a4_19 rfl ?_
    refine v_ldcw C (65536) kc_J6_264 dJ6_numberOfTrailingZeros_0f7a4_20 ?_
    refine v_top (nI 65536) (by decide +kernel) ?_
    refine n_icmp_le C (by omega) (by omega) 34 dJ6_numberOfTrailingZeros_0f7a4_23 rfl (fun _ => ?_) (fun h_23 => absurd h_23 (by decide))
    refine v_iload_n C 1 dJ6_numberOfTrailingZeros_0f7a4_34 rfl ?_
    refine v_sipush C (nI 256) dJ6_numberOfTrailingZeros_0f7a4_35 (by decide) ?_
    refine n_icmp_le C (by omega) (by omega) 49 dJ6_numberOfTrailingZeros_0f7a4_38 rfl (fun _ => ?_) (fun h_38 => absurd h_38 (by decide))
    refine v_iload_n C 1 dJ6_numberOfTrailingZeros_0f7a4_49 rfl ?_
    refine v_bipush C (nI 16) dJ6_numberOfTrailingZeros_0f7a4_50 (by decide) ?_
    refine n_icmp_le C (by omega) (by omega) 62 dJ6_numberOfTrailingZeros_0f7a4_52 rfl (fun h_52 => absurd h_52 (by decide)) (fun _ => ?_)
    refine v_iinc C (nI (1 + 4)) 0 [(1, .int (nI (1 + 4))), (0, .int (nI 31))] dJ6_numberOfTrailingZeros_0f7a4_55 rfl (nI_add _ _) (by decide) rfl ?_
    refine v_iload_n C 1 dJ6_numberOfTrailingZeros_0f7a4_58 rfl ?_
    refine v_iconst C (nI 4) dJ6_numberOfTrailingZeros_0f7a4_59 (by decide) ?_
    refine v_iushr C dJ6_numberOfTrailingZeros_0f7a4_60 ?_
    refine v_top (nI 1) (by decide +kernel) ?_
    refine v_istore_n C [(0, .int (nI 1)), (1, .int (nI (1 + 4)))] dJ6_numberOfTrailingZeros_0f7a4_61 rfl (by decide) rfl ?_
    refine v_iload_n C 0 dJ6_numberOfTrailingZeros_0f7a4_62 rfl ?_
    refine v_iconst C (nI 4) dJ6_numberOfTrailingZeros_0f7a4_63 (by decide) ?_
    refine n_icmp_le C (by omega) (by omega) 74 dJ6_numberOfTrailingZeros_0f7a4_64 rfl (fun _ => ?_) (fun h_64 => absurd h_64 (by decide))
    refine v_iload_n C 1 dJ6_numberOfTrailingZeros_0f7a4_74 rfl ?_
    refine v_iload_n C 0 dJ6_numberOfTrailingZeros_0f7a4_75 rfl ?_
    refine v_iconst C (nI 1) dJ6_numberOfTrailingZeros_0f7a4_76 (by decide) ?_
    refine v_iushr C dJ6_numberOfTrailingZeros_0f7a4_77 ?_
    refine v_iadd C dJ6_numberOfTrailingZeros_0f7a4_78 ?_
    exact n_iret C hRt rfl dJ6_numberOfTrailingZeros_0f7a4_79 (by decide +kernel) rfl
  · show Vc f G NPh M 0 [(0, .int (nI m))] []
    refine v_iload_n C 0 dJ6_numberOfTrailingZeros_0f7a4_0 rfl ?_
    refine v_iconst C (-1) dJ6_numberOfTrailingZeros_0f7a4_1 (by decide) ?_
    refine v_ixor C dJ6_numberOfTrailingZeros_0f7a4_2 ?_
    refine v_iload_n C 0 dJ6_numberOfTrailingZeros_0f7a4_3 rfl ?_
    refine v_iconst C (nI 1) dJ6_numberOfTrailingZeros_0f7a4_4 (by decide) ?_
    refine n_isub C (by omega) dJ6_numberOfTrailingZeros_0f7a4_5 ?_
    refine v_iand C dJ6_numberOfTrailingZeros_0f7a4_6 ?_
    refine v_top (nI 63) hx ?_
    refine v_istore_n C [(0, .int (nI 63))] dJ6_numberOfTrailingZeros_0f7a4_7 rfl (by decide) rfl ?_
    refine v_iload_n C 0 dJ6_numberOfTrailingZeros_0f7a4_8 rfl ?_
    refine v_if_gt C 17 dJ6_numberOfTrailingZeros_0f7a4_9 rfl (fun _ => ?_) (fun h_9 => absurd h_9 (by decide +kernel))
    refine v_iconst C (nI 1) dJ6_numberOfTrailingZeros_0f7a4_17 (by decide) ?_
    refine v_istore_n C [(1, .int (nI 1)), (0, .int (nI 63))] dJ6_numberOfTrailingZeros_0f7a4_18 rfl (by decide) rfl ?_
    refine v_iload_n C 1 dJ6_numberOfTrailingZeros_0f7a4_19 rfl ?_
    refine v_ldcw C (65536) kc_J6_264 dJ6_numberOfTrailingZeros_0f7a4_20 ?_
    refine v_top (nI 65536) (by decide +kernel) ?_
    refine n_icmp_le C (by omega) (by omega) 34 dJ6_numberOfTrailingZeros_0f7a4_23 rfl (fun _ => ?_) (fun h_23 => absurd h_23 (by decide))
    refine v_iload_n C 1 dJ6_numberOfTrailingZeros_0f7a4_34 rfl ?_
    refine v_sipush C (nI 256) dJ6_numberOfTrailingZeros_0f7a4_35 (by decide) ?_
    refine n_icmp_le C (by omega) (by omega) 49 dJ6_numberOfTrailingZeros_0f7a4_38 rfl (fun _ => ?_) (fun h_38 => absurd h_38 (by decide))
    refine v_iload_n C 1 dJ6_numberOfTrailingZeros_0f7a4_49 rfl ?_
    refine v_bipush C (nI 16) dJ6_numberOfTrailingZeros_0f7a4_50 (by decide) ?_
    refine n_icmp_le C (by omega) (by omega) 62 dJ6_numberOfTrailingZeros_0f7a4_52 rfl (fun h_52 => absurd h_52 (by decide)) (fun _ => ?_)
    refine v_iinc C (nI (1 + 4)) 0 [(1, .int (nI (1 + 4))), (0, .int (nI 63))] dJ6_numberOfTrailingZeros_0f7a4_55 rfl (nI_add _ _) (by decide) rfl ?_
    refine v_iload_n C 1 dJ6_numberOfTrailingZeros_0f7a4_58 rfl ?_
    refine v_iconst C (nI 4) dJ6_numberOfTrailingZeros_0f7a4_59 (by decide) ?_
    refine v_iushr C dJ6_numberOfTrailingZeros_0f7a4_60 ?_
    refine v_top (nI 3) (by decide +kernel) ?_
    refine v_istore_n C [(0, .int (nI 3)), (1, .int (nI (1 + 4)))] dJ6_numberOfTrailingZeros_0f7a4_61 rfl (by decide) rfl ?_
    refine v_iload_n C 0 dJ6_numberOfTrailingZeros_0f7a4_62 rfl ?_
    refine v_iconst C (nI 4) dJ6_numberOfTrailingZeros_0f7a4_63 (by decide) ?_
    refine n_icmp_le C (by omega) (by omega) 74 dJ6_numberOfTrailingZeros_0f7a4_64 rfl (fun _ => ?_) (fun h_64 => absurd h_64 (by decide))
    refine v_iload_n C 1 dJ6_numberOfTrailingZeros_0f7a4_74 rfl ?_
    refine v_iload_n C 0 dJ6_numberOfTrailingZeros_0f7a4_75 rfl ?_
    refine v_iconst C (nI 1) dJ6_numberOfTrailingZeros_0f7a4_76 (by decide) ?_
    refine v_iushr C dJ6_numberOfTrailingZeros_0f7a4_77 ?_
    refine v_iadd C dJ6_numberOfTrailingZeros_0f7a4_78 ?_
    exact n_iret C hRt rfl dJ6_numberOfTrailingZeros_0f7a4_79 (by decide +kernel) rfl
  · show Vc f G NPh M 0 [(0, .int (nI m))] []
    refine v_iload_n C 0 dJ6_numberOfTrailingZeros_0f7a4_0 rfl ?_
    refine v_iconst C (-1) dJ6_numberOfTrailingZeros_0f7a4_1 (by decide) ?_
    refine v_ixor C dJ6_numberOfTrailingZeros_0f7a4_2 ?_
    refine v_iload_n C 0 dJ6_numberOfTrailingZeros_0f7a4_3 rfl ?_
    refine v_iconst C (nI 1) dJ6_numberOfTrailingZeros_0f7a4_4 (by decide) ?_
    refine n_isub C (by omega) dJ6_numberOfTrailingZeros_0f7a4_5 ?_
    refine v_iand C dJ6_numberOfTrailingZeros_0f7a4_6 ?_
    refine v_top (nI 127) hx ?_
    refine v_istore_n C [(0, .int (nI 127))] dJ6_numberOfTrailingZeros_0f7a4_7 rfl (by decide) rfl ?_
    refine v_iload_n C 0 dJ6_numberOfTrailingZeros_0f7a4_8 rfl ?_
    refine v_if_gt C 17 dJ6_numberOfTrailingZeros_0f7a4_9 rfl (fun _ => ?_) (fun h_9 => absurd h_9 (by decide +kernel))
    refine v_iconst C (nI 1) dJ6_numberOfTrailingZeros_0f7a4_17 (by decide) ?_
    refine v_istore_n C [(1, .int (nI 1)), (0, .int (nI 127))] dJ6_numberOfTrailingZeros_0f7a4_18 rfl (by decide) rfl ?_
    refine v_iload_n C 1 dJ6_numberOfTrailingZeros_0f7a4_19 rfl ?_
    refine v_ldcw C (65536) kc_J6_264 dJ6_numberOfTrailingZeros_0f7a4_20 ?_
    refine v_top (nI 65536) (by decide +kernel) ?_
    refine n_icmp_le C (by omega) (by omega) 34 dJ6_numberOfTrailingZeros_0f7a4_23 rfl (fun _ => ?_) (fun h_23 => absurd h_23 (by decide))
    refine v_iload_n C 1 dJ6_numberOfTrailingZeros_0f7a4_34 rfl ?_
    refine v_sipush C (nI 256) dJ6_numberOfTrailingZeros_0f7a4_35 (by decide) ?_
    refine n_icmp_le C (by omega) (by omega) 49 dJ6_numberOfTrailingZeros_0f7a4_38 rfl (fun _ => ?_) (fun h_38 => absurd h_38 (by decide))
    refine v_iload_n C 1 dJ6_numberOfTrailingZeros_0f7a4_49 rfl ?_
    refine v_bipush C (nI 16) dJ6_numberOfTrailingZeros_0f7a4_50 (by decide) ?_
    refine n_icmp_le C (by omega) (by omega) 62 dJ6_numberOfTrailingZeros_0f7a4_52 rfl (fun h_52 => absurd h_52 (by decide)) (fun _ => ?_)
    refine v_iinc C (nI (1 + 4)) 0 [(1, .int (nI (1 + 4))), (0, .int (nI 127))] dJ6_numberOfTrailingZeros_0f7a4_55 rfl (nI_add _ _) (by decide) rfl ?_
    refine v_iload_n C 1 dJ6_numberOfTrailingZeros_0f7a4_58 rfl ?_
    refine v_iconst C (nI 4) dJ6_numberOfTrailingZeros_0f7a4_59 (by decide) ?_
    refine v_iushr C dJ6_numberOfTrailingZeros_0f7a4_60 ?_
    refine v_top (nI 7) (by decide +kernel) ?_
    refine v_istore_n C [(0, .int (nI 7)), (1, .int (nI (1 + 4)))] dJ6_numberOfTrailingZeros_0f7a4_61 rfl (by decide) rfl ?_
    refine v_iload_n C 0 dJ6_numberOfTrailingZeros_0f7a4_62 rfl ?_
    refine v_iconst C (nI 4) dJ6_numberOfTrailingZeros_0f7a4_63 (by decide) ?_
    refine n_icmp_le C (by omega) (by omega) 74 dJ6_numberOfTrailingZeros_0f7a4_64 rfl (fun h_64 => absurd h_64 (by decide)) (fun _ => ?_)
    refine v_iinc C (nI (1 + 4 + 2)) 1 [(1, .int (nI (1 + 4 + 2))), (0, .int (nI 7))] dJ6_numberOfTrailingZeros_0f7a4_67 rfl (nI_add _ _) (by decide) rfl ?_
    refine v_iload_n C 1 dJ6_numberOfTrailingZeros_0f7a4_70 rfl ?_
    refine v_iconst C (nI 2) dJ6_numberOfTrailingZeros_0f7a4_71 (by decide) ?_
    refine v_iushr C dJ6_numberOfTrailingZeros_0f7a4_72 ?_
    refine v_top (nI 1) (by decide +kernel) ?_
    refine v_istore_n C [(0, .int (nI 1)), (1, .int (nI (1 + 4 + 2)))] dJ6_numberOfTrailingZeros_0f7a4_73 rfl (by decide) rfl ?_
    refine v_iload_n C 1 dJ6_numberOfTrailingZeros_0f7a4_74 rfl ?_
    refine v_iload_n C 0 dJ6_numberOfTrailingZeros_0f7a4_75 rfl ?_
    refine v_iconst C (nI 1) dJ6_numberOfTrailingZeros_0f7a4_76 (by decide) ?_
    refine v_iushr C dJ6_numberOfTrailingZeros_0f7a4_77 ?_
    refine v_iadd C dJ6_numberOfTrailingZeros_0f7a4_78 ?_
    exact n_iret C hRt rfl dJ6_numberOfTrailingZeros_0f7a4_79 (by decide +kernel) rfl
  · show Vc f G NPh M 0 [(0, .int (nI m))] []
    refine v_iload_n C 0 dJ6_numberOfTrailingZeros_0f7a4_0 rfl ?_
    refine v_iconst C (-1) dJ6_numberOfTrailingZeros_0f7a4_1 (by decide) ?_
    refine v_ixor C dJ6_numberOfTrailingZeros_0f7a4_2 ?_
    refine v_iload_n C 0 dJ6_numberOfTrailingZeros_0f7a4_3 rfl ?_
    refine v_iconst C (nI 1) dJ6_numberOfTrailingZeros_0f7a4_4 (by decide) ?_
    refine n_isub C (by omega) dJ6_numberOfTrailingZeros_0f7a4_5 ?_
    refine v_iand C dJ6_numberOfTrailingZeros_0f7a4_6 ?_
    refine v_top (nI 255) hx ?_
    refine v_istore_n C [(0, .int (nI 255))] dJ6_numberOfTrailingZeros_0f7a4_7 rfl (by decide) rfl ?_
    refine v_iload_n C 0 dJ6_numberOfTrailingZeros_0f7a4_8 rfl ?_
    refine v_if_gt C 17 dJ6_numberOfTrailingZeros_0f7a4_9 rfl (fun _ => ?_) (fun h_9 => absurd h_9 (by decide +kernel))
    refine v_iconst C (nI 1) dJ6_numberOfTrailingZeros_0f7a4_17 (by decide) ?_
    refine v_istore_n C [(1, .int (nI 1)), (0, .int (nI 255))] dJ6_numberOfTrailingZeros_0f7a4_18 rfl (by decide) rfl ?_
    refine v_iload_n C 1 dJ6_numberOfTrailingZeros_0f7a4_19 rfl ?_
    refine v_ldcw C (65536) kc_J6_264 dJ6_numberOfTrailingZeros_0f7a4_20 ?_
    refine v_top (nI 65536) (by decide +kernel) ?_
    refine n_icmp_le C (by omega) (by omega) 34 dJ6_numberOfTrailingZeros_0f7a4_23 rfl (fun _ => ?_) (fun h_23 => absurd h_23 (by decide))
    refine v_iload_n C 1 dJ6_numberOfTrailingZeros_0f7a4_34 rfl ?_
    refine v_sipush C (nI 256) dJ6_numberOfTrailingZeros_0f7a4_35 (by decide) ?_
    refine n_icmp_le C (by omega) (by omega) 49 dJ6_numberOfTrailingZeros_0f7a4_38 rfl (fun _ => ?_) (fun h_38 => absurd h_38 (by decide))
    refine v_iload_n C 1 dJ6_numberOfTrailingZeros_0f7a4_49 rfl ?_
    refine v_bipush C (nI 16) dJ6_numberOfTrailingZeros_0f7a4_50 (by decide) ?_
    refine n_icmp_le C (by omega) (by omega) 62 dJ6_numberOfTrailingZeros_0f7a4_52 rfl (fun h_52 => absurd h_52 (by decide)) (fun _ => ?_)
    refine v_iinc C (nI (1 + 4)) 0 [(1, .int (nI (1 + 4))), (0, .int (nI 255))] dJ6_numberOfTrailingZeros_0f7a4_55 rfl (nI_add _ _) (by decide) rfl ?_
    refine v_iload_n C 1 dJ6_numberOfTrailingZeros_0f7a4_58 rfl ?_
    refine v_iconst C (nI 4) dJ6_numberOfTrailingZeros_0f7a4_59 (by decide) ?_
    refine v_iushr C dJ6_numberOfTrailingZeros_0f7a4_60 ?_
    refine v_top (nI 15) (by decide +kernel) ?_
    refine v_istore_n C [(0, .int (nI 15)), (1, .int (nI (1 + 4)))] dJ6_numberOfTrailingZeros_0f7a4_61 rfl (by decide) rfl ?_
    refine v_iload_n C 0 dJ6_numberOfTrailingZeros_0f7a4_62 rfl ?_
    refine v_iconst C (nI 4) dJ6_numberOfTrailingZeros_0f7a4_63 (by decide) ?_
    refine n_icmp_le C (by omega) (by omega) 74 dJ6_numberOfTrailingZeros_0f7a4_64 rfl (fun h_64 => absurd h_64 (by decide)) (fun _ => ?_)
    refine v_iinc C (nI (1 + 4 + 2)) 1 [(1, .int (nI (1 + 4 + 2))), (0, .int (nI 15))] dJ6_numberOfTrailingZeros_0f7a4_67 rfl (nI_add _ _) (by decide) rfl ?_
    refine v_iload_n C 1 dJ6_numberOfTrailingZeros_0f7a4_70 rfl ?_
    refine v_iconst C (nI 2) dJ6_numberOfTrailingZeros_0f7a4_71 (by decide) ?_
    refine v_iushr C dJ6_numberOfTrailingZeros_0f7a4_72 ?_
    refine v_top (nI 3) (by decide +kernel) ?_
    refine v_istore_n C [(0, .int (nI 3)), (1, .int (nI (1 + 4 + 2)))] dJ6_numberOfTrailingZeros_0f7a4_73 rfl (by decide) rfl ?_
    refine v_iload_n C 1 dJ6_numberOfTrailingZeros_0f7a4_74 rfl ?_
    refine v_iload_n C 0 dJ6_numberOfTrailingZeros_0f7a4_75 rfl ?_
    refine v_iconst C (nI 1) dJ6_numberOfTrailingZeros_0f7a4_76 (by decide) ?_
    refine v_iushr C dJ6_numberOfTrailingZeros_0f7a4_77 ?_
    refine v_iadd C dJ6_numberOfTrailingZeros_0f7a4_78 ?_
    exact n_iret C hRt rfl dJ6_numberOfTrailingZeros_0f7a4_79 (by decide +kernel) rfl
  · show Vc f G NPh M 0 [(0, .int (nI m))] []
    refine v_iload_n C 0 dJ6_numberOfTrailingZeros_0f7a4_0 rfl ?_
    refine v_iconst C (-1) dJ6_numberOfTrailingZeros_0f7a4_1 (by decide) ?_
    refine v_ixor C dJ6_numberOfTrailingZeros_0f7a4_2 ?_
    refine v_iload_n C 0 dJ6_numberOfTrailingZeros_0f7a4_3 rfl ?_
    refine v_iconst C (nI 1) dJ6_numberOfTrailingZeros_0f7a4_4 (by decide) ?_
    refine n_isub C (by omega) dJ6_numberOfTrailingZeros_0f7a4_5 ?_
    refine v_iand C dJ6_numberOfTrailingZeros_0f7a4_6 ?_
    refine v_top (nI 511) hx ?_
    refine v_istore_n C [(0, .int (nI 511))] dJ6_numberOfTrailingZeros_0f7a4_7 rfl (by decide) rfl ?_
    refine v_iload_n C 0 dJ6_numberOfTrailingZeros_0f7a4_8 rfl ?_
    refine v_if_gt C 17 dJ6_numberOfTrailingZeros_0f7a4_9 rfl (fun _ => ?_) (fun h_9 => absurd h_9 (by decide +kernel))
    refine v_iconst C (nI 1) dJ6_numberOfTrailingZeros_0f7a4_17 (by decide) ?_
    refine v_istore_n C [(1, .int (nI 1)), (0, .int (nI 511))] dJ6_numberOfTrailingZeros_0f7a4_18 rfl (by decide) rfl ?_
    refine v_iload_n C 1 dJ6_numberOfTrailingZeros_0f7a4_19 rfl ?_
    refine v_ldcw C (65536) kc_J6_264 dJ6_numberOfTrailingZeros_0f7a4_20 ?_
    refine v_top (nI 65536) (by decide +kernel) ?_
    refine n_icmp_le C (by omega) (by omega) 34 dJ6_numberOfTrailingZeros_0f7a4_23 rfl (fun _ => ?_) (fun h_23 => absurd h_23 (by decide))
    refine v_iload_n C 1 dJ6_numberOfTrailingZeros_0f7a4_34 rfl ?_
    refine v_sipush C (nI 256) dJ6_numberOfTrailingZeros_0f7a4_35 (by decide) ?_
    refine n_icmp_le C (by omega) (by omega) 49 dJ6_numberOfTrailingZeros_0f7a4_38 rfl (fun h_38 => absurd h_38 (by decide)) (fun _ => ?_)
    refine v_iinc C (nI (1 + 8)) 0 [(1, .int (nI (1 + 8))), (0, .int (nI 511))] dJ6_numberOfTrailingZeros_0f7a4_41 rfl (nI_add _ _) (by decide) rfl ?_
    refine v_iload_n C 1 dJ6_numberOfTrailingZeros_0f7a4_44 rfl ?_
    refine v_bipush C (nI 8) dJ6_numberOfTrailingZeros_0f7a4_45 (by decide) ?_
    refine v_iushr C dJ6_numberOfTrailingZeros_0f7a4_47 ?_
    refine v_top (nI 1) (by decide +kernel) ?_
    refine v_istore_n C [(0, .int (nI 1)), (1, .int (nI (1 + 8)))] dJ6_numberOfTrailingZeros_0f7a4_48 rfl (by decide) rfl ?_
    refine v_iload_n C 0 dJ6_numberOfTrailingZeros_0f7a4_49 rfl ?_
    refine v_bipush C (nI 16) dJ6_numberOfTrailingZeros_0f7a4_50 (by decide) ?_
    refine n_icmp_le C (by omega) (by omega) 62 dJ6_numberOfTrailingZeros_0f7a4_52 rfl (fun _ => ?_) (fun h_52 => absurd h_52 (by decide))
    refine v_iload_n C 0 dJ6_numberOfTrailingZeros_0f7a4_62 rfl ?_
    refine v_iconst C (nI 4) dJ6_numberOfTrailingZeros_0f7a4_63 (by decide) ?_
    refine n_icmp_le C (by omega) (by omega) 74 dJ6_numberOfTrailingZeros_0f7a4_64 rfl (fun _ => ?_) (fun h_64 => absurd h_64 (by decide))
    refine v_iload_n C 1 dJ6_numberOfTrailingZeros_0f7a4_74 rfl ?_
    refine v_iload_n C 0 dJ6_numberOfTrailingZeros_0f7a4_75 rfl ?_
    refine v_iconst C (nI 1) dJ6_numberOfTrailingZeros_0f7a4_76 (by decide) ?_
    refine v_iushr C dJ6_numberOfTrailingZeros_0f7a4_77 ?_
    refine v_iadd C dJ6_numberOfTrailingZeros_0f7a4_78 ?_
    exact n_iret C hRt rfl dJ6_numberOfTrailingZeros_0f7a4_79 (by decide +kernel) rfl
set_option maxHeartbeats 4000000 in
set_option maxRecDepth 100000 in
theorem j_fill (l : Launch) (G : GC) (M : Mm) (k L : Nat) (hk : k < 221) (hs : shp k = 1000 + L) (hL : L < 2 ^ 31) : CV l G 1 yJ7_fill_53178 cJ7_fill_53178 4 [.ref (gb G + k), .int (nI 0)] M (fun M' => M' = upA M k (fun _ => nI 0)) := by
  refine Con.of (by decide +kernel) (Nat.le_of_ble_eq_true rfl) ?_
  intro f C hRm hRt _
  refine v_can (fun hcan => ?_)
  have LF : ∀ (kk : Nat) (j : Nat), L - j = kk → j ≤ L → Vc f G NPh (upA M k (fillTo (fun _ => nI 0) (M k) j)) 5 [(2, .int (nI j)), (3, .int (nI L)), (0, .ref (gb G + k)), (1, .int (nI 0))] [] := by
    intro kk
    induction kk using Nat.strongRecOn with
    | _ kk ihLF =>
      intro j hkk hj
      refine v_iload_n C 0 dJ7_fill_53178_5 rfl ?_
      refine v_iload_n C 1 dJ7_fill_53178_6 rfl ?_
      refine n_icmp_ge C (by omega) (by omega) 20 dJ7_fill_53178_7 rfl (fun h_7 => ?_) (fun h_7 => ?_)
      · skip
        have h5 : j = L := by omega
        subst h5
        exact n_ret C hRt dJ7_fill_53178_20 (congrArg (upA M k) (funext fun i => by unfold fillTo; split; rfl; exact (hcan k i (by rw [hs]; omega) (by rw [hs]; omega)).trans nI_0.symm))
      · skip
        refine v_aload_n C 2 dJ7_fill_53178_10 rfl ?_
        refine v_iload_n C 0 dJ7_fill_53178_11 rfl ?_
        refine v_iload_n C 3 dJ7_fill_53178_12 rfl ?_
        refine v_iast C hk hs (by omega) hL dJ7_fill_53178_13 ?_
        refine v_mem (upA M k (fillTo (fun _ => nI 0) (M k) (j + 1))) (by rw [up2_upA, fillTo_succ]) ?_
        refine v_iinc C (nI (j + 1)) 0 [(2, .int (nI (j + 1))), (3, .int (nI L)), (0, .ref (gb G + k)), (1, .int (nI 0))] dJ7_fill_53178_14 rfl (nI_add _ _) (by decide) rfl ?_
        refine v_goto C 5 dJ7_fill_53178_17 rfl ?_
        refine v_sub [0, 1, 2, 3] [(2, .int (nI (j + 1))), (3, .int (nI L)), (0, .ref (gb G + k)), (1, .int (nI 0))] rfl ?_
        exact ihLF _ (by omega) (j + 1)  rfl (by omega)
  show Vc f G NPh M 0 [(0, .ref (gb G + k)), (1, .int (nI 0))] []
  refine v_iconst C (nI 0) dJ7_fill_53178_0 (by decide) ?_
  refine v_istore_n C [(2, .int (nI 0)), (0, .ref (gb G + k)), (1, .int (nI 0))] dJ7_fill_53178_1 rfl (by decide) rfl ?_
  refine v_aload_n C 1 dJ7_fill_53178_2 rfl ?_
  refine v_alen C hk hs dJ7_fill_53178_3 ?_
  refine v_istore_n C [(3, .int (nI L)), (2, .int (nI 0)), (0, .ref (gb G + k)), (1, .int (nI 0))] dJ7_fill_53178_4 rfl (by decide) rfl ?_
  refine v_mem (upA M k (fillTo (fun _ => nI 0) (M k) 0)) (by rw [fillTo_0, upA_self]) ?_
  refine v_sub [1, 0, 2, 3] [(2, .int (nI 0)), (3, .int (nI L)), (0, .ref (gb G + k)), (1, .int (nI 0))] rfl ?_
  exact LF _ 0  rfl (by omega)
