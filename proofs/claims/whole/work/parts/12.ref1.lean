theorem sh_205 : shp 205 = 10 := by decide +kernel
theorem sh_206 : shp 206 = 1000 + 445 := by decide +kernel
theorem sh_207 : shp 207 = 1000 + 445 := by decide +kernel
theorem sh_208 : shp 208 = 1000 + 445 := by decide +kernel
theorem sh_209 : shp 209 = 1000 + 7 := by decide +kernel
theorem sh_210 : shp 210 = 25 := by decide +kernel
theorem sh_211 : shp 211 = 1000 + 60 := by decide +kernel
theorem sh_212 : shp 212 = 1000 + 5 := by decide +kernel
theorem sh_213 : shp 213 = 1000 + 60 := by decide +kernel
theorem sh_214 : shp 214 = 1000 + 100 := by decide +kernel
theorem sh_215 : shp 215 = 1000 + 10 := by decide +kernel
theorem sh_216 : shp 216 = 1000 + 30 := by decide +kernel
theorem sh_217 : shp 217 = 1000 + 4 := by decide +kernel
theorem sh_218 : shp 218 = 1000 + 4 := by decide +kernel
theorem sh_219 : shp 219 = 1000 + 96 := by decide +kernel
theorem sh_220 : shp 220 = 1000 + 24 := by decide +kernel
def heldS (v lo hi : Int32) : Int32 := if lo < (if v < hi then v else hi) then (if v < hi then v else hi) else lo
def fndM (M : Mm) (k : Nat) : Mm := up2 M 209 k (M 209 k + nI 1)
def fillTo (f g : Nat → Int32) (j : Nat) : Nat → Int32 := fun i => if i < j then f i else g i
theorem fillTo_0 (f g : Nat → Int32) : fillTo f g 0 = g := by funext i; unfold fillTo; rw [if_neg (Nat.not_lt_zero i)]
theorem fillTo_succ (f g : Nat → Int32) (j : Nat) : upd (fillTo f g j) j (f j) = fillTo f g (j + 1) := by
  funext i
  unfold upd fillTo
  by_cases h : i = j
  · subst h; rw [if_pos rfl, if_pos (Nat.lt_succ_self i)]
  · rw [if_neg h]
    by_cases h2 : i < j
    · rw [if_pos h2, if_pos (by omega)]
    · rw [if_neg h2, if_neg (by omega)]
theorem upd_eq (f : Nat → Int32) (k : Nat) (x : Int32) : upd f k x k = x := if_pos rfl
theorem upd_ne (f : Nat → Int32) {k j : Nat} (x : Int32) (h : j ≠ k) : upd f k x j = f j := if_neg h
set_option maxHeartbeats 4000000 in
set_option maxRecDepth 100000 in
theorem r_finding (l : Launch) (G : GC) (M : Mm) (k : Nat) (hk : 1 ≤ k ∧ k ≤ 6) (v : Int32) (hw : (-1000000) - v = nI k) : CI l G 1 yX10_finding cX10_finding 2 .int [.ref (gb G + 205), .int v] M v (fun M' => M' = fndM M k) := by
  refine Con.of (by decide +kernel) (Nat.le_of_ble_eq_true rfl) ?_
  intro f C hRm hRt _
  show Vc f G NPh M 0 [(0, .ref (gb G + 205)), (1, .int v)] []
  refine v_aload_n C 0 dX10_finding_0 rfl ?_
  refine g_X10_19 C (by decide) sh_205 dX10_finding_1 ?_
  refine v_ldc C (-1000000) kc_X10_62 dX10_finding_4 ?_
  refine v_iload_n C 1 dX10_finding_6 rfl ?_
  refine v_isub C dX10_finding_7 ?_
  refine v_top (nI k) hw ?_
  refine v_dup2 C dX10_finding_8 rfl rfl ?_
  refine v_iald C (by decide) sh_209 (by omega) (by decide) dX10_finding_9 ?_
  refine v_iconst C (nI 1) dX10_finding_10 (by decide) ?_
  refine v_iadd C dX10_finding_11 ?_
  refine v_iast C (by decide) sh_209 (by omega) (by decide) dX10_finding_12 ?_
  refine v_iload_n C 1 dX10_finding_13 rfl ?_
  exact n_iret C hRt rfl dX10_finding_14 (rfl) (rfl)
set_option maxHeartbeats 4000000 in
set_option maxRecDepth 100000 in
theorem r_within (l : Launch) (G : GC) (M : Mm) (v lo hi : Int32) : CP l G 1 yX10_within cX10_within 3 .boolean [.int v, .int lo, .int hi] M (b2i (lo ≤ v ∧ v ≤ hi)) := by
  refine Con.of (by decide +kernel) (Nat.le_of_ble_eq_true rfl) ?_
  intro f C hRm hRt _
  show Vc f G NPh M 0 [(0, .int v), (1, .int lo), (2, .int hi)] []
  refine v_iload_n C 0 dX10_within_0 rfl ?_
  refine v_iload_n C 1 dX10_within_1 rfl ?_
  refine v_icmp_lt C 14 dX10_within_2 rfl (fun h_2 => ?_) (fun h_2 => ?_)
  · skip
    refine v_iconst C (nI 0) dX10_within_14 (by decide) ?_
    exact n_iret C hRt rfl dX10_within_15 (by first | exact b2i_T ⟨Int32.not_lt.mp h_2, Int32.not_lt.mp h_7⟩ | exact b2i_F (fun q => Int32.not_lt.mpr q.1 h_2) | exact b2i_F (fun q => Int32.not_lt.mpr q.2 h_7)) rfl
  · skip
    refine v_iload_n C 0 dX10_within_5 rfl ?_
    refine v_iload_n C 2 dX10_within_6 rfl ?_
    refine v_icmp_gt C 14 dX10_within_7 rfl (fun h_7 => ?_) (fun h_7 => ?_)
    · skip
      refine v_iconst C (nI 0) dX10_within_14 (by decide) ?_
      exact n_iret C hRt rfl dX10_within_15 (by first | exact b2i_T ⟨Int32.not_lt.mp h_2, Int32.not_lt.mp h_7⟩ | exact b2i_F (fun q => Int32.not_lt.mpr q.1 h_2) | exact b2i_F (fun q => Int32.not_lt.mpr q.2 h_7)) rfl
    · skip
      refine v_iconst C (nI 1) dX10_within_10 (by decide) ?_
      refine v_goto C 15 dX10_within_11 rfl ?_
      exact n_iret C hRt rfl dX10_within_15 (by first | exact b2i_T ⟨Int32.not_lt.mp h_2, Int32.not_lt.mp h_7⟩ | exact b2i_F (fun q => Int32.not_lt.mpr q.1 h_2) | exact b2i_F (fun q => Int32.not_lt.mpr q.2 h_7)) rfl
set_option maxHeartbeats 4000000 in
set_option maxRecDepth 100000 in
theorem r_hasBit (l : Launch) (G : GC) (M : Mm) (x k : Int32) : CP l G 1 yX10_hasBit cX10_hasBit 2 .boolean [.int x, .int k] M (b2i ((x >>> (k &&& 31)) &&& nI 1 = nI 1)) := by
  refine Con.of (by decide +kernel) (Nat.le_of_ble_eq_true rfl) ?_
  intro f C hRm hRt _
  show Vc f G NPh M 0 [(0, .int x), (1, .int k)] []
  refine v_iload_n C 0 dX10_hasBit_0 rfl ?_
  refine v_iload_n C 1 dX10_hasBit_1 rfl ?_
  refine v_ishr C dX10_hasBit_2 ?_
  refine v_iconst C (nI 1) dX10_hasBit_3 (by decide) ?_
  refine v_iand C dX10_hasBit_4 ?_
  refine v_iconst C (nI 1) dX10_hasBit_5 (by decide) ?_
  refine v_icmp_ne C 13 dX10_hasBit_6 rfl (fun h_6 => ?_) (fun h_6 => ?_)
  · skip
    refine v_iconst C (nI 0) dX10_hasBit_13 (by decide) ?_
    exact n_iret C hRt rfl dX10_hasBit_14 (by first | exact b2i_T (by assumption) | exact b2i_F (by assumption)) rfl
  · skip
    refine v_iconst C (nI 1) dX10_hasBit_9 (by decide) ?_
    refine v_goto C 14 dX10_hasBit_10 rfl ?_
    exact n_iret C hRt rfl dX10_hasBit_14 (by first | exact b2i_T (by assumption) | exact b2i_F (by assumption)) rfl
set_option maxHeartbeats 4000000 in
set_option maxRecDepth 100000 in
theorem r_held (l : Launch) (G : GC) (M : Mm) (v lo hi : Int32) : CP l G 1 yX10_held cX10_held 3 .int [.int v, .int lo, .int hi] M (heldS v lo hi) := by
  refine Con.of (by decide +kernel) (Nat.le_of_ble_eq_true rfl) ?_
  intro f C hRm hRt _
  show Vc f G NPh M 0 [(0, .int v), (1, .int lo), (2, .int hi)] []
  refine v_iload_n C 1 dX10_held_0 rfl ?_
  refine v_iload_n C 2 dX10_held_1 rfl ?_
  refine v_iload_n C 0 dX10_held_2 rfl ?_
  refine v_mmin C hRm (by decide) ml_X10_63 (Nat.le_of_ble_eq_true rfl) dX10_held_3 ?_
  refine v_mmax C hRm (by decide) ml_X10_69 (Nat.le_of_ble_eq_true rfl) dX10_held_6 ?_
  exact n_iret C hRt rfl dX10_held_9 (rfl) (rfl)
set_option maxHeartbeats 4000000 in
set_option maxRecDepth 100000 in
theorem r_is (l : Launch) (G : GC) (M : Mm) (Y : Nat → Int32) (k : Int32) (c : Nat) (hc : c < 445) : CP l G 2 yX10_is cX10_is 3 .boolean [.ref (gb G + 205), .int k, .int (nI c)] (upA M 206 Y) (b2i (nI 0 ≤ k ∧ k ≤ Y c - nI 1)) := by
  refine Con.of (by decide +kernel) (Nat.le_of_ble_eq_true rfl) ?_
  intro f C hRm hRt _
  show Vc f G NPh (upA M 206 Y) 0 [(0, .ref (gb G + 205)), (1, .int k), (2, .int (nI c))] []
  refine v_iload_n C 1 dX10_is_0 rfl ?_
  refine v_iconst C (nI 0) dX10_is_1 (by decide) ?_
  refine v_aload_n C 0 dX10_is_2 rfl ?_
  refine g_X10_9 C (by decide) sh_205 dX10_is_3 ?_
  refine v_iload_n C 2 dX10_is_6 rfl ?_
  refine n_now_ld C (by decide) sh_206 (by omega) (by decide) dX10_is_7 ?_
  refine v_iconst C (nI 1) dX10_is_8 (by decide) ?_
  refine v_isub C dX10_is_9 ?_
  refine n_callSp C hRm [.int k, .int (nI 0), .int ((Y c) - (nI 1))] cw_X10_within st_X10_within ml_X10_72 (r_within l G (upA M 206 Y) k (nI 0) ((Y c) - (nI 1))) (by decide) rfl rfl (Nat.le_of_ble_eq_true rfl) dX10_is_10 ?_
  exact n_iret C hRt (narrow_01 (b2i_01 _)) dX10_is_13 (rfl) (rfl)
set_option maxHeartbeats 4000000 in
set_option maxRecDepth 100000 in
theorem r_become (l : Launch) (G : GC) (M : Mm) (Y : Nat → Int32) (j : Nat) (v : Int32) (hj : j < 445) : CI l G 1 yX10_become cX10_become 4 .int [.ref (gb G + 205), .int (nI j), .int v] (upA M 206 Y) (Y j) (fun M' => M' = upA M 206 (upd Y j v)) := by
  refine Con.of (by decide +kernel) (Nat.le_of_ble_eq_true rfl) ?_
  intro f C hRm hRt _
  show Vc f G NPh (upA M 206 Y) 0 [(0, .ref (gb G + 205)), (1, .int (nI j)), (2, .int v)] []
  refine v_aload_n C 0 dX10_become_0 rfl ?_
  refine g_X10_9 C (by decide) sh_205 dX10_become_1 ?_
  refine v_iload_n C 1 dX10_become_4 rfl ?_
  refine n_now_ld C (by decide) sh_206 (by omega) (by decide) dX10_become_5 ?_
  refine v_istore_n C [(3, .int (Y j)), (0, .ref (gb G + 205)), (1, .int (nI j)), (2, .int v)] dX10_become_6 rfl (by decide) rfl ?_
  refine v_aload_n C 1 dX10_become_7 rfl ?_
  refine g_X10_9 C (by decide) sh_205 dX10_become_8 ?_
  refine v_iload_n C 2 dX10_become_11 rfl ?_
  refine v_iload_n C 3 dX10_become_12 rfl ?_
  refine n_now_st C (by decide) sh_206 (by omega) (by decide) dX10_become_13 ?_
  refine v_iload_n C 0 dX10_become_14 rfl ?_
  exact n_iret C hRt rfl dX10_become_15 (rfl) (rfl)
set_option maxHeartbeats 4000000 in
set_option maxRecDepth 100000 in
theorem r_of (l : Launch) (G : GC) (M : Mm) (Y : Nat → Int32) (c q : Nat) (hj : 7 + 6 * c + q < 445) : CP l G 1 yX10_of cX10_of 3 .int [.ref (gb G + 205), .int (nI c), .int (nI q)] (upA M 206 Y) (Y (7 + 6 * c + q)) := by
  refine Con.of (by decide +kernel) (Nat.le_of_ble_eq_true rfl) ?_
  intro f C hRm hRt _
  show Vc f G NPh (upA M 206 Y) 0 [(0, .ref (gb G + 205)), (1, .int (nI c)), (2, .int (nI q))] []
  refine v_aload_n C 0 dX10_of_0 rfl ?_
  refine g_X10_9 C (by decide) sh_205 dX10_of_1 ?_
  refine v_bipush C (nI 7) dX10_of_4 (by decide) ?_
  refine v_bipush C (nI 6) dX10_of_6 (by decide) ?_
  refine v_iload_n C 1 dX10_of_8 rfl ?_
  refine n_imul C dX10_of_9 ?_
  refine n_iadd C dX10_of_10 ?_
  refine v_iload_n C 2 dX10_of_11 rfl ?_
  refine n_iadd C dX10_of_12 ?_
  refine n_now_ld C (by decide) sh_206 (by omega) (by decide) dX10_of_13 ?_
  exact n_iret C hRt rfl dX10_of_14 (rfl) (rfl)
set_option maxHeartbeats 4000000 in
set_option maxRecDepth 100000 in
theorem r_heapOf (l : Launch) (G : GC) (M : Mm) (Y : Nat → Int32) (c q : Nat) (hj : 167 + 4 * c + q < 445) : CP l G 1 yX10_heapOf cX10_heapOf 3 .int [.ref (gb G + 205), .int (nI c), .int (nI q)] (upA M 206 Y) (Y (167 + 4 * c + q)) := by
  refine Con.of (by decide +kernel) (Nat.le_of_ble_eq_true rfl) ?_
  intro f C hRm hRt _
  show Vc f G NPh (upA M 206 Y) 0 [(0, .ref (gb G + 205)), (1, .int (nI c)), (2, .int (nI q))] []
  refine v_aload_n C 0 dX10_heapOf_0 rfl ?_
  refine g_X10_9 C (by decide) sh_205 dX10_heapOf_1 ?_
  refine v_sipush C (nI 167) dX10_heapOf_4 (by decide) ?_
  refine v_iconst C (nI 4) dX10_heapOf_7 (by decide) ?_
  refine v_iload_n C 1 dX10_heapOf_8 rfl ?_
  refine n_imul C dX10_heapOf_9 ?_
  refine n_iadd C dX10_heapOf_10 ?_
  refine v_iload_n C 2 dX10_heapOf_11 rfl ?_
  refine n_iadd C dX10_heapOf_12 ?_
  refine n_now_ld C (by decide) sh_206 (by omega) (by decide) dX10_heapOf_13 ?_
  exact n_iret C hRt rfl dX10_heapOf_14 (rfl) (rfl)
set_option maxHeartbeats 4000000 in
set_option maxRecDepth 100000 in
theorem r_likesOf (l : Launch) (G : GC) (M : Mm) (Y : Nat → Int32) (c q : Nat) (hj : 67 + 10 * c + q < 445) : CP l G 1 yX10_likesOf cX10_likesOf 3 .int [.ref (gb G + 205), .int (nI c), .int (nI q)] (upA M 206 Y) (Y (67 + 10 * c + q)) := by
  refine Con.of (by decide +kernel) (Nat.le_of_ble_eq_true rfl) ?_
  intro f C hRm hRt _
  show Vc f G NPh (upA M 206 Y) 0 [(0, .ref (gb G + 205)), (1, .int (nI c)), (2, .int (nI q))] []
  refine v_aload_n C 0 dX10_likesOf_0 rfl ?_
  refine g_X10_9 C (by decide) sh_205 dX10_likesOf_1 ?_
  refine v_bipush C (nI 67) dX10_likesOf_4 (by decide) ?_
  refine v_bipush C (nI 10) dX10_likesOf_6 (by decide) ?_
  refine v_iload_n C 1 dX10_likesOf_8 rfl ?_
  refine n_imul C dX10_likesOf_9 ?_
  refine n_iadd C dX10_likesOf_10 ?_
  refine v_iload_n C 2 dX10_likesOf_11 rfl ?_
  refine n_iadd C dX10_likesOf_12 ?_
  refine n_now_ld C (by decide) sh_206 (by omega) (by decide) dX10_likesOf_13 ?_
  exact n_iret C hRt rfl dX10_likesOf_14 (rfl) (rfl)
def sh1 (c : Nat) : Int32 := nI 1 <<< (nI c &&& 31)
def inA (Y : Nat → Int32) (h : Int32) : Nat → Int32
  | 0 => nI 0
  | c + 1 => inA Y h c ||| (if Y (7 + 6 * c + 4) = h then sh1 c else nI 0)
set_option maxHeartbeats 4000000 in
set_option maxRecDepth 100000 in
theorem r_inHeap (l : Launch) (G : GC) (M : Mm) (Y : Nat → Int32) (n : Nat) (hn : Y 0 = nI n) (hn2 : n ≤ 10) (h : Int32) : CP l G 2 yX10_inHeap cX10_inHeap 4 .int [.ref (gb G + 205), .int h] (upA M 206 Y) (inA Y h n) := by
  refine Con.of (by decide +kernel) (Nat.le_of_ble_eq_true rfl) ?_
  intro f C hRm hRt _
  have L4 : ∀ (k i : Nat) (a : Int32), n - i = k → i ≤ n → a = inA Y h i → Vc f G NPh (upA M 206 Y) 4 [(3, .int (nI i)), (2, .int a), (0, .ref (gb G + 205)), (1, .int h)] [] := by
    intro k
    induction k using Nat.strongRecOn with
    | _ k ih =>
      intro i a hk hi ha
      refine v_iload_n C 0 dX10_inHeap_4 rfl ?_
      refine v_aload_n C 2 dX10_inHeap_5 rfl ?_
      refine g_X10_9 C (by decide) sh_205 dX10_inHeap_6 ?_
      refine v_iconst C (nI 0) dX10_inHeap_9 (by decide) ?_
      refine n_now_ld C (by decide) sh_206 (by omega) (by decide) dX10_inHeap_10 ?_
      refine v_top (nI n) hn ?_
      refine n_icmp_ge C (by omega) (by omega) 40 dX10_inHeap_11 rfl (fun h_11 => ?_) (fun h_11 => ?_)
      · skip
        refine v_iload_n C 1 dX10_inHeap_40 rfl ?_
        have hin : i = n := by omega
        subst hin
        exact n_iret C hRt rfl dX10_inHeap_41 ha rfl
      · skip
        refine v_iload_n C 1 dX10_inHeap_14 rfl ?_
        refine v_aload_n C 2 dX10_inHeap_15 rfl ?_
        refine v_iload_n C 0 dX10_inHeap_16 rfl ?_
        refine v_iconst C (nI 4) dX10_inHeap_17 (by decide) ?_
        refine n_callVp C hRm [.int (nI i), .int (nI 4)] cw_X10_of ml_X10_86 (by decide) sh_205 (by decide) rfl (r_of l G M Y i 4 (by omega)) (by decide) rfl rfl (Nat.le_of_ble_eq_true rfl) dX10_inHeap_18 ?_
        refine v_iload_n C 3 dX10_inHeap_21 rfl ?_
        refine v_icmp_ne C 31 dX10_inHeap_22 rfl (fun h_22 => ?_) (fun h_22 => ?_)
        · skip
          refine v_iconst C (nI 0) dX10_inHeap_31 (by decide) ?_
          refine v_ior C dX10_inHeap_32 ?_
          refine v_istore_n C [(2, .int (a ||| (nI 0))), (3, .int (nI i)), (0, .ref (gb G + 205)), (1, .int h)] dX10_inHeap_33 rfl (by decide) rfl ?_
          refine v_iinc C (nI (i + 1)) 1 [(3, .int (nI (i + 1))), (2, .int (a ||| (nI 0))), (0, .ref (gb G + 205)), (1, .int h)] dX10_inHeap_34 rfl (nI_add _ _) (by decide) rfl ?_
          refine v_goto C 4 dX10_inHeap_37 rfl ?_
          refine v_sub [0, 1, 2, 3] [(3, .int (nI (i + 1))), (2, .int (a ||| (nI 0))), (0, .ref (gb G + 205)), (1, .int h)] rfl ?_
          exact ih _ (by omega) (i + 1) _ rfl (by omega) (by subst ha; simp only [inA]; first | rw [if_pos h_22]; rfl | rw [if_neg h_22])
        · skip
          refine v_iconst C (nI 1) dX10_inHeap_25 (by decide) ?_
          refine v_iload_n C 0 dX10_inHeap_26 rfl ?_
          refine v_ishl C dX10_inHeap_27 ?_
          refine v_goto C 32 dX10_inHeap_28 rfl ?_
          refine v_ior C dX10_inHeap_32 ?_
          refine v_istore_n C [(2, .int (a ||| ((nI 1) <<< ((nI i) &&& 31)))), (3, .int (nI i)), (0, .ref (gb G + 205)), (1, .int h)] dX10_inHeap_33 rfl (by decide) rfl ?_
          refine v_iinc C (nI (i + 1)) 1 [(3, .int (nI (i + 1))), (2, .int (a ||| ((nI 1) <<< ((nI i) &&& 31)))), (0, .ref (gb G + 205)), (1, .int h)] dX10_inHeap_34 rfl (nI_add _ _) (by decide) rfl ?_
          refine v_goto C 4 dX10_inHeap_37 rfl ?_
          refine v_sub [0, 1, 2, 3] [(3, .int (nI (i + 1))), (2, .int (a ||| ((nI 1) <<< ((nI i) &&& 31)))), (0, .ref (gb G + 205)), (1, .int h)] rfl ?_
          exact ih _ (by omega) (i + 1) _ rfl (by omega) (by subst ha; simp only [inA]; first | rw [if_pos h_22]; rfl | rw [if_neg h_22])
  show Vc f G NPh (upA M 206 Y) 0 [(0, .ref (gb G + 205)), (1, .int h)] []
  refine v_iconst C (nI 0) dX10_inHeap_0 (by decide) ?_
  refine v_istore_n C [(2, .int (nI 0)), (0, .ref (gb G + 205)), (1, .int h)] dX10_inHeap_1 rfl (by decide) rfl ?_
  refine v_iconst C (nI 0) dX10_inHeap_2 (by decide) ?_
  refine v_istore_n C [(3, .int (nI 0)), (2, .int (nI 0)), (0, .ref (gb G + 205)), (1, .int h)] dX10_inHeap_3 rfl (by decide) rfl ?_
  refine v_sub [0, 1, 2, 3] [(3, .int (nI 0)), (2, .int (nI 0)), (0, .ref (gb G + 205)), (1, .int h)] rfl ?_
  exact L4 _ 0 _ rfl (by omega) rfl
