theorem nI_and (a b : Nat) : nI a &&& nI b = nI (a &&& b) := by
  unfold nI
  apply Int32.toBitVec_inj.mp
  simp [BitVec.ofNat_and]
def popN (m : Nat) : Nat := ((List.range 10).filter (fun i => m.testBit i)).length
theorem pop_step : ∀ x, x < 1024 → x ≠ 0 → x &&& (x - 1) < x ∧ popN x = popN (x &&& (x - 1)) + 1 := by decide +kernel
theorem popN_le (m : Nat) : popN m ≤ 10 := by
  unfold popN
  exact Nat.le_trans (List.length_filter_le _ _) (by simp)
/-- who is in a heap, as a number -/
def mskA (Y : Nat → Int32) (h : Int32) : Nat → Nat
  | 0 => 0
  | c + 1 => mskA Y h c + (if Y (7 + 6 * c + 4) = h then 2 ^ c else 0)
theorem mskA_lt (Y : Nat → Int32) (h : Int32) : ∀ n, mskA Y h n < 2 ^ n
  | 0 => Nat.zero_lt_one
  | c + 1 => by
    have h1 := mskA_lt Y h c
    have h2 : 2 ^ (c + 1) = 2 ^ c + 2 ^ c := by rw [Nat.pow_succ]; omega
    unfold mskA
    by_cases h3 : Y (7 + 6 * c + 4) = h
    · rw [if_pos h3]; omega
    · rw [if_neg h3]; omega
theorem or_bit : ∀ c, c < 10 → ∀ m, m < 2 ^ c → nI m ||| sh1 c = nI (m + 2 ^ c) := by decide +kernel
theorem or_nI0 (x : Int32) : x ||| nI 0 = x := by
  apply Int32.toBitVec_inj.mp
  simp [nI]
theorem inA_msk (Y : Nat → Int32) (h : Int32) : ∀ n, n ≤ 10 → inA Y h n = nI (mskA Y h n)
  | 0, _ => rfl
  | c + 1, hc => by
    unfold inA mskA
    rw [inA_msk Y h c (by omega)]
    by_cases h3 : Y (7 + 6 * c + 4) = h
    · rw [if_pos h3, if_pos h3, or_bit c (by omega) _ (mskA_lt Y h c)]
    · rw [if_neg h3, if_neg h3, or_nI0]; rfl
theorem msk_1024 (Y : Nat → Int32) (h : Int32) {n : Nat} (hn : n ≤ 10) : mskA Y h n < 1024 := Nat.lt_of_lt_of_le (mskA_lt Y h n) (Nat.pow_le_pow_right (by decide) hn)
def popA (Y : Nat → Int32) (n : Nat) (h : Int32) : Nat := popN (mskA Y h n)
def fewP (Y : Nat → Int32) (n h : Nat) : Prop := ¬ nI (popA Y n (nI h)) ≤ 0 ∧ nI (popA Y n (nI h)) < Y (167 + 4 * h + 0)
noncomputable def fewV (Y : Nat → Int32) (n h : Nat) (v : Int32) : Int32 := if ¬ nI (popA Y n (nI h)) ≤ 0 ∧ nI (popA Y n (nI h)) < Y (167 + 4 * h + 0) then v else nI 0
def gA (Y : Nat → Int32) (c : Nat) (h : Int32) : Nat → Int32 := upd Y (7 + 6 * c + 4) h
def gB (Z : Nat → Int32) (c : Nat) : Nat → Nat → Int32
  | 0 => Z
  | k + 1 => upd (gB Z c k) (187 + 5 * c + k) (nI 0)
noncomputable def gC (n : Nat) (Z : Nat → Int32) : Nat → Nat → Int32
  | 0 => Z
  | k + 1 => upd (gC n Z k) (167 + 4 * k + 3) (fewV (gC n Z k) n k (gC n Z k (167 + 4 * k + 3)))
noncomputable def goesS (Y : Nat → Int32) (n hN c : Nat) (h : Int32) : Nat → Int32 := gC n (gB (gA Y c h) c 5) hN
theorem gB_lo (Z : Nat → Int32) (c : Nat) {i : Nat} (h : i < 187) : ∀ k, gB Z c k i = Z i
  | 0 => rfl
  | k + 1 => by unfold gB; rw [upd_ne _ _ (by omega)]; exact gB_lo Z c h k
theorem gC_lo (n : Nat) (Z : Nat → Int32) {i : Nat} (h : i < 167) : ∀ k, gC n Z k i = Z i
  | 0 => rfl
  | k + 1 => by unfold gC; rw [upd_ne _ _ (by omega)]; exact gC_lo n Z h k

set_option maxHeartbeats 4000000 in
set_option maxRecDepth 100000 in
theorem r_bits (l : Launch) (G : GC) (M : Mm) (m : Nat) (hm : m < 1024) : CP l G 1 yX10_bits cX10_bits 3 .int [.int (nI m)] M (nI (popN m)) := by
  refine Con.of (by decide +kernel) (Nat.le_of_ble_eq_true rfl) ?_
  intro f C hRm hRt _
  have LB : ∀ (kk : Nat) (x : Nat) (q : Nat), x = kk → x < 1024 → popN m = q + popN x → Vc f G NPh M 4 [(2, .int (nI x)), (1, .int (nI q)), (0, .int (nI m))] [] := by
    intro kk
    induction kk using Nat.strongRecOn with
    | _ kk ihLB =>
      intro x q hkk hx hq
      have hq10 := popN_le m
      have hstep : x ≠ 0 → x &&& (x - 1) < x := fun h => (pop_step x hx h).1
      refine v_iload_n C 0 dX10_bits_4 rfl ?_
      refine n_if_eq C (by omega) 20 dX10_bits_5 rfl (fun h_5 => ?_) (fun h_5 => ?_)
      · skip
        refine v_iload_n C 1 dX10_bits_20 rfl ?_
        exact n_iret C hRt rfl dX10_bits_21 (by have h9 : x = 0 := (by assumption); subst h9; rw [hq]; rfl) rfl
      · skip
        refine v_iinc C (nI (q + 1)) 1 [(1, .int (nI (q + 1))), (2, .int (nI x)), (0, .int (nI m))] dX10_bits_8 rfl (nI_add _ _) (by decide) rfl ?_
        refine v_iload_n C 1 dX10_bits_11 rfl ?_
        refine v_iload_n C 1 dX10_bits_12 rfl ?_
        refine v_iconst C (nI 1) dX10_bits_13 (by decide) ?_
        refine n_isub C (by omega) dX10_bits_14 ?_
        refine v_iand C dX10_bits_15 ?_
        refine v_top (nI (x &&& (x - 1))) (nI_and _ _) ?_
        refine v_istore_n C [(2, .int (nI (x &&& (x - 1)))), (1, .int (nI (q + 1))), (0, .int (nI m))] dX10_bits_16 rfl (by decide) rfl ?_
        refine v_goto C 4 dX10_bits_17 rfl ?_
        refine v_sub [0, 1, 2] [(2, .int (nI (x &&& (x - 1)))), (1, .int (nI (q + 1))), (0, .int (nI m))] rfl ?_
        exact ihLB _ (by omega) (x &&& (x - 1)) (q + 1)  rfl (by have := (pop_step x hx (by assumption)).1; omega) (by have := (pop_step x hx (by assumption)).2; omega)
  show Vc f G NPh M 0 [(0, .int (nI m))] []
  refine v_iconst C (nI 0) dX10_bits_0 (by decide) ?_
  refine v_istore_n C [(1, .int (nI 0)), (0, .int (nI m))] dX10_bits_1 rfl (by decide) rfl ?_
  refine v_iload_n C 1 dX10_bits_2 rfl ?_
  refine v_istore_n C [(2, .int (nI m)), (1, .int (nI 0)), (0, .int (nI m))] dX10_bits_3 rfl (by decide) rfl ?_
  refine v_sub [0, 1, 2] [(2, .int (nI m)), (1, .int (nI 0)), (0, .int (nI m))] rfl ?_
  exact LB _ m 0  rfl hm (by omega)
set_option maxHeartbeats 4000000 in
set_option maxRecDepth 100000 in
theorem r_isFew (l : Launch) (G : GC) (M : Mm) (Y : Nat → Int32) (n : Nat) (hn : Y 0 = nI n) (hn2 : n ≤ 10) (h : Nat) (hh : h < 5) : CP l G 3 yX10_isFew cX10_isFew 3 .boolean [.ref (gb G + 205), .int (nI h)] (upA M 206 Y) (b2i (¬ nI (popA Y n (nI h)) ≤ 0 ∧ nI (popA Y n (nI h)) < Y (167 + 4 * h + 0))) := by
  refine Con.of (by decide +kernel) (Nat.le_of_ble_eq_true rfl) ?_
  intro f C hRm hRt _
  show Vc f G NPh (upA M 206 Y) 0 [(0, .ref (gb G + 205)), (1, .int (nI h))] []
  refine v_aload_n C 0 dX10_isFew_0 rfl ?_
  refine v_iload_n C 1 dX10_isFew_1 rfl ?_
  refine n_callVp C hRm [.int (nI h)] cw_X10_inHeap ml_X10_112 (by decide) sh_205 (by decide) rfl (r_inHeap l G M Y n hn hn2 (nI h)) (by decide) rfl rfl (Nat.le_of_ble_eq_true rfl) dX10_isFew_2 ?_
  refine v_top (nI (mskA Y (nI h) n)) (inA_msk _ _ n hn2) ?_
  refine n_callSp C hRm [.int (nI (mskA Y (nI h) n))] cw_X10_bits st_X10_bits ml_X10_115 (r_bits l G (upA M 206 Y) (mskA Y (nI h) n) (by first | omega | exact msk_1024 _ _ (by omega))) (by decide) rfl rfl (Nat.le_of_ble_eq_true rfl) dX10_isFew_5 ?_
  refine v_top (nI (popA Y n (nI h))) rfl ?_
  refine v_istore_n C [(2, .int (nI (popA Y n (nI h)))), (0, .ref (gb G + 205)), (1, .int (nI h))] dX10_isFew_8 rfl (by decide) rfl ?_
  refine v_iload_n C 0 dX10_isFew_9 rfl ?_
  refine v_if_le C 27 dX10_isFew_10 rfl (fun h_10 => ?_) (fun h_10 => ?_)
  · skip
    refine v_iconst C (nI 0) dX10_isFew_27 (by decide) ?_
    exact n_iret C hRt rfl dX10_isFew_28 (by first | exact b2i_T ⟨by assumption, Int32.not_le.mp (by assumption)⟩ | exact b2i_F (fun q => q.1 (by assumption)) | exact b2i_F (fun q => Int32.not_lt.mpr (by assumption) q.2)) rfl
  · skip
    refine v_iload_n C 0 dX10_isFew_13 rfl ?_
    refine v_aload_n C 1 dX10_isFew_14 rfl ?_
    refine v_iload_n C 2 dX10_isFew_15 rfl ?_
    refine v_iconst C (nI 0) dX10_isFew_16 (by decide) ?_
    refine n_callVp C hRm [.int (nI h), .int (nI 0)] cw_X10_heapOf ml_X10_109 (by decide) sh_205 (by decide) rfl (r_heapOf l G M Y h 0 (by omega)) (by decide) rfl rfl (Nat.le_of_ble_eq_true rfl) dX10_isFew_17 ?_
    refine v_icmp_ge C 27 dX10_isFew_20 rfl (fun h_20 => ?_) (fun h_20 => ?_)
    · skip
      refine v_iconst C (nI 0) dX10_isFew_27 (by decide) ?_
      exact n_iret C hRt rfl dX10_isFew_28 (by first | exact b2i_T ⟨by assumption, Int32.not_le.mp (by assumption)⟩ | exact b2i_F (fun q => q.1 (by assumption)) | exact b2i_F (fun q => Int32.not_lt.mpr (by assumption) q.2)) rfl
    · skip
      refine v_iconst C (nI 1) dX10_isFew_23 (by decide) ?_
      refine v_goto C 28 dX10_isFew_24 rfl ?_
      exact n_iret C hRt rfl dX10_isFew_28 (by first | exact b2i_T ⟨by assumption, Int32.not_le.mp (by assumption)⟩ | exact b2i_F (fun q => q.1 (by assumption)) | exact b2i_F (fun q => Int32.not_lt.mpr (by assumption) q.2)) rfl
set_option maxHeartbeats 4000000 in
set_option maxRecDepth 100000 in
theorem r_goesTo (l : Launch) (G : GC) (M : Mm) (Y : Nat → Int32) (n hN : Nat) (hn : Y 0 = nI n) (hn2 : n ≤ 10) (hh : Y 1 = nI hN) (hh2 : hN ≤ 5) (c : Nat) (hc : c < 10) (h : Int32) : CV l G 4 yX10_goesTo cX10_goesTo 4 [.ref (gb G + 205), .int (nI c), .int h] (upA M 206 Y) (fun M' => M' = upA M 206 (goesS Y n hN c h)) := by
  refine Con.of (by decide +kernel) (Nat.le_of_ble_eq_true rfl) ?_
  intro f C hRm hRt _
  have L45 : ∀ (kq : Nat) (k : Nat) (Z : Nat → Int32), hN - k = kq → k ≤ hN → Z = gC n (gB (gA Y c h) c 5) k → Vc f G NPh (upA M 206 Z) 45 [(3, .int (nI k)), (0, .ref (gb G + 205)), (1, .int (nI c)), (2, .int h)] [] := by
    intro kq
    induction kq using Nat.strongRecOn with
    | _ kq ihL45 =>
      intro k Z hkq hk hZ
      have hZ0 : Z 0 = nI n := by rw [hZ, gC_lo _ _ (by decide), gB_lo _ _ (by decide)]; exact (upd_ne _ _ (by omega)).trans hn
      have hZ1 : Z 1 = nI hN := by rw [hZ, gC_lo _ _ (by decide), gB_lo _ _ (by decide)]; exact (upd_ne _ _ (by omega)).trans hh
      refine v_iload_n C 0 dX10_goesTo_45 rfl ?_
      refine v_aload_n C 1 dX10_goesTo_46 rfl ?_
      refine g_X10_9 C (by decide) sh_205 dX10_goesTo_47 ?_
      refine v_iconst C (nI 1) dX10_goesTo_50 (by decide) ?_
      refine n_now_ld C (by decide) sh_206 (by omega) (by decide) dX10_goesTo_51 ?_
      refine v_top (nI hN) hZ1 ?_
      refine n_icmp_ge C (by omega) (by omega) 93 dX10_goesTo_52 rfl (fun h_52 => ?_) (fun h_52 => ?_)
      · skip
        exact n_ret C hRt dX10_goesTo_93 (by have h5 : k = hN := (by omega); subst h5; rw [hZ]; rfl)
      · skip
        refine v_aload_n C 1 dX10_goesTo_55 rfl ?_
        refine g_X10_9 C (by decide) sh_205 dX10_goesTo_56 ?_
        refine v_sipush C (nI 167) dX10_goesTo_59 (by decide) ?_
        refine v_iconst C (nI 4) dX10_goesTo_62 (by decide) ?_
        refine v_iload_n C 0 dX10_goesTo_63 rfl ?_
        refine n_imul C dX10_goesTo_64 ?_
        refine n_iadd C dX10_goesTo_65 ?_
        refine v_iconst C (nI 3) dX10_goesTo_66 (by decide) ?_
        refine n_iadd C dX10_goesTo_67 ?_
        refine v_aload_n C 1 dX10_goesTo_68 rfl ?_
        refine v_iload_n C 0 dX10_goesTo_69 rfl ?_
        refine n_callVp C hRm [.int (nI k)] cw_X10_isFew ml_X10_118 (by decide) sh_205 (by decide) rfl (r_isFew l G M Z n hZ0 hn2 k (by omega)) (by decide) rfl rfl (Nat.le_of_ble_eq_true rfl) dX10_goesTo_70 ?_
        refine nb_if_eq C 85 dX10_goesTo_73 rfl (fun h_73 => ?_) (fun h_73 => ?_)
        · skip
          refine v_iconst C (nI 0) dX10_goesTo_85 (by decide) ?_
          refine n_now_st C (by decide) sh_206 (by omega) (by decide) dX10_goesTo_86 ?_
          refine v_iinc C (nI (k + 1)) 0 [(3, .int (nI (k + 1))), (0, .ref (gb G + 205)), (1, .int (nI c)), (2, .int h)] dX10_goesTo_87 rfl (nI_add _ _) (by decide) rfl ?_
          refine v_goto C 45 dX10_goesTo_90 rfl ?_
          refine v_sub [0, 1, 2, 3] [(3, .int (nI (k + 1))), (0, .ref (gb G + 205)), (1, .int (nI c)), (2, .int h)] rfl ?_
          exact ihL45 _ (by omega) (k + 1) (upd Z ((167 + (4 * k)) + 3) (nI 0))  rfl (by omega) (by subst hZ; simp only [gC, fewV]; first | rw [if_pos h_73] | rw [if_neg h_73])
        · skip
          refine v_aload_n C 1 dX10_goesTo_76 rfl ?_
          refine v_iload_n C 0 dX10_goesTo_77 rfl ?_
          refine v_iconst C (nI 3) dX10_goesTo_78 (by decide) ?_
          refine n_callVp C hRm [.int (nI k), .int (nI 3)] cw_X10_heapOf ml_X10_109 (by decide) sh_205 (by decide) rfl (r_heapOf l G M Z k 3 (by omega)) (by decide) rfl rfl (Nat.le_of_ble_eq_true rfl) dX10_goesTo_79 ?_
          refine v_goto C 86 dX10_goesTo_82 rfl ?_
          refine n_now_st C (by decide) sh_206 (by omega) (by decide) dX10_goesTo_86 ?_
          refine v_iinc C (nI (k + 1)) 0 [(3, .int (nI (k + 1))), (0, .ref (gb G + 205)), (1, .int (nI c)), (2, .int h)] dX10_goesTo_87 rfl (nI_add _ _) (by decide) rfl ?_
          refine v_goto C 45 dX10_goesTo_90 rfl ?_
          refine v_sub [0, 1, 2, 3] [(3, .int (nI (k + 1))), (0, .ref (gb G + 205)), (1, .int (nI c)), (2, .int h)] rfl ?_
          exact ihL45 _ (by omega) (k + 1) (upd Z ((167 + (4 * k)) + 3) (Z (167 + 4 * k + 3)))  rfl (by omega) (by subst hZ; simp only [gC, fewV]; first | rw [if_pos h_73] | rw [if_neg h_73])
  have L17 : ∀ (kq : Nat) (k : Nat) (Z : Nat → Int32), 5 - k = kq → k ≤ 5 → Z = gB (gA Y c h) c k → Vc f G NPh (upA M 206 Z) 17 [(3, .int (nI k)), (0, .ref (gb G + 205)), (1, .int (nI c)), (2, .int h)] [] := by
    intro kq
    induction kq using Nat.strongRecOn with
    | _ kq ihL17 =>
      intro k Z hkq hk hZ
      refine v_iload_n C 0 dX10_goesTo_17 rfl ?_
      refine v_iconst C (nI 5) dX10_goesTo_18 (by decide) ?_
      refine n_icmp_ge C (by omega) (by omega) 43 dX10_goesTo_19 rfl (fun h_19 => ?_) (fun h_19 => ?_)
      · skip
        refine v_iconst C (nI 0) dX10_goesTo_43 (by decide) ?_
        refine v_istore_n C [(3, .int (nI 0)), (0, .ref (gb G + 205)), (1, .int (nI c)), (2, .int h)] dX10_goesTo_44 rfl (by decide) rfl ?_
        refine v_sub [0, 1, 2, 3] [(3, .int (nI 0)), (0, .ref (gb G + 205)), (1, .int (nI c)), (2, .int h)] rfl ?_
        exact L45 _ 0 Z  rfl (by omega) (by have h5 : k = 5 := (by omega); subst h5; rw [hZ]; rfl)
      · skip
        refine v_aload_n C 1 dX10_goesTo_22 rfl ?_
        refine g_X10_9 C (by decide) sh_205 dX10_goesTo_23 ?_
        refine v_sipush C (nI 187) dX10_goesTo_26 (by decide) ?_
        refine v_iconst C (nI 5) dX10_goesTo_29 (by decide) ?_
        refine v_iload_n C 2 dX10_goesTo_30 rfl ?_
        refine n_imul C dX10_goesTo_31 ?_
        refine n_iadd C dX10_goesTo_32 ?_
        refine v_iload_n C 0 dX10_goesTo_33 rfl ?_
        refine n_iadd C dX10_goesTo_34 ?_
        refine v_iconst C (nI 0) dX10_goesTo_35 (by decide) ?_
        refine n_now_st C (by decide) sh_206 (by omega) (by decide) dX10_goesTo_36 ?_
        refine v_iinc C (nI (k + 1)) 0 [(3, .int (nI (k + 1))), (0, .ref (gb G + 205)), (1, .int (nI c)), (2, .int h)] dX10_goesTo_37 rfl (nI_add _ _) (by decide) rfl ?_
        refine v_goto C 17 dX10_goesTo_40 rfl ?_
        refine v_sub [0, 1, 2, 3] [(3, .int (nI (k + 1))), (0, .ref (gb G + 205)), (1, .int (nI c)), (2, .int h)] rfl ?_
        exact ihL17 _ (by omega) (k + 1) (upd Z ((187 + (5 * c)) + k) (nI 0))  rfl (by omega) (by rw [hZ]; rfl)
  show Vc f G NPh (upA M 206 Y) 0 [(0, .ref (gb G + 205)), (1, .int (nI c)), (2, .int h)] []
  refine v_aload_n C 0 dX10_goesTo_0 rfl ?_
  refine g_X10_9 C (by decide) sh_205 dX10_goesTo_1 ?_
  refine v_bipush C (nI 7) dX10_goesTo_4 (by decide) ?_
  refine v_bipush C (nI 6) dX10_goesTo_6 (by decide) ?_
  refine v_iload_n C 1 dX10_goesTo_8 rfl ?_
  refine n_imul C dX10_goesTo_9 ?_
  refine n_iadd C dX10_goesTo_10 ?_
  refine v_iconst C (nI 4) dX10_goesTo_11 (by decide) ?_
  refine n_iadd C dX10_goesTo_12 ?_
  refine v_iload_n C 2 dX10_goesTo_13 rfl ?_
  refine n_now_st C (by decide) sh_206 (by omega) (by decide) dX10_goesTo_14 ?_
  refine v_iconst C (nI 0) dX10_goesTo_15 (by decide) ?_
  refine v_istore_n C [(3, .int (nI 0)), (0, .ref (gb G + 205)), (1, .int (nI c)), (2, .int h)] dX10_goesTo_16 rfl (by decide) rfl ?_
  refine v_sub [0, 1, 2, 3] [(3, .int (nI 0)), (0, .ref (gb G + 205)), (1, .int (nI c)), (2, .int h)] rfl ?_
  exact L17 _ 0 (upd Y ((7 + (6 * c)) + 4) h)  rfl (by omega) rfl
