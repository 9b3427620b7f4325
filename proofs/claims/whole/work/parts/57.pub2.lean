theorem tsw_out {x : Int32} {k : Nat} (hk : k < 2 ^ 31) (h : ¬ (nI 0 ≤ x ∧ x ≤ nI k)) : x.toInt < ((0 : Nat) : Int) ∨ ((k : Nat) : Int) < x.toInt := by
  have e : ∀ j, j < 2 ^ 31 → (nI j).toInt = (j : Int) := fun j hj => by
    have h1 := nI_clamp hj
    have h2 := nI_pos hj
    have h3 : (0 : Int32).toInt ≤ (nI j).toInt := Int32.le_iff_toInt_le.mp (Int32.not_lt.mp h2)
    have h4 : (0 : Int32).toInt = 0 := rfl
    unfold Int32.toNatClampNeg at h1
    omega
  rcases Int.lt_or_le x.toInt 0 with h1 | h1
  · exact Or.inl h1
  · right
    refine Int.not_le.mp (fun h2 => h ⟨?_, ?_⟩)
    · rw [Int32.le_iff_toInt_le, e 0 (by decide)]; exact h1
    · rw [Int32.le_iff_toInt_le, e k hk]; exact h2
def dz (j : Nat) : Nat := match j with
  | 0 => 0
  | 4 => 2
  | 5 => 2
  | _ => 1
theorem abv : ∀ j, j < 7 → j ≠ 0 → aboveT.getD j 0 = nI (aboveN j) ∧ aboveN j < 7 ∧ dz (aboveN j) < dz j := by decide +kernel
theorem dz_le : ∀ j, j < 7 → dz j ≤ 2 := by decide +kernel
theorem und_0 : ∀ q, q < 7 → 0 ≠ q → undB 0 q = false := by decide +kernel
theorem held_ge (v lo hi : Int32) : lo ≤ heldS v lo hi := by
  unfold heldS
  by_cases h : lo < (if v < hi then v else hi)
  · rw [if_pos h]; exact Int32.le_of_lt h
  · rw [if_neg h]; exact Int32.le_refl _
theorem ch_nn (Y : Nat → Int32) (n h c : Nat) : (-1 : Int32) < chS Y n h c := by
  have h1 : (-1 : Int32) < nI 0 := by decide
  unfold chS
  split
  · exact Int32.lt_of_lt_of_le h1 (held_ge _ _ _)
  · exact h1
theorem bst_nn (Y : Nat → Int32) (n c : Nat) : ∀ k, k ≤ 5 → 0 < k → 0 ≤ (bstA Y n c k).1
  | 0, _, h => absurd h (Nat.not_lt_zero 0)
  | k + 1, h5, _ => by
    unfold bstA
    split
    · exact nn_nI k (by omega)
    · rename_i q
      by_cases hk : k = 0
      · subst hk; exact absurd (ch_nn Y n 0 c) q
      · exact bst_nn Y n c k (by omega) (by omega)
theorem at_nn {Y : Nat → Int32} {n hN c : Nat} (hY : YOk Y n hN) (hc : c < n) (h : ¬ Y (7 + 6 * c + 4) = -1) : 0 ≤ Y (7 + 6 * c + 4) := by
  have h5 := hY.1.2.2.2
  rcases hY.2.2.1 c hc with q | ⟨k, hk, q⟩
  · exact absurd q h
  · rw [q]; exact nn_nI k (by omega)
set_option maxHeartbeats 4000000 in
set_option maxRecDepth 100000 in
theorem x_childIs (l : Launch) (G : GC) (M : Mm) (Y : Nat → Int32) (n hN : Nat) (hR : YR M 1 Y n hN) (hY : YOk Y n hN) (hI : yI Y n) (hJ : yJ Y n) (child what : Int32) : CI l G 4 yX9_childIs cX9_childIs 3 .int [.ref (gb G + 0), .int child, .int what] M ((childIsS Y n child what).2.1) (PubC M (childIsS Y n child what).2.2 n hN (childIsS Y n child what).1) := by
  refine Con.of (by decide +kernel) (Nat.le_of_ble_eq_true rfl) ?_
  intro f C hRm hRt _
  have hn2 := hY.1.2.1
  have h5 := hY.1.2.2.2
  show Vc f G NPh M 0 [(0, .ref (gb G + 0)), (1, .int child), (2, .int what)] []
  refine v_aload_n C 0 dX9_childIs_0 rfl ?_
  refine v_iload_n C 1 dX9_childIs_1 rfl ?_
  refine n_callVp C hRm [.int child] cw_X9_noChild ml_X9_84 (by decide) (show shp 0 = 9 from by decide +kernel) (by decide) rfl (c_noChild l G M Y _ _ hR hY child) (by decide) rfl rfl (Nat.le_of_ble_eq_true rfl) dX9_childIs_2 ?_
  refine nb_if_ne C 18 dX9_childIs_5 rfl (fun h_5 => ?_) (fun h_5 => ?_)
  · skip
    refine v_aload_n C 0 dX9_childIs_18 rfl ?_
    refine v_iconst C (nI 1) dX9_childIs_19 (by decide) ?_
    refine n_callVi C hRm [.int (nI 1)] cw_X9_error ml_X9_58 (by decide) (show shp 0 = 9 from by decide +kernel) (by decide) rfl (c_error l G M 1 (by decide)) (by decide) rfl rfl (Nat.le_of_ble_eq_true rfl) dX9_childIs_20 (fun M5 hP_20 => ?_)
    subst hP_20
    have hS : childIsS Y n child what = er 1 Y := by unfold childIsS; (try rw [nI_clamp (by omega)]); (try rw [nI_clamp (by omega)]); (try rw [nI_clamp (by omega)]); (first | rw [if_neg h_5] | rw [if_pos (Decidable.not_not.mp h_5)] | rw [if_pos h_5] | rw [if_pos (congrArg nI h_5)] | rw [if_neg (fun q9 => h_5 ((nI_eq (by omega) (by omega)).mp q9))] | rw [if_neg (Nat.not_le.mpr h_5)] | rw [if_neg (Nat.not_lt.mpr h_5)] | skip); all_goals rfl
    exact n_iret C hRt (rfl) dX9_childIs_23 (by rw [hS] <;> rfl) (by rw [hS]; exact pc_er hR (okG.rf M) (show (1 : Nat) ≠ 0 by decide))
  · skip
    obtain ⟨c, hc, rfl⟩ := is_nat hY.1.1 hY.1.2.1 (Decidable.not_not.mp h_5)
    refine v_iload_n C 2 dX9_childIs_8 rfl ?_
    refine v_iconst C (nI 0) dX9_childIs_9 (by decide) ?_
    refine v_bipush C (nI 7) dX9_childIs_10 (by decide) ?_
    refine n_callSp C hRm [.int what, .int (nI 0), .int (nI 7)] cw_X9_outside st_X9_outside ml_X9_54 (c_outside l G M what (nI 0) (nI 7)) (by decide) rfl rfl (Nat.le_of_ble_eq_true rfl) dX9_childIs_12 ?_
    refine nb_if_eq C 24 dX9_childIs_15 rfl (fun h_15 => ?_) (fun h_15 => ?_)
    · skip
      obtain ⟨q, hq, rfl⟩ := within_nat (by decide) (Decidable.not_not.mp h_15)
      refine v_aload_n C 0 dX9_childIs_24 rfl ?_
      refine v_aload_n C 0 dX9_childIs_25 rfl ?_
      refine g_X9_10 C (by decide) (show shp 0 = 9 from by decide +kernel) dX9_childIs_26 ?_
      refine v_iload_n C 1 dX9_childIs_29 rfl ?_
      refine v_iload_n C 2 dX9_childIs_30 rfl ?_
      refine n_callVi C hRm [.ref (gb G + 1), .int (nI c), .int (nI q)] cw_X9_ofChild ml_X9_88 (by decide) (show shp 0 = 9 from by decide +kernel) (by decide) rfl (c_ofChild l G M 1 (by decide) Y _ _ hR hY hJ.1 hJ.2.1 c q (by omega) (by omega)) (by decide) rfl rfl (Nat.le_of_ble_eq_true rfl) dX9_childIs_31 (fun Mq1 hP_31 => ?_)
      have hLq1 : frF M Mq1 := hP_31
      have hRq1x1 := hR.fr (fun a h1 h2 => hLq1 a (by omega))
      have hGq1 := (okG.rf M).fri hLq1
      have hS : childIsS Y n (nI c) (nI q) = (0, toldS Y n c q, Y) := by unfold childIsS; (try rw [nI_clamp (by omega)]); (try rw [nI_clamp (by omega)]); (try rw [nI_clamp (by omega)]); (first | rw [if_neg h_5] | rw [if_pos (Decidable.not_not.mp h_5)] | rw [if_pos h_5] | rw [if_pos (congrArg nI h_5)] | rw [if_neg (fun q9 => h_5 ((nI_eq (by omega) (by omega)).mp q9))] | rw [if_neg (Nat.not_le.mpr h_5)] | rw [if_neg (Nat.not_lt.mpr h_5)] | skip); (first | rw [if_neg h_15] | rw [if_pos (Decidable.not_not.mp h_15)] | rw [if_pos h_15] | rw [if_pos (congrArg nI h_15)] | rw [if_neg (fun q9 => h_15 ((nI_eq (by omega) (by omega)).mp q9))] | rw [if_neg (Nat.not_le.mpr h_15)] | rw [if_neg (Nat.not_lt.mpr h_15)] | skip); all_goals rfl
      exact n_iret C hRt (rfl) dX9_childIs_34 (by rw [hS] <;> rfl) (by rw [hS]; exact pc_ok hRq1x1 hGq1)
    · skip
      refine v_aload_n C 0 dX9_childIs_18 rfl ?_
      refine v_iconst C (nI 1) dX9_childIs_19 (by decide) ?_
      refine n_callVi C hRm [.int (nI 1)] cw_X9_error ml_X9_58 (by decide) (show shp 0 = 9 from by decide +kernel) (by decide) rfl (c_error l G M 1 (by decide)) (by decide) rfl rfl (Nat.le_of_ble_eq_true rfl) dX9_childIs_20 (fun M5 hP_20 => ?_)
      subst hP_20
      have hS : childIsS Y n (nI c) what = er 1 Y := by unfold childIsS; (try rw [nI_clamp (by omega)]); (try rw [nI_clamp (by omega)]); (try rw [nI_clamp (by omega)]); (first | rw [if_neg h_5] | rw [if_pos (Decidable.not_not.mp h_5)] | rw [if_pos h_5] | rw [if_pos (congrArg nI h_5)] | rw [if_neg (fun q9 => h_5 ((nI_eq (by omega) (by omega)).mp q9))] | rw [if_neg (Nat.not_le.mpr h_5)] | rw [if_neg (Nat.not_lt.mpr h_5)] | skip); (first | rw [if_neg h_15] | rw [if_pos (Decidable.not_not.mp h_15)] | rw [if_pos h_15] | rw [if_pos (congrArg nI h_15)] | rw [if_neg (fun q9 => h_15 ((nI_eq (by omega) (by omega)).mp q9))] | rw [if_neg (Nat.not_le.mpr h_15)] | rw [if_neg (Nat.not_lt.mpr h_15)] | skip); all_goals rfl
      exact n_iret C hRt (rfl) dX9_childIs_23 (by rw [hS] <;> rfl) (by rw [hS]; exact pc_er hR (okG.rf M) (show (1 : Nat) ≠ 0 by decide))
set_option maxHeartbeats 4000000 in
set_option maxRecDepth 100000 in
theorem x_as (l : Launch) (G : GC) (M : Mm) (Y : Nat → Int32) (n hN : Nat) (hR : YR M 1 Y n hN) (hY : YOk Y n hN) (hI : yI Y n) (hJ : yJ Y n) (child kind : Int32) : CI l G 3 yX9_as cX9_as 6 .int [.ref (gb G + 0), .int child, .int kind] M ((asS Y child kind).2.1) (PubC M (asS Y child kind).2.2 n hN (asS Y child kind).1) := by
  refine Con.of (by decide +kernel) (Nat.le_of_ble_eq_true rfl) ?_
  intro f C hRm hRt _
  have hn2 := hY.1.2.1
  have h5 := hY.1.2.2.2
  have LAs : ∀ c q κ, c < n → q ≤ 6 → κ < 7 → Y (7 + 6 * c + 0) = nI κ → (nI 0 ≤ nI c ∧ nI c ≤ Y 0 - nI 1) → (nI 0 ≤ nI q ∧ nI q ≤ nI 6) → child = nI c → kind = nI q → Vc f G NPh M 43 [(5, .int (nI 0)), (4, .int (nI κ)), (3, .ref (gb G + (1 + 20 + 3 * c))), (0, .ref (gb G + 0)), (1, .int (nI c)), (2, .int (nI q))] [] := by
    intro c q κ hc hq hκ hκ2 hcc hqq e1 e2
    subst e1 e2
    have hq7 : q < 7 := by omega
    have LA : ∀ (kk : Nat) (i : Nat) (j : Nat), 2 - i = kk → j < 7 → i + dz j ≤ 2 → undB j q = undB κ q → Vc f G NPh M 43 [(5, .int (nI i)), (4, .int (nI j)), (3, .ref (gb G + (1 + 20 + 3 * c))), (0, .ref (gb G + 0)), (1, .int (nI c)), (2, .int (nI q))] [] := by
      intro kk
      induction kk using Nat.strongRecOn with
      | _ kk ihLA =>
        intro i j hkk hj7 hd hu
        refine v_iload C 0 dX9_as_43 rfl ?_
        refine v_bipush C (nI 7) dX9_as_45 (by decide) ?_
        refine n_icmp_ge C (by omega) (by omega) 75 dX9_as_47 rfl (fun h_47 => ?_) (fun h_47 => ?_)
        · skip
          exact absurd h_47 (by omega)
        · skip
          refine v_iload C 1 dX9_as_50 rfl ?_
          refine v_iload_n C 5 dX9_as_52 rfl ?_
          refine n_icmp_eq C (by omega) (by omega) 75 dX9_as_53 rfl (fun h_53 => ?_) (fun h_53 => ?_)
          · skip
            refine v_iload C 1 dX9_as_75 rfl ?_
            refine v_iload_n C 5 dX9_as_77 rfl ?_
            refine n_icmp_ne C (by omega) (by omega) 88 dX9_as_78 rfl (fun h_78 => ?_) (fun h_78 => ?_)
            · skip
              refine v_aload_n C 3 dX9_as_88 rfl ?_
              refine v_iconst C (nI 5) dX9_as_89 (by decide) ?_
              refine n_callVi C hRm [.int (nI 5)] cw_X9_error ml_X9_58 (by decide) (show shp 0 = 9 from by decide +kernel) (by decide) rfl (c_error l G M 5 (by decide)) (by decide) rfl rfl (Nat.le_of_ble_eq_true rfl) dX9_as_90 (fun M5 hP_90 => ?_)
              subst hP_90
              have hkk : kN Y c = κ := cN_of hκ2 (by omega)
              have hS : asS Y (nI c) (nI q) = er 5 Y := by unfold asS; rw [if_pos hcc, if_pos hqq, nI_clamp (by omega), nI_clamp (by omega), hkk, if_neg (by exact absurd h_53 h_78)]
              exact n_iret C hRt rfl dX9_as_93 (by rw [hS] <;> rfl) (by rw [hS]; exact pc_er hR (okG.rf M) (show (5 : Nat) ≠ 0 by decide))
            · skip
              refine v_aload_n C 2 dX9_as_81 rfl ?_
              refine g_X9_75 C (show 1 + 20 + 3 * c < 221 from by omega) (s_ch (by decide) (by omega)) dX9_as_82 ?_
              refine v_top (Y (7 + 6 * c + 1)) (hR.ch (by omega) (by omega) (by omega)) ?_
              refine v_goto C 93 dX9_as_85 rfl ?_
              have hkk : kN Y c = κ := cN_of hκ2 (by omega)
              have hS : asS Y (nI c) (nI q) = (0, Y (7 + 6 * c + 1), Y) := by unfold asS; rw [if_pos hcc, if_pos hqq, nI_clamp (by omega), nI_clamp (by omega), hkk, if_pos (hu.symm.trans (by rw [h_78]; exact und_self q hq7))]
              exact n_iret C hRt rfl dX9_as_93 (by rw [hS]) (by rw [hS]; exact pc_ok hR (okG.rf M))
          · skip
            refine v_iload C 1 dX9_as_56 rfl ?_
            refine n_if_eq C (by omega) 75 dX9_as_58 rfl (fun h_58 => ?_) (fun h_58 => ?_)
            · skip
              refine v_iload C 1 dX9_as_75 rfl ?_
              refine v_iload_n C 5 dX9_as_77 rfl ?_
              refine n_icmp_ne C (by omega) (by omega) 88 dX9_as_78 rfl (fun h_78 => ?_) (fun h_78 => ?_)
              · skip
                refine v_aload_n C 3 dX9_as_88 rfl ?_
                refine v_iconst C (nI 5) dX9_as_89 (by decide) ?_
                refine n_callVi C hRm [.int (nI 5)] cw_X9_error ml_X9_58 (by decide) (show shp 0 = 9 from by decide +kernel) (by decide) rfl (c_error l G M 5 (by decide)) (by decide) rfl rfl (Nat.le_of_ble_eq_true rfl) dX9_as_90 (fun M5 hP_90 => ?_)
                subst hP_90
                have hkk : kN Y c = κ := cN_of hκ2 (by omega)
                have hS : asS Y (nI c) (nI q) = er 5 Y := by unfold asS; rw [if_pos hcc, if_pos hqq, nI_clamp (by omega), nI_clamp (by omega), hkk, if_neg (by have hj0 : j = 0 := h_58; subst hj0; rw [← hu, und_0 q hq7 h_78]; decide)]
                exact n_iret C hRt rfl dX9_as_93 (by rw [hS] <;> rfl) (by rw [hS]; exact pc_er hR (okG.rf M) (show (5 : Nat) ≠ 0 by decide))
              · skip
                refine v_aload_n C 2 dX9_as_81 rfl ?_
                refine g_X9_75 C (show 1 + 20 + 3 * c < 221 from by omega) (s_ch (by decide) (by omega)) dX9_as_82 ?_
                refine v_top (Y (7 + 6 * c + 1)) (hR.ch (by omega) (by omega) (by omega)) ?_
                refine v_goto C 93 dX9_as_85 rfl ?_
                have hkk : kN Y c = κ := cN_of hκ2 (by omega)
                have hS : asS Y (nI c) (nI q) = (0, Y (7 + 6 * c + 1), Y) := by unfold asS; rw [if_pos hcc, if_pos hqq, nI_clamp (by omega), nI_clamp (by omega), hkk, if_pos (hu.symm.trans (by rw [h_78]; exact und_self q hq7))]
                exact n_iret C hRt rfl dX9_as_93 (by rw [hS]) (by rw [hS]; exact pc_ok hR (okG.rf M))
            · skip
              have hdz := (abv j hj7 h_58).2.2
              refine v_gets C (.ref (gV G 20)) (fun s h => h.2.1.1) fj_X9_92 dX9_as_61 ?_
              refine v_iload C 1 dX9_as_64 rfl ?_
              refine v_above C (by omega) dX9_as_66 ?_
              refine v_top (nI (aboveN j)) ((abv j hj7 h_58).1) ?_
              refine v_istore C [(4, .int (nI (aboveN j))), (5, .int (nI i)), (3, .ref (gb G + (1 + 20 + 3 * c))), (0, .ref (gb G + 0)), (1, .int (nI c)), (2, .int (nI q))] dX9_as_67 (by decide) rfl ?_
              refine v_iinc C (nI (i + 1)) 1 [(5, .int (nI (i + 1))), (4, .int (nI (aboveN j))), (3, .ref (gb G + (1 + 20 + 3 * c))), (0, .ref (gb G + 0)), (1, .int (nI c)), (2, .int (nI q))] dX9_as_69 rfl (nI_add _ _) (by decide) rfl ?_
              refine v_goto C 43 dX9_as_72 rfl ?_
              refine v_sub [0, 1, 2, 3, 4, 5] [(5, .int (nI (i + 1))), (4, .int (nI (aboveN j))), (3, .ref (gb G + (1 + 20 + 3 * c))), (0, .ref (gb G + 0)), (1, .int (nI c)), (2, .int (nI q))] rfl ?_
              exact ihLA _ (by omega) (i + 1) (aboveN j) rfl ((abv j hj7 h_58).2.1) (by have := (abv j hj7 h_58).2.2; omega) ((und_step j hj7 q hq7 h_53).trans hu)
    exact LA _ 0 κ rfl hκ (by have := dz_le κ hκ; omega) rfl
  show Vc f G NPh M 0 [(0, .ref (gb G + 0)), (1, .int child), (2, .int kind)] []
  refine v_aload_n C 0 dX9_as_0 rfl ?_
  refine v_iload_n C 1 dX9_as_1 rfl ?_
  refine n_callVp C hRm [.int child] cw_X9_noChild ml_X9_84 (by decide) (show shp 0 = 9 from by decide +kernel) (by decide) rfl (c_noChild l G M Y _ _ hR hY child) (by decide) rfl rfl (Nat.le_of_ble_eq_true rfl) dX9_as_2 ?_
  refine nb_if_ne C 18 dX9_as_5 rfl (fun h_5 => ?_) (fun h_5 => ?_)
  · skip
    refine v_aload_n C 0 dX9_as_18 rfl ?_
    refine v_iconst C (nI 1) dX9_as_19 (by decide) ?_
    refine n_callVi C hRm [.int (nI 1)] cw_X9_error ml_X9_58 (by decide) (show shp 0 = 9 from by decide +kernel) (by decide) rfl (c_error l G M 1 (by decide)) (by decide) rfl rfl (Nat.le_of_ble_eq_true rfl) dX9_as_20 (fun M5 hP_20 => ?_)
    subst hP_20
    have hS : asS Y child kind = er 1 Y := by unfold asS; (first | rw [if_neg h_5] | rw [if_pos (Decidable.not_not.mp h_5)] | rw [if_pos h_5] | rw [if_pos (congrArg nI h_5)] | rw [if_neg (fun q9 => h_5 ((nI_eq (by omega) (by omega)).mp q9))] | rw [if_neg (Nat.not_le.mpr h_5)] | rw [if_neg (Nat.not_lt.mpr h_5)] | skip); all_goals rfl
    exact n_iret C hRt (rfl) dX9_as_23 (by rw [hS] <;> rfl) (by rw [hS]; exact pc_er hR (okG.rf M) (show (1 : Nat) ≠ 0 by decide))
  · skip
    obtain ⟨c, hc, rfl⟩ := is_nat hY.1.1 hY.1.2.1 (Decidable.not_not.mp h_5)
    refine v_iload_n C 2 dX9_as_8 rfl ?_
    refine v_iconst C (nI 0) dX9_as_9 (by decide) ?_
    refine v_bipush C (nI 6) dX9_as_10 (by decide) ?_
    refine n_callSp C hRm [.int kind, .int (nI 0), .int (nI 6)] cw_X9_outside st_X9_outside ml_X9_54 (c_outside l G M kind (nI 0) (nI 6)) (by decide) rfl rfl (Nat.le_of_ble_eq_true rfl) dX9_as_12 ?_
    refine nb_if_eq C 24 dX9_as_15 rfl (fun h_15 => ?_) (fun h_15 => ?_)
    · skip
      obtain ⟨q, hq, rfl⟩ := within_nat (by decide) (Decidable.not_not.mp h_15)
      refine v_aload_n C 0 dX9_as_24 rfl ?_
      refine g_X9_10 C (by decide) (show shp 0 = 9 from by decide +kernel) dX9_as_25 ?_
      refine g_X9_66 C (by decide) (s_y (by decide)) dX9_as_28 ?_
      refine v_iload_n C 1 dX9_as_31 rfl ?_
      refine v_aald C rfl (by decide) (show shp 2 = 20 from by decide +kernel) (by decide) (by decide) (show c < 10 from by omega) (by decide) (1 + 20 + 3 * c) (by simp only [aOff] <;> omega) dX9_as_32 ?_
      refine v_astore_n C [(3, .ref (gb G + (1 + 20 + 3 * c))), (0, .ref (gb G + 0)), (1, .int (nI c)), (2, .int (nI q))] dX9_as_33 rfl (by decide) rfl ?_
      refine v_aload_n C 0 dX9_as_34 rfl ?_
      refine g_X9_70 C (show 1 + 20 + 3 * c < 221 from by omega) (s_ch (by decide) (by omega)) dX9_as_35 ?_
      refine v_top (Y (7 + 6 * c + 0)) (hR.ch (by omega) (by omega) (by omega)) ?_
      obtain ⟨κ, hκ, hκ2⟩ := hY.2.1 c hc
      refine v_top (nI κ) (hκ2) ?_
      refine v_istore C [(4, .int (nI κ)), (3, .ref (gb G + (1 + 20 + 3 * c))), (0, .ref (gb G + 0)), (1, .int (nI c)), (2, .int (nI q))] dX9_as_38 (by decide) rfl ?_
      refine v_iconst C (nI 0) dX9_as_40 (by decide) ?_
      refine v_istore C [(5, .int (nI 0)), (4, .int (nI κ)), (3, .ref (gb G + (1 + 20 + 3 * c))), (0, .ref (gb G + 0)), (1, .int (nI c)), (2, .int (nI q))] dX9_as_41 (by decide) rfl ?_
      refine v_sub [0, 1, 2, 3, 4, 5] [(5, .int (nI 0)), (4, .int (nI κ)), (3, .ref (gb G + (1 + 20 + 3 * c))), (0, .ref (gb G + 0)), (1, .int (nI c)), (2, .int (nI q))] rfl ?_
      exact LAs c q κ hc hq hκ hκ2 (Decidable.not_not.mp h_5) (Decidable.not_not.mp h_15) rfl rfl
    · skip
      refine v_aload_n C 0 dX9_as_18 rfl ?_
      refine v_iconst C (nI 1) dX9_as_19 (by decide) ?_
      refine n_callVi C hRm [.int (nI 1)] cw_X9_error ml_X9_58 (by decide) (show shp 0 = 9 from by decide +kernel) (by decide) rfl (c_error l G M 1 (by decide)) (by decide) rfl rfl (Nat.le_of_ble_eq_true rfl) dX9_as_20 (fun M5 hP_20 => ?_)
      subst hP_20
      have hS : asS Y (nI c) kind = er 1 Y := by unfold asS; (first | rw [if_neg h_5] | rw [if_pos (Decidable.not_not.mp h_5)] | rw [if_pos h_5] | rw [if_pos (congrArg nI h_5)] | rw [if_neg (fun q9 => h_5 ((nI_eq (by omega) (by omega)).mp q9))] | rw [if_neg (Nat.not_le.mpr h_5)] | rw [if_neg (Nat.not_lt.mpr h_5)] | skip); (first | rw [if_neg h_15] | rw [if_pos (Decidable.not_not.mp h_15)] | rw [if_pos h_15] | rw [if_pos (congrArg nI h_15)] | rw [if_neg (fun q9 => h_15 ((nI_eq (by omega) (by omega)).mp q9))] | rw [if_neg (Nat.not_le.mpr h_15)] | rw [if_neg (Nat.not_lt.mpr h_15)] | skip); all_goals rfl
      exact n_iret C hRt (rfl) dX9_as_23 (by rw [hS] <;> rfl) (by rw [hS]; exact pc_er hR (okG.rf M) (show (1 : Nat) ≠ 0 by decide))
set_option maxHeartbeats 4000000 in
set_option maxRecDepth 100000 in
theorem x_set (l : Launch) (G : GC) (M : Mm) (Y : Nat → Int32) (n hN : Nat) (hR : YR M 1 Y n hN) (hY : YOk Y n hN) (hI : yI Y n) (hJ : yJ Y n) (child what v : Int32) : CI l G 5 yX9_set cX9_set 6 .int [.ref (gb G + 0), .int child, .int what, .int v] M ((setS Y child what v).2.1) (PubC M (setS Y child what v).2.2 n hN (setS Y child what v).1) := by
  refine Con.of (by decide +kernel) (Nat.le_of_ble_eq_true rfl) ?_
  intro f C hRm hRt _
  have hn2 := hY.1.2.1
  have h5 := hY.1.2.2.2
  show Vc f G NPh M 0 [(0, .ref (gb G + 0)), (1, .int child), (2, .int what), (3, .int v)] []
  refine v_aload_n C 0 dX9_set_0 rfl ?_
  refine v_iload_n C 1 dX9_set_1 rfl ?_
  refine n_callVp C hRm [.int child] cw_X9_noChild ml_X9_84 (by decide) (show shp 0 = 9 from by decide +kernel) (by decide) rfl (c_noChild l G M Y _ _ hR hY child) (by decide) rfl rfl (Nat.le_of_ble_eq_true rfl) dX9_set_2 ?_
  refine nb_if_ne C 29 dX9_set_5 rfl (fun h_5 => ?_) (fun h_5 => ?_)
  · skip
    refine v_aload_n C 0 dX9_set_29 rfl ?_
    refine v_iconst C (nI 1) dX9_set_30 (by decide) ?_
    refine n_callVi C hRm [.int (nI 1)] cw_X9_error ml_X9_58 (by decide) (show shp 0 = 9 from by decide +kernel) (by decide) rfl (c_error l G M 1 (by decide)) (by decide) rfl rfl (Nat.le_of_ble_eq_true rfl) dX9_set_31 (fun M5 hP_31 => ?_)
    subst hP_31
    have hS : setS Y child what v = er 1 Y := by unfold setS; (try rw [nI_clamp (by omega)]); (try rw [nI_clamp (by omega)]); (try rw [nI_clamp (by omega)]); (first | rw [if_neg h_5] | rw [if_pos (Decidable.not_not.mp h_5)] | rw [if_pos h_5] | rw [if_pos (congrArg nI h_5)] | rw [if_neg (fun q9 => h_5 ((nI_eq (by omega) (by omega)).mp q9))] | rw [if_neg (Nat.not_le.mpr h_5)] | rw [if_neg (Nat.not_lt.mpr h_5)] | skip); all_goals rfl
    exact n_iret C hRt (rfl) dX9_set_34 (by rw [hS] <;> rfl) (by rw [hS]; exact pc_er hR (okG.rf M) (show (1 : Nat) ≠ 0 by decide))
  · skip
    obtain ⟨c, hc, rfl⟩ := is_nat hY.1.1 hY.1.2.1 (Decidable.not_not.mp h_5)
    refine v_iload_n C 2 dX9_set_8 rfl ?_
    refine v_iconst C (nI 0) dX9_set_9 (by decide) ?_
    refine v_iconst C (nI 3) dX9_set_10 (by decide) ?_
    refine n_callSp C hRm [.int what, .int (nI 0), .int (nI 3)] cw_X9_outside st_X9_outside ml_X9_54 (c_outside l G M what (nI 0) (nI 3)) (by decide) rfl rfl (Nat.le_of_ble_eq_true rfl) dX9_set_11 ?_
    refine nb_if_ne C 29 dX9_set_14 rfl (fun h_14 => ?_) (fun h_14 => ?_)
    · skip
      refine v_aload_n C 0 dX9_set_29 rfl ?_
      refine v_iconst C (nI 1) dX9_set_30 (by decide) ?_
      refine n_callVi C hRm [.int (nI 1)] cw_X9_error ml_X9_58 (by decide) (show shp 0 = 9 from by decide +kernel) (by decide) rfl (c_error l G M 1 (by decide)) (by decide) rfl rfl (Nat.le_of_ble_eq_true rfl) dX9_set_31 (fun M5 hP_31 => ?_)
      subst hP_31
      have hS : setS Y (nI c) what v = er 1 Y := by unfold setS; (try rw [nI_clamp (by omega)]); (try rw [nI_clamp (by omega)]); (try rw [nI_clamp (by omega)]); (first | rw [if_neg h_5] | rw [if_pos (Decidable.not_not.mp h_5)] | rw [if_pos h_5] | rw [if_pos (congrArg nI h_5)] | rw [if_neg (fun q9 => h_5 ((nI_eq (by omega) (by omega)).mp q9))] | rw [if_neg (Nat.not_le.mpr h_5)] | rw [if_neg (Nat.not_lt.mpr h_5)] | skip); (first | rw [if_neg h_14] | rw [if_pos (Decidable.not_not.mp h_14)] | rw [if_pos h_14] | rw [if_pos (congrArg nI h_14)] | rw [if_neg (fun q9 => h_14 ((nI_eq (by omega) (by omega)).mp q9))] | rw [if_neg (Nat.not_le.mpr h_14)] | rw [if_neg (Nat.not_lt.mpr h_14)] | skip); all_goals rfl
      exact n_iret C hRt (rfl) dX9_set_34 (by rw [hS] <;> rfl) (by rw [hS]; exact pc_er hR (okG.rf M) (show (1 : Nat) ≠ 0 by decide))
    · skip
      obtain ⟨q, hq, rfl⟩ := within_nat (by decide) (Decidable.not_not.mp h_14)
      have hqq : nI 0 ≤ nI q ∧ nI q ≤ nI 3 := Decidable.not_not.mp h_14
      rcases (show q = 0 ∨ q = 1 ∨ q = 2 ∨ q = 3 by omega) with h_0 | h_0 | h_0 | h_0
      · subst h_0
        refine v_iload_n C 3 dX9_set_17 rfl ?_
        refine v_iconst C (nI 0) dX9_set_18 (by decide) ?_
        refine v_iload_n C 2 dX9_set_19 rfl ?_
        refine n_callSp C hRm [.int (nI 0)] cw_X9_mostOf st_X9_mostOf ml_X9_95 (c_mostOf l G M 0 (by omega)) (by decide) rfl rfl (Nat.le_of_ble_eq_true rfl) dX9_set_20 ?_
        refine v_top (nI 6) (by decide) ?_
        refine n_callSp C hRm [.int v, .int (nI 0), .int (nI 6)] cw_X9_outside st_X9_outside ml_X9_54 (c_outside l G M v (nI 0) (nI 6)) (by decide) rfl rfl (Nat.le_of_ble_eq_true rfl) dX9_set_23 ?_
        refine nb_if_eq C 35 dX9_set_26 rfl (fun h_26 => ?_) (fun h_26 => ?_)
        · skip
          refine v_aload_n C 0 dX9_set_35 rfl ?_
          refine g_X9_10 C (by decide) (show shp 0 = 9 from by decide +kernel) dX9_set_36 ?_
          refine g_X9_66 C (by decide) (s_y (by decide)) dX9_set_39 ?_
          refine v_iload_n C 1 dX9_set_42 rfl ?_
          refine v_aald C rfl (by decide) (show shp 2 = 20 from by decide +kernel) (by decide) (by decide) (show c < 10 from by omega) (by decide) (1 + 20 + 3 * c) (by simp only [aOff] <;> omega) dX9_set_43 ?_
          refine v_astore C [(4, .ref (gb G + (1 + 20 + 3 * c))), (0, .ref (gb G + 0)), (1, .int (nI c)), (2, .int (nI 0)), (3, .int v)] dX9_set_44 (by decide) rfl ?_
          refine v_aload_n C 1 dX9_set_46 rfl ?_
          refine v_aload_n C 1 dX9_set_47 rfl ?_
          refine g_X9_10 C (by decide) (show shp 0 = 9 from by decide +kernel) dX9_set_48 ?_
          refine v_iload_n C 2 dX9_set_51 rfl ?_
          refine v_iload_n C 3 dX9_set_52 rfl ?_
          refine n_callVi C hRm [.ref (gb G + 1), .int (nI c), .int (nI 0)] cw_X9_ofChild ml_X9_88 (by decide) (show shp 0 = 9 from by decide +kernel) (by decide) rfl (c_ofChild l G M 1 (by decide) Y _ _ hR hY hJ.1 hJ.2.1 c 0 (by omega) (by omega)) (by decide) rfl rfl (Nat.le_of_ble_eq_true rfl) dX9_set_53 (fun Mq1 hP_53 => ?_)
          have hLq1 : frF M Mq1 := hP_53
          have hRq1x1 := hR.fr (fun a h1 h2 => hLq1 a (by omega))
          have hGq1 := (okG.rf M).fri hLq1
          refine v_istore C [(5, .int (toldS Y n c 0)), (4, .ref (gb G + (1 + 20 + 3 * c))), (0, .ref (gb G + 0)), (1, .int (nI c)), (2, .int (nI 0)), (3, .int v)] dX9_set_56 (by decide) rfl ?_
          refine v_iload_n C 4 dX9_set_58 rfl ?_
          refine v_tableIn (off := 25) C 84 dX9_set_59 (by decide +kernel) (by decide +kernel) (by decide +kernel) rfl ?_
          refine v_aload C 1 dX9_set_84 rfl ?_
          refine v_iload_n C 5 dX9_set_86 rfl ?_
          refine p_X9_70 C (show 1 + 20 + 3 * c < 221 from by omega) (s_ch (by decide) (by omega)) dX9_set_87 ?_
          have hRq2 : YR (up2 Mq1 (1 + 20 + 3 * c) 0 v) 1 (upd Y (7 + 6 * c + 0) v) n hN := hRq1x1.wch (c := c) (f := 0) (by omega) (by omega) (by omega) (by omega) (YOk.t4 hY) (YOk.t5 hY) _
          have hFq2 : okG M (up2 Mq1 (1 + 20 + 3 * c) 0 v) := hGq1.tr (Fr.up (y := 1) _ (by omega))
          refine v_goto C 117 dX9_set_90 rfl ?_
          refine v_iload C 0 dX9_set_117 rfl ?_
          have hS : setS Y (nI c) (nI 0) v = (0, toldS Y n c 0, upd Y (7 + 6 * c + 0) v) := by unfold setS; (try rw [nI_clamp (by omega)]); (try rw [nI_clamp (by omega)]); (try rw [nI_clamp (by omega)]); (rw [if_pos (show nI 0 = 0 by decide)]); (first | rw [if_neg h_5] | rw [if_pos (Decidable.not_not.mp h_5)] | rw [if_pos h_5] | rw [if_pos (congrArg nI h_5)] | rw [if_neg (fun q9 => h_5 ((nI_eq (by omega) (by omega)).mp q9))] | rw [if_neg (Nat.not_le.mpr h_5)] | rw [if_neg (Nat.not_lt.mpr h_5)] | skip); (first | rw [if_neg hqq] | rw [if_pos (Decidable.not_not.mp hqq)] | rw [if_pos hqq] | rw [if_pos (congrArg nI hqq)] | rw [if_neg (fun q9 => hqq ((nI_eq (by omega) (by omega)).mp q9))] | rw [if_neg (Nat.not_le.mpr hqq)] | rw [if_neg (Nat.not_lt.mpr hqq)] | skip); (first | rw [if_neg h_26] | rw [if_pos (Decidable.not_not.mp h_26)] | rw [if_pos h_26] | rw [if_pos (congrArg nI h_26)] | rw [if_neg (fun q9 => h_26 ((nI_eq (by omega) (by omega)).mp q9))] | rw [if_neg (Nat.not_le.mpr h_26)] | rw [if_neg (Nat.not_lt.mpr h_26)] | skip); all_goals rfl
          exact n_iret C hRt (rfl) dX9_set_119 (by rw [hS] <;> rfl) (by rw [hS]; exact pc_ok hRq2 hFq2)
        · skip
          refine v_aload_n C 0 dX9_set_29 rfl ?_
          refine v_iconst C (nI 1) dX9_set_30 (by decide) ?_
          refine n_callVi C hRm [.int (nI 1)] cw_X9_error ml_X9_58 (by decide) (show shp 0 = 9 from by decide +kernel) (by decide) rfl (c_error l G M 1 (by decide)) (by decide) rfl rfl (Nat.le_of_ble_eq_true rfl) dX9_set_31 (fun M5 hP_31 => ?_)
          subst hP_31
          have hS : setS Y (nI c) (nI 0) v = er 1 Y := by unfold setS; (try rw [nI_clamp (by omega)]); (try rw [nI_clamp (by omega)]); (try rw [nI_clamp (by omega)]); (rw [if_pos (show nI 0 = 0 by decide)]); (first | rw [if_neg h_5] | rw [if_pos (Decidable.not_not.mp h_5)] | rw [if_pos h_5] | rw [if_pos (congrArg nI h_5)] | rw [if_neg (fun q9 => h_5 ((nI_eq (by omega) (by omega)).mp q9))] | rw [if_neg (Nat.not_le.mpr h_5)] | rw [if_neg (Nat.not_lt.mpr h_5)] | skip); (first | rw [if_neg hqq] | rw [if_pos (Decidable.not_not.mp hqq)] | rw [if_pos hqq] | rw [if_pos (congrArg nI hqq)] | rw [if_neg (fun q9 => hqq ((nI_eq (by omega) (by omega)).mp q9))] | rw [if_neg (Nat.not_le.mpr hqq)] | rw [if_neg (Nat.not_lt.mpr hqq)] | skip); (first | rw [if_neg h_26] | rw [if_pos (Decidable.not_not.mp h_26)] | rw [if_pos h_26] | rw [if_pos (congrArg nI h_26)] | rw [if_neg (fun q9 => h_26 ((nI_eq (by omega) (by omega)).mp q9))] | rw [if_neg (Nat.not_le.mpr h_26)] | rw [if_neg (Nat.not_lt.mpr h_26)] | skip); all_goals rfl
          exact n_iret C hRt (rfl) dX9_set_34 (by rw [hS] <;> rfl) (by rw [hS]; exact pc_er hR (okG.rf M) (show (1 : Nat) ≠ 0 by decide))
      · subst h_0
        refine v_iload_n C 3 dX9_set_17 rfl ?_
        refine v_iconst C (nI 0) dX9_set_18 (by decide) ?_
        refine v_iload_n C 2 dX9_set_19 rfl ?_
        refine n_callSp C hRm [.int (nI 1)] cw_X9_mostOf st_X9_mostOf ml_X9_95 (c_mostOf l G M 1 (by omega)) (by decide) rfl rfl (Nat.le_of_ble_eq_true rfl) dX9_set_20 ?_
        refine v_top (nI 99) (by decide) ?_
        refine n_callSp C hRm [.int v, .int (nI 0), .int (nI 99)] cw_X9_outside st_X9_outside ml_X9_54 (c_outside l G M v (nI 0) (nI 99)) (by decide) rfl rfl (Nat.le_of_ble_eq_true rfl) dX9_set_23 ?_
        refine nb_if_eq C 35 dX9_set_26 rfl (fun h_26 => ?_) (fun h_26 => ?_)
        · skip
          refine v_aload_n C 0 dX9_set_35 rfl ?_
          refine g_X9_10 C (by decide) (show shp 0 = 9 from by decide +kernel) dX9_set_36 ?_
          refine g_X9_66 C (by decide) (s_y (by decide)) dX9_set_39 ?_
          refine v_iload_n C 1 dX9_set_42 rfl ?_
          refine v_aald C rfl (by decide) (show shp 2 = 20 from by decide +kernel) (by decide) (by decide) (show c < 10 from by omega) (by decide) (1 + 20 + 3 * c) (by simp only [aOff] <;> omega) dX9_set_43 ?_
          refine v_astore C [(4, .ref (gb G + (1 + 20 + 3 * c))), (0, .ref (gb G + 0)), (1, .int (nI c)), (2, .int (nI 1)), (3, .int v)] dX9_set_44 (by decide) rfl ?_
          refine v_aload_n C 1 dX9_set_46 rfl ?_
          refine v_aload_n C 1 dX9_set_47 rfl ?_
          refine g_X9_10 C (by decide) (show shp 0 = 9 from by decide +kernel) dX9_set_48 ?_
          refine v_iload_n C 2 dX9_set_51 rfl ?_
          refine v_iload_n C 3 dX9_set_52 rfl ?_
          refine n_callVi C hRm [.ref (gb G + 1), .int (nI c), .int (nI 1)] cw_X9_ofChild ml_X9_88 (by decide) (show shp 0 = 9 from by decide +kernel) (by decide) rfl (c_ofChild l G M 1 (by decide) Y _ _ hR hY hJ.1 hJ.2.1 c 1 (by omega) (by omega)) (by decide) rfl rfl (Nat.le_of_ble_eq_true rfl) dX9_set_53 (fun Mq3 hP_53 => ?_)
          have hLq3 : frF M Mq3 := hP_53
          have hRq3x1 := hR.fr (fun a h1 h2 => hLq3 a (by omega))
          have hGq3 := (okG.rf M).fri hLq3
          refine v_istore C [(5, .int (toldS Y n c 1)), (4, .ref (gb G + (1 + 20 + 3 * c))), (0, .ref (gb G + 0)), (1, .int (nI c)), (2, .int (nI 1)), (3, .int v)] dX9_set_56 (by decide) rfl ?_
          refine v_iload_n C 4 dX9_set_58 rfl ?_
          refine v_tableIn (off := 34) C 93 dX9_set_59 (by decide +kernel) (by decide +kernel) (by decide +kernel) rfl ?_
          refine v_aload C 1 dX9_set_93 rfl ?_
          refine v_iload_n C 5 dX9_set_95 rfl ?_
          refine p_X9_75 C (show 1 + 20 + 3 * c < 221 from by omega) (s_ch (by decide) (by omega)) dX9_set_96 ?_
          have hRq4 : YR (up2 Mq3 (1 + 20 + 3 * c) 1 v) 1 (upd Y (7 + 6 * c + 1) v) n hN := hRq3x1.wch (c := c) (f := 1) (by omega) (by omega) (by omega) (by omega) (YOk.t4 hY) (YOk.t5 hY) _
          have hFq4 : okG M (up2 Mq3 (1 + 20 + 3 * c) 1 v) := hGq3.tr (Fr.up (y := 1) _ (by omega))
          refine v_goto C 117 dX9_set_99 rfl ?_
          refine v_iload C 0 dX9_set_117 rfl ?_
          have hS : setS Y (nI c) (nI 1) v = (0, toldS Y n c 1, upd Y (7 + 6 * c + 1) v) := by unfold setS; (try rw [nI_clamp (by omega)]); (try rw [nI_clamp (by omega)]); (try rw [nI_clamp (by omega)]); (rw [if_neg (show ¬ nI 1 = 0 by decide), if_neg (show ¬ nI 1 = nI 3 by decide)]); (first | rw [if_neg h_5] | rw [if_pos (Decidable.not_not.mp h_5)] | rw [if_pos h_5] | rw [if_pos (congrArg nI h_5)] | rw [if_neg (fun q9 => h_5 ((nI_eq (by omega) (by omega)).mp q9))] | rw [if_neg (Nat.not_le.mpr h_5)] | rw [if_neg (Nat.not_lt.mpr h_5)] | skip); (first | rw [if_neg hqq] | rw [if_pos (Decidable.not_not.mp hqq)] | rw [if_pos hqq] | rw [if_pos (congrArg nI hqq)] | rw [if_neg (fun q9 => hqq ((nI_eq (by omega) (by omega)).mp q9))] | rw [if_neg (Nat.not_le.mpr hqq)] | rw [if_neg (Nat.not_lt.mpr hqq)] | skip); (first | rw [if_neg h_26] | rw [if_pos (Decidable.not_not.mp h_26)] | rw [if_pos h_26] | rw [if_pos (congrArg nI h_26)] | rw [if_neg (fun q9 => h_26 ((nI_eq (by omega) (by omega)).mp q9))] | rw [if_neg (Nat.not_le.mpr h_26)] | rw [if_neg (Nat.not_lt.mpr h_26)] | skip); all_goals rfl
          exact n_iret C hRt (rfl) dX9_set_119 (by rw [hS] <;> rfl) (by rw [hS]; exact pc_ok hRq4 hFq4)
        · skip
          refine v_aload_n C 0 dX9_set_29 rfl ?_
          refine v_iconst C (nI 1) dX9_set_30 (by decide) ?_
          refine n_callVi C hRm [.int (nI 1)] cw_X9_error ml_X9_58 (by decide) (show shp 0 = 9 from by decide +kernel) (by decide) rfl (c_error l G M 1 (by decide)) (by decide) rfl rfl (Nat.le_of_ble_eq_true rfl) dX9_set_31 (fun M5 hP_31 => ?_)
          subst hP_31
          have hS : setS Y (nI c) (nI 1) v = er 1 Y := by unfold setS; (try rw [nI_clamp (by omega)]); (try rw [nI_clamp (by omega)]); (try rw [nI_clamp (by omega)]); (rw [if_neg (show ¬ nI 1 = 0 by decide), if_neg (show ¬ nI 1 = nI 3 by decide)]); (first | rw [if_neg h_5] | rw [if_pos (Decidable.not_not.mp h_5)] | rw [if_pos h_5] | rw [if_pos (congrArg nI h_5)] | rw [if_neg (fun q9 => h_5 ((nI_eq (by omega) (by omega)).mp q9))] | rw [if_neg (Nat.not_le.mpr h_5)] | rw [if_neg (Nat.not_lt.mpr h_5)] | skip); (first | rw [if_neg hqq] | rw [if_pos (Decidable.not_not.mp hqq)] | rw [if_pos hqq] | rw [if_pos (congrArg nI hqq)] | rw [if_neg (fun q9 => hqq ((nI_eq (by omega) (by omega)).mp q9))] | rw [if_neg (Nat.not_le.mpr hqq)] | rw [if_neg (Nat.not_lt.mpr hqq)] | skip); (first | rw [if_neg h_26] | rw [if_pos (Decidable.not_not.mp h_26)] | rw [if_pos h_26] | rw [if_pos (congrArg nI h_26)] | rw [if_neg (fun q9 => h_26 ((nI_eq (by omega) (by omega)).mp q9))] | rw [if_neg (Nat.not_le.mpr h_26)] | rw [if_neg (Nat.not_lt.mpr h_26)] | skip); all_goals rfl
          exact n_iret C hRt (rfl) dX9_set_34 (by rw [hS] <;> rfl) (by rw [hS]; exact pc_er hR (okG.rf M) (show (1 : Nat) ≠ 0 by decide))
      · subst h_0
        refine v_iload_n C 3 dX9_set_17 rfl ?_
        refine v_iconst C (nI 0) dX9_set_18 (by decide) ?_
        refine v_iload_n C 2 dX9_set_19 rfl ?_
        refine n_callSp C hRm [.int (nI 2)] cw_X9_mostOf st_X9_mostOf ml_X9_95 (c_mostOf l G M 2 (by omega)) (by decide) rfl rfl (Nat.le_of_ble_eq_true rfl) dX9_set_20 ?_
        refine v_top (nI 99) (by decide) ?_
        refine n_callSp C hRm [.int v, .int (nI 0), .int (nI 99)] cw_X9_outside st_X9_outside ml_X9_54 (c_outside l G M v (nI 0) (nI 99)) (by decide) rfl rfl (Nat.le_of_ble_eq_true rfl) dX9_set_23 ?_
        refine nb_if_eq C 35 dX9_set_26 rfl (fun h_26 => ?_) (fun h_26 => ?_)
        · skip
          refine v_aload_n C 0 dX9_set_35 rfl ?_
          refine g_X9_10 C (by decide) (show shp 0 = 9 from by decide +kernel) dX9_set_36 ?_
          refine g_X9_66 C (by decide) (s_y (by decide)) dX9_set_39 ?_
          refine v_iload_n C 1 dX9_set_42 rfl ?_
          refine v_aald C rfl (by decide) (show shp 2 = 20 from by decide +kernel) (by decide) (by decide) (show c < 10 from by omega) (by decide) (1 + 20 + 3 * c) (by simp only [aOff] <;> omega) dX9_set_43 ?_
          refine v_astore C [(4, .ref (gb G + (1 + 20 + 3 * c))), (0, .ref (gb G + 0)), (1, .int (nI c)), (2, .int (nI 2)), (3, .int v)] dX9_set_44 (by decide) rfl ?_
          refine v_aload_n C 1 dX9_set_46 rfl ?_
          refine v_aload_n C 1 dX9_set_47 rfl ?_
          refine g_X9_10 C (by decide) (show shp 0 = 9 from by decide +kernel) dX9_set_48 ?_
          refine v_iload_n C 2 dX9_set_51 rfl ?_
          refine v_iload_n C 3 dX9_set_52 rfl ?_
          refine n_callVi C hRm [.ref (gb G + 1), .int (nI c), .int (nI 2)] cw_X9_ofChild ml_X9_88 (by decide) (show shp 0 = 9 from by decide +kernel) (by decide) rfl (c_ofChild l G M 1 (by decide) Y _ _ hR hY hJ.1 hJ.2.1 c 2 (by omega) (by omega)) (by decide) rfl rfl (Nat.le_of_ble_eq_true rfl) dX9_set_53 (fun Mq5 hP_53 => ?_)
          have hLq5 : frF M Mq5 := hP_53
          have hRq5x1 := hR.fr (fun a h1 h2 => hLq5 a (by omega))
          have hGq5 := (okG.rf M).fri hLq5
          refine v_istore C [(5, .int (toldS Y n c 2)), (4, .ref (gb G + (1 + 20 + 3 * c))), (0, .ref (gb G + 0)), (1, .int (nI c)), (2, .int (nI 2)), (3, .int v)] dX9_set_56 (by decide) rfl ?_
          refine v_iload_n C 4 dX9_set_58 rfl ?_
          refine v_tableIn (off := 43) C 102 dX9_set_59 (by decide +kernel) (by decide +kernel) (by decide +kernel) rfl ?_
          refine v_aload C 1 dX9_set_102 rfl ?_
          refine v_iload_n C 5 dX9_set_104 rfl ?_
          refine p_X9_78 C (show 1 + 20 + 3 * c < 221 from by omega) (s_ch (by decide) (by omega)) dX9_set_105 ?_
          have hRq6 : YR (up2 Mq5 (1 + 20 + 3 * c) 2 v) 1 (upd Y (7 + 6 * c + 2) v) n hN := hRq5x1.wch (c := c) (f := 2) (by omega) (by omega) (by omega) (by omega) (YOk.t4 hY) (YOk.t5 hY) _
          have hFq6 : okG M (up2 Mq5 (1 + 20 + 3 * c) 2 v) := hGq5.tr (Fr.up (y := 1) _ (by omega))
          refine v_goto C 117 dX9_set_108 rfl ?_
          refine v_iload C 0 dX9_set_117 rfl ?_
          have hS : setS Y (nI c) (nI 2) v = (0, toldS Y n c 2, upd Y (7 + 6 * c + 2) v) := by unfold setS; (try rw [nI_clamp (by omega)]); (try rw [nI_clamp (by omega)]); (try rw [nI_clamp (by omega)]); (rw [if_neg (show ¬ nI 2 = 0 by decide), if_neg (show ¬ nI 2 = nI 3 by decide)]); (first | rw [if_neg h_5] | rw [if_pos (Decidable.not_not.mp h_5)] | rw [if_pos h_5] | rw [if_pos (congrArg nI h_5)] | rw [if_neg (fun q9 => h_5 ((nI_eq (by omega) (by omega)).mp q9))] | rw [if_neg (Nat.not_le.mpr h_5)] | rw [if_neg (Nat.not_lt.mpr h_5)] | skip); (first | rw [if_neg hqq] | rw [if_pos (Decidable.not_not.mp hqq)] | rw [if_pos hqq] | rw [if_pos (congrArg nI hqq)] | rw [if_neg (fun q9 => hqq ((nI_eq (by omega) (by omega)).mp q9))] | rw [if_neg (Nat.not_le.mpr hqq)] | rw [if_neg (Nat.not_lt.mpr hqq)] | skip); (first | rw [if_neg h_26] | rw [if_pos (Decidable.not_not.mp h_26)] | rw [if_pos h_26] | rw [if_pos (congrArg nI h_26)] | rw [if_neg (fun q9 => h_26 ((nI_eq (by omega) (by omega)).mp q9))] | rw [if_neg (Nat.not_le.mpr h_26)] | rw [if_neg (Nat.not_lt.mpr h_26)] | skip); all_goals rfl
          exact n_iret C hRt (rfl) dX9_set_119 (by rw [hS] <;> rfl) (by rw [hS]; exact pc_ok hRq6 hFq6)
        · skip
          refine v_aload_n C 0 dX9_set_29 rfl ?_
          refine v_iconst C (nI 1) dX9_set_30 (by decide) ?_
          refine n_callVi C hRm [.int (nI 1)] cw_X9_error ml_X9_58 (by decide) (show shp 0 = 9 from by decide +kernel) (by decide) rfl (c_error l G M 1 (by decide)) (by decide) rfl rfl (Nat.le_of_ble_eq_true rfl) dX9_set_31 (fun M5 hP_31 => ?_)
          subst hP_31
          have hS : setS Y (nI c) (nI 2) v = er 1 Y := by unfold setS; (try rw [nI_clamp (by omega)]); (try rw [nI_clamp (by omega)]); (try rw [nI_clamp (by omega)]); (rw [if_neg (show ¬ nI 2 = 0 by decide), if_neg (show ¬ nI 2 = nI 3 by decide)]); (first | rw [if_neg h_5] | rw [if_pos (Decidable.not_not.mp h_5)] | rw [if_pos h_5] | rw [if_pos (congrArg nI h_5)] | rw [if_neg (fun q9 => h_5 ((nI_eq (by omega) (by omega)).mp q9))] | rw [if_neg (Nat.not_le.mpr h_5)] | rw [if_neg (Nat.not_lt.mpr h_5)] | skip); (first | rw [if_neg hqq] | rw [if_pos (Decidable.not_not.mp hqq)] | rw [if_pos hqq] | rw [if_pos (congrArg nI hqq)] | rw [if_neg (fun q9 => hqq ((nI_eq (by omega) (by omega)).mp q9))] | rw [if_neg (Nat.not_le.mpr hqq)] | rw [if_neg (Nat.not_lt.mpr hqq)] | skip); (first | rw [if_neg h_26] | rw [if_pos (Decidable.not_not.mp h_26)] | rw [if_pos h_26] | rw [if_pos (congrArg nI h_26)] | rw [if_neg (fun q9 => h_26 ((nI_eq (by omega) (by omega)).mp q9))] | rw [if_neg (Nat.not_le.mpr h_26)] | rw [if_neg (Nat.not_lt.mpr h_26)] | skip); all_goals rfl
          exact n_iret C hRt (rfl) dX9_set_34 (by rw [hS] <;> rfl) (by rw [hS]; exact pc_er hR (okG.rf M) (show (1 : Nat) ≠ 0 by decide))
      · subst h_0
        refine v_iload_n C 3 dX9_set_17 rfl ?_
        refine v_iconst C (nI 0) dX9_set_18 (by decide) ?_
        refine v_iload_n C 2 dX9_set_19 rfl ?_
        refine n_callSp C hRm [.int (nI 3)] cw_X9_mostOf st_X9_mostOf ml_X9_95 (c_mostOf l G M 3 (by omega)) (by decide) rfl rfl (Nat.le_of_ble_eq_true rfl) dX9_set_20 ?_
        refine v_top (nI 1) (by decide) ?_
        refine n_callSp C hRm [.int v, .int (nI 0), .int (nI 1)] cw_X9_outside st_X9_outside ml_X9_54 (c_outside l G M v (nI 0) (nI 1)) (by decide) rfl rfl (Nat.le_of_ble_eq_true rfl) dX9_set_23 ?_
        refine nb_if_eq C 35 dX9_set_26 rfl (fun h_26 => ?_) (fun h_26 => ?_)
        · skip
          refine v_aload_n C 0 dX9_set_35 rfl ?_
          refine g_X9_10 C (by decide) (show shp 0 = 9 from by decide +kernel) dX9_set_36 ?_
          refine g_X9_66 C (by decide) (s_y (by decide)) dX9_set_39 ?_
          refine v_iload_n C 1 dX9_set_42 rfl ?_
          refine v_aald C rfl (by decide) (show shp 2 = 20 from by decide +kernel) (by decide) (by decide) (show c < 10 from by omega) (by decide) (1 + 20 + 3 * c) (by simp only [aOff] <;> omega) dX9_set_43 ?_
          refine v_astore C [(4, .ref (gb G + (1 + 20 + 3 * c))), (0, .ref (gb G + 0)), (1, .int (nI c)), (2, .int (nI 3)), (3, .int v)] dX9_set_44 (by decide) rfl ?_
          refine v_aload_n C 1 dX9_set_46 rfl ?_
          refine v_aload_n C 1 dX9_set_47 rfl ?_
          refine g_X9_10 C (by decide) (show shp 0 = 9 from by decide +kernel) dX9_set_48 ?_
          refine v_iload_n C 2 dX9_set_51 rfl ?_
          refine v_iload_n C 3 dX9_set_52 rfl ?_
          refine n_callVi C hRm [.ref (gb G + 1), .int (nI c), .int (nI 3)] cw_X9_ofChild ml_X9_88 (by decide) (show shp 0 = 9 from by decide +kernel) (by decide) rfl (c_ofChild l G M 1 (by decide) Y _ _ hR hY hJ.1 hJ.2.1 c 3 (by omega) (by omega)) (by decide) rfl rfl (Nat.le_of_ble_eq_true rfl) dX9_set_53 (fun Mq7 hP_53 => ?_)
          have hLq7 : frF M Mq7 := hP_53
          have hRq7x1 := hR.fr (fun a h1 h2 => hLq7 a (by omega))
          have hGq7 := (okG.rf M).fri hLq7
          refine v_istore C [(5, .int (toldS Y n c 3)), (4, .ref (gb G + (1 + 20 + 3 * c))), (0, .ref (gb G + 0)), (1, .int (nI c)), (2, .int (nI 3)), (3, .int v)] dX9_set_56 (by decide) rfl ?_
          refine v_iload_n C 4 dX9_set_58 rfl ?_
          refine v_tableOut C 111 dX9_set_59 (by first | exact Or.inr (by decide +kernel) | exact Or.inl (by decide +kernel)) rfl ?_
          refine v_aload C 1 dX9_set_111 rfl ?_
          refine v_iload_n C 5 dX9_set_113 rfl ?_
          refine p_X9_81 C (show 1 + 20 + 3 * c < 221 from by omega) (s_ch (by decide) (by omega)) dX9_set_114 ?_
          have hRq8 : YR (up2 Mq7 (1 + 20 + 3 * c) 3 v) 1 (upd Y (7 + 6 * c + 3) v) n hN := hRq7x1.wch (c := c) (f := 3) (by omega) (by omega) (by omega) (by omega) (YOk.t4 hY) (YOk.t5 hY) _
          have hFq8 : okG M (up2 Mq7 (1 + 20 + 3 * c) 3 v) := hGq7.tr (Fr.up (y := 1) _ (by omega))
          refine v_iload C 0 dX9_set_117 rfl ?_
          have hS : setS Y (nI c) (nI 3) v = (0, toldS Y n c 3, upd Y (7 + 6 * c + 3) v) := by unfold setS; (try rw [nI_clamp (by omega)]); (try rw [nI_clamp (by omega)]); (try rw [nI_clamp (by omega)]); (rw [if_neg (show ¬ nI 3 = 0 by decide), if_pos (show nI 3 = nI 3 from rfl)]); (first | rw [if_neg h_5] | rw [if_pos (Decidable.not_not.mp h_5)] | rw [if_pos h_5] | rw [if_pos (congrArg nI h_5)] | rw [if_neg (fun q9 => h_5 ((nI_eq (by omega) (by omega)).mp q9))] | rw [if_neg (Nat.not_le.mpr h_5)] | rw [if_neg (Nat.not_lt.mpr h_5)] | skip); (first | rw [if_neg hqq] | rw [if_pos (Decidable.not_not.mp hqq)] | rw [if_pos hqq] | rw [if_pos (congrArg nI hqq)] | rw [if_neg (fun q9 => hqq ((nI_eq (by omega) (by omega)).mp q9))] | rw [if_neg (Nat.not_le.mpr hqq)] | rw [if_neg (Nat.not_lt.mpr hqq)] | skip); (first | rw [if_neg h_26] | rw [if_pos (Decidable.not_not.mp h_26)] | rw [if_pos h_26] | rw [if_pos (congrArg nI h_26)] | rw [if_neg (fun q9 => h_26 ((nI_eq (by omega) (by omega)).mp q9))] | rw [if_neg (Nat.not_le.mpr h_26)] | rw [if_neg (Nat.not_lt.mpr h_26)] | skip); all_goals rfl
          exact n_iret C hRt (rfl) dX9_set_119 (by rw [hS] <;> rfl) (by rw [hS]; exact pc_ok hRq8 hFq8)
        · skip
          refine v_aload_n C 0 dX9_set_29 rfl ?_
          refine v_iconst C (nI 1) dX9_set_30 (by decide) ?_
          refine n_callVi C hRm [.int (nI 1)] cw_X9_error ml_X9_58 (by decide) (show shp 0 = 9 from by decide +kernel) (by decide) rfl (c_error l G M 1 (by decide)) (by decide) rfl rfl (Nat.le_of_ble_eq_true rfl) dX9_set_31 (fun M5 hP_31 => ?_)
          subst hP_31
          have hS : setS Y (nI c) (nI 3) v = er 1 Y := by unfold setS; (try rw [nI_clamp (by omega)]); (try rw [nI_clamp (by omega)]); (try rw [nI_clamp (by omega)]); (rw [if_neg (show ¬ nI 3 = 0 by decide), if_pos (show nI 3 = nI 3 from rfl)]); (first | rw [if_neg h_5] | rw [if_pos (Decidable.not_not.mp h_5)] | rw [if_pos h_5] | rw [if_pos (congrArg nI h_5)] | rw [if_neg (fun q9 => h_5 ((nI_eq (by omega) (by omega)).mp q9))] | rw [if_neg (Nat.not_le.mpr h_5)] | rw [if_neg (Nat.not_lt.mpr h_5)] | skip); (first | rw [if_neg hqq] | rw [if_pos (Decidable.not_not.mp hqq)] | rw [if_pos hqq] | rw [if_pos (congrArg nI hqq)] | rw [if_neg (fun q9 => hqq ((nI_eq (by omega) (by omega)).mp q9))] | rw [if_neg (Nat.not_le.mpr hqq)] | rw [if_neg (Nat.not_lt.mpr hqq)] | skip); (first | rw [if_neg h_26] | rw [if_pos (Decidable.not_not.mp h_26)] | rw [if_pos h_26] | rw [if_pos (congrArg nI h_26)] | rw [if_neg (fun q9 => h_26 ((nI_eq (by omega) (by omega)).mp q9))] | rw [if_neg (Nat.not_le.mpr h_26)] | rw [if_neg (Nat.not_lt.mpr h_26)] | skip); all_goals rfl
          exact n_iret C hRt (rfl) dX9_set_34 (by rw [hS] <;> rfl) (by rw [hS]; exact pc_er hR (okG.rf M) (show (1 : Nat) ≠ 0 by decide))
set_option maxHeartbeats 4000000 in
set_option maxRecDepth 100000 in
theorem x_heapIs (l : Launch) (G : GC) (M : Mm) (Y : Nat → Int32) (n hN : Nat) (hR : YR M 1 Y n hN) (hY : YOk Y n hN) (hI : yI Y n) (hJ : yJ Y n) (heap what : Int32) : CI l G 3 yX9_heapIs cX9_heapIs 4 .int [.ref (gb G + 0), .int heap, .int what] M ((heapIsS Y n heap what).2.1) (PubC M (heapIsS Y n heap what).2.2 n hN (heapIsS Y n heap what).1) := by
  refine Con.of (by decide +kernel) (Nat.le_of_ble_eq_true rfl) ?_
  intro f C hRm hRt _
  have hn2 := hY.1.2.1
  have h5 := hY.1.2.2.2
  show Vc f G NPh M 0 [(0, .ref (gb G + 0)), (1, .int heap), (2, .int what)] []
  refine v_aload_n C 0 dX9_heapIs_0 rfl ?_
  refine v_iload_n C 1 dX9_heapIs_1 rfl ?_
  refine n_callVp C hRm [.int heap] cw_X9_noHeap ml_X9_116 (by decide) (show shp 0 = 9 from by decide +kernel) (by decide) rfl (c_noHeap l G M Y _ _ hR hY heap) (by decide) rfl rfl (Nat.le_of_ble_eq_true rfl) dX9_heapIs_2 ?_
  refine nb_if_eq C 14 dX9_heapIs_5 rfl (fun h_5 => ?_) (fun h_5 => ?_)
  · skip
    obtain ⟨h, hh, rfl⟩ := is_nat hY.1.2.2.1 (by omega) (Decidable.not_not.mp h_5)
    refine v_aload_n C 0 dX9_heapIs_14 rfl ?_
    refine g_X9_10 C (by decide) (show shp 0 = 9 from by decide +kernel) dX9_heapIs_15 ?_
    refine g_X9_104 C (by decide) (s_y (by decide)) dX9_heapIs_18 ?_
    refine v_iload_n C 1 dX9_heapIs_21 rfl ?_
    refine v_aald C rfl (by decide) (show shp 3 = 21 from by decide +kernel) (by decide) (by decide) (show h < 5 from by omega) (by decide) (1 + 50 + h) (by simp only [aOff] <;> omega) dX9_heapIs_22 ?_
    refine v_astore_n C [(3, .ref (gb G + (1 + 50 + h))), (0, .ref (gb G + 0)), (1, .int (nI h)), (2, .int what)] dX9_heapIs_23 rfl (by decide) rfl ?_
    refine v_iload_n C 3 dX9_heapIs_24 rfl ?_
    by_cases hw : nI 0 ≤ what ∧ what ≤ nI 4
    · obtain ⟨q, hq, rfl⟩ := within_nat (by decide) hw
      rcases (show q = 0 ∨ q = 1 ∨ q = 2 ∨ q = 3 ∨ q = 4 by omega) with h_0 | h_0 | h_0 | h_0 | h_0
      · subst h_0
        refine v_tableIn (off := 35) C 60 dX9_heapIs_25 (by decide +kernel) (by decide +kernel) (by decide +kernel) rfl ?_
        refine v_aload_n C 0 dX9_heapIs_60 rfl ?_
        refine g_X9_108 C (show 1 + 50 + h < 221 from by omega) (s_hp (by decide) (by omega)) dX9_heapIs_61 ?_
        refine v_top (Y (167 + 4 * h + 0)) ((hR.hp (by omega)).1) ?_
        have hS : heapIsS Y n (nI h) (nI 0) = (0, Y (167 + 4 * h + 0), Y) := by unfold heapIsS; (try rw [nI_clamp (by omega)]); (try rw [nI_clamp (by omega)]); (try rw [nI_clamp (by omega)]); (rw [if_pos (show nI 0 ≤ nI 0 ∧ nI 0 ≤ nI 4 by decide), if_neg (show ¬ nI 3 ≤ nI 0 by decide)]); (first | rw [if_neg h_5] | rw [if_pos (Decidable.not_not.mp h_5)] | rw [if_pos h_5] | rw [if_pos (congrArg nI h_5)] | rw [if_neg (fun q9 => h_5 ((nI_eq (by omega) (by omega)).mp q9))] | rw [if_neg (Nat.not_le.mpr h_5)] | rw [if_neg (Nat.not_lt.mpr h_5)] | skip); all_goals rfl
        exact n_iret C hRt (rfl) dX9_heapIs_64 (by rw [hS] <;> rfl) (by rw [hS]; exact pc_ok hR (okG.rf M))
      · subst h_0
        refine v_tableIn (off := 40) C 65 dX9_heapIs_25 (by decide +kernel) (by decide +kernel) (by decide +kernel) rfl ?_
        refine v_aload_n C 0 dX9_heapIs_65 rfl ?_
        refine g_X9_113 C (show 1 + 50 + h < 221 from by omega) (s_hp (by decide) (by omega)) dX9_heapIs_66 ?_
        refine v_top (Y (167 + 4 * h + 1)) ((hR.hp (by omega)).2.1) ?_
        have hS : heapIsS Y n (nI h) (nI 1) = (0, Y (167 + 4 * h + 1), Y) := by unfold heapIsS; (try rw [nI_clamp (by omega)]); (try rw [nI_clamp (by omega)]); (try rw [nI_clamp (by omega)]); (rw [if_pos (show nI 0 ≤ nI 1 ∧ nI 1 ≤ nI 4 by decide), if_neg (show ¬ nI 3 ≤ nI 1 by decide)]); (first | rw [if_neg h_5] | rw [if_pos (Decidable.not_not.mp h_5)] | rw [if_pos h_5] | rw [if_pos (congrArg nI h_5)] | rw [if_neg (fun q9 => h_5 ((nI_eq (by omega) (by omega)).mp q9))] | rw [if_neg (Nat.not_le.mpr h_5)] | rw [if_neg (Nat.not_lt.mpr h_5)] | skip); all_goals rfl
        exact n_iret C hRt (rfl) dX9_heapIs_69 (by rw [hS] <;> rfl) (by rw [hS]; exact pc_ok hR (okG.rf M))
      · subst h_0
        refine v_tableIn (off := 45) C 70 dX9_heapIs_25 (by decide +kernel) (by decide +kernel) (by decide +kernel) rfl ?_
        refine v_aload_n C 0 dX9_heapIs_70 rfl ?_
        refine g_X9_119 C (show 1 + 50 + h < 221 from by omega) (s_hp (by decide) (by omega)) dX9_heapIs_71 ?_
        refine v_top (Y (167 + 4 * h + 2)) ((hR.hp (by omega)).2.2.2.trans (if_pos (by omega))) ?_
        have hS : heapIsS Y n (nI h) (nI 2) = (0, Y (167 + 4 * h + 2), Y) := by unfold heapIsS; (try rw [nI_clamp (by omega)]); (try rw [nI_clamp (by omega)]); (try rw [nI_clamp (by omega)]); (rw [if_pos (show nI 0 ≤ nI 2 ∧ nI 2 ≤ nI 4 by decide), if_neg (show ¬ nI 3 ≤ nI 2 by decide)]); (first | rw [if_neg h_5] | rw [if_pos (Decidable.not_not.mp h_5)] | rw [if_pos h_5] | rw [if_pos (congrArg nI h_5)] | rw [if_neg (fun q9 => h_5 ((nI_eq (by omega) (by omega)).mp q9))] | rw [if_neg (Nat.not_le.mpr h_5)] | rw [if_neg (Nat.not_lt.mpr h_5)] | skip); all_goals rfl
        exact n_iret C hRt (rfl) dX9_heapIs_74 (by rw [hS] <;> rfl) (by rw [hS]; exact pc_ok hR (okG.rf M))
      · subst h_0
        refine v_tableIn (off := 50) C 75 dX9_heapIs_25 (by decide +kernel) (by decide +kernel) (by decide +kernel) rfl ?_
        refine v_aload_n C 0 dX9_heapIs_75 rfl ?_
        refine g_X9_122 C (show 1 + 50 + h < 221 from by omega) (s_hp (by decide) (by omega)) dX9_heapIs_76 ?_
        refine v_top (nI (mskA Y (nI h) n)) (hR.ins (by omega)) ?_
        refine v_top (inA Y (nI h) n) ((inA_msk Y (nI h) n hn2).symm) ?_
        have hS : heapIsS Y n (nI h) (nI 3) = (0, inA Y (nI h) n, Y) := by unfold heapIsS; (try rw [nI_clamp (by omega)]); (try rw [nI_clamp (by omega)]); (try rw [nI_clamp (by omega)]); (rw [if_pos (show nI 0 ≤ nI 3 ∧ nI 3 ≤ nI 4 by decide), if_pos (show nI 3 ≤ nI 3 by decide), if_pos (show nI 3 = nI 3 from rfl)]); (first | rw [if_neg h_5] | rw [if_pos (Decidable.not_not.mp h_5)] | rw [if_pos h_5] | rw [if_pos (congrArg nI h_5)] | rw [if_neg (fun q9 => h_5 ((nI_eq (by omega) (by omega)).mp q9))] | rw [if_neg (Nat.not_le.mpr h_5)] | rw [if_neg (Nat.not_lt.mpr h_5)] | skip); all_goals rfl
        exact n_iret C hRt (rfl) dX9_heapIs_79 (by rw [hS] <;> rfl) (by rw [hS]; exact pc_ok hR (okG.rf M))
      · subst h_0
        refine v_tableIn (off := 55) C 80 dX9_heapIs_25 (by decide +kernel) (by decide +kernel) (by decide +kernel) rfl ?_
        refine v_aload_n C 0 dX9_heapIs_80 rfl ?_
        refine g_X9_125 C (show 1 + 50 + h < 221 from by omega) (s_hp (by decide) (by omega)) dX9_heapIs_81 ?_
        refine v_top (Y (167 + 4 * h + 3)) ((hR.hp (by omega)).2.2.1) ?_
        have hS : heapIsS Y n (nI h) (nI 4) = (0, Y (167 + 4 * h + 3), Y) := by unfold heapIsS; (try rw [nI_clamp (by omega)]); (try rw [nI_clamp (by omega)]); (try rw [nI_clamp (by omega)]); (rw [if_pos (show nI 0 ≤ nI 4 ∧ nI 4 ≤ nI 4 by decide), if_pos (show nI 3 ≤ nI 4 by decide), if_neg (show ¬ nI 4 = nI 3 by decide)]); (first | rw [if_neg h_5] | rw [if_pos (Decidable.not_not.mp h_5)] | rw [if_pos h_5] | rw [if_pos (congrArg nI h_5)] | rw [if_neg (fun q9 => h_5 ((nI_eq (by omega) (by omega)).mp q9))] | rw [if_neg (Nat.not_le.mpr h_5)] | rw [if_neg (Nat.not_lt.mpr h_5)] | skip); all_goals rfl
        exact n_iret C hRt (rfl) dX9_heapIs_84 (by rw [hS] <;> rfl) (by rw [hS]; exact pc_ok hR (okG.rf M))
    · skip
      refine v_tableOut C 85 dX9_heapIs_25 (tsw_out (by decide) hw) rfl ?_
      refine v_aload_n C 1 dX9_heapIs_85 rfl ?_
      refine v_iconst C (nI 1) dX9_heapIs_86 (by decide) ?_
      refine n_callVi C hRm [.int (nI 1)] cw_X9_error ml_X9_58 (by decide) (show shp 0 = 9 from by decide +kernel) (by decide) rfl (c_error l G M 1 (by decide)) (by decide) rfl rfl (Nat.le_of_ble_eq_true rfl) dX9_heapIs_87 (fun M5 hP_87 => ?_)
      subst hP_87
      have hS : heapIsS Y n (nI h) what = er 1 Y := by unfold heapIsS; (try rw [nI_clamp (by omega)]); (try rw [nI_clamp (by omega)]); (try rw [nI_clamp (by omega)]); (first | rw [if_neg h_5] | rw [if_pos (Decidable.not_not.mp h_5)] | rw [if_pos h_5] | rw [if_pos (congrArg nI h_5)] | rw [if_neg (fun q9 => h_5 ((nI_eq (by omega) (by omega)).mp q9))] | rw [if_neg (Nat.not_le.mpr h_5)] | rw [if_neg (Nat.not_lt.mpr h_5)] | skip); (first | rw [if_neg hw] | rw [if_pos (Decidable.not_not.mp hw)] | rw [if_pos hw] | rw [if_pos (congrArg nI hw)] | rw [if_neg (fun q9 => hw ((nI_eq (by omega) (by omega)).mp q9))] | rw [if_neg (Nat.not_le.mpr hw)] | rw [if_neg (Nat.not_lt.mpr hw)] | skip); all_goals rfl
      exact n_iret C hRt (rfl) dX9_heapIs_90 (by rw [hS] <;> rfl) (by rw [hS]; exact pc_er hR (okG.rf M) (show (1 : Nat) ≠ 0 by decide))
  · skip
    refine v_aload_n C 0 dX9_heapIs_8 rfl ?_
    refine v_iconst C (nI 1) dX9_heapIs_9 (by decide) ?_
    refine n_callVi C hRm [.int (nI 1)] cw_X9_error ml_X9_58 (by decide) (show shp 0 = 9 from by decide +kernel) (by decide) rfl (c_error l G M 1 (by decide)) (by decide) rfl rfl (Nat.le_of_ble_eq_true rfl) dX9_heapIs_10 (fun M5 hP_10 => ?_)
    subst hP_10
    have hS : heapIsS Y n heap what = er 1 Y := by unfold heapIsS; (try rw [nI_clamp (by omega)]); (try rw [nI_clamp (by omega)]); (try rw [nI_clamp (by omega)]); (first | rw [if_neg h_5] | rw [if_pos (Decidable.not_not.mp h_5)] | rw [if_pos h_5] | rw [if_pos (congrArg nI h_5)] | rw [if_neg (fun q9 => h_5 ((nI_eq (by omega) (by omega)).mp q9))] | rw [if_neg (Nat.not_le.mpr h_5)] | rw [if_neg (Nat.not_lt.mpr h_5)] | skip); all_goals rfl
    exact n_iret C hRt (rfl) dX9_heapIs_13 (by rw [hS] <;> rfl) (by rw [hS]; exact pc_er hR (okG.rf M) (show (1 : Nat) ≠ 0 by decide))
set_option maxHeartbeats 4000000 in
set_option maxRecDepth 100000 in
theorem x_join (l : Launch) (G : GC) (M : Mm) (Y : Nat → Int32) (n hN : Nat) (hR : YR M 1 Y n hN) (hY : YOk Y n hN) (hI : yI Y n) (hJ : yJ Y n) (child heap : Int32) : CI l G 6 yX9_join cX9_join 3 .int [.ref (gb G + 0), .int child, .int heap] M ((joinS Y n hN child heap).2.1) (PubC M (joinS Y n hN child heap).2.2 n hN (joinS Y n hN child heap).1) := by
  refine Con.of (by decide +kernel) (Nat.le_of_ble_eq_true rfl) ?_
  intro f C hRm hRt _
  have hn2 := hY.1.2.1
  have h5 := hY.1.2.2.2
  show Vc f G NPh M 0 [(0, .ref (gb G + 0)), (1, .int child), (2, .int heap)] []
  refine v_aload_n C 0 dX9_join_0 rfl ?_
  refine v_iload_n C 1 dX9_join_1 rfl ?_
  refine n_callVp C hRm [.int child] cw_X9_noChild ml_X9_84 (by decide) (show shp 0 = 9 from by decide +kernel) (by decide) rfl (c_noChild l G M Y _ _ hR hY child) (by decide) rfl rfl (Nat.le_of_ble_eq_true rfl) dX9_join_2 ?_
  refine nb_if_ne C 16 dX9_join_5 rfl (fun h_5 => ?_) (fun h_5 => ?_)
  · skip
    refine v_aload_n C 0 dX9_join_16 rfl ?_
    refine v_iconst C (nI 1) dX9_join_17 (by decide) ?_
    refine n_callVi C hRm [.int (nI 1)] cw_X9_error ml_X9_58 (by decide) (show shp 0 = 9 from by decide +kernel) (by decide) rfl (c_error l G M 1 (by decide)) (by decide) rfl rfl (Nat.le_of_ble_eq_true rfl) dX9_join_18 (fun M5 hP_18 => ?_)
    subst hP_18
    have hS : joinS Y n hN child heap = er 1 Y := by unfold joinS; (try rw [nI_clamp (by omega)]); (try rw [nI_clamp (by omega)]); (try rw [nI_clamp (by omega)]); (first | rw [if_neg h_5] | rw [if_pos (Decidable.not_not.mp h_5)] | rw [if_pos h_5] | rw [if_pos (congrArg nI h_5)] | rw [if_neg (fun q9 => h_5 ((nI_eq (by omega) (by omega)).mp q9))] | rw [if_neg (Nat.not_le.mpr h_5)] | rw [if_neg (Nat.not_lt.mpr h_5)] | skip); all_goals rfl
    exact n_iret C hRt (rfl) dX9_join_21 (by rw [hS] <;> rfl) (by rw [hS]; exact pc_er hR (okG.rf M) (show (1 : Nat) ≠ 0 by decide))
  · skip
    obtain ⟨c, hc, rfl⟩ := is_nat hY.1.1 hY.1.2.1 (Decidable.not_not.mp h_5)
    refine v_aload_n C 0 dX9_join_8 rfl ?_
    refine v_iload_n C 2 dX9_join_9 rfl ?_
    refine n_callVp C hRm [.int heap] cw_X9_noHeap ml_X9_116 (by decide) (show shp 0 = 9 from by decide +kernel) (by decide) rfl (c_noHeap l G M Y _ _ hR hY heap) (by decide) rfl rfl (Nat.le_of_ble_eq_true rfl) dX9_join_10 ?_
    refine nb_if_eq C 22 dX9_join_13 rfl (fun h_13 => ?_) (fun h_13 => ?_)
    · skip
      obtain ⟨h, hh, rfl⟩ := is_nat hY.1.2.2.1 (by omega) (Decidable.not_not.mp h_13)
      refine v_aload_n C 0 dX9_join_22 rfl ?_
      refine g_X9_10 C (by decide) (show shp 0 = 9 from by decide +kernel) dX9_join_23 ?_
      refine g_X9_66 C (by decide) (s_y (by decide)) dX9_join_26 ?_
      refine v_iload_n C 1 dX9_join_29 rfl ?_
      refine v_aald C rfl (by decide) (show shp 2 = 20 from by decide +kernel) (by decide) (by decide) (show c < 10 from by omega) (by decide) (1 + 20 + 3 * c) (by simp only [aOff] <;> omega) dX9_join_30 ?_
      refine g_X9_128 C (show 1 + 20 + 3 * c < 221 from by omega) (s_ch (by decide) (by omega)) dX9_join_31 ?_
      refine v_top (Y (7 + 6 * c + 4)) (hR.at (by omega) (by omega)) ?_
      refine v_iload_n C 2 dX9_join_34 rfl ?_
      refine v_icmp_ne C 44 dX9_join_35 rfl (fun h_35 => ?_) (fun h_35 => ?_)
      · skip
        refine v_aload_n C 0 dX9_join_44 rfl ?_
        refine g_X9_10 C (by decide) (show shp 0 = 9 from by decide +kernel) dX9_join_45 ?_
        refine v_iload_n C 1 dX9_join_48 rfl ?_
        refine v_iload_n C 2 dX9_join_49 rfl ?_
        refine n_callVv C hRm [.int (nI c), .int (nI h)] cw_X8_place ml_X9_131 (by decide) (s_y (by decide)) (by decide) rfl (y_place l G M 1 (by decide) Y _ _ hR hY hI.1 c hc (nI h) (Or.inr ⟨h, hh, rfl⟩) h_35) (by decide) rfl rfl (Nat.le_of_ble_eq_true rfl) dX9_join_50 (fun Mq1 hP_50 => ?_)
        obtain ⟨hRq1, hFq1⟩ := hP_50
        have hGq1 := (okG.rf M).tr hFq1
        refine v_aload_n C 0 dX9_join_53 rfl ?_
        refine g_X9_10 C (by decide) (show shp 0 = 9 from by decide +kernel) dX9_join_54 ?_
        refine g_X9_104 C (by decide) (s_y (by decide)) dX9_join_57 ?_
        refine v_iload_n C 2 dX9_join_60 rfl ?_
        refine v_aald C rfl (by decide) (show shp 3 = 21 from by decide +kernel) (by decide) (by decide) (show h < 5 from by omega) (by decide) (1 + 50 + h) (by simp only [aOff] <;> omega) dX9_join_61 ?_
        refine n_callVp C hRm [] cw_X2_size ml_X9_135 (show 1 + 50 + h < 221 from by omega) (s_hp (by decide) (by omega)) (by decide) rfl (y_size l G Mq1 1 (by decide) (goesS Y n hN c (nI h)) _ _ hRq1 hn2 h (by omega)) (by decide) rfl rfl (Nat.le_of_ble_eq_true rfl) dX9_join_62 ?_
        have hS : joinS Y n hN (nI c) (nI h) = (0, nI (popA (goesS Y n hN c (nI h)) n (nI h)), goesS Y n hN c (nI h)) := by unfold joinS; (try rw [nI_clamp (by omega)]); (try rw [nI_clamp (by omega)]); (try rw [nI_clamp (by omega)]); (first | rw [if_neg h_5] | rw [if_pos (Decidable.not_not.mp h_5)] | rw [if_pos h_5] | rw [if_pos (congrArg nI h_5)] | rw [if_neg (fun q9 => h_5 ((nI_eq (by omega) (by omega)).mp q9))] | rw [if_neg (Nat.not_le.mpr h_5)] | rw [if_neg (Nat.not_lt.mpr h_5)] | skip); (first | rw [if_neg h_13] | rw [if_pos (Decidable.not_not.mp h_13)] | rw [if_pos h_13] | rw [if_pos (congrArg nI h_13)] | rw [if_neg (fun q9 => h_13 ((nI_eq (by omega) (by omega)).mp q9))] | rw [if_neg (Nat.not_le.mpr h_13)] | rw [if_neg (Nat.not_lt.mpr h_13)] | skip); (first | rw [if_neg h_35] | rw [if_pos (Decidable.not_not.mp h_35)] | rw [if_pos h_35] | rw [if_pos (congrArg nI h_35)] | rw [if_neg (fun q9 => h_35 ((nI_eq (by omega) (by omega)).mp q9))] | rw [if_neg (Nat.not_le.mpr h_35)] | rw [if_neg (Nat.not_lt.mpr h_35)] | skip); all_goals rfl
        exact n_iret C hRt (rfl) dX9_join_65 (by rw [hS] <;> rfl) (by rw [hS]; exact pc_ok hRq1 hGq1)
      · skip
        refine v_aload_n C 0 dX9_join_38 rfl ?_
        refine v_iconst C (nI 3) dX9_join_39 (by decide) ?_
        refine n_callVi C hRm [.int (nI 3)] cw_X9_error ml_X9_58 (by decide) (show shp 0 = 9 from by decide +kernel) (by decide) rfl (c_error l G M 3 (by decide)) (by decide) rfl rfl (Nat.le_of_ble_eq_true rfl) dX9_join_40 (fun M5 hP_40 => ?_)
        subst hP_40
        have hS : joinS Y n hN (nI c) (nI h) = er 3 Y := by unfold joinS; (try rw [nI_clamp (by omega)]); (try rw [nI_clamp (by omega)]); (try rw [nI_clamp (by omega)]); (first | rw [if_neg h_5] | rw [if_pos (Decidable.not_not.mp h_5)] | rw [if_pos h_5] | rw [if_pos (congrArg nI h_5)] | rw [if_neg (fun q9 => h_5 ((nI_eq (by omega) (by omega)).mp q9))] | rw [if_neg (Nat.not_le.mpr h_5)] | rw [if_neg (Nat.not_lt.mpr h_5)] | skip); (first | rw [if_neg h_13] | rw [if_pos (Decidable.not_not.mp h_13)] | rw [if_pos h_13] | rw [if_pos (congrArg nI h_13)] | rw [if_neg (fun q9 => h_13 ((nI_eq (by omega) (by omega)).mp q9))] | rw [if_neg (Nat.not_le.mpr h_13)] | rw [if_neg (Nat.not_lt.mpr h_13)] | skip); (first | rw [if_neg h_35] | rw [if_pos (Decidable.not_not.mp h_35)] | rw [if_pos h_35] | rw [if_pos (congrArg nI h_35)] | rw [if_neg (fun q9 => h_35 ((nI_eq (by omega) (by omega)).mp q9))] | rw [if_neg (Nat.not_le.mpr h_35)] | rw [if_neg (Nat.not_lt.mpr h_35)] | skip); all_goals rfl
        exact n_iret C hRt (rfl) dX9_join_43 (by rw [hS] <;> rfl) (by rw [hS]; exact pc_er hR (okG.rf M) (show (3 : Nat) ≠ 0 by decide))
    · skip
      refine v_aload_n C 0 dX9_join_16 rfl ?_
      refine v_iconst C (nI 1) dX9_join_17 (by decide) ?_
      refine n_callVi C hRm [.int (nI 1)] cw_X9_error ml_X9_58 (by decide) (show shp 0 = 9 from by decide +kernel) (by decide) rfl (c_error l G M 1 (by decide)) (by decide) rfl rfl (Nat.le_of_ble_eq_true rfl) dX9_join_18 (fun M5 hP_18 => ?_)
      subst hP_18
      have hS : joinS Y n hN (nI c) heap = er 1 Y := by unfold joinS; (try rw [nI_clamp (by omega)]); (try rw [nI_clamp (by omega)]); (try rw [nI_clamp (by omega)]); (first | rw [if_neg h_5] | rw [if_pos (Decidable.not_not.mp h_5)] | rw [if_pos h_5] | rw [if_pos (congrArg nI h_5)] | rw [if_neg (fun q9 => h_5 ((nI_eq (by omega) (by omega)).mp q9))] | rw [if_neg (Nat.not_le.mpr h_5)] | rw [if_neg (Nat.not_lt.mpr h_5)] | skip); (first | rw [if_neg h_13] | rw [if_pos (Decidable.not_not.mp h_13)] | rw [if_pos h_13] | rw [if_pos (congrArg nI h_13)] | rw [if_neg (fun q9 => h_13 ((nI_eq (by omega) (by omega)).mp q9))] | rw [if_neg (Nat.not_le.mpr h_13)] | rw [if_neg (Nat.not_lt.mpr h_13)] | skip); all_goals rfl
      exact n_iret C hRt (rfl) dX9_join_21 (by rw [hS] <;> rfl) (by rw [hS]; exact pc_er hR (okG.rf M) (show (1 : Nat) ≠ 0 by decide))
set_option maxHeartbeats 4000000 in
set_option maxRecDepth 100000 in
theorem x_leave (l : Launch) (G : GC) (M : Mm) (Y : Nat → Int32) (n hN : Nat) (hR : YR M 1 Y n hN) (hY : YOk Y n hN) (hI : yI Y n) (hJ : yJ Y n) (child : Int32) : CI l G 6 yX9_leave cX9_leave 3 .int [.ref (gb G + 0), .int child] M ((leaveS Y n hN child).2.1) (PubC M (leaveS Y n hN child).2.2 n hN (leaveS Y n hN child).1) := by
  refine Con.of (by decide +kernel) (Nat.le_of_ble_eq_true rfl) ?_
  intro f C hRm hRt _
  have hn2 := hY.1.2.1
  have h5 := hY.1.2.2.2
  show Vc f G NPh M 0 [(0, .ref (gb G + 0)), (1, .int child)] []
  refine v_aload_n C 0 dX9_leave_0 rfl ?_
  refine v_iload_n C 1 dX9_leave_1 rfl ?_
  refine n_callVp C hRm [.int child] cw_X9_noChild ml_X9_84 (by decide) (show shp 0 = 9 from by decide +kernel) (by decide) rfl (c_noChild l G M Y _ _ hR hY child) (by decide) rfl rfl (Nat.le_of_ble_eq_true rfl) dX9_leave_2 ?_
  refine nb_if_eq C 14 dX9_leave_5 rfl (fun h_5 => ?_) (fun h_5 => ?_)
  · skip
    obtain ⟨c, hc, rfl⟩ := is_nat hY.1.1 hY.1.2.1 (Decidable.not_not.mp h_5)
    refine v_aload_n C 0 dX9_leave_14 rfl ?_
    refine g_X9_10 C (by decide) (show shp 0 = 9 from by decide +kernel) dX9_leave_15 ?_
    refine g_X9_66 C (by decide) (s_y (by decide)) dX9_leave_18 ?_
    refine v_iload_n C 1 dX9_leave_21 rfl ?_
    refine v_aald C rfl (by decide) (show shp 2 = 20 from by decide +kernel) (by decide) (by decide) (show c < 10 from by omega) (by decide) (1 + 20 + 3 * c) (by simp only [aOff] <;> omega) dX9_leave_22 ?_
    refine g_X9_128 C (show 1 + 20 + 3 * c < 221 from by omega) (s_ch (by decide) (by omega)) dX9_leave_23 ?_
    refine v_top (Y (7 + 6 * c + 4)) (hR.at (by omega) (by omega)) ?_
    refine v_istore_n C [(2, .int (Y (7 + 6 * c + 4))), (0, .ref (gb G + 0)), (1, .int (nI c))] dX9_leave_26 rfl (by decide) rfl ?_
    refine v_iload_n C 0 dX9_leave_27 rfl ?_
    refine v_iconst C (-1) dX9_leave_28 (by decide) ?_
    refine v_icmp_ne C 38 dX9_leave_29 rfl (fun h_29 => ?_) (fun h_29 => ?_)
    · skip
      refine v_aload_n C 1 dX9_leave_38 rfl ?_
      refine g_X9_10 C (by decide) (show shp 0 = 9 from by decide +kernel) dX9_leave_39 ?_
      refine v_iload_n C 2 dX9_leave_42 rfl ?_
      refine v_iconst C (-1) dX9_leave_43 (by decide) ?_
      refine n_callVv C hRm [.int (nI c), .int (-1)] cw_X8_place ml_X9_131 (by decide) (s_y (by decide)) (by decide) rfl (y_place l G M 1 (by decide) Y _ _ hR hY hI.1 c hc (-1) (Or.inl rfl) h_29) (by decide) rfl rfl (Nat.le_of_ble_eq_true rfl) dX9_leave_44 (fun Mq1 hP_44 => ?_)
      obtain ⟨hRq1, hFq1⟩ := hP_44
      have hGq1 := (okG.rf M).tr hFq1
      refine v_iload_n C 0 dX9_leave_47 rfl ?_
      have hS : leaveS Y n hN (nI c) = (0, Y (7 + 6 * c + 4), goesS Y n hN c (-1)) := by unfold leaveS; (try rw [nI_clamp (by omega)]); (try rw [nI_clamp (by omega)]); (try rw [nI_clamp (by omega)]); (first | rw [if_neg h_5] | rw [if_pos (Decidable.not_not.mp h_5)] | rw [if_pos h_5] | rw [if_pos (congrArg nI h_5)] | rw [if_neg (fun q9 => h_5 ((nI_eq (by omega) (by omega)).mp q9))] | rw [if_neg (Nat.not_le.mpr h_5)] | rw [if_neg (Nat.not_lt.mpr h_5)] | skip); (rw [if_pos (at_nn hY hc h_29)]); all_goals rfl
      exact n_iret C hRt (rfl) dX9_leave_48 (by rw [hS] <;> rfl) (by rw [hS]; exact pc_ok hRq1 hGq1)
    · skip
      refine v_aload_n C 1 dX9_leave_32 rfl ?_
      refine v_iconst C (nI 3) dX9_leave_33 (by decide) ?_
      refine n_callVi C hRm [.int (nI 3)] cw_X9_error ml_X9_58 (by decide) (show shp 0 = 9 from by decide +kernel) (by decide) rfl (c_error l G M 3 (by decide)) (by decide) rfl rfl (Nat.le_of_ble_eq_true rfl) dX9_leave_34 (fun M5 hP_34 => ?_)
      subst hP_34
      have hS : leaveS Y n hN (nI c) = er 3 Y := by unfold leaveS; (try rw [nI_clamp (by omega)]); (try rw [nI_clamp (by omega)]); (try rw [nI_clamp (by omega)]); (first | rw [if_neg h_5] | rw [if_pos (Decidable.not_not.mp h_5)] | rw [if_pos h_5] | rw [if_pos (congrArg nI h_5)] | rw [if_neg (fun q9 => h_5 ((nI_eq (by omega) (by omega)).mp q9))] | rw [if_neg (Nat.not_le.mpr h_5)] | rw [if_neg (Nat.not_lt.mpr h_5)] | skip); (rw [if_neg (by rw [h_29]; decide)]); all_goals rfl
      exact n_iret C hRt (rfl) dX9_leave_37 (by rw [hS] <;> rfl) (by rw [hS]; exact pc_er hR (okG.rf M) (show (3 : Nat) ≠ 0 by decide))
  · skip
    refine v_aload_n C 0 dX9_leave_8 rfl ?_
    refine v_iconst C (nI 1) dX9_leave_9 (by decide) ?_
    refine n_callVi C hRm [.int (nI 1)] cw_X9_error ml_X9_58 (by decide) (show shp 0 = 9 from by decide +kernel) (by decide) rfl (c_error l G M 1 (by decide)) (by decide) rfl rfl (Nat.le_of_ble_eq_true rfl) dX9_leave_10 (fun M5 hP_10 => ?_)
    subst hP_10
    have hS : leaveS Y n hN child = er 1 Y := by unfold leaveS; (try rw [nI_clamp (by omega)]); (try rw [nI_clamp (by omega)]); (try rw [nI_clamp (by omega)]); (first | rw [if_neg h_5] | rw [if_pos (Decidable.not_not.mp h_5)] | rw [if_pos h_5] | rw [if_pos (congrArg nI h_5)] | rw [if_neg (fun q9 => h_5 ((nI_eq (by omega) (by omega)).mp q9))] | rw [if_neg (Nat.not_le.mpr h_5)] | rw [if_neg (Nat.not_lt.mpr h_5)] | skip); all_goals rfl
    exact n_iret C hRt (rfl) dX9_leave_13 (by rw [hS] <;> rfl) (by rw [hS]; exact pc_er hR (okG.rf M) (show (1 : Nat) ≠ 0 by decide))
set_option maxHeartbeats 4000000 in
set_option maxRecDepth 100000 in
theorem x_between (l : Launch) (G : GC) (M : Mm) (Y : Nat → Int32) (n hN : Nat) (hR : YR M 1 Y n hN) (hY : YOk Y n hN) (hI : yI Y n) (hJ : yJ Y n) (child heap what : Int32) : CI l G 6 yX9_between cX9_between 4 .int [.ref (gb G + 0), .int child, .int heap, .int what] M ((betweenS Y n child heap what).2.1) (PubC M (betweenS Y n child heap what).2.2 n hN (betweenS Y n child heap what).1) := by
  refine Con.of (by decide +kernel) (Nat.le_of_ble_eq_true rfl) ?_
  intro f C hRm hRt _
  have hn2 := hY.1.2.1
  have h5 := hY.1.2.2.2
  show Vc f G NPh M 0 [(0, .ref (gb G + 0)), (1, .int child), (2, .int heap), (3, .int what)] []
  refine v_aload_n C 0 dX9_between_0 rfl ?_
  refine v_iload_n C 1 dX9_between_1 rfl ?_
  refine n_callVp C hRm [.int child] cw_X9_noChild ml_X9_84 (by decide) (show shp 0 = 9 from by decide +kernel) (by decide) rfl (c_noChild l G M Y _ _ hR hY child) (by decide) rfl rfl (Nat.le_of_ble_eq_true rfl) dX9_between_2 ?_
  refine nb_if_ne C 16 dX9_between_5 rfl (fun h_5 => ?_) (fun h_5 => ?_)
  · skip
    refine v_aload_n C 0 dX9_between_16 rfl ?_
    refine v_iconst C (nI 1) dX9_between_17 (by decide) ?_
    refine n_callVi C hRm [.int (nI 1)] cw_X9_error ml_X9_58 (by decide) (show shp 0 = 9 from by decide +kernel) (by decide) rfl (c_error l G M 1 (by decide)) (by decide) rfl rfl (Nat.le_of_ble_eq_true rfl) dX9_between_18 (fun M5 hP_18 => ?_)
    subst hP_18
    have hS : betweenS Y n child heap what = er 1 Y := by unfold betweenS; (try rw [nI_clamp (by omega)]); (try rw [nI_clamp (by omega)]); (try rw [nI_clamp (by omega)]); (first | rw [if_neg h_5] | rw [if_pos (Decidable.not_not.mp h_5)] | rw [if_pos h_5] | rw [if_pos (congrArg nI h_5)] | rw [if_neg (fun q9 => h_5 ((nI_eq (by omega) (by omega)).mp q9))] | rw [if_neg (Nat.not_le.mpr h_5)] | rw [if_neg (Nat.not_lt.mpr h_5)] | skip); all_goals rfl
    exact n_iret C hRt (rfl) dX9_between_21 (by rw [hS] <;> rfl) (by rw [hS]; exact pc_er hR (okG.rf M) (show (1 : Nat) ≠ 0 by decide))
  · skip
    obtain ⟨c, hc, rfl⟩ := is_nat hY.1.1 hY.1.2.1 (Decidable.not_not.mp h_5)
    refine v_aload_n C 0 dX9_between_8 rfl ?_
    refine v_iload_n C 2 dX9_between_9 rfl ?_
    refine n_callVp C hRm [.int heap] cw_X9_noHeap ml_X9_116 (by decide) (show shp 0 = 9 from by decide +kernel) (by decide) rfl (c_noHeap l G M Y _ _ hR hY heap) (by decide) rfl rfl (Nat.le_of_ble_eq_true rfl) dX9_between_10 ?_
    refine nb_if_eq C 22 dX9_between_13 rfl (fun h_13 => ?_) (fun h_13 => ?_)
    · skip
      obtain ⟨h, hh, rfl⟩ := is_nat hY.1.2.2.1 (by omega) (Decidable.not_not.mp h_13)
      refine v_iload_n C 3 dX9_between_22 rfl ?_
      by_cases hw : nI 0 ≤ what ∧ what ≤ nI 2
      · obtain ⟨q, hq, rfl⟩ := within_nat (by decide) hw
        rcases (show q = 0 ∨ q = 1 ∨ q = 2 by omega) with h_0 | h_0 | h_0
        · subst h_0
          refine v_tableIn (off := 25) C 48 dX9_between_23 (by decide +kernel) (by decide +kernel) (by decide +kernel) rfl ?_
          refine v_aload_n C 0 dX9_between_48 rfl ?_
          refine g_X9_10 C (by decide) (show shp 0 = 9 from by decide +kernel) dX9_between_49 ?_
          refine v_iload_n C 1 dX9_between_52 rfl ?_
          refine v_iload_n C 2 dX9_between_53 rfl ?_
          refine n_callVp C hRm [.int (nI c), .int (nI h)] cw_X8_warmth ml_X9_139 (by decide) (s_y (by decide)) (by decide) rfl (y_warmth l G M 1 (by decide) Y _ _ hR hY c h (by omega) (by omega)) (by decide) rfl rfl (Nat.le_of_ble_eq_true rfl) dX9_between_54 ?_
          have hS : betweenS Y n (nI c) (nI h) (nI 0) = (0, warmS Y n h c, Y) := by unfold betweenS; (try rw [nI_clamp (by omega)]); (try rw [nI_clamp (by omega)]); (try rw [nI_clamp (by omega)]); (rw [if_pos (show nI 0 ≤ nI 0 ∧ nI 0 ≤ nI 2 by decide), if_pos (show nI 0 = 0 by decide)]); (first | rw [if_neg h_5] | rw [if_pos (Decidable.not_not.mp h_5)] | rw [if_pos h_5] | rw [if_pos (congrArg nI h_5)] | rw [if_neg (fun q9 => h_5 ((nI_eq (by omega) (by omega)).mp q9))] | rw [if_neg (Nat.not_le.mpr h_5)] | rw [if_neg (Nat.not_lt.mpr h_5)] | skip); (first | rw [if_neg h_13] | rw [if_pos (Decidable.not_not.mp h_13)] | rw [if_pos h_13] | rw [if_pos (congrArg nI h_13)] | rw [if_neg (fun q9 => h_13 ((nI_eq (by omega) (by omega)).mp q9))] | rw [if_neg (Nat.not_le.mpr h_13)] | rw [if_neg (Nat.not_lt.mpr h_13)] | skip); all_goals rfl
          exact n_iret C hRt (rfl) dX9_between_57 (by rw [hS] <;> rfl) (by rw [hS]; exact pc_ok hR (okG.rf M))
        · subst h_0
          refine v_tableIn (off := 35) C 58 dX9_between_23 (by decide +kernel) (by decide +kernel) (by decide +kernel) rfl ?_
          refine v_aload_n C 0 dX9_between_58 rfl ?_
          refine g_X9_10 C (by decide) (show shp 0 = 9 from by decide +kernel) dX9_between_59 ?_
          refine v_iload_n C 1 dX9_between_62 rfl ?_
          refine v_iload_n C 2 dX9_between_63 rfl ?_
          refine n_callVi C hRm [.int (nI c), .int (nI h)] cw_X8_chance ml_X9_143 (by decide) (s_y (by decide)) (by decide) rfl (y_chance l G M 1 (by decide) Y _ _ hR hY c h (by omega) (by omega)) (by decide) rfl rfl (Nat.le_of_ble_eq_true rfl) dX9_between_64 (fun Mq1 hP_64 => ?_)
          obtain ⟨hRq1, hFq1⟩ := hP_64
          have hGq1 := (okG.rf M).tr hFq1
          have hS : betweenS Y n (nI c) (nI h) (nI 1) = (0, chS Y n h c, Y) := by unfold betweenS; (try rw [nI_clamp (by omega)]); (try rw [nI_clamp (by omega)]); (try rw [nI_clamp (by omega)]); (rw [if_pos (show nI 0 ≤ nI 1 ∧ nI 1 ≤ nI 2 by decide), if_neg (show ¬ nI 1 = 0 by decide), if_pos (show nI 1 = nI 1 from rfl)]); (first | rw [if_neg h_5] | rw [if_pos (Decidable.not_not.mp h_5)] | rw [if_pos h_5] | rw [if_pos (congrArg nI h_5)] | rw [if_neg (fun q9 => h_5 ((nI_eq (by omega) (by omega)).mp q9))] | rw [if_neg (Nat.not_le.mpr h_5)] | rw [if_neg (Nat.not_lt.mpr h_5)] | skip); (first | rw [if_neg h_13] | rw [if_pos (Decidable.not_not.mp h_13)] | rw [if_pos h_13] | rw [if_pos (congrArg nI h_13)] | rw [if_neg (fun q9 => h_13 ((nI_eq (by omega) (by omega)).mp q9))] | rw [if_neg (Nat.not_le.mpr h_13)] | rw [if_neg (Nat.not_lt.mpr h_13)] | skip); all_goals rfl
          exact n_iret C hRt (rfl) dX9_between_67 (by rw [hS] <;> rfl) (by rw [hS]; exact pc_ok hRq1 hGq1)
        · subst h_0
          refine v_tableIn (off := 45) C 68 dX9_between_23 (by decide +kernel) (by decide +kernel) (by decide +kernel) rfl ?_
          refine v_aload_n C 0 dX9_between_68 rfl ?_
          refine g_X9_10 C (by decide) (show shp 0 = 9 from by decide +kernel) dX9_between_69 ?_
          refine g_X9_66 C (by decide) (s_y (by decide)) dX9_between_72 ?_
          refine v_iload_n C 1 dX9_between_75 rfl ?_
          refine v_aald C rfl (by decide) (show shp 2 = 20 from by decide +kernel) (by decide) (by decide) (show c < 10 from by omega) (by decide) (1 + 20 + 3 * c) (by simp only [aOff] <;> omega) dX9_between_76 ?_
          refine g_X9_146 C (show 1 + 20 + 3 * c < 221 from by omega) (s_ch (by decide) (by omega)) dX9_between_77 ?_
          refine v_iload_n C 2 dX9_between_80 rfl ?_
          refine v_iald C (show 1 + 20 + 3 * c + 2 < 221 from by omega) (s_wt (by decide) (by omega)) (by omega) (by decide) dX9_between_81 ?_
          refine v_top (Y (187 + 5 * c + h)) (hR.wt (by omega) (by omega)) ?_
          have hS : betweenS Y n (nI c) (nI h) (nI 2) = (0, Y (187 + 5 * c + h), Y) := by unfold betweenS; (try rw [nI_clamp (by omega)]); (try rw [nI_clamp (by omega)]); (try rw [nI_clamp (by omega)]); (rw [if_pos (show nI 0 ≤ nI 2 ∧ nI 2 ≤ nI 2 by decide), if_neg (show ¬ nI 2 = 0 by decide), if_neg (show ¬ nI 2 = nI 1 by decide)]); (first | rw [if_neg h_5] | rw [if_pos (Decidable.not_not.mp h_5)] | rw [if_pos h_5] | rw [if_pos (congrArg nI h_5)] | rw [if_neg (fun q9 => h_5 ((nI_eq (by omega) (by omega)).mp q9))] | rw [if_neg (Nat.not_le.mpr h_5)] | rw [if_neg (Nat.not_lt.mpr h_5)] | skip); (first | rw [if_neg h_13] | rw [if_pos (Decidable.not_not.mp h_13)] | rw [if_pos h_13] | rw [if_pos (congrArg nI h_13)] | rw [if_neg (fun q9 => h_13 ((nI_eq (by omega) (by omega)).mp q9))] | rw [if_neg (Nat.not_le.mpr h_13)] | rw [if_neg (Nat.not_lt.mpr h_13)] | skip); all_goals rfl
          exact n_iret C hRt (rfl) dX9_between_82 (by rw [hS] <;> rfl) (by rw [hS]; exact pc_ok hR (okG.rf M))
      · skip
        refine v_tableOut C 83 dX9_between_23 (tsw_out (by decide) hw) rfl ?_
        refine v_aload_n C 0 dX9_between_83 rfl ?_
        refine v_iconst C (nI 1) dX9_between_84 (by decide) ?_
        refine n_callVi C hRm [.int (nI 1)] cw_X9_error ml_X9_58 (by decide) (show shp 0 = 9 from by decide +kernel) (by decide) rfl (c_error l G M 1 (by decide)) (by decide) rfl rfl (Nat.le_of_ble_eq_true rfl) dX9_between_85 (fun M5 hP_85 => ?_)
        subst hP_85
        have hS : betweenS Y n (nI c) (nI h) what = er 1 Y := by unfold betweenS; (try rw [nI_clamp (by omega)]); (try rw [nI_clamp (by omega)]); (try rw [nI_clamp (by omega)]); (first | rw [if_neg h_5] | rw [if_pos (Decidable.not_not.mp h_5)] | rw [if_pos h_5] | rw [if_pos (congrArg nI h_5)] | rw [if_neg (fun q9 => h_5 ((nI_eq (by omega) (by omega)).mp q9))] | rw [if_neg (Nat.not_le.mpr h_5)] | rw [if_neg (Nat.not_lt.mpr h_5)] | skip); (first | rw [if_neg h_13] | rw [if_pos (Decidable.not_not.mp h_13)] | rw [if_pos h_13] | rw [if_pos (congrArg nI h_13)] | rw [if_neg (fun q9 => h_13 ((nI_eq (by omega) (by omega)).mp q9))] | rw [if_neg (Nat.not_le.mpr h_13)] | rw [if_neg (Nat.not_lt.mpr h_13)] | skip); (first | rw [if_neg hw] | rw [if_pos (Decidable.not_not.mp hw)] | rw [if_pos hw] | rw [if_pos (congrArg nI hw)] | rw [if_neg (fun q9 => hw ((nI_eq (by omega) (by omega)).mp q9))] | rw [if_neg (Nat.not_le.mpr hw)] | rw [if_neg (Nat.not_lt.mpr hw)] | skip); all_goals rfl
        exact n_iret C hRt (rfl) dX9_between_88 (by rw [hS] <;> rfl) (by rw [hS]; exact pc_er hR (okG.rf M) (show (1 : Nat) ≠ 0 by decide))
    · skip
      refine v_aload_n C 0 dX9_between_16 rfl ?_
      refine v_iconst C (nI 1) dX9_between_17 (by decide) ?_
      refine n_callVi C hRm [.int (nI 1)] cw_X9_error ml_X9_58 (by decide) (show shp 0 = 9 from by decide +kernel) (by decide) rfl (c_error l G M 1 (by decide)) (by decide) rfl rfl (Nat.le_of_ble_eq_true rfl) dX9_between_18 (fun M5 hP_18 => ?_)
      subst hP_18
      have hS : betweenS Y n (nI c) heap what = er 1 Y := by unfold betweenS; (try rw [nI_clamp (by omega)]); (try rw [nI_clamp (by omega)]); (try rw [nI_clamp (by omega)]); (first | rw [if_neg h_5] | rw [if_pos (Decidable.not_not.mp h_5)] | rw [if_pos h_5] | rw [if_pos (congrArg nI h_5)] | rw [if_neg (fun q9 => h_5 ((nI_eq (by omega) (by omega)).mp q9))] | rw [if_neg (Nat.not_le.mpr h_5)] | rw [if_neg (Nat.not_lt.mpr h_5)] | skip); (first | rw [if_neg h_13] | rw [if_pos (Decidable.not_not.mp h_13)] | rw [if_pos h_13] | rw [if_pos (congrArg nI h_13)] | rw [if_neg (fun q9 => h_13 ((nI_eq (by omega) (by omega)).mp q9))] | rw [if_neg (Nat.not_le.mpr h_13)] | rw [if_neg (Nat.not_lt.mpr h_13)] | skip); all_goals rfl
      exact n_iret C hRt (rfl) dX9_between_21 (by rw [hS] <;> rfl) (by rw [hS]; exact pc_er hR (okG.rf M) (show (1 : Nat) ≠ 0 by decide))
set_option maxHeartbeats 4000000 in
set_option maxRecDepth 100000 in
theorem x_best (l : Launch) (G : GC) (M : Mm) (Y : Nat → Int32) (n hN : Nat) (hR : YR M 1 Y n hN) (hY : YOk Y n hN) (hI : yI Y n) (hJ : yJ Y n) (child : Int32) : CI l G 6 yX9_best cX9_best 2 .int [.ref (gb G + 0), .int child] M ((bestS Y n hN child).2.1) (PubC M (bestS Y n hN child).2.2 n hN (bestS Y n hN child).1) := by
  refine Con.of (by decide +kernel) (Nat.le_of_ble_eq_true rfl) ?_
  intro f C hRm hRt _
  have hn2 := hY.1.2.1
  have h5 := hY.1.2.2.2
  show Vc f G NPh M 0 [(0, .ref (gb G + 0)), (1, .int child)] []
  refine v_aload_n C 0 dX9_best_0 rfl ?_
  refine v_iload_n C 1 dX9_best_1 rfl ?_
  refine n_callVp C hRm [.int child] cw_X9_noChild ml_X9_84 (by decide) (show shp 0 = 9 from by decide +kernel) (by decide) rfl (c_noChild l G M Y _ _ hR hY child) (by decide) rfl rfl (Nat.le_of_ble_eq_true rfl) dX9_best_2 ?_
  refine nb_if_eq C 14 dX9_best_5 rfl (fun h_5 => ?_) (fun h_5 => ?_)
  · skip
    obtain ⟨c, hc, rfl⟩ := is_nat hY.1.1 hY.1.2.1 (Decidable.not_not.mp h_5)
    refine v_aload_n C 0 dX9_best_14 rfl ?_
    refine g_X9_10 C (by decide) (show shp 0 = 9 from by decide +kernel) dX9_best_15 ?_
    refine g_X9_101 C (by decide) (s_y (by decide)) dX9_best_18 ?_
    refine v_top (nI hN) (hR.hN) ?_
    refine n_if_ne C (by omega) 30 dX9_best_21 rfl (fun h_21 => ?_) (fun h_21 => ?_)
    · skip
      refine v_aload_n C 0 dX9_best_30 rfl ?_
      refine g_X9_10 C (by decide) (show shp 0 = 9 from by decide +kernel) dX9_best_31 ?_
      refine v_iload_n C 1 dX9_best_34 rfl ?_
      refine n_callVi C hRm [.int (nI c)] cw_X8_bestHeap ml_X9_243 (by decide) (s_y (by decide)) (by decide) rfl (y_bestHeap l G M 1 (by decide) Y _ _ hR hY c (by omega)) (by decide) rfl rfl (Nat.le_of_ble_eq_true rfl) dX9_best_35 (fun Mq1 hP_35 => ?_)
      obtain ⟨hRq1, hFq1⟩ := hP_35
      have hGq1 := (okG.rf M).tr hFq1
      have hS : bestS Y n hN (nI c) = (0, (bstA Y n c hN).1, Y) := by unfold bestS; (try rw [nI_clamp (by omega)]); (try rw [nI_clamp (by omega)]); (try rw [nI_clamp (by omega)]); (first | rw [if_neg h_5] | rw [if_pos (Decidable.not_not.mp h_5)] | rw [if_pos h_5] | rw [if_pos (congrArg nI h_5)] | rw [if_neg (fun q9 => h_5 ((nI_eq (by omega) (by omega)).mp q9))] | rw [if_neg (Nat.not_le.mpr h_5)] | rw [if_neg (Nat.not_lt.mpr h_5)] | skip); (rw [if_pos (bst_nn Y n c hN h5 (by omega))]); all_goals rfl
      exact n_iret C hRt (rfl) dX9_best_38 (by rw [hS] <;> rfl) (by rw [hS]; exact pc_ok hRq1 hGq1)
    · skip
      refine v_aload_n C 0 dX9_best_24 rfl ?_
      refine v_iconst C (nI 2) dX9_best_25 (by decide) ?_
      refine n_callVi C hRm [.int (nI 2)] cw_X9_error ml_X9_58 (by decide) (show shp 0 = 9 from by decide +kernel) (by decide) rfl (c_error l G M 2 (by decide)) (by decide) rfl rfl (Nat.le_of_ble_eq_true rfl) dX9_best_26 (fun M5 hP_26 => ?_)
      subst hP_26
      have hS : bestS Y n hN (nI c) = er 2 Y := by unfold bestS; (try rw [nI_clamp (by omega)]); (try rw [nI_clamp (by omega)]); (try rw [nI_clamp (by omega)]); (first | rw [if_neg h_5] | rw [if_pos (Decidable.not_not.mp h_5)] | rw [if_pos h_5] | rw [if_pos (congrArg nI h_5)] | rw [if_neg (fun q9 => h_5 ((nI_eq (by omega) (by omega)).mp q9))] | rw [if_neg (Nat.not_le.mpr h_5)] | rw [if_neg (Nat.not_lt.mpr h_5)] | skip); (rw [if_neg (by rw [show hN = 0 from h_21]; exact (by decide : ¬ (0 : Int32) ≤ -1))]); all_goals rfl
      exact n_iret C hRt (rfl) dX9_best_29 (by rw [hS] <;> rfl) (by rw [hS]; exact pc_er hR (okG.rf M) (show (2 : Nat) ≠ 0 by decide))
  · skip
    refine v_aload_n C 0 dX9_best_8 rfl ?_
    refine v_iconst C (nI 1) dX9_best_9 (by decide) ?_
    refine n_callVi C hRm [.int (nI 1)] cw_X9_error ml_X9_58 (by decide) (show shp 0 = 9 from by decide +kernel) (by decide) rfl (c_error l G M 1 (by decide)) (by decide) rfl rfl (Nat.le_of_ble_eq_true rfl) dX9_best_10 (fun M5 hP_10 => ?_)
    subst hP_10
    have hS : bestS Y n hN child = er 1 Y := by unfold bestS; (try rw [nI_clamp (by omega)]); (try rw [nI_clamp (by omega)]); (try rw [nI_clamp (by omega)]); (first | rw [if_neg h_5] | rw [if_pos (Decidable.not_not.mp h_5)] | rw [if_pos h_5] | rw [if_pos (congrArg nI h_5)] | rw [if_neg (fun q9 => h_5 ((nI_eq (by omega) (by omega)).mp q9))] | rw [if_neg (Nat.not_le.mpr h_5)] | rw [if_neg (Nat.not_lt.mpr h_5)] | skip); all_goals rfl
    exact n_iret C hRt (rfl) dX9_best_13 (by rw [hS] <;> rfl) (by rw [hS]; exact pc_er hR (okG.rf M) (show (1 : Nat) ≠ 0 by decide))
set_option maxHeartbeats 4000000 in
set_option maxRecDepth 100000 in
theorem x_minutes (l : Launch) (G : GC) (M : Mm) (Y : Nat → Int32) (n hN : Nat) (hR : YR M 1 Y n hN) (hY : YOk Y n hN) (hI : yI Y n) (hJ : yJ Y n) (k : Int32) : CI l G 8 yX9_minutes cX9_minutes 2 .int [.ref (gb G + 0), .int k] M ((minutesS Y n hN k).2.1) (PubC M (minutesS Y n hN k).2.2 n hN (minutesS Y n hN k).1) := by
  refine Con.of (by decide +kernel) (Nat.le_of_ble_eq_true rfl) ?_
  intro f C hRm hRt _
  have hn2 := hY.1.2.1
  have h5 := hY.1.2.2.2
  show Vc f G NPh M 0 [(0, .ref (gb G + 0)), (1, .int k)] []
  refine v_iload_n C 1 dX9_minutes_0 rfl ?_
  refine v_iconst C (nI 1) dX9_minutes_1 (by decide) ?_
  refine v_bipush C (nI 60) dX9_minutes_2 (by decide) ?_
  refine n_callSp C hRm [.int k, .int (nI 1), .int (nI 60)] cw_X9_outside st_X9_outside ml_X9_54 (c_outside l G M k (nI 1) (nI 60)) (by decide) rfl rfl (Nat.le_of_ble_eq_true rfl) dX9_minutes_4 ?_
  refine nb_if_eq C 16 dX9_minutes_7 rfl (fun h_7 => ?_) (fun h_7 => ?_)
  · skip
    obtain ⟨j, hj, rfl⟩ := within_nat2 (by decide) (by decide) (Decidable.not_not.mp h_7)
    refine v_aload_n C 0 dX9_minutes_16 rfl ?_
    refine g_X9_10 C (by decide) (show shp 0 = 9 from by decide +kernel) dX9_minutes_17 ?_
    refine g_X9_188 C (by decide) (s_y (by decide)) dX9_minutes_20 ?_
    refine v_top (Y 2) (hR.1.2.2.1) ?_
    refine v_iload_n C 1 dX9_minutes_23 rfl ?_
    refine v_iadd C dX9_minutes_24 ?_
    refine v_ldc C (99999) kc_X9_191 dX9_minutes_25 ?_
    refine v_icmp_le C 36 dX9_minutes_27 rfl (fun h_27 => ?_) (fun h_27 => ?_)
    · skip
      refine v_aload_n C 0 dX9_minutes_36 rfl ?_
      refine g_X9_10 C (by decide) (show shp 0 = 9 from by decide +kernel) dX9_minutes_37 ?_
      refine v_iload_n C 1 dX9_minutes_40 rfl ?_
      refine n_callVv C hRm [.int (nI j)] cw_X8_pass ml_X9_192 (by decide) (s_y (by decide)) (by decide) rfl (y_pass l G M 1 (by decide) Y _ _ hR hY hI j (by omega)) (by decide) rfl rfl (Nat.le_of_ble_eq_true rfl) dX9_minutes_41 (fun Mq1 hP_41 => ?_)
      obtain ⟨hRq1, hFq1⟩ := hP_41
      have hGq1 := (okG.rf M).tr hFq1
      refine v_aload_n C 0 dX9_minutes_44 rfl ?_
      refine g_X9_10 C (by decide) (show shp 0 = 9 from by decide +kernel) dX9_minutes_45 ?_
      refine n_callVp C hRm [] cw_X8_grief ml_X9_195 (by decide) (s_y (by decide)) (by decide) rfl (y_grief l G Mq1 1 (by decide) (passS Y n hN j) _ _ hRq1 (yk_pass hY j)  ) (by decide) rfl rfl (Nat.le_of_ble_eq_true rfl) dX9_minutes_48 ?_
      have hS : minutesS Y n hN (nI j) = (0, sorA (passS Y n hN j) n, passS Y n hN j) := by unfold minutesS; (try rw [nI_clamp (by omega)]); (try rw [nI_clamp (by omega)]); (try rw [nI_clamp (by omega)]); (first | rw [if_neg h_7] | rw [if_pos (Decidable.not_not.mp h_7)] | rw [if_pos h_7] | rw [if_pos (congrArg nI h_7)] | rw [if_neg (fun q9 => h_7 ((nI_eq (by omega) (by omega)).mp q9))] | rw [if_neg (Nat.not_le.mpr h_7)] | rw [if_neg (Nat.not_lt.mpr h_7)] | skip); (first | rw [if_neg h_27] | rw [if_pos (Decidable.not_not.mp h_27)] | rw [if_pos h_27] | rw [if_pos (congrArg nI h_27)] | rw [if_neg (fun q9 => h_27 ((nI_eq (by omega) (by omega)).mp q9))] | rw [if_neg (Nat.not_le.mpr h_27)] | rw [if_neg (Nat.not_lt.mpr h_27)] | skip); all_goals rfl
      exact n_iret C hRt (rfl) dX9_minutes_51 (by rw [hS] <;> rfl) (by rw [hS]; exact pc_ok hRq1 hGq1)
    · skip
      refine v_aload_n C 0 dX9_minutes_30 rfl ?_
      refine v_iconst C (nI 3) dX9_minutes_31 (by decide) ?_
      refine n_callVi C hRm [.int (nI 3)] cw_X9_error ml_X9_58 (by decide) (show shp 0 = 9 from by decide +kernel) (by decide) rfl (c_error l G M 3 (by decide)) (by decide) rfl rfl (Nat.le_of_ble_eq_true rfl) dX9_minutes_32 (fun M5 hP_32 => ?_)
      subst hP_32
      have hS : minutesS Y n hN (nI j) = er 3 Y := by unfold minutesS; (try rw [nI_clamp (by omega)]); (try rw [nI_clamp (by omega)]); (try rw [nI_clamp (by omega)]); (first | rw [if_neg h_7] | rw [if_pos (Decidable.not_not.mp h_7)] | rw [if_pos h_7] | rw [if_pos (congrArg nI h_7)] | rw [if_neg (fun q9 => h_7 ((nI_eq (by omega) (by omega)).mp q9))] | rw [if_neg (Nat.not_le.mpr h_7)] | rw [if_neg (Nat.not_lt.mpr h_7)] | skip); (first | rw [if_neg h_27] | rw [if_pos (Decidable.not_not.mp h_27)] | rw [if_pos h_27] | rw [if_pos (congrArg nI h_27)] | rw [if_neg (fun q9 => h_27 ((nI_eq (by omega) (by omega)).mp q9))] | rw [if_neg (Nat.not_le.mpr h_27)] | rw [if_neg (Nat.not_lt.mpr h_27)] | skip); all_goals rfl
      exact n_iret C hRt (rfl) dX9_minutes_35 (by rw [hS] <;> rfl) (by rw [hS]; exact pc_er hR (okG.rf M) (show (3 : Nat) ≠ 0 by decide))
  · skip
    refine v_aload_n C 0 dX9_minutes_10 rfl ?_
    refine v_iconst C (nI 1) dX9_minutes_11 (by decide) ?_
    refine n_callVi C hRm [.int (nI 1)] cw_X9_error ml_X9_58 (by decide) (show shp 0 = 9 from by decide +kernel) (by decide) rfl (c_error l G M 1 (by decide)) (by decide) rfl rfl (Nat.le_of_ble_eq_true rfl) dX9_minutes_12 (fun M5 hP_12 => ?_)
    subst hP_12
    have hS : minutesS Y n hN k = er 1 Y := by unfold minutesS; (try rw [nI_clamp (by omega)]); (try rw [nI_clamp (by omega)]); (try rw [nI_clamp (by omega)]); (first | rw [if_neg h_7] | rw [if_pos (Decidable.not_not.mp h_7)] | rw [if_pos h_7] | rw [if_pos (congrArg nI h_7)] | rw [if_neg (fun q9 => h_7 ((nI_eq (by omega) (by omega)).mp q9))] | rw [if_neg (Nat.not_le.mpr h_7)] | rw [if_neg (Nat.not_lt.mpr h_7)] | skip); all_goals rfl
    exact n_iret C hRt (rfl) dX9_minutes_15 (by rw [hS] <;> rfl) (by rw [hS]; exact pc_er hR (okG.rf M) (show (1 : Nat) ≠ 0 by decide))
set_option maxHeartbeats 4000000 in
set_option maxRecDepth 100000 in
theorem x_seed (l : Launch) (G : GC) (M : Mm) (Y : Nat → Int32) (n hN : Nat) (hR : YR M 1 Y n hN) (hY : YOk Y n hN) (hI : yI Y n) (hJ : yJ Y n) (v : Int32) : CI l G 2 yX9_seed cX9_seed 3 .int [.ref (gb G + 0), .int v] M ((seedS Y v).2.1) (PubC M (seedS Y v).2.2 n hN (seedS Y v).1) := by
  refine Con.of (by decide +kernel) (Nat.le_of_ble_eq_true rfl) ?_
  intro f C hRm hRt _
  have hn2 := hY.1.2.1
  have h5 := hY.1.2.2.2
  show Vc f G NPh M 0 [(0, .ref (gb G + 0)), (1, .int v)] []
  refine v_aload_n C 0 dX9_seed_0 rfl ?_
  refine g_X9_10 C (by decide) (show shp 0 = 9 from by decide +kernel) dX9_seed_1 ?_
  refine g_X9_204 C (by decide) (s_y (by decide)) dX9_seed_4 ?_
  refine v_top (Y 6) (hR.1.2.2.2.2.1) ?_
  refine v_istore_n C [(2, .int (Y 6)), (0, .ref (gb G + 0)), (1, .int v)] dX9_seed_7 rfl (by decide) rfl ?_
  refine v_aload_n C 1 dX9_seed_8 rfl ?_
  refine g_X9_10 C (by decide) (show shp 0 = 9 from by decide +kernel) dX9_seed_9 ?_
  refine v_iload_n C 2 dX9_seed_12 rfl ?_
  refine p_X9_204 C (by decide) (s_y (by decide)) dX9_seed_13 ?_
  have hRq1 : YR (up2 M 1 9 v) 1 (upd Y (6) v) n hN := hR.wz (by omega) (YOk.t4 hY) (YOk.t5 hY) _
  have hFq1 : okG M (up2 M 1 9 v) := (okG.rf M).tr (Fr.up (y := 1) _ (by omega))
  refine v_iload_n C 0 dX9_seed_16 rfl ?_
  have hS : seedS Y v = (0, Y 6, upd Y (6) v) := by unfold seedS; skip; all_goals rfl
  exact n_iret C hRt (rfl) dX9_seed_17 (by rw [hS] <;> rfl) (by rw [hS]; exact pc_ok hRq1 hFq1)
theorem YR.tx0 {M : Mm} {y u : Nat} {Y : Nat → Int32} {n hN : Nat} (h : YR M y Y n hN) (hY : YOk Y n hN) (hu : u < 2) : YR (up2 M (y + 55 + 3 * u) 2 (nI 0)) y (upd Y (321 + 62 * u) (nI 0)) n hN := by
  refine h.txn hY hu (fun a h1 _ => up2_ne _ _ _ h1) (fun i hi => upd_ne _ _ (by omega)) ((up2_at _ _ _ _).trans (upd_eq _ _ _).symm) (fun k hk => ?_)
  rw [show cN (upd Y (321 + 62 * u) (nI 0)) (321 + 62 * u) = 0 from cN_of (j := 0) (upd_eq _ _ _) (by decide)] at hk
  exact absurd hk (Nat.not_lt_zero k)
set_option maxHeartbeats 4000000 in
set_option maxRecDepth 100000 in
theorem x_untell (l : Launch) (G : GC) (M : Mm) (Y : Nat → Int32) (n hN : Nat) (hR : YR M 1 Y n hN) (hY : YOk Y n hN) (hI : yI Y n) (hJ : yJ Y n) (use : Int32) : CI l G 2 yX9_untell cX9_untell 3 .int [.ref (gb G + 0), .int use] M ((untellS Y use).2.1) (PubC M (untellS Y use).2.2 n hN (untellS Y use).1) := by
  refine Con.of (by decide +kernel) (Nat.le_of_ble_eq_true rfl) ?_
  intro f C hRm hRt _
  have hn2 := hY.1.2.1
  have h5 := hY.1.2.2.2
  show Vc f G NPh M 0 [(0, .ref (gb G + 0)), (1, .int use)] []
  refine v_iload_n C 1 dX9_untell_0 rfl ?_
  refine v_iconst C (nI 0) dX9_untell_1 (by decide) ?_
  refine v_iconst C (nI 1) dX9_untell_2 (by decide) ?_
  refine n_callSp C hRm [.int use, .int (nI 0), .int (nI 1)] cw_X9_outside st_X9_outside ml_X9_54 (c_outside l G M use (nI 0) (nI 1)) (by decide) rfl rfl (Nat.le_of_ble_eq_true rfl) dX9_untell_3 ?_
  refine nb_if_eq C 15 dX9_untell_6 rfl (fun h_6 => ?_) (fun h_6 => ?_)
  · skip
    obtain ⟨u, hu, rfl⟩ := within_nat (by decide) (Decidable.not_not.mp h_6)
    refine v_aload_n C 0 dX9_untell_15 rfl ?_
    refine g_X9_10 C (by decide) (show shp 0 = 9 from by decide +kernel) dX9_untell_16 ?_
    refine g_X9_169 C (by decide) (s_y (by decide)) dX9_untell_19 ?_
    refine v_iload_n C 1 dX9_untell_22 rfl ?_
    refine v_aald C rfl (by decide) (show shp 4 = 22 from by decide +kernel) (by decide) (by decide) (show u < 2 from by omega) (by decide) (1 + 55 + 3 * u) (by simp only [aOff] <;> omega) dX9_untell_23 ?_
    refine n_callVp C hRm [] cw_X7_isThere ml_X9_183 (show 1 + 55 + 3 * u < 221 from by omega) (s_tx (by decide) (by omega)) (by decide) rfl (y_there l G M 1 (by decide) Y _ _ hR u (by omega)) (by decide) rfl rfl (Nat.le_of_ble_eq_true rfl) dX9_untell_24 ?_
    refine nb_if_eq C 34 dX9_untell_27 rfl (fun h_27 => ?_) (fun h_27 => ?_)
    · skip
      refine v_iconst C (nI 0) dX9_untell_34 (by decide) ?_
      refine v_istore_n C [(2, .int (nI 0)), (0, .ref (gb G + 0)), (1, .int (nI u))] dX9_untell_35 rfl (by decide) rfl ?_
      refine v_aload_n C 1 dX9_untell_36 rfl ?_
      refine g_X9_10 C (by decide) (show shp 0 = 9 from by decide +kernel) dX9_untell_37 ?_
      refine g_X9_169 C (by decide) (s_y (by decide)) dX9_untell_40 ?_
      refine v_iload_n C 2 dX9_untell_43 rfl ?_
      refine v_aald C rfl (by decide) (show shp 4 = 22 from by decide +kernel) (by decide) (by decide) (show u < 2 from by omega) (by decide) (1 + 55 + 3 * u) (by simp only [aOff] <;> omega) dX9_untell_44 ?_
      refine v_iconst C (nI 0) dX9_untell_45 (by decide) ?_
      refine p_X9_187 C (show 1 + 55 + 3 * u < 221 from by omega) (s_tx (by decide) (by omega)) dX9_untell_46 ?_
      have hRq1 := hR.tx0 hY (u := u) (by omega)
      have hFq1 : okG M (up2 M (1 + 55 + 3 * u) 2 (nI 0)) := (okG.rf M).tr (Fr.up (y := 1) _ (by omega))
      refine v_iload_n C 0 dX9_untell_49 rfl ?_
      have hS : untellS Y (nI u) = (0, nI 0, upd Y (321 + 62 * u) (nI 0)) := by unfold untellS; (try rw [nI_clamp (by omega)]); (try rw [nI_clamp (by omega)]); (try rw [nI_clamp (by omega)]); (first | rw [if_neg h_6] | rw [if_pos (Decidable.not_not.mp h_6)] | rw [if_pos h_6] | rw [if_pos (congrArg nI h_6)] | rw [if_neg (fun q9 => h_6 ((nI_eq (by omega) (by omega)).mp q9))] | rw [if_neg (Nat.not_le.mpr h_6)] | rw [if_neg (Nat.not_lt.mpr h_6)] | skip); (first | rw [if_neg h_27] | rw [if_pos (Decidable.not_not.mp h_27)] | rw [if_pos h_27] | rw [if_pos (congrArg nI h_27)] | rw [if_neg (fun q9 => h_27 ((nI_eq (by omega) (by omega)).mp q9))] | rw [if_neg (Nat.not_le.mpr h_27)] | rw [if_neg (Nat.not_lt.mpr h_27)] | skip); all_goals rfl
      exact n_iret C hRt (rfl) dX9_untell_50 (by rw [hS] <;> rfl) (by rw [hS]; exact pc_ok hRq1 hFq1)
    · skip
      refine v_iconst C (nI 1) dX9_untell_30 (by decide) ?_
      refine v_goto C 35 dX9_untell_31 rfl ?_
      refine v_istore_n C [(2, .int (nI 1)), (0, .ref (gb G + 0)), (1, .int (nI u))] dX9_untell_35 rfl (by decide) rfl ?_
      refine v_aload_n C 1 dX9_untell_36 rfl ?_
      refine g_X9_10 C (by decide) (show shp 0 = 9 from by decide +kernel) dX9_untell_37 ?_
      refine g_X9_169 C (by decide) (s_y (by decide)) dX9_untell_40 ?_
      refine v_iload_n C 2 dX9_untell_43 rfl ?_
      refine v_aald C rfl (by decide) (show shp 4 = 22 from by decide +kernel) (by decide) (by decide) (show u < 2 from by omega) (by decide) (1 + 55 + 3 * u) (by simp only [aOff] <;> omega) dX9_untell_44 ?_
      refine v_iconst C (nI 0) dX9_untell_45 (by decide) ?_
      refine p_X9_187 C (show 1 + 55 + 3 * u < 221 from by omega) (s_tx (by decide) (by omega)) dX9_untell_46 ?_
      have hRq2 := hR.tx0 hY (u := u) (by omega)
      have hFq2 : okG M (up2 M (1 + 55 + 3 * u) 2 (nI 0)) := (okG.rf M).tr (Fr.up (y := 1) _ (by omega))
      refine v_iload_n C 0 dX9_untell_49 rfl ?_
      have hS : untellS Y (nI u) = (0, nI 1, upd Y (321 + 62 * u) (nI 0)) := by unfold untellS; (try rw [nI_clamp (by omega)]); (try rw [nI_clamp (by omega)]); (try rw [nI_clamp (by omega)]); (first | rw [if_neg h_6] | rw [if_pos (Decidable.not_not.mp h_6)] | rw [if_pos h_6] | rw [if_pos (congrArg nI h_6)] | rw [if_neg (fun q9 => h_6 ((nI_eq (by omega) (by omega)).mp q9))] | rw [if_neg (Nat.not_le.mpr h_6)] | rw [if_neg (Nat.not_lt.mpr h_6)] | skip); (first | rw [if_neg h_27] | rw [if_pos (Decidable.not_not.mp h_27)] | rw [if_pos h_27] | rw [if_pos (congrArg nI h_27)] | rw [if_neg (fun q9 => h_27 ((nI_eq (by omega) (by omega)).mp q9))] | rw [if_neg (Nat.not_le.mpr h_27)] | rw [if_neg (Nat.not_lt.mpr h_27)] | skip); all_goals rfl
      exact n_iret C hRt (rfl) dX9_untell_50 (by rw [hS] <;> rfl) (by rw [hS]; exact pc_ok hRq2 hFq2)
  · skip
    refine v_aload_n C 0 dX9_untell_9 rfl ?_
    refine v_iconst C (nI 1) dX9_untell_10 (by decide) ?_
    refine n_callVi C hRm [.int (nI 1)] cw_X9_error ml_X9_58 (by decide) (show shp 0 = 9 from by decide +kernel) (by decide) rfl (c_error l G M 1 (by decide)) (by decide) rfl rfl (Nat.le_of_ble_eq_true rfl) dX9_untell_11 (fun M5 hP_11 => ?_)
    subst hP_11
    have hS : untellS Y use = er 1 Y := by unfold untellS; (try rw [nI_clamp (by omega)]); (try rw [nI_clamp (by omega)]); (try rw [nI_clamp (by omega)]); (first | rw [if_neg h_6] | rw [if_pos (Decidable.not_not.mp h_6)] | rw [if_pos h_6] | rw [if_pos (congrArg nI h_6)] | rw [if_neg (fun q9 => h_6 ((nI_eq (by omega) (by omega)).mp q9))] | rw [if_neg (Nat.not_le.mpr h_6)] | rw [if_neg (Nat.not_lt.mpr h_6)] | skip); all_goals rfl
    exact n_iret C hRt (rfl) dX9_untell_14 (by rw [hS] <;> rfl) (by rw [hS]; exact pc_er hR (okG.rf M) (show (1 : Nat) ≠ 0 by decide))
