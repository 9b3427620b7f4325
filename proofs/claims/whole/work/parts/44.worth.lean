def tpI (n : Nat) : Int32 := nI n - nI 1
theorem tp_s (x : Nat) : tpI (x + 1) = nI x := by unfold tpI; rw [nI_subN (by omega)]; rfl
theorem tp_inc (x : Nat) : tpI x + 1 = nI x := by unfold tpI; show nI x - nI 1 + nI 1 = nI x; rw [Int32.sub_add_cancel]
theorem sg_rg : ∀ j, j < 10 → 37 ≤ sgC j ∧ sgC j ≤ 124 ∧ sgC j ≠ 33 := by decide +kernel
theorem cv_lo {x : Nat} (h : x < 20000) : cvC x = x := if_pos h
theorem cv_hi (j : Nat) : cvC (20000 + j) = 20000 + sgC j := by unfold cvC; rw [if_neg (by omega), Nat.add_sub_cancel_left]
set_option maxHeartbeats 4000000 in
set_option maxRecDepth 100000 in
theorem t_worth (l : Launch) (G : GC) (M : Mm) (k : Nat) (hk : k + 2 < 221) (hs : shp k = 7) (hs1 : shp (k + 1) = 1000 + 60) (hs2 : shp (k + 2) = 1000 + 60) (a : Nat) (ha : a < 221) (hsa : shp a = 1000 + 5) (hak : a ≠ k + 2) (Y : Nat → Int32) (fr len : Nat) (hok : okT Y fr len) (hl0 : 0 < len) (nm : Nat → Int32) (hsz : M k 2 = nI len) (hst : ∀ i, i < len → M (k + 1) i = nI (cvC (cN Y (fr + i)))) (hnm : ∀ j, j < 5 → M a j = nm j) : CI l G 2 yX7_worth cX7_worth 5 .int [.ref (gb G + k), .ref (gb G + a)] M ((evT nm Y fr len).getD 0 0) (fun M' => ∃ g, M' = upA M (k + 2) g) := by
  refine Con.of (by decide +kernel) (Nat.le_of_ble_eq_true rfl) ?_
  intro f C hRm hRt _
  have LK : ∀ (kk i n : Nat) (g : Nat → Int32), len - i = kk → i ≤ len → n = dep Y fr i → pileR (upA M (k + 2) g) (k + 2) n (evT nm Y fr i) → Vc f G NPh (upA M (k + 2) g) 4 [(2, .int (tpI n)), (3, .int (nI i)), (0, .ref (gb G + k)), (1, .ref (gb G + a))] [] := by
    intro kk
    induction kk using Nat.strongRecOn with
    | _ kk ih =>
      intro i n g hkk hi hn hp
      have hd9 := dep_le Y fr i
      have hl9 := hok.1
      refine v_iload_n C 1 dX7_worth_4 rfl ?_
      refine v_aload_n C 2 dX7_worth_5 rfl ?_
      refine g_X7_18 C (show k < 221 from by omega) hs dX7_worth_6 ?_
      refine v_top (nI len) ((congrFun (upA_ne _ _ (show k ≠ k + 2 by omega)) 2).trans hsz) ?_
      refine n_icmp_ge C (by omega) (by omega) 141 dX7_worth_9 rfl (fun h_9 => ?_) (fun h_9 => ?_)
      · skip
        have h5 : i = len := by omega
        subst h5
        have hn1 : n = 1 := hn.trans (hok.2.2.2 hl0)
        subst hn1
        refine v_lv [(2, .int (nI 0)), (3, .int (nI i)), (0, .ref (gb G + k)), (1, .ref (gb G + a))] (by rw [show (1 : Nat) = 0 + 1 from rfl, tp_s]) ?_
        refine v_iload_n C 0 dX7_worth_141 rfl ?_
        refine v_if_lt C 154 dX7_worth_142 rfl (fun h_142 => absurd h_142 (by decide +kernel)) (fun _ => ?_)
        refine v_aload_n C 2 dX7_worth_145 rfl ?_
        refine g_X7_15 C (show k < 221 from by omega) hs dX7_worth_146 ?_
        refine v_iload_n C 0 dX7_worth_149 rfl ?_
        refine v_iald C (show k + 2 < 221 from by omega) hs2 (by omega) (by decide) dX7_worth_150 ?_
        refine v_goto C 155 dX7_worth_151 rfl ?_
        exact n_iret C hRt rfl dX7_worth_155 (hp.2 0 (by omega)) ⟨g, rfl⟩
      · skip
        refine v_aload_n C 2 dX7_worth_12 rfl ?_
        refine g_X7_9 C (show k < 221 from by omega) hs dX7_worth_13 ?_
        refine v_iload_n C 1 dX7_worth_16 rfl ?_
        refine v_iald C (show k + 1 < 221 from by omega) hs1 (by omega) (by decide) dX7_worth_17 ?_
        obtain ⟨is, his, his2, hcase⟩ := hok.2.2.1 i (by omega)
        have hcn : cN Y (fr + i) = is := cN_of his (by omega)
        have hstv := hst i (by omega)
        rw [hcn] at hstv
        rw [← hn] at hcase
        rcases hcase with hcase | hcase | hcase | hcase
        · skip
          rw [cv_lo (by omega)] at hstv
          refine v_top (nI (is)) ((congrFun (upA_ne _ _ (show k + 1 ≠ k + 2 by omega)) i).trans hstv) ?_
          refine v_istore C [(4, .int (nI is)), (2, .int (tpI n)), (3, .int (nI i)), (0, .ref (gb G + k)), (1, .ref (gb G + a))] dX7_worth_18 (by decide) rfl ?_
          refine v_iload C 0 dX7_worth_20 rfl ?_
          refine v_sipush C (nI 20000) dX7_worth_22 (by decide) ?_
          refine n_icmp_ge C (by omega) (by omega) 63 dX7_worth_25 rfl (fun h_25 => ?_) (fun h_25 => ?_)
          · skip
            exact absurd h_25 (by omega)
          · skip
            refine v_iinc C ((tpI n) + 1) 1 [(2, .int ((tpI n) + 1)), (4, .int (nI is)), (3, .int (nI i)), (0, .ref (gb G + k)), (1, .ref (gb G + a))] dX7_worth_28 rfl rfl (by decide) rfl ?_
            refine v_lv [(2, .int (nI n)), (4, .int (nI is)), (3, .int (nI i)), (0, .ref (gb G + k)), (1, .ref (gb G + a))] (by rw [tp_inc]) ?_
            refine v_aload_n C 3 dX7_worth_31 rfl ?_
            refine g_X7_15 C (show k < 221 from by omega) hs dX7_worth_32 ?_
            refine v_iload_n C 0 dX7_worth_35 rfl ?_
            refine v_iload C 1 dX7_worth_36 rfl ?_
            refine v_sipush C (nI 10000) dX7_worth_38 (by decide) ?_
            refine n_icmp_ge C (by omega) (by omega) 49 dX7_worth_41 rfl (fun h_41 => ?_) (fun h_41 => ?_)
            · skip
              exact absurd h_41 (by omega)
            · skip
              refine v_iload C 1 dX7_worth_44 rfl ?_
              refine v_goto C 59 dX7_worth_46 rfl ?_
              refine v_iast C (show k + 2 < 221 from by omega) hs2 (by omega) (by decide) dX7_worth_59 ?_
              refine v_mem (upA M (k + 2) (upd g n (nI is))) (up2_upA _ _ _ _ _) ?_
              refine v_goto C 135 dX7_worth_60 rfl ?_
              refine v_iinc C (nI (i + 1)) 2 [(3, .int (nI (i + 1))), (2, .int (nI n)), (4, .int (nI is)), (0, .ref (gb G + k)), (1, .ref (gb G + a))] dX7_worth_135 rfl (nI_add _ _) (by decide) rfl ?_
              refine v_goto C 4 dX7_worth_138 rfl ?_
              refine v_lv [(3, .int (nI (i + 1))), (2, .int (tpI (n + 1))), (4, .int (nI is)), (0, .ref (gb G + k)), (1, .ref (gb G + a))] (by rw [tp_s]) ?_
              refine v_sub [1, 0, 3, 4] [(2, .int (tpI (n + 1))), (3, .int (nI (i + 1))), (0, .ref (gb G + k)), (1, .ref (gb G + a))] rfl ?_
              exact ih _ (by omega) (i + 1) (n + 1) (upd g n (nI is)) rfl (by omega) (by unfold dep; rw [hcn, if_pos (by omega)]; omega) (by simp only [evT, stepT, hcn]; rw [if_pos (show is < 10000 by omega)]; rw [← up2_upA]; exact pile_push hp _)
        · skip
          rw [cv_lo (by omega)] at hstv
          refine v_top (nI (is)) ((congrFun (upA_ne _ _ (show k + 1 ≠ k + 2 by omega)) i).trans hstv) ?_
          refine v_istore C [(4, .int (nI is)), (2, .int (tpI n)), (3, .int (nI i)), (0, .ref (gb G + k)), (1, .ref (gb G + a))] dX7_worth_18 (by decide) rfl ?_
          refine v_iload C 0 dX7_worth_20 rfl ?_
          refine v_sipush C (nI 20000) dX7_worth_22 (by decide) ?_
          refine n_icmp_ge C (by omega) (by omega) 63 dX7_worth_25 rfl (fun h_25 => ?_) (fun h_25 => ?_)
          · skip
            exact absurd h_25 (by omega)
          · skip
            refine v_iinc C ((tpI n) + 1) 1 [(2, .int ((tpI n) + 1)), (4, .int (nI is)), (3, .int (nI i)), (0, .ref (gb G + k)), (1, .ref (gb G + a))] dX7_worth_28 rfl rfl (by decide) rfl ?_
            refine v_lv [(2, .int (nI n)), (4, .int (nI is)), (3, .int (nI i)), (0, .ref (gb G + k)), (1, .ref (gb G + a))] (by rw [tp_inc]) ?_
            refine v_aload_n C 3 dX7_worth_31 rfl ?_
            refine g_X7_15 C (show k < 221 from by omega) hs dX7_worth_32 ?_
            refine v_iload_n C 0 dX7_worth_35 rfl ?_
            refine v_iload C 1 dX7_worth_36 rfl ?_
            refine v_sipush C (nI 10000) dX7_worth_38 (by decide) ?_
            refine n_icmp_ge C (by omega) (by omega) 49 dX7_worth_41 rfl (fun h_41 => ?_) (fun h_41 => ?_)
            · skip
              refine v_aload_n C 4 dX7_worth_49 rfl ?_
              refine v_iload C 1 dX7_worth_50 rfl ?_
              refine v_sipush C (nI 10000) dX7_worth_52 (by decide) ?_
              refine n_isub C (by omega) dX7_worth_55 ?_
              refine n_callSp C hRm [.ref (gb G + a), .int (nI (is - 10000))] cw_X7_named st_X7_named ml_X7_28 (t_named l G (upA M (k + 2) g) a ha hsa (is - 10000) (by omega)) (by decide) rfl rfl (Nat.le_of_ble_eq_true rfl) dX7_worth_56 ?_
              refine v_top (M a (is - 10000)) (congrFun (upA_ne _ _ hak) _) ?_
              refine v_iast C (show k + 2 < 221 from by omega) hs2 (by omega) (by decide) dX7_worth_59 ?_
              refine v_mem (upA M (k + 2) (upd g n (M a (is - 10000)))) (up2_upA _ _ _ _ _) ?_
              refine v_goto C 135 dX7_worth_60 rfl ?_
              refine v_iinc C (nI (i + 1)) 2 [(3, .int (nI (i + 1))), (2, .int (nI n)), (4, .int (nI is)), (0, .ref (gb G + k)), (1, .ref (gb G + a))] dX7_worth_135 rfl (nI_add _ _) (by decide) rfl ?_
              refine v_goto C 4 dX7_worth_138 rfl ?_
              refine v_lv [(3, .int (nI (i + 1))), (2, .int (tpI (n + 1))), (4, .int (nI is)), (0, .ref (gb G + k)), (1, .ref (gb G + a))] (by rw [tp_s]) ?_
              refine v_sub [1, 0, 3, 4] [(2, .int (tpI (n + 1))), (3, .int (nI (i + 1))), (0, .ref (gb G + k)), (1, .ref (gb G + a))] rfl ?_
              exact ih _ (by omega) (i + 1) (n + 1) (upd g n (M a (is - 10000))) rfl (by omega) (by unfold dep; rw [hcn, if_pos (by omega)]; omega) (by simp only [evT, stepT, hcn]; rw [if_neg (show ¬ is < 10000 by omega), if_pos (show is < 20000 by omega), ← hnm (is - 10000) (by omega)]; rw [← up2_upA]; exact pile_push hp _)
            · skip
              exact absurd h_41 (by omega)
        · skip
          rw [show cvC is = 20033 by rw [hcase.1]; decide] at hstv
          refine v_top (nI (20033)) ((congrFun (upA_ne _ _ (show k + 1 ≠ k + 2 by omega)) i).trans hstv) ?_
          refine v_istore C [(4, .int (nI 20033)), (2, .int (tpI n)), (3, .int (nI i)), (0, .ref (gb G + k)), (1, .ref (gb G + a))] dX7_worth_18 (by decide) rfl ?_
          refine v_iload C 0 dX7_worth_20 rfl ?_
          refine v_sipush C (nI 20000) dX7_worth_22 (by decide) ?_
          refine n_icmp_ge C (by omega) (by omega) 63 dX7_worth_25 rfl (fun _ => ?_) (fun h_25 => absurd h_25 (by decide))
          refine v_iload C 0 dX7_worth_63 rfl ?_
          refine v_sipush C (nI 20033) dX7_worth_65 (by decide) ?_
          refine n_icmp_ne C (by omega) (by omega) 98 dX7_worth_68 rfl (fun h_68 => absurd h_68 (by decide)) (fun _ => ?_)
          obtain ⟨n, rfl⟩ : ∃ q, n = q + 1 := ⟨n - 1, by omega⟩
          refine v_lv [(4, .int (nI 20033)), (2, .int (nI n)), (3, .int (nI i)), (0, .ref (gb G + k)), (1, .ref (gb G + a))] (by rw [tp_s]) ?_
          refine v_iload_n C 1 dX7_worth_71 rfl ?_
          refine v_if_lt C 135 dX7_worth_72 rfl (fun h_72 => ?_) (fun h_72 => ?_)
          · skip
            exact absurd h_72 (nI_pos (by omega))
          · skip
            refine v_aload_n C 3 dX7_worth_75 rfl ?_
            refine g_X7_15 C (show k < 221 from by omega) hs dX7_worth_76 ?_
            refine v_iload_n C 1 dX7_worth_79 rfl ?_
            refine v_aload_n C 3 dX7_worth_80 rfl ?_
            refine g_X7_15 C (show k < 221 from by omega) hs dX7_worth_81 ?_
            refine v_iload_n C 1 dX7_worth_84 rfl ?_
            refine v_iald C (show k + 2 < 221 from by omega) hs2 (by omega) (by decide) dX7_worth_85 ?_
            refine v_if_ne C 93 dX7_worth_86 rfl (fun h_86 => ?_) (fun h_86 => ?_)
            · skip
              refine v_iconst C (nI 0) dX7_worth_93 (by decide) ?_
              refine v_iast C (show k + 2 < 221 from by omega) hs2 (by omega) (by decide) dX7_worth_94 ?_
              refine v_mem (upA M (k + 2) (upd g n (nI 0))) (up2_upA _ _ _ _ _) ?_
              refine v_goto C 135 dX7_worth_95 rfl ?_
              refine v_iinc C (nI (i + 1)) 2 [(3, .int (nI (i + 1))), (4, .int (nI 20033)), (2, .int (nI n)), (0, .ref (gb G + k)), (1, .ref (gb G + a))] dX7_worth_135 rfl (nI_add _ _) (by decide) rfl ?_
              refine v_goto C 4 dX7_worth_138 rfl ?_
              refine v_lv [(3, .int (nI (i + 1))), (4, .int (nI 20033)), (2, .int (tpI (n + 1))), (0, .ref (gb G + k)), (1, .ref (gb G + a))] (by rw [tp_s]) ?_
              refine v_sub [2, 0, 3, 4] [(2, .int (tpI (n + 1))), (3, .int (nI (i + 1))), (0, .ref (gb G + k)), (1, .ref (gb G + a))] rfl ?_
              exact ih _ (by omega) (i + 1) (n + 1) (upd g n (nI 0)) rfl (by omega) (by unfold dep; rw [hcn, if_neg (by omega), if_pos (by omega)]; omega) (by simp only [evT, stepT, hcn]; rw [if_neg (show ¬ is < 10000 by omega), if_neg (show ¬ is < 20000 by omega), if_pos (show is = 20010 by omega)]; have hz := hp.2 n (by omega); rw [show n + 1 - 1 - n = 0 by omega] at hz; rw [← hz, if_neg h_86]; rw [← up2_upA]; exact pile_not hp (by omega) _)
            · skip
              refine v_iconst C (nI 1) dX7_worth_89 (by decide) ?_
              refine v_goto C 94 dX7_worth_90 rfl ?_
              refine v_iast C (show k + 2 < 221 from by omega) hs2 (by omega) (by decide) dX7_worth_94 ?_
              refine v_mem (upA M (k + 2) (upd g n (nI 1))) (up2_upA _ _ _ _ _) ?_
              refine v_goto C 135 dX7_worth_95 rfl ?_
              refine v_iinc C (nI (i + 1)) 2 [(3, .int (nI (i + 1))), (4, .int (nI 20033)), (2, .int (nI n)), (0, .ref (gb G + k)), (1, .ref (gb G + a))] dX7_worth_135 rfl (nI_add _ _) (by decide) rfl ?_
              refine v_goto C 4 dX7_worth_138 rfl ?_
              refine v_lv [(3, .int (nI (i + 1))), (4, .int (nI 20033)), (2, .int (tpI (n + 1))), (0, .ref (gb G + k)), (1, .ref (gb G + a))] (by rw [tp_s]) ?_
              refine v_sub [2, 0, 3, 4] [(2, .int (tpI (n + 1))), (3, .int (nI (i + 1))), (0, .ref (gb G + k)), (1, .ref (gb G + a))] rfl ?_
              exact ih _ (by omega) (i + 1) (n + 1) (upd g n (nI 1)) rfl (by omega) (by unfold dep; rw [hcn, if_neg (by omega), if_pos (by omega)]; omega) (by simp only [evT, stepT, hcn]; rw [if_neg (show ¬ is < 10000 by omega), if_neg (show ¬ is < 20000 by omega), if_pos (show is = 20010 by omega)]; have hz := hp.2 n (by omega); rw [show n + 1 - 1 - n = 0 by omega] at hz; rw [← hz, if_pos (by first | exact h_86 | exact Decidable.not_not.mp h_86)]; rw [← up2_upA]; exact pile_not hp (by omega) _)
        · skip
          obtain ⟨j, rfl⟩ : ∃ j, is = 20000 + j := ⟨is - 20000, by omega⟩
          have hsg := sg_rg j (by omega)
          rw [cv_hi] at hstv
          refine v_top (nI (20000 + sgC j)) ((congrFun (upA_ne _ _ (show k + 1 ≠ k + 2 by omega)) i).trans hstv) ?_
          refine v_istore C [(4, .int (nI (20000 + sgC j))), (2, .int (tpI n)), (3, .int (nI i)), (0, .ref (gb G + k)), (1, .ref (gb G + a))] dX7_worth_18 (by decide) rfl ?_
          refine v_iload C 0 dX7_worth_20 rfl ?_
          refine v_sipush C (nI 20000) dX7_worth_22 (by decide) ?_
          refine n_icmp_ge C (by omega) (by omega) 63 dX7_worth_25 rfl (fun h_25 => ?_) (fun h_25 => ?_)
          · skip
            refine v_iload C 0 dX7_worth_63 rfl ?_
            refine v_sipush C (nI 20033) dX7_worth_65 (by decide) ?_
            refine n_icmp_ne C (by omega) (by omega) 98 dX7_worth_68 rfl (fun h_68 => ?_) (fun h_68 => ?_)
            · skip
              obtain ⟨n, rfl⟩ : ∃ q, n = q + 2 := ⟨n - 2, by omega⟩
              refine v_lv [(4, .int (nI (20000 + sgC j))), (2, .int (nI (n + 1))), (3, .int (nI i)), (0, .ref (gb G + k)), (1, .ref (gb G + a))] (by rw [show n + 2 = (n + 1) + 1 from rfl, tp_s]) ?_
              refine v_iload_n C 1 dX7_worth_98 rfl ?_
              refine v_iconst C (nI 1) dX7_worth_99 (by decide) ?_
              refine n_icmp_lt C (by omega) (by omega) 135 dX7_worth_100 rfl (fun h_100 => ?_) (fun h_100 => ?_)
              · skip
                exact absurd h_100 (by omega)
              · skip
                refine v_iinc C (nI ((n + 1) - 1)) 1 [(2, .int (nI ((n + 1) - 1))), (4, .int (nI (20000 + sgC j))), (3, .int (nI i)), (0, .ref (gb G + k)), (1, .ref (gb G + a))] dX7_worth_103 rfl (nI_dec (by omega)) (by decide) rfl ?_
                refine v_aload_n C 3 dX7_worth_106 rfl ?_
                refine g_X7_15 C (show k < 221 from by omega) hs dX7_worth_107 ?_
                refine v_iload_n C 0 dX7_worth_110 rfl ?_
                refine v_iload C 1 dX7_worth_111 rfl ?_
                refine v_sipush C (nI 20000) dX7_worth_113 (by decide) ?_
                refine n_isub C (by omega) dX7_worth_116 ?_
                refine v_top (nI (sgC j)) (by rw [Nat.add_sub_cancel_left]) ?_
                refine v_aload_n C 3 dX7_worth_117 rfl ?_
                refine g_X7_15 C (show k < 221 from by omega) hs dX7_worth_118 ?_
                refine v_iload_n C 0 dX7_worth_121 rfl ?_
                refine v_iald C (show k + 2 < 221 from by omega) hs2 (by omega) (by decide) dX7_worth_122 ?_
                refine v_aload_n C 3 dX7_worth_123 rfl ?_
                refine g_X7_15 C (show k < 221 from by omega) hs dX7_worth_124 ?_
                refine v_iload_n C 0 dX7_worth_127 rfl ?_
                refine v_iconst C (nI 1) dX7_worth_128 (by decide) ?_
                refine n_iadd C dX7_worth_129 ?_
                refine v_iald C (show k + 2 < 221 from by omega) hs2 (by omega) (by decide) dX7_worth_130 ?_
                refine n_callSp C hRm [.int (nI (sgC j)), .int ((upA M (k + 2) g) (k + 2) ((n + 1) - 1)), .int ((upA M (k + 2) g) (k + 2) (((n + 1) - 1) + 1))] cw_X7_apply st_X7_apply ml_X7_32 (t_apply l G (upA M (k + 2) g) j (by omega) ((upA M (k + 2) g) (k + 2) ((n + 1) - 1)) ((upA M (k + 2) g) (k + 2) (((n + 1) - 1) + 1))) (by decide) rfl rfl (Nat.le_of_ble_eq_true rfl) dX7_worth_131 ?_
                refine v_iast C (show k + 2 < 221 from by omega) hs2 (by omega) (by decide) dX7_worth_134 ?_
                refine v_mem (upA M (k + 2) (upd g ((n + 1) - 1) (doneS (20000 + j) ((upA M (k + 2) g) (k + 2) ((n + 1) - 1)) ((upA M (k + 2) g) (k + 2) (((n + 1) - 1) + 1))))) (up2_upA _ _ _ _ _) ?_
                refine v_iinc C (nI (i + 1)) 2 [(3, .int (nI (i + 1))), (2, .int (nI ((n + 1) - 1))), (4, .int (nI (20000 + sgC j))), (0, .ref (gb G + k)), (1, .ref (gb G + a))] dX7_worth_135 rfl (nI_add _ _) (by decide) rfl ?_
                refine v_goto C 4 dX7_worth_138 rfl ?_
                refine v_lv [(3, .int (nI (i + 1))), (2, .int (tpI (((n + 1) - 1) + 1))), (4, .int (nI (20000 + sgC j))), (0, .ref (gb G + k)), (1, .ref (gb G + a))] (by rw [tp_s]) ?_
                refine v_sub [1, 0, 3, 4] [(2, .int (tpI (((n + 1) - 1) + 1))), (3, .int (nI (i + 1))), (0, .ref (gb G + k)), (1, .ref (gb G + a))] rfl ?_
                exact ih _ (by omega) (i + 1) (((n + 1) - 1) + 1) (upd g ((n + 1) - 1) (doneS (20000 + j) ((upA M (k + 2) g) (k + 2) ((n + 1) - 1)) ((upA M (k + 2) g) (k + 2) (((n + 1) - 1) + 1)))) rfl (by omega) (by unfold dep; rw [hcn, if_neg (by omega), if_neg (by omega)]; omega) (by simp only [evT, stepT, hcn]; rw [if_neg (show ¬ 20000 + j < 10000 by omega), if_neg (show ¬ 20000 + j < 20000 by omega), if_neg (show ¬ 20000 + j = 20010 by omega)]; have hz := hp.2 (n + 1) (by omega); have hy := hp.2 n (by omega); rw [show n + 2 - 1 - (n + 1) = 0 by omega] at hz; rw [show n + 2 - 1 - n = 1 by omega] at hy; rw [← hz, ← hy]; rw [← up2_upA]; exact pile_bin hp (by omega) _)
            · skip
              exact absurd h_68 (by omega)
          · skip
            exact absurd h_25 (by omega)
  show Vc f G NPh M 0 [(0, .ref (gb G + k)), (1, .ref (gb G + a))] []
  refine v_iconst C (-1) dX7_worth_0 (by decide) ?_
  refine v_istore_n C [(2, .int (-1)), (0, .ref (gb G + k)), (1, .ref (gb G + a))] dX7_worth_1 rfl (by decide) rfl ?_
  refine v_iconst C (nI 0) dX7_worth_2 (by decide) ?_
  refine v_istore_n C [(3, .int (nI 0)), (2, .int (-1)), (0, .ref (gb G + k)), (1, .ref (gb G + a))] dX7_worth_3 rfl (by decide) rfl ?_
  refine v_mem (upA M (k + 2) (M (k + 2))) (upA_self _ _).symm ?_
  refine v_lv [(3, .int (nI 0)), (2, .int (tpI 0)), (0, .ref (gb G + k)), (1, .ref (gb G + a))] (by rw [show tpI 0 = -1 by decide]) ?_
  refine v_sub [1, 0, 2, 3] [(2, .int (tpI 0)), (3, .int (nI 0)), (0, .ref (gb G + k)), (1, .ref (gb G + a))] rfl ?_
  exact LK _ 0 0 _ rfl (by omega) rfl ⟨rfl, fun j hj => absurd hj (Nat.not_lt_zero _)⟩
