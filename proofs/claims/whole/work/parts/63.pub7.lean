theorem min_nI {a b : Nat} (ha : a < 2 ^ 31) (hb : b < 2 ^ 31) : minS (nI a) (nI b) = nI (min a b) := by
  unfold minS
  by_cases h : nI b < nI a
  · rw [if_pos h]
    have := (nI_ltI hb ha).mp h
    congr 1; omega
  · rw [if_neg h]
    have h2 : ¬ b < a := fun q => h ((nI_ltI hb ha).mpr q)
    congr 1; omega
theorem slp_go {M : Mm} {s c n z k q : Nat} {Z : Nat → Int32} (h : q < z ∧ (q = c ∨ nI 0 ≤ M 219 (24 * s + q) ∧ M 219 (24 * s + q) ≤ nI 99)) : slpG M s c n z (k + 1) q Z = slpG M s c n z k (q + 1) (upd Z (67 + 10 * c + q) (if q = c then nI 0 else M 219 (24 * s + q))) := if_pos h
theorem slp_no {M : Mm} {s c n z k q : Nat} {Z : Nat → Int32} (h : ¬ (q < z ∧ (q = c ∨ nI 0 ≤ M 219 (24 * s + q) ∧ M 219 (24 * s + q) ≤ nI 99))) : slpG M s c n z (k + 1) q Z = (q, Z) := if_neg h
theorem slp_end {M : Mm} {s c n z q : Nat} {Z : Nat → Int32} (h : q = min z n) : slpG M s c n z (n - q) q Z = (q, Z) := by
  by_cases e : n ≤ z
  · rw [show n - q = 0 by omega]; rfl
  · rw [show n - q = (n - (q + 1)) + 1 by omega]
    exact slp_no (fun x => by omega)
theorem flm_go {M : Mm} {Q : Nat → Int32} {s z k c : Nat} (h : c < z ∧ M 219 (24 * s + c) = Q (7 + 6 * c + 4)) : flmG M Q s z (k + 1) c = flmG M Q s z k (c + 1) := if_pos h
theorem flm_no {M : Mm} {Q : Nat → Int32} {s z k c : Nat} (h : ¬ (c < z ∧ M 219 (24 * s + c) = Q (7 + 6 * c + 4))) : flmG M Q s z (k + 1) c = c := if_neg h
theorem flm_end {M : Mm} {Q : Nat → Int32} {s z n c : Nat} (h : c = min z n) : flmG M Q s z (n - c) c = c := by
  by_cases e : n ≤ z
  · rw [show n - c = 0 by omega]; rfl
  · rw [show n - c = (n - (c + 1)) + 1 by omega]
    exact flm_no (fun x => by omega)
theorem yk_like {Y : Nat → Int32} {n hN c o : Nat} (hY : YOk Y n hN) (hc : c < 10) (ho : o < 10) (v : Int32) : YOk (upd Y (67 + 10 * c + o) v) n hN := yk_upd hY _ (by omega) (fun d hd => by have := hY.1.2.1; omega) (fun d hd => by have := hY.1.2.1; omega)
set_option maxHeartbeats 4000000 in
set_option maxRecDepth 100000 in
theorem x_slips (l : Launch) (G : GC) (M : Mm) (Y : Nat → Int32) (n hN : Nat) (hR : YR M 1 Y n hN) (hY : YOk Y n hN) (hI : yI Y n) (hJ : yJ Y n) (R : Mm) (hS : shR M (R 217) (R 218) (R 219)) (hz : shOk R) (sheet child : Int32) : CI l G 3 yX9_slips cX9_slips 7 .int [.ref (gb G + 0), .int sheet, .int child] M ((slipsS Y R n sheet child).2.1) (PubC M (slipsS Y R n sheet child).2.2 n hN (slipsS Y R n sheet child).1) := by
  refine Con.of (by decide +kernel) (Nat.le_of_ble_eq_true rfl) ?_
  intro f C hRm hRt _
  have hn2 := hY.1.2.1
  have h5 := hY.1.2.2.2
  have LSs : ∀ s c z, s < 4 → c < n → z ≤ 24 → R 218 s = nI z → ¬ R 217 s = 0 → (nI 0 ≤ nI s ∧ nI s ≤ nI 3) → (nI 0 ≤ nI c ∧ nI c ≤ Y 0 - nI 1) → sheet = nI s → child = nI c → Vc f G NPh M 60 [(5, .int (nI 0)), (4, .int (nI (min z n))), (3, .ref (gb G + (197 + 2 * s))), (0, .ref (gb G + 0)), (1, .int (nI s)), (2, .int (nI c))] [] := by
    intro s c z hs hc hz1 hz2 hmi hss hcc e1 e2
    subst e1 e2
    have LS : ∀ (kk : Nat) (o : Nat) (Zf : Nat → Int32) (X : Mm), min z n - o = kk → o ≤ min z n → slpG R s c n z (n - o) o Zf = slpG R s c n z n 0 Y → YOk Zf n hN → Zf (67 + 10 * c + c) = nI 0 → YR X 1 Zf n hN → okG M X → Vc f G NPh X 60 [(5, .int (nI o)), (4, .int (nI (min z n))), (3, .ref (gb G + (197 + 2 * s))), (0, .ref (gb G + 0)), (1, .int (nI s)), (2, .int (nI c))] [] := by
      intro kk
      induction kk using Nat.strongRecOn with
      | _ kk ihLS =>
        intro o Zf X hkk ho hg hYz hself hRX hFX
        refine v_iload C 0 dX9_slips_60 rfl ?_
        refine v_iload C 1 dX9_slips_62 rfl ?_
        refine n_icmp_ge C (by omega) (by omega) 119 dX9_slips_64 rfl (fun h_64 => ?_) (fun h_64 => ?_)
        · skip
          refine v_iload C 1 dX9_slips_119 rfl ?_
          have hG : slpG R s c n z n 0 Y = (o, Zf) := hg.symm.trans (slp_end (by omega))
          have hQ : slipsS Y R n (nI s) (nI c) = (0, nI o, Zf) := by unfold slipsS zS; rw [if_pos hss, if_pos hcc, nI_clamp (by omega), nI_clamp (by omega), if_neg hmi, show cN (R 218) s = z from cN_of hz2 (by omega), hG]
          exact n_iret C hRt rfl dX9_slips_121 (by rw [hQ]; exact congrArg nI (by omega)) (by rw [hQ]; exact pc_ok hRX hFX)
        · skip
          refine v_aload_n C 2 dX9_slips_67 rfl ?_
          refine g_X9_280 C (show 197 + 2 * s < 221 from by omega) (s_sh (by omega)) dX9_slips_68 ?_
          refine v_iload C 0 dX9_slips_71 rfl ?_
          refine v_iald C (show 197 + 2 * s + 1 < 221 from by omega) (s_sn (by omega)) (by omega) (by decide) dX9_slips_73 ?_
          refine v_top (R 219 (24 * s + o)) ((congrFun (hFX _ (by omega)) o).trans ((hS s (by omega)).2.2 o (by omega))) ?_
          refine v_istore C [(6, .int (R 219 (24 * s + o))), (5, .int (nI o)), (4, .int (nI (min z n))), (3, .ref (gb G + (197 + 2 * s))), (0, .ref (gb G + 0)), (1, .int (nI s)), (2, .int (nI c))] dX9_slips_74 (by decide) rfl ?_
          refine v_iload C 1 dX9_slips_76 rfl ?_
          refine v_iload_n C 6 dX9_slips_78 rfl ?_
          refine n_icmp_eq C (by omega) (by omega) 113 dX9_slips_79 rfl (fun h_79 => ?_) (fun h_79 => ?_)
          · skip
            refine v_iinc C (nI (o + 1)) 1 [(5, .int (nI (o + 1))), (6, .int (R 219 (24 * s + o))), (4, .int (nI (min z n))), (3, .ref (gb G + (197 + 2 * s))), (0, .ref (gb G + 0)), (1, .int (nI s)), (2, .int (nI c))] dX9_slips_113 rfl (nI_add _ _) (by decide) rfl ?_
            refine v_goto C 60 dX9_slips_116 rfl ?_
            refine v_sub [0, 2, 3, 4, 5, 6] [(5, .int (nI (o + 1))), (4, .int (nI (min z n))), (3, .ref (gb G + (197 + 2 * s))), (0, .ref (gb G + 0)), (1, .int (nI s)), (2, .int (nI c))] rfl ?_
            exact ihLS _ (by omega) (o + 1) Zf X rfl (by omega) (by rw [← hg, show n - o = (n - (o + 1)) + 1 by omega, slp_go ⟨by omega, Or.inl h_79⟩]; subst h_79; rw [if_pos rfl, upd_self Zf hself]) hYz hself hRX hFX
          · skip
            refine v_iload C 0 dX9_slips_82 rfl ?_
            refine v_iconst C (nI 0) dX9_slips_84 (by decide) ?_
            refine v_bipush C (nI 99) dX9_slips_85 (by decide) ?_
            refine n_callSp C hRm [.int (R 219 (24 * s + o)), .int (nI 0), .int (nI 99)] cw_X9_outside st_X9_outside ml_X9_54 (c_outside l G X (R 219 (24 * s + o)) (nI 0) (nI 99)) (by decide) rfl rfl (Nat.le_of_ble_eq_true rfl) dX9_slips_87 ?_
            refine nb_if_eq C 96 dX9_slips_90 rfl (fun h_90 => ?_) (fun h_90 => ?_)
            · skip
              refine v_aload_n C 4 dX9_slips_96 rfl ?_
              refine g_X9_10 C (by decide) (show shp 0 = 9 from by decide +kernel) dX9_slips_97 ?_
              refine g_X9_66 C (by decide) (s_y (by decide)) dX9_slips_100 ?_
              refine v_iload_n C 6 dX9_slips_103 rfl ?_
              refine v_aald C rfl (by decide) (show shp 2 = 20 from by decide +kernel) (by decide) (by decide) (show c < 10 from by omega) (by decide) (1 + 20 + 3 * c) (by simp only [aOff] <;> omega) dX9_slips_104 ?_
              refine g_X9_98 C (show 1 + 20 + 3 * c < 221 from by omega) (s_ch (by decide) (by omega)) dX9_slips_105 ?_
              refine v_iload C 1 dX9_slips_108 rfl ?_
              refine v_iload C 0 dX9_slips_110 rfl ?_
              refine v_iast C (show 1 + 20 + 3 * c + 1 < 221 from by omega) (s_lk (by decide) (by omega)) (by omega) (by decide) dX9_slips_112 ?_
              have hRq1 : YR (up2 X (1 + 20 + 3 * c + 1) o (R 219 (24 * s + o))) 1 (upd Zf (67 + 10 * c + o) (R 219 (24 * s + o))) n hN := hRX.wlk (c := c) (o := o) (by omega) (by omega) (by omega) (YOk.t4 hYz) (YOk.t5 hYz) _
              have hFq1 : okG M (up2 X (1 + 20 + 3 * c + 1) o (R 219 (24 * s + o))) := hFX.tr (Fr.up (y := 1) _ (by omega))
              have hKq2 : YOk (upd Zf (67 + 10 * c + o) (R 219 (24 * s + o))) n hN := yk_like hYz (by omega) (by omega) _
              refine v_iinc C (nI (o + 1)) 1 [(5, .int (nI (o + 1))), (6, .int (R 219 (24 * s + o))), (4, .int (nI (min z n))), (3, .ref (gb G + (197 + 2 * s))), (0, .ref (gb G + 0)), (1, .int (nI s)), (2, .int (nI c))] dX9_slips_113 rfl (nI_add _ _) (by decide) rfl ?_
              refine v_goto C 60 dX9_slips_116 rfl ?_
              refine v_sub [0, 2, 3, 4, 5, 6] [(5, .int (nI (o + 1))), (4, .int (nI (min z n))), (3, .ref (gb G + (197 + 2 * s))), (0, .ref (gb G + 0)), (1, .int (nI s)), (2, .int (nI c))] rfl ?_
              exact ihLS _ (by omega) (o + 1) (upd Zf (67 + 10 * c + o) (R 219 (24 * s + o))) (up2 X (1 + 20 + 3 * c + 1) o (R 219 (24 * s + o))) rfl (by omega) (by rw [← hg, show n - o = (n - (o + 1)) + 1 by omega, slp_go ⟨by omega, Or.inr (Decidable.not_not.mp h_90)⟩]; rw [if_neg h_79]) hKq2 ((upd_ne _ _ (by omega)).trans hself) hRq1 hFq1
            · skip
              refine v_iload C 1 dX9_slips_93 rfl ?_
              have hG : slpG R s c n z n 0 Y = (o, Zf) := hg.symm.trans ((by rw [show n - o = (n - (o + 1)) + 1 by omega]; exact slp_no (fun x => x.2.elim h_79 h_90)))
              have hQ : slipsS Y R n (nI s) (nI c) = (0, nI o, Zf) := by unfold slipsS zS; rw [if_pos hss, if_pos hcc, nI_clamp (by omega), nI_clamp (by omega), if_neg hmi, show cN (R 218) s = z from cN_of hz2 (by omega), hG]
              exact n_iret C hRt rfl dX9_slips_95 (by rw [hQ]) (by rw [hQ]; exact pc_ok hRX hFX)
    exact LS _ 0 Y M rfl (Nat.zero_le _) rfl hY (hJ.2.1 c (by omega)) hR (okG.rf M)
  show Vc f G NPh M 0 [(0, .ref (gb G + 0)), (1, .int sheet), (2, .int child)] []
  refine v_iload_n C 1 dX9_slips_0 rfl ?_
  refine n_callSp C hRm [.int sheet] cw_X9_noSheet st_X9_noSheet ml_X9_260 (c_noSheet l G M sheet) (by decide) rfl rfl (Nat.le_of_ble_eq_true rfl) dX9_slips_1 ?_
  refine nb_if_ne C 15 dX9_slips_4 rfl (fun h_4 => ?_) (fun h_4 => ?_)
  · skip
    refine v_aload_n C 0 dX9_slips_15 rfl ?_
    refine v_iconst C (nI 1) dX9_slips_16 (by decide) ?_
    refine n_callVi C hRm [.int (nI 1)] cw_X9_error ml_X9_58 (by decide) (show shp 0 = 9 from by decide +kernel) (by decide) rfl (c_error l G M 1 (by decide)) (by decide) rfl rfl (Nat.le_of_ble_eq_true rfl) dX9_slips_17 (fun M5 hP_17 => ?_)
    subst hP_17
    have hS : slipsS Y R n sheet child = er 1 Y := by unfold slipsS; (try rw [nI_clamp (by omega)]); (try rw [nI_clamp (by omega)]); (try rw [nI_clamp (by omega)]); (first | rw [if_neg h_4] | rw [if_pos (Decidable.not_not.mp h_4)] | rw [if_pos h_4] | rw [if_pos (congrArg nI h_4)] | rw [if_neg (fun q9 => h_4 ((nI_eq (by omega) (by omega)).mp q9))] | rw [if_neg (Nat.not_le.mpr h_4)] | rw [if_neg (Nat.not_lt.mpr h_4)] | skip); all_goals rfl
    exact n_iret C hRt (rfl) dX9_slips_20 (by rw [hS] <;> rfl) (by rw [hS]; exact pc_er hR (okG.rf M) (show (1 : Nat) ≠ 0 by decide))
  · skip
    obtain ⟨s, hs, rfl⟩ := within_nat (by decide) (Decidable.not_not.mp h_4)
    refine v_aload_n C 0 dX9_slips_7 rfl ?_
    refine v_iload_n C 2 dX9_slips_8 rfl ?_
    refine n_callVp C hRm [.int child] cw_X9_noChild ml_X9_84 (by decide) (show shp 0 = 9 from by decide +kernel) (by decide) rfl (c_noChild l G M Y _ _ hR hY child) (by decide) rfl rfl (Nat.le_of_ble_eq_true rfl) dX9_slips_9 ?_
    refine nb_if_eq C 21 dX9_slips_12 rfl (fun h_12 => ?_) (fun h_12 => ?_)
    · skip
      obtain ⟨c, hc, rfl⟩ := is_nat hY.1.1 hY.1.2.1 (Decidable.not_not.mp h_12)
      refine v_aload_n C 0 dX9_slips_21 rfl ?_
      refine g_X9_45 C (by decide) (show shp 0 = 9 from by decide +kernel) dX9_slips_22 ?_
      refine v_iload_n C 1 dX9_slips_25 rfl ?_
      refine v_aald C rfl (by decide) (show shp 195 = 23 from by decide +kernel) (by decide) (by decide) (show s < 4 from by omega) (by decide) (197 + 2 * s) (by simp only [aOff] <;> omega) dX9_slips_26 ?_
      refine v_astore_n C [(3, .ref (gb G + (197 + 2 * s))), (0, .ref (gb G + 0)), (1, .int (nI s)), (2, .int (nI c))] dX9_slips_27 rfl (by decide) rfl ?_
      refine v_aload_n C 0 dX9_slips_28 rfl ?_
      refine n_callVp C hRm [] cw_X5_isMissing ml_X9_266 (show 197 + 2 * s < 221 from by omega) (s_sh (by omega)) (by decide) rfl (s_missing l G M (197 + 2 * s) (by omega) (s_sh (by omega))) (by decide) rfl rfl (Nat.le_of_ble_eq_true rfl) dX9_slips_29 ?_
      refine v_top (b2i (R 217 s = 0)) (by rw [(hS s (by omega)).1]) ?_
      refine nb_if_eq C 41 dX9_slips_32 rfl (fun h_32 => ?_) (fun h_32 => ?_)
      · skip
        refine v_aload_n C 0 dX9_slips_41 rfl ?_
        refine g_X9_269 C (show 197 + 2 * s < 221 from by omega) (s_sh (by omega)) dX9_slips_42 ?_
        obtain ⟨z, hz1, hz2⟩ := hz s (by omega)
        refine v_top (nI z) ((hS s (by omega)).2.1.trans hz2) ?_
        refine v_aload_n C 1 dX9_slips_45 rfl ?_
        refine g_X9_10 C (by decide) (show shp 0 = 9 from by decide +kernel) dX9_slips_46 ?_
        refine g_X9_62 C (by decide) (s_y (by decide)) dX9_slips_49 ?_
        refine v_top (nI n) (hR.n) ?_
        refine v_mmin C hRm (by decide) ml_X9_287 (Nat.le_of_ble_eq_true rfl) dX9_slips_52 ?_
        refine v_top (minS (nI z) (nI n)) rfl ?_
        refine v_top (nI (min z n)) (min_nI (by omega) (by omega)) ?_
        refine v_istore C [(4, .int (nI (min z n))), (3, .ref (gb G + (197 + 2 * s))), (0, .ref (gb G + 0)), (1, .int (nI s)), (2, .int (nI c))] dX9_slips_55 (by decide) rfl ?_
        refine v_iconst C (nI 0) dX9_slips_57 (by decide) ?_
        refine v_istore C [(5, .int (nI 0)), (4, .int (nI (min z n))), (3, .ref (gb G + (197 + 2 * s))), (0, .ref (gb G + 0)), (1, .int (nI s)), (2, .int (nI c))] dX9_slips_58 (by decide) rfl ?_
        refine v_sub [0, 1, 2, 3, 4, 5] [(5, .int (nI 0)), (4, .int (nI (min z n))), (3, .ref (gb G + (197 + 2 * s))), (0, .ref (gb G + 0)), (1, .int (nI s)), (2, .int (nI c))] rfl ?_
        exact LSs s c z (by omega) hc hz1 hz2 h_32 (Decidable.not_not.mp h_4) (Decidable.not_not.mp h_12) rfl rfl
      · skip
        refine v_aload_n C 1 dX9_slips_35 rfl ?_
        refine v_iconst C (nI 2) dX9_slips_36 (by decide) ?_
        refine n_callVi C hRm [.int (nI 2)] cw_X9_error ml_X9_58 (by decide) (show shp 0 = 9 from by decide +kernel) (by decide) rfl (c_error l G M 2 (by decide)) (by decide) rfl rfl (Nat.le_of_ble_eq_true rfl) dX9_slips_37 (fun M5 hP_37 => ?_)
        subst hP_37
        have hS : slipsS Y R n (nI s) (nI c) = er 2 Y := by unfold slipsS; (try rw [nI_clamp (by omega)]); (try rw [nI_clamp (by omega)]); (try rw [nI_clamp (by omega)]); (first | rw [if_neg h_4] | rw [if_pos (Decidable.not_not.mp h_4)] | rw [if_pos h_4] | rw [if_pos (congrArg nI h_4)] | rw [if_neg (fun q9 => h_4 ((nI_eq (by omega) (by omega)).mp q9))] | rw [if_neg (Nat.not_le.mpr h_4)] | rw [if_neg (Nat.not_lt.mpr h_4)] | skip); (first | rw [if_neg h_12] | rw [if_pos (Decidable.not_not.mp h_12)] | rw [if_pos h_12] | rw [if_pos (congrArg nI h_12)] | rw [if_neg (fun q9 => h_12 ((nI_eq (by omega) (by omega)).mp q9))] | rw [if_neg (Nat.not_le.mpr h_12)] | rw [if_neg (Nat.not_lt.mpr h_12)] | skip); (first | rw [if_neg h_32] | rw [if_pos (Decidable.not_not.mp h_32)] | rw [if_pos h_32] | rw [if_pos (congrArg nI h_32)] | rw [if_neg (fun q9 => h_32 ((nI_eq (by omega) (by omega)).mp q9))] | rw [if_neg (Nat.not_le.mpr h_32)] | rw [if_neg (Nat.not_lt.mpr h_32)] | skip); all_goals rfl
        exact n_iret C hRt (rfl) dX9_slips_40 (by rw [hS] <;> rfl) (by rw [hS]; exact pc_er hR (okG.rf M) (show (2 : Nat) ≠ 0 by decide))
    · skip
      refine v_aload_n C 0 dX9_slips_15 rfl ?_
      refine v_iconst C (nI 1) dX9_slips_16 (by decide) ?_
      refine n_callVi C hRm [.int (nI 1)] cw_X9_error ml_X9_58 (by decide) (show shp 0 = 9 from by decide +kernel) (by decide) rfl (c_error l G M 1 (by decide)) (by decide) rfl rfl (Nat.le_of_ble_eq_true rfl) dX9_slips_17 (fun M5 hP_17 => ?_)
      subst hP_17
      have hS : slipsS Y R n (nI s) child = er 1 Y := by unfold slipsS; (try rw [nI_clamp (by omega)]); (try rw [nI_clamp (by omega)]); (try rw [nI_clamp (by omega)]); (first | rw [if_neg h_4] | rw [if_pos (Decidable.not_not.mp h_4)] | rw [if_pos h_4] | rw [if_pos (congrArg nI h_4)] | rw [if_neg (fun q9 => h_4 ((nI_eq (by omega) (by omega)).mp q9))] | rw [if_neg (Nat.not_le.mpr h_4)] | rw [if_neg (Nat.not_lt.mpr h_4)] | skip); (first | rw [if_neg h_12] | rw [if_pos (Decidable.not_not.mp h_12)] | rw [if_pos h_12] | rw [if_pos (congrArg nI h_12)] | rw [if_neg (fun q9 => h_12 ((nI_eq (by omega) (by omega)).mp q9))] | rw [if_neg (Nat.not_le.mpr h_12)] | rw [if_neg (Nat.not_lt.mpr h_12)] | skip); all_goals rfl
      exact n_iret C hRt (rfl) dX9_slips_20 (by rw [hS] <;> rfl) (by rw [hS]; exact pc_er hR (okG.rf M) (show (1 : Nat) ≠ 0 by decide))
set_option maxHeartbeats 4000000 in
set_option maxRecDepth 100000 in
theorem x_film (l : Launch) (G : GC) (M : Mm) (Y : Nat → Int32) (n hN : Nat) (hR : YR M 1 Y n hN) (hY : YOk Y n hN) (hI : yI Y n) (hJ : yJ Y n) (R : Mm) (hS : shR M (R 217) (R 218) (R 219)) (hz : shOk R) (sheet k : Int32) : CI l G 8 yX9_film cX9_film 6 .int [.ref (gb G + 0), .int sheet, .int k] M ((filmS Y R n hN sheet k).2.1) (PubC M (filmS Y R n hN sheet k).2.2 n hN (filmS Y R n hN sheet k).1) := by
  refine Con.of (by decide +kernel) (Nat.le_of_ble_eq_true rfl) ?_
  intro f C hRm hRt _
  have hn2 := hY.1.2.1
  have h5 := hY.1.2.2.2
  have LFs : ∀ s j z X, s < 4 → j ≤ 60 → z ≤ 24 → R 218 s = nI z → ¬ R 217 s = 0 → (nI 0 ≤ nI s ∧ nI s ≤ nI 3) → (nI 0 ≤ nI j ∧ nI j ≤ nI 60) → sheet = nI s → k = nI j → YR X 62 (passS Y n hN j) n hN → YR X 1 Y n hN → okG M X → Vc f G NPh X 78 [(5, .int (nI 0)), (4, .int (nI (min z n))), (3, .ref (gb G + (197 + 2 * s))), (0, .ref (gb G + 0)), (1, .int (nI s)), (2, .int (nI j))] [] := by
    intro s j z X hs hj hz1 hz2 hmi hss hjj e1 e2 hRA hRX hFX
    subst e1 e2
    have LF : ∀ (kk : Nat) (c : Nat), min z n - c = kk → c ≤ min z n → flmG R (passS Y n hN j) s z (n - c) c = flmG R (passS Y n hN j) s z n 0 → Vc f G NPh X 78 [(5, .int (nI c)), (4, .int (nI (min z n))), (3, .ref (gb G + (197 + 2 * s))), (0, .ref (gb G + 0)), (1, .int (nI s)), (2, .int (nI j))] [] := by
      intro kk
      induction kk using Nat.strongRecOn with
      | _ kk ihLF =>
        intro c hkk hc hg
        refine v_iload C 0 dX9_film_78 rfl ?_
        refine v_iload C 1 dX9_film_80 rfl ?_
        refine n_icmp_ge C (by omega) (by omega) 117 dX9_film_82 rfl (fun h_82 => ?_) (fun h_82 => ?_)
        · skip
          refine v_iload C 1 dX9_film_117 rfl ?_
          have hG : flmG R (passS Y n hN j) s z n 0 = c := hg.symm.trans (flm_end (by omega))
          have hQ : filmS Y R n hN (nI s) (nI j) = (0, nI c, Y) := by unfold filmS zS; rw [if_pos hss, if_pos hjj, nI_clamp (by omega), nI_clamp (by omega), if_neg hmi, show cN (R 218) s = z from cN_of hz2 (by omega), hG]
          exact n_iret C hRt rfl dX9_film_119 (by rw [hQ]; exact congrArg nI (by omega)) (by rw [hQ]; exact pc_ok hRX hFX)
        · skip
          refine v_aload_n C 2 dX9_film_85 rfl ?_
          refine g_X9_280 C (show 197 + 2 * s < 221 from by omega) (s_sh (by omega)) dX9_film_86 ?_
          refine v_iload C 0 dX9_film_89 rfl ?_
          refine v_iald C (show 197 + 2 * s + 1 < 221 from by omega) (s_sn (by omega)) (by omega) (by decide) dX9_film_91 ?_
          refine v_top (R 219 (24 * s + c)) ((congrFun (hFX _ (by omega)) c).trans ((hS s (by omega)).2.2 c (by omega))) ?_
          refine v_aload_n C 3 dX9_film_92 rfl ?_
          refine g_X9_16 C (by decide) (show shp 0 = 9 from by decide +kernel) dX9_film_93 ?_
          refine g_X9_66 C (by decide) (s_y (by decide)) dX9_film_96 ?_
          refine v_iload C 0 dX9_film_99 rfl ?_
          refine v_aald C rfl (by decide) (show shp 63 = 20 from by decide +kernel) (by decide) (by decide) (show c < 10 from by omega) (by decide) (62 + 20 + 3 * c) (by simp only [aOff] <;> omega) dX9_film_101 ?_
          refine g_X9_128 C (show 62 + 20 + 3 * c < 221 from by omega) (s_ch (by decide) (by omega)) dX9_film_102 ?_
          refine v_top ((passS Y n hN j) (7 + 6 * c + 4)) (hRA.at (by omega) (by omega)) ?_
          refine v_icmp_eq C 111 dX9_film_105 rfl (fun h_105 => ?_) (fun h_105 => ?_)
          · skip
            refine v_iinc C (nI (c + 1)) 0 [(5, .int (nI (c + 1))), (4, .int (nI (min z n))), (3, .ref (gb G + (197 + 2 * s))), (0, .ref (gb G + 0)), (1, .int (nI s)), (2, .int (nI j))] dX9_film_111 rfl (nI_add _ _) (by decide) rfl ?_
            refine v_goto C 78 dX9_film_114 rfl ?_
            refine v_sub [0, 1, 2, 3, 4, 5] [(5, .int (nI (c + 1))), (4, .int (nI (min z n))), (3, .ref (gb G + (197 + 2 * s))), (0, .ref (gb G + 0)), (1, .int (nI s)), (2, .int (nI j))] rfl ?_
            exact ihLF _ (by omega) (c + 1) rfl (by omega) (by rw [← hg, show n - c = (n - (c + 1)) + 1 by omega, flm_go ⟨by omega, h_105⟩])
          · skip
            refine v_iload C 0 dX9_film_108 rfl ?_
            have hG : flmG R (passS Y n hN j) s z n 0 = c := hg.symm.trans ((by rw [show n - c = (n - (c + 1)) + 1 by omega]; exact flm_no (fun x => h_105 x.2)))
            have hQ : filmS Y R n hN (nI s) (nI j) = (0, nI c, Y) := by unfold filmS zS; rw [if_pos hss, if_pos hjj, nI_clamp (by omega), nI_clamp (by omega), if_neg hmi, show cN (R 218) s = z from cN_of hz2 (by omega), hG]
            exact n_iret C hRt rfl dX9_film_110 (by rw [hQ]) (by rw [hQ]; exact pc_ok hRX hFX)
    exact LF _ 0 rfl (Nat.zero_le _) rfl
  show Vc f G NPh M 0 [(0, .ref (gb G + 0)), (1, .int sheet), (2, .int k)] []
  refine v_iload_n C 1 dX9_film_0 rfl ?_
  refine n_callSp C hRm [.int sheet] cw_X9_noSheet st_X9_noSheet ml_X9_260 (c_noSheet l G M sheet) (by decide) rfl rfl (Nat.le_of_ble_eq_true rfl) dX9_film_1 ?_
  refine nb_if_ne C 14 dX9_film_4 rfl (fun h_4 => ?_) (fun h_4 => ?_)
  · skip
    refine v_aload_n C 0 dX9_film_14 rfl ?_
    refine v_iconst C (nI 1) dX9_film_15 (by decide) ?_
    refine n_callVi C hRm [.int (nI 1)] cw_X9_error ml_X9_58 (by decide) (show shp 0 = 9 from by decide +kernel) (by decide) rfl (c_error l G M 1 (by decide)) (by decide) rfl rfl (Nat.le_of_ble_eq_true rfl) dX9_film_16 (fun M5 hP_16 => ?_)
    subst hP_16
    have hS : filmS Y R n hN sheet k = er 1 Y := by unfold filmS; (try rw [nI_clamp (by omega)]); (try rw [nI_clamp (by omega)]); (try rw [nI_clamp (by omega)]); (first | rw [if_neg h_4] | rw [if_pos (Decidable.not_not.mp h_4)] | rw [if_pos h_4] | rw [if_pos (congrArg nI h_4)] | rw [if_neg (fun q9 => h_4 ((nI_eq (by omega) (by omega)).mp q9))] | rw [if_neg (Nat.not_le.mpr h_4)] | rw [if_neg (Nat.not_lt.mpr h_4)] | skip); all_goals rfl
    exact n_iret C hRt (rfl) dX9_film_19 (by rw [hS] <;> rfl) (by rw [hS]; exact pc_er hR (okG.rf M) (show (1 : Nat) ≠ 0 by decide))
  · skip
    obtain ⟨s, hs, rfl⟩ := within_nat (by decide) (Decidable.not_not.mp h_4)
    refine v_iload_n C 2 dX9_film_7 rfl ?_
    refine n_callSp C hRm [.int k] cw_X9_notAhead st_X9_notAhead ml_X9_229 (c_notAhead l G M k) (by decide) rfl rfl (Nat.le_of_ble_eq_true rfl) dX9_film_8 ?_
    refine nb_if_eq C 20 dX9_film_11 rfl (fun h_11 => ?_) (fun h_11 => ?_)
    · skip
      obtain ⟨j, hj, rfl⟩ := within_nat (by decide) (Decidable.not_not.mp h_11)
      refine v_aload_n C 0 dX9_film_20 rfl ?_
      refine g_X9_45 C (by decide) (show shp 0 = 9 from by decide +kernel) dX9_film_21 ?_
      refine v_iload_n C 1 dX9_film_24 rfl ?_
      refine v_aald C rfl (by decide) (show shp 195 = 23 from by decide +kernel) (by decide) (by decide) (show s < 4 from by omega) (by decide) (197 + 2 * s) (by simp only [aOff] <;> omega) dX9_film_25 ?_
      refine v_astore_n C [(3, .ref (gb G + (197 + 2 * s))), (0, .ref (gb G + 0)), (1, .int (nI s)), (2, .int (nI j))] dX9_film_26 rfl (by decide) rfl ?_
      refine v_aload_n C 0 dX9_film_27 rfl ?_
      refine n_callVp C hRm [] cw_X5_isMissing ml_X9_266 (show 197 + 2 * s < 221 from by omega) (s_sh (by omega)) (by decide) rfl (s_missing l G M (197 + 2 * s) (by omega) (s_sh (by omega))) (by decide) rfl rfl (Nat.le_of_ble_eq_true rfl) dX9_film_28 ?_
      refine v_top (b2i (R 217 s = 0)) (by rw [(hS s (by omega)).1]) ?_
      refine nb_if_eq C 40 dX9_film_31 rfl (fun h_31 => ?_) (fun h_31 => ?_)
      · skip
        refine v_aload_n C 1 dX9_film_40 rfl ?_
        refine g_X9_16 C (by decide) (show shp 0 = 9 from by decide +kernel) dX9_film_41 ?_
        refine v_aload_n C 1 dX9_film_44 rfl ?_
        refine g_X9_10 C (by decide) (show shp 0 = 9 from by decide +kernel) dX9_film_45 ?_
        refine n_callVv C hRm [.ref (gb G + 1)] cw_X8_takeFrom ml_X9_232 (by decide) (s_y (by decide)) (by decide) rfl (y_take l G M 62 1 (by decide) (by decide) (by decide) Y _ _ hR hY) (by decide) rfl rfl (Nat.le_of_ble_eq_true rfl) dX9_film_48 (fun Mq1 hP_48 => ?_)
        obtain ⟨hRq1, hFq1⟩ := hP_48
        have hRq1o := hR.fr (fun a h1 h2 => hFq1 a (by omega))
        have hGq1 := (okG.rf M).tr hFq1
        refine v_aload_n C 1 dX9_film_51 rfl ?_
        refine g_X9_16 C (by decide) (show shp 0 = 9 from by decide +kernel) dX9_film_52 ?_
        refine v_iload_n C 3 dX9_film_55 rfl ?_
        refine n_callVv C hRm [.int (nI j)] cw_X8_pass ml_X9_192 (by decide) (s_y (by decide)) (by decide) rfl (y_pass l G Mq1 62 (by decide) Y _ _ hRq1 hY hI j (by omega)) (by decide) rfl rfl (Nat.le_of_ble_eq_true rfl) dX9_film_56 (fun Mq2 hP_56 => ?_)
        obtain ⟨hRq2, hFq2⟩ := hP_56
        have hRq2o := hRq1o.fr (fun a h1 h2 => hFq2 a (by omega))
        have hGq2 := hGq1.tr hFq2
        refine v_aload_n C 0 dX9_film_59 rfl ?_
        refine g_X9_269 C (show 197 + 2 * s < 221 from by omega) (s_sh (by omega)) dX9_film_60 ?_
        obtain ⟨z, hz1, hz2⟩ := hz s (by omega)
        refine v_top (nI z) ((congrFun (hGq2 _ (by omega)) 1).trans ((hS s (by omega)).2.1.trans hz2)) ?_
        refine v_aload_n C 1 dX9_film_63 rfl ?_
        refine g_X9_16 C (by decide) (show shp 0 = 9 from by decide +kernel) dX9_film_64 ?_
        refine g_X9_62 C (by decide) (s_y (by decide)) dX9_film_67 ?_
        refine v_top (nI n) (hRq2.n) ?_
        refine v_mmin C hRm (by decide) ml_X9_287 (Nat.le_of_ble_eq_true rfl) dX9_film_70 ?_
        refine v_top (minS (nI z) (nI n)) rfl ?_
        refine v_top (nI (min z n)) (min_nI (by omega) (by omega)) ?_
        refine v_istore C [(4, .int (nI (min z n))), (3, .ref (gb G + (197 + 2 * s))), (0, .ref (gb G + 0)), (1, .int (nI s)), (2, .int (nI j))] dX9_film_73 (by decide) rfl ?_
        refine v_iconst C (nI 0) dX9_film_75 (by decide) ?_
        refine v_istore C [(5, .int (nI 0)), (4, .int (nI (min z n))), (3, .ref (gb G + (197 + 2 * s))), (0, .ref (gb G + 0)), (1, .int (nI s)), (2, .int (nI j))] dX9_film_76 (by decide) rfl ?_
        refine v_sub [0, 1, 2, 3, 4, 5] [(5, .int (nI 0)), (4, .int (nI (min z n))), (3, .ref (gb G + (197 + 2 * s))), (0, .ref (gb G + 0)), (1, .int (nI s)), (2, .int (nI j))] rfl ?_
        exact LFs s j z Mq2 (by omega) hj hz1 hz2 h_31 (Decidable.not_not.mp h_4) (Decidable.not_not.mp h_11) rfl rfl hRq2 hRq2o hGq2
      · skip
        refine v_aload_n C 1 dX9_film_34 rfl ?_
        refine v_iconst C (nI 2) dX9_film_35 (by decide) ?_
        refine n_callVi C hRm [.int (nI 2)] cw_X9_error ml_X9_58 (by decide) (show shp 0 = 9 from by decide +kernel) (by decide) rfl (c_error l G M 2 (by decide)) (by decide) rfl rfl (Nat.le_of_ble_eq_true rfl) dX9_film_36 (fun M5 hP_36 => ?_)
        subst hP_36
        have hS : filmS Y R n hN (nI s) (nI j) = er 2 Y := by unfold filmS; (try rw [nI_clamp (by omega)]); (try rw [nI_clamp (by omega)]); (try rw [nI_clamp (by omega)]); (first | rw [if_neg h_4] | rw [if_pos (Decidable.not_not.mp h_4)] | rw [if_pos h_4] | rw [if_pos (congrArg nI h_4)] | rw [if_neg (fun q9 => h_4 ((nI_eq (by omega) (by omega)).mp q9))] | rw [if_neg (Nat.not_le.mpr h_4)] | rw [if_neg (Nat.not_lt.mpr h_4)] | skip); (first | rw [if_neg h_11] | rw [if_pos (Decidable.not_not.mp h_11)] | rw [if_pos h_11] | rw [if_pos (congrArg nI h_11)] | rw [if_neg (fun q9 => h_11 ((nI_eq (by omega) (by omega)).mp q9))] | rw [if_neg (Nat.not_le.mpr h_11)] | rw [if_neg (Nat.not_lt.mpr h_11)] | skip); (first | rw [if_neg h_31] | rw [if_pos (Decidable.not_not.mp h_31)] | rw [if_pos h_31] | rw [if_pos (congrArg nI h_31)] | rw [if_neg (fun q9 => h_31 ((nI_eq (by omega) (by omega)).mp q9))] | rw [if_neg (Nat.not_le.mpr h_31)] | rw [if_neg (Nat.not_lt.mpr h_31)] | skip); all_goals rfl
        exact n_iret C hRt (rfl) dX9_film_39 (by rw [hS] <;> rfl) (by rw [hS]; exact pc_er hR (okG.rf M) (show (2 : Nat) ≠ 0 by decide))
    · skip
      refine v_aload_n C 0 dX9_film_14 rfl ?_
      refine v_iconst C (nI 1) dX9_film_15 (by decide) ?_
      refine n_callVi C hRm [.int (nI 1)] cw_X9_error ml_X9_58 (by decide) (show shp 0 = 9 from by decide +kernel) (by decide) rfl (c_error l G M 1 (by decide)) (by decide) rfl rfl (Nat.le_of_ble_eq_true rfl) dX9_film_16 (fun M5 hP_16 => ?_)
      subst hP_16
      have hS : filmS Y R n hN (nI s) k = er 1 Y := by unfold filmS; (try rw [nI_clamp (by omega)]); (try rw [nI_clamp (by omega)]); (try rw [nI_clamp (by omega)]); (first | rw [if_neg h_4] | rw [if_pos (Decidable.not_not.mp h_4)] | rw [if_pos h_4] | rw [if_pos (congrArg nI h_4)] | rw [if_neg (fun q9 => h_4 ((nI_eq (by omega) (by omega)).mp q9))] | rw [if_neg (Nat.not_le.mpr h_4)] | rw [if_neg (Nat.not_lt.mpr h_4)] | skip); (first | rw [if_neg h_11] | rw [if_pos (Decidable.not_not.mp h_11)] | rw [if_pos h_11] | rw [if_pos (congrArg nI h_11)] | rw [if_neg (fun q9 => h_11 ((nI_eq (by omega) (by omega)).mp q9))] | rw [if_neg (Nat.not_le.mpr h_11)] | rw [if_neg (Nat.not_lt.mpr h_11)] | skip); all_goals rfl
      exact n_iret C hRt (rfl) dX9_film_19 (by rw [hS] <;> rfl) (by rw [hS]; exact pc_er hR (okG.rf M) (show (1 : Nat) ≠ 0 by decide))
set_option maxHeartbeats 4000000 in
set_option maxRecDepth 100000 in
theorem x_body (l : Launch) (G : GC) (M : Mm) (Y : Nat → Int32) (n hN : Nat) (hR : YR M 1 Y n hN) (hY : YOk Y n hN) (hI : yI Y n) (hJ : yJ Y n) (TR : Nat → Int32) (T : Int32) (tr : Nat) (hT : M 193 1 = T) (hT2 : T = nI tr) (htr : tr ≤ 30) (hTR : ∀ i, i < tr → M 194 i = TR i) (i : Int32) : CI l G 2 yX9_body cX9_body 2 .int [.ref (gb G + 0), .int i] M ((bodyS Y TR T i).2.1) (PubC M (bodyS Y TR T i).2.2 n hN (bodyS Y TR T i).1) := by
  refine Con.of (by decide +kernel) (Nat.le_of_ble_eq_true rfl) ?_
  intro f C hRm hRt _
  have hn2 := hY.1.2.1
  have h5 := hY.1.2.2.2
  show Vc f G NPh M 0 [(0, .ref (gb G + 0)), (1, .int i)] []
  refine v_iload_n C 1 dX9_body_0 rfl ?_
  refine v_iconst C (nI 0) dX9_body_1 (by decide) ?_
  refine v_aload_n C 0 dX9_body_2 rfl ?_
  refine g_X9_39 C (by decide) (show shp 0 = 9 from by decide +kernel) dX9_body_3 ?_
  refine g_X9_254 C (by decide) (show shp 192 = 6 from by decide +kernel) dX9_body_6 ?_
  refine g_X9_153 C (by decide) (show shp 193 = 4 from by decide +kernel) dX9_body_9 ?_
  refine v_top (T) (hT) ?_
  refine v_iconst C (nI 1) dX9_body_12 (by decide) ?_
  refine v_isub C dX9_body_13 ?_
  refine n_callSp C hRm [.int i, .int (nI 0), .int (T - (nI 1))] cw_X9_outside st_X9_outside ml_X9_54 (c_outside l G M i (nI 0) (T - (nI 1))) (by decide) rfl rfl (Nat.le_of_ble_eq_true rfl) dX9_body_14 ?_
  refine nb_if_eq C 26 dX9_body_17 rfl (fun h_17 => ?_) (fun h_17 => ?_)
  · skip
    obtain ⟨a, ha, rfl⟩ := is_natB hT2 (by omega) (Decidable.not_not.mp h_17)
    refine v_aload_n C 0 dX9_body_26 rfl ?_
    refine g_X9_39 C (by decide) (show shp 0 = 9 from by decide +kernel) dX9_body_27 ?_
    refine g_X9_254 C (by decide) (show shp 192 = 6 from by decide +kernel) dX9_body_30 ?_
    refine g_X9_257 C (by decide) (show shp 193 = 4 from by decide +kernel) dX9_body_33 ?_
    refine v_iload_n C 1 dX9_body_36 rfl ?_
    refine v_iald C (by decide) (show shp 194 = 1000 + 30 from by decide +kernel) (by omega) (by decide) dX9_body_37 ?_
    refine v_top (TR a) (hTR a (by omega)) ?_
    have hS : bodyS Y TR T (nI a) = (0, TR a, Y) := by unfold bodyS; (try rw [nI_clamp (by omega)]); (try rw [nI_clamp (by omega)]); (try rw [nI_clamp (by omega)]); (first | rw [if_neg h_17] | rw [if_pos (Decidable.not_not.mp h_17)] | rw [if_pos h_17] | rw [if_pos (congrArg nI h_17)] | rw [if_neg (fun q9 => h_17 ((nI_eq (by omega) (by omega)).mp q9))] | rw [if_neg (Nat.not_le.mpr h_17)] | rw [if_neg (Nat.not_lt.mpr h_17)] | skip); all_goals rfl
    exact n_iret C hRt (rfl) dX9_body_38 (by rw [hS] <;> rfl) (by rw [hS]; exact pc_ok hR (okG.rf M))
  · skip
    refine v_aload_n C 0 dX9_body_20 rfl ?_
    refine v_iconst C (nI 2) dX9_body_21 (by decide) ?_
    refine n_callVi C hRm [.int (nI 2)] cw_X9_error ml_X9_58 (by decide) (show shp 0 = 9 from by decide +kernel) (by decide) rfl (c_error l G M 2 (by decide)) (by decide) rfl rfl (Nat.le_of_ble_eq_true rfl) dX9_body_22 (fun M5 hP_22 => ?_)
    subst hP_22
    have hS : bodyS Y TR T i = er 2 Y := by unfold bodyS; (try rw [nI_clamp (by omega)]); (try rw [nI_clamp (by omega)]); (try rw [nI_clamp (by omega)]); (first | rw [if_neg h_17] | rw [if_pos (Decidable.not_not.mp h_17)] | rw [if_pos h_17] | rw [if_pos (congrArg nI h_17)] | rw [if_neg (fun q9 => h_17 ((nI_eq (by omega) (by omega)).mp q9))] | rw [if_neg (Nat.not_le.mpr h_17)] | rw [if_neg (Nat.not_lt.mpr h_17)] | skip); all_goals rfl
    exact n_iret C hRt (rfl) dX9_body_25 (by rw [hS] <;> rfl) (by rw [hS]; exact pc_er hR (okG.rf M) (show (2 : Nat) ≠ 0 by decide))
set_option maxHeartbeats 4000000 in
set_option maxRecDepth 100000 in
theorem x_image (l : Launch) (G : GC) (M : Mm) (Y : Nat → Int32) (n hN : Nat) (hR : YR M 1 Y n hN) (hY : YOk Y n hN) (hI : yI Y n) (hJ : yJ Y n) : CI l G 4 yX9_image cX9_image 1 .int [.ref (gb G + 0)] M (M 0 8 + nI 1) (fun M' => YR M' 123 Y n hN ∧ YR M' 1 Y n hN ∧ M' 0 8 = M 0 8 + nI 1 ∧ ∀ a, a ≠ 0 → (a < 123 ∨ 184 ≤ a) → M' a = M a) := by
  refine Con.of (by decide +kernel) (Nat.le_of_ble_eq_true rfl) ?_
  intro f C hRm hRt _
  have hn2 := hY.1.2.1
  have h5 := hY.1.2.2.2
  show Vc f G NPh M 0 [(0, .ref (gb G + 0))] []
  refine v_aload_n C 0 dX9_image_0 rfl ?_
  refine g_X9_19 C (by decide) (show shp 0 = 9 from by decide +kernel) dX9_image_1 ?_
  refine v_aload_n C 0 dX9_image_4 rfl ?_
  refine g_X9_10 C (by decide) (show shp 0 = 9 from by decide +kernel) dX9_image_5 ?_
  refine n_callVv C hRm [.ref (gb G + 1)] cw_X8_takeFrom ml_X9_232 (by decide) (s_y (by decide)) (by decide) rfl (y_take l G M 123 1 (by decide) (by decide) (by decide) Y _ _ hR hY) (by decide) rfl rfl (Nat.le_of_ble_eq_true rfl) dX9_image_8 (fun M1 hP_8 => ?_)
  obtain ⟨hR1, hF1⟩ := hP_8
  have hR2 := hR.fr (fun a h1 h2 => hF1 a (by omega))
  have h08 : M1 0 8 = M 0 8 := congrFun (hF1 0 (by omega)) 8
  refine v_aload_n C 0 dX9_image_11 rfl ?_
  refine v_dup C dX9_image_12 rfl ?_
  refine g_X9_292 C (by decide) (show shp 0 = 9 from by decide +kernel) dX9_image_13 ?_
  refine v_top (M 0 8) (h08) ?_
  refine v_iconst C (nI 1) dX9_image_16 (by decide) ?_
  refine v_iadd C dX9_image_17 ?_
  refine p_X9_292 C (by decide) (show shp 0 = 9 from by decide +kernel) dX9_image_18 ?_
  refine v_aload_n C 0 dX9_image_21 rfl ?_
  refine g_X9_292 C (by decide) (show shp 0 = 9 from by decide +kernel) dX9_image_22 ?_
  refine v_top (M 0 8 + nI 1) (up2_at _ _ _ _) ?_
  exact n_iret C hRt rfl dX9_image_25 (by first | rfl | exact up2_at _ _ _ _) ⟨hR1.fr (fun a h1 h2 => up2_ne _ _ _ (by omega)), hR2.fr (fun a h1 h2 => up2_ne _ _ _ (by omega)), up2_at _ _ _ _, fun a h1 h2 => (up2_ne _ _ _ h1).trans (hF1 a (by omega))⟩
set_option maxHeartbeats 4000000 in
set_option maxRecDepth 100000 in
theorem x_restore (l : Launch) (G : GC) (M : Mm) (Y : Nat → Int32) (n hN : Nat) (hR : YR M 1 Y n hN) (hY : YOk Y n hN) (hI : yI Y n) (hJ : yJ Y n) (K : Nat → Int32) (n' hN' : Nat) (im : Int32) (him : M 0 8 = im) (hK : ¬ im = 0 → YR M 123 K n' hN' ∧ YOk K n' hN') : CI l G 4 yX9_restore cX9_restore 1 .int [.ref (gb G + 0)] M ((restoreS Y K im).2.1) (PubC M (restoreS Y K im).2.2 (if im = 0 then n else n') (if im = 0 then hN else hN') (restoreS Y K im).1) := by
  refine Con.of (by decide +kernel) (Nat.le_of_ble_eq_true rfl) ?_
  intro f C hRm hRt _
  have hn2 := hY.1.2.1
  have h5 := hY.1.2.2.2
  show Vc f G NPh M 0 [(0, .ref (gb G + 0))] []
  refine v_aload_n C 0 dX9_restore_0 rfl ?_
  refine g_X9_292 C (by decide) (show shp 0 = 9 from by decide +kernel) dX9_restore_1 ?_
  refine v_top (im) (him) ?_
  refine v_if_ne C 13 dX9_restore_4 rfl (fun h_4 => ?_) (fun h_4 => ?_)
  · skip
    have h0 : ¬ im = 0 := h_4
    refine v_aload_n C 0 dX9_restore_13 rfl ?_
    refine g_X9_10 C (by decide) (show shp 0 = 9 from by decide +kernel) dX9_restore_14 ?_
    refine v_aload_n C 0 dX9_restore_17 rfl ?_
    refine g_X9_19 C (by decide) (show shp 0 = 9 from by decide +kernel) dX9_restore_18 ?_
    refine n_callVv C hRm [.ref (gb G + 123)] cw_X8_takeFrom ml_X9_232 (by decide) (s_y (by decide)) (by decide) rfl (y_take l G M 1 123 (by decide) (by decide) (by decide) K _ _ (hK h0).1 (hK h0).2) (by decide) rfl rfl (Nat.le_of_ble_eq_true rfl) dX9_restore_21 (fun M1 hP_21 => ?_)
    obtain ⟨hR1, hF1⟩ := hP_21
    refine v_aload_n C 0 dX9_restore_24 rfl ?_
    refine g_X9_10 C (by decide) (show shp 0 = 9 from by decide +kernel) dX9_restore_25 ?_
    refine g_X9_188 C (by decide) (s_y (by decide)) dX9_restore_28 ?_
    have hQ : restoreS Y K im = (0, K 2, K) := if_neg h0
    exact n_iret C hRt rfl dX9_restore_31 (by rw [hQ]; exact hR1.1.2.2.1) (by rw [hQ, if_neg h0, if_neg h0]; exact pc_ok hR1 ((okG.rf M).tr hF1))
  · skip
    have h0 : im = 0 := h_4
    refine v_aload_n C 0 dX9_restore_7 rfl ?_
    refine v_iconst C (nI 2) dX9_restore_8 (by decide) ?_
    refine n_callVi C hRm [.int (nI 2)] cw_X9_error ml_X9_58 (by decide) (show shp 0 = 9 from by decide +kernel) (by decide) rfl (c_error l G M 2 (by decide)) (by decide) rfl rfl (Nat.le_of_ble_eq_true rfl) dX9_restore_9 (fun M5 hP_9 => ?_)
    subst hP_9
    have hQ : restoreS Y K im = er 2 Y := if_pos h0
    exact n_iret C hRt rfl dX9_restore_12 (by rw [hQ] <;> rfl) (by rw [hQ, if_pos h0, if_pos h0]; exact pc_er hR (okG.rf M) (show (2 : Nat) ≠ 0 by decide))
