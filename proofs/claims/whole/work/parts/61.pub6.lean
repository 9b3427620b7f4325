theorem getD_le : ∀ (cs : List Nat) (d : Nat), vld cs d → ∀ k, cs.getD k 0 ≤ 20010
  | [], _, _, k => by simp
  | x :: xs, d, h, 0 => by
    show x ≤ 20010
    exact h.1.1
  | x :: xs, d, h, k + 1 => by
    show xs.getD k 0 ≤ 20010
    exact getD_le xs _ h.2 k
theorem YR.text {M M' : Mm} {Y : Nat → Int32} {n hN t u : Nat} (hR : YR M 1 (upd Y 4 (nI 0)) n hN) (hY : YOk Y n hN) (ht : t ≤ 60) (hu : u < 2) (hw : (txR Y t u).1 = true) (hM : ∀ a, a ≠ 1 + 55 + 3 * u → a ≠ 1 + 55 + 3 * u + 1 → M' a = M a) (hs : M' (1 + 55 + 3 * u) 2 = nI (txR Y t u).2.2.length) (hc : ∀ k, k < (txR Y t u).2.2.length → M' (1 + 55 + 3 * u + 1) k = nI (cvC ((txR Y t u).2.2.getD k 0))) : YR M' 1 (textY Y t u) n hN := by
  have htm := tx_mono Y t u
  have hlen : (txR Y t u).2.2.length ≤ 60 := by omega
  have hne : ∀ i, (∀ k, k < (txR Y t u).2.2.length → i ≠ 321 + 62 * u + 1 + k) → textY Y t u i = upd (upd Y 4 (nI 0)) (321 + 62 * u) (nI (txR Y t u).2.2.length) i := fun i hi => cpY_ne _ _ _ _ _ hi
  have h0 : textY Y t u (321 + 62 * u) = nI (txR Y t u).2.2.length := by rw [hne _ (fun k _ => by omega), upd_eq]
  refine hR.txn (yk_tape0 hY) hu hM (fun i hi => ?_) (hs.trans h0.symm) (fun k hk => ?_)
  · rw [hne i (fun k hk => by omega), upd_ne _ _ (by omega)]
  · rw [cN_of h0 (by omega)] at hk
    have e : cN (textY Y t u) (321 + 62 * u + 1 + k) = (txR Y t u).2.2.getD k 0 := cN_of (Y := textY Y t u) (cpY_at _ _ _ _ k hk) (by have := getD_le (txR Y t u).2.2 0 (tx_grw hu hw 0).1 k; omega)
    rw [hc k hk, e]
set_option maxHeartbeats 4000000 in
set_option maxRecDepth 100000 in
theorem x_text (l : Launch) (G : GC) (M : Mm) (Y : Nat → Int32) (n hN : Nat) (hR : YR M 1 Y n hN) (hY : YOk Y n hN) (hI : yI Y n) (hJ : yJ Y n) (t : Nat) (ht : Y 4 = nI t) (ht2 : t ≤ 60) (use : Int32) : CI l G 91 yX9_text cX9_text 3 .int [.ref (gb G + 0), .int use] M ((textS Y t use).2.1) (PubC M (textS Y t use).2.2 n hN (textS Y t use).1) := by
  refine Con.of (by decide +kernel) (Nat.le_of_ble_eq_true rfl) ?_
  intro f C hRm hRt _
  have hn2 := hY.1.2.1
  have h5 := hY.1.2.2.2
  have hB : tB Y t := fun k hk => hJ.2.2.2.1 k (by rw [cN_of ht (by omega)]; exact hk)
  show Vc f G NPh M 0 [(0, .ref (gb G + 0)), (1, .int use)] []
  refine v_iload_n C 1 dX9_text_0 rfl ?_
  refine v_iconst C (nI 0) dX9_text_1 (by decide) ?_
  refine v_iconst C (nI 1) dX9_text_2 (by decide) ?_
  refine n_callSp C hRm [.int use, .int (nI 0), .int (nI 1)] cw_X9_outside st_X9_outside ml_X9_54 (c_outside l G M use (nI 0) (nI 1)) (by decide) rfl rfl (Nat.le_of_ble_eq_true rfl) dX9_text_3 ?_
  refine nb_if_eq C 15 dX9_text_6 rfl (fun h_6 => ?_) (fun h_6 => ?_)
  · skip
    obtain ⟨u, hu, rfl⟩ := within_nat (by decide) (Decidable.not_not.mp h_6)
    have huu : nI 0 ≤ nI u ∧ nI u ≤ nI 1 := Decidable.not_not.mp h_6
    rcases (show u = 0 ∨ u = 1 by omega) with h_0 | h_0
    · subst h_0
      refine v_aload_n C 0 dX9_text_15 rfl ?_
      refine g_X9_32 C (by decide) (show shp 0 = 9 from by decide +kernel) dX9_text_16 ?_
      refine v_aload_n C 0 dX9_text_19 rfl ?_
      refine g_X9_10 C (by decide) (show shp 0 = 9 from by decide +kernel) dX9_text_20 ?_
      refine g_X9_149 C (by decide) (s_y (by decide)) dX9_text_23 ?_
      refine v_iload_n C 1 dX9_text_26 rfl ?_
      refine n_if_ne C (by omega) 35 dX9_text_27 rfl (fun h_27 => absurd h_27 (by decide)) (fun _ => ?_)
      refine v_ldcS C "wrnxa" 1 (by decide +kernel) dX9_text_30 ?_
      refine v_goto C 37 dX9_text_32 rfl ?_
      refine n_callVi C hRm [.ref (gb G + 5), .ref (gK G 1)] cw_X3_read ml_X9_165 (by decide) (show shp 187 = 3 from by decide +kernel) (by decide) rfl (d_read l G M Y t 0 _ _ hR ht ht2 (by decide) hB) (by decide) rfl rfl (Nat.le_of_ble_eq_true rfl) dX9_text_37 (fun M1 hP_37 => ?_)
      obtain ⟨hp1, hf1⟩ := hP_37
      have hR1 := hR.fr (M' := M1) (fun a h1 h2 => hf1 a (by omega) (by omega) (by omega))
      have hF1 : okG M M1 := (okG.rf M).rd hf1
      refine v_istore_n C [(2, .int (rdV (txR Y t 0) t)), (0, .ref (gb G + 0)), (1, .int (nI 0))] dX9_text_40 rfl (by decide) rfl ?_
      refine v_aload_n C 1 dX9_text_41 rfl ?_
      refine g_X9_10 C (by decide) (show shp 0 = 9 from by decide +kernel) dX9_text_42 ?_
      refine g_X9_149 C (by decide) (s_y (by decide)) dX9_text_45 ?_
      refine v_iconst C (nI 0) dX9_text_48 (by decide) ?_
      refine p_X9_153 C (by decide) (show shp 5 = 4 from by decide +kernel) dX9_text_49 ?_
      have hR2 : YR (up2 M1 5 1 (nI 0)) 1 (upd Y 4 (nI 0)) n hN := hR1.tp0 hY
      have hF2 : okG M (up2 M1 5 1 (nI 0)) := hF1.tr (Fr.up (y := 1) _ (by omega))
      by_cases hok : (txR Y t 0).1 = true ∧ (txR Y t 0).2.1 = t
      · skip
        refine v_lv [(2, .int (-1)), (0, .ref (gb G + 0)), (1, .int (nI 0))] (by rw [show rdV (txR Y t 0) t = (-1) from if_pos hok]) ?_
        refine v_iload_n C 0 dX9_text_52 rfl ?_
        refine v_iconst C (-1) dX9_text_53 (by decide) ?_
        refine v_icmp_eq C 62 dX9_text_54 rfl (fun h_54 => ?_) (fun h_54 => ?_)
        · skip
          refine v_aload_n C 1 dX9_text_62 rfl ?_
          refine g_X9_10 C (by decide) (show shp 0 = 9 from by decide +kernel) dX9_text_63 ?_
          refine g_X9_169 C (by decide) (s_y (by decide)) dX9_text_66 ?_
          refine v_iload_n C 2 dX9_text_69 rfl ?_
          refine v_aald C rfl (by decide) (show shp 4 = 22 from by decide +kernel) (by decide) (by decide) (show 0 < 2 from by omega) (by decide) (1 + 55 + 3 * 0) (by simp only [aOff] <;> omega) dX9_text_70 ?_
          refine v_aload_n C 1 dX9_text_71 rfl ?_
          refine g_X9_32 C (by decide) (show shp 0 = 9 from by decide +kernel) dX9_text_72 ?_
          refine g_X9_173 C (by decide) (show shp 187 = 3 from by decide +kernel) dX9_text_75 ?_
          refine n_callVv C hRm [.ref (gb G + 188)] cw_X7_takeFrom ml_X9_177 (show 1 + 55 + 3 * 0 < 221 from by omega) (s_tx (by decide) (by omega)) (by decide) rfl (t_take l G (up2 M1 5 1 (nI 0)) (1 + 55 + 3 * 0) (by decide) (s_tx (by decide) (by decide)) (s_ts (by decide) (by decide)) 188 (by decide) (show shp 188 = 7 from by decide +kernel) (show shp (188 + 1) = 1000 + 60 from by decide +kernel) (by decide) (txR Y t 0).2.2.length (by rw [up2_ne _ _ _ (by decide)]; exact (hp1.2.2.2 hok.1).1) (by have := tx_mono Y t 0; omega)) (by decide) rfl rfl (Nat.le_of_ble_eq_true rfl) dX9_text_78 (fun M2 hP_78 => ?_)
          subst hP_78
          have hX8 : ∀ a, a ≠ 5 → (up2 M1 5 1 (nI 0)) a = M1 a := fun a h => up2_ne _ _ _ h
          have hR3 : YR (tcpM (up2 M1 5 1 (nI 0)) (1 + 55 + 3 * 0) 188 (txR Y t 0).2.2.length) 1 (textY Y t 0) n hN := hR2.text hY ht2 (by decide) hok.1 (fun a h1 h2 => tcp_ne h1 h2) (tcp_0 _ _ _ _) (fun k hk => (tcp_1 _ _ _ _ hk).trans ((congrFun (hX8 _ (by decide)) k).trans ((hp1.2.2.2 hok.1).2 k hk)))
          have hF3 : okG M (tcpM (up2 M1 5 1 (nI 0)) (1 + 55 + 3 * 0) 188 (txR Y t 0).2.2.length) := fun a ha => (tcp_ne (by omega) (by omega)).trans (hF2 a ha)
          refine v_iconst C (nI 1) dX9_text_81 (by decide) ?_
          have hS : textS Y t (nI 0) = (0, nI 1, textY Y t 0) := by unfold textS; (try rw [nI_clamp (by decide)]); (try rw [nI_clamp (by decide)]); (try rw [nI_clamp (by decide)]); (first | rw [if_neg huu] | rw [if_pos (Decidable.not_not.mp huu)] | rw [if_pos huu] | rw [if_pos (congrArg nI huu)] | rw [if_neg (fun q9 => huu ((nI_eq (by omega) (by omega)).mp q9))] | rw [if_neg (Nat.not_le.mpr huu)] | rw [if_neg (Nat.not_lt.mpr huu)] | skip); (rw [if_pos (show (txR Y t 0).1 = true ∧ ¬ (txR Y t 0).2.1 < t from ⟨hok.1, by omega⟩)]); all_goals rfl
          exact n_iret C hRt (rfl) dX9_text_82 (by rw [hS] <;> rfl) (by rw [hS]; exact pc_ok hR3 hF3)
        · skip
          exact absurd rfl h_54
      · skip
        refine v_lv [(2, .int (nI ((txR Y t 0).2.1))), (0, .ref (gb G + 0)), (1, .int (nI 0))] (by rw [show rdV (txR Y t 0) t = nI (txR Y t 0).2.1 from if_neg hok]) ?_
        refine v_iload_n C 0 dX9_text_52 rfl ?_
        refine v_iconst C (-1) dX9_text_53 (by decide) ?_
        refine v_icmp_eq C 62 dX9_text_54 rfl (fun h_54 => ?_) (fun h_54 => ?_)
        · skip
          exact absurd h_54 (fun z => nI_pos (show (txR Y t 0).2.1 < 2 ^ 31 from by have := (tx_mono Y t 0).1; omega) (by rw [z]; decide))
        · skip
          refine v_bipush C (-10) dX9_text_57 (by decide) ?_
          refine v_iload_n C 0 dX9_text_59 rfl ?_
          refine v_isub C dX9_text_60 ?_
          have hS : textS Y t (nI 0) = (0, (-10) - (nI ((txR Y t 0).2.1)), upd Y 4 (nI 0)) := by unfold textS; (try rw [nI_clamp (by decide)]); (try rw [nI_clamp (by decide)]); (try rw [nI_clamp (by decide)]); (first | rw [if_neg huu] | rw [if_pos (Decidable.not_not.mp huu)] | rw [if_pos huu] | rw [if_pos (congrArg nI huu)] | rw [if_neg (fun q9 => huu ((nI_eq (by omega) (by omega)).mp q9))] | rw [if_neg (Nat.not_le.mpr huu)] | rw [if_neg (Nat.not_lt.mpr huu)] | skip); (rw [if_neg (show ¬ ((txR Y t 0).1 = true ∧ ¬ (txR Y t 0).2.1 < t) from fun z => hok ⟨z.1, by have := (tx_mono Y t 0).1; omega⟩)]); all_goals rfl
          exact n_iret C hRt (rfl) dX9_text_61 (by rw [hS] <;> rfl) (by rw [hS]; exact pc_ok hR2 hF2)
    · subst h_0
      refine v_aload_n C 0 dX9_text_15 rfl ?_
      refine g_X9_32 C (by decide) (show shp 0 = 9 from by decide +kernel) dX9_text_16 ?_
      refine v_aload_n C 0 dX9_text_19 rfl ?_
      refine g_X9_10 C (by decide) (show shp 0 = 9 from by decide +kernel) dX9_text_20 ?_
      refine g_X9_149 C (by decide) (s_y (by decide)) dX9_text_23 ?_
      refine v_iload_n C 1 dX9_text_26 rfl ?_
      refine n_if_ne C (by omega) 35 dX9_text_27 rfl (fun _ => ?_) (fun h_27 => absurd h_27 (by decide))
      refine v_ldcS C "lofh" 2 (by decide +kernel) dX9_text_35 ?_
      refine n_callVi C hRm [.ref (gb G + 5), .ref (gK G 2)] cw_X3_read ml_X9_165 (by decide) (show shp 187 = 3 from by decide +kernel) (by decide) rfl (d_read l G M Y t 1 _ _ hR ht ht2 (by decide) hB) (by decide) rfl rfl (Nat.le_of_ble_eq_true rfl) dX9_text_37 (fun M1 hP_37 => ?_)
      obtain ⟨hp1, hf1⟩ := hP_37
      have hR1 := hR.fr (M' := M1) (fun a h1 h2 => hf1 a (by omega) (by omega) (by omega))
      have hF1 : okG M M1 := (okG.rf M).rd hf1
      refine v_istore_n C [(2, .int (rdV (txR Y t 1) t)), (0, .ref (gb G + 0)), (1, .int (nI 1))] dX9_text_40 rfl (by decide) rfl ?_
      refine v_aload_n C 1 dX9_text_41 rfl ?_
      refine g_X9_10 C (by decide) (show shp 0 = 9 from by decide +kernel) dX9_text_42 ?_
      refine g_X9_149 C (by decide) (s_y (by decide)) dX9_text_45 ?_
      refine v_iconst C (nI 0) dX9_text_48 (by decide) ?_
      refine p_X9_153 C (by decide) (show shp 5 = 4 from by decide +kernel) dX9_text_49 ?_
      have hR2 : YR (up2 M1 5 1 (nI 0)) 1 (upd Y 4 (nI 0)) n hN := hR1.tp0 hY
      have hF2 : okG M (up2 M1 5 1 (nI 0)) := hF1.tr (Fr.up (y := 1) _ (by omega))
      by_cases hok : (txR Y t 1).1 = true ∧ (txR Y t 1).2.1 = t
      · skip
        refine v_lv [(2, .int (-1)), (0, .ref (gb G + 0)), (1, .int (nI 1))] (by rw [show rdV (txR Y t 1) t = (-1) from if_pos hok]) ?_
        refine v_iload_n C 0 dX9_text_52 rfl ?_
        refine v_iconst C (-1) dX9_text_53 (by decide) ?_
        refine v_icmp_eq C 62 dX9_text_54 rfl (fun h_54 => ?_) (fun h_54 => ?_)
        · skip
          refine v_aload_n C 1 dX9_text_62 rfl ?_
          refine g_X9_10 C (by decide) (show shp 0 = 9 from by decide +kernel) dX9_text_63 ?_
          refine g_X9_169 C (by decide) (s_y (by decide)) dX9_text_66 ?_
          refine v_iload_n C 2 dX9_text_69 rfl ?_
          refine v_aald C rfl (by decide) (show shp 4 = 22 from by decide +kernel) (by decide) (by decide) (show 1 < 2 from by omega) (by decide) (1 + 55 + 3 * 1) (by simp only [aOff] <;> omega) dX9_text_70 ?_
          refine v_aload_n C 1 dX9_text_71 rfl ?_
          refine g_X9_32 C (by decide) (show shp 0 = 9 from by decide +kernel) dX9_text_72 ?_
          refine g_X9_173 C (by decide) (show shp 187 = 3 from by decide +kernel) dX9_text_75 ?_
          refine n_callVv C hRm [.ref (gb G + 188)] cw_X7_takeFrom ml_X9_177 (show 1 + 55 + 3 * 1 < 221 from by omega) (s_tx (by decide) (by omega)) (by decide) rfl (t_take l G (up2 M1 5 1 (nI 0)) (1 + 55 + 3 * 1) (by decide) (s_tx (by decide) (by decide)) (s_ts (by decide) (by decide)) 188 (by decide) (show shp 188 = 7 from by decide +kernel) (show shp (188 + 1) = 1000 + 60 from by decide +kernel) (by decide) (txR Y t 1).2.2.length (by rw [up2_ne _ _ _ (by decide)]; exact (hp1.2.2.2 hok.1).1) (by have := tx_mono Y t 1; omega)) (by decide) rfl rfl (Nat.le_of_ble_eq_true rfl) dX9_text_78 (fun M2 hP_78 => ?_)
          subst hP_78
          have hX8 : ∀ a, a ≠ 5 → (up2 M1 5 1 (nI 0)) a = M1 a := fun a h => up2_ne _ _ _ h
          have hR3 : YR (tcpM (up2 M1 5 1 (nI 0)) (1 + 55 + 3 * 1) 188 (txR Y t 1).2.2.length) 1 (textY Y t 1) n hN := hR2.text hY ht2 (by decide) hok.1 (fun a h1 h2 => tcp_ne h1 h2) (tcp_0 _ _ _ _) (fun k hk => (tcp_1 _ _ _ _ hk).trans ((congrFun (hX8 _ (by decide)) k).trans ((hp1.2.2.2 hok.1).2 k hk)))
          have hF3 : okG M (tcpM (up2 M1 5 1 (nI 0)) (1 + 55 + 3 * 1) 188 (txR Y t 1).2.2.length) := fun a ha => (tcp_ne (by omega) (by omega)).trans (hF2 a ha)
          refine v_iconst C (nI 1) dX9_text_81 (by decide) ?_
          have hS : textS Y t (nI 1) = (0, nI 1, textY Y t 1) := by unfold textS; (try rw [nI_clamp (by decide)]); (try rw [nI_clamp (by decide)]); (try rw [nI_clamp (by decide)]); (first | rw [if_neg huu] | rw [if_pos (Decidable.not_not.mp huu)] | rw [if_pos huu] | rw [if_pos (congrArg nI huu)] | rw [if_neg (fun q9 => huu ((nI_eq (by omega) (by omega)).mp q9))] | rw [if_neg (Nat.not_le.mpr huu)] | rw [if_neg (Nat.not_lt.mpr huu)] | skip); (rw [if_pos (show (txR Y t 1).1 = true ∧ ¬ (txR Y t 1).2.1 < t from ⟨hok.1, by omega⟩)]); all_goals rfl
          exact n_iret C hRt (rfl) dX9_text_82 (by rw [hS] <;> rfl) (by rw [hS]; exact pc_ok hR3 hF3)
        · skip
          exact absurd rfl h_54
      · skip
        refine v_lv [(2, .int (nI ((txR Y t 1).2.1))), (0, .ref (gb G + 0)), (1, .int (nI 1))] (by rw [show rdV (txR Y t 1) t = nI (txR Y t 1).2.1 from if_neg hok]) ?_
        refine v_iload_n C 0 dX9_text_52 rfl ?_
        refine v_iconst C (-1) dX9_text_53 (by decide) ?_
        refine v_icmp_eq C 62 dX9_text_54 rfl (fun h_54 => ?_) (fun h_54 => ?_)
        · skip
          exact absurd h_54 (fun z => nI_pos (show (txR Y t 1).2.1 < 2 ^ 31 from by have := (tx_mono Y t 1).1; omega) (by rw [z]; decide))
        · skip
          refine v_bipush C (-10) dX9_text_57 (by decide) ?_
          refine v_iload_n C 0 dX9_text_59 rfl ?_
          refine v_isub C dX9_text_60 ?_
          have hS : textS Y t (nI 1) = (0, (-10) - (nI ((txR Y t 1).2.1)), upd Y 4 (nI 0)) := by unfold textS; (try rw [nI_clamp (by decide)]); (try rw [nI_clamp (by decide)]); (try rw [nI_clamp (by decide)]); (first | rw [if_neg huu] | rw [if_pos (Decidable.not_not.mp huu)] | rw [if_pos huu] | rw [if_pos (congrArg nI huu)] | rw [if_neg (fun q9 => huu ((nI_eq (by omega) (by omega)).mp q9))] | rw [if_neg (Nat.not_le.mpr huu)] | rw [if_neg (Nat.not_lt.mpr huu)] | skip); (rw [if_neg (show ¬ ((txR Y t 1).1 = true ∧ ¬ (txR Y t 1).2.1 < t) from fun z => hok ⟨z.1, by have := (tx_mono Y t 1).1; omega⟩)]); all_goals rfl
          exact n_iret C hRt (rfl) dX9_text_61 (by rw [hS] <;> rfl) (by rw [hS]; exact pc_ok hR2 hF2)
  · skip
    refine v_aload_n C 0 dX9_text_9 rfl ?_
    refine v_iconst C (nI 1) dX9_text_10 (by decide) ?_
    refine n_callVi C hRm [.int (nI 1)] cw_X9_error ml_X9_58 (by decide) (show shp 0 = 9 from by decide +kernel) (by decide) rfl (c_error l G M 1 (by decide)) (by decide) rfl rfl (Nat.le_of_ble_eq_true rfl) dX9_text_11 (fun M5 hP_11 => ?_)
    subst hP_11
    have hS : textS Y t use = er 1 Y := by unfold textS; (try rw [nI_clamp (by decide)]); (try rw [nI_clamp (by decide)]); (try rw [nI_clamp (by decide)]); (first | rw [if_neg h_6] | rw [if_pos (Decidable.not_not.mp h_6)] | rw [if_pos h_6] | rw [if_pos (congrArg nI h_6)] | rw [if_neg (fun q9 => h_6 ((nI_eq (by omega) (by omega)).mp q9))] | rw [if_neg (Nat.not_le.mpr h_6)] | rw [if_neg (Nat.not_lt.mpr h_6)] | skip); all_goals rfl
    exact n_iret C hRt (rfl) dX9_text_14 (by rw [hS] <;> rfl) (by rw [hS]; exact pc_er hR (okG.rf M) (show (1 : Nat) ≠ 0 by decide))
