theorem s_sh {s : Nat} (hs : s < 4) : shp (197 + 2 * s) = 5 := by revert s; decide +kernel
theorem s_sn {s : Nat} (hs : s < 4) : shp (197 + 2 * s + 1) = 1000 + 24 := by revert s; decide +kernel
def shR (M : Mm) (W Z NB : Nat → Int32) : Prop := ∀ s, s < 4 → M (197 + 2 * s) 0 = W s ∧ M (197 + 2 * s) 1 = Z s ∧ ∀ i, i < 24 → M (197 + 2 * s + 1) i = NB (24 * s + i)
def wOk (R : Mm) : Prop := ∀ s, s < 4 → R 217 s = 0 ∨ R 217 s = nI 8 ∨ R 217 s = nI 16 ∨ R 217 s = nI 32
def PubS (M R : Mm) (k : Nat) : Mm → Prop := fun M' => shR M' (R 217) (R 218) (R 219) ∧ M' 196 = errUp (M 196) k ∧ ∀ a, (a < 196 ∨ 205 ≤ a) → M' a = M a
theorem ps_er {M R : Mm} {k : Nat} (h : shR M (R 217) (R 218) (R 219)) (hk : k ≠ 0) : PubS M R k (up2 M 196 k (M 196 k + nI 1)) :=
  ⟨fun s hs => ⟨(congrFun (up2_ne _ _ _ (by omega)) 0).trans (h s hs).1, (congrFun (up2_ne _ _ _ (by omega)) 1).trans (h s hs).2.1, fun i hi => (congrFun (up2_ne _ _ _ (by omega)) i).trans ((h s hs).2.2 i hi)⟩, by rw [up2_eq]; unfold errUp; rw [if_neg hk], fun a ha => up2_ne _ _ _ (by omega)⟩
theorem lay_ne {M : Mm} {k a : Nat} {b s : Int32} (h0 : a ≠ k) (h1 : a ≠ k + 1) : layM M k b s a = M a := by
  unfold layM; rw [upA_ne _ _ h1, up2_ne _ _ _ h0, up2_ne _ _ _ h0]
theorem ps_lay {M R : Mm} {s : Nat} {b z : Int32} (h : shR M (R 217) (R 218) (R 219)) (hs : s < 4) : PubS M (shtX R s b z 24) 0 (layM M (197 + 2 * s) b z) := by
  have e7 : shtX R s b z 24 217 = upd (R 217) s b := by unfold shtX; rw [upA_ne _ _ (by decide), up2_ne _ _ _ (by decide), up2_eq]
  have e8 : shtX R s b z 24 218 = upd (R 218) s z := by unfold shtX; rw [upA_ne _ _ (by decide), up2_eq, up2_ne _ _ _ (by decide)]
  have e9 : shtX R s b z 24 219 = zrN R s 24 := by unfold shtX; rw [upA_eq]
  refine ⟨?_, ?_, ?_⟩
  · intro q hq
    rw [e7, e8, e9]
    by_cases e : q = s
    · subst e
      refine ⟨?_, ?_, fun i hi => ?_⟩
      · unfold layM; rw [upA_ne _ _ (by omega), up2_at_ne _ _ (by decide), up2_at, upd_eq]
      · unfold layM; rw [upA_ne _ _ (by omega), up2_at, upd_eq]
      · unfold layM zrN; rw [upA_eq, if_pos (by omega)]
    · rw [upd_ne _ _ e, upd_ne _ _ e, lay_ne (by omega) (by omega), lay_ne (by omega) (by omega)]
      refine ⟨(h q hq).1, (h q hq).2.1, fun i hi => ?_⟩
      rw [(h q hq).2.2 i hi]; unfold zrN; rw [if_neg (by omega)]
  · rw [lay_ne (by omega) (by omega)]; rfl
  · exact fun a ha => lay_ne (by omega) (by omega)
theorem ps_put {M R : Mm} {s i : Nat} {v : Int32} (h : shR M (R 217) (R 218) (R 219)) (hs : s < 4) (hi : i < 24) : PubS M (up2 R 219 (24 * s + i) v) 0 (up2 M (197 + 2 * s + 1) i v) := by
  refine ⟨fun q hq => ?_, ?_, ?_⟩
  · rw [up2_ne _ _ _ (show (217 : Nat) ≠ 219 by decide), up2_ne _ _ _ (show (218 : Nat) ≠ 219 by decide), up2_eq]
    rw [up2_ne _ _ _ (show 197 + 2 * q ≠ 197 + 2 * s + 1 by omega)]
    refine ⟨(h q hq).1, (h q hq).2.1, fun j hj => ?_⟩
    rw [up2_ap]
    by_cases e : q = s ∧ j = i
    · obtain ⟨rfl, rfl⟩ := e
      rw [if_pos ⟨rfl, rfl⟩, upd_eq]
    · rw [if_neg (by omega), upd_ne _ _ (by omega)]; exact (h q hq).2.2 j hj
  · rw [up2_ne _ _ _ (by omega)]; rfl
  · exact fun a ha => up2_ne _ _ _ (by omega)
theorem ps_mov {M R : Mm} {s a o b k : Nat} (h : shR M (R 217) (R 218) (R 219)) (hs : s < 4) (ho : o < 4) (ha : a + k ≤ 24) (hb : b + k ≤ 24) : PubS M (upA R 219 (mvF R s a o b k)) 0 (upA M (197 + 2 * o + 1) (va_cpy (M (197 + 2 * s + 1)) (M (197 + 2 * o + 1)) a b k)) := by
  refine ⟨fun q hq => ?_, ?_, ?_⟩
  · rw [upA_ne _ _ (show (217 : Nat) ≠ 219 by decide), upA_ne _ _ (show (218 : Nat) ≠ 219 by decide), upA_eq]
    rw [upA_ne _ _ (show 197 + 2 * q ≠ 197 + 2 * o + 1 by omega)]
    refine ⟨(h q hq).1, (h q hq).2.1, fun j hj => ?_⟩
    by_cases e : q = o
    · subst e
      rw [upA_eq]
      unfold va_cpy mvF
      by_cases e2 : b ≤ j ∧ j < b + k
      · rw [if_pos e2, if_pos (by omega), (h s hs).2.2 _ (by omega)]
        congr 1; omega
      · rw [if_neg e2, if_neg (by omega)]; exact (h q hq).2.2 j hj
    · rw [upA_ne _ _ (by omega)]
      unfold mvF
      rw [if_neg (by omega)]; exact (h q hq).2.2 j hj
  · rw [upA_ne _ _ (by omega)]; rfl
  · exact fun a ha => upA_ne _ _ (by omega)
set_option maxHeartbeats 4000000 in
set_option maxRecDepth 100000 in
theorem x_sheet (l : Launch) (G : GC) (M : Mm) (R : Mm) (hS : shR M (R 217) (R 218) (R 219)) (hz : shOk R) (hw : wOk R) (sheet bits n : Int32) : CI l G 3 yX9_sheet cX9_sheet 4 .int [.ref (gb G + 0), .int sheet, .int bits, .int n] M ((sheetS R sheet bits n).2.1) (PubS M (sheetS R sheet bits n).2.2 (sheetS R sheet bits n).1) := by
  refine Con.of (by decide +kernel) (Nat.le_of_ble_eq_true rfl) ?_
  intro f C hRm hRt _
  show Vc f G NPh M 0 [(0, .ref (gb G + 0)), (1, .int sheet), (2, .int bits), (3, .int n)] []
  refine v_iload_n C 1 dX9_sheet_0 rfl ?_
  refine n_callSp C hRm [.int sheet] cw_X9_noSheet st_X9_noSheet ml_X9_260 (c_noSheet l G M sheet) (by decide) rfl rfl (Nat.le_of_ble_eq_true rfl) dX9_sheet_1 ?_
  refine nb_if_ne C 29 dX9_sheet_4 rfl (fun h_4 => ?_) (fun h_4 => ?_)
  · skip
    refine v_aload_n C 0 dX9_sheet_29 rfl ?_
    refine v_iconst C (nI 1) dX9_sheet_30 (by decide) ?_
    refine n_callVi C hRm [.int (nI 1)] cw_X9_error ml_X9_58 (by decide) (show shp 0 = 9 from by decide +kernel) (by decide) rfl (c_error l G M 1 (by decide)) (by decide) rfl rfl (Nat.le_of_ble_eq_true rfl) dX9_sheet_31 (fun M5 hP_31 => ?_)
    subst hP_31
    have hQ : sheetS R sheet bits n = e4 1 R := by unfold sheetS; (try rw [nI_clamp (by omega)]); (try rw [nI_clamp (by omega)]); (try rw [nI_clamp (by omega)]); (first | rw [if_neg h_4] | rw [if_pos (Decidable.not_not.mp h_4)] | rw [if_pos h_4] | skip); all_goals rfl
    exact n_iret C hRt rfl dX9_sheet_34 (by rw [hQ] <;> rfl) (by rw [hQ]; exact ps_er hS (show (1 : Nat) ≠ 0 by decide))
  · skip
    obtain ⟨s, hs, rfl⟩ := within_nat (by decide) (Decidable.not_not.mp h_4)
    refine v_iload_n C 2 dX9_sheet_7 rfl ?_
    refine v_if_eq C 35 dX9_sheet_8 rfl (fun h_8 => ?_) (fun h_8 => ?_)
    · skip
      refine v_iload_n C 2 dX9_sheet_35 rfl ?_
      refine v_if_ne C 52 dX9_sheet_36 rfl (fun h_36 => ?_) (fun h_36 => ?_)
      · skip
        exact absurd h_8 h_36
      · skip
        refine v_aload_n C 0 dX9_sheet_39 rfl ?_
        refine g_X9_45 C (by decide) (show shp 0 = 9 from by decide +kernel) dX9_sheet_40 ?_
        refine v_iload_n C 1 dX9_sheet_43 rfl ?_
        refine v_aald C rfl (by decide) (show shp 195 = 23 from by decide +kernel) (by decide) (by decide) (show s < 4 from by omega) (by decide) (197 + 2 * s) (by simp only [aOff] <;> omega) dX9_sheet_44 ?_
        refine v_iconst C (nI 0) dX9_sheet_45 (by decide) ?_
        refine v_iconst C (nI 0) dX9_sheet_46 (by decide) ?_
        refine n_callVv C hRm [.int (nI 0), .int (nI 0)] cw_X5_lay ml_X9_263 (show 197 + 2 * s < 221 from by omega) (s_sh (by omega)) (by decide) rfl (s_lay l G M (197 + 2 * s) (by omega) (s_sh (by omega)) (s_sn (by omega)) (nI 0) (nI 0)) (by decide) rfl rfl (Nat.le_of_ble_eq_true rfl) dX9_sheet_47 (fun M5 hP_47 => ?_)
        subst hP_47
        refine v_iconst C (nI 1) dX9_sheet_50 (by decide) ?_
        have hQ : sheetS R (nI s) bits n = (0, nI 1, shtX R s bits (nI 0) 24) := by unfold sheetS; (try rw [nI_clamp (by omega)]); (try rw [nI_clamp (by omega)]); (try rw [nI_clamp (by omega)]); (first | rw [if_neg h_4] | rw [if_pos (Decidable.not_not.mp h_4)] | rw [if_pos h_4] | skip); (first | rw [if_neg h_8] | rw [if_pos (Decidable.not_not.mp h_8)] | rw [if_pos h_8] | skip); all_goals rfl
        exact n_iret C hRt rfl dX9_sheet_51 (by rw [hQ] <;> rfl) (by rw [hQ]; exact by rw [h_8]; exact ps_lay hS (by omega))
    · skip
      refine v_iload_n C 2 dX9_sheet_11 rfl ?_
      refine v_bipush C (nI 8) dX9_sheet_12 (by decide) ?_
      refine v_icmp_eq C 35 dX9_sheet_14 rfl (fun h_14 => ?_) (fun h_14 => ?_)
      · skip
        refine v_iload_n C 2 dX9_sheet_35 rfl ?_
        refine v_if_ne C 52 dX9_sheet_36 rfl (fun h_36 => ?_) (fun h_36 => ?_)
        · skip
          refine v_iload_n C 3 dX9_sheet_52 rfl ?_
          refine v_if_ge C 62 dX9_sheet_53 rfl (fun h_53 => ?_) (fun h_53 => ?_)
          · skip
            refine v_iload_n C 3 dX9_sheet_62 rfl ?_
            refine v_bipush C (nI 24) dX9_sheet_63 (by decide) ?_
            refine v_icmp_le C 74 dX9_sheet_65 rfl (fun h_65 => ?_) (fun h_65 => ?_)
            · skip
              refine v_aload_n C 0 dX9_sheet_74 rfl ?_
              refine g_X9_45 C (by decide) (show shp 0 = 9 from by decide +kernel) dX9_sheet_75 ?_
              refine v_iload_n C 1 dX9_sheet_78 rfl ?_
              refine v_aald C rfl (by decide) (show shp 195 = 23 from by decide +kernel) (by decide) (by decide) (show s < 4 from by omega) (by decide) (197 + 2 * s) (by simp only [aOff] <;> omega) dX9_sheet_79 ?_
              refine v_iload_n C 2 dX9_sheet_80 rfl ?_
              refine v_iload_n C 3 dX9_sheet_81 rfl ?_
              refine n_callVv C hRm [.int bits, .int n] cw_X5_lay ml_X9_263 (show 197 + 2 * s < 221 from by omega) (s_sh (by omega)) (by decide) rfl (s_lay l G M (197 + 2 * s) (by omega) (s_sh (by omega)) (s_sn (by omega)) bits n) (by decide) rfl rfl (Nat.le_of_ble_eq_true rfl) dX9_sheet_82 (fun M5 hP_82 => ?_)
              subst hP_82
              refine v_iconst C (nI 1) dX9_sheet_85 (by decide) ?_
              have hQ : sheetS R (nI s) bits n = (0, nI 1, shtX R s bits n 24) := by unfold sheetS; (try rw [nI_clamp (by omega)]); (try rw [nI_clamp (by omega)]); (try rw [nI_clamp (by omega)]); (first | rw [if_neg h_4] | rw [if_pos (Decidable.not_not.mp h_4)] | rw [if_pos h_4] | skip); (first | rw [if_neg h_8] | rw [if_pos (Decidable.not_not.mp h_8)] | rw [if_pos h_8] | skip); (try rw [if_pos (Or.inl h_14)]); (first | rw [if_neg h_53] | rw [if_pos (Decidable.not_not.mp h_53)] | rw [if_pos h_53] | skip); (first | rw [if_neg h_65] | rw [if_pos (Decidable.not_not.mp h_65)] | rw [if_pos h_65] | skip); all_goals rfl
              exact n_iret C hRt rfl dX9_sheet_86 (by rw [hQ] <;> rfl) (by rw [hQ]; exact ps_lay hS (by omega))
            · skip
              refine v_aload_n C 0 dX9_sheet_68 rfl ?_
              refine v_iconst C (nI 1) dX9_sheet_69 (by decide) ?_
              refine n_callVi C hRm [.int (nI 1)] cw_X9_error ml_X9_58 (by decide) (show shp 0 = 9 from by decide +kernel) (by decide) rfl (c_error l G M 1 (by decide)) (by decide) rfl rfl (Nat.le_of_ble_eq_true rfl) dX9_sheet_70 (fun M5 hP_70 => ?_)
              subst hP_70
              have hQ : sheetS R (nI s) bits n = e4 1 R := by unfold sheetS; (try rw [nI_clamp (by omega)]); (try rw [nI_clamp (by omega)]); (try rw [nI_clamp (by omega)]); (first | rw [if_neg h_4] | rw [if_pos (Decidable.not_not.mp h_4)] | rw [if_pos h_4] | skip); (first | rw [if_neg h_8] | rw [if_pos (Decidable.not_not.mp h_8)] | rw [if_pos h_8] | skip); (try rw [if_pos (Or.inl h_14)]); (first | rw [if_neg h_53] | rw [if_pos (Decidable.not_not.mp h_53)] | rw [if_pos h_53] | skip); (first | rw [if_neg h_65] | rw [if_pos (Decidable.not_not.mp h_65)] | rw [if_pos h_65] | skip); all_goals rfl
              exact n_iret C hRt rfl dX9_sheet_73 (by rw [hQ] <;> rfl) (by rw [hQ]; exact ps_er hS (show (1 : Nat) ≠ 0 by decide))
          · skip
            refine v_aload_n C 0 dX9_sheet_56 rfl ?_
            refine v_iconst C (nI 3) dX9_sheet_57 (by decide) ?_
            refine n_callVi C hRm [.int (nI 3)] cw_X9_error ml_X9_58 (by decide) (show shp 0 = 9 from by decide +kernel) (by decide) rfl (c_error l G M 3 (by decide)) (by decide) rfl rfl (Nat.le_of_ble_eq_true rfl) dX9_sheet_58 (fun M5 hP_58 => ?_)
            subst hP_58
            have hQ : sheetS R (nI s) bits n = e4 3 R := by unfold sheetS; (try rw [nI_clamp (by omega)]); (try rw [nI_clamp (by omega)]); (try rw [nI_clamp (by omega)]); (first | rw [if_neg h_4] | rw [if_pos (Decidable.not_not.mp h_4)] | rw [if_pos h_4] | skip); (first | rw [if_neg h_8] | rw [if_pos (Decidable.not_not.mp h_8)] | rw [if_pos h_8] | skip); (try rw [if_pos (Or.inl h_14)]); (first | rw [if_neg h_53] | rw [if_pos (Decidable.not_not.mp h_53)] | rw [if_pos h_53] | skip); all_goals rfl
            exact n_iret C hRt rfl dX9_sheet_61 (by rw [hQ] <;> rfl) (by rw [hQ]; exact ps_er hS (show (3 : Nat) ≠ 0 by decide))
        · skip
          exact absurd h_36 h_8
      · skip
        refine v_iload_n C 2 dX9_sheet_17 rfl ?_
        refine v_bipush C (nI 16) dX9_sheet_18 (by decide) ?_
        refine v_icmp_eq C 35 dX9_sheet_20 rfl (fun h_20 => ?_) (fun h_20 => ?_)
        · skip
          refine v_iload_n C 2 dX9_sheet_35 rfl ?_
          refine v_if_ne C 52 dX9_sheet_36 rfl (fun h_36 => ?_) (fun h_36 => ?_)
          · skip
            refine v_iload_n C 3 dX9_sheet_52 rfl ?_
            refine v_if_ge C 62 dX9_sheet_53 rfl (fun h_53 => ?_) (fun h_53 => ?_)
            · skip
              refine v_iload_n C 3 dX9_sheet_62 rfl ?_
              refine v_bipush C (nI 24) dX9_sheet_63 (by decide) ?_
              refine v_icmp_le C 74 dX9_sheet_65 rfl (fun h_65 => ?_) (fun h_65 => ?_)
              · skip
                refine v_aload_n C 0 dX9_sheet_74 rfl ?_
                refine g_X9_45 C (by decide) (show shp 0 = 9 from by decide +kernel) dX9_sheet_75 ?_
                refine v_iload_n C 1 dX9_sheet_78 rfl ?_
                refine v_aald C rfl (by decide) (show shp 195 = 23 from by decide +kernel) (by decide) (by decide) (show s < 4 from by omega) (by decide) (197 + 2 * s) (by simp only [aOff] <;> omega) dX9_sheet_79 ?_
                refine v_iload_n C 2 dX9_sheet_80 rfl ?_
                refine v_iload_n C 3 dX9_sheet_81 rfl ?_
                refine n_callVv C hRm [.int bits, .int n] cw_X5_lay ml_X9_263 (show 197 + 2 * s < 221 from by omega) (s_sh (by omega)) (by decide) rfl (s_lay l G M (197 + 2 * s) (by omega) (s_sh (by omega)) (s_sn (by omega)) bits n) (by decide) rfl rfl (Nat.le_of_ble_eq_true rfl) dX9_sheet_82 (fun M5 hP_82 => ?_)
                subst hP_82
                refine v_iconst C (nI 1) dX9_sheet_85 (by decide) ?_
                have hQ : sheetS R (nI s) bits n = (0, nI 1, shtX R s bits n 24) := by unfold sheetS; (try rw [nI_clamp (by omega)]); (try rw [nI_clamp (by omega)]); (try rw [nI_clamp (by omega)]); (first | rw [if_neg h_4] | rw [if_pos (Decidable.not_not.mp h_4)] | rw [if_pos h_4] | skip); (first | rw [if_neg h_8] | rw [if_pos (Decidable.not_not.mp h_8)] | rw [if_pos h_8] | skip); (try rw [if_pos (Or.inr (Or.inl h_20))]); (first | rw [if_neg h_53] | rw [if_pos (Decidable.not_not.mp h_53)] | rw [if_pos h_53] | skip); (first | rw [if_neg h_65] | rw [if_pos (Decidable.not_not.mp h_65)] | rw [if_pos h_65] | skip); all_goals rfl
                exact n_iret C hRt rfl dX9_sheet_86 (by rw [hQ] <;> rfl) (by rw [hQ]; exact ps_lay hS (by omega))
              · skip
                refine v_aload_n C 0 dX9_sheet_68 rfl ?_
                refine v_iconst C (nI 1) dX9_sheet_69 (by decide) ?_
                refine n_callVi C hRm [.int (nI 1)] cw_X9_error ml_X9_58 (by decide) (show shp 0 = 9 from by decide +kernel) (by decide) rfl (c_error l G M 1 (by decide)) (by decide) rfl rfl (Nat.le_of_ble_eq_true rfl) dX9_sheet_70 (fun M5 hP_70 => ?_)
                subst hP_70
                have hQ : sheetS R (nI s) bits n = e4 1 R := by unfold sheetS; (try rw [nI_clamp (by omega)]); (try rw [nI_clamp (by omega)]); (try rw [nI_clamp (by omega)]); (first | rw [if_neg h_4] | rw [if_pos (Decidable.not_not.mp h_4)] | rw [if_pos h_4] | skip); (first | rw [if_neg h_8] | rw [if_pos (Decidable.not_not.mp h_8)] | rw [if_pos h_8] | skip); (try rw [if_pos (Or.inr (Or.inl h_20))]); (first | rw [if_neg h_53] | rw [if_pos (Decidable.not_not.mp h_53)] | rw [if_pos h_53] | skip); (first | rw [if_neg h_65] | rw [if_pos (Decidable.not_not.mp h_65)] | rw [if_pos h_65] | skip); all_goals rfl
                exact n_iret C hRt rfl dX9_sheet_73 (by rw [hQ] <;> rfl) (by rw [hQ]; exact ps_er hS (show (1 : Nat) ≠ 0 by decide))
            · skip
              refine v_aload_n C 0 dX9_sheet_56 rfl ?_
              refine v_iconst C (nI 3) dX9_sheet_57 (by decide) ?_
              refine n_callVi C hRm [.int (nI 3)] cw_X9_error ml_X9_58 (by decide) (show shp 0 = 9 from by decide +kernel) (by decide) rfl (c_error l G M 3 (by decide)) (by decide) rfl rfl (Nat.le_of_ble_eq_true rfl) dX9_sheet_58 (fun M5 hP_58 => ?_)
              subst hP_58
              have hQ : sheetS R (nI s) bits n = e4 3 R := by unfold sheetS; (try rw [nI_clamp (by omega)]); (try rw [nI_clamp (by omega)]); (try rw [nI_clamp (by omega)]); (first | rw [if_neg h_4] | rw [if_pos (Decidable.not_not.mp h_4)] | rw [if_pos h_4] | skip); (first | rw [if_neg h_8] | rw [if_pos (Decidable.not_not.mp h_8)] | rw [if_pos h_8] | skip); (try rw [if_pos (Or.inr (Or.inl h_20))]); (first | rw [if_neg h_53] | rw [if_pos (Decidable.not_not.mp h_53)] | rw [if_pos h_53] | skip); all_goals rfl
              exact n_iret C hRt rfl dX9_sheet_61 (by rw [hQ] <;> rfl) (by rw [hQ]; exact ps_er hS (show (3 : Nat) ≠ 0 by decide))
          · skip
            exact absurd h_36 h_8
        · skip
          refine v_iload_n C 2 dX9_sheet_23 rfl ?_
          refine v_bipush C (nI 32) dX9_sheet_24 (by decide) ?_
          refine v_icmp_eq C 35 dX9_sheet_26 rfl (fun h_26 => ?_) (fun h_26 => ?_)
          · skip
            refine v_iload_n C 2 dX9_sheet_35 rfl ?_
            refine v_if_ne C 52 dX9_sheet_36 rfl (fun h_36 => ?_) (fun h_36 => ?_)
            · skip
              refine v_iload_n C 3 dX9_sheet_52 rfl ?_
              refine v_if_ge C 62 dX9_sheet_53 rfl (fun h_53 => ?_) (fun h_53 => ?_)
              · skip
                refine v_iload_n C 3 dX9_sheet_62 rfl ?_
                refine v_bipush C (nI 24) dX9_sheet_63 (by decide) ?_
                refine v_icmp_le C 74 dX9_sheet_65 rfl (fun h_65 => ?_) (fun h_65 => ?_)
                · skip
                  refine v_aload_n C 0 dX9_sheet_74 rfl ?_
                  refine g_X9_45 C (by decide) (show shp 0 = 9 from by decide +kernel) dX9_sheet_75 ?_
                  refine v_iload_n C 1 dX9_sheet_78 rfl ?_
                  refine v_aald C rfl (by decide) (show shp 195 = 23 from by decide +kernel) (by decide) (by decide) (show s < 4 from by omega) (by decide) (197 + 2 * s) (by simp only [aOff] <;> omega) dX9_sheet_79 ?_
                  refine v_iload_n C 2 dX9_sheet_80 rfl ?_
                  refine v_iload_n C 3 dX9_sheet_81 rfl ?_
                  refine n_callVv C hRm [.int bits, .int n] cw_X5_lay ml_X9_263 (show 197 + 2 * s < 221 from by omega) (s_sh (by omega)) (by decide) rfl (s_lay l G M (197 + 2 * s) (by omega) (s_sh (by omega)) (s_sn (by omega)) bits n) (by decide) rfl rfl (Nat.le_of_ble_eq_true rfl) dX9_sheet_82 (fun M5 hP_82 => ?_)
                  subst hP_82
                  refine v_iconst C (nI 1) dX9_sheet_85 (by decide) ?_
                  have hQ : sheetS R (nI s) bits n = (0, nI 1, shtX R s bits n 24) := by unfold sheetS; (try rw [nI_clamp (by omega)]); (try rw [nI_clamp (by omega)]); (try rw [nI_clamp (by omega)]); (first | rw [if_neg h_4] | rw [if_pos (Decidable.not_not.mp h_4)] | rw [if_pos h_4] | skip); (first | rw [if_neg h_8] | rw [if_pos (Decidable.not_not.mp h_8)] | rw [if_pos h_8] | skip); (try rw [if_pos (Or.inr (Or.inr h_26))]); (first | rw [if_neg h_53] | rw [if_pos (Decidable.not_not.mp h_53)] | rw [if_pos h_53] | skip); (first | rw [if_neg h_65] | rw [if_pos (Decidable.not_not.mp h_65)] | rw [if_pos h_65] | skip); all_goals rfl
                  exact n_iret C hRt rfl dX9_sheet_86 (by rw [hQ] <;> rfl) (by rw [hQ]; exact ps_lay hS (by omega))
                · skip
                  refine v_aload_n C 0 dX9_sheet_68 rfl ?_
                  refine v_iconst C (nI 1) dX9_sheet_69 (by decide) ?_
                  refine n_callVi C hRm [.int (nI 1)] cw_X9_error ml_X9_58 (by decide) (show shp 0 = 9 from by decide +kernel) (by decide) rfl (c_error l G M 1 (by decide)) (by decide) rfl rfl (Nat.le_of_ble_eq_true rfl) dX9_sheet_70 (fun M5 hP_70 => ?_)
                  subst hP_70
                  have hQ : sheetS R (nI s) bits n = e4 1 R := by unfold sheetS; (try rw [nI_clamp (by omega)]); (try rw [nI_clamp (by omega)]); (try rw [nI_clamp (by omega)]); (first | rw [if_neg h_4] | rw [if_pos (Decidable.not_not.mp h_4)] | rw [if_pos h_4] | skip); (first | rw [if_neg h_8] | rw [if_pos (Decidable.not_not.mp h_8)] | rw [if_pos h_8] | skip); (try rw [if_pos (Or.inr (Or.inr h_26))]); (first | rw [if_neg h_53] | rw [if_pos (Decidable.not_not.mp h_53)] | rw [if_pos h_53] | skip); (first | rw [if_neg h_65] | rw [if_pos (Decidable.not_not.mp h_65)] | rw [if_pos h_65] | skip); all_goals rfl
                  exact n_iret C hRt rfl dX9_sheet_73 (by rw [hQ] <;> rfl) (by rw [hQ]; exact ps_er hS (show (1 : Nat) ≠ 0 by decide))
              · skip
                refine v_aload_n C 0 dX9_sheet_56 rfl ?_
                refine v_iconst C (nI 3) dX9_sheet_57 (by decide) ?_
                refine n_callVi C hRm [.int (nI 3)] cw_X9_error ml_X9_58 (by decide) (show shp 0 = 9 from by decide +kernel) (by decide) rfl (c_error l G M 3 (by decide)) (by decide) rfl rfl (Nat.le_of_ble_eq_true rfl) dX9_sheet_58 (fun M5 hP_58 => ?_)
                subst hP_58
                have hQ : sheetS R (nI s) bits n = e4 3 R := by unfold sheetS; (try rw [nI_clamp (by omega)]); (try rw [nI_clamp (by omega)]); (try rw [nI_clamp (by omega)]); (first | rw [if_neg h_4] | rw [if_pos (Decidable.not_not.mp h_4)] | rw [if_pos h_4] | skip); (first | rw [if_neg h_8] | rw [if_pos (Decidable.not_not.mp h_8)] | rw [if_pos h_8] | skip); (try rw [if_pos (Or.inr (Or.inr h_26))]); (first | rw [if_neg h_53] | rw [if_pos (Decidable.not_not.mp h_53)] | rw [if_pos h_53] | skip); all_goals rfl
                exact n_iret C hRt rfl dX9_sheet_61 (by rw [hQ] <;> rfl) (by rw [hQ]; exact ps_er hS (show (3 : Nat) ≠ 0 by decide))
            · skip
              exact absurd h_36 h_8
          · skip
            refine v_aload_n C 0 dX9_sheet_29 rfl ?_
            refine v_iconst C (nI 1) dX9_sheet_30 (by decide) ?_
            refine n_callVi C hRm [.int (nI 1)] cw_X9_error ml_X9_58 (by decide) (show shp 0 = 9 from by decide +kernel) (by decide) rfl (c_error l G M 1 (by decide)) (by decide) rfl rfl (Nat.le_of_ble_eq_true rfl) dX9_sheet_31 (fun M5 hP_31 => ?_)
            subst hP_31
            have hQ : sheetS R (nI s) bits n = e4 1 R := by unfold sheetS; (try rw [nI_clamp (by omega)]); (try rw [nI_clamp (by omega)]); (try rw [nI_clamp (by omega)]); (first | rw [if_neg h_4] | rw [if_pos (Decidable.not_not.mp h_4)] | rw [if_pos h_4] | skip); (first | rw [if_neg h_8] | rw [if_pos (Decidable.not_not.mp h_8)] | rw [if_pos h_8] | skip); (try rw [if_neg (fun q => q.elim h_14 (fun q => q.elim h_20 h_26))]); all_goals rfl
            exact n_iret C hRt rfl dX9_sheet_34 (by rw [hQ] <;> rfl) (by rw [hQ]; exact ps_er hS (show (1 : Nat) ≠ 0 by decide))
set_option maxHeartbeats 4000000 in
set_option maxRecDepth 100000 in
theorem x_put (l : Launch) (G : GC) (M : Mm) (R : Mm) (hS : shR M (R 217) (R 218) (R 219)) (hz : shOk R) (hw : wOk R) (sheet i v : Int32) : CI l G 3 yX9_put cX9_put 5 .int [.ref (gb G + 0), .int sheet, .int i, .int v] M ((putS R sheet i v).2.1) (PubS M (putS R sheet i v).2.2 (putS R sheet i v).1) := by
  refine Con.of (by decide +kernel) (Nat.le_of_ble_eq_true rfl) ?_
  intro f C hRm hRt _
  show Vc f G NPh M 0 [(0, .ref (gb G + 0)), (1, .int sheet), (2, .int i), (3, .int v)] []
  refine v_iload_n C 1 dX9_put_0 rfl ?_
  refine n_callSp C hRm [.int sheet] cw_X9_noSheet st_X9_noSheet ml_X9_260 (c_noSheet l G M sheet) (by decide) rfl rfl (Nat.le_of_ble_eq_true rfl) dX9_put_1 ?_
  refine nb_if_eq C 13 dX9_put_4 rfl (fun h_4 => ?_) (fun h_4 => ?_)
  · skip
    obtain ⟨s, hs, rfl⟩ := within_nat (by decide) (Decidable.not_not.mp h_4)
    obtain ⟨z, hz1, hz2⟩ := hz s (by omega)
    refine v_aload_n C 0 dX9_put_13 rfl ?_
    refine g_X9_45 C (by decide) (show shp 0 = 9 from by decide +kernel) dX9_put_14 ?_
    refine v_iload_n C 1 dX9_put_17 rfl ?_
    refine v_aald C rfl (by decide) (show shp 195 = 23 from by decide +kernel) (by decide) (by decide) (show s < 4 from by omega) (by decide) (197 + 2 * s) (by simp only [aOff] <;> omega) dX9_put_18 ?_
    refine v_astore C [(4, .ref (gb G + (197 + 2 * s))), (0, .ref (gb G + 0)), (1, .int (nI s)), (2, .int i), (3, .int v)] dX9_put_19 (by decide) rfl ?_
    refine v_aload C 0 dX9_put_21 rfl ?_
    refine n_callVp C hRm [] cw_X5_isMissing ml_X9_266 (show 197 + 2 * s < 221 from by omega) (s_sh (by omega)) (by decide) rfl (s_missing l G M (197 + 2 * s) (by omega) (s_sh (by omega))) (by decide) rfl rfl (Nat.le_of_ble_eq_true rfl) dX9_put_23 ?_
    refine v_top (b2i (R 217 s = 0)) (by rw [(hS s (by omega)).1]) ?_
    refine nb_if_eq C 35 dX9_put_26 rfl (fun h_26 => ?_) (fun h_26 => ?_)
    · skip
      refine v_iload_n C 3 dX9_put_35 rfl ?_
      refine v_iconst C (nI 0) dX9_put_36 (by decide) ?_
      refine v_aload C 0 dX9_put_37 rfl ?_
      refine g_X9_269 C (show 197 + 2 * s < 221 from by omega) (s_sh (by omega)) dX9_put_39 ?_
      refine v_top (R 218 s) ((hS s (by omega)).2.1) ?_
      refine v_iconst C (nI 1) dX9_put_42 (by decide) ?_
      refine v_isub C dX9_put_43 ?_
      refine n_callSp C hRm [.int i, .int (nI 0), .int ((R 218 s) - (nI 1))] cw_X9_outside st_X9_outside ml_X9_54 (c_outside l G M i (nI 0) ((R 218 s) - (nI 1))) (by decide) rfl rfl (Nat.le_of_ble_eq_true rfl) dX9_put_44 ?_
      refine nb_if_eq C 56 dX9_put_47 rfl (fun h_47 => ?_) (fun h_47 => ?_)
      · skip
        obtain ⟨a, ha, rfl⟩ := is_natB hz2 (by omega) (Decidable.not_not.mp h_47)
        refine v_aload C 0 dX9_put_56 rfl ?_
        refine v_iload_n C 3 dX9_put_58 rfl ?_
        refine v_iload_n C 4 dX9_put_59 rfl ?_
        refine n_callVv C hRm [.int (nI a), .int v] cw_X5_write ml_X9_270 (show 197 + 2 * s < 221 from by omega) (s_sh (by omega)) (by decide) rfl (s_write l G M (197 + 2 * s) (by omega) (s_sh (by omega)) (s_sn (by omega)) (R 217 s) (hS s (by omega)).1 ((hw s (by omega)).resolve_left h_26) a (by omega) v) (by decide) rfl rfl (Nat.le_of_ble_eq_true rfl) dX9_put_60 (fun M5 hP_60 => ?_)
        subst hP_60
        refine v_iconst C (nI 1) dX9_put_63 (by decide) ?_
        have hQ : putS R (nI s) (nI a) v = (0, nI 1, up2 R 219 (24 * s + a) (castW (R 217 s) v)) := by unfold putS; (try rw [nI_clamp (by omega)]); (try rw [nI_clamp (by omega)]); (try rw [nI_clamp (by omega)]); (first | rw [if_neg h_4] | rw [if_pos (Decidable.not_not.mp h_4)] | rw [if_pos h_4] | skip); (first | rw [if_neg h_26] | rw [if_pos (Decidable.not_not.mp h_26)] | rw [if_pos h_26] | skip); (first | rw [if_neg h_47] | rw [if_pos (Decidable.not_not.mp h_47)] | rw [if_pos h_47] | skip); all_goals rfl
        exact n_iret C hRt rfl dX9_put_64 (by rw [hQ] <;> rfl) (by rw [hQ]; exact ps_put hS (by omega) (by omega))
      · skip
        refine v_aload_n C 1 dX9_put_50 rfl ?_
        refine v_iconst C (nI 1) dX9_put_51 (by decide) ?_
        refine n_callVi C hRm [.int (nI 1)] cw_X9_error ml_X9_58 (by decide) (show shp 0 = 9 from by decide +kernel) (by decide) rfl (c_error l G M 1 (by decide)) (by decide) rfl rfl (Nat.le_of_ble_eq_true rfl) dX9_put_52 (fun M5 hP_52 => ?_)
        subst hP_52
        have hQ : putS R (nI s) i v = e4 1 R := by unfold putS; (try rw [nI_clamp (by omega)]); (try rw [nI_clamp (by omega)]); (try rw [nI_clamp (by omega)]); (first | rw [if_neg h_4] | rw [if_pos (Decidable.not_not.mp h_4)] | rw [if_pos h_4] | skip); (first | rw [if_neg h_26] | rw [if_pos (Decidable.not_not.mp h_26)] | rw [if_pos h_26] | skip); (first | rw [if_neg h_47] | rw [if_pos (Decidable.not_not.mp h_47)] | rw [if_pos h_47] | skip); all_goals rfl
        exact n_iret C hRt rfl dX9_put_55 (by rw [hQ] <;> rfl) (by rw [hQ]; exact ps_er hS (show (1 : Nat) ≠ 0 by decide))
    · skip
      refine v_aload_n C 1 dX9_put_29 rfl ?_
      refine v_iconst C (nI 2) dX9_put_30 (by decide) ?_
      refine n_callVi C hRm [.int (nI 2)] cw_X9_error ml_X9_58 (by decide) (show shp 0 = 9 from by decide +kernel) (by decide) rfl (c_error l G M 2 (by decide)) (by decide) rfl rfl (Nat.le_of_ble_eq_true rfl) dX9_put_31 (fun M5 hP_31 => ?_)
      subst hP_31
      have hQ : putS R (nI s) i v = e4 2 R := by unfold putS; (try rw [nI_clamp (by omega)]); (try rw [nI_clamp (by omega)]); (try rw [nI_clamp (by omega)]); (first | rw [if_neg h_4] | rw [if_pos (Decidable.not_not.mp h_4)] | rw [if_pos h_4] | skip); (first | rw [if_neg h_26] | rw [if_pos (Decidable.not_not.mp h_26)] | rw [if_pos h_26] | skip); all_goals rfl
      exact n_iret C hRt rfl dX9_put_34 (by rw [hQ] <;> rfl) (by rw [hQ]; exact ps_er hS (show (2 : Nat) ≠ 0 by decide))
  · skip
    refine v_aload_n C 0 dX9_put_7 rfl ?_
    refine v_iconst C (nI 1) dX9_put_8 (by decide) ?_
    refine n_callVi C hRm [.int (nI 1)] cw_X9_error ml_X9_58 (by decide) (show shp 0 = 9 from by decide +kernel) (by decide) rfl (c_error l G M 1 (by decide)) (by decide) rfl rfl (Nat.le_of_ble_eq_true rfl) dX9_put_9 (fun M5 hP_9 => ?_)
    subst hP_9
    have hQ : putS R sheet i v = e4 1 R := by unfold putS; (try rw [nI_clamp (by omega)]); (try rw [nI_clamp (by omega)]); (try rw [nI_clamp (by omega)]); (first | rw [if_neg h_4] | rw [if_pos (Decidable.not_not.mp h_4)] | rw [if_pos h_4] | skip); all_goals rfl
    exact n_iret C hRt rfl dX9_put_12 (by rw [hQ] <;> rfl) (by rw [hQ]; exact ps_er hS (show (1 : Nat) ≠ 0 by decide))
theorem hld {z : Nat} (hz : z ≤ 24) {Zs i n : Int32} (h : Zs = nI z) : ((0 ≤ n ∧ n ≤ Zs) ∧ 0 ≤ i ∧ i ≤ Zs - n) ↔ (¬ n < 0 ∧ ¬ i < 0 ∧ i.toNatClampNeg + n.toNatClampNeg ≤ z) := by
  subst h
  constructor
  · rintro ⟨h1, h2⟩
    obtain ⟨a, ha, rfl⟩ := within_nat (x := n) (k := z) (by omega) (by rw [nI_0]; exact h1)
    rw [nI_subN ha] at h2
    obtain ⟨b, hb, rfl⟩ := within_nat (x := i) (k := z - a) (by omega) (by rw [nI_0]; exact h2)
    rw [nI_clamp (by omega), nI_clamp (by omega)]
    exact ⟨nI_pos (by omega), nI_pos (by omega), by omega⟩
  · rintro ⟨h1, h2, h3⟩
    have h4 : ∀ x : Int32, ¬ x < 0 → x.toNatClampNeg ≤ z → x = nI x.toNatClampNeg := fun x hx hx2 => by
      have h5 : (0 : Int32).toInt ≤ x.toInt := Int32.le_iff_toInt_le.mp (Int32.not_lt.mp hx)
      have h6 : (0 : Int32).toInt = 0 := rfl
      apply Int32.toInt_inj.mp
      have h7 : (nI x.toNatClampNeg).toInt = (x.toNatClampNeg : Int) := by
        have h8 := nI_clamp (show x.toNatClampNeg < 2 ^ 31 by omega)
        have h9 : (0 : Int32).toInt ≤ (nI x.toNatClampNeg).toInt := Int32.le_iff_toInt_le.mp (Int32.not_lt.mp (nI_pos (by omega)))
        have h10 : ((nI x.toNatClampNeg).toInt.toNat) = x.toNatClampNeg := h8
        omega
      rw [h7]
      unfold Int32.toNatClampNeg
      omega
    have en := h4 n h1 (by omega)
    have ei := h4 i h2 (by omega)
    generalize n.toNatClampNeg = a at *
    generalize i.toNatClampNeg = b at *
    subst en
    subst ei
    rw [nI_subN (by omega)]
    refine ⟨⟨Int32.not_lt.mp (nI_pos (by omega)), ?_⟩, Int32.not_lt.mp (nI_pos (by omega)), ?_⟩
    · exact (nI_leI (by omega) (by omega)).mpr (by omega)
    · exact (nI_leI (by omega) (by omega)).mpr (by omega)
theorem mv_er {α : Type _} {a b c d e : Prop} [Decidable a] [Decidable b] [Decidable c] [Decidable d] [Decidable e] {x y : α} (h : ¬ (¬ a ∧ ¬ b ∧ d) ∨ ¬ (¬ a ∧ ¬ c ∧ e)) : (if a then x else if b then x else if c then x else if d then (if e then y else x) else x) = x := by
  by_cases ha : a
  · rw [if_pos ha]
  · rw [if_neg ha]
    by_cases hb : b
    · rw [if_pos hb]
    · rw [if_neg hb]
      by_cases hc : c
      · rw [if_pos hc]
      · rw [if_neg hc]
        by_cases hd : d
        · rw [if_pos hd]
          by_cases he : e
          · exact absurd h (fun q => q.elim (fun z => z ⟨ha, hb, hd⟩) (fun z => z ⟨ha, hc, he⟩))
          · rw [if_neg he]
        · rw [if_neg hd]
theorem nat_of {x : Int32} (h : ¬ x < 0) {z : Nat} (hz : x.toNatClampNeg ≤ z) (hz2 : z ≤ 24) : x = nI x.toNatClampNeg := by
  have h5 : (0 : Int32).toInt ≤ x.toInt := Int32.le_iff_toInt_le.mp (Int32.not_lt.mp h)
  have h6 : (0 : Int32).toInt = 0 := rfl
  apply Int32.toInt_inj.mp
  have h8 := nI_clamp (show x.toNatClampNeg < 2 ^ 31 by omega)
  have h9 : (0 : Int32).toInt ≤ (nI x.toNatClampNeg).toInt := Int32.le_iff_toInt_le.mp (Int32.not_lt.mp (nI_pos (by omega)))
  have h10 : ((nI x.toNatClampNeg).toInt.toNat) = x.toNatClampNeg := h8
  have h11 : x.toInt.toNat = x.toNatClampNeg := rfl
  omega
set_option maxHeartbeats 4000000 in
set_option maxRecDepth 100000 in
theorem x_move (l : Launch) (G : GC) (M : Mm) (R : Mm) (hS : shR M (R 217) (R 218) (R 219)) (hz : shOk R) (hw : wOk R) (sheet i other j n : Int32) : CI l G 3 yX9_move cX9_move 8 .int [.ref (gb G + 0), .int sheet, .int i, .int other, .int j, .int n] M ((moveS R sheet i other j n).2.1) (PubS M (moveS R sheet i other j n).2.2 (moveS R sheet i other j n).1) := by
  refine Con.of (by decide +kernel) (Nat.le_of_ble_eq_true rfl) ?_
  intro f C hRm hRt _
  show Vc f G NPh M 0 [(0, .ref (gb G + 0)), (1, .int sheet), (2, .int i), (3, .int other), (4, .int j), (5, .int n)] []
  refine v_iload_n C 1 dX9_move_0 rfl ?_
  refine n_callSp C hRm [.int sheet] cw_X9_noSheet st_X9_noSheet ml_X9_260 (c_noSheet l G M sheet) (by decide) rfl rfl (Nat.le_of_ble_eq_true rfl) dX9_move_1 ?_
  refine nb_if_ne C 14 dX9_move_4 rfl (fun h_4 => ?_) (fun h_4 => ?_)
  · skip
    refine v_aload_n C 0 dX9_move_14 rfl ?_
    refine v_iconst C (nI 1) dX9_move_15 (by decide) ?_
    refine n_callVi C hRm [.int (nI 1)] cw_X9_error ml_X9_58 (by decide) (show shp 0 = 9 from by decide +kernel) (by decide) rfl (c_error l G M 1 (by decide)) (by decide) rfl rfl (Nat.le_of_ble_eq_true rfl) dX9_move_16 (fun M5 hP_16 => ?_)
    subst hP_16
    have hQ : moveS R sheet i other j n = e4 1 R := by unfold moveS; (try rw [show (nI s).toNatClampNeg = s from nI_clamp (by omega)]); (try rw [show (nI o).toNatClampNeg = o from nI_clamp (by omega)]); (first | rw [if_neg h_4] | rw [if_pos (Decidable.not_not.mp h_4)] | rw [if_pos h_4] | skip); all_goals rfl
    exact n_iret C hRt rfl dX9_move_19 (by rw [hQ] <;> rfl) (by rw [hQ]; exact ps_er hS (show (1 : Nat) ≠ 0 by decide))
  · skip
    obtain ⟨s, hs, rfl⟩ := within_nat (by decide) (Decidable.not_not.mp h_4)
    refine v_iload_n C 3 dX9_move_7 rfl ?_
    refine n_callSp C hRm [.int other] cw_X9_noSheet st_X9_noSheet ml_X9_260 (c_noSheet l G M other) (by decide) rfl rfl (Nat.le_of_ble_eq_true rfl) dX9_move_8 ?_
    refine nb_if_eq C 20 dX9_move_11 rfl (fun h_11 => ?_) (fun h_11 => ?_)
    · skip
      obtain ⟨o, ho, rfl⟩ := within_nat (by decide) (Decidable.not_not.mp h_11)
      obtain ⟨zs, hzs1, hzs2⟩ := hz s (by omega)
      obtain ⟨zo, hzo1, hzo2⟩ := hz o (by omega)
      have ezs : zS R s = zs := cN_of hzs2 (by omega)
      have ezo : zS R o = zo := cN_of hzo2 (by omega)
      refine v_aload_n C 0 dX9_move_20 rfl ?_
      refine g_X9_45 C (by decide) (show shp 0 = 9 from by decide +kernel) dX9_move_21 ?_
      refine v_iload_n C 1 dX9_move_24 rfl ?_
      refine v_aald C rfl (by decide) (show shp 195 = 23 from by decide +kernel) (by decide) (by decide) (show s < 4 from by omega) (by decide) (197 + 2 * s) (by simp only [aOff] <;> omega) dX9_move_25 ?_
      refine v_astore C [(6, .ref (gb G + (197 + 2 * s))), (0, .ref (gb G + 0)), (1, .int (nI s)), (2, .int i), (3, .int (nI o)), (4, .int j), (5, .int n)] dX9_move_26 (by decide) rfl ?_
      refine v_aload_n C 1 dX9_move_28 rfl ?_
      refine g_X9_45 C (by decide) (show shp 0 = 9 from by decide +kernel) dX9_move_29 ?_
      refine v_iload_n C 4 dX9_move_32 rfl ?_
      refine v_aald C rfl (by decide) (show shp 195 = 23 from by decide +kernel) (by decide) (by decide) (show o < 4 from by omega) (by decide) (197 + 2 * o) (by simp only [aOff] <;> omega) dX9_move_33 ?_
      refine v_astore C [(7, .ref (gb G + (197 + 2 * o))), (6, .ref (gb G + (197 + 2 * s))), (0, .ref (gb G + 0)), (1, .int (nI s)), (2, .int i), (3, .int (nI o)), (4, .int j), (5, .int n)] dX9_move_34 (by decide) rfl ?_
      refine v_aload C 1 dX9_move_36 rfl ?_
      refine n_callVp C hRm [] cw_X5_isMissing ml_X9_266 (show 197 + 2 * s < 221 from by omega) (s_sh (by omega)) (by decide) rfl (s_missing l G M (197 + 2 * s) (by omega) (s_sh (by omega))) (by decide) rfl rfl (Nat.le_of_ble_eq_true rfl) dX9_move_38 ?_
      refine v_top (b2i (R 217 s = 0)) (by rw [(hS s (by omega)).1]) ?_
      refine nb_if_ne C 52 dX9_move_41 rfl (fun h_41 => ?_) (fun h_41 => ?_)
      · skip
        refine v_aload_n C 2 dX9_move_52 rfl ?_
        refine v_iconst C (nI 2) dX9_move_53 (by decide) ?_
        refine n_callVi C hRm [.int (nI 2)] cw_X9_error ml_X9_58 (by decide) (show shp 0 = 9 from by decide +kernel) (by decide) rfl (c_error l G M 2 (by decide)) (by decide) rfl rfl (Nat.le_of_ble_eq_true rfl) dX9_move_54 (fun M5 hP_54 => ?_)
        subst hP_54
        have hQ : moveS R (nI s) i (nI o) j n = e4 2 R := by unfold moveS; (try rw [show (nI s).toNatClampNeg = s from nI_clamp (by omega)]); (try rw [show (nI o).toNatClampNeg = o from nI_clamp (by omega)]); (first | rw [if_neg h_4] | rw [if_pos (Decidable.not_not.mp h_4)] | rw [if_pos h_4] | skip); (first | rw [if_neg h_11] | rw [if_pos (Decidable.not_not.mp h_11)] | rw [if_pos h_11] | skip); (first | rw [if_neg h_41] | rw [if_pos (Decidable.not_not.mp h_41)] | rw [if_pos h_41] | skip); all_goals rfl
        exact n_iret C hRt rfl dX9_move_57 (by rw [hQ] <;> rfl) (by rw [hQ]; exact ps_er hS (show (2 : Nat) ≠ 0 by decide))
      · skip
        refine v_aload C 0 dX9_move_44 rfl ?_
        refine n_callVp C hRm [] cw_X5_isMissing ml_X9_266 (show 197 + 2 * o < 221 from by omega) (s_sh (by omega)) (by decide) rfl (s_missing l G M (197 + 2 * o) (by omega) (s_sh (by omega))) (by decide) rfl rfl (Nat.le_of_ble_eq_true rfl) dX9_move_46 ?_
        refine v_top (b2i (R 217 o = 0)) (by rw [(hS o (by omega)).1]) ?_
        refine nb_if_eq C 58 dX9_move_49 rfl (fun h_49 => ?_) (fun h_49 => ?_)
        · skip
          refine v_aload C 1 dX9_move_58 rfl ?_
          refine g_X9_273 C (show 197 + 2 * s < 221 from by omega) (s_sh (by omega)) dX9_move_60 ?_
          refine v_top (R 217 s) ((hS s (by omega)).1) ?_
          refine v_aload C 0 dX9_move_63 rfl ?_
          refine g_X9_273 C (show 197 + 2 * o < 221 from by omega) (s_sh (by omega)) dX9_move_65 ?_
          refine v_top (R 217 o) ((hS o (by omega)).1) ?_
          refine v_icmp_eq C 77 dX9_move_68 rfl (fun h_68 => ?_) (fun h_68 => ?_)
          · skip
            refine v_aload C 1 dX9_move_77 rfl ?_
            refine v_iload_n C 4 dX9_move_79 rfl ?_
            refine v_iload C 7 dX9_move_80 rfl ?_
            refine n_callVp C hRm [.int i, .int n] cw_X5_holds ml_X9_276 (show 197 + 2 * s < 221 from by omega) (s_sh (by omega)) (by decide) rfl (s_holds l G M (197 + 2 * s) (by omega) (s_sh (by omega)) i n) (by decide) rfl rfl (Nat.le_of_ble_eq_true rfl) dX9_move_82 ?_
            refine v_top (b2i (¬ n < 0 ∧ ¬ i < 0 ∧ i.toNatClampNeg + n.toNatClampNeg ≤ zs)) (b2i_congr (hld hzs1 ((hS s (by omega)).2.1.trans hzs2))) ?_
            refine nb_if_eq C 100 dX9_move_85 rfl (fun h_85 => ?_) (fun h_85 => ?_)
            · skip
              refine v_aload_n C 2 dX9_move_100 rfl ?_
              refine v_iconst C (nI 1) dX9_move_101 (by decide) ?_
              refine n_callVi C hRm [.int (nI 1)] cw_X9_error ml_X9_58 (by decide) (show shp 0 = 9 from by decide +kernel) (by decide) rfl (c_error l G M 1 (by decide)) (by decide) rfl rfl (Nat.le_of_ble_eq_true rfl) dX9_move_102 (fun M5 hP_102 => ?_)
              subst hP_102
              have hQ : moveS R (nI s) i (nI o) j n = e4 1 R := by unfold moveS; (try rw [show (nI s).toNatClampNeg = s from nI_clamp (by omega)]); (try rw [show (nI o).toNatClampNeg = o from nI_clamp (by omega)]); (first | rw [if_neg h_4] | rw [if_pos (Decidable.not_not.mp h_4)] | rw [if_pos h_4] | skip); (first | rw [if_neg h_11] | rw [if_pos (Decidable.not_not.mp h_11)] | rw [if_pos h_11] | skip); (first | rw [if_neg h_41] | rw [if_pos (Decidable.not_not.mp h_41)] | rw [if_pos h_41] | skip); (first | rw [if_neg h_49] | rw [if_pos (Decidable.not_not.mp h_49)] | rw [if_pos h_49] | skip); (first | rw [if_neg h_68] | rw [if_pos (Decidable.not_not.mp h_68)] | rw [if_pos h_68] | skip); (rw [ezs, ezo]; exact mv_er (Or.inl h_85)); all_goals rfl
              exact n_iret C hRt rfl dX9_move_105 (by rw [hQ] <;> rfl) (by rw [hQ]; exact ps_er hS (show (1 : Nat) ≠ 0 by decide))
            · skip
              refine v_aload C 0 dX9_move_88 rfl ?_
              refine v_iload C 6 dX9_move_90 rfl ?_
              refine v_iload C 7 dX9_move_92 rfl ?_
              refine n_callVp C hRm [.int j, .int n] cw_X5_holds ml_X9_276 (show 197 + 2 * o < 221 from by omega) (s_sh (by omega)) (by decide) rfl (s_holds l G M (197 + 2 * o) (by omega) (s_sh (by omega)) j n) (by decide) rfl rfl (Nat.le_of_ble_eq_true rfl) dX9_move_94 ?_
              refine v_top (b2i (¬ n < 0 ∧ ¬ j < 0 ∧ j.toNatClampNeg + n.toNatClampNeg ≤ zo)) (b2i_congr (hld hzo1 ((hS o (by omega)).2.1.trans hzo2))) ?_
              refine nb_if_ne C 106 dX9_move_97 rfl (fun h_97 => ?_) (fun h_97 => ?_)
              · skip
                have ei := nat_of h_85.2.1 (z := zs) (by omega) hzs1
                have ej := nat_of h_97.2.1 (z := zo) (by omega) hzo1
                have en := nat_of h_85.1 (z := zs) (by omega) hzs1
                refine v_lv [(7, .ref (gb G + (197 + 2 * o))), (6, .ref (gb G + (197 + 2 * s))), (0, .ref (gb G + 0)), (1, .int (nI s)), (2, .int (nI i.toNatClampNeg)), (3, .int (nI o)), (4, .int (nI j.toNatClampNeg)), (5, .int (nI n.toNatClampNeg))] (by rw [← ei, ← ej, ← en]) ?_
                refine v_aload C 1 dX9_move_106 rfl ?_
                refine g_X9_280 C (show 197 + 2 * s < 221 from by omega) (s_sh (by omega)) dX9_move_108 ?_
                refine v_iload_n C 4 dX9_move_111 rfl ?_
                refine v_aload C 0 dX9_move_112 rfl ?_
                refine g_X9_280 C (show 197 + 2 * o < 221 from by omega) (s_sh (by omega)) dX9_move_114 ?_
                refine v_iload C 6 dX9_move_117 rfl ?_
                refine v_iload C 7 dX9_move_119 rfl ?_
                refine v_copy C hRm (by decide) ml_X9_281 ac_nat ac_stat ac_ini (show 197 + 2 * s + 1 < 221 from by omega) (s_sn (by omega)) (show 197 + 2 * o + 1 < 221 from by omega) (s_sn (by omega)) (by omega) (by omega) (by decide) (by decide) (Nat.le_of_ble_eq_true rfl) dX9_move_121 ?_
                refine v_iload C 7 dX9_move_124 rfl ?_
                refine v_top n en.symm ?_
                have hQ : moveS R (nI s) i (nI o) j n = (0, n, upA R 219 (mvF R s i.toNatClampNeg o j.toNatClampNeg n.toNatClampNeg)) := by unfold moveS; (try rw [show (nI s).toNatClampNeg = s from nI_clamp (by omega)]); (try rw [show (nI o).toNatClampNeg = o from nI_clamp (by omega)]); (first | rw [if_neg h_4] | rw [if_pos (Decidable.not_not.mp h_4)] | rw [if_pos h_4] | skip); (first | rw [if_neg h_11] | rw [if_pos (Decidable.not_not.mp h_11)] | rw [if_pos h_11] | skip); (first | rw [if_neg h_41] | rw [if_pos (Decidable.not_not.mp h_41)] | rw [if_pos h_41] | skip); (first | rw [if_neg h_49] | rw [if_pos (Decidable.not_not.mp h_49)] | rw [if_pos h_49] | skip); (first | rw [if_neg h_68] | rw [if_pos (Decidable.not_not.mp h_68)] | rw [if_pos h_68] | skip); (rw [if_neg h_85.1, if_neg h_85.2.1, if_neg h_97.2.1, ezs, ezo, if_pos h_85.2.2, if_pos h_97.2.2]); all_goals rfl
                exact n_iret C hRt rfl dX9_move_126 (by rw [hQ] <;> rfl) (by rw [hQ]; exact ps_mov hS (by omega) (by omega) (by omega) (by omega))
              · skip
                refine v_aload_n C 2 dX9_move_100 rfl ?_
                refine v_iconst C (nI 1) dX9_move_101 (by decide) ?_
                refine n_callVi C hRm [.int (nI 1)] cw_X9_error ml_X9_58 (by decide) (show shp 0 = 9 from by decide +kernel) (by decide) rfl (c_error l G M 1 (by decide)) (by decide) rfl rfl (Nat.le_of_ble_eq_true rfl) dX9_move_102 (fun M5 hP_102 => ?_)
                subst hP_102
                have hQ : moveS R (nI s) i (nI o) j n = e4 1 R := by unfold moveS; (try rw [show (nI s).toNatClampNeg = s from nI_clamp (by omega)]); (try rw [show (nI o).toNatClampNeg = o from nI_clamp (by omega)]); (first | rw [if_neg h_4] | rw [if_pos (Decidable.not_not.mp h_4)] | rw [if_pos h_4] | skip); (first | rw [if_neg h_11] | rw [if_pos (Decidable.not_not.mp h_11)] | rw [if_pos h_11] | skip); (first | rw [if_neg h_41] | rw [if_pos (Decidable.not_not.mp h_41)] | rw [if_pos h_41] | skip); (first | rw [if_neg h_49] | rw [if_pos (Decidable.not_not.mp h_49)] | rw [if_pos h_49] | skip); (first | rw [if_neg h_68] | rw [if_pos (Decidable.not_not.mp h_68)] | rw [if_pos h_68] | skip); (rw [ezs, ezo]; exact mv_er (Or.inr h_97)); all_goals rfl
                exact n_iret C hRt rfl dX9_move_105 (by rw [hQ] <;> rfl) (by rw [hQ]; exact ps_er hS (show (1 : Nat) ≠ 0 by decide))
          · skip
            refine v_aload_n C 2 dX9_move_71 rfl ?_
            refine v_iconst C (nI 5) dX9_move_72 (by decide) ?_
            refine n_callVi C hRm [.int (nI 5)] cw_X9_error ml_X9_58 (by decide) (show shp 0 = 9 from by decide +kernel) (by decide) rfl (c_error l G M 5 (by decide)) (by decide) rfl rfl (Nat.le_of_ble_eq_true rfl) dX9_move_73 (fun M5 hP_73 => ?_)
            subst hP_73
            have hQ : moveS R (nI s) i (nI o) j n = e4 5 R := by unfold moveS; (try rw [show (nI s).toNatClampNeg = s from nI_clamp (by omega)]); (try rw [show (nI o).toNatClampNeg = o from nI_clamp (by omega)]); (first | rw [if_neg h_4] | rw [if_pos (Decidable.not_not.mp h_4)] | rw [if_pos h_4] | skip); (first | rw [if_neg h_11] | rw [if_pos (Decidable.not_not.mp h_11)] | rw [if_pos h_11] | skip); (first | rw [if_neg h_41] | rw [if_pos (Decidable.not_not.mp h_41)] | rw [if_pos h_41] | skip); (first | rw [if_neg h_49] | rw [if_pos (Decidable.not_not.mp h_49)] | rw [if_pos h_49] | skip); (first | rw [if_neg h_68] | rw [if_pos (Decidable.not_not.mp h_68)] | rw [if_pos h_68] | skip); all_goals rfl
            exact n_iret C hRt rfl dX9_move_76 (by rw [hQ] <;> rfl) (by rw [hQ]; exact ps_er hS (show (5 : Nat) ≠ 0 by decide))
        · skip
          refine v_aload_n C 2 dX9_move_52 rfl ?_
          refine v_iconst C (nI 2) dX9_move_53 (by decide) ?_
          refine n_callVi C hRm [.int (nI 2)] cw_X9_error ml_X9_58 (by decide) (show shp 0 = 9 from by decide +kernel) (by decide) rfl (c_error l G M 2 (by decide)) (by decide) rfl rfl (Nat.le_of_ble_eq_true rfl) dX9_move_54 (fun M5 hP_54 => ?_)
          subst hP_54
          have hQ : moveS R (nI s) i (nI o) j n = e4 2 R := by unfold moveS; (try rw [show (nI s).toNatClampNeg = s from nI_clamp (by omega)]); (try rw [show (nI o).toNatClampNeg = o from nI_clamp (by omega)]); (first | rw [if_neg h_4] | rw [if_pos (Decidable.not_not.mp h_4)] | rw [if_pos h_4] | skip); (first | rw [if_neg h_11] | rw [if_pos (Decidable.not_not.mp h_11)] | rw [if_pos h_11] | skip); (first | rw [if_neg h_41] | rw [if_pos (Decidable.not_not.mp h_41)] | rw [if_pos h_41] | skip); (first | rw [if_neg h_49] | rw [if_pos (Decidable.not_not.mp h_49)] | rw [if_pos h_49] | skip); all_goals rfl
          exact n_iret C hRt rfl dX9_move_57 (by rw [hQ] <;> rfl) (by rw [hQ]; exact ps_er hS (show (2 : Nat) ≠ 0 by decide))
    · skip
      refine v_aload_n C 0 dX9_move_14 rfl ?_
      refine v_iconst C (nI 1) dX9_move_15 (by decide) ?_
      refine n_callVi C hRm [.int (nI 1)] cw_X9_error ml_X9_58 (by decide) (show shp 0 = 9 from by decide +kernel) (by decide) rfl (c_error l G M 1 (by decide)) (by decide) rfl rfl (Nat.le_of_ble_eq_true rfl) dX9_move_16 (fun M5 hP_16 => ?_)
      subst hP_16
      have hQ : moveS R (nI s) i other j n = e4 1 R := by unfold moveS; (try rw [show (nI s).toNatClampNeg = s from nI_clamp (by omega)]); (try rw [show (nI o).toNatClampNeg = o from nI_clamp (by omega)]); (first | rw [if_neg h_4] | rw [if_pos (Decidable.not_not.mp h_4)] | rw [if_pos h_4] | skip); (first | rw [if_neg h_11] | rw [if_pos (Decidable.not_not.mp h_11)] | rw [if_pos h_11] | skip); all_goals rfl
      exact n_iret C hRt rfl dX9_move_19 (by rw [hQ] <;> rfl) (by rw [hQ]; exact ps_er hS (show (1 : Nat) ≠ 0 by decide))
