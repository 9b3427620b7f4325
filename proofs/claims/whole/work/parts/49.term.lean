/-- a text for moves names nothing but l, o, f, h -/
def tx4 (Y : Nat → Int32) : Prop := ∀ k, k < cN Y (321 + 62 * 1) → cN Y (321 + 62 * 1 + 1 + k) ≠ 10004
theorem ev_nm {nm nm' : Nat → Int32} {Y : Nat → Int32} {fr : Nat} (hn : ∀ j, j < 4 → nm j = nm' j) : ∀ k, (∀ i, i < k → cN Y (fr + i) < 10004 ∨ 20000 ≤ cN Y (fr + i)) → evT nm Y fr k = evT nm' Y fr k
  | 0, _ => rfl
  | k + 1, h => by
    unfold evT
    rw [ev_nm hn k (fun i hi => h i (by omega))]
    unfold stepT
    by_cases h1 : cN Y (fr + k) < 10000
    · rw [if_pos h1, if_pos h1]
    · rw [if_neg h1, if_neg h1]
      by_cases h2 : cN Y (fr + k) < 20000
      · rw [if_pos h2, if_pos h2, hn _ (by have := h k (Nat.lt_succ_self k); omega)]
      · rw [if_neg h2, if_neg h2]
theorem val_nm {Y : Nat → Int32} {n hN : Nat} (hY : YOk Y n hN) (h4 : tx4 Y) (a b c d e e' : Int32) : valT Y 1 (nm5 a b c d e) = valT Y 1 (nm5 a b c d e') := by
  obtain ⟨len, hok⟩ := hY.2.2.2.1 1 (by decide)
  have h2 : cN Y (321 + 62 * 1) = len := cN_of hok.2.1 (by have := hok.1; omega)
  unfold valT
  rw [ev_nm (nm' := nm5 a b c d e') (fun j hj => by
    rcases (show j = 0 ∨ j = 1 ∨ j = 2 ∨ j = 3 by omega) with h | h | h | h <;> subst h <;> rfl) _ (fun i hi => by
    obtain ⟨is, h6, h7, h8⟩ := hok.2.2.1 i (by omega)
    have h9 := h4 i hi
    rw [cN_of h6 (by omega)] at h9 ⊢
    omega)]
theorem cmp_e (l o : Int32) : cmpS o l = (if o ≤ l then nI 0 else nI 1) - (if l ≤ o then nI 0 else nI 1) := by
  unfold cmpS
  by_cases h1 : o < l
  · rw [if_pos h1, if_pos (Int32.le_of_lt h1), if_neg (Int32.not_le.mpr h1)]; decide
  · rw [if_neg h1, if_pos (Int32.not_lt.mp h1)]
    by_cases h2 : o = l
    · rw [if_pos h2, if_pos (by rw [h2]; exact Int32.le_refl _)]; decide
    · rw [if_neg h2, if_neg (fun z => h2 (Int32.le_antisymm z (Int32.not_lt.mp h1)))]; decide
theorem cmp_eq (l o h : Int32) : l + cmpS o l + h = l + (if o ≤ l then nI 0 else nI 1) - (if l ≤ o then nI 0 else nI 1) + h := by
  rw [cmp_e, Int32.sub_eq_add_neg, Int32.sub_eq_add_neg, ← Int32.add_assoc]
/-- the class's, not yet held -/
def mvU (Y : Nat → Int32) (n a b : Nat) : Int32 := if ¬ Y (321 + 62 * 1) ≤ 0 then valT Y 1 (nm5 (Y (67 + 10 * a + b)) (Y (67 + 10 * b + a)) (nI (fonM Y a b n)) (hpN Y a b) (nI 0))
  else Y (67 + 10 * a + b) + cmpS (Y (67 + 10 * b + a)) (Y (67 + 10 * a + b)) + hpN Y a b
theorem mv_held (Y : Nat → Int32) (n a b : Nat) : heldS (mvU Y n a b) (nI 0) (nI 99) = movS Y n a b := by
  unfold mvU movS
  by_cases h : ¬ Y (321 + 62 * 1) ≤ 0
  · rw [if_pos h, if_pos h]
  · rw [if_neg h, if_neg h, cmp_eq]
/-- nothing but the names and what the second text lays down -/
abbrev scr2 (y : Nat) (M M' : Mm) : Prop := ∀ a, a ≠ y + 8 → a ≠ y + 55 + 3 * 1 + 2 → M' a = M a
theorem YR.scr2 {M M' : Mm} {y : Nat} {Y : Nat → Int32} {n hN : Nat} (h : YR M y Y n hN) (hM : scr2 y M M') : YR M' y Y n hN :=
  YR.scr (M := upA M (y + 8) (M' (y + 8))) (h.scr (k := y + 8) (fun a ha => upA_ne _ _ ha) (by omega)) (k := y + 55 + 3 * 1 + 2) (fun a ha => by
    by_cases e : a = y + 8
    · subst e; rw [upA_eq]
    · rw [upA_ne _ _ e]; exact hM a e ha) (by omega)
theorem y_worth1 (l : Launch) (G : GC) (M : Mm) (y : Nat) (hy : yd y) (Y : Nat → Int32) (n hN : Nat) (hR : YR M y Y n hN) (hY : YOk Y n hN) (u : Nat) (hu : u < 2) (hl : ¬ Y (321 + 62 * u) ≤ 0) (nm : Nat → Int32) (hnm : ∀ j, j < 5 → M (y + 8) j = nm j) : CI l G 2 yX7_worth cX7_worth 5 .int [.ref (gb G + (y + 55 + 3 * u)), .ref (gb G + (y + 8))] M (valT Y u nm) (fun M' => ∀ a, a ≠ y + 55 + 3 * u + 2 → M' a = M a) := by
  have hyl : y + 60 < 221 := yd_lt hy (by decide)
  obtain ⟨len, hok⟩ := hY.2.2.2.1 u hu
  have h2 : cN Y (321 + 62 * u) = len := cN_of hok.2.1 (by have := hok.1; omega)
  refine Con.mono (t_worth l G M (y + 55 + 3 * u) (by omega) (s_tx hy hu) (s_ts hy hu) (s_tl hy hu) (y + 8) (by omega) (s_y8 hy) (by omega) Y (321 + 62 * u + 1) len hok (hok.pos hl) nm ((hR.tx u hu).1.trans hok.2.1) (fun i hi => (hR.tx u hu).2 i (by rw [h2]; exact hi)) hnm) ?_
  intro v M' hv
  obtain ⟨rfl, g, rfl⟩ := hv
  exact ⟨by unfold valT; rw [h2], fun a ha => upA_ne _ _ ha⟩
set_option maxHeartbeats 4000000 in
set_option maxRecDepth 100000 in
theorem y_shared (l : Launch) (G : GC) (M : Mm) (y : Nat) (hy : yd y) (Y : Nat → Int32) (n hN : Nat) (hR : YR M y Y n hN) (hY : YOk Y n hN) (a b : Nat) (ha : a < n) (hb : b < n) : CP l G 1 yX8_countShared cX8_countShared 5 .int [.ref (gb G + y), .int (nI a), .int (nI b)] M (nI (fonM Y a b n)) := by
  refine Con.of (by decide +kernel) (Nat.le_of_ble_eq_true rfl) ?_
  intro f C hRm hRt _
  have hyl : y + 60 < 221 := yd_lt hy (by decide)
  have hn2 := hY.1.2.1
  have h5 := hY.1.2.2.2
  have LF : ∀ (kk : Nat) (k : Nat) (v : Nat), n - k = kk → k ≤ n → v = fonM Y a b k → Vc f G NPh M 5 [(4, .int (nI k)), (3, .int (nI v)), (0, .ref (gb G + y)), (1, .int (nI a)), (2, .int (nI b))] [] := by
    intro kk
    induction kk using Nat.strongRecOn with
    | _ kk ihLF =>
      intro k v hkk hk hv
      refine v_iload C 0 dX8_countShared_5 rfl ?_
      refine v_aload_n C 2 dX8_countShared_7 rfl ?_
      refine g_X8_70 C (show y < 221 from by omega) (s_y hy) dX8_countShared_8 ?_
      refine v_top (nI n) (hR.n) ?_
      refine n_icmp_ge C (by omega) (by omega) 69 dX8_countShared_11 rfl (fun h_11 => ?_) (fun h_11 => ?_)
      · skip
        refine v_iload_n C 1 dX8_countShared_69 rfl ?_
        exact n_iret C hRt rfl dX8_countShared_70 (by (have h9 : k = n := by omega); subst h9; rw [hv]) rfl
      · skip
        refine v_iload C 0 dX8_countShared_14 rfl ?_
        refine v_iload_n C 3 dX8_countShared_16 rfl ?_
        refine n_icmp_eq C (by omega) (by omega) 63 dX8_countShared_17 rfl (fun h_17 => ?_) (fun h_17 => ?_)
        · skip
          refine v_iinc C (nI (k + 1)) 0 [(4, .int (nI (k + 1))), (3, .int (nI v)), (0, .ref (gb G + y)), (1, .int (nI a)), (2, .int (nI b))] dX8_countShared_63 rfl (nI_add _ _) (by decide) rfl ?_
          refine v_goto C 5 dX8_countShared_66 rfl ?_
          refine v_sub [0, 1, 2, 3, 4] [(4, .int (nI (k + 1))), (3, .int (nI v)), (0, .ref (gb G + y)), (1, .int (nI a)), (2, .int (nI b))] rfl ?_
          exact ihLF _ (by omega) (k + 1) v rfl (by omega) (by subst hv; show _ = _ + (if _ then 1 else 0); rw [if_neg (fun q => q.1 h_17), Nat.add_zero])
        · skip
          refine v_iload C 0 dX8_countShared_20 rfl ?_
          refine v_iload_n C 4 dX8_countShared_22 rfl ?_
          refine n_icmp_eq C (by omega) (by omega) 63 dX8_countShared_23 rfl (fun h_23 => ?_) (fun h_23 => ?_)
          · skip
            refine v_iinc C (nI (k + 1)) 0 [(4, .int (nI (k + 1))), (3, .int (nI v)), (0, .ref (gb G + y)), (1, .int (nI a)), (2, .int (nI b))] dX8_countShared_63 rfl (nI_add _ _) (by decide) rfl ?_
            refine v_goto C 5 dX8_countShared_66 rfl ?_
            refine v_sub [0, 1, 2, 3, 4] [(4, .int (nI (k + 1))), (3, .int (nI v)), (0, .ref (gb G + y)), (1, .int (nI a)), (2, .int (nI b))] rfl ?_
            exact ihLF _ (by omega) (k + 1) v rfl (by omega) (by subst hv; show _ = _ + (if _ then 1 else 0); rw [if_neg (fun q => q.2.1 h_23), Nat.add_zero])
          · skip
            refine v_aload_n C 2 dX8_countShared_26 rfl ?_
            refine g_X8_11 C (show y < 221 from by omega) (s_y hy) dX8_countShared_27 ?_
            refine v_iload_n C 3 dX8_countShared_30 rfl ?_
            refine v_aald C rfl (show y + 1 < 221 from by omega) (s_y1 hy) (by decide) (by decide) (show a < 10 from by omega) (by decide) (y + 20 + 3 * a) (by simp only [aOff] <;> omega) dX8_countShared_31 ?_
            refine g_X8_106 C (show y + 20 + 3 * a < 221 from by omega) (s_ch hy (by omega)) dX8_countShared_32 ?_
            refine v_iload C 0 dX8_countShared_35 rfl ?_
            refine v_iald C (show y + 20 + 3 * a + 1 < 221 from by omega) (s_lk hy (by omega)) (by omega) (by decide) dX8_countShared_37 ?_
            refine v_top (Y (67 + 10 * a + k)) (hR.lk (by omega) (by omega)) ?_
            refine v_bipush C (nI 50) dX8_countShared_38 (by decide) ?_
            refine v_icmp_lt C 63 dX8_countShared_40 rfl (fun h_40 => ?_) (fun h_40 => ?_)
            · skip
              refine v_iinc C (nI (k + 1)) 0 [(4, .int (nI (k + 1))), (3, .int (nI v)), (0, .ref (gb G + y)), (1, .int (nI a)), (2, .int (nI b))] dX8_countShared_63 rfl (nI_add _ _) (by decide) rfl ?_
              refine v_goto C 5 dX8_countShared_66 rfl ?_
              refine v_sub [0, 1, 2, 3, 4] [(4, .int (nI (k + 1))), (3, .int (nI v)), (0, .ref (gb G + y)), (1, .int (nI a)), (2, .int (nI b))] rfl ?_
              exact ihLF _ (by omega) (k + 1) v rfl (by omega) (by subst hv; show _ = _ + (if _ then 1 else 0); rw [if_neg (fun q => absurd h_40 (Int32.not_lt.mpr q.2.2.1)), Nat.add_zero])
            · skip
              refine v_aload_n C 2 dX8_countShared_43 rfl ?_
              refine g_X8_11 C (show y < 221 from by omega) (s_y hy) dX8_countShared_44 ?_
              refine v_iload_n C 4 dX8_countShared_47 rfl ?_
              refine v_aald C rfl (show y + 1 < 221 from by omega) (s_y1 hy) (by decide) (by decide) (show b < 10 from by omega) (by decide) (y + 20 + 3 * b) (by simp only [aOff] <;> omega) dX8_countShared_48 ?_
              refine g_X8_106 C (show y + 20 + 3 * b < 221 from by omega) (s_ch hy (by omega)) dX8_countShared_49 ?_
              refine v_iload C 0 dX8_countShared_52 rfl ?_
              refine v_iald C (show y + 20 + 3 * b + 1 < 221 from by omega) (s_lk hy (by omega)) (by omega) (by decide) dX8_countShared_54 ?_
              refine v_top (Y (67 + 10 * b + k)) (hR.lk (by omega) (by omega)) ?_
              refine v_bipush C (nI 50) dX8_countShared_55 (by decide) ?_
              refine v_icmp_lt C 63 dX8_countShared_57 rfl (fun h_57 => ?_) (fun h_57 => ?_)
              · skip
                refine v_iinc C (nI (k + 1)) 0 [(4, .int (nI (k + 1))), (3, .int (nI v)), (0, .ref (gb G + y)), (1, .int (nI a)), (2, .int (nI b))] dX8_countShared_63 rfl (nI_add _ _) (by decide) rfl ?_
                refine v_goto C 5 dX8_countShared_66 rfl ?_
                refine v_sub [0, 1, 2, 3, 4] [(4, .int (nI (k + 1))), (3, .int (nI v)), (0, .ref (gb G + y)), (1, .int (nI a)), (2, .int (nI b))] rfl ?_
                exact ihLF _ (by omega) (k + 1) v rfl (by omega) (by subst hv; show _ = _ + (if _ then 1 else 0); rw [if_neg (fun q => absurd h_57 (Int32.not_lt.mpr q.2.2.2)), Nat.add_zero])
              · skip
                refine v_iinc C (nI (v + 1)) 1 [(3, .int (nI (v + 1))), (4, .int (nI k)), (0, .ref (gb G + y)), (1, .int (nI a)), (2, .int (nI b))] dX8_countShared_60 rfl (nI_add _ _) (by decide) rfl ?_
                refine v_iinc C (nI (k + 1)) 1 [(4, .int (nI (k + 1))), (3, .int (nI (v + 1))), (0, .ref (gb G + y)), (1, .int (nI a)), (2, .int (nI b))] dX8_countShared_63 rfl (nI_add _ _) (by decide) rfl ?_
                refine v_goto C 5 dX8_countShared_66 rfl ?_
                refine v_sub [0, 1, 2, 3, 4] [(4, .int (nI (k + 1))), (3, .int (nI (v + 1))), (0, .ref (gb G + y)), (1, .int (nI a)), (2, .int (nI b))] rfl ?_
                exact ihLF _ (by omega) (k + 1) (v + 1) rfl (by omega) (by subst hv; show _ = _ + (if _ then 1 else 0); rw [if_pos ⟨h_17, h_23, Int32.not_lt.mp h_40, Int32.not_lt.mp h_57⟩])
  show Vc f G NPh M 0 [(0, .ref (gb G + y)), (1, .int (nI a)), (2, .int (nI b))] []
  refine v_iconst C (nI 0) dX8_countShared_0 (by decide) ?_
  refine v_istore_n C [(3, .int (nI 0)), (0, .ref (gb G + y)), (1, .int (nI a)), (2, .int (nI b))] dX8_countShared_1 rfl (by decide) rfl ?_
  refine v_iconst C (nI 0) dX8_countShared_2 (by decide) ?_
  refine v_istore C [(4, .int (nI 0)), (3, .int (nI 0)), (0, .ref (gb G + y)), (1, .int (nI a)), (2, .int (nI b))] dX8_countShared_3 (by decide) rfl ?_
  refine v_sub [0, 1, 2, 3, 4] [(4, .int (nI 0)), (3, .int (nI 0)), (0, .ref (gb G + y)), (1, .int (nI a)), (2, .int (nI b))] rfl ?_
  exact LF _ 0 0 rfl (by omega) rfl
set_option maxHeartbeats 4000000 in
set_option maxRecDepth 100000 in
theorem y_likesThen (l : Launch) (G : GC) (M : Mm) (y : Nat) (hy : yd y) (Y : Nat → Int32) (n hN : Nat) (hR : YR M y Y n hN) (hY : YOk Y n hN) (a b : Nat) (ha : a < n) (hb : b < n) (h4 : tx4 Y) : CI l G 3 yX8_likesThen cX8_likesThen 8 .int [.ref (gb G + y), .int (nI a), .int (nI b)] M (mvU Y n a b) (scr2 y M) := by
  refine Con.of (by decide +kernel) (Nat.le_of_ble_eq_true rfl) ?_
  intro f C hRm hRt _
  have hyl : y + 60 < 221 := yd_lt hy (by decide)
  have hn2 := hY.1.2.1
  have h5 := hY.1.2.2.2
  have hnn : ¬ Y (7 + 6 * a + 4) = -1 → ¬ Y (7 + 6 * a + 4) < 0 := fun z => (hY.2.2.1 a ha).elim (fun q => absurd q z) (fun q => by obtain ⟨k, hk, hb⟩ := q; rw [hb]; exact Int32.not_lt.mpr (nn_nI k (by omega)))
  show Vc f G NPh M 0 [(0, .ref (gb G + y)), (1, .int (nI a)), (2, .int (nI b))] []
  refine v_aload_n C 0 dX8_likesThen_0 rfl ?_
  refine g_X8_11 C (show y < 221 from by omega) (s_y hy) dX8_likesThen_1 ?_
  refine v_iload_n C 1 dX8_likesThen_4 rfl ?_
  refine v_aald C rfl (show y + 1 < 221 from by omega) (s_y1 hy) (by decide) (by decide) (show a < 10 from by omega) (by decide) (y + 20 + 3 * a) (by simp only [aOff] <;> omega) dX8_likesThen_5 ?_
  refine g_X8_106 C (show y + 20 + 3 * a < 221 from by omega) (s_ch hy (by omega)) dX8_likesThen_6 ?_
  refine v_iload_n C 2 dX8_likesThen_9 rfl ?_
  refine v_iald C (show y + 20 + 3 * a + 1 < 221 from by omega) (s_lk hy (by omega)) (by omega) (by decide) dX8_likesThen_10 ?_
  refine v_top (Y (67 + 10 * a + b)) (hR.lk (by omega) (by omega)) ?_
  refine v_istore_n C [(3, .int (Y (67 + 10 * a + b))), (0, .ref (gb G + y)), (1, .int (nI a)), (2, .int (nI b))] dX8_likesThen_11 rfl (by decide) rfl ?_
  refine v_aload_n C 1 dX8_likesThen_12 rfl ?_
  refine g_X8_11 C (show y < 221 from by omega) (s_y hy) dX8_likesThen_13 ?_
  refine v_iload_n C 3 dX8_likesThen_16 rfl ?_
  refine v_aald C rfl (show y + 1 < 221 from by omega) (s_y1 hy) (by decide) (by decide) (show b < 10 from by omega) (by decide) (y + 20 + 3 * b) (by simp only [aOff] <;> omega) dX8_likesThen_17 ?_
  refine g_X8_106 C (show y + 20 + 3 * b < 221 from by omega) (s_ch hy (by omega)) dX8_likesThen_18 ?_
  refine v_iload_n C 2 dX8_likesThen_21 rfl ?_
  refine v_iald C (show y + 20 + 3 * b + 1 < 221 from by omega) (s_lk hy (by omega)) (by omega) (by decide) dX8_likesThen_22 ?_
  refine v_top (Y (67 + 10 * b + a)) (hR.lk (by omega) (by omega)) ?_
  refine v_istore C [(4, .int (Y (67 + 10 * b + a))), (3, .int (Y (67 + 10 * a + b))), (0, .ref (gb G + y)), (1, .int (nI a)), (2, .int (nI b))] dX8_likesThen_23 (by decide) rfl ?_
  refine v_aload_n C 2 dX8_likesThen_25 rfl ?_
  refine g_X8_11 C (show y < 221 from by omega) (s_y hy) dX8_likesThen_26 ?_
  refine v_iload_n C 3 dX8_likesThen_29 rfl ?_
  refine v_aald C rfl (show y + 1 < 221 from by omega) (s_y1 hy) (by decide) (by decide) (show a < 10 from by omega) (by decide) (y + 20 + 3 * a) (by simp only [aOff] <;> omega) dX8_likesThen_30 ?_
  refine g_X8_82 C (show y + 20 + 3 * a < 221 from by omega) (s_ch hy (by omega)) dX8_likesThen_31 ?_
  refine v_top (Y (7 + 6 * a + 4)) (hR.at (by omega) (by omega)) ?_
  refine v_istore C [(5, .int (Y (7 + 6 * a + 4))), (4, .int (Y (67 + 10 * b + a))), (3, .int (Y (67 + 10 * a + b))), (0, .ref (gb G + y)), (1, .int (nI a)), (2, .int (nI b))] dX8_likesThen_34 (by decide) rfl ?_
  refine v_iload C 0 dX8_likesThen_36 rfl ?_
  refine v_iconst C (-1) dX8_likesThen_38 (by decide) ?_
  refine v_icmp_eq C 60 dX8_likesThen_39 rfl (fun h_39 => ?_) (fun h_39 => ?_)
  · skip
    refine v_iconst C (nI 0) dX8_likesThen_60 (by decide) ?_
    refine v_top (hpN Y a b) (by unfold hpN; rw [if_neg (fun q => q.1 (by rw [h_39]; decide))]) ?_
    refine v_istore C [(6, .int (hpN Y a b)), (5, .int (Y (7 + 6 * a + 4))), (4, .int (Y (67 + 10 * b + a))), (3, .int (Y (67 + 10 * a + b))), (0, .ref (gb G + y)), (1, .int (nI a)), (2, .int (nI b))] dX8_likesThen_61 (by decide) rfl ?_
    refine v_aload_n C 4 dX8_likesThen_63 rfl ?_
    refine g_X8_25 C (show y < 221 from by omega) (s_y hy) dX8_likesThen_64 ?_
    refine v_iconst C (nI 1) dX8_likesThen_67 (by decide) ?_
    refine v_aald C rfl (show y + 3 < 221 from by omega) (s_y3 hy) (by decide) (by decide) (show 1 < 2 from by omega) (by decide) (y + 55 + 3 * 1) (by simp only [aOff] <;> omega) dX8_likesThen_68 ?_
    refine v_astore C [(7, .ref (gb G + (y + 55 + 3 * 1))), (6, .int (hpN Y a b)), (5, .int (Y (7 + 6 * a + 4))), (4, .int (Y (67 + 10 * b + a))), (3, .int (Y (67 + 10 * a + b))), (0, .ref (gb G + y)), (1, .int (nI a)), (2, .int (nI b))] dX8_likesThen_69 (by decide) rfl ?_
    refine v_aload C 0 dX8_likesThen_71 rfl ?_
    refine n_callVp C hRm [] cw_X7_isThere ml_X8_161 (show y + 55 + 3 * 1 < 221 from by omega) (s_tx hy (by omega)) (by decide) rfl (y_there l G M y hy Y _ _ hR 1 (by decide)) (by decide) rfl rfl (Nat.le_of_ble_eq_true rfl) dX8_likesThen_73 ?_
    refine nb_if_ne C 91 dX8_likesThen_76 rfl (fun h_76 => ?_) (fun h_76 => ?_)
    · skip
      refine v_aload_n C 5 dX8_likesThen_91 rfl ?_
      refine g_X8_45 C (show y < 221 from by omega) (s_y hy) dX8_likesThen_92 ?_
      refine v_iconst C (nI 0) dX8_likesThen_95 (by decide) ?_
      refine v_iload_n C 4 dX8_likesThen_96 rfl ?_
      refine v_iast C (show y + 8 < 221 from by omega) (s_y8 hy) (by omega) (by decide) dX8_likesThen_97 ?_
      have hRq1 : YR (up2 M (y + 8) 0 (Y (67 + 10 * a + b))) y Y n hN := hR.scr (k := y + 8) (fun _ hz => up2_ne _ _ _ hz) (by omega)
      have hFq1 : scr2 y M (up2 M (y + 8) 0 (Y (67 + 10 * a + b))) := fun z h1 h2 => (up2_ne _ _ _ h1)
      refine v_aload_n C 5 dX8_likesThen_98 rfl ?_
      refine g_X8_45 C (show y < 221 from by omega) (s_y hy) dX8_likesThen_99 ?_
      refine v_iconst C (nI 1) dX8_likesThen_102 (by decide) ?_
      refine v_iload C 3 dX8_likesThen_103 rfl ?_
      refine v_iast C (show y + 8 < 221 from by omega) (s_y8 hy) (by omega) (by decide) dX8_likesThen_105 ?_
      have hRq2 : YR (up2 (up2 M (y + 8) 0 (Y (67 + 10 * a + b))) (y + 8) 1 (Y (67 + 10 * b + a))) y Y n hN := hRq1.scr (k := y + 8) (fun _ hz => up2_ne _ _ _ hz) (by omega)
      have hFq2 : scr2 y M (up2 (up2 M (y + 8) 0 (Y (67 + 10 * a + b))) (y + 8) 1 (Y (67 + 10 * b + a))) := fun z h1 h2 => (up2_ne _ _ _ h1).trans (hFq1 z h1 h2)
      refine v_aload_n C 5 dX8_likesThen_106 rfl ?_
      refine g_X8_45 C (show y < 221 from by omega) (s_y hy) dX8_likesThen_107 ?_
      refine v_iconst C (nI 2) dX8_likesThen_110 (by decide) ?_
      refine v_aload_n C 5 dX8_likesThen_111 rfl ?_
      refine v_iload_n C 6 dX8_likesThen_112 rfl ?_
      refine v_iload_n C 7 dX8_likesThen_113 rfl ?_
      refine n_callVp C hRm [.int (nI a), .int (nI b)] cw_X8_countShared ml_X8_216 (show y < 221 from by omega) (s_y hy) (by decide) rfl (y_shared l G (up2 (up2 M (y + 8) 0 (Y (67 + 10 * a + b))) (y + 8) 1 (Y (67 + 10 * b + a))) y hy Y _ _ hRq2 hY a b (by omega) (by omega)) (by decide) rfl rfl (Nat.le_of_ble_eq_true rfl) dX8_likesThen_114 ?_
      refine v_iast C (show y + 8 < 221 from by omega) (s_y8 hy) (by omega) (by decide) dX8_likesThen_117 ?_
      have hRq3 : YR (up2 (up2 (up2 M (y + 8) 0 (Y (67 + 10 * a + b))) (y + 8) 1 (Y (67 + 10 * b + a))) (y + 8) 2 (nI (fonM Y a b n))) y Y n hN := hRq2.scr (k := y + 8) (fun _ hz => up2_ne _ _ _ hz) (by omega)
      have hFq3 : scr2 y M (up2 (up2 (up2 M (y + 8) 0 (Y (67 + 10 * a + b))) (y + 8) 1 (Y (67 + 10 * b + a))) (y + 8) 2 (nI (fonM Y a b n))) := fun z h1 h2 => (up2_ne _ _ _ h1).trans (hFq2 z h1 h2)
      refine v_aload_n C 5 dX8_likesThen_118 rfl ?_
      refine g_X8_45 C (show y < 221 from by omega) (s_y hy) dX8_likesThen_119 ?_
      refine v_iconst C (nI 3) dX8_likesThen_122 (by decide) ?_
      refine v_iload C 1 dX8_likesThen_123 rfl ?_
      refine v_iast C (show y + 8 < 221 from by omega) (s_y8 hy) (by omega) (by decide) dX8_likesThen_125 ?_
      have hRq4 : YR (up2 (up2 (up2 (up2 M (y + 8) 0 (Y (67 + 10 * a + b))) (y + 8) 1 (Y (67 + 10 * b + a))) (y + 8) 2 (nI (fonM Y a b n))) (y + 8) 3 (hpN Y a b)) y Y n hN := hRq3.scr (k := y + 8) (fun _ hz => up2_ne _ _ _ hz) (by omega)
      have hFq4 : scr2 y M (up2 (up2 (up2 (up2 M (y + 8) 0 (Y (67 + 10 * a + b))) (y + 8) 1 (Y (67 + 10 * b + a))) (y + 8) 2 (nI (fonM Y a b n))) (y + 8) 3 (hpN Y a b)) := fun z h1 h2 => (up2_ne _ _ _ h1).trans (hFq3 z h1 h2)
      refine v_aload C 0 dX8_likesThen_126 rfl ?_
      refine v_aload_n C 5 dX8_likesThen_128 rfl ?_
      refine g_X8_45 C (show y < 221 from by omega) (s_y hy) dX8_likesThen_129 ?_
      refine n_callVi C hRm [.ref (gb G + (y + 8))] cw_X7_worth ml_X8_173 (show y + 55 + 3 * 1 < 221 from by omega) (s_tx hy (by omega)) (by decide) rfl (y_worth1 l G (up2 (up2 (up2 (up2 M (y + 8) 0 (Y (67 + 10 * a + b))) (y + 8) 1 (Y (67 + 10 * b + a))) (y + 8) 2 (nI (fonM Y a b n))) (y + 8) 3 (hpN Y a b)) y hy Y _ _ hRq4 hY 1 (by decide) h_76 (nm5 (Y (67 + 10 * a + b)) (Y (67 + 10 * b + a)) (nI (fonM Y a b n)) (hpN Y a b) (M (y + 8) 4)) (by intro j hj; rcases (show j = 0 ∨ j = 1 ∨ j = 2 ∨ j = 3 ∨ j = 4 by omega) with h | h | h | h | h <;> subst h <;> simp [up2_ap, nm5])) (by decide) rfl rfl (Nat.le_of_ble_eq_true rfl) dX8_likesThen_132 (fun Mq5 hP_132 => ?_)
      have hGq5 : scr2 y M Mq5 := fun z h1 h2 => (hP_132 z h2).trans (hFq4 z h1 h2)
      exact n_iret C hRt rfl dX8_likesThen_135 (by unfold mvU; rw [if_pos h_76]; exact val_nm hY h4 _ _ _ _ _ _) hGq5
    · skip
      refine v_iload_n C 4 dX8_likesThen_79 rfl ?_
      refine v_iload C 3 dX8_likesThen_80 rfl ?_
      refine v_iload_n C 4 dX8_likesThen_82 rfl ?_
      refine n_callSp C hRm [.int (Y (67 + 10 * b + a)), .int (Y (67 + 10 * a + b))] cw_J6_compare_7cf53 st_J6_compare_7cf53 ml_X8_213 (j_compare l G M (Y (67 + 10 * b + a)) (Y (67 + 10 * a + b))) (by decide) rfl rfl (Nat.le_of_ble_eq_true rfl) dX8_likesThen_83 ?_
      refine v_iadd C dX8_likesThen_86 ?_
      refine v_iload C 1 dX8_likesThen_87 rfl ?_
      refine v_iadd C dX8_likesThen_89 ?_
      exact n_iret C hRt rfl dX8_likesThen_90 (by unfold mvU; rw [if_neg h_76]) (fun _ _ _ => rfl)
  · skip
    refine v_iload C 0 dX8_likesThen_42 rfl ?_
    refine v_aload_n C 3 dX8_likesThen_44 rfl ?_
    refine g_X8_11 C (show y < 221 from by omega) (s_y hy) dX8_likesThen_45 ?_
    refine v_iload_n C 5 dX8_likesThen_48 rfl ?_
    refine v_aald C rfl (show y + 1 < 221 from by omega) (s_y1 hy) (by decide) (by decide) (show b < 10 from by omega) (by decide) (y + 20 + 3 * b) (by simp only [aOff] <;> omega) dX8_likesThen_49 ?_
    refine g_X8_82 C (show y + 20 + 3 * b < 221 from by omega) (s_ch hy (by omega)) dX8_likesThen_50 ?_
    refine v_top (Y (7 + 6 * b + 4)) (hR.at (by omega) (by omega)) ?_
    refine v_icmp_ne C 60 dX8_likesThen_53 rfl (fun h_53 => ?_) (fun h_53 => ?_)
    · skip
      refine v_iconst C (nI 0) dX8_likesThen_60 (by decide) ?_
      refine v_top (hpN Y a b) (by unfold hpN; rw [if_neg (fun q => h_53 q.2)]) ?_
      refine v_istore C [(6, .int (hpN Y a b)), (5, .int (Y (7 + 6 * a + 4))), (4, .int (Y (67 + 10 * b + a))), (3, .int (Y (67 + 10 * a + b))), (0, .ref (gb G + y)), (1, .int (nI a)), (2, .int (nI b))] dX8_likesThen_61 (by decide) rfl ?_
      refine v_aload_n C 4 dX8_likesThen_63 rfl ?_
      refine g_X8_25 C (show y < 221 from by omega) (s_y hy) dX8_likesThen_64 ?_
      refine v_iconst C (nI 1) dX8_likesThen_67 (by decide) ?_
      refine v_aald C rfl (show y + 3 < 221 from by omega) (s_y3 hy) (by decide) (by decide) (show 1 < 2 from by omega) (by decide) (y + 55 + 3 * 1) (by simp only [aOff] <;> omega) dX8_likesThen_68 ?_
      refine v_astore C [(7, .ref (gb G + (y + 55 + 3 * 1))), (6, .int (hpN Y a b)), (5, .int (Y (7 + 6 * a + 4))), (4, .int (Y (67 + 10 * b + a))), (3, .int (Y (67 + 10 * a + b))), (0, .ref (gb G + y)), (1, .int (nI a)), (2, .int (nI b))] dX8_likesThen_69 (by decide) rfl ?_
      refine v_aload C 0 dX8_likesThen_71 rfl ?_
      refine n_callVp C hRm [] cw_X7_isThere ml_X8_161 (show y + 55 + 3 * 1 < 221 from by omega) (s_tx hy (by omega)) (by decide) rfl (y_there l G M y hy Y _ _ hR 1 (by decide)) (by decide) rfl rfl (Nat.le_of_ble_eq_true rfl) dX8_likesThen_73 ?_
      refine nb_if_ne C 91 dX8_likesThen_76 rfl (fun h_76 => ?_) (fun h_76 => ?_)
      · skip
        refine v_aload_n C 5 dX8_likesThen_91 rfl ?_
        refine g_X8_45 C (show y < 221 from by omega) (s_y hy) dX8_likesThen_92 ?_
        refine v_iconst C (nI 0) dX8_likesThen_95 (by decide) ?_
        refine v_iload_n C 4 dX8_likesThen_96 rfl ?_
        refine v_iast C (show y + 8 < 221 from by omega) (s_y8 hy) (by omega) (by decide) dX8_likesThen_97 ?_
        have hRq6 : YR (up2 M (y + 8) 0 (Y (67 + 10 * a + b))) y Y n hN := hR.scr (k := y + 8) (fun _ hz => up2_ne _ _ _ hz) (by omega)
        have hFq6 : scr2 y M (up2 M (y + 8) 0 (Y (67 + 10 * a + b))) := fun z h1 h2 => (up2_ne _ _ _ h1)
        refine v_aload_n C 5 dX8_likesThen_98 rfl ?_
        refine g_X8_45 C (show y < 221 from by omega) (s_y hy) dX8_likesThen_99 ?_
        refine v_iconst C (nI 1) dX8_likesThen_102 (by decide) ?_
        refine v_iload C 3 dX8_likesThen_103 rfl ?_
        refine v_iast C (show y + 8 < 221 from by omega) (s_y8 hy) (by omega) (by decide) dX8_likesThen_105 ?_
        have hRq7 : YR (up2 (up2 M (y + 8) 0 (Y (67 + 10 * a + b))) (y + 8) 1 (Y (67 + 10 * b + a))) y Y n hN := hRq6.scr (k := y + 8) (fun _ hz => up2_ne _ _ _ hz) (by omega)
        have hFq7 : scr2 y M (up2 (up2 M (y + 8) 0 (Y (67 + 10 * a + b))) (y + 8) 1 (Y (67 + 10 * b + a))) := fun z h1 h2 => (up2_ne _ _ _ h1).trans (hFq6 z h1 h2)
        refine v_aload_n C 5 dX8_likesThen_106 rfl ?_
        refine g_X8_45 C (show y < 221 from by omega) (s_y hy) dX8_likesThen_107 ?_
        refine v_iconst C (nI 2) dX8_likesThen_110 (by decide) ?_
        refine v_aload_n C 5 dX8_likesThen_111 rfl ?_
        refine v_iload_n C 6 dX8_likesThen_112 rfl ?_
        refine v_iload_n C 7 dX8_likesThen_113 rfl ?_
        refine n_callVp C hRm [.int (nI a), .int (nI b)] cw_X8_countShared ml_X8_216 (show y < 221 from by omega) (s_y hy) (by decide) rfl (y_shared l G (up2 (up2 M (y + 8) 0 (Y (67 + 10 * a + b))) (y + 8) 1 (Y (67 + 10 * b + a))) y hy Y _ _ hRq7 hY a b (by omega) (by omega)) (by decide) rfl rfl (Nat.le_of_ble_eq_true rfl) dX8_likesThen_114 ?_
        refine v_iast C (show y + 8 < 221 from by omega) (s_y8 hy) (by omega) (by decide) dX8_likesThen_117 ?_
        have hRq8 : YR (up2 (up2 (up2 M (y + 8) 0 (Y (67 + 10 * a + b))) (y + 8) 1 (Y (67 + 10 * b + a))) (y + 8) 2 (nI (fonM Y a b n))) y Y n hN := hRq7.scr (k := y + 8) (fun _ hz => up2_ne _ _ _ hz) (by omega)
        have hFq8 : scr2 y M (up2 (up2 (up2 M (y + 8) 0 (Y (67 + 10 * a + b))) (y + 8) 1 (Y (67 + 10 * b + a))) (y + 8) 2 (nI (fonM Y a b n))) := fun z h1 h2 => (up2_ne _ _ _ h1).trans (hFq7 z h1 h2)
        refine v_aload_n C 5 dX8_likesThen_118 rfl ?_
        refine g_X8_45 C (show y < 221 from by omega) (s_y hy) dX8_likesThen_119 ?_
        refine v_iconst C (nI 3) dX8_likesThen_122 (by decide) ?_
        refine v_iload C 1 dX8_likesThen_123 rfl ?_
        refine v_iast C (show y + 8 < 221 from by omega) (s_y8 hy) (by omega) (by decide) dX8_likesThen_125 ?_
        have hRq9 : YR (up2 (up2 (up2 (up2 M (y + 8) 0 (Y (67 + 10 * a + b))) (y + 8) 1 (Y (67 + 10 * b + a))) (y + 8) 2 (nI (fonM Y a b n))) (y + 8) 3 (hpN Y a b)) y Y n hN := hRq8.scr (k := y + 8) (fun _ hz => up2_ne _ _ _ hz) (by omega)
        have hFq9 : scr2 y M (up2 (up2 (up2 (up2 M (y + 8) 0 (Y (67 + 10 * a + b))) (y + 8) 1 (Y (67 + 10 * b + a))) (y + 8) 2 (nI (fonM Y a b n))) (y + 8) 3 (hpN Y a b)) := fun z h1 h2 => (up2_ne _ _ _ h1).trans (hFq8 z h1 h2)
        refine v_aload C 0 dX8_likesThen_126 rfl ?_
        refine v_aload_n C 5 dX8_likesThen_128 rfl ?_
        refine g_X8_45 C (show y < 221 from by omega) (s_y hy) dX8_likesThen_129 ?_
        refine n_callVi C hRm [.ref (gb G + (y + 8))] cw_X7_worth ml_X8_173 (show y + 55 + 3 * 1 < 221 from by omega) (s_tx hy (by omega)) (by decide) rfl (y_worth1 l G (up2 (up2 (up2 (up2 M (y + 8) 0 (Y (67 + 10 * a + b))) (y + 8) 1 (Y (67 + 10 * b + a))) (y + 8) 2 (nI (fonM Y a b n))) (y + 8) 3 (hpN Y a b)) y hy Y _ _ hRq9 hY 1 (by decide) h_76 (nm5 (Y (67 + 10 * a + b)) (Y (67 + 10 * b + a)) (nI (fonM Y a b n)) (hpN Y a b) (M (y + 8) 4)) (by intro j hj; rcases (show j = 0 ∨ j = 1 ∨ j = 2 ∨ j = 3 ∨ j = 4 by omega) with h | h | h | h | h <;> subst h <;> simp [up2_ap, nm5])) (by decide) rfl rfl (Nat.le_of_ble_eq_true rfl) dX8_likesThen_132 (fun Mq10 hP_132 => ?_)
        have hGq10 : scr2 y M Mq10 := fun z h1 h2 => (hP_132 z h2).trans (hFq9 z h1 h2)
        exact n_iret C hRt rfl dX8_likesThen_135 (by unfold mvU; rw [if_pos h_76]; exact val_nm hY h4 _ _ _ _ _ _) hGq10
      · skip
        refine v_iload_n C 4 dX8_likesThen_79 rfl ?_
        refine v_iload C 3 dX8_likesThen_80 rfl ?_
        refine v_iload_n C 4 dX8_likesThen_82 rfl ?_
        refine n_callSp C hRm [.int (Y (67 + 10 * b + a)), .int (Y (67 + 10 * a + b))] cw_J6_compare_7cf53 st_J6_compare_7cf53 ml_X8_213 (j_compare l G M (Y (67 + 10 * b + a)) (Y (67 + 10 * a + b))) (by decide) rfl rfl (Nat.le_of_ble_eq_true rfl) dX8_likesThen_83 ?_
        refine v_iadd C dX8_likesThen_86 ?_
        refine v_iload C 1 dX8_likesThen_87 rfl ?_
        refine v_iadd C dX8_likesThen_89 ?_
        exact n_iret C hRt rfl dX8_likesThen_90 (by unfold mvU; rw [if_neg h_76]) (fun _ _ _ => rfl)
    · skip
      refine v_iconst C (nI 1) dX8_likesThen_56 (by decide) ?_
      refine v_goto C 61 dX8_likesThen_57 rfl ?_
      refine v_top (hpN Y a b) (by unfold hpN; rw [if_pos ⟨hnn h_39, by first | exact h_53 | exact Decidable.not_not.mp h_53⟩]) ?_
      refine v_istore C [(6, .int (hpN Y a b)), (5, .int (Y (7 + 6 * a + 4))), (4, .int (Y (67 + 10 * b + a))), (3, .int (Y (67 + 10 * a + b))), (0, .ref (gb G + y)), (1, .int (nI a)), (2, .int (nI b))] dX8_likesThen_61 (by decide) rfl ?_
      refine v_aload_n C 4 dX8_likesThen_63 rfl ?_
      refine g_X8_25 C (show y < 221 from by omega) (s_y hy) dX8_likesThen_64 ?_
      refine v_iconst C (nI 1) dX8_likesThen_67 (by decide) ?_
      refine v_aald C rfl (show y + 3 < 221 from by omega) (s_y3 hy) (by decide) (by decide) (show 1 < 2 from by omega) (by decide) (y + 55 + 3 * 1) (by simp only [aOff] <;> omega) dX8_likesThen_68 ?_
      refine v_astore C [(7, .ref (gb G + (y + 55 + 3 * 1))), (6, .int (hpN Y a b)), (5, .int (Y (7 + 6 * a + 4))), (4, .int (Y (67 + 10 * b + a))), (3, .int (Y (67 + 10 * a + b))), (0, .ref (gb G + y)), (1, .int (nI a)), (2, .int (nI b))] dX8_likesThen_69 (by decide) rfl ?_
      refine v_aload C 0 dX8_likesThen_71 rfl ?_
      refine n_callVp C hRm [] cw_X7_isThere ml_X8_161 (show y + 55 + 3 * 1 < 221 from by omega) (s_tx hy (by omega)) (by decide) rfl (y_there l G M y hy Y _ _ hR 1 (by decide)) (by decide) rfl rfl (Nat.le_of_ble_eq_true rfl) dX8_likesThen_73 ?_
      refine nb_if_ne C 91 dX8_likesThen_76 rfl (fun h_76 => ?_) (fun h_76 => ?_)
      · skip
        refine v_aload_n C 5 dX8_likesThen_91 rfl ?_
        refine g_X8_45 C (show y < 221 from by omega) (s_y hy) dX8_likesThen_92 ?_
        refine v_iconst C (nI 0) dX8_likesThen_95 (by decide) ?_
        refine v_iload_n C 4 dX8_likesThen_96 rfl ?_
        refine v_iast C (show y + 8 < 221 from by omega) (s_y8 hy) (by omega) (by decide) dX8_likesThen_97 ?_
        have hRq11 : YR (up2 M (y + 8) 0 (Y (67 + 10 * a + b))) y Y n hN := hR.scr (k := y + 8) (fun _ hz => up2_ne _ _ _ hz) (by omega)
        have hFq11 : scr2 y M (up2 M (y + 8) 0 (Y (67 + 10 * a + b))) := fun z h1 h2 => (up2_ne _ _ _ h1)
        refine v_aload_n C 5 dX8_likesThen_98 rfl ?_
        refine g_X8_45 C (show y < 221 from by omega) (s_y hy) dX8_likesThen_99 ?_
        refine v_iconst C (nI 1) dX8_likesThen_102 (by decide) ?_
        refine v_iload C 3 dX8_likesThen_103 rfl ?_
        refine v_iast C (show y + 8 < 221 from by omega) (s_y8 hy) (by omega) (by decide) dX8_likesThen_105 ?_
        have hRq12 : YR (up2 (up2 M (y + 8) 0 (Y (67 + 10 * a + b))) (y + 8) 1 (Y (67 + 10 * b + a))) y Y n hN := hRq11.scr (k := y + 8) (fun _ hz => up2_ne _ _ _ hz) (by omega)
        have hFq12 : scr2 y M (up2 (up2 M (y + 8) 0 (Y (67 + 10 * a + b))) (y + 8) 1 (Y (67 + 10 * b + a))) := fun z h1 h2 => (up2_ne _ _ _ h1).trans (hFq11 z h1 h2)
        refine v_aload_n C 5 dX8_likesThen_106 rfl ?_
        refine g_X8_45 C (show y < 221 from by omega) (s_y hy) dX8_likesThen_107 ?_
        refine v_iconst C (nI 2) dX8_likesThen_110 (by decide) ?_
        refine v_aload_n C 5 dX8_likesThen_111 rfl ?_
        refine v_iload_n C 6 dX8_likesThen_112 rfl ?_
        refine v_iload_n C 7 dX8_likesThen_113 rfl ?_
        refine n_callVp C hRm [.int (nI a), .int (nI b)] cw_X8_countShared ml_X8_216 (show y < 221 from by omega) (s_y hy) (by decide) rfl (y_shared l G (up2 (up2 M (y + 8) 0 (Y (67 + 10 * a + b))) (y + 8) 1 (Y (67 + 10 * b + a))) y hy Y _ _ hRq12 hY a b (by omega) (by omega)) (by decide) rfl rfl (Nat.le_of_ble_eq_true rfl) dX8_likesThen_114 ?_
        refine v_iast C (show y + 8 < 221 from by omega) (s_y8 hy) (by omega) (by decide) dX8_likesThen_117 ?_
        have hRq13 : YR (up2 (up2 (up2 M (y + 8) 0 (Y (67 + 10 * a + b))) (y + 8) 1 (Y (67 + 10 * b + a))) (y + 8) 2 (nI (fonM Y a b n))) y Y n hN := hRq12.scr (k := y + 8) (fun _ hz => up2_ne _ _ _ hz) (by omega)
        have hFq13 : scr2 y M (up2 (up2 (up2 M (y + 8) 0 (Y (67 + 10 * a + b))) (y + 8) 1 (Y (67 + 10 * b + a))) (y + 8) 2 (nI (fonM Y a b n))) := fun z h1 h2 => (up2_ne _ _ _ h1).trans (hFq12 z h1 h2)
        refine v_aload_n C 5 dX8_likesThen_118 rfl ?_
        refine g_X8_45 C (show y < 221 from by omega) (s_y hy) dX8_likesThen_119 ?_
        refine v_iconst C (nI 3) dX8_likesThen_122 (by decide) ?_
        refine v_iload C 1 dX8_likesThen_123 rfl ?_
        refine v_iast C (show y + 8 < 221 from by omega) (s_y8 hy) (by omega) (by decide) dX8_likesThen_125 ?_
        have hRq14 : YR (up2 (up2 (up2 (up2 M (y + 8) 0 (Y (67 + 10 * a + b))) (y + 8) 1 (Y (67 + 10 * b + a))) (y + 8) 2 (nI (fonM Y a b n))) (y + 8) 3 (hpN Y a b)) y Y n hN := hRq13.scr (k := y + 8) (fun _ hz => up2_ne _ _ _ hz) (by omega)
        have hFq14 : scr2 y M (up2 (up2 (up2 (up2 M (y + 8) 0 (Y (67 + 10 * a + b))) (y + 8) 1 (Y (67 + 10 * b + a))) (y + 8) 2 (nI (fonM Y a b n))) (y + 8) 3 (hpN Y a b)) := fun z h1 h2 => (up2_ne _ _ _ h1).trans (hFq13 z h1 h2)
        refine v_aload C 0 dX8_likesThen_126 rfl ?_
        refine v_aload_n C 5 dX8_likesThen_128 rfl ?_
        refine g_X8_45 C (show y < 221 from by omega) (s_y hy) dX8_likesThen_129 ?_
        refine n_callVi C hRm [.ref (gb G + (y + 8))] cw_X7_worth ml_X8_173 (show y + 55 + 3 * 1 < 221 from by omega) (s_tx hy (by omega)) (by decide) rfl (y_worth1 l G (up2 (up2 (up2 (up2 M (y + 8) 0 (Y (67 + 10 * a + b))) (y + 8) 1 (Y (67 + 10 * b + a))) (y + 8) 2 (nI (fonM Y a b n))) (y + 8) 3 (hpN Y a b)) y hy Y _ _ hRq14 hY 1 (by decide) h_76 (nm5 (Y (67 + 10 * a + b)) (Y (67 + 10 * b + a)) (nI (fonM Y a b n)) (hpN Y a b) (M (y + 8) 4)) (by intro j hj; rcases (show j = 0 ∨ j = 1 ∨ j = 2 ∨ j = 3 ∨ j = 4 by omega) with h | h | h | h | h <;> subst h <;> simp [up2_ap, nm5])) (by decide) rfl rfl (Nat.le_of_ble_eq_true rfl) dX8_likesThen_132 (fun Mq15 hP_132 => ?_)
        have hGq15 : scr2 y M Mq15 := fun z h1 h2 => (hP_132 z h2).trans (hFq14 z h1 h2)
        exact n_iret C hRt rfl dX8_likesThen_135 (by unfold mvU; rw [if_pos h_76]; exact val_nm hY h4 _ _ _ _ _ _) hGq15
      · skip
        refine v_iload_n C 4 dX8_likesThen_79 rfl ?_
        refine v_iload C 3 dX8_likesThen_80 rfl ?_
        refine v_iload_n C 4 dX8_likesThen_82 rfl ?_
        refine n_callSp C hRm [.int (Y (67 + 10 * b + a)), .int (Y (67 + 10 * a + b))] cw_J6_compare_7cf53 st_J6_compare_7cf53 ml_X8_213 (j_compare l G M (Y (67 + 10 * b + a)) (Y (67 + 10 * a + b))) (by decide) rfl rfl (Nat.le_of_ble_eq_true rfl) dX8_likesThen_83 ?_
        refine v_iadd C dX8_likesThen_86 ?_
        refine v_iload C 1 dX8_likesThen_87 rfl ?_
        refine v_iadd C dX8_likesThen_89 ?_
        exact n_iret C hRt rfl dX8_likesThen_90 (by unfold mvU; rw [if_neg h_76]) (fun _ _ _ => rfl)
theorem YR.lrow {M : Mm} {y : Nat} {Y : Nat → Int32} {n hN : Nat} (h : YR M y Y n hN) (hY : YOk Y n hN) {c : Nat} (hc : c < 10) {g Y' : Nat → Int32} (hY' : ∀ i, (i < 67 + 10 * c ∨ 67 + 10 * c + 10 ≤ i) → Y' i = Y i) (hg : ∀ o, o < 10 → g o = Y' (67 + 10 * c + o)) : YR (upA M (y + 20 + 3 * c + 1) g) y Y' n hN := by
  obtain ⟨t, ht, ht2⟩ := hY.2.2.2.2.1
  obtain ⟨v, hv, hv2⟩ := hY.2.2.2.2.2
  have hn := hY.1.2.1
  have cn : ∀ i, i < 67 ∨ 167 ≤ i → cN Y' i = cN Y i := fun i hi => by unfold cN; rw [hY' i (by omega)]
  have ne : ∀ a, a ≠ y + 20 + 3 * c + 1 → upA M (y + 20 + 3 * c + 1) g a = M a := fun a ha => upA_ne _ _ ha
  obtain ⟨⟨a1, a2, a3, a4, a5, a6, a7⟩, hb, hcc, hd, he, hf, hgg, ⟨hh1, hh2⟩, hi⟩ := h
  refine ⟨⟨?_, ?_, ?_, ?_, ?_, ?_, ?_⟩, fun d q f q2 q3 => ?_, fun d q => ?_, fun d q o q2 => ?_, fun d q o q2 => ?_, fun k q => ⟨?_, ?_, ?_, ?_⟩, fun k q => ?_, ⟨fun k q => ?_, fun k q => ?_⟩, fun u q => ⟨?_, fun k q2 => ?_⟩⟩
  · rw [ne _ (by omega)]; exact a1
  · rw [ne _ (by omega)]; exact a2
  · rw [ne _ (by omega), hY' _ (by omega)]; exact a3
  · rw [ne _ (by omega), hY' _ (by omega)]; exact a4
  · rw [ne _ (by omega), hY' _ (by omega)]; exact a5
  · rw [ne _ (by omega), hY' _ (by omega)]; exact a6
  · rw [ne _ (by omega), hY' _ (by omega)]; exact a7
  · rw [ne _ (by omega), hY' _ (by omega)]; exact hb d q f q2 q3
  · rw [ne _ (by omega), hY' _ (by omega)]; exact hcc d q
  · by_cases e : d = c
    · subst e; rw [upA_eq]; exact hg o q2
    · rw [ne _ (by omega), hY' _ (by omega)]; exact hd d q o q2
  · rw [ne _ (by omega), hY' _ (by omega)]; exact he d q o q2
  · rw [ne _ (by omega), hY' _ (by omega)]; exact (hf k q).1
  · rw [ne _ (by omega), hY' _ (by omega)]; exact (hf k q).2.1
  · rw [ne _ (by omega), hY' _ (by omega)]; exact (hf k q).2.2.1
  · rw [ne _ (by omega), hY' _ (by omega)]; exact (hf k q).2.2.2
  · rw [ne _ (by omega), msk_congr (fun d hd' => hY' _ (by omega))]; exact hgg k q
  · rw [cn _ (by omega), cN_of ht2 (by omega)] at q; rw [ne _ (by omega), hY' _ (by omega)]; exact hh1 k (by rw [cN_of ht2 (by omega)]; exact q)
  · rw [cn _ (by omega), cN_of hv2 (by omega)] at q; rw [ne _ (by omega), hY' _ (by omega)]; exact hh2 k (by rw [cN_of hv2 (by omega)]; exact q)
  · rw [ne _ (by omega), hY' _ (by omega)]; exact (hi u q).1
  · rw [cn _ (by omega)] at q2; rw [ne _ (by omega), cn _ (by omega)]; exact (hi u q).2 k q2
def lkR (Y : Nat → Int32) (n i : Nat) : Nat → Int32 := fun q => if 67 ≤ q ∧ q < 167 ∧ (q - 67) / 10 < i ∧ (q - 67) % 10 < n then newL Y n ((q - 67) / 10) ((q - 67) % 10) else Y q
theorem lkR_0 (Y : Nat → Int32) (n : Nat) : lkR Y n 0 = Y := by
  funext q; unfold lkR; rw [if_neg (by omega)]
theorem lkA_ap (Y : Nat → Int32) {n : Nat} (hn : n ≤ 10) (q : Nat) : ∀ k, k ≤ n * n → lkA Y n k q = if 67 ≤ q ∧ q < 167 ∧ (q - 67) / 10 * n + (q - 67) % 10 < k ∧ (q - 67) % 10 < n then newL Y n ((q - 67) / 10) ((q - 67) % 10) else Y q
  | 0, _ => by rw [if_neg (by omega)]; rfl
  | k + 1, hk => by
    have h0 := kn_lt (k := k) (n := n) (by omega)
    have h1 : n * (k / n) + k % n = k := Nat.div_add_mod k n
    unfold lkA upd
    by_cases h : q = 67 + 10 * (k / n) + k % n
    · have e1 : (q - 67) / 10 = k / n := by omega
      have e2 : (q - 67) % 10 = k % n := by omega
      rw [if_pos h, e1, e2, if_pos ⟨by omega, by omega, by rw [Nat.mul_comm]; omega, h0.2.1⟩]
    · rw [if_neg h, lkA_ap Y hn q k (by omega)]
      by_cases h2 : 67 ≤ q ∧ q < 167 ∧ (q - 67) / 10 * n + (q - 67) % 10 < k ∧ (q - 67) % 10 < n
      · rw [if_pos h2, if_pos ⟨h2.1, h2.2.1, by omega, h2.2.2.2⟩]
      · rw [if_neg h2, if_neg]
        intro h3
        refine h2 ⟨h3.1, h3.2.1, ?_, h3.2.2.2⟩
        rcases Nat.lt_or_ge ((q - 67) / 10 * n + (q - 67) % 10) k with z | z
        · exact z
        · exfalso
          have z2 : (q - 67) / 10 * n + (q - 67) % 10 = k := by omega
          have e1 : k / n = (q - 67) / 10 := by
            rw [← z2, Nat.add_comm, Nat.add_mul_div_right _ _ h0.2.2, Nat.div_eq_of_lt h3.2.2.2, Nat.zero_add]
          have e2 : k % n = (q - 67) % 10 := by
            rw [← z2, Nat.add_comm, Nat.add_mul_mod_self_right, Nat.mod_eq_of_lt h3.2.2.2]
          apply h
          rw [e1, e2]
          omega
theorem lkA_R (Y : Nat → Int32) {n : Nat} (hn : n ≤ 10) : lkA Y n (n * n) = lkR Y n n := by
  funext q
  rw [lkA_ap Y hn q _ (Nat.le_refl _)]
  unfold lkR
  by_cases h : 67 ≤ q ∧ q < 167 ∧ (q - 67) / 10 < n ∧ (q - 67) % 10 < n
  · have h1 : (q - 67) / 10 * n + n ≤ n * n := by
      have := Nat.mul_le_mul_right n (show (q - 67) / 10 + 1 ≤ n by omega)
      rw [Nat.add_mul, Nat.one_mul] at this
      exact this
    rw [if_pos h, if_pos ⟨h.1, h.2.1, by omega, h.2.2.2⟩]
  · rw [if_neg h, if_neg]
    intro h2
    refine h ⟨h2.1, h2.2.1, ?_, h2.2.2.2⟩
    rcases Nat.lt_or_ge ((q - 67) / 10) n with z | z
    · exact z
    · have := Nat.mul_le_mul_right n z
      omega
theorem yk_lkR {Y : Nat → Int32} {n hN : Nat} (hY : YOk Y n hN) (i : Nat) : YOk (lkR Y n i) n hN := by
  have hn := hY.1.2.1
  have hq : ∀ q, q < 67 ∨ 167 ≤ q → lkR Y n i q = Y q := fun q hq => by unfold lkR; rw [if_neg (by omega)]
  exact hY.to (fun q hq' => hq q (by omega)) (fun c hc => hq _ (by omega)) (fun c hc => by rw [hq _ (by omega)]; exact hY.2.2.1 c hc)
theorem lk_row {M X : Mm} {y : Nat} {Y : Nat → Int32} {n hN i : Nat} (hR : YR X y (lkR Y n i) n hN) (hY : YOk Y n hN) (hi : i < n) (hm : ∀ b, b < n → X (y + 10 + i) b = newL Y n i b) : YR (upA X (y + 20 + 3 * i + 1) (va_cpy (X (y + 10 + i)) (X (y + 20 + 3 * i + 1)) 0 0 n)) y (lkR Y n (i + 1)) n hN := by
  have hn := hY.1.2.1
  refine YR.lrow hR (yk_lkR hY i) (show i < 10 by omega) (fun q hq => ?_) (fun o ho => ?_)
  · unfold lkR
    by_cases h : 67 ≤ q ∧ q < 167 ∧ (q - 67) / 10 < i ∧ (q - 67) % 10 < n
    · rw [if_pos h, if_pos ⟨h.1, h.2.1, by omega, h.2.2.2⟩]
    · rw [if_neg h, if_neg (by omega)]
  · unfold va_cpy
    by_cases h : o < n
    · rw [if_pos (by omega), show 0 + (o - 0) = o by omega, hm o h]
      unfold lkR
      rw [if_pos (by omega), show (67 + 10 * i + o - 67) / 10 = i by omega, show (67 + 10 * i + o - 67) % 10 = o by omega]
    · rw [if_neg (by omega), hR.lk (by omega) ho]
      unfold lkR
      rw [if_neg (by omega), if_neg (by omega)]
set_option maxHeartbeats 4000000 in
set_option maxRecDepth 100000 in
theorem y_passTerm (l : Launch) (G : GC) (M : Mm) (y : Nat) (hy : yd y) (Y : Nat → Int32) (n hN : Nat) (hR : YR M y Y n hN) (hY : YOk Y n hN) (h4 : tx4 Y) : CV l G 4 yX8_passTerm cX8_passTerm 3 [.ref (gb G + y)] M (YP M y (termS Y n) n hN) := by
  refine Con.of (by decide +kernel) (Nat.le_of_ble_eq_true rfl) ?_
  intro f C hRm hRt _
  have hyl : y + 60 < 221 := yd_lt hy (by decide)
  have hn2 := hY.1.2.1
  have h5 := hY.1.2.2.2
  have LM : ∀ (kk : Nat) (i : Nat) (X : Mm), n - i = kk → i ≤ n → YR X y (lkR Y n i) n hN → Fr y M X → (∀ a b, a < n → b < n → X (y + 10 + a) b = newL Y n a b) → Vc f G NPh X 63 [(1, .int (nI i)), (0, .ref (gb G + y))] [] := by
    intro kk
    induction kk using Nat.strongRecOn with
    | _ kk ihLM =>
      intro i X hkk hi hRX hFX hB
      have hkX := yk_lkR hY i
      refine v_iload_n C 0 dX8_passTerm_63 rfl ?_
      refine v_aload_n C 1 dX8_passTerm_64 rfl ?_
      refine g_X8_70 C (show y < 221 from by omega) (s_y hy) dX8_passTerm_65 ?_
      refine v_top (nI n) (hRX.n) ?_
      refine n_icmp_ge C (by omega) (by omega) 101 dX8_passTerm_68 rfl (fun h_68 => ?_) (fun h_68 => ?_)
      · skip
        refine v_aload_n C 1 dX8_passTerm_101 rfl ?_
        refine v_dup C dX8_passTerm_102 rfl ?_
        refine g_X8_79 C (show y < 221 from by omega) (s_y hy) dX8_passTerm_103 ?_
        refine v_top ((lkR Y n i) 3) (hRX.1.2.2.2.1) ?_
        refine v_iconst C (nI 1) dX8_passTerm_106 (by decide) ?_
        refine v_iadd C dX8_passTerm_107 ?_
        refine p_X8_79 C (show y < 221 from by omega) (s_y hy) dX8_passTerm_108 ?_
        have hRq1 : YR (up2 X y 8 (((lkR Y n i) 3) + (nI 1))) y (upd (lkR Y n i) (3) (((lkR Y n i) 3) + (nI 1))) n hN := hRX.wte (by omega) (YOk.t4 hkX) (YOk.t5 hkX) _
        have hFq1 : Fr y M (up2 X y 8 (((lkR Y n i) 3) + (nI 1))) := hFX.tr (Fr.up (y := y) _ (by omega))
        rw [show (upd (lkR Y n i) (3) (((lkR Y n i) 3) + (nI 1))) = termS Y n from (by have h9 : i = n := (by omega); subst h9; unfold termS; rw [lkA_R Y hn2])] at hRq1
        exact n_ret C hRt dX8_passTerm_111 ⟨hRq1, hFq1⟩
      · skip
        refine v_aload_n C 1 dX8_passTerm_71 rfl ?_
        refine g_X8_51 C (show y < 221 from by omega) (s_y hy) dX8_passTerm_72 ?_
        refine v_iload_n C 0 dX8_passTerm_75 rfl ?_
        refine v_aald C rfl (show y + 9 < 221 from by omega) (s_y9 hy) (by decide) (by decide) (show i < 10 from by omega) (by decide) (y + 10 + i) (by simp only [aOff] <;> omega) dX8_passTerm_76 ?_
        refine v_iconst C (nI 0) dX8_passTerm_77 (by decide) ?_
        refine v_aload_n C 1 dX8_passTerm_78 rfl ?_
        refine g_X8_11 C (show y < 221 from by omega) (s_y hy) dX8_passTerm_79 ?_
        refine v_iload_n C 0 dX8_passTerm_82 rfl ?_
        refine v_aald C rfl (show y + 1 < 221 from by omega) (s_y1 hy) (by decide) (by decide) (show i < 10 from by omega) (by decide) (y + 20 + 3 * i) (by simp only [aOff] <;> omega) dX8_passTerm_83 ?_
        refine g_X8_106 C (show y + 20 + 3 * i < 221 from by omega) (s_ch hy (by omega)) dX8_passTerm_84 ?_
        refine v_iconst C (nI 0) dX8_passTerm_87 (by decide) ?_
        refine v_aload_n C 1 dX8_passTerm_88 rfl ?_
        refine g_X8_70 C (show y < 221 from by omega) (s_y hy) dX8_passTerm_89 ?_
        refine v_top (nI n) (hRX.n) ?_
        refine v_copy C hRm (by decide) ml_X8_207 ac_nat ac_stat ac_ini (show y + 10 + i < 221 from by omega) (s_mv hy (by omega)) (show y + 20 + 3 * i + 1 < 221 from by omega) (s_lk hy (by omega)) (by omega) (by omega) (by decide) (by decide) (Nat.le_of_ble_eq_true rfl) dX8_passTerm_92 ?_
        have hR9 := lk_row (M := M) hRX hY (show i < n by omega) (fun b hb => hB i b (by omega) hb)
        have hF9 : Fr y M (upA X (y + 20 + 3 * i + 1) (va_cpy (X (y + 10 + i)) (X (y + 20 + 3 * i + 1)) 0 0 n)) := hFX.tr (Fr.upA _ (by omega))
        have hB9 : ∀ a b, a < n → b < n → (upA X (y + 20 + 3 * i + 1) (va_cpy (X (y + 10 + i)) (X (y + 20 + 3 * i + 1)) 0 0 n)) (y + 10 + a) b = newL Y n a b := fun a b ha hb => by rw [upA_ne _ _ (by omega)]; exact hB a b ha hb
        refine v_iinc C (nI (i + 1)) 0 [(1, .int (nI (i + 1))), (0, .ref (gb G + y))] dX8_passTerm_95 rfl (nI_add _ _) (by decide) rfl ?_
        refine v_goto C 63 dX8_passTerm_98 rfl ?_
        refine v_sub [0, 1] [(1, .int (nI (i + 1))), (0, .ref (gb G + y))] rfl ?_
        exact ihLM _ (by omega) (i + 1) (upA X (y + 20 + 3 * i + 1) (va_cpy (X (y + 10 + i)) (X (y + 20 + 3 * i + 1)) 0 0 n)) rfl (by omega) hR9 hF9 hB9
  have LO : ∀ (kk : Nat) (i : Nat) (X : Mm), n - i = kk → i ≤ n → YR X y Y n hN → Fr y M X → (∀ a b, a < n → b < n → (a < i ∨ (a = i ∧ b < 0)) → X (y + 10 + a) b = newL Y n a b) → Vc f G NPh X 2 [(1, .int (nI i)), (0, .ref (gb G + y))] [] := by
    intro kk
    induction kk using Nat.strongRecOn with
    | _ kk ihLO =>
      intro i X hkk hi hRX hFX hB
      by_cases hin : i < n
      · skip
        have LI : ∀ (kj : Nat) (j : Nat) (X2 : Mm), n - j = kj → j ≤ n → YR X2 y Y n hN → Fr y M X2 → (∀ a b, a < n → b < n → (a < i ∨ (a = i ∧ b < j)) → X2 (y + 10 + a) b = newL Y n a b) → Vc f G NPh X2 12 [(2, .int (nI j)), (1, .int (nI i)), (0, .ref (gb G + y))] [] := by
          intro kj
          induction kj using Nat.strongRecOn with
          | _ kj ihLI =>
            intro j X2 hkj hj hRX2 hFX2 hB2
            refine v_iload_n C 0 dX8_passTerm_12 rfl ?_
            refine v_aload_n C 2 dX8_passTerm_13 rfl ?_
            refine g_X8_70 C (show y < 221 from by omega) (s_y hy) dX8_passTerm_14 ?_
            refine v_top (nI n) (hRX2.n) ?_
            refine n_icmp_ge C (by omega) (by omega) 55 dX8_passTerm_17 rfl (fun h_17 => ?_) (fun h_17 => ?_)
            · skip
              refine v_iinc C (nI (i + 1)) 1 [(1, .int (nI (i + 1))), (2, .int (nI j)), (0, .ref (gb G + y))] dX8_passTerm_55 rfl (nI_add _ _) (by decide) rfl ?_
              refine v_goto C 2 dX8_passTerm_58 rfl ?_
              refine v_sub [0, 2] [(1, .int (nI (i + 1))), (0, .ref (gb G + y))] rfl ?_
              exact ihLO _ (by omega) (i + 1) X2 rfl (by omega) hRX2 hFX2 (fun a b ha hb h => hB2 a b ha hb (by omega))
            · skip
              refine v_aload_n C 2 dX8_passTerm_20 rfl ?_
              refine g_X8_51 C (show y < 221 from by omega) (s_y hy) dX8_passTerm_21 ?_
              refine v_iload_n C 1 dX8_passTerm_24 rfl ?_
              refine v_aald C rfl (show y + 9 < 221 from by omega) (s_y9 hy) (by decide) (by decide) (show i < 10 from by omega) (by decide) (y + 10 + i) (by simp only [aOff] <;> omega) dX8_passTerm_25 ?_
              refine v_iload_n C 0 dX8_passTerm_26 rfl ?_
              refine v_iload_n C 1 dX8_passTerm_27 rfl ?_
              refine v_iload_n C 0 dX8_passTerm_28 rfl ?_
              refine n_icmp_ne C (by omega) (by omega) 36 dX8_passTerm_29 rfl (fun h_29 => ?_) (fun h_29 => ?_)
              · skip
                refine v_aload_n C 2 dX8_passTerm_36 rfl ?_
                refine v_iload_n C 1 dX8_passTerm_37 rfl ?_
                refine v_iload_n C 0 dX8_passTerm_38 rfl ?_
                refine n_callVi C hRm [.int (nI i), .int (nI j)] cw_X8_likesThen ml_X8_204 (show y < 221 from by omega) (s_y hy) (by decide) rfl (y_likesThen l G X2 y hy Y _ _ hRX2 hY i j (by omega) (by omega) h4) (by decide) rfl rfl (Nat.le_of_ble_eq_true rfl) dX8_passTerm_39 (fun Mq1 hP_39 => ?_)
                have hSq1 : scr2 y X2 Mq1 := hP_39
                have hRq1 : YR Mq1 y Y n hN := YR.scr2 hRX2 hSq1
                refine v_iconst C (nI 0) dX8_passTerm_42 (by decide) ?_
                refine v_bipush C (nI 99) dX8_passTerm_43 (by decide) ?_
                refine n_callNp C hRm [.int (mvU Y n i j), .int (nI 0), .int (nI 99)] cw_X9_held st_X9_held mn_X8_141 (c_held l G Mq1 (mvU Y n i j) (nI 0) (nI 99)) (by decide) rfl rfl (Nat.le_of_ble_eq_true rfl) dX8_passTerm_45 ?_
                refine v_iast C (show y + 10 + i < 221 from by omega) (s_mv hy (by omega)) (by omega) (by decide) dX8_passTerm_48 ?_
                have hRq2 : YR (up2 Mq1 (y + 10 + i) j (heldS (mvU Y n i j) (nI 0) (nI 99))) y Y n hN := hRq1.scr (k := y + 10 + i) (fun _ hz => up2_ne _ _ _ hz) (by omega)
                have hBq2 : ∀ a b, a < n → b < n → (a < i ∨ (a = i ∧ b < (j + 1))) → (up2 Mq1 (y + 10 + i) j (heldS (mvU Y n i j) (nI 0) (nI 99))) (y + 10 + a) b = newL Y n a b := by
                  intro a b ha hb h
                  by_cases e : a = i ∧ b = j
                  · obtain ⟨rfl, rfl⟩ := e
                    rw [up2_at]; unfold newL; rw [if_neg h_29]; exact mv_held _ _ _ _
                  · rw [up2_ap, if_neg (by omega)]; rw [hSq1 (y + 10 + a) (by omega) (by omega)]; exact hB2 a b ha hb (by omega)
                have hFq2 : Fr y M (up2 Mq1 (y + 10 + i) j (heldS (mvU Y n i j) (nI 0) (nI 99))) := (hFX2.tr (fun z hz => hSq1 z (by omega) (by omega))).tr (Fr.up _ (by omega))
                refine v_iinc C (nI (j + 1)) 0 [(2, .int (nI (j + 1))), (1, .int (nI i)), (0, .ref (gb G + y))] dX8_passTerm_49 rfl (nI_add _ _) (by decide) rfl ?_
                refine v_goto C 12 dX8_passTerm_52 rfl ?_
                refine v_sub [0, 1, 2] [(2, .int (nI (j + 1))), (1, .int (nI i)), (0, .ref (gb G + y))] rfl ?_
                exact ihLI _ (by omega) (j + 1) (up2 Mq1 (y + 10 + i) j (heldS (mvU Y n i j) (nI 0) (nI 99))) rfl (by omega) hRq2 hFq2 hBq2
              · skip
                refine v_iconst C (nI 0) dX8_passTerm_32 (by decide) ?_
                refine v_goto C 48 dX8_passTerm_33 rfl ?_
                refine v_iast C (show y + 10 + i < 221 from by omega) (s_mv hy (by omega)) (by omega) (by decide) dX8_passTerm_48 ?_
                have hRq3 : YR (up2 X2 (y + 10 + i) j (nI 0)) y Y n hN := hRX2.scr (k := y + 10 + i) (fun _ hz => up2_ne _ _ _ hz) (by omega)
                have hBq3 : ∀ a b, a < n → b < n → (a < i ∨ (a = i ∧ b < (j + 1))) → (up2 X2 (y + 10 + i) j (nI 0)) (y + 10 + a) b = newL Y n a b := by
                  intro a b ha hb h
                  by_cases e : a = i ∧ b = j
                  · obtain ⟨rfl, rfl⟩ := e
                    rw [up2_at]; unfold newL; rw [if_pos h_29]
                  · rw [up2_ap, if_neg (by omega)]; exact hB2 a b ha hb (by omega)
                have hFq3 : Fr y M (up2 X2 (y + 10 + i) j (nI 0)) := hFX2.tr (Fr.up _ (by omega))
                refine v_iinc C (nI (j + 1)) 0 [(2, .int (nI (j + 1))), (1, .int (nI i)), (0, .ref (gb G + y))] dX8_passTerm_49 rfl (nI_add _ _) (by decide) rfl ?_
                refine v_goto C 12 dX8_passTerm_52 rfl ?_
                refine v_sub [0, 1, 2] [(2, .int (nI (j + 1))), (1, .int (nI i)), (0, .ref (gb G + y))] rfl ?_
                exact ihLI _ (by omega) (j + 1) (up2 X2 (y + 10 + i) j (nI 0)) rfl (by omega) hRq3 hFq3 hBq3
        refine v_iload_n C 0 dX8_passTerm_2 rfl ?_
        refine v_aload_n C 1 dX8_passTerm_3 rfl ?_
        refine g_X8_70 C (show y < 221 from by omega) (s_y hy) dX8_passTerm_4 ?_
        refine v_top (nI n) (hRX.n) ?_
        refine n_icmp_ge C (by omega) (by omega) 61 dX8_passTerm_7 rfl (fun h_7 => ?_) (fun h_7 => ?_)
        · skip
          exact absurd hin (by omega)
        · skip
          refine v_iconst C (nI 0) dX8_passTerm_10 (by decide) ?_
          refine v_istore_n C [(2, .int (nI 0)), (1, .int (nI i)), (0, .ref (gb G + y))] dX8_passTerm_11 rfl (by decide) rfl ?_
          refine v_sub [0, 1, 2] [(2, .int (nI 0)), (1, .int (nI i)), (0, .ref (gb G + y))] rfl ?_
          exact LI _ 0 X rfl (by omega) hRX hFX hB
      · have h9 : i = n := by omega
        subst h9
        have hR8 : YR X y (lkR Y i 0) i hN := by rw [lkR_0]; exact hRX
        have hB8 : ∀ a b, a < i → b < i → X (y + 10 + a) b = newL Y i a b := fun a b ha hb => hB a b ha hb (by omega)
        refine v_iload_n C 0 dX8_passTerm_2 rfl ?_
        refine v_aload_n C 1 dX8_passTerm_3 rfl ?_
        refine g_X8_70 C (show y < 221 from by omega) (s_y hy) dX8_passTerm_4 ?_
        refine v_top (nI i) (hRX.n) ?_
        refine n_icmp_ge C (by omega) (by omega) 61 dX8_passTerm_7 rfl (fun h_7 => ?_) (fun h_7 => ?_)
        · skip
          refine v_iconst C (nI 0) dX8_passTerm_61 (by decide) ?_
          refine v_istore_n C [(1, .int (nI 0)), (0, .ref (gb G + y))] dX8_passTerm_62 rfl (by decide) rfl ?_
          refine v_sub [0, 1] [(1, .int (nI 0)), (0, .ref (gb G + y))] rfl ?_
          exact LM _ 0 X rfl (by omega) hR8 hFX hB8
        · skip
          exact absurd h_7 (by omega)
  show Vc f G NPh M 0 [(0, .ref (gb G + y))] []
  refine v_iconst C (nI 0) dX8_passTerm_0 (by decide) ?_
  refine v_istore_n C [(1, .int (nI 0)), (0, .ref (gb G + y))] dX8_passTerm_1 rfl (by decide) rfl ?_
  refine v_sub [0, 1] [(1, .int (nI 0)), (0, .ref (gb G + y))] rfl ?_
  exact LO _ 0 M rfl (by omega) hR (Fr.rf y M) (fun a b ha hb h => absurd h (by omega))
