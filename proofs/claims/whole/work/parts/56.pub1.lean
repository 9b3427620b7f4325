abbrev okG (M X : Mm) : Prop := ∀ a, (a = 0 ∨ (123 ≤ a ∧ a < 184) ∨ 192 ≤ a) → X a = M a
theorem okG.rf (M : Mm) : okG M M := fun _ _ => rfl
theorem okG.tr {M X Z : Mm} {y : Nat} (h : okG M X) (h2 : Fr y X Z) (hy : y = 1 ∨ y = 62 := by decide) : okG M Z := fun a ha => (h2 a (by omega)).trans (h a ha)
theorem okG.fri {M X Z : Mm} (h : okG M X) (h2 : frF X Z) : okG M Z := fun a ha => (h2 a (by omega)).trans (h a ha)
theorem okG.rd {M X Z : Mm} (h : okG M X) (h2 : rF X Z) : okG M Z := fun a ha => (h2 a (by omega) (by omega) (by omega)).trans (h a ha)
def PubC (M : Mm) (Y' : Nat → Int32) (n' hN' k : Nat) : Mm → Prop := fun M' => YR M' 1 Y' n' hN' ∧ M' 196 = errUp (M 196) k ∧ ∀ a, (a = 0 ∨ (123 ≤ a ∧ a < 184) ∨ (192 ≤ a ∧ a ≠ 196)) → M' a = M a
theorem pc_ok {M X : Mm} {Y : Nat → Int32} {n hN : Nat} (hR : YR X 1 Y n hN) (hF : okG M X) : PubC M Y n hN 0 X := ⟨hR, hF 196 (by decide), fun a ha => hF a (by omega)⟩
theorem pc_er {M X : Mm} {Y : Nat → Int32} {n hN k : Nat} (hR : YR X 1 Y n hN) (hF : okG M X) (hk : k ≠ 0) : PubC M Y n hN k (up2 X 196 k (X 196 k + nI 1)) :=
  ⟨hR.fr (fun a _ _ => up2_ne _ _ _ (by omega)), by rw [up2_eq, hF 196 (by decide)]; unfold errUp; rw [if_neg hk], fun a ha => (up2_ne _ _ _ (by omega)).trans (hF a (by omega))⟩
theorem YR.chn {M : Mm} {y : Nat} {Y : Nat → Int32} {n hN : Nat} (h : YR M y Y n hN) (hY : YOk Y n hN) (hn : n < 10) (ha : Y (7 + 6 * n + 5) = nI 0) : YR (up2 M y 5 (nI (n + 1))) y (upd (upd (upd Y (7 + 6 * n + 4) (-1)) (7 + 6 * n + 5) (nI 0)) 0 (nI (n + 1))) (n + 1) hN := by
  have g : ∀ i, i ≠ 0 → i ≠ 7 + 6 * n + 4 → (upd (upd (upd Y (7 + 6 * n + 4) (-1)) (7 + 6 * n + 5) (nI 0)) 0 (nI (n + 1))) i = Y i := fun i h1 h2 => by
    rw [upd_ne _ _ h1]
    by_cases e : i = 7 + 6 * n + 5
    · subst e; rw [upd_eq, ha]
    · rw [upd_ne _ _ e, upd_ne _ _ h2]
  have g4 : (upd (upd (upd Y (7 + 6 * n + 4) (-1)) (7 + 6 * n + 5) (nI 0)) 0 (nI (n + 1))) (7 + 6 * n + 4) = -1 := by
    rw [upd_ne _ _ (by omega), upd_ne _ _ (by omega), upd_eq]
  generalize (upd (upd (upd Y (7 + 6 * n + 4) (-1)) (7 + 6 * n + 5) (nI 0)) 0 (nI (n + 1))) = Y' at g g4 ⊢
  have ne : ∀ a, a ≠ y → up2 M y 5 (nI (n + 1)) a = M a := fun a ha => up2_ne _ _ _ ha
  have t4 := hY.t4
  have t5 := hY.t5
  obtain ⟨⟨a1, a2, a3, a4, a5, a6, a7⟩, hb, hcc, hd, he, hf, hgg, ⟨hh1, hh2⟩, hi⟩ := h
  refine ⟨⟨up2_at _ _ _ _, ?_, ?_, ?_, ?_, ?_, ?_⟩, fun d q f q2 q3 => ?_, fun d q => ?_, fun d q o q2 => ?_, fun d q o q2 => ?_, fun k q => ⟨?_, ?_, ?_, ?_⟩, fun k q => ?_, ⟨fun k q => ?_, fun k q => ?_⟩, fun u q => ⟨?_, fun k q2 => ?_⟩⟩
  · rw [up2_at_ne _ _ (by decide)]; exact a2
  · rw [up2_at_ne _ _ (by decide), g _ (by omega) (by omega)]; exact a3
  · rw [up2_at_ne _ _ (by decide), g _ (by omega) (by omega)]; exact a4
  · rw [up2_at_ne _ _ (by decide), g _ (by omega) (by omega)]; exact a5
  · rw [ne _ (by omega), g _ (by omega) (by omega)]; exact a6
  · rw [ne _ (by omega), g _ (by omega) (by omega)]; exact a7
  · rw [ne _ (by omega), g _ (by omega) (by omega)]; exact hb d q f q2 q3
  · rw [ne _ (by omega)]
    by_cases e : d = n
    · subst e; rw [if_pos (by omega), g4]; exact (hcc d q).trans (if_neg (by omega))
    · by_cases e2 : d < n
      · rw [if_pos (by omega), g _ (by omega) (by omega)]; exact (hcc d q).trans (if_pos e2)
      · rw [if_neg (by omega)]; exact (hcc d q).trans (if_neg e2)
  · rw [ne _ (by omega), g _ (by omega) (by omega)]; exact hd d q o q2
  · rw [ne _ (by omega), g _ (by omega) (by omega)]; exact he d q o q2
  · rw [ne _ (by omega), g _ (by omega) (by omega)]; exact (hf k q).1
  · rw [ne _ (by omega), g _ (by omega) (by omega)]; exact (hf k q).2.1
  · rw [ne _ (by omega), g _ (by omega) (by omega)]; exact (hf k q).2.2.1
  · rw [ne _ (by omega)]
    by_cases e : k < hN
    · rw [if_pos e, g _ (by omega) (by omega)]; exact (hf k q).2.2.2.trans (if_pos e)
    · rw [if_neg e]; exact (hf k q).2.2.2.trans (if_neg e)
  · rw [ne _ (by omega)]
    have e : mskA Y' (nI k) (n + 1) = mskA Y (nI k) n := by
      show mskA Y' (nI k) n + (if Y' (7 + 6 * n + 4) = nI k then 2 ^ n else 0) = _
      rw [if_neg (by rw [g4]; exact fun z => nI_m1 k q z.symm), Nat.add_zero]
      exact msk_congr (fun d hd' => g _ (by omega) (by omega))
    rw [e]; exact hgg k q
  · have q9 : k < 60 := by rw [cN_eq (g 4 (by omega) (by omega))] at q; omega
    rw [cN_eq (g _ (by omega) (by omega))] at q; rw [ne _ (by omega), g _ (by omega) (by omega)]; exact hh1 k q
  · rw [cN_eq (g _ (by omega) (by omega))] at q; rw [ne _ (by omega), g _ (by omega) (by omega)]; exact hh2 k q
  · rw [ne _ (by omega), g _ (by omega) (by omega)]; exact (hi u q).1
  · rw [cN_eq (g _ (by omega) (by omega))] at q2; rw [ne _ (by omega), cN_eq (g _ (by omega) (by omega))]; exact (hi u q).2 k q2
theorem YR.hpn {M : Mm} {y : Nat} {Y : Nat → Int32} {n hN : Nat} (h : YR M y Y n hN) (hn : n ≤ 10) (hh : hN < 5) (ha : Y (167 + 4 * hN + 3) = nI 0) : YR (up2 M y 6 (nI (hN + 1))) y (upd (upd (upd Y (167 + 4 * hN + 2) (nI 30)) (167 + 4 * hN + 3) (nI 0)) 1 (nI (hN + 1))) n (hN + 1) := by
  have g : ∀ i, i ≠ 1 → i ≠ 167 + 4 * hN + 2 → (upd (upd (upd Y (167 + 4 * hN + 2) (nI 30)) (167 + 4 * hN + 3) (nI 0)) 1 (nI (hN + 1))) i = Y i := fun i h1 h2 => by
    rw [upd_ne _ _ h1]
    by_cases e : i = 167 + 4 * hN + 3
    · subst e; rw [upd_eq, ha]
    · rw [upd_ne _ _ e, upd_ne _ _ h2]
  have g4 : (upd (upd (upd Y (167 + 4 * hN + 2) (nI 30)) (167 + 4 * hN + 3) (nI 0)) 1 (nI (hN + 1))) (167 + 4 * hN + 2) = nI 30 := by
    rw [upd_ne _ _ (by omega), upd_ne _ _ (by omega), upd_eq]
  generalize (upd (upd (upd Y (167 + 4 * hN + 2) (nI 30)) (167 + 4 * hN + 3) (nI 0)) 1 (nI (hN + 1))) = Y' at g g4 ⊢
  have ne : ∀ a, a ≠ y → up2 M y 6 (nI (hN + 1)) a = M a := fun a ha => up2_ne _ _ _ ha
  obtain ⟨⟨a1, a2, a3, a4, a5, a6, a7⟩, hb, hcc, hd, he, hf, hgg, ⟨hh1, hh2⟩, hi⟩ := h
  refine ⟨⟨?_, up2_at _ _ _ _, ?_, ?_, ?_, ?_, ?_⟩, fun d q f q2 q3 => ?_, fun d q => ?_, fun d q o q2 => ?_, fun d q o q2 => ?_, fun k q => ⟨?_, ?_, ?_, ?_⟩, fun k q => ?_, ⟨fun k q => ?_, fun k q => ?_⟩, fun u q => ⟨?_, fun k q2 => ?_⟩⟩
  · rw [up2_at_ne _ _ (by decide)]; exact a1
  · rw [up2_at_ne _ _ (by decide), g _ (by omega) (by omega)]; exact a3
  · rw [up2_at_ne _ _ (by decide), g _ (by omega) (by omega)]; exact a4
  · rw [up2_at_ne _ _ (by decide), g _ (by omega) (by omega)]; exact a5
  · rw [ne _ (by omega), g _ (by omega) (by omega)]; exact a6
  · rw [ne _ (by omega), g _ (by omega) (by omega)]; exact a7
  · rw [ne _ (by omega), g _ (by omega) (by omega)]; exact hb d q f q2 q3
  · rw [ne _ (by omega)]
    by_cases e2 : d < n
    · rw [if_pos e2, g _ (by omega) (by omega)]; exact (hcc d q).trans (if_pos e2)
    · rw [if_neg e2]; exact (hcc d q).trans (if_neg e2)
  · rw [ne _ (by omega), g _ (by omega) (by omega)]; exact hd d q o q2
  · rw [ne _ (by omega), g _ (by omega) (by omega)]; exact he d q o q2
  · rw [ne _ (by omega), g _ (by omega) (by omega)]; exact (hf k q).1
  · rw [ne _ (by omega), g _ (by omega) (by omega)]; exact (hf k q).2.1
  · rw [ne _ (by omega), g _ (by omega) (by omega)]; exact (hf k q).2.2.1
  · rw [ne _ (by omega)]
    by_cases e : k = hN
    · subst e; rw [if_pos (by omega), g4]; exact (hf k q).2.2.2.trans (if_neg (by omega))
    · by_cases e2 : k < hN
      · rw [if_pos (by omega), g _ (by omega) (by omega)]; exact (hf k q).2.2.2.trans (if_pos e2)
      · rw [if_neg (by omega)]; exact (hf k q).2.2.2.trans (if_neg e2)
  · rw [ne _ (by omega), msk_congr (fun d hd' => g _ (by omega) (by omega))]; exact hgg k q
  · rw [cN_eq (g _ (by omega) (by omega))] at q; rw [ne _ (by omega), g _ (by omega) (by omega)]; exact hh1 k q
  · rw [cN_eq (g _ (by omega) (by omega))] at q; rw [ne _ (by omega), g _ (by omega) (by omega)]; exact hh2 k q
  · rw [ne _ (by omega), g _ (by omega) (by omega)]; exact (hi u q).1
  · rw [cN_eq (g _ (by omega) (by omega))] at q2; rw [ne _ (by omega), cN_eq (g _ (by omega) (by omega))]; exact (hi u q).2 k q2
theorem YOk.f0 {Y : Nat → Int32} {n hN : Nat} (hY : YOk Y n hN) (hI : yI Y n) (hh : hN < 5) : Y (167 + 4 * hN + 3) = nI 0 := hI.1 hN hh (few_0m (msk_out hY (Nat.le_refl _) hh))
set_option maxHeartbeats 4000000 in
set_option maxRecDepth 100000 in
theorem x_child (l : Launch) (G : GC) (M : Mm) (Y : Nat → Int32) (n hN : Nat) (hR : YR M 1 Y n hN) (hY : YOk Y n hN) (hI : yI Y n) (hJ : yJ Y n) (km age mind : Int32) : CI l G 3 yX9_child cX9_child 5 .int [.ref (gb G + 0), .int km, .int age, .int mind] M ((childS Y n km age mind).2.1) (PubC M (childS Y n km age mind).2.2 (if (childS Y n km age mind).1 = 0 then n + 1 else n) hN (childS Y n km age mind).1) := by
  refine Con.of (by decide +kernel) (Nat.le_of_ble_eq_true rfl) ?_
  intro f C hRm hRt _
  have hn2 := hY.1.2.1
  have h5 := hY.1.2.2.2
  show Vc f G NPh M 0 [(0, .ref (gb G + 0)), (1, .int km), (2, .int age), (3, .int mind)] []
  refine v_iload_n C 1 dX9_child_0 rfl ?_
  refine v_iconst C (nI 0) dX9_child_1 (by decide) ?_
  refine v_sipush C (nI 699) dX9_child_2 (by decide) ?_
  refine n_callSp C hRm [.int km, .int (nI 0), .int (nI 699)] cw_X9_outside st_X9_outside ml_X9_54 (c_outside l G M km (nI 0) (nI 699)) (by decide) rfl rfl (Nat.le_of_ble_eq_true rfl) dX9_child_5 ?_
  refine nb_if_ne C 30 dX9_child_8 rfl (fun h_8 => ?_) (fun h_8 => ?_)
  · skip
    refine v_aload_n C 0 dX9_child_30 rfl ?_
    refine v_iconst C (nI 1) dX9_child_31 (by decide) ?_
    refine n_callVi C hRm [.int (nI 1)] cw_X9_error ml_X9_58 (by decide) (show shp 0 = 9 from by decide +kernel) (by decide) rfl (c_error l G M 1 (by decide)) (by decide) rfl rfl (Nat.le_of_ble_eq_true rfl) dX9_child_32 (fun M5 hP_32 => ?_)
    subst hP_32
    have hS : childS Y n km age mind = er 1 Y := by unfold childS; (first | rw [if_neg h_8] | rw [if_pos (Decidable.not_not.mp h_8)] | rw [if_pos h_8] | rw [if_pos (congrArg nI h_8)] | rw [if_neg (fun q9 => h_8 ((nI_eq (by omega) (by omega)).mp q9))] | rw [if_neg (Nat.not_le.mpr h_8)] | rw [if_neg (Nat.not_lt.mpr h_8)] | skip); (first | rw [if_neg (show ¬ n = 10 by omega)] | rw [if_pos (show n = 10 by omega)] | skip); all_goals rfl
    exact n_iret C hRt (rfl) dX9_child_35 (by rw [hS] <;> rfl) (by rw [hS]; exact pc_er hR (okG.rf M) (show (1 : Nat) ≠ 0 by decide))
  · skip
    refine v_iload_n C 2 dX9_child_11 rfl ?_
    refine v_iconst C (nI 0) dX9_child_12 (by decide) ?_
    refine v_bipush C (nI 99) dX9_child_13 (by decide) ?_
    refine n_callSp C hRm [.int age, .int (nI 0), .int (nI 99)] cw_X9_outside st_X9_outside ml_X9_54 (c_outside l G M age (nI 0) (nI 99)) (by decide) rfl rfl (Nat.le_of_ble_eq_true rfl) dX9_child_15 ?_
    refine nb_if_ne C 30 dX9_child_18 rfl (fun h_18 => ?_) (fun h_18 => ?_)
    · skip
      refine v_aload_n C 0 dX9_child_30 rfl ?_
      refine v_iconst C (nI 1) dX9_child_31 (by decide) ?_
      refine n_callVi C hRm [.int (nI 1)] cw_X9_error ml_X9_58 (by decide) (show shp 0 = 9 from by decide +kernel) (by decide) rfl (c_error l G M 1 (by decide)) (by decide) rfl rfl (Nat.le_of_ble_eq_true rfl) dX9_child_32 (fun M5 hP_32 => ?_)
      subst hP_32
      have hS : childS Y n km age mind = er 1 Y := by unfold childS; (first | rw [if_neg h_8] | rw [if_pos (Decidable.not_not.mp h_8)] | rw [if_pos h_8] | rw [if_pos (congrArg nI h_8)] | rw [if_neg (fun q9 => h_8 ((nI_eq (by omega) (by omega)).mp q9))] | rw [if_neg (Nat.not_le.mpr h_8)] | rw [if_neg (Nat.not_lt.mpr h_8)] | skip); (first | rw [if_neg h_18] | rw [if_pos (Decidable.not_not.mp h_18)] | rw [if_pos h_18] | rw [if_pos (congrArg nI h_18)] | rw [if_neg (fun q9 => h_18 ((nI_eq (by omega) (by omega)).mp q9))] | rw [if_neg (Nat.not_le.mpr h_18)] | rw [if_neg (Nat.not_lt.mpr h_18)] | skip); (first | rw [if_neg (show ¬ n = 10 by omega)] | rw [if_pos (show n = 10 by omega)] | skip); all_goals rfl
      exact n_iret C hRt (rfl) dX9_child_35 (by rw [hS] <;> rfl) (by rw [hS]; exact pc_er hR (okG.rf M) (show (1 : Nat) ≠ 0 by decide))
    · skip
      refine v_iload_n C 3 dX9_child_21 rfl ?_
      refine v_iconst C (nI 0) dX9_child_22 (by decide) ?_
      refine v_iconst C (nI 1) dX9_child_23 (by decide) ?_
      refine n_callSp C hRm [.int mind, .int (nI 0), .int (nI 1)] cw_X9_outside st_X9_outside ml_X9_54 (c_outside l G M mind (nI 0) (nI 1)) (by decide) rfl rfl (Nat.le_of_ble_eq_true rfl) dX9_child_24 ?_
      refine nb_if_eq C 36 dX9_child_27 rfl (fun h_27 => ?_) (fun h_27 => ?_)
      · skip
        refine v_aload_n C 0 dX9_child_36 rfl ?_
        refine g_X9_10 C (by decide) (show shp 0 = 9 from by decide +kernel) dX9_child_37 ?_
        refine g_X9_62 C (by decide) (s_y (by decide)) dX9_child_40 ?_
        refine v_top (nI n) (hR.n) ?_
        refine v_bipush C (nI 10) dX9_child_43 (by decide) ?_
        refine n_icmp_lt C (by omega) (by omega) 54 dX9_child_45 rfl (fun h_45 => ?_) (fun h_45 => ?_)
        · skip
          refine v_aload_n C 0 dX9_child_54 rfl ?_
          refine g_X9_10 C (by decide) (show shp 0 = 9 from by decide +kernel) dX9_child_55 ?_
          refine g_X9_66 C (by decide) (s_y (by decide)) dX9_child_58 ?_
          refine v_aload_n C 0 dX9_child_61 rfl ?_
          refine g_X9_10 C (by decide) (show shp 0 = 9 from by decide +kernel) dX9_child_62 ?_
          refine g_X9_62 C (by decide) (s_y (by decide)) dX9_child_65 ?_
          refine v_top (nI n) (hR.n) ?_
          refine v_aald C rfl (by decide) (show shp 2 = 20 from by decide +kernel) (by decide) (by decide) (show n < 10 from by omega) (by decide) (1 + 20 + 3 * n) (by simp only [aOff] <;> omega) dX9_child_68 ?_
          refine v_astore C [(4, .ref (gb G + (1 + 20 + 3 * n))), (0, .ref (gb G + 0)), (1, .int km), (2, .int age), (3, .int mind)] dX9_child_69 (by decide) rfl ?_
          refine v_aload C 0 dX9_child_71 rfl ?_
          refine v_iload_n C 2 dX9_child_73 rfl ?_
          refine v_bipush C (nI 100) dX9_child_74 (by decide) ?_
          refine v_idiv C dX9_child_76 (by decide) ?_
          refine p_X9_70 C (show 1 + 20 + 3 * n < 221 from by omega) (s_ch (by decide) (by omega)) dX9_child_77 ?_
          have hRq2 : YR (up2 M (1 + 20 + 3 * n) 0 (km / (nI 100))) 1 (upd Y (7 + 6 * n + 0) (km / (nI 100))) n hN := hR.wch (c := n) (f := 0) (by omega) (by omega) (by omega) (by omega) (YOk.t4 hY) (YOk.t5 hY) _
          have hFq2 : okG M (up2 M (1 + 20 + 3 * n) 0 (km / (nI 100))) := (okG.rf M).tr (Fr.up (y := 1) _ (by omega))
          have hKq2 : YOk (upd Y (7 + 6 * n + 0) (km / (nI 100))) n hN := yk_upd hY _ (by omega) (fun _ _ => by omega) (fun _ _ => by omega)
          refine v_aload C 0 dX9_child_80 rfl ?_
          refine v_iload_n C 2 dX9_child_82 rfl ?_
          refine v_bipush C (nI 100) dX9_child_83 (by decide) ?_
          refine v_irem C dX9_child_85 (by decide) ?_
          refine p_X9_75 C (show 1 + 20 + 3 * n < 221 from by omega) (s_ch (by decide) (by omega)) dX9_child_86 ?_
          have hRq4 : YR (up2 (up2 M (1 + 20 + 3 * n) 0 (km / (nI 100))) (1 + 20 + 3 * n) 1 (km - km / (nI 100) * (nI 100))) 1 (upd (upd Y (7 + 6 * n + 0) (km / (nI 100))) (7 + 6 * n + 1) (km - km / (nI 100) * (nI 100))) n hN := hRq2.wch (c := n) (f := 1) (by omega) (by omega) (by omega) (by omega) (YOk.t4 hKq2) (YOk.t5 hKq2) _
          have hFq4 : okG M (up2 (up2 M (1 + 20 + 3 * n) 0 (km / (nI 100))) (1 + 20 + 3 * n) 1 (km - km / (nI 100) * (nI 100))) := hFq2.tr (Fr.up (y := 1) _ (by omega))
          have hKq4 : YOk (upd (upd Y (7 + 6 * n + 0) (km / (nI 100))) (7 + 6 * n + 1) (km - km / (nI 100) * (nI 100))) n hN := yk_upd hKq2 _ (by omega) (fun _ _ => by omega) (fun _ _ => by omega)
          refine v_aload C 0 dX9_child_89 rfl ?_
          refine v_iload_n C 3 dX9_child_91 rfl ?_
          refine p_X9_78 C (show 1 + 20 + 3 * n < 221 from by omega) (s_ch (by decide) (by omega)) dX9_child_92 ?_
          have hRq6 : YR (up2 (up2 (up2 M (1 + 20 + 3 * n) 0 (km / (nI 100))) (1 + 20 + 3 * n) 1 (km - km / (nI 100) * (nI 100))) (1 + 20 + 3 * n) 2 age) 1 (upd (upd (upd Y (7 + 6 * n + 0) (km / (nI 100))) (7 + 6 * n + 1) (km - km / (nI 100) * (nI 100))) (7 + 6 * n + 2) age) n hN := hRq4.wch (c := n) (f := 2) (by omega) (by omega) (by omega) (by omega) (YOk.t4 hKq4) (YOk.t5 hKq4) _
          have hFq6 : okG M (up2 (up2 (up2 M (1 + 20 + 3 * n) 0 (km / (nI 100))) (1 + 20 + 3 * n) 1 (km - km / (nI 100) * (nI 100))) (1 + 20 + 3 * n) 2 age) := hFq4.tr (Fr.up (y := 1) _ (by omega))
          have hKq6 : YOk (upd (upd (upd Y (7 + 6 * n + 0) (km / (nI 100))) (7 + 6 * n + 1) (km - km / (nI 100) * (nI 100))) (7 + 6 * n + 2) age) n hN := yk_upd hKq4 _ (by omega) (fun _ _ => by omega) (fun _ _ => by omega)
          refine v_aload C 0 dX9_child_95 rfl ?_
          refine v_iload_n C 4 dX9_child_97 rfl ?_
          refine p_X9_81 C (show 1 + 20 + 3 * n < 221 from by omega) (s_ch (by decide) (by omega)) dX9_child_98 ?_
          have hRq8 : YR (up2 (up2 (up2 (up2 M (1 + 20 + 3 * n) 0 (km / (nI 100))) (1 + 20 + 3 * n) 1 (km - km / (nI 100) * (nI 100))) (1 + 20 + 3 * n) 2 age) (1 + 20 + 3 * n) 3 mind) 1 (upd (upd (upd (upd Y (7 + 6 * n + 0) (km / (nI 100))) (7 + 6 * n + 1) (km - km / (nI 100) * (nI 100))) (7 + 6 * n + 2) age) (7 + 6 * n + 3) mind) n hN := hRq6.wch (c := n) (f := 3) (by omega) (by omega) (by omega) (by omega) (YOk.t4 hKq6) (YOk.t5 hKq6) _
          have hFq8 : okG M (up2 (up2 (up2 (up2 M (1 + 20 + 3 * n) 0 (km / (nI 100))) (1 + 20 + 3 * n) 1 (km - km / (nI 100) * (nI 100))) (1 + 20 + 3 * n) 2 age) (1 + 20 + 3 * n) 3 mind) := hFq6.tr (Fr.up (y := 1) _ (by omega))
          have hKq8 : YOk (upd (upd (upd (upd Y (7 + 6 * n + 0) (km / (nI 100))) (7 + 6 * n + 1) (km - km / (nI 100) * (nI 100))) (7 + 6 * n + 2) age) (7 + 6 * n + 3) mind) n hN := yk_upd hKq6 _ (by omega) (fun _ _ => by omega) (fun _ _ => by omega)
          refine v_aload_n C 1 dX9_child_101 rfl ?_
          refine g_X9_10 C (by decide) (show shp 0 = 9 from by decide +kernel) dX9_child_102 ?_
          refine v_dup C dX9_child_105 rfl ?_
          refine g_X9_62 C (by decide) (s_y (by decide)) dX9_child_106 ?_
          refine v_top (nI n) (hRq8.n) ?_
          refine v_iconst C (nI 1) dX9_child_109 (by decide) ?_
          refine n_iadd C dX9_child_110 ?_
          refine p_X9_62 C (by decide) (s_y (by decide)) dX9_child_111 ?_
          have hRq9 := hRq8.chn hKq8 (by omega) (by rw [upd_ne _ _ (by omega), upd_ne _ _ (by omega), upd_ne _ _ (by omega), upd_ne _ _ (by omega)]; exact hJ.2.2.1 n (Nat.le_refl _) (by omega))
          have hFq9 : okG M (up2 (up2 (up2 (up2 (up2 M (1 + 20 + 3 * n) 0 (km / (nI 100))) (1 + 20 + 3 * n) 1 (km - km / (nI 100) * (nI 100))) (1 + 20 + 3 * n) 2 age) (1 + 20 + 3 * n) 3 mind) 1 5 (nI (n + 1))) := hFq8.tr (Fr.up (y := 1) _ (by omega))
          refine v_aload_n C 1 dX9_child_114 rfl ?_
          refine g_X9_10 C (by decide) (show shp 0 = 9 from by decide +kernel) dX9_child_115 ?_
          refine g_X9_62 C (by decide) (s_y (by decide)) dX9_child_118 ?_
          refine v_top (nI (n + 1)) (hRq9.1.1) ?_
          refine v_iconst C (nI 1) dX9_child_121 (by decide) ?_
          refine n_isub C (by omega) dX9_child_122 ?_
          have hS : childS Y n km age mind = (0, nI ((n + 1) - 1), upd (upd (upd (upd (upd (upd (upd Y (7 + 6 * n + 0) (km / (nI 100))) (7 + 6 * n + 1) (km - km / (nI 100) * (nI 100))) (7 + 6 * n + 2) age) (7 + 6 * n + 3) mind) (7 + 6 * n + 4) (-1)) (7 + 6 * n + 5) (nI 0)) 0 (nI (n + 1))) := by unfold childS; (first | rw [if_neg h_8] | rw [if_pos (Decidable.not_not.mp h_8)] | rw [if_pos h_8] | rw [if_pos (congrArg nI h_8)] | rw [if_neg (fun q9 => h_8 ((nI_eq (by omega) (by omega)).mp q9))] | rw [if_neg (Nat.not_le.mpr h_8)] | rw [if_neg (Nat.not_lt.mpr h_8)] | skip); (first | rw [if_neg h_18] | rw [if_pos (Decidable.not_not.mp h_18)] | rw [if_pos h_18] | rw [if_pos (congrArg nI h_18)] | rw [if_neg (fun q9 => h_18 ((nI_eq (by omega) (by omega)).mp q9))] | rw [if_neg (Nat.not_le.mpr h_18)] | rw [if_neg (Nat.not_lt.mpr h_18)] | skip); (first | rw [if_neg h_27] | rw [if_pos (Decidable.not_not.mp h_27)] | rw [if_pos h_27] | rw [if_pos (congrArg nI h_27)] | rw [if_neg (fun q9 => h_27 ((nI_eq (by omega) (by omega)).mp q9))] | rw [if_neg (Nat.not_le.mpr h_27)] | rw [if_neg (Nat.not_lt.mpr h_27)] | skip); (first | rw [if_neg h_45] | rw [if_pos (Decidable.not_not.mp h_45)] | rw [if_pos h_45] | rw [if_pos (congrArg nI h_45)] | rw [if_neg (fun q9 => h_45 ((nI_eq (by omega) (by omega)).mp q9))] | rw [if_neg (Nat.not_le.mpr h_45)] | rw [if_neg (Nat.not_lt.mpr h_45)] | skip); (first | rw [if_neg (show ¬ n = 10 by omega)] | rw [if_pos (show n = 10 by omega)] | skip); all_goals rfl
          exact n_iret C hRt (rfl) dX9_child_123 (by rw [hS] <;> rfl) (by rw [hS]; exact pc_ok hRq9 hFq9)
        · skip
          refine v_aload_n C 0 dX9_child_48 rfl ?_
          refine v_iconst C (nI 4) dX9_child_49 (by decide) ?_
          refine n_callVi C hRm [.int (nI 4)] cw_X9_error ml_X9_58 (by decide) (show shp 0 = 9 from by decide +kernel) (by decide) rfl (c_error l G M 4 (by decide)) (by decide) rfl rfl (Nat.le_of_ble_eq_true rfl) dX9_child_50 (fun M5 hP_50 => ?_)
          subst hP_50
          have hS : childS Y n km age mind = er 4 Y := by unfold childS; (first | rw [if_neg h_8] | rw [if_pos (Decidable.not_not.mp h_8)] | rw [if_pos h_8] | rw [if_pos (congrArg nI h_8)] | rw [if_neg (fun q9 => h_8 ((nI_eq (by omega) (by omega)).mp q9))] | rw [if_neg (Nat.not_le.mpr h_8)] | rw [if_neg (Nat.not_lt.mpr h_8)] | skip); (first | rw [if_neg h_18] | rw [if_pos (Decidable.not_not.mp h_18)] | rw [if_pos h_18] | rw [if_pos (congrArg nI h_18)] | rw [if_neg (fun q9 => h_18 ((nI_eq (by omega) (by omega)).mp q9))] | rw [if_neg (Nat.not_le.mpr h_18)] | rw [if_neg (Nat.not_lt.mpr h_18)] | skip); (first | rw [if_neg h_27] | rw [if_pos (Decidable.not_not.mp h_27)] | rw [if_pos h_27] | rw [if_pos (congrArg nI h_27)] | rw [if_neg (fun q9 => h_27 ((nI_eq (by omega) (by omega)).mp q9))] | rw [if_neg (Nat.not_le.mpr h_27)] | rw [if_neg (Nat.not_lt.mpr h_27)] | skip); (first | rw [if_neg h_45] | rw [if_pos (Decidable.not_not.mp h_45)] | rw [if_pos h_45] | rw [if_pos (congrArg nI h_45)] | rw [if_neg (fun q9 => h_45 ((nI_eq (by omega) (by omega)).mp q9))] | rw [if_neg (Nat.not_le.mpr h_45)] | rw [if_neg (Nat.not_lt.mpr h_45)] | skip); (first | rw [if_neg (show ¬ n = 10 by omega)] | rw [if_pos (show n = 10 by omega)] | skip); all_goals rfl
          exact n_iret C hRt (rfl) dX9_child_53 (by rw [hS] <;> rfl) (by rw [hS]; exact pc_er hR (okG.rf M) (show (4 : Nat) ≠ 0 by decide))
      · skip
        refine v_aload_n C 0 dX9_child_30 rfl ?_
        refine v_iconst C (nI 1) dX9_child_31 (by decide) ?_
        refine n_callVi C hRm [.int (nI 1)] cw_X9_error ml_X9_58 (by decide) (show shp 0 = 9 from by decide +kernel) (by decide) rfl (c_error l G M 1 (by decide)) (by decide) rfl rfl (Nat.le_of_ble_eq_true rfl) dX9_child_32 (fun M5 hP_32 => ?_)
        subst hP_32
        have hS : childS Y n km age mind = er 1 Y := by unfold childS; (first | rw [if_neg h_8] | rw [if_pos (Decidable.not_not.mp h_8)] | rw [if_pos h_8] | rw [if_pos (congrArg nI h_8)] | rw [if_neg (fun q9 => h_8 ((nI_eq (by omega) (by omega)).mp q9))] | rw [if_neg (Nat.not_le.mpr h_8)] | rw [if_neg (Nat.not_lt.mpr h_8)] | skip); (first | rw [if_neg h_18] | rw [if_pos (Decidable.not_not.mp h_18)] | rw [if_pos h_18] | rw [if_pos (congrArg nI h_18)] | rw [if_neg (fun q9 => h_18 ((nI_eq (by omega) (by omega)).mp q9))] | rw [if_neg (Nat.not_le.mpr h_18)] | rw [if_neg (Nat.not_lt.mpr h_18)] | skip); (first | rw [if_neg h_27] | rw [if_pos (Decidable.not_not.mp h_27)] | rw [if_pos h_27] | rw [if_pos (congrArg nI h_27)] | rw [if_neg (fun q9 => h_27 ((nI_eq (by omega) (by omega)).mp q9))] | rw [if_neg (Nat.not_le.mpr h_27)] | rw [if_neg (Nat.not_lt.mpr h_27)] | skip); (first | rw [if_neg (show ¬ n = 10 by omega)] | rw [if_pos (show n = 10 by omega)] | skip); all_goals rfl
        exact n_iret C hRt (rfl) dX9_child_35 (by rw [hS] <;> rfl) (by rw [hS]; exact pc_er hR (okG.rf M) (show (1 : Nat) ≠ 0 by decide))
set_option maxHeartbeats 4000000 in
set_option maxRecDepth 100000 in
theorem x_heap (l : Launch) (G : GC) (M : Mm) (Y : Nat → Int32) (n hN : Nat) (hR : YR M 1 Y n hN) (hY : YOk Y n hN) (hI : yI Y n) (hJ : yJ Y n) (least most : Int32) : CI l G 3 yX9_heap cX9_heap 4 .int [.ref (gb G + 0), .int least, .int most] M ((heapS Y hN least most).2.1) (PubC M (heapS Y hN least most).2.2 n (if (heapS Y hN least most).1 = 0 then hN + 1 else hN) (heapS Y hN least most).1) := by
  refine Con.of (by decide +kernel) (Nat.le_of_ble_eq_true rfl) ?_
  intro f C hRm hRt _
  have hn2 := hY.1.2.1
  have h5 := hY.1.2.2.2
  show Vc f G NPh M 0 [(0, .ref (gb G + 0)), (1, .int least), (2, .int most)] []
  refine v_iload_n C 1 dX9_heap_0 rfl ?_
  refine v_iconst C (nI 1) dX9_heap_1 (by decide) ?_
  refine v_bipush C (nI 10) dX9_heap_2 (by decide) ?_
  refine n_callSp C hRm [.int least, .int (nI 1), .int (nI 10)] cw_X9_outside st_X9_outside ml_X9_54 (c_outside l G M least (nI 1) (nI 10)) (by decide) rfl rfl (Nat.le_of_ble_eq_true rfl) dX9_heap_4 ?_
  refine nb_if_ne C 20 dX9_heap_7 rfl (fun h_7 => ?_) (fun h_7 => ?_)
  · skip
    refine v_aload_n C 0 dX9_heap_20 rfl ?_
    refine v_iconst C (nI 1) dX9_heap_21 (by decide) ?_
    refine n_callVi C hRm [.int (nI 1)] cw_X9_error ml_X9_58 (by decide) (show shp 0 = 9 from by decide +kernel) (by decide) rfl (c_error l G M 1 (by decide)) (by decide) rfl rfl (Nat.le_of_ble_eq_true rfl) dX9_heap_22 (fun M5 hP_22 => ?_)
    subst hP_22
    have hS : heapS Y hN least most = er 1 Y := by unfold heapS; (first | rw [if_neg h_7] | rw [if_pos (Decidable.not_not.mp h_7)] | rw [if_pos h_7] | rw [if_pos (congrArg nI h_7)] | rw [if_neg (fun q9 => h_7 ((nI_eq (by omega) (by omega)).mp q9))] | rw [if_neg (Nat.not_le.mpr h_7)] | rw [if_neg (Nat.not_lt.mpr h_7)] | skip); (first | rw [if_neg (show ¬ hN = 5 by omega)] | rw [if_pos (show hN = 5 by omega)] | skip); all_goals rfl
    exact n_iret C hRt (rfl) dX9_heap_25 (by rw [hS] <;> rfl) (by rw [hS]; exact pc_er hR (okG.rf M) (show (1 : Nat) ≠ 0 by decide))
  · skip
    refine v_iload_n C 2 dX9_heap_10 rfl ?_
    refine v_iload_n C 1 dX9_heap_11 rfl ?_
    refine v_bipush C (nI 10) dX9_heap_12 (by decide) ?_
    refine n_callSp C hRm [.int most, .int least, .int (nI 10)] cw_X9_outside st_X9_outside ml_X9_54 (c_outside l G M most least (nI 10)) (by decide) rfl rfl (Nat.le_of_ble_eq_true rfl) dX9_heap_14 ?_
    refine nb_if_eq C 26 dX9_heap_17 rfl (fun h_17 => ?_) (fun h_17 => ?_)
    · skip
      refine v_aload_n C 0 dX9_heap_26 rfl ?_
      refine g_X9_10 C (by decide) (show shp 0 = 9 from by decide +kernel) dX9_heap_27 ?_
      refine g_X9_101 C (by decide) (s_y (by decide)) dX9_heap_30 ?_
      refine v_top (nI hN) (hR.hN) ?_
      refine v_iconst C (nI 5) dX9_heap_33 (by decide) ?_
      refine n_icmp_lt C (by omega) (by omega) 43 dX9_heap_34 rfl (fun h_34 => ?_) (fun h_34 => ?_)
      · skip
        refine v_aload_n C 0 dX9_heap_43 rfl ?_
        refine g_X9_10 C (by decide) (show shp 0 = 9 from by decide +kernel) dX9_heap_44 ?_
        refine g_X9_104 C (by decide) (s_y (by decide)) dX9_heap_47 ?_
        refine v_aload_n C 0 dX9_heap_50 rfl ?_
        refine g_X9_10 C (by decide) (show shp 0 = 9 from by decide +kernel) dX9_heap_51 ?_
        refine g_X9_101 C (by decide) (s_y (by decide)) dX9_heap_54 ?_
        refine v_top (nI hN) (hR.hN) ?_
        refine v_aald C rfl (by decide) (show shp 3 = 21 from by decide +kernel) (by decide) (by decide) (show hN < 5 from by omega) (by decide) (1 + 50 + hN) (by simp only [aOff] <;> omega) dX9_heap_57 ?_
        refine v_astore_n C [(3, .ref (gb G + (1 + 50 + hN))), (0, .ref (gb G + 0)), (1, .int least), (2, .int most)] dX9_heap_58 rfl (by decide) rfl ?_
        refine v_aload_n C 0 dX9_heap_59 rfl ?_
        refine v_iload_n C 2 dX9_heap_60 rfl ?_
        refine p_X9_108 C (show 1 + 50 + hN < 221 from by omega) (s_hp (by decide) (by omega)) dX9_heap_61 ?_
        have hRq2 : YR (up2 M (1 + 50 + hN) 0 least) 1 (upd Y (167 + 4 * hN + 0) least) n hN := hR.wle (k := hN) (by omega) (by omega) (YOk.t4 hY) (YOk.t5 hY) _
        have hFq2 : okG M (up2 M (1 + 50 + hN) 0 least) := (okG.rf M).tr (Fr.up (y := 1) _ (by omega))
        have hKq2 : YOk (upd Y (167 + 4 * hN + 0) least) n hN := yk_upd hY _ (by omega) (fun _ _ => by omega) (fun _ _ => by omega)
        refine v_aload_n C 0 dX9_heap_64 rfl ?_
        refine v_iload_n C 3 dX9_heap_65 rfl ?_
        refine p_X9_113 C (show 1 + 50 + hN < 221 from by omega) (s_hp (by decide) (by omega)) dX9_heap_66 ?_
        have hRq4 : YR (up2 (up2 M (1 + 50 + hN) 0 least) (1 + 50 + hN) 1 most) 1 (upd (upd Y (167 + 4 * hN + 0) least) (167 + 4 * hN + 1) most) n hN := hRq2.wmo (k := hN) (by omega) (by omega) (YOk.t4 hKq2) (YOk.t5 hKq2) _
        have hFq4 : okG M (up2 (up2 M (1 + 50 + hN) 0 least) (1 + 50 + hN) 1 most) := hFq2.tr (Fr.up (y := 1) _ (by omega))
        have hKq4 : YOk (upd (upd Y (167 + 4 * hN + 0) least) (167 + 4 * hN + 1) most) n hN := yk_upd hKq2 _ (by omega) (fun _ _ => by omega) (fun _ _ => by omega)
        refine v_aload_n C 1 dX9_heap_69 rfl ?_
        refine g_X9_10 C (by decide) (show shp 0 = 9 from by decide +kernel) dX9_heap_70 ?_
        refine v_dup C dX9_heap_73 rfl ?_
        refine g_X9_101 C (by decide) (s_y (by decide)) dX9_heap_74 ?_
        refine v_top (nI hN) (hRq4.hN) ?_
        refine v_iconst C (nI 1) dX9_heap_77 (by decide) ?_
        refine n_iadd C dX9_heap_78 ?_
        refine p_X9_101 C (by decide) (s_y (by decide)) dX9_heap_79 ?_
        have hRq5 := hRq4.hpn hn2 (by omega) (by rw [upd_ne _ _ (by omega), upd_ne _ _ (by omega)]; exact hY.f0 hI (by omega))
        have hFq5 : okG M (up2 (up2 (up2 M (1 + 50 + hN) 0 least) (1 + 50 + hN) 1 most) 1 6 (nI (hN + 1))) := hFq4.tr (Fr.up (y := 1) _ (by omega))
        refine v_aload_n C 1 dX9_heap_82 rfl ?_
        refine g_X9_10 C (by decide) (show shp 0 = 9 from by decide +kernel) dX9_heap_83 ?_
        refine g_X9_101 C (by decide) (s_y (by decide)) dX9_heap_86 ?_
        refine v_top (nI (hN + 1)) (hRq5.1.2.1) ?_
        refine v_iconst C (nI 1) dX9_heap_89 (by decide) ?_
        refine n_isub C (by omega) dX9_heap_90 ?_
        have hS : heapS Y hN least most = (0, nI ((hN + 1) - 1), upd (upd (upd (upd (upd Y (167 + 4 * hN + 0) least) (167 + 4 * hN + 1) most) (167 + 4 * hN + 2) (nI 30)) (167 + 4 * hN + 3) (nI 0)) 1 (nI (hN + 1))) := by unfold heapS; (first | rw [if_neg h_7] | rw [if_pos (Decidable.not_not.mp h_7)] | rw [if_pos h_7] | rw [if_pos (congrArg nI h_7)] | rw [if_neg (fun q9 => h_7 ((nI_eq (by omega) (by omega)).mp q9))] | rw [if_neg (Nat.not_le.mpr h_7)] | rw [if_neg (Nat.not_lt.mpr h_7)] | skip); (first | rw [if_neg h_17] | rw [if_pos (Decidable.not_not.mp h_17)] | rw [if_pos h_17] | rw [if_pos (congrArg nI h_17)] | rw [if_neg (fun q9 => h_17 ((nI_eq (by omega) (by omega)).mp q9))] | rw [if_neg (Nat.not_le.mpr h_17)] | rw [if_neg (Nat.not_lt.mpr h_17)] | skip); (first | rw [if_neg h_34] | rw [if_pos (Decidable.not_not.mp h_34)] | rw [if_pos h_34] | rw [if_pos (congrArg nI h_34)] | rw [if_neg (fun q9 => h_34 ((nI_eq (by omega) (by omega)).mp q9))] | rw [if_neg (Nat.not_le.mpr h_34)] | rw [if_neg (Nat.not_lt.mpr h_34)] | skip); (first | rw [if_neg (show ¬ hN = 5 by omega)] | rw [if_pos (show hN = 5 by omega)] | skip); all_goals rfl
        exact n_iret C hRt (rfl) dX9_heap_91 (by rw [hS] <;> rfl) (by rw [hS]; exact pc_ok hRq5 hFq5)
      · skip
        refine v_aload_n C 0 dX9_heap_37 rfl ?_
        refine v_iconst C (nI 4) dX9_heap_38 (by decide) ?_
        refine n_callVi C hRm [.int (nI 4)] cw_X9_error ml_X9_58 (by decide) (show shp 0 = 9 from by decide +kernel) (by decide) rfl (c_error l G M 4 (by decide)) (by decide) rfl rfl (Nat.le_of_ble_eq_true rfl) dX9_heap_39 (fun M5 hP_39 => ?_)
        subst hP_39
        have hS : heapS Y hN least most = er 4 Y := by unfold heapS; (first | rw [if_neg h_7] | rw [if_pos (Decidable.not_not.mp h_7)] | rw [if_pos h_7] | rw [if_pos (congrArg nI h_7)] | rw [if_neg (fun q9 => h_7 ((nI_eq (by omega) (by omega)).mp q9))] | rw [if_neg (Nat.not_le.mpr h_7)] | rw [if_neg (Nat.not_lt.mpr h_7)] | skip); (first | rw [if_neg h_17] | rw [if_pos (Decidable.not_not.mp h_17)] | rw [if_pos h_17] | rw [if_pos (congrArg nI h_17)] | rw [if_neg (fun q9 => h_17 ((nI_eq (by omega) (by omega)).mp q9))] | rw [if_neg (Nat.not_le.mpr h_17)] | rw [if_neg (Nat.not_lt.mpr h_17)] | skip); (first | rw [if_neg h_34] | rw [if_pos (Decidable.not_not.mp h_34)] | rw [if_pos h_34] | rw [if_pos (congrArg nI h_34)] | rw [if_neg (fun q9 => h_34 ((nI_eq (by omega) (by omega)).mp q9))] | rw [if_neg (Nat.not_le.mpr h_34)] | rw [if_neg (Nat.not_lt.mpr h_34)] | skip); (first | rw [if_neg (show ¬ hN = 5 by omega)] | rw [if_pos (show hN = 5 by omega)] | skip); all_goals rfl
        exact n_iret C hRt (rfl) dX9_heap_42 (by rw [hS] <;> rfl) (by rw [hS]; exact pc_er hR (okG.rf M) (show (4 : Nat) ≠ 0 by decide))
    · skip
      refine v_aload_n C 0 dX9_heap_20 rfl ?_
      refine v_iconst C (nI 1) dX9_heap_21 (by decide) ?_
      refine n_callVi C hRm [.int (nI 1)] cw_X9_error ml_X9_58 (by decide) (show shp 0 = 9 from by decide +kernel) (by decide) rfl (c_error l G M 1 (by decide)) (by decide) rfl rfl (Nat.le_of_ble_eq_true rfl) dX9_heap_22 (fun M5 hP_22 => ?_)
      subst hP_22
      have hS : heapS Y hN least most = er 1 Y := by unfold heapS; (first | rw [if_neg h_7] | rw [if_pos (Decidable.not_not.mp h_7)] | rw [if_pos h_7] | rw [if_pos (congrArg nI h_7)] | rw [if_neg (fun q9 => h_7 ((nI_eq (by omega) (by omega)).mp q9))] | rw [if_neg (Nat.not_le.mpr h_7)] | rw [if_neg (Nat.not_lt.mpr h_7)] | skip); (first | rw [if_neg h_17] | rw [if_pos (Decidable.not_not.mp h_17)] | rw [if_pos h_17] | rw [if_pos (congrArg nI h_17)] | rw [if_neg (fun q9 => h_17 ((nI_eq (by omega) (by omega)).mp q9))] | rw [if_neg (Nat.not_le.mpr h_17)] | rw [if_neg (Nat.not_lt.mpr h_17)] | skip); (first | rw [if_neg (show ¬ hN = 5 by omega)] | rw [if_pos (show hN = 5 by omega)] | skip); all_goals rfl
      exact n_iret C hRt (rfl) dX9_heap_25 (by rw [hS] <;> rfl) (by rw [hS]; exact pc_er hR (okG.rf M) (show (1 : Nat) ≠ 0 by decide))
set_option maxHeartbeats 4000000 in
set_option maxRecDepth 100000 in
theorem x_likes (l : Launch) (G : GC) (M : Mm) (Y : Nat → Int32) (n hN : Nat) (hR : YR M 1 Y n hN) (hY : YOk Y n hN) (hI : yI Y n) (hJ : yJ Y n) (one other v : Int32) : CI l G 3 yX9_likes cX9_likes 5 .int [.ref (gb G + 0), .int one, .int other, .int v] M ((likesS Y one other v).2.1) (PubC M (likesS Y one other v).2.2 n hN (likesS Y one other v).1) := by
  refine Con.of (by decide +kernel) (Nat.le_of_ble_eq_true rfl) ?_
  intro f C hRm hRt _
  have hn2 := hY.1.2.1
  have h5 := hY.1.2.2.2
  show Vc f G NPh M 0 [(0, .ref (gb G + 0)), (1, .int one), (2, .int other), (3, .int v)] []
  refine v_aload_n C 0 dX9_likes_0 rfl ?_
  refine v_iload_n C 1 dX9_likes_1 rfl ?_
  refine n_callVp C hRm [.int one] cw_X9_noChild ml_X9_84 (by decide) (show shp 0 = 9 from by decide +kernel) (by decide) rfl (c_noChild l G M Y _ _ hR hY one) (by decide) rfl rfl (Nat.le_of_ble_eq_true rfl) dX9_likes_2 ?_
  refine nb_if_ne C 31 dX9_likes_5 rfl (fun h_5 => ?_) (fun h_5 => ?_)
  · skip
    refine v_aload_n C 0 dX9_likes_31 rfl ?_
    refine v_iconst C (nI 1) dX9_likes_32 (by decide) ?_
    refine n_callVi C hRm [.int (nI 1)] cw_X9_error ml_X9_58 (by decide) (show shp 0 = 9 from by decide +kernel) (by decide) rfl (c_error l G M 1 (by decide)) (by decide) rfl rfl (Nat.le_of_ble_eq_true rfl) dX9_likes_33 (fun M5 hP_33 => ?_)
    subst hP_33
    have hS : likesS Y one other v = er 1 Y := by unfold likesS; (try rw [nI_clamp (by omega)]); (try rw [nI_clamp (by omega)]); (try rw [nI_clamp (by omega)]); (first | rw [if_neg h_5] | rw [if_pos (Decidable.not_not.mp h_5)] | rw [if_pos h_5] | rw [if_pos (congrArg nI h_5)] | rw [if_neg (fun q9 => h_5 ((nI_eq (by omega) (by omega)).mp q9))] | rw [if_neg (Nat.not_le.mpr h_5)] | rw [if_neg (Nat.not_lt.mpr h_5)] | skip); all_goals rfl
    exact n_iret C hRt (rfl) dX9_likes_36 (by rw [hS] <;> rfl) (by rw [hS]; exact pc_er hR (okG.rf M) (show (1 : Nat) ≠ 0 by decide))
  · skip
    obtain ⟨c, hc, rfl⟩ := is_nat hY.1.1 hY.1.2.1 (Decidable.not_not.mp h_5)
    refine v_aload_n C 0 dX9_likes_8 rfl ?_
    refine v_iload_n C 2 dX9_likes_9 rfl ?_
    refine n_callVp C hRm [.int other] cw_X9_noChild ml_X9_84 (by decide) (show shp 0 = 9 from by decide +kernel) (by decide) rfl (c_noChild l G M Y _ _ hR hY other) (by decide) rfl rfl (Nat.le_of_ble_eq_true rfl) dX9_likes_10 ?_
    refine nb_if_ne C 31 dX9_likes_13 rfl (fun h_13 => ?_) (fun h_13 => ?_)
    · skip
      refine v_aload_n C 0 dX9_likes_31 rfl ?_
      refine v_iconst C (nI 1) dX9_likes_32 (by decide) ?_
      refine n_callVi C hRm [.int (nI 1)] cw_X9_error ml_X9_58 (by decide) (show shp 0 = 9 from by decide +kernel) (by decide) rfl (c_error l G M 1 (by decide)) (by decide) rfl rfl (Nat.le_of_ble_eq_true rfl) dX9_likes_33 (fun M5 hP_33 => ?_)
      subst hP_33
      have hS : likesS Y (nI c) other v = er 1 Y := by unfold likesS; (try rw [nI_clamp (by omega)]); (try rw [nI_clamp (by omega)]); (try rw [nI_clamp (by omega)]); (first | rw [if_neg h_5] | rw [if_pos (Decidable.not_not.mp h_5)] | rw [if_pos h_5] | rw [if_pos (congrArg nI h_5)] | rw [if_neg (fun q9 => h_5 ((nI_eq (by omega) (by omega)).mp q9))] | rw [if_neg (Nat.not_le.mpr h_5)] | rw [if_neg (Nat.not_lt.mpr h_5)] | skip); (first | rw [if_neg h_13] | rw [if_pos (Decidable.not_not.mp h_13)] | rw [if_pos h_13] | rw [if_pos (congrArg nI h_13)] | rw [if_neg (fun q9 => h_13 ((nI_eq (by omega) (by omega)).mp q9))] | rw [if_neg (Nat.not_le.mpr h_13)] | rw [if_neg (Nat.not_lt.mpr h_13)] | skip); all_goals rfl
      exact n_iret C hRt (rfl) dX9_likes_36 (by rw [hS] <;> rfl) (by rw [hS]; exact pc_er hR (okG.rf M) (show (1 : Nat) ≠ 0 by decide))
    · skip
      obtain ⟨o, ho, rfl⟩ := is_nat hY.1.1 hY.1.2.1 (Decidable.not_not.mp h_13)
      refine v_iload_n C 1 dX9_likes_16 rfl ?_
      refine v_iload_n C 2 dX9_likes_17 rfl ?_
      refine n_icmp_eq C (by omega) (by omega) 31 dX9_likes_18 rfl (fun h_18 => ?_) (fun h_18 => ?_)
      · skip
        refine v_aload_n C 0 dX9_likes_31 rfl ?_
        refine v_iconst C (nI 1) dX9_likes_32 (by decide) ?_
        refine n_callVi C hRm [.int (nI 1)] cw_X9_error ml_X9_58 (by decide) (show shp 0 = 9 from by decide +kernel) (by decide) rfl (c_error l G M 1 (by decide)) (by decide) rfl rfl (Nat.le_of_ble_eq_true rfl) dX9_likes_33 (fun M5 hP_33 => ?_)
        subst hP_33
        have hS : likesS Y (nI c) (nI o) v = er 1 Y := by unfold likesS; (try rw [nI_clamp (by omega)]); (try rw [nI_clamp (by omega)]); (try rw [nI_clamp (by omega)]); (first | rw [if_neg h_5] | rw [if_pos (Decidable.not_not.mp h_5)] | rw [if_pos h_5] | rw [if_pos (congrArg nI h_5)] | rw [if_neg (fun q9 => h_5 ((nI_eq (by omega) (by omega)).mp q9))] | rw [if_neg (Nat.not_le.mpr h_5)] | rw [if_neg (Nat.not_lt.mpr h_5)] | skip); (first | rw [if_neg h_13] | rw [if_pos (Decidable.not_not.mp h_13)] | rw [if_pos h_13] | rw [if_pos (congrArg nI h_13)] | rw [if_neg (fun q9 => h_13 ((nI_eq (by omega) (by omega)).mp q9))] | rw [if_neg (Nat.not_le.mpr h_13)] | rw [if_neg (Nat.not_lt.mpr h_13)] | skip); (first | rw [if_neg h_18] | rw [if_pos (Decidable.not_not.mp h_18)] | rw [if_pos h_18] | rw [if_pos (congrArg nI h_18)] | rw [if_neg (fun q9 => h_18 ((nI_eq (by omega) (by omega)).mp q9))] | rw [if_neg (Nat.not_le.mpr h_18)] | rw [if_neg (Nat.not_lt.mpr h_18)] | skip); all_goals rfl
        exact n_iret C hRt (rfl) dX9_likes_36 (by rw [hS] <;> rfl) (by rw [hS]; exact pc_er hR (okG.rf M) (show (1 : Nat) ≠ 0 by decide))
      · skip
        refine v_iload_n C 3 dX9_likes_21 rfl ?_
        refine v_iconst C (nI 0) dX9_likes_22 (by decide) ?_
        refine v_bipush C (nI 99) dX9_likes_23 (by decide) ?_
        refine n_callSp C hRm [.int v, .int (nI 0), .int (nI 99)] cw_X9_outside st_X9_outside ml_X9_54 (c_outside l G M v (nI 0) (nI 99)) (by decide) rfl rfl (Nat.le_of_ble_eq_true rfl) dX9_likes_25 ?_
        refine nb_if_eq C 37 dX9_likes_28 rfl (fun h_28 => ?_) (fun h_28 => ?_)
        · skip
          refine v_aload_n C 0 dX9_likes_37 rfl ?_
          refine g_X9_10 C (by decide) (show shp 0 = 9 from by decide +kernel) dX9_likes_38 ?_
          refine g_X9_66 C (by decide) (s_y (by decide)) dX9_likes_41 ?_
          refine v_iload_n C 1 dX9_likes_44 rfl ?_
          refine v_aald C rfl (by decide) (show shp 2 = 20 from by decide +kernel) (by decide) (by decide) (show c < 10 from by omega) (by decide) (1 + 20 + 3 * c) (by simp only [aOff] <;> omega) dX9_likes_45 ?_
          refine g_X9_98 C (show 1 + 20 + 3 * c < 221 from by omega) (s_ch (by decide) (by omega)) dX9_likes_46 ?_
          refine v_iload_n C 2 dX9_likes_49 rfl ?_
          refine v_iald C (show 1 + 20 + 3 * c + 1 < 221 from by omega) (s_lk (by decide) (by omega)) (by omega) (by decide) dX9_likes_50 ?_
          refine v_top (Y (67 + 10 * c + o)) (hR.lk (by omega) (by omega)) ?_
          refine v_istore C [(4, .int (Y (67 + 10 * c + o))), (0, .ref (gb G + 0)), (1, .int (nI c)), (2, .int (nI o)), (3, .int v)] dX9_likes_51 (by decide) rfl ?_
          refine v_aload_n C 1 dX9_likes_53 rfl ?_
          refine g_X9_10 C (by decide) (show shp 0 = 9 from by decide +kernel) dX9_likes_54 ?_
          refine g_X9_66 C (by decide) (s_y (by decide)) dX9_likes_57 ?_
          refine v_iload_n C 2 dX9_likes_60 rfl ?_
          refine v_aald C rfl (by decide) (show shp 2 = 20 from by decide +kernel) (by decide) (by decide) (show c < 10 from by omega) (by decide) (1 + 20 + 3 * c) (by simp only [aOff] <;> omega) dX9_likes_61 ?_
          refine g_X9_98 C (show 1 + 20 + 3 * c < 221 from by omega) (s_ch (by decide) (by omega)) dX9_likes_62 ?_
          refine v_iload_n C 3 dX9_likes_65 rfl ?_
          refine v_iload_n C 4 dX9_likes_66 rfl ?_
          refine v_iast C (show 1 + 20 + 3 * c + 1 < 221 from by omega) (s_lk (by decide) (by omega)) (by omega) (by decide) dX9_likes_67 ?_
          have hRq1 : YR (up2 M (1 + 20 + 3 * c + 1) o v) 1 (upd Y (67 + 10 * c + o) v) n hN := hR.wlk (c := c) (o := o) (by omega) (by omega) (by omega) (YOk.t4 hY) (YOk.t5 hY) _
          have hFq1 : okG M (up2 M (1 + 20 + 3 * c + 1) o v) := (okG.rf M).tr (Fr.up (y := 1) _ (by omega))
          refine v_iload C 0 dX9_likes_68 rfl ?_
          have hS : likesS Y (nI c) (nI o) v = (0, Y (67 + 10 * c + o), upd Y (67 + 10 * c + o) v) := by unfold likesS; (try rw [nI_clamp (by omega)]); (try rw [nI_clamp (by omega)]); (try rw [nI_clamp (by omega)]); (first | rw [if_neg h_5] | rw [if_pos (Decidable.not_not.mp h_5)] | rw [if_pos h_5] | rw [if_pos (congrArg nI h_5)] | rw [if_neg (fun q9 => h_5 ((nI_eq (by omega) (by omega)).mp q9))] | rw [if_neg (Nat.not_le.mpr h_5)] | rw [if_neg (Nat.not_lt.mpr h_5)] | skip); (first | rw [if_neg h_13] | rw [if_pos (Decidable.not_not.mp h_13)] | rw [if_pos h_13] | rw [if_pos (congrArg nI h_13)] | rw [if_neg (fun q9 => h_13 ((nI_eq (by omega) (by omega)).mp q9))] | rw [if_neg (Nat.not_le.mpr h_13)] | rw [if_neg (Nat.not_lt.mpr h_13)] | skip); (first | rw [if_neg h_18] | rw [if_pos (Decidable.not_not.mp h_18)] | rw [if_pos h_18] | rw [if_pos (congrArg nI h_18)] | rw [if_neg (fun q9 => h_18 ((nI_eq (by omega) (by omega)).mp q9))] | rw [if_neg (Nat.not_le.mpr h_18)] | rw [if_neg (Nat.not_lt.mpr h_18)] | skip); (first | rw [if_neg h_28] | rw [if_pos (Decidable.not_not.mp h_28)] | rw [if_pos h_28] | rw [if_pos (congrArg nI h_28)] | rw [if_neg (fun q9 => h_28 ((nI_eq (by omega) (by omega)).mp q9))] | rw [if_neg (Nat.not_le.mpr h_28)] | rw [if_neg (Nat.not_lt.mpr h_28)] | skip); all_goals rfl
          exact n_iret C hRt (rfl) dX9_likes_70 (by rw [hS] <;> rfl) (by rw [hS]; exact pc_ok hRq1 hFq1)
        · skip
          refine v_aload_n C 0 dX9_likes_31 rfl ?_
          refine v_iconst C (nI 1) dX9_likes_32 (by decide) ?_
          refine n_callVi C hRm [.int (nI 1)] cw_X9_error ml_X9_58 (by decide) (show shp 0 = 9 from by decide +kernel) (by decide) rfl (c_error l G M 1 (by decide)) (by decide) rfl rfl (Nat.le_of_ble_eq_true rfl) dX9_likes_33 (fun M5 hP_33 => ?_)
          subst hP_33
          have hS : likesS Y (nI c) (nI o) v = er 1 Y := by unfold likesS; (try rw [nI_clamp (by omega)]); (try rw [nI_clamp (by omega)]); (try rw [nI_clamp (by omega)]); (first | rw [if_neg h_5] | rw [if_pos (Decidable.not_not.mp h_5)] | rw [if_pos h_5] | rw [if_pos (congrArg nI h_5)] | rw [if_neg (fun q9 => h_5 ((nI_eq (by omega) (by omega)).mp q9))] | rw [if_neg (Nat.not_le.mpr h_5)] | rw [if_neg (Nat.not_lt.mpr h_5)] | skip); (first | rw [if_neg h_13] | rw [if_pos (Decidable.not_not.mp h_13)] | rw [if_pos h_13] | rw [if_pos (congrArg nI h_13)] | rw [if_neg (fun q9 => h_13 ((nI_eq (by omega) (by omega)).mp q9))] | rw [if_neg (Nat.not_le.mpr h_13)] | rw [if_neg (Nat.not_lt.mpr h_13)] | skip); (first | rw [if_neg h_18] | rw [if_pos (Decidable.not_not.mp h_18)] | rw [if_pos h_18] | rw [if_pos (congrArg nI h_18)] | rw [if_neg (fun q9 => h_18 ((nI_eq (by omega) (by omega)).mp q9))] | rw [if_neg (Nat.not_le.mpr h_18)] | rw [if_neg (Nat.not_lt.mpr h_18)] | skip); (first | rw [if_neg h_28] | rw [if_pos (Decidable.not_not.mp h_28)] | rw [if_pos h_28] | rw [if_pos (congrArg nI h_28)] | rw [if_neg (fun q9 => h_28 ((nI_eq (by omega) (by omega)).mp q9))] | rw [if_neg (Nat.not_le.mpr h_28)] | rw [if_neg (Nat.not_lt.mpr h_28)] | skip); all_goals rfl
          exact n_iret C hRt (rfl) dX9_likes_36 (by rw [hS] <;> rfl) (by rw [hS]; exact pc_er hR (okG.rf M) (show (1 : Nat) ≠ 0 by decide))
set_option maxHeartbeats 4000000 in
set_option maxRecDepth 100000 in
theorem x_rule (l : Launch) (G : GC) (M : Mm) (Y : Nat → Int32) (n hN : Nat) (hR : YR M 1 Y n hN) (hY : YOk Y n hN) (hI : yI Y n) (hJ : yJ Y n) (heap v : Int32) : CI l G 3 yX9_rule cX9_rule 4 .int [.ref (gb G + 0), .int heap, .int v] M ((ruleS Y heap v).2.1) (PubC M (ruleS Y heap v).2.2 n hN (ruleS Y heap v).1) := by
  refine Con.of (by decide +kernel) (Nat.le_of_ble_eq_true rfl) ?_
  intro f C hRm hRt _
  have hn2 := hY.1.2.1
  have h5 := hY.1.2.2.2
  show Vc f G NPh M 0 [(0, .ref (gb G + 0)), (1, .int heap), (2, .int v)] []
  refine v_aload_n C 0 dX9_rule_0 rfl ?_
  refine v_iload_n C 1 dX9_rule_1 rfl ?_
  refine n_callVp C hRm [.int heap] cw_X9_noHeap ml_X9_116 (by decide) (show shp 0 = 9 from by decide +kernel) (by decide) rfl (c_noHeap l G M Y _ _ hR hY heap) (by decide) rfl rfl (Nat.le_of_ble_eq_true rfl) dX9_rule_2 ?_
  refine nb_if_ne C 18 dX9_rule_5 rfl (fun h_5 => ?_) (fun h_5 => ?_)
  · skip
    refine v_aload_n C 0 dX9_rule_18 rfl ?_
    refine v_iconst C (nI 1) dX9_rule_19 (by decide) ?_
    refine n_callVi C hRm [.int (nI 1)] cw_X9_error ml_X9_58 (by decide) (show shp 0 = 9 from by decide +kernel) (by decide) rfl (c_error l G M 1 (by decide)) (by decide) rfl rfl (Nat.le_of_ble_eq_true rfl) dX9_rule_20 (fun M5 hP_20 => ?_)
    subst hP_20
    have hS : ruleS Y heap v = er 1 Y := by unfold ruleS; (try rw [nI_clamp (by omega)]); (try rw [nI_clamp (by omega)]); (try rw [nI_clamp (by omega)]); (first | rw [if_neg h_5] | rw [if_pos (Decidable.not_not.mp h_5)] | rw [if_pos h_5] | rw [if_pos (congrArg nI h_5)] | rw [if_neg (fun q9 => h_5 ((nI_eq (by omega) (by omega)).mp q9))] | rw [if_neg (Nat.not_le.mpr h_5)] | rw [if_neg (Nat.not_lt.mpr h_5)] | skip); all_goals rfl
    exact n_iret C hRt (rfl) dX9_rule_23 (by rw [hS] <;> rfl) (by rw [hS]; exact pc_er hR (okG.rf M) (show (1 : Nat) ≠ 0 by decide))
  · skip
    obtain ⟨h, hh, rfl⟩ := is_nat hY.1.2.2.1 (by omega) (Decidable.not_not.mp h_5)
    refine v_iload_n C 2 dX9_rule_8 rfl ?_
    refine v_iconst C (nI 0) dX9_rule_9 (by decide) ?_
    refine v_bipush C (nI 99) dX9_rule_10 (by decide) ?_
    refine n_callSp C hRm [.int v, .int (nI 0), .int (nI 99)] cw_X9_outside st_X9_outside ml_X9_54 (c_outside l G M v (nI 0) (nI 99)) (by decide) rfl rfl (Nat.le_of_ble_eq_true rfl) dX9_rule_12 ?_
    refine nb_if_eq C 24 dX9_rule_15 rfl (fun h_15 => ?_) (fun h_15 => ?_)
    · skip
      refine v_aload_n C 0 dX9_rule_24 rfl ?_
      refine g_X9_10 C (by decide) (show shp 0 = 9 from by decide +kernel) dX9_rule_25 ?_
      refine g_X9_104 C (by decide) (s_y (by decide)) dX9_rule_28 ?_
      refine v_iload_n C 1 dX9_rule_31 rfl ?_
      refine v_aald C rfl (by decide) (show shp 3 = 21 from by decide +kernel) (by decide) (by decide) (show h < 5 from by omega) (by decide) (1 + 50 + h) (by simp only [aOff] <;> omega) dX9_rule_32 ?_
      refine g_X9_119 C (show 1 + 50 + h < 221 from by omega) (s_hp (by decide) (by omega)) dX9_rule_33 ?_
      refine v_top (Y (167 + 4 * h + 2)) ((hR.hp (by omega)).2.2.2.trans (if_pos (by omega))) ?_
      refine v_istore_n C [(3, .int (Y (167 + 4 * h + 2))), (0, .ref (gb G + 0)), (1, .int (nI h)), (2, .int v)] dX9_rule_36 rfl (by decide) rfl ?_
      refine v_aload_n C 1 dX9_rule_37 rfl ?_
      refine g_X9_10 C (by decide) (show shp 0 = 9 from by decide +kernel) dX9_rule_38 ?_
      refine g_X9_104 C (by decide) (s_y (by decide)) dX9_rule_41 ?_
      refine v_iload_n C 2 dX9_rule_44 rfl ?_
      refine v_aald C rfl (by decide) (show shp 3 = 21 from by decide +kernel) (by decide) (by decide) (show h < 5 from by omega) (by decide) (1 + 50 + h) (by simp only [aOff] <;> omega) dX9_rule_45 ?_
      refine v_iload_n C 3 dX9_rule_46 rfl ?_
      refine p_X9_119 C (show 1 + 50 + h < 221 from by omega) (s_hp (by decide) (by omega)) dX9_rule_47 ?_
      have hRq1 : YR (up2 M (1 + 50 + h) 2 v) 1 (upd Y (167 + 4 * h + 2) v) n hN := hR.wru (k := h) (by omega) (by omega) (by omega) (YOk.t4 hY) (YOk.t5 hY) _
      have hFq1 : okG M (up2 M (1 + 50 + h) 2 v) := (okG.rf M).tr (Fr.up (y := 1) _ (by omega))
      refine v_iload_n C 0 dX9_rule_50 rfl ?_
      have hS : ruleS Y (nI h) v = (0, Y (167 + 4 * h + 2), upd Y (167 + 4 * h + 2) v) := by unfold ruleS; (try rw [nI_clamp (by omega)]); (try rw [nI_clamp (by omega)]); (try rw [nI_clamp (by omega)]); (first | rw [if_neg h_5] | rw [if_pos (Decidable.not_not.mp h_5)] | rw [if_pos h_5] | rw [if_pos (congrArg nI h_5)] | rw [if_neg (fun q9 => h_5 ((nI_eq (by omega) (by omega)).mp q9))] | rw [if_neg (Nat.not_le.mpr h_5)] | rw [if_neg (Nat.not_lt.mpr h_5)] | skip); (first | rw [if_neg h_15] | rw [if_pos (Decidable.not_not.mp h_15)] | rw [if_pos h_15] | rw [if_pos (congrArg nI h_15)] | rw [if_neg (fun q9 => h_15 ((nI_eq (by omega) (by omega)).mp q9))] | rw [if_neg (Nat.not_le.mpr h_15)] | rw [if_neg (Nat.not_lt.mpr h_15)] | skip); all_goals rfl
      exact n_iret C hRt (rfl) dX9_rule_51 (by rw [hS] <;> rfl) (by rw [hS]; exact pc_ok hRq1 hFq1)
    · skip
      refine v_aload_n C 0 dX9_rule_18 rfl ?_
      refine v_iconst C (nI 1) dX9_rule_19 (by decide) ?_
      refine n_callVi C hRm [.int (nI 1)] cw_X9_error ml_X9_58 (by decide) (show shp 0 = 9 from by decide +kernel) (by decide) rfl (c_error l G M 1 (by decide)) (by decide) rfl rfl (Nat.le_of_ble_eq_true rfl) dX9_rule_20 (fun M5 hP_20 => ?_)
      subst hP_20
      have hS : ruleS Y (nI h) v = er 1 Y := by unfold ruleS; (try rw [nI_clamp (by omega)]); (try rw [nI_clamp (by omega)]); (try rw [nI_clamp (by omega)]); (first | rw [if_neg h_5] | rw [if_pos (Decidable.not_not.mp h_5)] | rw [if_pos h_5] | rw [if_pos (congrArg nI h_5)] | rw [if_neg (fun q9 => h_5 ((nI_eq (by omega) (by omega)).mp q9))] | rw [if_neg (Nat.not_le.mpr h_5)] | rw [if_neg (Nat.not_lt.mpr h_5)] | skip); (first | rw [if_neg h_15] | rw [if_pos (Decidable.not_not.mp h_15)] | rw [if_pos h_15] | rw [if_pos (congrArg nI h_15)] | rw [if_neg (fun q9 => h_15 ((nI_eq (by omega) (by omega)).mp q9))] | rw [if_neg (Nat.not_le.mpr h_15)] | rw [if_neg (Nat.not_lt.mpr h_15)] | skip); all_goals rfl
      exact n_iret C hRt (rfl) dX9_rule_23 (by rw [hS] <;> rfl) (by rw [hS]; exact pc_er hR (okG.rf M) (show (1 : Nat) ≠ 0 by decide))
