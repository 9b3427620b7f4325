theorem yk_kind {Y : Nat → Int32} {n hN : Nat} (hY : YOk Y n hN) {c k : Nat} (hc : c < n) (hk : k < 7) : YOk (upd Y (7 + 6 * c + 0) (nI k)) n hN := by
  have h10 := hY.1.2.1
  obtain ⟨a1, a5, a6, a7, a8, a9⟩ := hY
  refine ⟨⟨(upd_ne _ _ (by omega)).trans a1.1, a1.2.1, (upd_ne _ _ (by omega)).trans a1.2.2.1, a1.2.2.2⟩, fun d hd => ?_, fun d hd => ?_, fun u hu => ?_, ?_, ?_⟩
  · by_cases h : d = c
    · subst h; exact ⟨k, hk, upd_eq _ _ _⟩
    · obtain ⟨κ, h1, h2⟩ := a5 d hd
      exact ⟨κ, h1, (upd_ne _ _ (by omega)).trans h2⟩
  · rw [upd_ne _ _ (by omega)]; exact a6 d hd
  · obtain ⟨len, h1⟩ := a7 u hu
    exact ⟨len, h1.congr (fun i hi => upd_ne _ _ (by omega))⟩
  · obtain ⟨t, h1, h2⟩ := a8
    exact ⟨t, h1, (upd_ne _ _ (by omega)).trans h2⟩
  · obtain ⟨t, h1, h2⟩ := a9
    exact ⟨t, h1, (upd_ne _ _ (by omega)).trans h2⟩
noncomputable def thenS (Y : Nat → Int32) (n hN : Nat) (k child what : Int32) : O3 := if nI 0 ≤ k ∧ k ≤ nI 60 then (if nI 0 ≤ child ∧ child ≤ Y 0 - nI 1 then (if nI 0 ≤ what ∧ what ≤ nI 7 then (0, toldS (passS Y n hN k.toNatClampNeg) n child.toNatClampNeg what.toNatClampNeg, Y) else er 1 Y) else er 1 Y) else er 1 Y
noncomputable def sorrowS (Y : Nat → Int32) (n hN : Nat) (k : Int32) : O3 := if nI 0 ≤ k ∧ k ≤ nI 60 then (0, sorA (passS Y n hN k.toNatClampNeg) n, Y) else er 1 Y
noncomputable def grfS (Y : Nat → Int32) (n hN c t : Nat) (h : Int32) : Int32 := sorA (passS (goesS Y n hN c h) n hN t) n
noncomputable def wrdA (Y : Nat → Int32) (n hN c t : Nat) : Nat → Nat × Int32
  | 0 => (10, nI 0)
  | o + 1 => if ¬ Y (7 + 6 * o + 4) < 0 ∧ ((wrdA Y n hN c t o).1 = 10 ∨ grfS Y n hN c t (Y (7 + 6 * o + 4)) < (wrdA Y n hN c t o).2) then (o, grfS Y n hN c t (Y (7 + 6 * o + 4))) else wrdA Y n hN c t o
theorem wrdA_le (Y : Nat → Int32) (n hN c t : Nat) : ∀ o, o ≤ 10 → (wrdA Y n hN c t o).1 ≤ 10
  | 0, _ => Nat.le_refl _
  | o + 1, h => by
    unfold wrdA
    split
    · show o ≤ 10; omega
    · exact wrdA_le Y n hN c t o (by omega)
noncomputable def wordS (Y : Nat → Int32) (n hN : Nat) (child k : Int32) : O3 := if nI 0 ≤ child ∧ child ≤ Y 0 - nI 1 then (if nI 0 ≤ k ∧ k ≤ nI 60 then (if Y (7 + 6 * child.toNatClampNeg + 4) < 0 then (if (wrdA Y n hN child.toNatClampNeg k.toNatClampNeg n).1 = 10 then er 2 Y else (0, nI (wrdA Y n hN child.toNatClampNeg k.toNatClampNeg n).1, Y)) else er 3 Y) else er 1 Y) else er 1 Y
noncomputable def aloS (Y : Nat → Int32) (n hN c t k : Nat) : Int32 := passS (upd Y (7 + 6 * c + 0) (nI k)) n hN t (7 + 6 * c + 5)
noncomputable def tchA (Y : Nat → Int32) (n hN c t : Nat) : Nat → Nat × Int32
  | 0 => (7, nI 0)
  | k + 1 => if (tchA Y n hN c t k).1 = 7 ∨ aloS Y n hN c t k < (tchA Y n hN c t k).2 then (k, aloS Y n hN c t k) else tchA Y n hN c t k
theorem tchA_le (Y : Nat → Int32) (n hN c t : Nat) : ∀ o, o ≤ 7 → (tchA Y n hN c t o).1 ≤ 7
  | 0, _ => Nat.le_refl _
  | o + 1, h => by
    unfold tchA
    split
    · show o ≤ 7; omega
    · exact tchA_le Y n hN c t o (by omega)
noncomputable def teachS (Y : Nat → Int32) (n hN : Nat) (child k : Int32) : O3 := if nI 0 ≤ child ∧ child ≤ Y 0 - nI 1 then (if nI 0 ≤ k ∧ k ≤ nI 60 then (0, kv (tchA Y n hN child.toNatClampNeg k.toNatClampNeg 7).1, Y) else er 1 Y) else er 1 Y
set_option maxHeartbeats 4000000 in
set_option maxRecDepth 100000 in
theorem r_isAhead (l : Launch) (G : GC) (M : Mm) (k : Int32) : CP l G 2 yX10_isAhead cX10_isAhead 1 .boolean [.int k] M (b2i (nI 0 ≤ k ∧ k ≤ nI 60)) := by
  refine Con.of (by decide +kernel) (Nat.le_of_ble_eq_true rfl) ?_
  intro f C hRm hRt _
  show Vc f G NPh M 0 [(0, .int k)] []
  refine v_iload_n C 0 dX10_isAhead_0 rfl ?_
  refine v_iconst C (nI 0) dX10_isAhead_1 (by decide) ?_
  refine v_bipush C (nI 60) dX10_isAhead_2 (by decide) ?_
  refine n_callSp C hRm [.int k, .int (nI 0), .int (nI 60)] cw_X10_within st_X10_within ml_X10_72 (r_within l G M k (nI 0) (nI 60)) (by decide) rfl rfl (Nat.le_of_ble_eq_true rfl) dX10_isAhead_4 ?_
  exact n_iret C hRt (narrow_01 (b2i_01 _)) dX10_isAhead_7 (rfl) (rfl)
set_option maxHeartbeats 4000000 in
set_option maxRecDepth 100000 in
theorem r_then (l : Launch) (G : GC) (M : Mm) (Y : Nat → Int32) (n hN : Nat) (hY : YOk Y n hN) (k child what : Int32) : CI l G 10 yX10_then cX10_then 4 .int [.ref (gb G + 205), .int k, .int child, .int what] (upA M 206 Y) ((thenS Y n hN k child what).2.1) (PubR M (thenS Y n hN k child what).2.2 (thenS Y n hN k child what).1) := by
  refine Con.of (by decide +kernel) (Nat.le_of_ble_eq_true rfl) ?_
  intro f C hRm hRt _
  show Vc f G NPh (upA M 206 Y) 0 [(0, .ref (gb G + 205)), (1, .int k), (2, .int child), (3, .int what)] []
  have h10 := hY.1.2.1
  have h5N := hY.1.2.2.2
  refine v_iload_n C 1 dX10_then_0 rfl ?_
  refine n_callSp C hRm [.int k] cw_X10_isAhead st_X10_isAhead ml_X10_270 (r_isAhead l G (upA M 206 Y) k) (by decide) rfl rfl (Nat.le_of_ble_eq_true rfl) dX10_then_1 ?_
  refine nb_if_eq C 26 dX10_then_4 rfl (fun h_4 => ?_) (fun h_4 => ?_)
  · skip
    refine v_aload_n C 0 dX10_then_26 rfl ?_
    refine v_ldc C (-1000001) kc_X10_80 dX10_then_27 ?_
    refine n_callVi C hRm [.int (-1000001)] cw_X10_finding ml_X10_81 (by decide) sh_205 (by decide) rfl (r_finding l G (upA M 206 Y) 1 (by decide) (-1000001) (by decide)) (by decide) rfl rfl (Nat.le_of_ble_eq_true rfl) dX10_then_29 (fun M5 hP_29 => ?_)
    subst hP_29
    refine v_mem (upA (fndM M 1) 206 Y) (fnd_upA _ _ _) ?_
    have hS : thenS Y n hN k child what = er 1 Y := by unfold thenS; (try rw [nI_clamp (by omega)]); (try rw [nI_clamp (by omega)]); (try rw [nI_clamp (by omega)]); (first | rw [if_pos h_4] | rw [if_neg h_4] | rw [if_pos (congrArg nI h_4)] | rw [if_neg (fun q9 => h_4 ((nI_eq (by omega) (by omega)).mp q9))] | rw [if_neg (Nat.not_le.mpr h_4)] | rw [if_neg (Nat.not_lt.mpr h_4)] | skip); all_goals rfl
    exact n_iret C hRt rfl dX10_then_32 (by rw [hS] <;> rfl) (by rw [hS]; exact ⟨_, rfl, (eqM.rf M).tr (eqM.fnd _ (show (1 : Nat) ≠ 0 by decide))⟩)
  · skip
    obtain ⟨j, hj, rfl⟩ := within_nat (by decide) h_4
    refine v_aload_n C 0 dX10_then_7 rfl ?_
    refine v_iload_n C 2 dX10_then_8 rfl ?_
    refine v_iconst C (nI 0) dX10_then_9 (by decide) ?_
    refine n_callVp C hRm [.int child, .int (nI 0)] cw_X10_is ml_X10_95 (by decide) sh_205 (by decide) rfl (r_is l G M Y child 0 (by decide)) (by decide) rfl rfl (Nat.le_of_ble_eq_true rfl) dX10_then_10 ?_
    refine nb_if_eq C 26 dX10_then_13 rfl (fun h_13 => ?_) (fun h_13 => ?_)
    · skip
      refine v_aload_n C 0 dX10_then_26 rfl ?_
      refine v_ldc C (-1000001) kc_X10_80 dX10_then_27 ?_
      refine n_callVi C hRm [.int (-1000001)] cw_X10_finding ml_X10_81 (by decide) sh_205 (by decide) rfl (r_finding l G (upA M 206 Y) 1 (by decide) (-1000001) (by decide)) (by decide) rfl rfl (Nat.le_of_ble_eq_true rfl) dX10_then_29 (fun M5 hP_29 => ?_)
      subst hP_29
      refine v_mem (upA (fndM M 1) 206 Y) (fnd_upA _ _ _) ?_
      have hS : thenS Y n hN (nI j) child what = er 1 Y := by unfold thenS; (try rw [nI_clamp (by omega)]); (try rw [nI_clamp (by omega)]); (try rw [nI_clamp (by omega)]); (first | rw [if_pos h_4] | rw [if_neg h_4] | rw [if_pos (congrArg nI h_4)] | rw [if_neg (fun q9 => h_4 ((nI_eq (by omega) (by omega)).mp q9))] | rw [if_neg (Nat.not_le.mpr h_4)] | rw [if_neg (Nat.not_lt.mpr h_4)] | skip); (first | rw [if_pos h_13] | rw [if_neg h_13] | rw [if_pos (congrArg nI h_13)] | rw [if_neg (fun q9 => h_13 ((nI_eq (by omega) (by omega)).mp q9))] | rw [if_neg (Nat.not_le.mpr h_13)] | rw [if_neg (Nat.not_lt.mpr h_13)] | skip); all_goals rfl
      exact n_iret C hRt rfl dX10_then_32 (by rw [hS] <;> rfl) (by rw [hS]; exact ⟨_, rfl, (eqM.rf M).tr (eqM.fnd _ (show (1 : Nat) ≠ 0 by decide))⟩)
    · skip
      obtain ⟨c, hc, rfl⟩ := is_nat hY.1.1 hY.1.2.1 h_13
      refine v_iload_n C 3 dX10_then_16 rfl ?_
      refine v_iconst C (nI 0) dX10_then_17 (by decide) ?_
      refine v_bipush C (nI 7) dX10_then_18 (by decide) ?_
      refine n_callSp C hRm [.int what, .int (nI 0), .int (nI 7)] cw_X10_within st_X10_within ml_X10_72 (r_within l G (upA M 206 Y) what (nI 0) (nI 7)) (by decide) rfl rfl (Nat.le_of_ble_eq_true rfl) dX10_then_20 ?_
      refine nb_if_ne C 33 dX10_then_23 rfl (fun h_23 => ?_) (fun h_23 => ?_)
      · skip
        obtain ⟨q, hq, rfl⟩ := within_nat (by decide) h_23
        refine v_aload_n C 0 dX10_then_33 rfl ?_
        refine g_X10_9 C (by decide) sh_205 dX10_then_34 ?_
        refine v_aload_n C 0 dX10_then_37 rfl ?_
        refine g_X10_16 C (by decide) sh_205 dX10_then_38 ?_
        refine n_callSv C hRm [.ref (gb G + 206), .ref (gb G + 208)] cw_X10_copy st_X10_copy ml_X10_76 (r_copy_na l G (upA M 206 Y)) (by decide) rfl rfl (Nat.le_of_ble_eq_true rfl) dX10_then_41 (fun M5 hP => ?_)
        subst hP
        refine v_mem (upA (upA M 208 Y) 206 Y) (by rw [upA_eq, upA_swap _ _ _ (by decide)]) ?_
        refine v_aload_n C 0 dX10_then_44 rfl ?_
        refine v_iload_n C 1 dX10_then_45 rfl ?_
        refine n_callVv C hRm [.int (nI j)] cw_X10_minutesGo ml_X10_249 (by decide) sh_205 (by decide) rfl (r_minutesGo l G (upA M 208 Y) Y n hN hY j (by omega)) (by decide) rfl rfl (Nat.le_of_ble_eq_true rfl) dX10_then_46 (fun M5 hP_46 => ?_)
        obtain ⟨X9, rfl, hX9⟩ := hP_46
        have hYP := yk_pass hY j
        have h208 : X9 208 = Y := (hX9 208 (by decide) (by decide) (by decide)).trans (upA_eq M 208 Y)
        refine v_aload_n C 0 dX10_then_49 rfl ?_
        refine v_aload_n C 0 dX10_then_50 rfl ?_
        refine v_iload_n C 2 dX10_then_51 rfl ?_
        refine v_iload_n C 3 dX10_then_52 rfl ?_
        refine n_callVp C hRm [.int (nI c), .int (nI q)] cw_X10_childTold ml_X10_99 (by decide) sh_205 (by decide) rfl (r_childTold l G X9 (passS Y n hN j) n hYP.1.1 hYP.1.2.1 c q (by omega) (by omega)) (by decide) rfl rfl (Nat.le_of_ble_eq_true rfl) dX10_then_53 ?_
        refine n_callVi C hRm [.int (toldS (passS Y n hN j) n c q)] cw_X10_putBack ml_X10_273 (by decide) sh_205 (by decide) rfl (r_putBack l G X9 (passS Y n hN j) (toldS (passS Y n hN j) n c q)) (by decide) rfl rfl (Nat.le_of_ble_eq_true rfl) dX10_then_56 (fun M5 hP_56 => ?_)
        subst hP_56
        refine v_mem (upA X9 206 Y) (congrArg (upA X9 206) (h208)) ?_
        have hS : thenS Y n hN (nI j) (nI c) (nI q) = (0, toldS (passS Y n hN j) n c q, Y) := by unfold thenS; (try rw [nI_clamp (by omega)]); (try rw [nI_clamp (by omega)]); (try rw [nI_clamp (by omega)]); (first | rw [if_pos h_4] | rw [if_neg h_4] | rw [if_pos (congrArg nI h_4)] | rw [if_neg (fun q9 => h_4 ((nI_eq (by omega) (by omega)).mp q9))] | rw [if_neg (Nat.not_le.mpr h_4)] | rw [if_neg (Nat.not_lt.mpr h_4)] | skip); (first | rw [if_pos h_13] | rw [if_neg h_13] | rw [if_pos (congrArg nI h_13)] | rw [if_neg (fun q9 => h_13 ((nI_eq (by omega) (by omega)).mp q9))] | rw [if_neg (Nat.not_le.mpr h_13)] | rw [if_neg (Nat.not_lt.mpr h_13)] | skip); (first | rw [if_pos h_23] | rw [if_neg h_23] | rw [if_pos (congrArg nI h_23)] | rw [if_neg (fun q9 => h_23 ((nI_eq (by omega) (by omega)).mp q9))] | rw [if_neg (Nat.not_le.mpr h_23)] | rw [if_neg (Nat.not_lt.mpr h_23)] | skip); all_goals rfl
        exact n_iret C hRt rfl dX10_then_59 (by rw [hS] <;> rfl) (by rw [hS]; exact ⟨_, rfl, (eqM.upA M Y (Or.inl rfl)).tr (eqM.of23 hX9)⟩)
      · skip
        refine v_aload_n C 0 dX10_then_26 rfl ?_
        refine v_ldc C (-1000001) kc_X10_80 dX10_then_27 ?_
        refine n_callVi C hRm [.int (-1000001)] cw_X10_finding ml_X10_81 (by decide) sh_205 (by decide) rfl (r_finding l G (upA M 206 Y) 1 (by decide) (-1000001) (by decide)) (by decide) rfl rfl (Nat.le_of_ble_eq_true rfl) dX10_then_29 (fun M5 hP_29 => ?_)
        subst hP_29
        refine v_mem (upA (fndM M 1) 206 Y) (fnd_upA _ _ _) ?_
        have hS : thenS Y n hN (nI j) (nI c) what = er 1 Y := by unfold thenS; (try rw [nI_clamp (by omega)]); (try rw [nI_clamp (by omega)]); (try rw [nI_clamp (by omega)]); (first | rw [if_pos h_4] | rw [if_neg h_4] | rw [if_pos (congrArg nI h_4)] | rw [if_neg (fun q9 => h_4 ((nI_eq (by omega) (by omega)).mp q9))] | rw [if_neg (Nat.not_le.mpr h_4)] | rw [if_neg (Nat.not_lt.mpr h_4)] | skip); (first | rw [if_pos h_13] | rw [if_neg h_13] | rw [if_pos (congrArg nI h_13)] | rw [if_neg (fun q9 => h_13 ((nI_eq (by omega) (by omega)).mp q9))] | rw [if_neg (Nat.not_le.mpr h_13)] | rw [if_neg (Nat.not_lt.mpr h_13)] | skip); (first | rw [if_pos h_23] | rw [if_neg h_23] | rw [if_pos (congrArg nI h_23)] | rw [if_neg (fun q9 => h_23 ((nI_eq (by omega) (by omega)).mp q9))] | rw [if_neg (Nat.not_le.mpr h_23)] | rw [if_neg (Nat.not_lt.mpr h_23)] | skip); all_goals rfl
        exact n_iret C hRt rfl dX10_then_32 (by rw [hS] <;> rfl) (by rw [hS]; exact ⟨_, rfl, (eqM.rf M).tr (eqM.fnd _ (show (1 : Nat) ≠ 0 by decide))⟩)
set_option maxHeartbeats 4000000 in
set_option maxRecDepth 100000 in
theorem r_sorrow (l : Launch) (G : GC) (M : Mm) (Y : Nat → Int32) (n hN : Nat) (hY : YOk Y n hN) (k : Int32) : CI l G 10 yX10_sorrow cX10_sorrow 2 .int [.ref (gb G + 205), .int k] (upA M 206 Y) ((sorrowS Y n hN k).2.1) (PubR M (sorrowS Y n hN k).2.2 (sorrowS Y n hN k).1) := by
  refine Con.of (by decide +kernel) (Nat.le_of_ble_eq_true rfl) ?_
  intro f C hRm hRt _
  show Vc f G NPh (upA M 206 Y) 0 [(0, .ref (gb G + 205)), (1, .int k)] []
  have h10 := hY.1.2.1
  have h5N := hY.1.2.2.2
  refine v_iload_n C 1 dX10_sorrow_0 rfl ?_
  refine n_callSp C hRm [.int k] cw_X10_isAhead st_X10_isAhead ml_X10_270 (r_isAhead l G (upA M 206 Y) k) (by decide) rfl rfl (Nat.le_of_ble_eq_true rfl) dX10_sorrow_1 ?_
  refine nb_if_ne C 14 dX10_sorrow_4 rfl (fun h_4 => ?_) (fun h_4 => ?_)
  · skip
    obtain ⟨j, hj, rfl⟩ := within_nat (by decide) h_4
    refine v_aload_n C 0 dX10_sorrow_14 rfl ?_
    refine g_X10_9 C (by decide) sh_205 dX10_sorrow_15 ?_
    refine v_aload_n C 0 dX10_sorrow_18 rfl ?_
    refine g_X10_16 C (by decide) sh_205 dX10_sorrow_19 ?_
    refine n_callSv C hRm [.ref (gb G + 206), .ref (gb G + 208)] cw_X10_copy st_X10_copy ml_X10_76 (r_copy_na l G (upA M 206 Y)) (by decide) rfl rfl (Nat.le_of_ble_eq_true rfl) dX10_sorrow_22 (fun M5 hP => ?_)
    subst hP
    refine v_mem (upA (upA M 208 Y) 206 Y) (by rw [upA_eq, upA_swap _ _ _ (by decide)]) ?_
    refine v_aload_n C 0 dX10_sorrow_25 rfl ?_
    refine v_iload_n C 1 dX10_sorrow_26 rfl ?_
    refine n_callVv C hRm [.int (nI j)] cw_X10_minutesGo ml_X10_249 (by decide) sh_205 (by decide) rfl (r_minutesGo l G (upA M 208 Y) Y n hN hY j (by omega)) (by decide) rfl rfl (Nat.le_of_ble_eq_true rfl) dX10_sorrow_27 (fun M5 hP_27 => ?_)
    obtain ⟨X9, rfl, hX9⟩ := hP_27
    have hYP := yk_pass hY j
    have h208 : X9 208 = Y := (hX9 208 (by decide) (by decide) (by decide)).trans (upA_eq M 208 Y)
    refine v_aload_n C 0 dX10_sorrow_30 rfl ?_
    refine v_aload_n C 0 dX10_sorrow_31 rfl ?_
    refine n_callVp C hRm [] cw_X10_sorrowNow ml_X10_252 (by decide) sh_205 (by decide) rfl (r_sorrowNow l G X9 (passS Y n hN j) n hYP.1.1 hYP.1.2.1) (by decide) rfl rfl (Nat.le_of_ble_eq_true rfl) dX10_sorrow_32 ?_
    refine n_callVi C hRm [.int (sorA (passS Y n hN j) n)] cw_X10_putBack ml_X10_273 (by decide) sh_205 (by decide) rfl (r_putBack l G X9 (passS Y n hN j) (sorA (passS Y n hN j) n)) (by decide) rfl rfl (Nat.le_of_ble_eq_true rfl) dX10_sorrow_35 (fun M5 hP_35 => ?_)
    subst hP_35
    refine v_mem (upA X9 206 Y) (congrArg (upA X9 206) (h208)) ?_
    have hS : sorrowS Y n hN (nI j) = (0, sorA (passS Y n hN j) n, Y) := by unfold sorrowS; (try rw [nI_clamp (by omega)]); (try rw [nI_clamp (by omega)]); (first | rw [if_pos h_4] | rw [if_neg h_4] | rw [if_pos (congrArg nI h_4)] | rw [if_neg (fun q9 => h_4 ((nI_eq (by omega) (by omega)).mp q9))] | rw [if_neg (Nat.not_le.mpr h_4)] | rw [if_neg (Nat.not_lt.mpr h_4)] | skip); all_goals rfl
    exact n_iret C hRt rfl dX10_sorrow_38 (by rw [hS] <;> rfl) (by rw [hS]; exact ⟨_, rfl, (eqM.upA M Y (Or.inl rfl)).tr (eqM.of23 hX9)⟩)
  · skip
    refine v_aload_n C 0 dX10_sorrow_7 rfl ?_
    refine v_ldc C (-1000001) kc_X10_80 dX10_sorrow_8 ?_
    refine n_callVi C hRm [.int (-1000001)] cw_X10_finding ml_X10_81 (by decide) sh_205 (by decide) rfl (r_finding l G (upA M 206 Y) 1 (by decide) (-1000001) (by decide)) (by decide) rfl rfl (Nat.le_of_ble_eq_true rfl) dX10_sorrow_10 (fun M5 hP_10 => ?_)
    subst hP_10
    refine v_mem (upA (fndM M 1) 206 Y) (fnd_upA _ _ _) ?_
    have hS : sorrowS Y n hN k = er 1 Y := by unfold sorrowS; (try rw [nI_clamp (by omega)]); (try rw [nI_clamp (by omega)]); (first | rw [if_pos h_4] | rw [if_neg h_4] | rw [if_pos (congrArg nI h_4)] | rw [if_neg (fun q9 => h_4 ((nI_eq (by omega) (by omega)).mp q9))] | rw [if_neg (Nat.not_le.mpr h_4)] | rw [if_neg (Nat.not_lt.mpr h_4)] | skip); all_goals rfl
    exact n_iret C hRt rfl dX10_sorrow_13 (by rw [hS] <;> rfl) (by rw [hS]; exact ⟨_, rfl, (eqM.rf M).tr (eqM.fnd _ (show (1 : Nat) ≠ 0 by decide))⟩)
set_option maxHeartbeats 4000000 in
set_option maxRecDepth 100000 in
theorem r_word (l : Launch) (G : GC) (M : Mm) (Y : Nat → Int32) (n hN : Nat) (hY : YOk Y n hN) (child k : Int32) : CI l G 10 yX10_word cX10_word 8 .int [.ref (gb G + 205), .int child, .int k] (upA M 206 Y) ((wordS Y n hN child k).2.1) (PubR M (wordS Y n hN child k).2.2 (wordS Y n hN child k).1) := by
  refine Con.of (by decide +kernel) (Nat.le_of_ble_eq_true rfl) ?_
  intro f C hRm hRt _
  have h10 := hY.1.2.1
  have h5N := hY.1.2.2.2
  show Vc f G NPh (upA M 206 Y) 0 [(0, .ref (gb G + 205)), (1, .int child), (2, .int k)] []
  refine v_aload_n C 0 dX10_word_0 rfl ?_
  refine v_iload_n C 1 dX10_word_1 rfl ?_
  refine v_iconst C (nI 0) dX10_word_2 (by decide) ?_
  refine n_callVp C hRm [.int child, .int (nI 0)] cw_X10_is ml_X10_95 (by decide) sh_205 (by decide) rfl (r_is l G M Y child 0 (by decide)) (by decide) rfl rfl (Nat.le_of_ble_eq_true rfl) dX10_word_3 ?_
  refine nb_if_eq C 16 dX10_word_6 rfl (fun h_6 => ?_) (fun h_6 => ?_)
  · skip
    refine v_aload_n C 0 dX10_word_16 rfl ?_
    refine v_ldc C (-1000001) kc_X10_80 dX10_word_17 ?_
    refine n_callVi C hRm [.int (-1000001)] cw_X10_finding ml_X10_81 (by decide) sh_205 (by decide) rfl (r_finding l G (upA M 206 Y) 1 (by decide) (-1000001) (by decide)) (by decide) rfl rfl (Nat.le_of_ble_eq_true rfl) dX10_word_19 (fun M5 hP_19 => ?_)
    subst hP_19
    refine v_mem (upA (fndM M 1) 206 Y) (fnd_upA _ _ _) ?_
    have hS : wordS Y n hN child k = er 1 Y := by unfold wordS; (try rw [nI_clamp (by omega)]); (try rw [nI_clamp (by omega)]); (first | rw [if_pos h_6] | rw [if_neg h_6] | rw [if_pos (congrArg nI h_6)] | rw [if_neg (fun q9 => h_6 ((nI_eq (by omega) (by omega)).mp q9))] | rw [if_neg (Nat.not_le.mpr h_6)] | rw [if_neg (Nat.not_lt.mpr h_6)] | skip); (try (first | rw [if_pos (by omega)] | rw [if_neg (by omega)])); (try rw [e1]); all_goals rfl
    exact n_iret C hRt rfl dX10_word_22 (by rw [hS] <;> rfl) (by rw [hS]; exact ⟨_, rfl, (eqM.rf M).tr (eqM.fnd _ (show (1 : Nat) ≠ 0 by decide))⟩)
  · skip
    obtain ⟨c, hc, rfl⟩ := is_nat hY.1.1 hY.1.2.1 h_6
    refine v_iload_n C 2 dX10_word_9 rfl ?_
    refine n_callSp C hRm [.int k] cw_X10_isAhead st_X10_isAhead ml_X10_270 (r_isAhead l G (upA M 206 Y) k) (by decide) rfl rfl (Nat.le_of_ble_eq_true rfl) dX10_word_10 ?_
    refine nb_if_ne C 23 dX10_word_13 rfl (fun h_13 => ?_) (fun h_13 => ?_)
    · skip
      obtain ⟨j, hj, rfl⟩ := within_nat (by decide) h_13
      refine v_aload_n C 0 dX10_word_23 rfl ?_
      refine v_iload_n C 1 dX10_word_24 rfl ?_
      refine v_iconst C (nI 4) dX10_word_25 (by decide) ?_
      refine n_callVp C hRm [.int (nI c), .int (nI 4)] cw_X10_of ml_X10_86 (by decide) sh_205 (by decide) rfl (r_of l G M Y c 4 (by omega)) (by decide) rfl rfl (Nat.le_of_ble_eq_true rfl) dX10_word_26 ?_
      refine v_if_lt C 39 dX10_word_29 rfl (fun h_29 => ?_) (fun h_29 => ?_)
      · skip
        refine v_aload_n C 0 dX10_word_39 rfl ?_
        refine g_X10_9 C (by decide) sh_205 dX10_word_40 ?_
        refine v_aload_n C 0 dX10_word_43 rfl ?_
        refine g_X10_16 C (by decide) sh_205 dX10_word_44 ?_
        refine n_callSv C hRm [.ref (gb G + 206), .ref (gb G + 208)] cw_X10_copy st_X10_copy ml_X10_76 (r_copy_na l G (upA M 206 Y)) (by decide) rfl rfl (Nat.le_of_ble_eq_true rfl) dX10_word_47 (fun M5 hP => ?_)
        subst hP
        refine v_mem (upA (upA M 208 Y) 206 Y) (by rw [upA_eq, upA_swap _ _ _ (by decide)]) ?_
        refine v_iconst C (-1) dX10_word_50 (by decide) ?_
        refine v_istore_n C [(3, .int (-1)), (0, .ref (gb G + 205)), (1, .int (nI c)), (2, .int (nI j))] dX10_word_51 rfl (by decide) rfl ?_
        refine v_iconst C (nI 0) dX10_word_52 (by decide) ?_
        refine v_istore C [(4, .int (nI 0)), (3, .int (-1)), (0, .ref (gb G + 205)), (1, .int (nI c)), (2, .int (nI j))] dX10_word_53 (by decide) rfl ?_
        refine v_iconst C (nI 0) dX10_word_55 (by decide) ?_
        refine v_istore C [(5, .int (nI 0)), (4, .int (nI 0)), (3, .int (-1)), (0, .ref (gb G + 205)), (1, .int (nI c)), (2, .int (nI j))] dX10_word_56 (by decide) rfl ?_
        have LW : ∀ (kk : Nat) (o : Nat) (b : Nat) (le : Int32) (X : Mm), n - o = kk → o ≤ n → b = (wrdA Y n hN c j o).1 → le = (wrdA Y n hN c j o).2 → X 208 = Y → eqM 0 M X → Vc f G NPh (upA X 206 Y) 58 [(5, .int (nI o)), (3, .int (bv b)), (4, .int le), (0, .ref (gb G + 205)), (1, .int (nI c)), (2, .int (nI j))] [] := by
          intro kk
          induction kk using Nat.strongRecOn with
          | _ kk ihLW =>
            intro o b le X hkk ho hb hle hx8 hem
            have hb9 : b ≤ 10 := hb ▸ wrdA_le Y n hN c j o (by omega)
            refine v_iload C 0 dX10_word_58 rfl ?_
            refine v_aload_n C 3 dX10_word_60 rfl ?_
            refine g_X10_9 C (by decide) sh_205 dX10_word_61 ?_
            refine v_iconst C (nI 0) dX10_word_64 (by decide) ?_
            refine n_now_ld C (by decide) sh_206 (by omega) (by decide) dX10_word_65 ?_
            refine v_top (nI n) hY.1.1 ?_
            refine n_icmp_ge C (by omega) (by omega) 129 dX10_word_66 rfl (fun h_66 => ?_) (fun h_66 => ?_)
            · skip
              refine v_iload_n C 1 dX10_word_129 rfl ?_
              refine v_if_ge C 143 dX10_word_130 rfl (fun h_130 => ?_) (fun h_130 => ?_)
              · skip
                have hj10 := bv_ge b hb9 h_130
                rw [bv_lt hj10]
                refine v_iload_n C 1 dX10_word_143 rfl ?_
                have e1 : b = (wrdA Y n hN c j n).1 := by rw [hb, show o = n by omega]
                have hS : wordS Y n hN (nI c) (nI j) = (0, nI b, Y) := by unfold wordS; (try rw [nI_clamp (by omega)]); (try rw [nI_clamp (by omega)]); (first | rw [if_pos h_6] | rw [if_neg h_6] | rw [if_pos (congrArg nI h_6)] | rw [if_neg (fun q9 => h_6 ((nI_eq (by omega) (by omega)).mp q9))] | rw [if_neg (Nat.not_le.mpr h_6)] | rw [if_neg (Nat.not_lt.mpr h_6)] | skip); (first | rw [if_pos h_13] | rw [if_neg h_13] | rw [if_pos (congrArg nI h_13)] | rw [if_neg (fun q9 => h_13 ((nI_eq (by omega) (by omega)).mp q9))] | rw [if_neg (Nat.not_le.mpr h_13)] | rw [if_neg (Nat.not_lt.mpr h_13)] | skip); (first | rw [if_pos h_29] | rw [if_neg h_29] | rw [if_pos (congrArg nI h_29)] | rw [if_neg (fun q9 => h_29 ((nI_eq (by omega) (by omega)).mp q9))] | rw [if_neg (Nat.not_le.mpr h_29)] | rw [if_neg (Nat.not_lt.mpr h_29)] | skip); (first | rw [if_pos h_66] | rw [if_neg h_66] | rw [if_pos (congrArg nI h_66)] | rw [if_neg (fun q9 => h_66 ((nI_eq (by omega) (by omega)).mp q9))] | rw [if_neg (Nat.not_le.mpr h_66)] | rw [if_neg (Nat.not_lt.mpr h_66)] | skip); (first | rw [if_pos h_130] | rw [if_neg h_130] | rw [if_pos (congrArg nI h_130)] | rw [if_neg (fun q9 => h_130 ((nI_eq (by omega) (by omega)).mp q9))] | rw [if_neg (Nat.not_le.mpr h_130)] | rw [if_neg (Nat.not_lt.mpr h_130)] | skip); (try (first | rw [if_pos (by omega)] | rw [if_neg (by omega)])); (try rw [e1]); all_goals rfl
                exact n_iret C hRt rfl dX10_word_144 (by rw [hS] <;> rfl) (by rw [hS]; exact ⟨_, rfl, hem⟩)
              · skip
                have hj10 := bv_nge b hb9 h_130
                refine v_aload_n C 3 dX10_word_133 rfl ?_
                refine v_ldcw C (-1000002) kc_X10_276 dX10_word_134 ?_
                refine n_callVi C hRm [.int (-1000002)] cw_X10_finding ml_X10_81 (by decide) sh_205 (by decide) rfl (r_finding l G (upA X 206 Y) 2 (by decide) (-1000002) (by decide)) (by decide) rfl rfl (Nat.le_of_ble_eq_true rfl) dX10_word_137 (fun M5 hP_137 => ?_)
                subst hP_137
                refine v_mem (upA (fndM X 2) 206 Y) (fnd_upA _ _ _) ?_
                refine v_goto C 144 dX10_word_140 rfl ?_
                have e1 : b = (wrdA Y n hN c j n).1 := by rw [hb, show o = n by omega]
                have hS : wordS Y n hN (nI c) (nI j) = er 2 Y := by unfold wordS; (try rw [nI_clamp (by omega)]); (try rw [nI_clamp (by omega)]); (first | rw [if_pos h_6] | rw [if_neg h_6] | rw [if_pos (congrArg nI h_6)] | rw [if_neg (fun q9 => h_6 ((nI_eq (by omega) (by omega)).mp q9))] | rw [if_neg (Nat.not_le.mpr h_6)] | rw [if_neg (Nat.not_lt.mpr h_6)] | skip); (first | rw [if_pos h_13] | rw [if_neg h_13] | rw [if_pos (congrArg nI h_13)] | rw [if_neg (fun q9 => h_13 ((nI_eq (by omega) (by omega)).mp q9))] | rw [if_neg (Nat.not_le.mpr h_13)] | rw [if_neg (Nat.not_lt.mpr h_13)] | skip); (first | rw [if_pos h_29] | rw [if_neg h_29] | rw [if_pos (congrArg nI h_29)] | rw [if_neg (fun q9 => h_29 ((nI_eq (by omega) (by omega)).mp q9))] | rw [if_neg (Nat.not_le.mpr h_29)] | rw [if_neg (Nat.not_lt.mpr h_29)] | skip); (first | rw [if_pos h_66] | rw [if_neg h_66] | rw [if_pos (congrArg nI h_66)] | rw [if_neg (fun q9 => h_66 ((nI_eq (by omega) (by omega)).mp q9))] | rw [if_neg (Nat.not_le.mpr h_66)] | rw [if_neg (Nat.not_lt.mpr h_66)] | skip); (first | rw [if_pos h_130] | rw [if_neg h_130] | rw [if_pos (congrArg nI h_130)] | rw [if_neg (fun q9 => h_130 ((nI_eq (by omega) (by omega)).mp q9))] | rw [if_neg (Nat.not_le.mpr h_130)] | rw [if_neg (Nat.not_lt.mpr h_130)] | skip); (try (first | rw [if_pos (by omega)] | rw [if_neg (by omega)])); (try rw [e1]); all_goals rfl
                exact n_iret C hRt rfl dX10_word_144 (by rw [hS] <;> rfl) (by rw [hS]; exact ⟨_, rfl, (hem).tr (eqM.fnd _ (show (2 : Nat) ≠ 0 by decide))⟩)
            · skip
              refine v_aload_n C 3 dX10_word_69 rfl ?_
              refine v_iload C 0 dX10_word_70 rfl ?_
              refine v_iconst C (nI 4) dX10_word_72 (by decide) ?_
              refine n_callVp C hRm [.int (nI o), .int (nI 4)] cw_X10_of ml_X10_86 (by decide) sh_205 (by decide) rfl (r_of l G X Y o 4 (by omega)) (by decide) rfl rfl (Nat.le_of_ble_eq_true rfl) dX10_word_73 ?_
              refine v_istore C [(6, .int (Y (7 + 6 * o + 4))), (5, .int (nI o)), (3, .int (bv b)), (4, .int le), (0, .ref (gb G + 205)), (1, .int (nI c)), (2, .int (nI j))] dX10_word_76 (by decide) rfl ?_
              refine v_iload C 0 dX10_word_78 rfl ?_
              refine v_if_lt C 123 dX10_word_80 rfl (fun h_80 => ?_) (fun h_80 => ?_)
              · skip
                refine v_iinc C (nI (o + 1)) 1 [(5, .int (nI (o + 1))), (6, .int (Y (7 + 6 * o + 4))), (3, .int (bv b)), (4, .int le), (0, .ref (gb G + 205)), (1, .int (nI c)), (2, .int (nI j))] dX10_word_123 rfl (nI_add _ _) (by decide) rfl ?_
                refine v_goto C 58 dX10_word_126 rfl ?_
                refine v_sub [0, 2, 3, 4, 5, 6] [(5, .int (nI (o + 1))), (3, .int (bv b)), (4, .int le), (0, .ref (gb G + 205)), (1, .int (nI c)), (2, .int (nI j))] rfl ?_
                exact ihLW _ (by omega) (o + 1) b le X  rfl (by omega) (by (have hcl : wrdA Y n hN c j o = (b, le) := (by rw [hb, hle])); simp only [wrdA, hcl]; rw [if_neg (fun q => q.1 h_80)]) (by (have hcl : wrdA Y n hN c j o = (b, le) := (by rw [hb, hle])); simp only [wrdA, hcl]; rw [if_neg (fun q => q.1 h_80)]) (by exact hx8) (by exact hem)
              · skip
                refine v_aload_n C 4 dX10_word_83 rfl ?_
                refine v_iload_n C 5 dX10_word_84 rfl ?_
                refine v_iload C 0 dX10_word_85 rfl ?_
                refine n_callVv C hRm [.int (nI c), .int (Y (7 + 6 * o + 4))] cw_X10_goesTo ml_X10_123 (by decide) sh_205 (by decide) rfl (r_goesTo l G X Y n hN hY.1.1 hY.1.2.1 hY.1.2.2.1 hY.1.2.2.2 c (by omega) (Y (7 + 6 * o + 4))) (by decide) rfl rfl (Nat.le_of_ble_eq_true rfl) dX10_word_87 (fun M5 hP_87 => ?_)
                subst hP_87
                have hYG : YOk (goesS Y n hN c (Y (7 + 6 * o + 4))) n hN := yk_goes hY (by omega) (hY.2.2.1 o (by omega))
                refine v_aload_n C 4 dX10_word_90 rfl ?_
                refine v_iload_n C 6 dX10_word_91 rfl ?_
                refine n_callVv C hRm [.int (nI j)] cw_X10_minutesGo ml_X10_249 (by decide) sh_205 (by decide) rfl (r_minutesGo l G X (goesS Y n hN c (Y (7 + 6 * o + 4))) n hN hYG j (by omega)) (by decide) rfl rfl (Nat.le_of_ble_eq_true rfl) dX10_word_92 (fun M5 hP_92 => ?_)
                obtain ⟨X9, rfl, hX9⟩ := hP_92
                have hYP := yk_pass hYG j
                have h208 : X9 208 = Y := (hX9 208 (by decide) (by decide) (by decide)).trans hx8
                refine v_aload_n C 4 dX10_word_95 rfl ?_
                refine v_aload_n C 4 dX10_word_96 rfl ?_
                refine n_callVp C hRm [] cw_X10_sorrowNow ml_X10_252 (by decide) sh_205 (by decide) rfl (r_sorrowNow l G X9 (passS (goesS Y n hN c (Y (7 + 6 * o + 4))) n hN j) n hYP.1.1 hYP.1.2.1) (by decide) rfl rfl (Nat.le_of_ble_eq_true rfl) dX10_word_97 ?_
                refine n_callVi C hRm [.int (sorA (passS (goesS Y n hN c (Y (7 + 6 * o + 4))) n hN j) n)] cw_X10_putBack ml_X10_273 (by decide) sh_205 (by decide) rfl (r_putBack l G X9 (passS (goesS Y n hN c (Y (7 + 6 * o + 4))) n hN j) (sorA (passS (goesS Y n hN c (Y (7 + 6 * o + 4))) n hN j) n)) (by decide) rfl rfl (Nat.le_of_ble_eq_true rfl) dX10_word_100 (fun M5 hP_100 => ?_)
                subst hP_100
                refine v_mem (upA X9 206 Y) (congrArg (upA X9 206) (h208)) ?_
                refine v_istore C [(7, .int (sorA (passS (goesS Y n hN c (Y (7 + 6 * o + 4))) n hN j) n)), (6, .int (Y (7 + 6 * o + 4))), (5, .int (nI o)), (3, .int (bv b)), (4, .int le), (0, .ref (gb G + 205)), (1, .int (nI c)), (2, .int (nI j))] dX10_word_103 (by decide) rfl ?_
                refine v_iload_n C 3 dX10_word_105 rfl ?_
                refine v_if_lt C 116 dX10_word_106 rfl (fun h_106 => ?_) (fun h_106 => ?_)
                · skip
                  have hj10 := bv_neg b hb9 h_106
                  refine v_iload C 2 dX10_word_116 rfl ?_
                  refine v_istore_n C [(3, .int (nI o)), (7, .int (sorA (passS (goesS Y n hN c (Y (7 + 6 * o + 4))) n hN j) n)), (6, .int (Y (7 + 6 * o + 4))), (5, .int (nI o)), (4, .int le), (0, .ref (gb G + 205)), (1, .int (nI c)), (2, .int (nI j))] dX10_word_118 rfl (by decide) rfl ?_
                  refine v_iload C 1 dX10_word_119 rfl ?_
                  refine v_istore C [(4, .int (sorA (passS (goesS Y n hN c (Y (7 + 6 * o + 4))) n hN j) n)), (3, .int (nI o)), (7, .int (sorA (passS (goesS Y n hN c (Y (7 + 6 * o + 4))) n hN j) n)), (6, .int (Y (7 + 6 * o + 4))), (5, .int (nI o)), (0, .ref (gb G + 205)), (1, .int (nI c)), (2, .int (nI j))] dX10_word_121 (by decide) rfl ?_
                  refine v_iinc C (nI (o + 1)) 4 [(5, .int (nI (o + 1))), (4, .int (sorA (passS (goesS Y n hN c (Y (7 + 6 * o + 4))) n hN j) n)), (3, .int (nI o)), (7, .int (sorA (passS (goesS Y n hN c (Y (7 + 6 * o + 4))) n hN j) n)), (6, .int (Y (7 + 6 * o + 4))), (0, .ref (gb G + 205)), (1, .int (nI c)), (2, .int (nI j))] dX10_word_123 rfl (nI_add _ _) (by decide) rfl ?_
                  refine v_goto C 58 dX10_word_126 rfl ?_
                  refine v_sub [0, 2, 1, 5, 6, 7] [(5, .int (nI (o + 1))), (3, .int (nI o)), (4, .int (sorA (passS (goesS Y n hN c (Y (7 + 6 * o + 4))) n hN j) n)), (0, .ref (gb G + 205)), (1, .int (nI c)), (2, .int (nI j))] rfl ?_
                  rw [← bv_lt (show o < 10 by omega)]
                  exact ihLW _ (by omega) (o + 1) o (sorA (passS (goesS Y n hN c (Y (7 + 6 * o + 4))) n hN j) n) X9  rfl (by omega) (by (have hcl : wrdA Y n hN c j o = (b, le) := (by rw [hb, hle])); simp only [wrdA, hcl]; rw [if_pos (And.intro h_80 (by first | exact Or.inl hj10 | exact Or.inr (Int32.not_le.mp h_113)))]; all_goals rfl) (by (have hcl : wrdA Y n hN c j o = (b, le) := (by rw [hb, hle])); simp only [wrdA, hcl]; rw [if_pos (And.intro h_80 (by first | exact Or.inl hj10 | exact Or.inr (Int32.not_le.mp h_113)))]; all_goals rfl) (by exact h208) (by exact hem.tr (eqM.of23 hX9))
                · skip
                  have hj10 := bv_nn b hb9 h_106
                  refine v_iload C 0 dX10_word_109 rfl ?_
                  refine v_iload C 4 dX10_word_111 rfl ?_
                  refine v_icmp_ge C 123 dX10_word_113 rfl (fun h_113 => ?_) (fun h_113 => ?_)
                  · skip
                    refine v_iinc C (nI (o + 1)) 2 [(5, .int (nI (o + 1))), (7, .int (sorA (passS (goesS Y n hN c (Y (7 + 6 * o + 4))) n hN j) n)), (6, .int (Y (7 + 6 * o + 4))), (3, .int (bv b)), (4, .int le), (0, .ref (gb G + 205)), (1, .int (nI c)), (2, .int (nI j))] dX10_word_123 rfl (nI_add _ _) (by decide) rfl ?_
                    refine v_goto C 58 dX10_word_126 rfl ?_
                    refine v_sub [0, 3, 4, 5, 6, 7] [(5, .int (nI (o + 1))), (3, .int (bv b)), (4, .int le), (0, .ref (gb G + 205)), (1, .int (nI c)), (2, .int (nI j))] rfl ?_
                    exact ihLW _ (by omega) (o + 1) b le X9  rfl (by omega) (by (have hcl : wrdA Y n hN c j o = (b, le) := (by rw [hb, hle])); simp only [wrdA, hcl]; rw [if_neg (fun q => by rcases q.2 with q2 | q2; omega; exact Int32.not_lt.mpr h_113 q2)]) (by (have hcl : wrdA Y n hN c j o = (b, le) := (by rw [hb, hle])); simp only [wrdA, hcl]; rw [if_neg (fun q => by rcases q.2 with q2 | q2; omega; exact Int32.not_lt.mpr h_113 q2)]) (by exact h208) (by exact hem.tr (eqM.of23 hX9))
                  · skip
                    refine v_iload C 2 dX10_word_116 rfl ?_
                    refine v_istore_n C [(3, .int (nI o)), (7, .int (sorA (passS (goesS Y n hN c (Y (7 + 6 * o + 4))) n hN j) n)), (6, .int (Y (7 + 6 * o + 4))), (5, .int (nI o)), (4, .int le), (0, .ref (gb G + 205)), (1, .int (nI c)), (2, .int (nI j))] dX10_word_118 rfl (by decide) rfl ?_
                    refine v_iload C 1 dX10_word_119 rfl ?_
                    refine v_istore C [(4, .int (sorA (passS (goesS Y n hN c (Y (7 + 6 * o + 4))) n hN j) n)), (3, .int (nI o)), (7, .int (sorA (passS (goesS Y n hN c (Y (7 + 6 * o + 4))) n hN j) n)), (6, .int (Y (7 + 6 * o + 4))), (5, .int (nI o)), (0, .ref (gb G + 205)), (1, .int (nI c)), (2, .int (nI j))] dX10_word_121 (by decide) rfl ?_
                    refine v_iinc C (nI (o + 1)) 4 [(5, .int (nI (o + 1))), (4, .int (sorA (passS (goesS Y n hN c (Y (7 + 6 * o + 4))) n hN j) n)), (3, .int (nI o)), (7, .int (sorA (passS (goesS Y n hN c (Y (7 + 6 * o + 4))) n hN j) n)), (6, .int (Y (7 + 6 * o + 4))), (0, .ref (gb G + 205)), (1, .int (nI c)), (2, .int (nI j))] dX10_word_123 rfl (nI_add _ _) (by decide) rfl ?_
                    refine v_goto C 58 dX10_word_126 rfl ?_
                    refine v_sub [0, 2, 1, 5, 6, 7] [(5, .int (nI (o + 1))), (3, .int (nI o)), (4, .int (sorA (passS (goesS Y n hN c (Y (7 + 6 * o + 4))) n hN j) n)), (0, .ref (gb G + 205)), (1, .int (nI c)), (2, .int (nI j))] rfl ?_
                    rw [← bv_lt (show o < 10 by omega)]
                    exact ihLW _ (by omega) (o + 1) o (sorA (passS (goesS Y n hN c (Y (7 + 6 * o + 4))) n hN j) n) X9  rfl (by omega) (by (have hcl : wrdA Y n hN c j o = (b, le) := (by rw [hb, hle])); simp only [wrdA, hcl]; rw [if_pos (And.intro h_80 (by first | exact Or.inl hj10 | exact Or.inr (Int32.not_le.mp h_113)))]; all_goals rfl) (by (have hcl : wrdA Y n hN c j o = (b, le) := (by rw [hb, hle])); simp only [wrdA, hcl]; rw [if_pos (And.intro h_80 (by first | exact Or.inl hj10 | exact Or.inr (Int32.not_le.mp h_113)))]; all_goals rfl) (by exact h208) (by exact hem.tr (eqM.of23 hX9))
        refine v_sub [0, 2, 1, 3, 4, 5] [(5, .int (nI 0)), (3, .int (-1)), (4, .int (nI 0)), (0, .ref (gb G + 205)), (1, .int (nI c)), (2, .int (nI j))] rfl ?_
        exact LW _ 0 10 _ _ rfl (by omega) (by rfl) (by rfl) (by exact upA_eq M 208 Y) (by exact eqM.upA M Y (Or.inl rfl))
      · skip
        refine v_aload_n C 0 dX10_word_32 rfl ?_
        refine v_ldc C (-1000003) kc_X10_122 dX10_word_33 ?_
        refine n_callVi C hRm [.int (-1000003)] cw_X10_finding ml_X10_81 (by decide) sh_205 (by decide) rfl (r_finding l G (upA M 206 Y) 3 (by decide) (-1000003) (by decide)) (by decide) rfl rfl (Nat.le_of_ble_eq_true rfl) dX10_word_35 (fun M5 hP_35 => ?_)
        subst hP_35
        refine v_mem (upA (fndM M 3) 206 Y) (fnd_upA _ _ _) ?_
        have hS : wordS Y n hN (nI c) (nI j) = er 3 Y := by unfold wordS; (try rw [nI_clamp (by omega)]); (try rw [nI_clamp (by omega)]); (first | rw [if_pos h_6] | rw [if_neg h_6] | rw [if_pos (congrArg nI h_6)] | rw [if_neg (fun q9 => h_6 ((nI_eq (by omega) (by omega)).mp q9))] | rw [if_neg (Nat.not_le.mpr h_6)] | rw [if_neg (Nat.not_lt.mpr h_6)] | skip); (first | rw [if_pos h_13] | rw [if_neg h_13] | rw [if_pos (congrArg nI h_13)] | rw [if_neg (fun q9 => h_13 ((nI_eq (by omega) (by omega)).mp q9))] | rw [if_neg (Nat.not_le.mpr h_13)] | rw [if_neg (Nat.not_lt.mpr h_13)] | skip); (first | rw [if_pos h_29] | rw [if_neg h_29] | rw [if_pos (congrArg nI h_29)] | rw [if_neg (fun q9 => h_29 ((nI_eq (by omega) (by omega)).mp q9))] | rw [if_neg (Nat.not_le.mpr h_29)] | rw [if_neg (Nat.not_lt.mpr h_29)] | skip); (try (first | rw [if_pos (by omega)] | rw [if_neg (by omega)])); (try rw [e1]); all_goals rfl
        exact n_iret C hRt rfl dX10_word_38 (by rw [hS] <;> rfl) (by rw [hS]; exact ⟨_, rfl, (eqM.rf M).tr (eqM.fnd _ (show (3 : Nat) ≠ 0 by decide))⟩)
    · skip
      refine v_aload_n C 0 dX10_word_16 rfl ?_
      refine v_ldc C (-1000001) kc_X10_80 dX10_word_17 ?_
      refine n_callVi C hRm [.int (-1000001)] cw_X10_finding ml_X10_81 (by decide) sh_205 (by decide) rfl (r_finding l G (upA M 206 Y) 1 (by decide) (-1000001) (by decide)) (by decide) rfl rfl (Nat.le_of_ble_eq_true rfl) dX10_word_19 (fun M5 hP_19 => ?_)
      subst hP_19
      refine v_mem (upA (fndM M 1) 206 Y) (fnd_upA _ _ _) ?_
      have hS : wordS Y n hN (nI c) k = er 1 Y := by unfold wordS; (try rw [nI_clamp (by omega)]); (try rw [nI_clamp (by omega)]); (first | rw [if_pos h_6] | rw [if_neg h_6] | rw [if_pos (congrArg nI h_6)] | rw [if_neg (fun q9 => h_6 ((nI_eq (by omega) (by omega)).mp q9))] | rw [if_neg (Nat.not_le.mpr h_6)] | rw [if_neg (Nat.not_lt.mpr h_6)] | skip); (first | rw [if_pos h_13] | rw [if_neg h_13] | rw [if_pos (congrArg nI h_13)] | rw [if_neg (fun q9 => h_13 ((nI_eq (by omega) (by omega)).mp q9))] | rw [if_neg (Nat.not_le.mpr h_13)] | rw [if_neg (Nat.not_lt.mpr h_13)] | skip); (try (first | rw [if_pos (by omega)] | rw [if_neg (by omega)])); (try rw [e1]); all_goals rfl
      exact n_iret C hRt rfl dX10_word_22 (by rw [hS] <;> rfl) (by rw [hS]; exact ⟨_, rfl, (eqM.rf M).tr (eqM.fnd _ (show (1 : Nat) ≠ 0 by decide))⟩)
