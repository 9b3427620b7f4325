theorem gB_hi (Z : Nat → Int32) (c : Nat) (hc : c < 10) {i : Nat} (h : 237 ≤ i) : ∀ k, k ≤ 5 → gB Z c k i = Z i
  | 0, _ => rfl
  | k + 1, hk => by unfold gB; rw [upd_ne _ _ (by omega)]; exact gB_hi Z c hc h k (by omega)
theorem gC_hi (n : Nat) (Z : Nat → Int32) {i : Nat} (h : 187 ≤ i) : ∀ k, k ≤ 5 → gC n Z k i = Z i
  | 0, _ => rfl
  | k + 1, hk => by unfold gC; rw [upd_ne _ _ (by omega)]; exact gC_hi n Z h k (by omega)
theorem goes_lo (Y : Nat → Int32) (n hN c : Nat) (h : Int32) {i : Nat} (hi : i < 167) : goesS Y n hN c h i = upd Y (7 + 6 * c + 4) h i := by
  unfold goesS gA
  rw [gC_lo _ _ hi, gB_lo _ _ (by omega)]
theorem goes_hi (Y : Nat → Int32) (n hN c : Nat) (h : Int32) (hN5 : hN ≤ 5) (hc : c < 10) {i : Nat} (hi : 237 ≤ i) : goesS Y n hN c h i = Y i := by
  unfold goesS gA
  rw [gC_hi _ _ (by omega) _ hN5, gB_hi _ _ hc hi _ (Nat.le_refl _), upd_ne _ _ (by omega)]
theorem yk_goes {Y : Nat → Int32} {n hN : Nat} (hY : YOk Y n hN) {c : Nat} (hc : c < n) {h : Int32} (hh : h = -1 ∨ ∃ k, k < hN ∧ h = nI k) : YOk (goesS Y n hN c h) n hN := by
  have h10 := hY.1.2.1
  have h5 := hY.1.2.2.2
  refine hY.to (fun i hi => ?_) (fun a ha => ?_) (fun a ha => ?_)
  · by_cases h9 : i < 167
    · rw [goes_lo _ _ _ _ _ h9, upd_ne _ _ (by omega)]
    · exact goes_hi _ _ _ _ _ h5 (by omega) (by omega)
  · rw [goes_lo _ _ _ _ _ (by omega), upd_ne _ _ (by omega)]
  · rw [goes_lo _ _ _ _ _ (by omega)]
    by_cases h9 : a = c
    · subst h9; rw [upd_eq]; exact hh
    · rw [upd_ne _ _ (by omega)]; exact hY.2.2.1 a ha
theorem yk_upd {Y : Nat → Int32} {n hN : Nat} (hY : YOk Y n hN) {i : Nat} (v : Int32) (hi : i ≠ 0 ∧ i ≠ 1 ∧ i ≠ 4 ∧ i ≠ 5 ∧ i < 321) (hk : ∀ c, c < n → i ≠ 7 + 6 * c + 0) (ha : ∀ c, c < n → i ≠ 7 + 6 * c + 4) : YOk (upd Y i v) n hN := by
  refine hY.to (fun j hj => upd_ne _ _ (by omega)) (fun c hc => upd_ne _ _ (fun q => hk c hc q.symm)) (fun c hc => ?_)
  rw [upd_ne _ _ (fun q => ha c hc q.symm)]
  exact hY.2.2.1 c hc
def zN (Y : Nat → Int32) : Int32 := Y 6 * (1103515245) + nI 12345
def ush8 (z : Int32) : Int32 := (Int32.toUInt32 z >>> (Int32.toUInt32 (nI 8) &&& Int32.toUInt32 31)).toInt32
def remS (x y : Int32) : Int32 := x - x / y * y
/-- what isLetIn answers, and the row behind it -/
noncomputable def letB (Y : Nat → Int32) (n hN c : Nat) (b : Int32) : Bool × (Nat → Int32) :=
  if 0 ≤ b then
    (if remS (ush8 (zN (upd Y (187 + 5 * c + b.toNatClampNeg) (minS (nI 99) (Y (187 + 5 * c + b.toNatClampNeg) + nI 1))))) (nI 100) < chS (upd (upd Y (187 + 5 * c + b.toNatClampNeg) (minS (nI 99) (Y (187 + 5 * c + b.toNatClampNeg) + nI 1))) 6 (zN (upd Y (187 + 5 * c + b.toNatClampNeg) (minS (nI 99) (Y (187 + 5 * c + b.toNatClampNeg) + nI 1))))) n b.toNatClampNeg c
     then (true, goesS (upd (upd Y (187 + 5 * c + b.toNatClampNeg) (minS (nI 99) (Y (187 + 5 * c + b.toNatClampNeg) + nI 1))) 6 (zN (upd Y (187 + 5 * c + b.toNatClampNeg) (minS (nI 99) (Y (187 + 5 * c + b.toNatClampNeg) + nI 1))))) n hN c (nI b.toNatClampNeg))
     else (false, upd (upd Y (187 + 5 * c + b.toNatClampNeg) (minS (nI 99) (Y (187 + 5 * c + b.toNatClampNeg) + nI 1))) 6 (zN (upd Y (187 + 5 * c + b.toNatClampNeg) (minS (nI 99) (Y (187 + 5 * c + b.toNatClampNeg) + nI 1))))))
  else (false, Y)
noncomputable def letR (Y : Nat → Int32) (n hN c : Nat) : Bool × (Nat → Int32) := letB Y n hN c (bstA Y n c hN).1
theorem yk_let {Y : Nat → Int32} {n hN : Nat} (hY : YOk Y n hN) {c : Nat} (hc : c < n) : YOk (letR Y n hN c).2 n hN := by
  have h10 := hY.1.2.1
  have h5 := hY.1.2.2.2
  unfold letR
  rcases bst_cases Y n c hN with h | ⟨h, h1, h2⟩
  · rw [h]; unfold letB; rw [if_neg (by decide)]; exact hY
  · rw [h2]; unfold letB; rw [if_pos (nI_pos' (by omega)), nI_clamp (by omega)]
    have hA := (yk_upd hY (i := 187 + 5 * c + h) (minS (nI 99) (Y (187 + 5 * c + h) + nI 1)) (by omega) (by omega) (by omega))
    have hB := yk_upd hA (i := 6) (zN (upd Y (187 + 5 * c + h) (minS (nI 99) (Y (187 + 5 * c + h) + nI 1)))) (by omega) (by omega) (by omega)
    split
    · exact yk_goes hB hc (Or.inr ⟨h, h1, rfl⟩)
    · exact hB
noncomputable def minC (Y : Nat → Int32) (n hN : Nat) : Nat → Nat → Int32
  | 0 => Y
  | c + 1 => if 0 ≤ minC Y n hN c (7 + 6 * c + 4) then minC Y n hN c else if (letR (minC Y n hN c) n hN c).1 = true then (letR (minC Y n hN c) n hN c).2 else upd (letR (minC Y n hN c) n hN c).2 (7 + 6 * c + 5) (minS (99999) ((letR (minC Y n hN c) n hN c).2 (7 + 6 * c + 5) + nI 1))
theorem yk_minC {Y : Nat → Int32} {n hN : Nat} (hY : YOk Y n hN) : ∀ c, c ≤ n → YOk (minC Y n hN c) n hN
  | 0, _ => hY
  | c + 1, hc => by
    have h10 := hY.1.2.1
    have h := yk_minC hY c (by omega)
    have h2 := yk_let h (c := c) (by omega)
    unfold minC
    split
    · exact h
    · split
      · exact h2
      · exact yk_upd h2 _ (by omega) (by omega) (by omega)
noncomputable def falC (Z : Nat → Int32) (n hN m : Nat) : Nat → Nat → Int32
  | 0 => Z
  | c + 1 => if m.testBit c = true then goesS (falC Z n hN m c) n hN c (-1) else falC Z n hN m c
theorem yk_falC {Y : Nat → Int32} {n hN : Nat} (hY : YOk Y n hN) (m : Nat) : ∀ c, c ≤ n → YOk (falC Y n hN m c) n hN
  | 0, _ => hY
  | c + 1, hc => by
    have h := yk_falC hY m c (by omega)
    unfold falC
    split
    · exact yk_goes h (by omega) (Or.inl rfl)
    · exact h
noncomputable def fallS (Z : Nat → Int32) (n hN h : Nat) : Nat → Int32 := upd (falC Z n hN (mskA Z (nI h) n) n) (167 + 4 * h + 3) (nI 0)
noncomputable def fewN (Z : Nat → Int32) (n h : Nat) : Nat → Int32 := upd Z (167 + 4 * h + 3) (fewV Z n h (Z (167 + 4 * h + 3) + nI 1))
noncomputable def minH (Z : Nat → Int32) (n hN : Nat) : Nat → Nat → Int32
  | 0 => Z
  | h + 1 => if fewN (minH Z n hN h) n h (167 + 4 * h + 3) = nI 5 then fallS (fewN (minH Z n hN h) n h) n hN h else fewN (minH Z n hN h) n h
theorem yk_minH {Y : Nat → Int32} {n hN : Nat} (hY : YOk Y n hN) : ∀ h, h ≤ hN → YOk (minH Y n hN h) n hN
  | 0, _ => hY
  | h + 1, hh => by
    have h10 := hY.1.2.1
    have h5 := hY.1.2.2.2
    have h1 := yk_minH hY h (by omega)
    have h2 : YOk (fewN (minH Y n hN h) n h) n hN := yk_upd h1 _ (by omega) (by omega) (by omega)
    unfold minH
    split
    · exact yk_upd (yk_falC h2 _ n (Nat.le_refl _)) _ (by omega) (by omega) (by omega)
    · exact h2
noncomputable def minuteS (Y : Nat → Int32) (n hN : Nat) : Nat → Int32 := upd (minH (minC Y n hN n) n hN hN) 2 (minH (minC Y n hN n) n hN hN 2 + nI 1)
theorem yk_minute {Y : Nat → Int32} {n hN : Nat} (hY : YOk Y n hN) : YOk (minuteS Y n hN) n hN := by
  have h10 := hY.1.2.1
  exact yk_upd (yk_minH (yk_minC hY n (Nat.le_refl _)) hN (Nat.le_refl _)) _ (by omega) (by omega) (by omega)
noncomputable def passS (Y : Nat → Int32) (n hN : Nat) : Nat → Nat → Int32
  | 0 => Y
  | k + 1 => minuteS (passS Y n hN k) n hN
theorem yk_pass {Y : Nat → Int32} {n hN : Nat} (hY : YOk Y n hN) : ∀ k, YOk (passS Y n hN k) n hN
  | 0 => hY
  | k + 1 => yk_minute (yk_pass hY k)
def sorA (Y : Nat → Int32) : Nat → Int32
  | 0 => nI 0
  | c + 1 => sorA Y c + (if Y (7 + 6 * c + 3) = nI 1 then Y (7 + 6 * c + 5) else nI 0)

set_option maxHeartbeats 4000000 in
set_option maxRecDepth 100000 in
theorem r_drawn (l : Launch) (G : GC) (M : Mm) (Y : Nat → Int32) (k : Nat) (hk : ¬ nI k = 0) : CI l G 1 yX10_drawn cX10_drawn 2 .int [.ref (gb G + 205), .int (nI k)] (upA M 206 Y) (remS (ush8 (zN Y)) (nI k)) (fun M' => M' = upA M 206 (upd Y 6 (zN Y))) := by
  refine Con.of (by decide +kernel) (Nat.le_of_ble_eq_true rfl) ?_
  intro f C hRm hRt _
  show Vc f G NPh (upA M 206 Y) 0 [(0, .ref (gb G + 205)), (1, .int (nI k))] []
  refine v_aload_n C 0 dX10_drawn_0 rfl ?_
  refine g_X10_9 C (by decide) sh_205 dX10_drawn_1 ?_
  refine v_bipush C (nI 6) dX10_drawn_4 (by decide) ?_
  refine v_aload_n C 0 dX10_drawn_6 rfl ?_
  refine g_X10_9 C (by decide) sh_205 dX10_drawn_7 ?_
  refine v_bipush C (nI 6) dX10_drawn_10 (by decide) ?_
  refine n_now_ld C (by decide) sh_206 (by omega) (by decide) dX10_drawn_12 ?_
  refine v_ldc C (1103515245) kc_X10_232 dX10_drawn_13 ?_
  refine v_imul C dX10_drawn_15 ?_
  refine v_sipush C (nI 12345) dX10_drawn_16 (by decide) ?_
  refine v_iadd C dX10_drawn_19 ?_
  refine n_now_st C (by decide) sh_206 (by omega) (by decide) dX10_drawn_20 ?_
  refine v_aload_n C 0 dX10_drawn_21 rfl ?_
  refine g_X10_9 C (by decide) sh_205 dX10_drawn_22 ?_
  refine v_bipush C (nI 6) dX10_drawn_25 (by decide) ?_
  refine n_now_ld C (by decide) sh_206 (by omega) (by decide) dX10_drawn_27 ?_
  refine v_bipush C (nI 8) dX10_drawn_28 (by decide) ?_
  refine v_iushr C dX10_drawn_30 ?_
  refine v_iload_n C 1 dX10_drawn_31 rfl ?_
  refine v_irem C dX10_drawn_32 hk ?_
  exact n_iret C hRt rfl dX10_drawn_33 (by rw [upd_eq]; rfl) rfl
set_option maxHeartbeats 4000000 in
set_option maxRecDepth 100000 in
theorem r_isLetIn (l : Launch) (G : GC) (M : Mm) (Y : Nat → Int32) (n hN : Nat) (hY : YOk Y n hN) (c : Nat) (hc : c < n) : CI l G 7 yX10_isLetIn cX10_isLetIn 4 .boolean [.ref (gb G + 205), .int (nI c)] (upA M 206 Y) (b2i ((letR Y n hN c).1 = true)) (fun M' => ∃ X, M' = upA X 206 (letR Y n hN c).2 ∧ ex23 M X) := by
  refine Con.of (by decide +kernel) (Nat.le_of_ble_eq_true rfl) ?_
  intro f C hRm hRt _
  show Vc f G NPh (upA M 206 Y) 0 [(0, .ref (gb G + 205)), (1, .int (nI c))] []
  have h10 := hY.1.2.1
  have h5N := hY.1.2.2.2
  refine v_aload_n C 0 dX10_isLetIn_0 rfl ?_
  refine v_iload_n C 1 dX10_isLetIn_1 rfl ?_
  refine n_callVi C hRm [.int (nI c)] cw_X10_bestHeap ml_X10_233 (by decide) sh_205 (by decide) rfl (r_bestHeap l G M Y n hN hY c hc) (by decide) rfl rfl (Nat.le_of_ble_eq_true rfl) dX10_isLetIn_2 (fun M7 hP_2 => ?_)
  obtain ⟨X9, rfl, hX9⟩ := hP_2
  refine v_istore_n C [(2, .int ((bstA Y n c hN).1)), (0, .ref (gb G + 205)), (1, .int (nI c))] dX10_isLetIn_5 rfl (by decide) rfl ?_
  refine v_iload_n C 0 dX10_isLetIn_6 rfl ?_
  refine v_if_ge C 12 dX10_isLetIn_7 rfl (fun h_7 => ?_) (fun h_7 => ?_)
  · skip
    obtain ⟨h, hh, hb⟩ := (bst_cases Y n c hN).resolve_left (fun q => absurd h_7 (by rw [q]; decide))
    rw [hb]
    refine v_sipush C (nI 187) dX10_isLetIn_12 (by decide) ?_
    refine v_iconst C (nI 5) dX10_isLetIn_15 (by decide) ?_
    refine v_iload_n C 2 dX10_isLetIn_16 rfl ?_
    refine n_imul C dX10_isLetIn_17 ?_
    refine n_iadd C dX10_isLetIn_18 ?_
    refine v_iload_n C 0 dX10_isLetIn_19 rfl ?_
    refine n_iadd C dX10_isLetIn_20 ?_
    refine v_istore_n C [(3, .int (nI ((187 + (5 * c)) + h))), (2, .int (nI h)), (0, .ref (gb G + 205)), (1, .int (nI c))] dX10_isLetIn_21 rfl (by decide) rfl ?_
    refine v_aload_n C 2 dX10_isLetIn_22 rfl ?_
    refine g_X10_9 C (by decide) sh_205 dX10_isLetIn_23 ?_
    refine v_iload_n C 0 dX10_isLetIn_26 rfl ?_
    refine v_bipush C (nI 99) dX10_isLetIn_27 (by decide) ?_
    refine v_aload_n C 2 dX10_isLetIn_29 rfl ?_
    refine g_X10_9 C (by decide) sh_205 dX10_isLetIn_30 ?_
    refine v_iload_n C 0 dX10_isLetIn_33 rfl ?_
    refine n_now_ld C (by decide) sh_206 (by omega) (by decide) dX10_isLetIn_34 ?_
    refine v_iconst C (nI 1) dX10_isLetIn_35 (by decide) ?_
    refine v_iadd C dX10_isLetIn_36 ?_
    refine v_mmin C hRm (by decide) ml_X10_63 (Nat.le_of_ble_eq_true rfl) dX10_isLetIn_37 ?_
    refine v_top (minS (nI 99) ((Y ((187 + (5 * c)) + h)) + (nI 1))) rfl ?_
    refine n_now_st C (by decide) sh_206 (by omega) (by decide) dX10_isLetIn_40 ?_
    have hY1 : YOk (upd Y ((187 + (5 * c)) + h) (minS (nI 99) ((Y ((187 + (5 * c)) + h)) + (nI 1)))) n hN := yk_upd hY _ (by omega) (by omega) (by omega)
    have hY2 : YOk (upd (upd Y ((187 + (5 * c)) + h) (minS (nI 99) ((Y ((187 + (5 * c)) + h)) + (nI 1)))) 6 (zN (upd Y ((187 + (5 * c)) + h) (minS (nI 99) ((Y ((187 + (5 * c)) + h)) + (nI 1)))))) n hN := yk_upd hY1 _ (by omega) (by omega) (by omega)
    refine v_aload_n C 2 dX10_isLetIn_41 rfl ?_
    refine v_bipush C (nI 100) dX10_isLetIn_42 (by decide) ?_
    refine n_callVi C hRm [.int (nI 100)] cw_X10_drawn ml_X10_236 (by decide) sh_205 (by decide) rfl (r_drawn l G X9 (upd Y ((187 + (5 * c)) + h) (minS (nI 99) ((Y ((187 + (5 * c)) + h)) + (nI 1)))) 100 (by decide)) (by decide) rfl rfl (Nat.le_of_ble_eq_true rfl) dX10_isLetIn_44 (fun M8 hP_44 => ?_)
    subst hP_44
    refine v_aload_n C 2 dX10_isLetIn_47 rfl ?_
    refine v_iload_n C 3 dX10_isLetIn_48 rfl ?_
    refine v_iload_n C 1 dX10_isLetIn_49 rfl ?_
    refine n_callVi C hRm [.int (nI c), .int (nI h)] cw_X10_chance ml_X10_165 (by decide) sh_205 (by decide) rfl (r_chance l G X9 (upd (upd Y ((187 + (5 * c)) + h) (minS (nI 99) ((Y ((187 + (5 * c)) + h)) + (nI 1)))) 6 (zN (upd Y ((187 + (5 * c)) + h) (minS (nI 99) ((Y ((187 + (5 * c)) + h)) + (nI 1)))))) n hN hY2 c h hc hh) (by decide) rfl rfl (Nat.le_of_ble_eq_true rfl) dX10_isLetIn_50 (fun M6 hP_50 => ?_)
    obtain ⟨X8, rfl, hX8⟩ := hP_50
    refine v_icmp_lt C 58 dX10_isLetIn_53 rfl (fun h_53 => ?_) (fun h_53 => ?_)
    · skip
      refine v_aload_n C 2 dX10_isLetIn_58 rfl ?_
      refine v_iload_n C 3 dX10_isLetIn_59 rfl ?_
      refine v_iload_n C 1 dX10_isLetIn_60 rfl ?_
      refine n_callVv C hRm [.int (nI c), .int (nI h)] cw_X10_goesTo ml_X10_123 (by decide) sh_205 (by decide) rfl (r_goesTo l G X8 (upd (upd Y ((187 + (5 * c)) + h) (minS (nI 99) ((Y ((187 + (5 * c)) + h)) + (nI 1)))) 6 (zN (upd Y ((187 + (5 * c)) + h) (minS (nI 99) ((Y ((187 + (5 * c)) + h)) + (nI 1)))))) n hN hY2.1.1 hY2.1.2.1 hY2.1.2.2.1 hY2.1.2.2.2 c (by omega) (nI h)) (by decide) rfl rfl (Nat.le_of_ble_eq_true rfl) dX10_isLetIn_61 (fun M5 hP_61 => ?_)
      subst hP_61
      refine v_iconst C (nI 1) dX10_isLetIn_64 (by decide) ?_
      have hz : letR Y n hN c = (true, goesS (upd (upd Y ((187 + (5 * c)) + h) (minS (nI 99) ((Y ((187 + (5 * c)) + h)) + (nI 1)))) 6 (zN (upd Y ((187 + (5 * c)) + h) (minS (nI 99) ((Y ((187 + (5 * c)) + h)) + (nI 1)))))) n hN c (nI h)) := by unfold letR letB; rw [hb, if_pos (nI_pos' (by omega)), nI_clamp (by omega), if_pos h_53]
      exact n_iret C hRt rfl dX10_isLetIn_65 (by rw [hz]; rfl) ⟨X8, by rw [hz], hX9.tr hX8⟩
    · skip
      refine v_iconst C (nI 0) dX10_isLetIn_56 (by decide) ?_
      have hz : letR Y n hN c = (false, upd (upd Y ((187 + (5 * c)) + h) (minS (nI 99) ((Y ((187 + (5 * c)) + h)) + (nI 1)))) 6 (zN (upd Y ((187 + (5 * c)) + h) (minS (nI 99) ((Y ((187 + (5 * c)) + h)) + (nI 1)))))) := by unfold letR letB; rw [hb, if_pos (nI_pos' (by omega)), nI_clamp (by omega), if_neg h_53]
      exact n_iret C hRt rfl dX10_isLetIn_57 (by rw [hz]; rfl) ⟨X8, by rw [hz], hX9.tr hX8⟩
  · skip
    refine v_iconst C (nI 0) dX10_isLetIn_10 (by decide) ?_
    have hz : letR Y n hN c = (false, Y) := by unfold letR letB; rw [if_neg h_7]
    exact n_iret C hRt rfl dX10_isLetIn_11 (by rw [hz]; rfl) ⟨X9, by rw [hz], hX9⟩
