theorem y_size (l : Launch) (G : GC) (M : Mm) (y : Nat) (hy : yd y) (Y : Nat → Int32) (n hN : Nat) (hR : YR M y Y n hN) (hn2 : n ≤ 10) (h : Nat) (hh : h < 5) : CP l G 2 yX2_size cX2_size 1 .int [.ref (gb G + (y + 50 + h))] M (nI (popA Y n (nI h))) := h_size l G M (y + 50 + h) (by have := yd_lt hy (k := 60) (by decide); omega) (s_hp hy hh) _ (msk_1024 _ _ hn2) (hR.ins hh)
theorem y_few (l : Launch) (G : GC) (M : Mm) (y : Nat) (hy : yd y) (Y : Nat → Int32) (n hN : Nat) (hR : YR M y Y n hN) (hn2 : n ≤ 10) (h : Nat) (hh : h < 5) : CP l G 3 yX2_hasTooFew cX2_hasTooFew 1 .boolean [.ref (gb G + (y + 50 + h))] M (b2i (mskA Y (nI h) n ≠ 0 ∧ nI (popA Y n (nI h)) < Y (167 + 4 * h + 0))) := by
  have h1 := h_few l G M (y + 50 + h) (by have := yd_lt hy (k := 60) (by decide); omega) (s_hp hy hh) _ (msk_1024 _ _ hn2) (hR.ins hh)
  unfold tooFew at h1
  rw [(hR.hp hh).1] at h1
  exact h1
theorem y_lacks (l : Launch) (G : GC) (M : Mm) (y : Nat) (hy : yd y) (Y : Nat → Int32) (n hN : Nat) (hR : YR M y Y n hN) (hn2 : n ≤ 10) (h : Nat) (hh : h < 5) : CP l G 2 yX2_lacksOne cX2_lacksOne 2 .boolean [.ref (gb G + (y + 50 + h))] M (b2i (nI (popA Y n (nI h) + 1) = Y (167 + 4 * h + 0) ∨ nI (popA Y n (nI h) + 1) = Y (167 + 4 * h + 1))) := by
  have h1 := h_lacksOne l G M (y + 50 + h) (by have := yd_lt hy (k := 60) (by decide); omega) (s_hp hy hh) _ (msk_1024 _ _ hn2) (hR.ins hh)
  rw [(hR.hp hh).1, (hR.hp hh).2.1] at h1
  exact h1
theorem y_there (l : Launch) (G : GC) (M : Mm) (y : Nat) (hy : yd y) (Y : Nat → Int32) (n hN : Nat) (hR : YR M y Y n hN) (u : Nat) (hu : u < 2) : CP l G 1 yX7_isThere cX7_isThere 1 .boolean [.ref (gb G + (y + 55 + 3 * u))] M (b2i (¬ Y (321 + 62 * u) ≤ 0)) := by
  have h1 := t_isThere l G M (y + 55 + 3 * u) (by have := yd_lt hy (k := 60) (by decide); omega) (s_tx hy hu)
  rw [(hR.tx u hu).1] at h1
  exact h1
theorem okT.pos {Y : Nat → Int32} {u len : Nat} (h : okT Y (321 + 62 * u + 1) len) (h1 : ¬ Y (321 + 62 * u) ≤ 0) : 0 < len := by
  rcases Nat.eq_zero_or_pos len with h0 | h0
  · subst h0; exact absurd (by rw [show Y (321 + 62 * u) = nI 0 from h.2.1]; decide) h1
  · exact h0
theorem y_worth (l : Launch) (G : GC) (M : Mm) (y : Nat) (hy : yd y) (Y : Nat → Int32) (n hN : Nat) (hR : YR M y Y n hN) (hY : YOk Y n hN) (u : Nat) (hu : u < 2) (hl : ¬ Y (321 + 62 * u) ≤ 0) (nm : Nat → Int32) (hnm : ∀ j, j < 5 → M (y + 8) j = nm j) : CI l G 2 yX7_worth cX7_worth 5 .int [.ref (gb G + (y + 55 + 3 * u)), .ref (gb G + (y + 8))] M (valT Y u nm) (YP M y Y n hN) := by
  have hyl : y + 60 < 221 := yd_lt hy (by decide)
  obtain ⟨len, hok⟩ := hY.2.2.2.1 u hu
  have h2 : cN Y (321 + 62 * u) = len := cN_of hok.2.1 (by have := hok.1; omega)
  refine Con.mono (t_worth l G M (y + 55 + 3 * u) (by omega) (s_tx hy hu) (s_ts hy hu) (s_tl hy hu) (y + 8) (by omega) (s_y8 hy) (by omega) Y (321 + 62 * u + 1) len hok (hok.pos hl) nm ((hR.tx u hu).1.trans hok.2.1) (fun i hi => (hR.tx u hu).2 i (by rw [h2]; exact hi)) hnm) ?_
  intro v M' hv
  obtain ⟨rfl, g, rfl⟩ := hv
  refine ⟨by unfold valT; rw [h2], hR.scr (k := y + 55 + 3 * u + 2) (fun _ hz => upA_ne _ _ hz) (by omega), Fr.upA _ (by omega)⟩
theorem abs_sym (a b : Int32) : absS (a - b) = absS (b - a) := by
  have h0 : b - a = -(a - b) := (Int32.neg_sub).symm
  rw [h0]
  generalize a - b = x
  unfold absS
  have hx := Int32.toInt_lt x
  have hx2 := Int32.le_toInt x
  have e1 : (0 - x) = -x := Int32.zero_sub x
  have e2 : (0 - -x) = x := by rw [Int32.zero_sub, Int32.neg_neg]
  rw [e1, e2]
  by_cases h1 : (0 : Int32) ≤ x
  · rw [if_pos h1]
    by_cases h2 : (0 : Int32) ≤ -x
    · rw [if_pos h2]
      rw [Int32.le_iff_toInt_le] at h1 h2
      rw [Int32.toInt_neg] at h2
      apply Int32.toInt_inj.mp
      rw [Int32.toInt_neg]
      have hz : (0 : Int32).toInt = 0 := rfl
      rw [hz] at h1 h2
      simp only [Int.bmod] at h2 ⊢
      omega
    · rw [if_neg h2]
  · rw [if_neg h1]
    by_cases h2 : (0 : Int32) ≤ -x
    · rw [if_pos h2]
    · rw [if_neg h2]
      rw [Int32.le_iff_toInt_le] at h1 h2
      rw [Int32.toInt_neg] at h2
      have hz : (0 : Int32).toInt = 0 := rfl
      rw [hz] at h1 h2
      apply Int32.toInt_inj.mp
      rw [Int32.toInt_neg]
      simp only [Int.bmod] at h2 ⊢
      omega
theorem tz_spec : ∀ m, m < 1024 → m ≠ 0 → Nat.testBit m (tzN m) = true ∧ ∀ j, j < 10 → j < tzN m → Nat.testBit m j = false := by decide +kernel
theorem age_tz (Y : Nat → Int32) (h c n q : Nat) (hq : q < n) (hq1 : Y (7 + 6 * q + 4) = nI h) (hq2 : ∀ o, o < q → ¬ Y (7 + 6 * o + 4) = nI h) : ∀ k o, o + k = n → o ≤ q → ageG Y h c k o = absS (Y (7 + 6 * q + 2) - Y (7 + 6 * c + 2))
  | 0, o, h1, h2 => absurd hq (by omega)
  | k + 1, o, h1, h2 => by
    unfold ageG
    by_cases h3 : o = q
    · subst h3; rw [if_pos hq1]
    · rw [if_neg (hq2 o (by omega))]
      exact age_tz Y h c n q hq hq1 hq2 k (o + 1) (by omega) (by omega)
theorem age_0 (Y : Nat → Int32) (h c n : Nat) (hz : ∀ o, o < n → ¬ Y (7 + 6 * o + 4) = nI h) : ∀ k o, o + k = n → ageG Y h c k o = nI 0
  | 0, o, _ => rfl
  | k + 1, o, h1 => by unfold ageG; rw [if_neg (hz o (by omega))]; exact age_0 Y h c n hz k (o + 1) (by omega)
theorem age_m {Y : Nat → Int32} {h c n : Nat} (hn : n ≤ 10) (hm : mskA Y (nI h) n ≠ 0) : ageG Y h c n 0 = absS (Y (7 + 6 * c + 2) - Y (7 + 6 * tzN (mskA Y (nI h) n) + 2)) := by
  have h1 := tz_spec _ (msk_1024 Y (nI h) hn) hm
  have h2 := (tz_ex _ (msk_1024 Y (nI h) hn) hm).1
  have h3 := (msk_bit2 Y (nI h) n _).mp h1.1
  rw [abs_sym]
  exact age_tz Y h c n _ h3.1 h3.2 (fun o ho q => by
    have h4 := (msk_bit2 Y (nI h) n o).mpr ⟨by omega, q⟩
    rw [h1.2 o (by omega) ho] at h4; cases h4) n 0 (by omega) (by omega)
theorem age_z {Y : Nat → Int32} {h c n : Nat} (hm : mskA Y (nI h) n = 0) : ageG Y h c n 0 = nI 0 := age_0 Y h c n (fun o ho q => by
  have h4 := (msk_bit2 Y (nI h) n o).mpr ⟨ho, q⟩
  rw [hm, Nat.zero_testBit] at h4; cases h4) n 0 (by omega)
set_option maxHeartbeats 4000000 in
set_option maxRecDepth 100000 in
theorem c_held (l : Launch) (G : GC) (M : Mm) (v lo hi : Int32) : CP l G 1 yX9_held cX9_held 3 .int [.int v, .int lo, .int hi] M (heldS v lo hi) := by
  refine Con.of (by decide +kernel) (Nat.le_of_ble_eq_true rfl) ?_
  intro f C hRm hRt _
  show Vc f G NPh M 0 [(0, .int v), (1, .int lo), (2, .int hi)] []
  refine v_iload_n C 1 dX9_held_0 rfl ?_
  refine v_iload_n C 2 dX9_held_1 rfl ?_
  refine v_iload_n C 0 dX9_held_2 rfl ?_
  refine v_mmin C hRm (by decide) ml_X9_287 (Nat.le_of_ble_eq_true rfl) dX9_held_3 ?_
  refine v_top (minS hi v) rfl ?_
  refine v_mmax C hRm (by decide) ml_X9_302 (Nat.le_of_ble_eq_true rfl) dX9_held_6 ?_
  refine v_top (maxS lo (minS hi v)) rfl ?_
  exact n_iret C hRt (rfl) dX9_held_9 (rfl) (rfl)
set_option maxHeartbeats 4000000 in
set_option maxRecDepth 100000 in
theorem y_byWay (l : Launch) (G : GC) (M : Mm) (y : Nat) (hy : yd y) (Y : Nat → Int32) (n hN : Nat) (hR : YR M y Y n hN) (hY : YOk Y n hN) (c h : Nat) (hc : c < n) (hh : h < hN) (κ : Nat) (hκ : κ < 7) (hκ2 : Y (7 + 6 * c + 0) = nI κ) (pl : Int32) (hpl : pl = warmS Y n h c - Y (167 + 4 * h + 2) + nI 50) : CP l G 3 yX8_byWay cX8_byWay 6 .int [.ref (gb G + y), .int (nI c), .int (nI h), .int pl] M (plainS Y n h c κ) := by
  refine Con.of (by decide +kernel) (Nat.le_of_ble_eq_true rfl) ?_
  intro f C hRm hRt _
  have hyl : y + 60 < 221 := yd_lt hy (by decide)
  have hn2 := hY.1.2.1
  have h5 := hY.1.2.2.2
  show Vc f G NPh M 0 [(0, .ref (gb G + y)), (1, .int (nI c)), (2, .int (nI h)), (3, .int pl)] []
  refine v_aload_n C 0 dX8_byWay_0 rfl ?_
  refine g_X8_11 C (show y < 221 from by omega) (s_y hy) dX8_byWay_1 ?_
  refine v_iload_n C 1 dX8_byWay_4 rfl ?_
  refine v_aald C rfl (show y + 1 < 221 from by omega) (s_y1 hy) (by decide) (by decide) (show c < 10 from by omega) (by decide) (y + 20 + 3 * c) (by simp only [aOff] <;> omega) dX8_byWay_5 ?_
  refine v_astore C [(4, .ref (gb G + (y + 20 + 3 * c))), (0, .ref (gb G + y)), (1, .int (nI c)), (2, .int (nI h)), (3, .int pl)] dX8_byWay_6 (by decide) rfl ?_
  refine v_iload_n C 4 dX8_byWay_8 rfl ?_
  refine v_aload C 0 dX8_byWay_9 rfl ?_
  refine g_X8_144 C (show y + 20 + 3 * c < 221 from by omega) (s_ch hy (by omega)) dX8_byWay_11 ?_
  refine v_top (Y (7 + 6 * c + 1)) (hR.ch (by omega) (by omega) (by omega)) ?_
  refine v_aload C 0 dX8_byWay_14 rfl ?_
  refine g_X8_97 C (show y + 20 + 3 * c < 221 from by omega) (s_ch hy (by omega)) dX8_byWay_16 ?_
  refine v_iload_n C 3 dX8_byWay_19 rfl ?_
  refine v_iald C (show y + 20 + 3 * c + 2 < 221 from by omega) (s_wt hy (by omega)) (by omega) (by decide) dX8_byWay_20 ?_
  refine v_top (Y (187 + 5 * c + h)) (hR.wt (by omega) (by omega)) ?_
  refine v_imul C dX8_byWay_21 ?_
  refine v_iadd C dX8_byWay_22 ?_
  refine v_istore C [(5, .int (pl + ((Y (7 + 6 * c + 1)) * (Y (187 + 5 * c + h))))), (4, .ref (gb G + (y + 20 + 3 * c))), (0, .ref (gb G + y)), (1, .int (nI c)), (2, .int (nI h)), (3, .int pl)] dX8_byWay_23 (by decide) rfl ?_
  refine v_aload C 1 dX8_byWay_25 rfl ?_
  refine g_X8_147 C (show y + 20 + 3 * c < 221 from by omega) (s_ch hy (by omega)) dX8_byWay_27 ?_
  refine v_top (Y (7 + 6 * c + 0)) (hR.ch (by omega) (by omega) (by omega)) ?_
  refine v_top (nI κ) (hκ2) ?_
  rcases (show κ = 0 ∨ κ = 1 ∨ κ = 2 ∨ κ = 3 ∨ κ = 4 ∨ κ = 5 ∨ κ = 6 by omega) with h_0 | h_0 | h_0 | h_0 | h_0 | h_0 | h_0
  · subst h_0
    refine v_tableOut C 145 dX8_byWay_30 (by first | exact Or.inr (by decide +kernel) | exact Or.inl (by decide +kernel)) rfl ?_
    refine v_iload_n C 5 dX8_byWay_145 rfl ?_
    exact n_iret C hRt rfl dX8_byWay_146 (by subst hpl; rfl) rfl
  · subst h_0
    refine v_tableIn (off := 38) C 68 dX8_byWay_30 (by decide +kernel) (by decide +kernel) (by decide +kernel) rfl ?_
    refine v_iload_n C 5 dX8_byWay_68 rfl ?_
    refine v_aload C 1 dX8_byWay_69 rfl ?_
    refine g_X8_144 C (show y + 20 + 3 * c < 221 from by omega) (s_ch hy (by omega)) dX8_byWay_71 ?_
    refine v_top (Y (7 + 6 * c + 1)) (hR.ch (by omega) (by omega) (by omega)) ?_
    refine v_isub C dX8_byWay_74 ?_
    exact n_iret C hRt rfl dX8_byWay_75 (by subst hpl; rfl) rfl
  · subst h_0
    refine v_tableIn (off := 46) C 76 dX8_byWay_30 (by decide +kernel) (by decide +kernel) (by decide +kernel) rfl ?_
    refine v_iload C 0 dX8_byWay_76 rfl ?_
    exact n_iret C hRt rfl dX8_byWay_78 (by subst hpl; rfl) rfl
  · subst h_0
    refine v_tableIn (off := 49) C 79 dX8_byWay_30 (by decide +kernel) (by decide +kernel) (by decide +kernel) rfl ?_
    refine v_iload_n C 5 dX8_byWay_79 rfl ?_
    refine v_aload_n C 2 dX8_byWay_80 rfl ?_
    refine v_iload_n C 3 dX8_byWay_81 rfl ?_
    refine v_iload_n C 4 dX8_byWay_82 rfl ?_
    refine n_callVp C hRm [.int (nI c), .int (nI h)] cw_X8_fondest ml_X8_150 (show y < 221 from by omega) (s_y hy) (by decide) rfl (y_fondest l G M y hy Y _ _ hR hY c h (by omega) (by omega)) (by decide) rfl rfl (Nat.le_of_ble_eq_true rfl) dX8_byWay_83 ?_
    refine v_iconst C (nI 2) dX8_byWay_86 (by decide) ?_
    refine v_idiv C dX8_byWay_87 (by decide) ?_
    refine v_iadd C dX8_byWay_88 ?_
    exact n_iret C hRt rfl dX8_byWay_89 (by subst hpl; rfl) rfl
  · subst h_0
    refine v_tableIn (off := 60) C 90 dX8_byWay_30 (by decide +kernel) (by decide +kernel) (by decide +kernel) rfl ?_
    refine v_iload_n C 5 dX8_byWay_90 rfl ?_
    refine v_aload C 1 dX8_byWay_91 rfl ?_
    refine g_X8_144 C (show y + 20 + 3 * c < 221 from by omega) (s_ch hy (by omega)) dX8_byWay_93 ?_
    refine v_top (Y (7 + 6 * c + 1)) (hR.ch (by omega) (by omega) (by omega)) ?_
    refine v_isub C dX8_byWay_96 ?_
    refine v_iconst C (nI 2) dX8_byWay_97 (by decide) ?_
    refine v_idiv C dX8_byWay_98 (by decide) ?_
    exact n_iret C hRt rfl dX8_byWay_99 (by subst hpl; rfl) rfl
  · subst h_0
    refine v_tableIn (off := 70) C 100 dX8_byWay_30 (by decide +kernel) (by decide +kernel) (by decide +kernel) rfl ?_
    refine v_aload_n C 2 dX8_byWay_100 rfl ?_
    refine v_iload_n C 3 dX8_byWay_101 rfl ?_
    refine v_iload_n C 4 dX8_byWay_102 rfl ?_
    refine n_callVp C hRm [.int (nI c), .int (nI h)] cw_X8_hasFriend ml_X8_153 (show y < 221 from by omega) (s_y hy) (by decide) rfl (y_hasFriend l G M y hy Y _ _ hR hY c h (by omega) (by omega)) (by decide) rfl rfl (Nat.le_of_ble_eq_true rfl) dX8_byWay_103 ?_
    refine nb_if_eq C 114 dX8_byWay_106 rfl (fun h_106 => ?_) (fun h_106 => ?_)
    · skip
      refine v_iload C 0 dX8_byWay_114 rfl ?_
      refine v_bipush C (nI 10) dX8_byWay_116 (by decide) ?_
      refine v_iadd C dX8_byWay_118 ?_
      exact n_iret C hRt rfl dX8_byWay_119 (by subst hpl; show _ = _ + (if _ then _ else _); first | rw [if_neg h_106, nI_0, Int32.add_zero] | rw [if_pos (Decidable.not_not.mp h_106)]) rfl
    · skip
      refine v_iload C 0 dX8_byWay_109 rfl ?_
      refine v_goto C 119 dX8_byWay_111 rfl ?_
      exact n_iret C hRt rfl dX8_byWay_119 (by subst hpl; show _ = _ + (if _ then _ else _); first | rw [if_neg h_106, nI_0, Int32.add_zero] | rw [if_pos (Decidable.not_not.mp h_106)]) rfl
  · subst h_0
    refine v_tableIn (off := 90) C 120 dX8_byWay_30 (by decide +kernel) (by decide +kernel) (by decide +kernel) rfl ?_
    refine v_aload_n C 2 dX8_byWay_120 rfl ?_
    refine g_X8_19 C (show y < 221 from by omega) (s_y hy) dX8_byWay_121 ?_
    refine v_iload_n C 4 dX8_byWay_124 rfl ?_
    refine v_aald C rfl (show y + 2 < 221 from by omega) (s_y2 hy) (by decide) (by decide) (show h < 5 from by omega) (by decide) (y + 50 + h) (by simp only [aOff] <;> omega) dX8_byWay_125 ?_
    refine n_callVp C hRm [] cw_X2_lacksOne ml_X8_157 (show y + 50 + h < 221 from by omega) (s_hp hy (by omega)) (by decide) rfl (y_lacks l G M y hy Y _ _ hR hn2 h (by omega)) (by decide) rfl rfl (Nat.le_of_ble_eq_true rfl) dX8_byWay_126 ?_
    refine nb_if_eq C 137 dX8_byWay_129 rfl (fun h_129 => ?_) (fun h_129 => ?_)
    · skip
      refine v_iload_n C 5 dX8_byWay_137 rfl ?_
      refine v_aload C 1 dX8_byWay_138 rfl ?_
      refine g_X8_144 C (show y + 20 + 3 * c < 221 from by omega) (s_ch hy (by omega)) dX8_byWay_140 ?_
      refine v_top (Y (7 + 6 * c + 1)) (hR.ch (by omega) (by omega) (by omega)) ?_
      refine v_isub C dX8_byWay_143 ?_
      exact n_iret C hRt rfl dX8_byWay_144 (by subst hpl; first | exact (if_pos h_129).symm | exact (if_neg h_129).symm) rfl
    · skip
      refine v_bipush C (nI 100) dX8_byWay_132 (by decide) ?_
      refine v_goto C 144 dX8_byWay_134 rfl ?_
      exact n_iret C hRt rfl dX8_byWay_144 (by subst hpl; first | exact (if_pos h_129).symm | exact (if_neg h_129).symm) rfl
set_option maxHeartbeats 4000000 in
set_option maxRecDepth 100000 in
theorem y_letsIn (l : Launch) (G : GC) (M : Mm) (y : Nat) (hy : yd y) (Y : Nat → Int32) (n hN : Nat) (hR : YR M y Y n hN) (hY : YOk Y n hN) (c h : Nat) (hc : c < n) (hh : h < hN) (wm : Int32) (hwm : wm = warmS Y n h c) : CI l G 3 yX8_letsIn cX8_letsIn 7 .int [.ref (gb G + y), .int (nI c), .int (nI h), .int wm] M (letsS Y n h c) (YP M y Y n hN) := by
  refine Con.of (by decide +kernel) (Nat.le_of_ble_eq_true rfl) ?_
  intro f C hRm hRt _
  have hyl : y + 60 < 221 := yd_lt hy (by decide)
  have hn2 := hY.1.2.1
  have h5 := hY.1.2.2.2
  have hm9 := msk_1024 Y (nI h) hn2
  show Vc f G NPh M 0 [(0, .ref (gb G + y)), (1, .int (nI c)), (2, .int (nI h)), (3, .int wm)] []
  refine v_aload_n C 0 dX8_letsIn_0 rfl ?_
  refine g_X8_25 C (show y < 221 from by omega) (s_y hy) dX8_letsIn_1 ?_
  refine v_iconst C (nI 0) dX8_letsIn_4 (by decide) ?_
  refine v_aald C rfl (show y + 3 < 221 from by omega) (s_y3 hy) (by decide) (by decide) (show 0 < 2 from by omega) (by decide) (y + 55 + 3 * 0) (by simp only [aOff] <;> omega) dX8_letsIn_5 ?_
  refine v_astore C [(4, .ref (gb G + (y + 55 + 3 * 0))), (0, .ref (gb G + y)), (1, .int (nI c)), (2, .int (nI h)), (3, .int wm)] dX8_letsIn_6 (by decide) rfl ?_
  refine v_aload C 0 dX8_letsIn_8 rfl ?_
  refine n_callVp C hRm [] cw_X7_isThere ml_X8_161 (show y + 55 + 3 * 0 < 221 from by omega) (s_tx hy (by omega)) (by decide) rfl (y_there l G M y hy Y _ _ hR 0 (by decide)) (by decide) rfl rfl (Nat.le_of_ble_eq_true rfl) dX8_letsIn_10 ?_
  refine nb_if_ne C 18 dX8_letsIn_13 rfl (fun h_13 => ?_) (fun h_13 => ?_)
  · skip
    refine v_aload_n C 1 dX8_letsIn_18 rfl ?_
    refine g_X8_19 C (show y < 221 from by omega) (s_y hy) dX8_letsIn_19 ?_
    refine v_iload_n C 3 dX8_letsIn_22 rfl ?_
    refine v_aald C rfl (show y + 2 < 221 from by omega) (s_y2 hy) (by decide) (by decide) (show h < 5 from by omega) (by decide) (y + 50 + h) (by simp only [aOff] <;> omega) dX8_letsIn_23 ?_
    refine v_astore C [(5, .ref (gb G + (y + 50 + h))), (4, .ref (gb G + (y + 55 + 3 * 0))), (0, .ref (gb G + y)), (1, .int (nI c)), (2, .int (nI h)), (3, .int wm)] dX8_letsIn_24 (by decide) rfl ?_
    refine v_aload_n C 2 dX8_letsIn_26 rfl ?_
    refine g_X8_45 C (show y < 221 from by omega) (s_y hy) dX8_letsIn_27 ?_
    refine v_iconst C (nI 0) dX8_letsIn_30 (by decide) ?_
    refine v_iload_n C 5 dX8_letsIn_31 rfl ?_
    refine v_iast C (show y + 8 < 221 from by omega) (s_y8 hy) (by omega) (by decide) dX8_letsIn_32 ?_
    have hRq1 : YR (up2 M (y + 8) 0 wm) y Y n hN := hR.scr (k := y + 8) (fun _ hz => up2_ne _ _ _ hz) (by omega)
    have hFq1 : Fr y M (up2 M (y + 8) 0 wm) := Fr.up _ (by omega)
    refine v_aload_n C 2 dX8_letsIn_33 rfl ?_
    refine g_X8_45 C (show y < 221 from by omega) (s_y hy) dX8_letsIn_34 ?_
    refine v_iconst C (nI 1) dX8_letsIn_37 (by decide) ?_
    refine v_aload C 0 dX8_letsIn_38 rfl ?_
    refine g_X8_131 C (show y + 50 + h < 221 from by omega) (s_hp hy (by omega)) dX8_letsIn_40 ?_
    refine v_top (Y (167 + 4 * h + 2)) ((hRq1.hp (by omega)).2.2.2.trans (if_pos (by omega))) ?_
    refine v_iast C (show y + 8 < 221 from by omega) (s_y8 hy) (by omega) (by decide) dX8_letsIn_43 ?_
    have hRq2 : YR (up2 (up2 M (y + 8) 0 wm) (y + 8) 1 (Y (167 + 4 * h + 2))) y Y n hN := hRq1.scr (k := y + 8) (fun _ hz => up2_ne _ _ _ hz) (by omega)
    have hFq2 : Fr y M (up2 (up2 M (y + 8) 0 wm) (y + 8) 1 (Y (167 + 4 * h + 2))) := hFq1.tr (Fr.up _ (by omega))
    refine v_aload_n C 2 dX8_letsIn_44 rfl ?_
    refine g_X8_45 C (show y < 221 from by omega) (s_y hy) dX8_letsIn_45 ?_
    refine v_iconst C (nI 2) dX8_letsIn_48 (by decide) ?_
    refine v_aload C 0 dX8_letsIn_49 rfl ?_
    refine n_callVp C hRm [] cw_X2_size ml_X8_121 (show y + 50 + h < 221 from by omega) (s_hp hy (by omega)) (by decide) rfl (y_size l G (up2 (up2 M (y + 8) 0 wm) (y + 8) 1 (Y (167 + 4 * h + 2))) y hy Y _ _ hRq2 hn2 h (by omega)) (by decide) rfl rfl (Nat.le_of_ble_eq_true rfl) dX8_letsIn_51 ?_
    refine v_iast C (show y + 8 < 221 from by omega) (s_y8 hy) (by omega) (by decide) dX8_letsIn_54 ?_
    have hRq3 : YR (up2 (up2 (up2 M (y + 8) 0 wm) (y + 8) 1 (Y (167 + 4 * h + 2))) (y + 8) 2 (nI (popA Y n (nI h)))) y Y n hN := hRq2.scr (k := y + 8) (fun _ hz => up2_ne _ _ _ hz) (by omega)
    have hFq3 : Fr y M (up2 (up2 (up2 M (y + 8) 0 wm) (y + 8) 1 (Y (167 + 4 * h + 2))) (y + 8) 2 (nI (popA Y n (nI h)))) := hFq2.tr (Fr.up _ (by omega))
    refine v_aload_n C 2 dX8_letsIn_55 rfl ?_
    refine g_X8_45 C (show y < 221 from by omega) (s_y hy) dX8_letsIn_56 ?_
    refine v_iconst C (nI 3) dX8_letsIn_59 (by decide) ?_
    refine v_aload_n C 2 dX8_letsIn_60 rfl ?_
    refine g_X8_11 C (show y < 221 from by omega) (s_y hy) dX8_letsIn_61 ?_
    refine v_iload_n C 3 dX8_letsIn_64 rfl ?_
    refine v_aald C rfl (show y + 1 < 221 from by omega) (s_y1 hy) (by decide) (by decide) (show c < 10 from by omega) (by decide) (y + 20 + 3 * c) (by simp only [aOff] <;> omega) dX8_letsIn_65 ?_
    refine g_X8_97 C (show y + 20 + 3 * c < 221 from by omega) (s_ch hy (by omega)) dX8_letsIn_66 ?_
    refine v_iload_n C 4 dX8_letsIn_69 rfl ?_
    refine v_iald C (show y + 20 + 3 * c + 2 < 221 from by omega) (s_wt hy (by omega)) (by omega) (by decide) dX8_letsIn_70 ?_
    refine v_top (Y (187 + 5 * c + h)) (hRq3.wt (by omega) (by omega)) ?_
    refine v_iast C (show y + 8 < 221 from by omega) (s_y8 hy) (by omega) (by decide) dX8_letsIn_71 ?_
    have hRq4 : YR (up2 (up2 (up2 (up2 M (y + 8) 0 wm) (y + 8) 1 (Y (167 + 4 * h + 2))) (y + 8) 2 (nI (popA Y n (nI h)))) (y + 8) 3 (Y (187 + 5 * c + h))) y Y n hN := hRq3.scr (k := y + 8) (fun _ hz => up2_ne _ _ _ hz) (by omega)
    have hFq4 : Fr y M (up2 (up2 (up2 (up2 M (y + 8) 0 wm) (y + 8) 1 (Y (167 + 4 * h + 2))) (y + 8) 2 (nI (popA Y n (nI h)))) (y + 8) 3 (Y (187 + 5 * c + h))) := hFq3.tr (Fr.up _ (by omega))
    refine v_aload_n C 2 dX8_letsIn_72 rfl ?_
    refine g_X8_45 C (show y < 221 from by omega) (s_y hy) dX8_letsIn_73 ?_
    refine v_iconst C (nI 4) dX8_letsIn_76 (by decide) ?_
    refine v_iconst C (nI 0) dX8_letsIn_77 (by decide) ?_
    refine v_iast C (show y + 8 < 221 from by omega) (s_y8 hy) (by omega) (by decide) dX8_letsIn_78 ?_
    have hRq5 : YR (up2 (up2 (up2 (up2 (up2 M (y + 8) 0 wm) (y + 8) 1 (Y (167 + 4 * h + 2))) (y + 8) 2 (nI (popA Y n (nI h)))) (y + 8) 3 (Y (187 + 5 * c + h))) (y + 8) 4 (nI 0)) y Y n hN := hRq4.scr (k := y + 8) (fun _ hz => up2_ne _ _ _ hz) (by omega)
    have hFq5 : Fr y M (up2 (up2 (up2 (up2 (up2 M (y + 8) 0 wm) (y + 8) 1 (Y (167 + 4 * h + 2))) (y + 8) 2 (nI (popA Y n (nI h)))) (y + 8) 3 (Y (187 + 5 * c + h))) (y + 8) 4 (nI 0)) := hFq4.tr (Fr.up _ (by omega))
    refine v_aload C 0 dX8_letsIn_79 rfl ?_
    refine g_X8_91 C (show y + 50 + h < 221 from by omega) (s_hp hy (by omega)) dX8_letsIn_81 ?_
    refine v_top (nI (mskA Y (nI h) n)) (hRq5.ins (by omega)) ?_
    refine n_if_eq C (by omega) 126 dX8_letsIn_84 rfl (fun h_84 => ?_) (fun h_84 => ?_)
    · skip
      refine v_aload C 1 dX8_letsIn_126 rfl ?_
      refine v_aload_n C 2 dX8_letsIn_128 rfl ?_
      refine g_X8_45 C (show y < 221 from by omega) (s_y hy) dX8_letsIn_129 ?_
      refine n_callVi C hRm [.ref (gb G + (y + 8))] cw_X7_worth ml_X8_173 (show y + 55 + 3 * 0 < 221 from by omega) (s_tx hy (by omega)) (by decide) rfl (y_worth l G (up2 (up2 (up2 (up2 (up2 M (y + 8) 0 wm) (y + 8) 1 (Y (167 + 4 * h + 2))) (y + 8) 2 (nI (popA Y n (nI h)))) (y + 8) 3 (Y (187 + 5 * c + h))) (y + 8) 4 (nI 0)) y hy Y _ _ hRq5 hY 0 (by decide) h_13 (nm5 (warmS Y n h c) (Y (167 + 4 * h + 2)) (nI (popA Y n (nI h))) (Y (187 + 5 * c + h)) (ageG Y h c n 0)) (by intro j hj; rcases (show j = 0 ∨ j = 1 ∨ j = 2 ∨ j = 3 ∨ j = 4 by omega) with h | h | h | h | h <;> subst h <;> simp [up2_ap, nm5, hwm, age_z h_84])) (by decide) rfl rfl (Nat.le_of_ble_eq_true rfl) dX8_letsIn_132 (fun Mq6 hP_132 => ?_)
      obtain ⟨hRq6, hFq6⟩ := hP_132
      have hGq6 := hFq5.tr hFq6
      refine v_bipush C (-100) dX8_letsIn_135 (by decide) ?_
      refine v_bipush C (nI 100) dX8_letsIn_137 (by decide) ?_
      refine n_callNp C hRm [.int (valT Y 0 (nm5 (warmS Y n h c) (Y (167 + 4 * h + 2)) (nI (popA Y n (nI h))) (Y (187 + 5 * c + h)) (ageG Y h c n 0))), .int (-100), .int (nI 100)] cw_X9_held st_X9_held mn_X8_141 (c_held l G Mq6 (valT Y 0 (nm5 (warmS Y n h c) (Y (167 + 4 * h + 2)) (nI (popA Y n (nI h))) (Y (187 + 5 * c + h)) (ageG Y h c n 0))) (-100) (nI 100)) (by decide) rfl rfl (Nat.le_of_ble_eq_true rfl) dX8_letsIn_139 ?_
      exact n_iret C hRt rfl dX8_letsIn_142 (by unfold letsS; rw [if_pos h_13]) ⟨hRq6, hGq6⟩
    · skip
      refine v_aload C 0 dX8_letsIn_87 rfl ?_
      refine g_X8_91 C (show y + 50 + h < 221 from by omega) (s_hp hy (by omega)) dX8_letsIn_89 ?_
      refine v_top (nI (mskA Y (nI h) n)) (hRq5.ins (by omega)) ?_
      refine n_callSp C hRm [.int (nI (mskA Y (nI h) n))] cw_J6_numberOfTrailingZeros_0f7a4 st_J6_numberOfTrailingZeros_0f7a4 ml_X8_164 (j_tz l G (up2 (up2 (up2 (up2 (up2 M (y + 8) 0 wm) (y + 8) 1 (Y (167 + 4 * h + 2))) (y + 8) 2 (nI (popA Y n (nI h)))) (y + 8) 3 (Y (187 + 5 * c + h))) (y + 8) 4 (nI 0)) (mskA Y (nI h) n) (msk_1024 _ _ hn2) h_84) (by decide) rfl rfl (Nat.le_of_ble_eq_true rfl) dX8_letsIn_92 ?_
      have htz := (tz_ex _ (msk_1024 Y (nI h) hn2) h_84).1
      refine v_istore C [(6, .int (nI (tzN (mskA Y (nI h) n)))), (5, .ref (gb G + (y + 50 + h))), (4, .ref (gb G + (y + 55 + 3 * 0))), (0, .ref (gb G + y)), (1, .int (nI c)), (2, .int (nI h)), (3, .int wm)] dX8_letsIn_95 (by decide) rfl ?_
      refine v_aload_n C 3 dX8_letsIn_97 rfl ?_
      refine g_X8_45 C (show y < 221 from by omega) (s_y hy) dX8_letsIn_98 ?_
      refine v_iconst C (nI 4) dX8_letsIn_101 (by decide) ?_
      refine v_aload_n C 3 dX8_letsIn_102 rfl ?_
      refine g_X8_11 C (show y < 221 from by omega) (s_y hy) dX8_letsIn_103 ?_
      refine v_iload_n C 4 dX8_letsIn_106 rfl ?_
      refine v_aald C rfl (show y + 1 < 221 from by omega) (s_y1 hy) (by decide) (by decide) (show c < 10 from by omega) (by decide) (y + 20 + 3 * c) (by simp only [aOff] <;> omega) dX8_letsIn_107 ?_
      refine g_X8_167 C (show y + 20 + 3 * c < 221 from by omega) (s_ch hy (by omega)) dX8_letsIn_108 ?_
      refine v_top (Y (7 + 6 * c + 2)) (hRq5.ch (by omega) (by omega) (by omega)) ?_
      refine v_aload_n C 3 dX8_letsIn_111 rfl ?_
      refine g_X8_11 C (show y < 221 from by omega) (s_y hy) dX8_letsIn_112 ?_
      refine v_iload C 0 dX8_letsIn_115 rfl ?_
      refine v_aald C rfl (show y + 1 < 221 from by omega) (s_y1 hy) (by decide) (by decide) (show tzN (mskA Y (nI h) n) < 10 from by omega) (by decide) (y + 20 + 3 * (tzN (mskA Y (nI h) n))) (by simp only [aOff] <;> omega) dX8_letsIn_117 ?_
      refine g_X8_167 C (show y + 20 + 3 * (tzN (mskA Y (nI h) n)) < 221 from by omega) (s_ch hy (by omega)) dX8_letsIn_118 ?_
      refine v_top (Y (7 + 6 * (tzN (mskA Y (nI h) n)) + 2)) (hRq5.ch (by omega) (by omega) (by omega)) ?_
      refine v_isub C dX8_letsIn_121 ?_
      refine v_mabs C hRm (by decide) ml_X8_170 (Nat.le_of_ble_eq_true rfl) dX8_letsIn_122 ?_
      refine v_top (absS ((Y (7 + 6 * c + 2)) - (Y (7 + 6 * (tzN (mskA Y (nI h) n)) + 2)))) rfl ?_
      refine v_iast C (show y + 8 < 221 from by omega) (s_y8 hy) (by omega) (by decide) dX8_letsIn_125 ?_
      have hRq7 : YR (up2 (up2 (up2 (up2 (up2 (up2 M (y + 8) 0 wm) (y + 8) 1 (Y (167 + 4 * h + 2))) (y + 8) 2 (nI (popA Y n (nI h)))) (y + 8) 3 (Y (187 + 5 * c + h))) (y + 8) 4 (nI 0)) (y + 8) 4 (absS ((Y (7 + 6 * c + 2)) - (Y (7 + 6 * (tzN (mskA Y (nI h) n)) + 2))))) y Y n hN := hRq5.scr (k := y + 8) (fun _ hz => up2_ne _ _ _ hz) (by omega)
      have hFq7 : Fr y M (up2 (up2 (up2 (up2 (up2 (up2 M (y + 8) 0 wm) (y + 8) 1 (Y (167 + 4 * h + 2))) (y + 8) 2 (nI (popA Y n (nI h)))) (y + 8) 3 (Y (187 + 5 * c + h))) (y + 8) 4 (nI 0)) (y + 8) 4 (absS ((Y (7 + 6 * c + 2)) - (Y (7 + 6 * (tzN (mskA Y (nI h) n)) + 2))))) := hFq5.tr (Fr.up _ (by omega))
      refine v_aload C 2 dX8_letsIn_126 rfl ?_
      refine v_aload_n C 3 dX8_letsIn_128 rfl ?_
      refine g_X8_45 C (show y < 221 from by omega) (s_y hy) dX8_letsIn_129 ?_
      refine n_callVi C hRm [.ref (gb G + (y + 8))] cw_X7_worth ml_X8_173 (show y + 55 + 3 * 0 < 221 from by omega) (s_tx hy (by omega)) (by decide) rfl (y_worth l G (up2 (up2 (up2 (up2 (up2 (up2 M (y + 8) 0 wm) (y + 8) 1 (Y (167 + 4 * h + 2))) (y + 8) 2 (nI (popA Y n (nI h)))) (y + 8) 3 (Y (187 + 5 * c + h))) (y + 8) 4 (nI 0)) (y + 8) 4 (absS ((Y (7 + 6 * c + 2)) - (Y (7 + 6 * (tzN (mskA Y (nI h) n)) + 2))))) y hy Y _ _ hRq7 hY 0 (by decide) h_13 (nm5 (warmS Y n h c) (Y (167 + 4 * h + 2)) (nI (popA Y n (nI h))) (Y (187 + 5 * c + h)) (ageG Y h c n 0)) (by intro j hj; rcases (show j = 0 ∨ j = 1 ∨ j = 2 ∨ j = 3 ∨ j = 4 by omega) with h | h | h | h | h <;> subst h <;> simp [up2_ap, nm5, hwm, age_m hn2 h_84, absS])) (by decide) rfl rfl (Nat.le_of_ble_eq_true rfl) dX8_letsIn_132 (fun Mq8 hP_132 => ?_)
      obtain ⟨hRq8, hFq8⟩ := hP_132
      have hGq8 := hFq7.tr hFq8
      refine v_bipush C (-100) dX8_letsIn_135 (by decide) ?_
      refine v_bipush C (nI 100) dX8_letsIn_137 (by decide) ?_
      refine n_callNp C hRm [.int (valT Y 0 (nm5 (warmS Y n h c) (Y (167 + 4 * h + 2)) (nI (popA Y n (nI h))) (Y (187 + 5 * c + h)) (ageG Y h c n 0))), .int (-100), .int (nI 100)] cw_X9_held st_X9_held mn_X8_141 (c_held l G Mq8 (valT Y 0 (nm5 (warmS Y n h c) (Y (167 + 4 * h + 2)) (nI (popA Y n (nI h))) (Y (187 + 5 * c + h)) (ageG Y h c n 0))) (-100) (nI 100)) (by decide) rfl rfl (Nat.le_of_ble_eq_true rfl) dX8_letsIn_139 ?_
      exact n_iret C hRt rfl dX8_letsIn_142 (by unfold letsS; rw [if_pos h_13]) ⟨hRq8, hGq8⟩
  · skip
    refine v_iconst C (nI 0) dX8_letsIn_16 (by decide) ?_
    exact n_iret C hRt rfl dX8_letsIn_17 (by unfold letsS; rw [if_neg h_13]) ⟨hR, Fr.rf y M⟩
set_option maxHeartbeats 4000000 in
set_option maxRecDepth 100000 in
theorem y_chance (l : Launch) (G : GC) (M : Mm) (y : Nat) (hy : yd y) (Y : Nat → Int32) (n hN : Nat) (hR : YR M y Y n hN) (hY : YOk Y n hN) (c h : Nat) (hc : c < n) (hh : h < hN) : CI l G 4 yX8_chance cX8_chance 6 .int [.ref (gb G + y), .int (nI c), .int (nI h)] M (chS Y n h c) (YP M y Y n hN) := by
  refine Con.of (by decide +kernel) (Nat.le_of_ble_eq_true rfl) ?_
  intro f C hRm hRt _
  have hyl : y + 60 < 221 := yd_lt hy (by decide)
  have hn2 := hY.1.2.1
  have h5 := hY.1.2.2.2
  obtain ⟨κ, hκ, hκ2⟩ := hY.2.1 c hc
  show Vc f G NPh M 0 [(0, .ref (gb G + y)), (1, .int (nI c)), (2, .int (nI h))] []
  refine v_aload_n C 0 dX8_chance_0 rfl ?_
  refine g_X8_19 C (show y < 221 from by omega) (s_y hy) dX8_chance_1 ?_
  refine v_iload_n C 2 dX8_chance_4 rfl ?_
  refine v_aald C rfl (show y + 2 < 221 from by omega) (s_y2 hy) (by decide) (by decide) (show h < 5 from by omega) (by decide) (y + 50 + h) (by simp only [aOff] <;> omega) dX8_chance_5 ?_
  refine v_astore_n C [(3, .ref (gb G + (y + 50 + h))), (0, .ref (gb G + y)), (1, .int (nI c)), (2, .int (nI h))] dX8_chance_6 rfl (by decide) rfl ?_
  refine v_aload_n C 0 dX8_chance_7 rfl ?_
  refine n_callVp C hRm [] cw_X2_size ml_X8_121 (show y + 50 + h < 221 from by omega) (s_hp hy (by omega)) (by decide) rfl (y_size l G M y hy Y _ _ hR hn2 h (by omega)) (by decide) rfl rfl (Nat.le_of_ble_eq_true rfl) dX8_chance_8 ?_
  refine v_aload_n C 0 dX8_chance_11 rfl ?_
  refine g_X8_125 C (show y + 50 + h < 221 from by omega) (s_hp hy (by omega)) dX8_chance_12 ?_
  refine v_top (Y (167 + 4 * h + 1)) ((hR.hp (by omega)).2.1) ?_
  refine v_icmp_lt C 20 dX8_chance_15 rfl (fun h_15 => ?_) (fun h_15 => ?_)
  · skip
    refine v_aload_n C 1 dX8_chance_20 rfl ?_
    refine v_iload_n C 2 dX8_chance_21 rfl ?_
    refine v_iload_n C 3 dX8_chance_22 rfl ?_
    refine n_callVp C hRm [.int (nI c), .int (nI h)] cw_X8_warmth ml_X8_128 (show y < 221 from by omega) (s_y hy) (by decide) rfl (y_warmth l G M y hy Y _ _ hR hY c h (by omega) (by omega)) (by decide) rfl rfl (Nat.le_of_ble_eq_true rfl) dX8_chance_23 ?_
    refine v_istore C [(4, .int (warmS Y n h c)), (3, .ref (gb G + (y + 50 + h))), (0, .ref (gb G + y)), (1, .int (nI c)), (2, .int (nI h))] dX8_chance_26 (by decide) rfl ?_
    refine v_aload_n C 2 dX8_chance_28 rfl ?_
    refine v_iload_n C 3 dX8_chance_29 rfl ?_
    refine v_iload_n C 4 dX8_chance_30 rfl ?_
    refine v_iload C 0 dX8_chance_31 rfl ?_
    refine v_aload_n C 1 dX8_chance_33 rfl ?_
    refine g_X8_131 C (show y + 50 + h < 221 from by omega) (s_hp hy (by omega)) dX8_chance_34 ?_
    refine v_top (Y (167 + 4 * h + 2)) ((hR.hp (by omega)).2.2.2.trans (if_pos (by omega))) ?_
    refine v_isub C dX8_chance_37 ?_
    refine v_bipush C (nI 50) dX8_chance_38 (by decide) ?_
    refine v_iadd C dX8_chance_40 ?_
    refine n_callVp C hRm [.int (nI c), .int (nI h), .int (((warmS Y n h c) - (Y (167 + 4 * h + 2))) + (nI 50))] cw_X8_byWay ml_X8_134 (show y < 221 from by omega) (s_y hy) (by decide) rfl (y_byWay l G M y hy Y _ _ hR hY c h (by omega) (by omega) κ hκ hκ2 _ rfl) (by decide) rfl rfl (Nat.le_of_ble_eq_true rfl) dX8_chance_41 ?_
    refine v_istore C [(5, .int (plainS Y n h c κ)), (4, .int (warmS Y n h c)), (3, .ref (gb G + (y + 50 + h))), (0, .ref (gb G + y)), (1, .int (nI c)), (2, .int (nI h))] dX8_chance_44 (by decide) rfl ?_
    refine v_iload C 0 dX8_chance_46 rfl ?_
    refine v_aload_n C 3 dX8_chance_48 rfl ?_
    refine v_iload_n C 4 dX8_chance_49 rfl ?_
    refine v_iload_n C 5 dX8_chance_50 rfl ?_
    refine v_iload C 1 dX8_chance_51 rfl ?_
    refine n_callVi C hRm [.int (nI c), .int (nI h), .int (warmS Y n h c)] cw_X8_letsIn ml_X8_138 (show y < 221 from by omega) (s_y hy) (by decide) rfl (y_letsIn l G M y hy Y _ _ hR hY c h (by omega) (by omega) _ rfl) (by decide) rfl rfl (Nat.le_of_ble_eq_true rfl) dX8_chance_53 (fun Mq1 hP_53 => ?_)
    obtain ⟨hRq1, hFq1⟩ := hP_53
    refine v_iadd C dX8_chance_56 ?_
    refine v_iconst C (nI 0) dX8_chance_57 (by decide) ?_
    refine v_bipush C (nI 100) dX8_chance_58 (by decide) ?_
    refine n_callNp C hRm [.int ((plainS Y n h c κ) + (letsS Y n h c)), .int (nI 0), .int (nI 100)] cw_X9_held st_X9_held mn_X8_141 (c_held l G Mq1 ((plainS Y n h c κ) + (letsS Y n h c)) (nI 0) (nI 100)) (by decide) rfl rfl (Nat.le_of_ble_eq_true rfl) dX8_chance_60 ?_
    exact n_iret C hRt rfl dX8_chance_63 (by unfold chS kN; rw [cN_of hκ2 (by omega), if_pos h_15]) ⟨hRq1, hFq1⟩
  · skip
    refine v_iconst C (nI 0) dX8_chance_18 (by decide) ?_
    exact n_iret C hRt rfl dX8_chance_19 (by unfold chS; rw [if_neg h_15]) ⟨hR, Fr.rf y M⟩
set_option maxHeartbeats 4000000 in
set_option maxRecDepth 100000 in
theorem y_bestHeap (l : Launch) (G : GC) (M : Mm) (y : Nat) (hy : yd y) (Y : Nat → Int32) (n hN : Nat) (hR : YR M y Y n hN) (hY : YOk Y n hN) (c : Nat) (hc : c < n) : CI l G 5 yX8_bestHeap cX8_bestHeap 6 .int [.ref (gb G + y), .int (nI c)] M ((bstA Y n c hN).1) (YP M y Y n hN) := by
  refine Con.of (by decide +kernel) (Nat.le_of_ble_eq_true rfl) ?_
  intro f C hRm hRt _
  have hyl : y + 60 < 221 := yd_lt hy (by decide)
  have hn2 := hY.1.2.1
  have h5 := hY.1.2.2.2
  have LB : ∀ (kk : Nat) (h : Nat) (b : Int32) (mo : Int32) (X : Mm), hN - h = kk → h ≤ hN → YR X y Y n hN → Fr y M X → b = (bstA Y n c h).1 → mo = (bstA Y n c h).2 → Vc f G NPh X 7 [(4, .int (nI h)), (3, .int mo), (2, .int b), (0, .ref (gb G + y)), (1, .int (nI c))] [] := by
    intro kk
    induction kk using Nat.strongRecOn with
    | _ kk ihLB =>
      intro h b mo X hkk hh hRX hFX hb hm
      refine v_iload C 0 dX8_bestHeap_7 rfl ?_
      refine v_aload_n C 3 dX8_bestHeap_9 rfl ?_
      refine g_X8_73 C (show y < 221 from by omega) (s_y hy) dX8_bestHeap_10 ?_
      refine v_top (nI hN) (hRX.hN) ?_
      refine n_icmp_ge C (by omega) (by omega) 43 dX8_bestHeap_13 rfl (fun h_13 => ?_) (fun h_13 => ?_)
      · skip
        refine v_iload_n C 2 dX8_bestHeap_43 rfl ?_
        exact n_iret C hRt rfl dX8_bestHeap_44 (by (have h9 : h = hN := by omega); subst h9; exact hb) ⟨hRX, hFX⟩
      · skip
        refine v_aload_n C 3 dX8_bestHeap_16 rfl ?_
        refine v_iload_n C 4 dX8_bestHeap_17 rfl ?_
        refine v_iload C 0 dX8_bestHeap_18 rfl ?_
        refine n_callVi C hRm [.int (nI c), .int (nI h)] cw_X8_chance ml_X8_177 (show y < 221 from by omega) (s_y hy) (by decide) rfl (y_chance l G X y hy Y _ _ hRX hY c h (by omega) (by omega)) (by decide) rfl rfl (Nat.le_of_ble_eq_true rfl) dX8_bestHeap_20 (fun Mq1 hP_20 => ?_)
        obtain ⟨hRq1, hFq1⟩ := hP_20
        have hGq1 := hFX.tr hFq1
        refine v_istore C [(5, .int (chS Y n h c)), (4, .int (nI h)), (3, .int mo), (2, .int b), (0, .ref (gb G + y)), (1, .int (nI c))] dX8_bestHeap_23 (by decide) rfl ?_
        refine v_iload C 0 dX8_bestHeap_25 rfl ?_
        refine v_iload_n C 2 dX8_bestHeap_27 rfl ?_
        refine v_icmp_le C 37 dX8_bestHeap_28 rfl (fun h_28 => ?_) (fun h_28 => ?_)
        · skip
          refine v_iinc C (nI (h + 1)) 1 [(4, .int (nI (h + 1))), (5, .int (chS Y n h c)), (3, .int mo), (2, .int b), (0, .ref (gb G + y)), (1, .int (nI c))] dX8_bestHeap_37 rfl (nI_add _ _) (by decide) rfl ?_
          refine v_goto C 7 dX8_bestHeap_40 rfl ?_
          refine v_sub [0, 2, 3, 4, 5] [(4, .int (nI (h + 1))), (3, .int mo), (2, .int b), (0, .ref (gb G + y)), (1, .int (nI c))] rfl ?_
          exact ihLB _ (by omega) (h + 1) b mo Mq1 rfl (by omega) hRq1 hGq1 (by subst hb; subst hm; simp only [bstA]; first | rw [if_neg (Int32.not_lt.mpr h_28)] | rw [if_pos (Int32.not_le.mp h_28)]) (by subst hb; subst hm; simp only [bstA]; first | rw [if_neg (Int32.not_lt.mpr h_28)] | rw [if_pos (Int32.not_le.mp h_28)])
        · skip
          refine v_iload C 1 dX8_bestHeap_31 rfl ?_
          refine v_istore_n C [(2, .int (nI h)), (5, .int (chS Y n h c)), (4, .int (nI h)), (3, .int mo), (0, .ref (gb G + y)), (1, .int (nI c))] dX8_bestHeap_33 rfl (by decide) rfl ?_
          refine v_iload C 1 dX8_bestHeap_34 rfl ?_
          refine v_istore_n C [(3, .int (chS Y n h c)), (2, .int (nI h)), (5, .int (chS Y n h c)), (4, .int (nI h)), (0, .ref (gb G + y)), (1, .int (nI c))] dX8_bestHeap_36 rfl (by decide) rfl ?_
          refine v_iinc C (nI (h + 1)) 3 [(4, .int (nI (h + 1))), (3, .int (chS Y n h c)), (2, .int (nI h)), (5, .int (chS Y n h c)), (0, .ref (gb G + y)), (1, .int (nI c))] dX8_bestHeap_37 rfl (nI_add _ _) (by decide) rfl ?_
          refine v_goto C 7 dX8_bestHeap_40 rfl ?_
          refine v_sub [0, 1, 2, 4, 5] [(4, .int (nI (h + 1))), (3, .int (chS Y n h c)), (2, .int (nI h)), (0, .ref (gb G + y)), (1, .int (nI c))] rfl ?_
          exact ihLB _ (by omega) (h + 1) (nI h) (chS Y n h c) Mq1 rfl (by omega) hRq1 hGq1 (by subst hb; subst hm; simp only [bstA]; first | rw [if_neg (Int32.not_lt.mpr h_28)] | rw [if_pos (Int32.not_le.mp h_28)]) (by subst hb; subst hm; simp only [bstA]; first | rw [if_neg (Int32.not_lt.mpr h_28)] | rw [if_pos (Int32.not_le.mp h_28)])
  show Vc f G NPh M 0 [(0, .ref (gb G + y)), (1, .int (nI c))] []
  refine v_iconst C (-1) dX8_bestHeap_0 (by decide) ?_
  refine v_istore_n C [(2, .int (-1)), (0, .ref (gb G + y)), (1, .int (nI c))] dX8_bestHeap_1 rfl (by decide) rfl ?_
  refine v_iconst C (-1) dX8_bestHeap_2 (by decide) ?_
  refine v_istore_n C [(3, .int (-1)), (2, .int (-1)), (0, .ref (gb G + y)), (1, .int (nI c))] dX8_bestHeap_3 rfl (by decide) rfl ?_
  refine v_iconst C (nI 0) dX8_bestHeap_4 (by decide) ?_
  refine v_istore C [(4, .int (nI 0)), (3, .int (-1)), (2, .int (-1)), (0, .ref (gb G + y)), (1, .int (nI c))] dX8_bestHeap_5 (by decide) rfl ?_
  refine v_sub [0, 1, 2, 3, 4] [(4, .int (nI 0)), (3, .int (-1)), (2, .int (-1)), (0, .ref (gb G + y)), (1, .int (nI c))] rfl ?_
  exact LB _ 0 (-1) (-1) M rfl (by omega) hR (Fr.rf y M) rfl rfl
