def nm5 (a b c d e : Int32) : Nat → Int32 := fun j => match j with
  | 0 => a
  | 1 => b
  | 2 => c
  | 3 => d
  | _ => e
def valT (Y : Nat → Int32) (u : Nat) (nm : Nat → Int32) : Int32 := (evT nm Y (321 + 62 * u + 1) (cN Y (321 + 62 * u))).getD 0 0
def YOk (Y : Nat → Int32) (n hN : Nat) : Prop := (Y 0 = nI n ∧ n ≤ 10 ∧ Y 1 = nI hN ∧ hN ≤ 5) ∧ (∀ c, c < n → ∃ κ, κ < 7 ∧ Y (7 + 6 * c + 0) = nI κ) ∧ (∀ c, c < n → Y (7 + 6 * c + 4) = -1 ∨ ∃ h, h < hN ∧ Y (7 + 6 * c + 4) = nI h) ∧ (∀ u, u < 2 → ∃ len, okT Y (321 + 62 * u + 1) len) ∧ (∃ t, t ≤ 60 ∧ Y 4 = nI t) ∧ ∃ t, t ≤ 24 ∧ Y 5 = nI t
theorem dep_congr {Y Y' : Nat → Int32} {fr : Nat} (h : ∀ i, fr ≤ i → Y' i = Y i) : ∀ k, dep Y' fr k = dep Y fr k
  | 0 => rfl
  | k + 1 => by
    have h1 : cN Y' (fr + k) = cN Y (fr + k) := by unfold cN; rw [h _ (by omega)]
    unfold dep
    rw [h1, dep_congr h k]
theorem okT.congr {Y Y' : Nat → Int32} {fr len : Nat} (h : okT Y fr len) (hY : ∀ i, fr - 1 ≤ i → Y' i = Y i) : okT Y' fr len := by
  have hd := dep_congr (Y := Y) (Y' := Y') (fr := fr) (fun i hi => hY i (by omega))
  refine ⟨h.1, (hY _ (by omega)).trans h.2.1, fun k hk => ?_, fun hl => (hd len).trans (h.2.2.2 hl)⟩
  obtain ⟨is, h1, h2⟩ := h.2.2.1 k hk
  exact ⟨is, (hY _ (by omega)).trans h1, by rw [hd]; exact h2⟩
theorem YOk.to {Y Y' : Nat → Int32} {n hN : Nat} (h : YOk Y n hN) (h0 : ∀ i, (i = 0 ∨ i = 1 ∨ i = 4 ∨ i = 5 ∨ 321 ≤ i) → Y' i = Y i) (hk : ∀ c, c < n → Y' (7 + 6 * c + 0) = Y (7 + 6 * c + 0)) (ha : ∀ c, c < n → Y' (7 + 6 * c + 4) = -1 ∨ ∃ h, h < hN ∧ Y' (7 + 6 * c + 4) = nI h) : YOk Y' n hN := by
  obtain ⟨⟨a1, a2, a3, a4⟩, a5, a6, a7, a8, a9⟩ := h
  refine ⟨⟨(h0 0 (by omega)).trans a1, a2, (h0 1 (by omega)).trans a3, a4⟩, fun c hc => ?_, ha, fun u hu => ?_, ?_, ?_⟩
  · obtain ⟨κ, h1, h2⟩ := a5 c hc
    exact ⟨κ, h1, (hk c hc).trans h2⟩
  · obtain ⟨len, h1⟩ := a7 u hu
    exact ⟨len, h1.congr (fun i hi => h0 i (by omega))⟩
  · obtain ⟨t, h1, h2⟩ := a8
    exact ⟨t, h1, (h0 4 (by omega)).trans h2⟩
  · obtain ⟨t, h1, h2⟩ := a9
    exact ⟨t, h1, (h0 5 (by omega)).trans h2⟩
def plainS (Y : Nat → Int32) (n h c κ : Nat) : Int32 := match κ with
  | 1 => warmS Y n h c - Y (167 + 4 * h + 2) + nI 50 - Y (7 + 6 * c + 1)
  | 2 => warmS Y n h c - Y (167 + 4 * h + 2) + nI 50 + Y (7 + 6 * c + 1) * Y (187 + 5 * c + h)
  | 3 => warmS Y n h c - Y (167 + 4 * h + 2) + nI 50 + fonA Y h c n / nI 2
  | 4 => (warmS Y n h c - Y (167 + 4 * h + 2) + nI 50 - Y (7 + 6 * c + 1)) / nI 2
  | 5 => warmS Y n h c - Y (167 + 4 * h + 2) + nI 50 + Y (7 + 6 * c + 1) * Y (187 + 5 * c + h) + (if nobA Y h c n = true then nI 10 else nI 0)
  | 6 => if nI (popA Y n (nI h) + 1) = Y (167 + 4 * h + 0) ∨ nI (popA Y n (nI h) + 1) = Y (167 + 4 * h + 1) then nI 100 else warmS Y n h c - Y (167 + 4 * h + 2) + nI 50 - Y (7 + 6 * c + 1)
  | _ => warmS Y n h c - Y (167 + 4 * h + 2) + nI 50
def letsS (Y : Nat → Int32) (n h c : Nat) : Int32 := if ¬ Y (321 + 62 * 0) ≤ 0 then heldS (valT Y 0 (nm5 (warmS Y n h c) (Y (167 + 4 * h + 2)) (nI (popA Y n (nI h))) (Y (187 + 5 * c + h)) (ageG Y h c n 0))) (-100) (nI 100) else nI 0
def kN (Y : Nat → Int32) (c : Nat) : Nat := cN Y (7 + 6 * c + 0)
def chS (Y : Nat → Int32) (n h c : Nat) : Int32 := if nI (popA Y n (nI h)) < Y (167 + 4 * h + 1) then heldS (plainS Y n h c (kN Y c) + letsS Y n h c) (nI 0) (nI 100) else nI 0
def bstA (Y : Nat → Int32) (n c : Nat) : Nat → Int32 × Int32
  | 0 => (-1, -1)
  | h + 1 => if (bstA Y n c h).2 < chS Y n h c then (nI h, chS Y n h c) else bstA Y n c h
theorem bst_cases (Y : Nat → Int32) (n c : Nat) : ∀ k, (bstA Y n c k).1 = -1 ∨ ∃ h, h < k ∧ (bstA Y n c k).1 = nI h
  | 0 => Or.inl rfl
  | k + 1 => by
    unfold bstA
    split
    · exact Or.inr ⟨k, by omega, rfl⟩
    · rcases bst_cases Y n c k with h | ⟨h, h1, h2⟩
      · exact Or.inl h
      · exact Or.inr ⟨h, by omega, h2⟩

set_option maxHeartbeats 4000000 in
set_option maxRecDepth 100000 in
theorem r_given (l : Launch) (G : GC) (M : Mm) (Y : Nat → Int32) (u : Nat) (hu : u < 2) (len : Nat) (hok : okT Y (321 + 62 * u + 1) len) (hl0 : 0 < len) (a b c d e : Int32) : CI l G 3 yX10_given cX10_given 7 .int [.ref (gb G + 205), .int (nI u), .int a, .int b, .int c, .int d, .int e] (upA M 206 Y) (valT Y u (nm5 a b c d e)) (fun M' => ∃ X, M' = upA X 206 Y ∧ ex23 M X) := by
  refine Con.of (by decide +kernel) (Nat.le_of_ble_eq_true rfl) ?_
  intro f C hRm hRt _
  show Vc f G NPh (upA M 206 Y) 0 [(0, .ref (gb G + 205)), (1, .int (nI u)), (2, .int a), (3, .int b), (4, .int c), (5, .int d), (6, .int e)] []
  have hx5 : ex23 M (up2 (up2 (up2 (up2 (up2 M 212 0 a) 212 1 b) 212 2 c) 212 3 d) 212 4 e) := (((((ex23.up M 0 a (Or.inl rfl)).tr (ex23.up _ 1 b (Or.inl rfl))).tr (ex23.up _ 2 c (Or.inl rfl))).tr (ex23.up _ 3 d (Or.inl rfl))).tr (ex23.up _ 4 e (Or.inl rfl)))
  have hn5 : ∀ j, j < 5 → (up2 (up2 (up2 (up2 (up2 M 212 0 a) 212 1 b) 212 2 c) 212 3 d) 212 4 e) 212 j = nm5 a b c d e j := by
    intro j hj
    rcases (show j = 0 ∨ j = 1 ∨ j = 2 ∨ j = 3 ∨ j = 4 by omega) with h | h | h | h | h <;> subst h <;> simp [up2_ap, nm5]
  refine v_aload_n C 0 dX10_given_0 rfl ?_
  refine g_X10_35 C (by decide) sh_205 dX10_given_1 ?_
  refine v_iconst C (nI 0) dX10_given_4 (by decide) ?_
  refine v_iload_n C 2 dX10_given_5 rfl ?_
  refine v_iast C (by decide) sh_212 (by omega) (by decide) dX10_given_6 ?_
  refine v_mem (upA (up2 M 212 0 a) 206 Y) (up2_upA_ne _ _ _ _ (by decide)) ?_
  refine v_aload_n C 0 dX10_given_7 rfl ?_
  refine g_X10_35 C (by decide) sh_205 dX10_given_8 ?_
  refine v_iconst C (nI 1) dX10_given_11 (by decide) ?_
  refine v_iload_n C 3 dX10_given_12 rfl ?_
  refine v_iast C (by decide) sh_212 (by omega) (by decide) dX10_given_13 ?_
  refine v_mem (upA (up2 (up2 M 212 0 a) 212 1 b) 206 Y) (up2_upA_ne _ _ _ _ (by decide)) ?_
  refine v_aload_n C 0 dX10_given_14 rfl ?_
  refine g_X10_35 C (by decide) sh_205 dX10_given_15 ?_
  refine v_iconst C (nI 2) dX10_given_18 (by decide) ?_
  refine v_iload C 4 dX10_given_19 rfl ?_
  refine v_iast C (by decide) sh_212 (by omega) (by decide) dX10_given_21 ?_
  refine v_mem (upA (up2 (up2 (up2 M 212 0 a) 212 1 b) 212 2 c) 206 Y) (up2_upA_ne _ _ _ _ (by decide)) ?_
  refine v_aload_n C 0 dX10_given_22 rfl ?_
  refine g_X10_35 C (by decide) sh_205 dX10_given_23 ?_
  refine v_iconst C (nI 3) dX10_given_26 (by decide) ?_
  refine v_iload C 5 dX10_given_27 rfl ?_
  refine v_iast C (by decide) sh_212 (by omega) (by decide) dX10_given_29 ?_
  refine v_mem (upA (up2 (up2 (up2 (up2 M 212 0 a) 212 1 b) 212 2 c) 212 3 d) 206 Y) (up2_upA_ne _ _ _ _ (by decide)) ?_
  refine v_aload_n C 0 dX10_given_30 rfl ?_
  refine g_X10_35 C (by decide) sh_205 dX10_given_31 ?_
  refine v_iconst C (nI 4) dX10_given_34 (by decide) ?_
  refine v_iload C 6 dX10_given_35 rfl ?_
  refine v_iast C (by decide) sh_212 (by omega) (by decide) dX10_given_37 ?_
  refine v_mem (upA (up2 (up2 (up2 (up2 (up2 M 212 0 a) 212 1 b) 212 2 c) 212 3 d) 212 4 e) 206 Y) (up2_upA_ne _ _ _ _ (by decide)) ?_
  refine v_aload_n C 0 dX10_given_38 rfl ?_
  refine v_sipush C (nI 321) dX10_given_39 (by decide) ?_
  refine v_bipush C (nI 62) dX10_given_42 (by decide) ?_
  refine v_iload_n C 1 dX10_given_44 rfl ?_
  refine n_imul C dX10_given_45 ?_
  refine n_iadd C dX10_given_46 ?_
  refine v_iconst C (nI 1) dX10_given_47 (by decide) ?_
  refine n_iadd C dX10_given_48 ?_
  refine n_callVi C hRm [.int (nI ((321 + (62 * u)) + 1))] cw_X10_worked ml_X10_229 (by decide) sh_205 (by decide) rfl (r_worked l G M Y ((321 + (62 * u)) + 1) len (by omega) hok hl0 (nm5 a b c d e) (up2 (up2 (up2 (up2 (up2 M 212 0 a) 212 1 b) 212 2 c) 212 3 d) 212 4 e) hx5 hn5) (by decide) rfl rfl (Nat.le_of_ble_eq_true rfl) dX10_given_49 (fun M9 hP_49 => ?_)
  obtain ⟨X9, rfl, hX9⟩ := hP_49
  exact n_iret C hRt rfl dX10_given_52 (by unfold valT; rw [cN_of (show Y (321 + 62 * u) = nI len from hok.2.1) (by have := hok.1; omega)]) ⟨X9, rfl, hX9⟩
set_option maxHeartbeats 4000000 in
set_option maxRecDepth 100000 in
theorem r_hasText (l : Launch) (G : GC) (M : Mm) (Y : Nat → Int32) (u : Nat) (hu : u < 2) : CP l G 1 yX10_hasText cX10_hasText 2 .boolean [.ref (gb G + 205), .int (nI u)] (upA M 206 Y) (b2i (¬ Y (321 + 62 * u) ≤ 0)) := by
  refine Con.of (by decide +kernel) (Nat.le_of_ble_eq_true rfl) ?_
  intro f C hRm hRt _
  show Vc f G NPh (upA M 206 Y) 0 [(0, .ref (gb G + 205)), (1, .int (nI u))] []
  refine v_aload_n C 0 dX10_hasText_0 rfl ?_
  refine g_X10_9 C (by decide) sh_205 dX10_hasText_1 ?_
  refine v_sipush C (nI 321) dX10_hasText_4 (by decide) ?_
  refine v_bipush C (nI 62) dX10_hasText_7 (by decide) ?_
  refine v_iload_n C 1 dX10_hasText_9 rfl ?_
  refine n_imul C dX10_hasText_10 ?_
  refine n_iadd C dX10_hasText_11 ?_
  refine n_now_ld C (by decide) sh_206 (by omega) (by decide) dX10_hasText_12 ?_
  refine v_if_le C 20 dX10_hasText_13 rfl (fun h_13 => ?_) (fun h_13 => ?_)
  · skip
    refine v_iconst C (nI 0) dX10_hasText_20 (by decide) ?_
    exact n_iret C hRt rfl dX10_hasText_21 (by first | exact b2i_T (by assumption) | exact b2i_F (not_not_intro (by assumption))) rfl
  · skip
    refine v_iconst C (nI 1) dX10_hasText_16 (by decide) ?_
    refine v_goto C 21 dX10_hasText_17 rfl ?_
    exact n_iret C hRt rfl dX10_hasText_21 (by first | exact b2i_T (by assumption) | exact b2i_F (not_not_intro (by assumption))) rfl
set_option maxHeartbeats 4000000 in
set_option maxRecDepth 100000 in
theorem r_plainChance (l : Launch) (G : GC) (M : Mm) (Y : Nat → Int32) (n : Nat) (hn : Y 0 = nI n) (hn2 : n ≤ 10) (c h κ : Nat) (hc : c < 10) (hh : h < 5) (hκ : κ < 7) (hκ2 : Y (7 + 6 * c + 0) = nI κ) : CP l G 4 yX10_plainChance cX10_plainChance 7 .int [.ref (gb G + 205), .int (nI c), .int (nI h)] (upA M 206 Y) (plainS Y n h c κ) := by
  refine Con.of (by decide +kernel) (Nat.le_of_ble_eq_true rfl) ?_
  intro f C hRm hRt _
  show Vc f G NPh (upA M 206 Y) 0 [(0, .ref (gb G + 205)), (1, .int (nI c)), (2, .int (nI h))] []
  have hp9 := popN_le (mskA Y (nI h) n)
  refine v_aload_n C 0 dX10_plainChance_0 rfl ?_
  refine v_iload_n C 2 dX10_plainChance_1 rfl ?_
  refine n_callVp C hRm [.int (nI h)] cw_X10_inHeap ml_X10_112 (by decide) sh_205 (by decide) rfl (r_inHeap l G M Y n hn hn2 (nI h)) (by decide) rfl rfl (Nat.le_of_ble_eq_true rfl) dX10_plainChance_2 ?_
  refine v_top (nI (mskA Y (nI h) n)) (inA_msk _ _ n hn2) ?_
  refine n_callSp C hRm [.int (nI (mskA Y (nI h) n))] cw_X10_bits st_X10_bits ml_X10_115 (r_bits l G (upA M 206 Y) (mskA Y (nI h) n) (by first | omega | exact msk_1024 _ _ (by omega))) (by decide) rfl rfl (Nat.le_of_ble_eq_true rfl) dX10_plainChance_5 ?_
  refine v_istore_n C [(3, .int (nI (popN (mskA Y (nI h) n)))), (0, .ref (gb G + 205)), (1, .int (nI c)), (2, .int (nI h))] dX10_plainChance_8 rfl (by decide) rfl ?_
  refine v_aload_n C 1 dX10_plainChance_9 rfl ?_
  refine v_iload_n C 2 dX10_plainChance_10 rfl ?_
  refine v_iconst C (nI 1) dX10_plainChance_11 (by decide) ?_
  refine n_callVp C hRm [.int (nI c), .int (nI 1)] cw_X10_of ml_X10_86 (by decide) sh_205 (by decide) rfl (r_of l G M Y c 1 (by omega)) (by decide) rfl rfl (Nat.le_of_ble_eq_true rfl) dX10_plainChance_12 ?_
  refine v_istore C [(4, .int (Y (7 + 6 * c + 1))), (3, .int (nI (popN (mskA Y (nI h) n)))), (0, .ref (gb G + 205)), (1, .int (nI c)), (2, .int (nI h))] dX10_plainChance_15 (by decide) rfl ?_
  refine v_aload_n C 2 dX10_plainChance_17 rfl ?_
  refine v_iload_n C 3 dX10_plainChance_18 rfl ?_
  refine v_iload_n C 4 dX10_plainChance_19 rfl ?_
  refine n_callVp C hRm [.int (nI c), .int (nI h)] cw_X10_warmth ml_X10_136 (by decide) sh_205 (by decide) rfl (r_warmth l G M Y n hn hn2 c h (by omega) (by omega)) (by decide) rfl rfl (Nat.le_of_ble_eq_true rfl) dX10_plainChance_20 ?_
  refine v_aload_n C 2 dX10_plainChance_23 rfl ?_
  refine v_iload_n C 4 dX10_plainChance_24 rfl ?_
  refine v_iconst C (nI 2) dX10_plainChance_25 (by decide) ?_
  refine n_callVp C hRm [.int (nI h), .int (nI 2)] cw_X10_heapOf ml_X10_109 (by decide) sh_205 (by decide) rfl (r_heapOf l G M Y h 2 (by omega)) (by decide) rfl rfl (Nat.le_of_ble_eq_true rfl) dX10_plainChance_26 ?_
  refine v_isub C dX10_plainChance_29 ?_
  refine v_bipush C (nI 50) dX10_plainChance_30 (by decide) ?_
  refine v_iadd C dX10_plainChance_32 ?_
  refine v_istore C [(5, .int (((warmS Y n h c) - (Y (167 + 4 * h + 2))) + (nI 50))), (4, .int (Y (7 + 6 * c + 1))), (3, .int (nI (popN (mskA Y (nI h) n)))), (0, .ref (gb G + 205)), (1, .int (nI c)), (2, .int (nI h))] dX10_plainChance_33 (by decide) rfl ?_
  refine v_iload C 0 dX10_plainChance_35 rfl ?_
  refine v_iload C 1 dX10_plainChance_37 rfl ?_
  refine v_aload_n C 3 dX10_plainChance_39 rfl ?_
  refine v_iload_n C 4 dX10_plainChance_40 rfl ?_
  refine v_iload_n C 5 dX10_plainChance_41 rfl ?_
  refine n_callVp C hRm [.int (nI c), .int (nI h)] cw_X10_watching ml_X10_139 (by decide) sh_205 (by decide) rfl (r_watching l G M Y c h (by omega)) (by decide) rfl rfl (Nat.le_of_ble_eq_true rfl) dX10_plainChance_42 ?_
  refine v_imul C dX10_plainChance_45 ?_
  refine v_iadd C dX10_plainChance_46 ?_
  refine v_istore C [(6, .int ((((warmS Y n h c) - (Y (167 + 4 * h + 2))) + (nI 50)) + ((Y (7 + 6 * c + 1)) * (Y (187 + 5 * c + h))))), (5, .int (((warmS Y n h c) - (Y (167 + 4 * h + 2))) + (nI 50))), (4, .int (Y (7 + 6 * c + 1))), (3, .int (nI (popN (mskA Y (nI h) n)))), (0, .ref (gb G + 205)), (1, .int (nI c)), (2, .int (nI h))] dX10_plainChance_47 (by decide) rfl ?_
  refine v_aload_n C 4 dX10_plainChance_49 rfl ?_
  refine v_iload_n C 5 dX10_plainChance_50 rfl ?_
  refine v_iconst C (nI 0) dX10_plainChance_51 (by decide) ?_
  refine n_callVp C hRm [.int (nI c), .int (nI 0)] cw_X10_of ml_X10_86 (by decide) sh_205 (by decide) rfl (r_of l G M Y c 0 (by omega)) (by decide) rfl rfl (Nat.le_of_ble_eq_true rfl) dX10_plainChance_52 ?_
  refine v_top (nI κ) hκ2 ?_
  rcases (show κ = 0 ∨ κ = 1 ∨ κ = 2 ∨ κ = 3 ∨ κ = 4 ∨ κ = 5 ∨ κ = 6 by omega) with h_0 | h_0 | h_0 | h_0 | h_0 | h_0 | h_0
  · subst h_0
    refine v_tableOut C 175 dX10_plainChance_55 (by first | exact Or.inr (by decide +kernel) | exact Or.inl (by decide +kernel)) rfl ?_
    refine v_iload C 1 dX10_plainChance_175 rfl ?_
    exact n_iret C hRt rfl dX10_plainChance_177 (rfl) rfl
  · subst h_0
    refine v_tableIn (off := 37) C 92 dX10_plainChance_55 (by decide +kernel) (by decide +kernel) (by decide +kernel) rfl ?_
    refine v_iload C 1 dX10_plainChance_92 rfl ?_
    refine v_iload C 2 dX10_plainChance_94 rfl ?_
    refine v_isub C dX10_plainChance_96 ?_
    exact n_iret C hRt rfl dX10_plainChance_97 (rfl) rfl
  · subst h_0
    refine v_tableIn (off := 43) C 98 dX10_plainChance_55 (by decide +kernel) (by decide +kernel) (by decide +kernel) rfl ?_
    refine v_iload C 0 dX10_plainChance_98 rfl ?_
    exact n_iret C hRt rfl dX10_plainChance_100 (rfl) rfl
  · subst h_0
    refine v_tableIn (off := 46) C 101 dX10_plainChance_55 (by decide +kernel) (by decide +kernel) (by decide +kernel) rfl ?_
    refine v_iload C 1 dX10_plainChance_101 rfl ?_
    refine v_aload_n C 4 dX10_plainChance_103 rfl ?_
    refine v_iload_n C 5 dX10_plainChance_104 rfl ?_
    refine v_iload_n C 6 dX10_plainChance_105 rfl ?_
    refine n_callVp C hRm [.int (nI c), .int (nI h)] cw_X10_fondest ml_X10_142 (by decide) sh_205 (by decide) rfl (r_fondest l G M Y n hn hn2 c h (by omega) (by omega)) (by decide) rfl rfl (Nat.le_of_ble_eq_true rfl) dX10_plainChance_106 ?_
    refine v_iconst C (nI 2) dX10_plainChance_109 (by decide) ?_
    refine v_idiv C dX10_plainChance_110 (by decide) ?_
    refine v_iadd C dX10_plainChance_111 ?_
    exact n_iret C hRt rfl dX10_plainChance_112 (rfl) rfl
  · subst h_0
    refine v_tableIn (off := 58) C 113 dX10_plainChance_55 (by decide +kernel) (by decide +kernel) (by decide +kernel) rfl ?_
    refine v_iload C 1 dX10_plainChance_113 rfl ?_
    refine v_iload C 2 dX10_plainChance_115 rfl ?_
    refine v_isub C dX10_plainChance_117 ?_
    refine v_iconst C (nI 2) dX10_plainChance_118 (by decide) ?_
    refine v_idiv C dX10_plainChance_119 (by decide) ?_
    exact n_iret C hRt rfl dX10_plainChance_120 (rfl) rfl
  · subst h_0
    refine v_tableIn (off := 66) C 121 dX10_plainChance_55 (by decide +kernel) (by decide +kernel) (by decide +kernel) rfl ?_
    refine v_iload C 0 dX10_plainChance_121 rfl ?_
    refine v_aload_n C 4 dX10_plainChance_123 rfl ?_
    refine v_iload_n C 5 dX10_plainChance_124 rfl ?_
    refine v_iload_n C 6 dX10_plainChance_125 rfl ?_
    refine n_callVp C hRm [.int (nI c), .int (nI h)] cw_X10_likesNobody ml_X10_145 (by decide) sh_205 (by decide) rfl (r_likesNobody l G M Y n hn hn2 c h (by omega) (by omega)) (by decide) rfl rfl (Nat.le_of_ble_eq_true rfl) dX10_plainChance_126 ?_
    refine nb_if_eq C 137 dX10_plainChance_129 rfl (fun h_129 => ?_) (fun h_129 => ?_)
    · skip
      refine v_iconst C (nI 0) dX10_plainChance_137 (by decide) ?_
      refine v_iadd C dX10_plainChance_138 ?_
      exact n_iret C hRt rfl dX10_plainChance_139 (by show _ = _ + (if _ then _ else _); first | rw [if_pos (by assumption)] | rw [if_neg (by assumption)]) rfl
    · skip
      refine v_bipush C (nI 10) dX10_plainChance_132 (by decide) ?_
      refine v_goto C 138 dX10_plainChance_134 rfl ?_
      refine v_iadd C dX10_plainChance_138 ?_
      exact n_iret C hRt rfl dX10_plainChance_139 (by show _ = _ + (if _ then _ else _); first | rw [if_pos (by assumption)] | rw [if_neg (by assumption)]) rfl
  · subst h_0
    refine v_tableIn (off := 85) C 140 dX10_plainChance_55 (by decide +kernel) (by decide +kernel) (by decide +kernel) rfl ?_
    refine v_iload_n C 3 dX10_plainChance_140 rfl ?_
    refine v_iconst C (nI 1) dX10_plainChance_141 (by decide) ?_
    refine n_iadd C dX10_plainChance_142 ?_
    refine v_aload_n C 4 dX10_plainChance_143 rfl ?_
    refine v_iload_n C 6 dX10_plainChance_144 rfl ?_
    refine v_iconst C (nI 0) dX10_plainChance_145 (by decide) ?_
    refine n_callVp C hRm [.int (nI h), .int (nI 0)] cw_X10_heapOf ml_X10_109 (by decide) sh_205 (by decide) rfl (r_heapOf l G M Y h 0 (by omega)) (by decide) rfl rfl (Nat.le_of_ble_eq_true rfl) dX10_plainChance_146 ?_
    refine v_icmp_eq C 164 dX10_plainChance_149 rfl (fun h_149 => ?_) (fun h_149 => ?_)
    · skip
      refine v_bipush C (nI 100) dX10_plainChance_164 (by decide) ?_
      refine v_goto C 174 dX10_plainChance_166 rfl ?_
      exact n_iret C hRt rfl dX10_plainChance_174 (by first | exact (if_pos (Or.inl (by assumption))).symm | exact (if_pos (Or.inr (by assumption))).symm | exact (if_neg (fun q => q.elim (fun z => absurd z (by assumption)) (fun z => absurd z (by assumption)))).symm) rfl
    · skip
      refine v_iload_n C 3 dX10_plainChance_152 rfl ?_
      refine v_iconst C (nI 1) dX10_plainChance_153 (by decide) ?_
      refine n_iadd C dX10_plainChance_154 ?_
      refine v_aload_n C 4 dX10_plainChance_155 rfl ?_
      refine v_iload_n C 6 dX10_plainChance_156 rfl ?_
      refine v_iconst C (nI 1) dX10_plainChance_157 (by decide) ?_
      refine n_callVp C hRm [.int (nI h), .int (nI 1)] cw_X10_heapOf ml_X10_109 (by decide) sh_205 (by decide) rfl (r_heapOf l G M Y h 1 (by omega)) (by decide) rfl rfl (Nat.le_of_ble_eq_true rfl) dX10_plainChance_158 ?_
      refine v_icmp_ne C 169 dX10_plainChance_161 rfl (fun h_161 => ?_) (fun h_161 => ?_)
      · skip
        refine v_iload C 1 dX10_plainChance_169 rfl ?_
        refine v_iload C 2 dX10_plainChance_171 rfl ?_
        refine v_isub C dX10_plainChance_173 ?_
        exact n_iret C hRt rfl dX10_plainChance_174 (by first | exact (if_pos (Or.inl (by assumption))).symm | exact (if_pos (Or.inr (by assumption))).symm | exact (if_neg (fun q => q.elim (fun z => absurd z (by assumption)) (fun z => absurd z (by assumption)))).symm) rfl
      · skip
        refine v_bipush C (nI 100) dX10_plainChance_164 (by decide) ?_
        refine v_goto C 174 dX10_plainChance_166 rfl ?_
        exact n_iret C hRt rfl dX10_plainChance_174 (by first | exact (if_pos (Or.inl (by assumption))).symm | exact (if_pos (Or.inr (by assumption))).symm | exact (if_neg (fun q => q.elim (fun z => absurd z (by assumption)) (fun z => absurd z (by assumption)))).symm) rfl
set_option maxHeartbeats 4000000 in
set_option maxRecDepth 100000 in
theorem r_chance (l : Launch) (G : GC) (M : Mm) (Y : Nat → Int32) (n hN : Nat) (hY : YOk Y n hN) (c h : Nat) (hc : c < n) (hh : h < hN) : CI l G 5 yX10_chance cX10_chance 5 .int [.ref (gb G + 205), .int (nI c), .int (nI h)] (upA M 206 Y) (chS Y n h c) (fun M' => ∃ X, M' = upA X 206 Y ∧ ex23 M X) := by
  refine Con.of (by decide +kernel) (Nat.le_of_ble_eq_true rfl) ?_
  intro f C hRm hRt _
  show Vc f G NPh (upA M 206 Y) 0 [(0, .ref (gb G + 205)), (1, .int (nI c)), (2, .int (nI h))] []
  obtain ⟨⟨hn, hn2, hhn, hhn2⟩, hkk, -, htx, -, -⟩ := hY
  obtain ⟨κ, hκ, hκ2⟩ := hkk c hc
  obtain ⟨len, hok⟩ := htx 0 (by decide)
  have hp9 : popA Y n (nI h) ≤ 10 := popN_le _
  have hl0 : ¬ Y (321 + 62 * 0) ≤ 0 → 0 < len := fun q => by
    rcases Nat.eq_zero_or_pos len with h0 | h0
    · subst h0; exact absurd (by rw [show Y (321 + 62 * 0) = nI 0 from hok.2.1]; decide) q
    · exact h0
  refine v_aload_n C 0 dX10_chance_0 rfl ?_
  refine v_iload_n C 2 dX10_chance_1 rfl ?_
  refine n_callVp C hRm [.int (nI h)] cw_X10_inHeap ml_X10_112 (by decide) sh_205 (by decide) rfl (r_inHeap l G M Y n hn hn2 (nI h)) (by decide) rfl rfl (Nat.le_of_ble_eq_true rfl) dX10_chance_2 ?_
  refine v_top (nI (mskA Y (nI h) n)) (inA_msk _ _ n hn2) ?_
  refine n_callSp C hRm [.int (nI (mskA Y (nI h) n))] cw_X10_bits st_X10_bits ml_X10_115 (r_bits l G (upA M 206 Y) (mskA Y (nI h) n) (by first | omega | exact msk_1024 _ _ (by omega))) (by decide) rfl rfl (Nat.le_of_ble_eq_true rfl) dX10_chance_5 ?_
  refine v_top (nI (popA Y n (nI h))) rfl ?_
  refine v_istore_n C [(3, .int (nI (popA Y n (nI h)))), (0, .ref (gb G + 205)), (1, .int (nI c)), (2, .int (nI h))] dX10_chance_8 rfl (by decide) rfl ?_
  refine v_iload_n C 0 dX10_chance_9 rfl ?_
  refine v_aload_n C 1 dX10_chance_10 rfl ?_
  refine v_iload_n C 3 dX10_chance_11 rfl ?_
  refine v_iconst C (nI 1) dX10_chance_12 (by decide) ?_
  refine n_callVp C hRm [.int (nI h), .int (nI 1)] cw_X10_heapOf ml_X10_109 (by decide) sh_205 (by decide) rfl (r_heapOf l G M Y h 1 (by omega)) (by decide) rfl rfl (Nat.le_of_ble_eq_true rfl) dX10_chance_13 ?_
  refine v_icmp_lt C 21 dX10_chance_16 rfl (fun h_16 => ?_) (fun h_16 => ?_)
  · skip
    refine v_aload_n C 1 dX10_chance_21 rfl ?_
    refine v_iconst C (nI 0) dX10_chance_22 (by decide) ?_
    refine n_callVp C hRm [.int (nI 0)] cw_X10_hasText ml_X10_148 (by decide) sh_205 (by decide) rfl (r_hasText l G M Y 0 (by omega)) (by decide) rfl rfl (Nat.le_of_ble_eq_true rfl) dX10_chance_23 ?_
    refine nb_if_eq C 69 dX10_chance_26 rfl (fun h_26 => ?_) (fun h_26 => ?_)
    · skip
      refine v_iconst C (nI 0) dX10_chance_69 (by decide) ?_
      refine v_istore C [(4, .int (nI 0)), (3, .int (nI (popA Y n (nI h)))), (0, .ref (gb G + 205)), (1, .int (nI c)), (2, .int (nI h))] dX10_chance_70 (by decide) rfl ?_
      refine v_aload_n C 2 dX10_chance_72 rfl ?_
      refine v_iload_n C 3 dX10_chance_73 rfl ?_
      refine v_iload_n C 4 dX10_chance_74 rfl ?_
      refine n_callVp C hRm [.int (nI c), .int (nI h)] cw_X10_plainChance ml_X10_162 (by decide) sh_205 (by decide) rfl (r_plainChance l G M Y n hn hn2 c h κ (by omega) (by omega) hκ hκ2) (by decide) rfl rfl (Nat.le_of_ble_eq_true rfl) dX10_chance_75 ?_
      refine v_iload C 0 dX10_chance_78 rfl ?_
      refine v_iadd C dX10_chance_80 ?_
      refine v_iconst C (nI 0) dX10_chance_81 (by decide) ?_
      refine v_bipush C (nI 100) dX10_chance_82 (by decide) ?_
      refine n_callSp C hRm [.int ((plainS Y n h c κ) + (nI 0)), .int (nI 0), .int (nI 100)] cw_X10_held st_X10_held ml_X10_158 (r_held l G (upA M 206 Y) ((plainS Y n h c κ) + (nI 0)) (nI 0) (nI 100)) (by decide) rfl rfl (Nat.le_of_ble_eq_true rfl) dX10_chance_84 ?_
      exact n_iret C hRt rfl dX10_chance_87 (by unfold chS letsS kN; rw [cN_of hκ2 (by omega), if_pos h_16, if_neg h_26]) ⟨M, rfl, ex23.rf M⟩
    · skip
      refine v_aload_n C 1 dX10_chance_29 rfl ?_
      refine v_iconst C (nI 0) dX10_chance_30 (by decide) ?_
      refine v_aload_n C 1 dX10_chance_31 rfl ?_
      refine v_iload_n C 2 dX10_chance_32 rfl ?_
      refine v_iload_n C 3 dX10_chance_33 rfl ?_
      refine n_callVp C hRm [.int (nI c), .int (nI h)] cw_X10_warmth ml_X10_136 (by decide) sh_205 (by decide) rfl (r_warmth l G M Y n hn hn2 c h (by omega) (by omega)) (by decide) rfl rfl (Nat.le_of_ble_eq_true rfl) dX10_chance_34 ?_
      refine v_aload_n C 1 dX10_chance_37 rfl ?_
      refine v_iload_n C 3 dX10_chance_38 rfl ?_
      refine v_iconst C (nI 2) dX10_chance_39 (by decide) ?_
      refine n_callVp C hRm [.int (nI h), .int (nI 2)] cw_X10_heapOf ml_X10_109 (by decide) sh_205 (by decide) rfl (r_heapOf l G M Y h 2 (by omega)) (by decide) rfl rfl (Nat.le_of_ble_eq_true rfl) dX10_chance_40 ?_
      refine v_iload_n C 0 dX10_chance_43 rfl ?_
      refine v_aload_n C 1 dX10_chance_44 rfl ?_
      refine v_iload_n C 2 dX10_chance_45 rfl ?_
      refine v_iload_n C 3 dX10_chance_46 rfl ?_
      refine n_callVp C hRm [.int (nI c), .int (nI h)] cw_X10_watching ml_X10_139 (by decide) sh_205 (by decide) rfl (r_watching l G M Y c h (by omega)) (by decide) rfl rfl (Nat.le_of_ble_eq_true rfl) dX10_chance_47 ?_
      refine v_aload_n C 1 dX10_chance_50 rfl ?_
      refine v_iload_n C 2 dX10_chance_51 rfl ?_
      refine v_iload_n C 3 dX10_chance_52 rfl ?_
      refine n_callVp C hRm [.int (nI c), .int (nI h)] cw_X10_agesApart ml_X10_151 (by decide) sh_205 (by decide) rfl (r_agesApart l G M Y n hn hn2 c h (by omega) (by omega)) (by decide) rfl rfl (Nat.le_of_ble_eq_true rfl) dX10_chance_53 ?_
      refine n_callVi C hRm [.int (nI 0), .int (warmS Y n h c), .int (Y (167 + 4 * h + 2)), .int (nI (popA Y n (nI h))), .int (Y (187 + 5 * c + h)), .int (ageG Y h c n 0)] cw_X10_given ml_X10_154 (by decide) sh_205 (by decide) rfl (r_given l G M Y 0 (by decide) len hok (hl0 h_26) (warmS Y n h c) (Y (167 + 4 * h + 2)) (nI (popA Y n (nI h))) (Y (187 + 5 * c + h)) (ageG Y h c n 0)) (by decide) rfl rfl (Nat.le_of_ble_eq_true rfl) dX10_chance_56 (fun M9 hP_56 => ?_)
      obtain ⟨X9, rfl, hX9⟩ := hP_56
      refine v_bipush C (-100) dX10_chance_59 (by decide) ?_
      refine v_bipush C (nI 100) dX10_chance_61 (by decide) ?_
      refine n_callSp C hRm [.int (valT Y 0 (nm5 (warmS Y n h c) (Y (167 + 4 * h + 2)) (nI (popA Y n (nI h))) (Y (187 + 5 * c + h)) (ageG Y h c n 0))), .int (-100), .int (nI 100)] cw_X10_held st_X10_held ml_X10_158 (r_held l G (upA X9 206 Y) (valT Y 0 (nm5 (warmS Y n h c) (Y (167 + 4 * h + 2)) (nI (popA Y n (nI h))) (Y (187 + 5 * c + h)) (ageG Y h c n 0))) (-100) (nI 100)) (by decide) rfl rfl (Nat.le_of_ble_eq_true rfl) dX10_chance_63 ?_
      refine v_goto C 70 dX10_chance_66 rfl ?_
      refine v_istore C [(4, .int (heldS (valT Y 0 (nm5 (warmS Y n h c) (Y (167 + 4 * h + 2)) (nI (popA Y n (nI h))) (Y (187 + 5 * c + h)) (ageG Y h c n 0))) (-100) (nI 100))), (3, .int (nI (popA Y n (nI h)))), (0, .ref (gb G + 205)), (1, .int (nI c)), (2, .int (nI h))] dX10_chance_70 (by decide) rfl ?_
      refine v_aload_n C 2 dX10_chance_72 rfl ?_
      refine v_iload_n C 3 dX10_chance_73 rfl ?_
      refine v_iload_n C 4 dX10_chance_74 rfl ?_
      refine n_callVp C hRm [.int (nI c), .int (nI h)] cw_X10_plainChance ml_X10_162 (by decide) sh_205 (by decide) rfl (r_plainChance l G X9 Y n hn hn2 c h κ (by omega) (by omega) hκ hκ2) (by decide) rfl rfl (Nat.le_of_ble_eq_true rfl) dX10_chance_75 ?_
      refine v_iload C 0 dX10_chance_78 rfl ?_
      refine v_iadd C dX10_chance_80 ?_
      refine v_iconst C (nI 0) dX10_chance_81 (by decide) ?_
      refine v_bipush C (nI 100) dX10_chance_82 (by decide) ?_
      refine n_callSp C hRm [.int ((plainS Y n h c κ) + (heldS (valT Y 0 (nm5 (warmS Y n h c) (Y (167 + 4 * h + 2)) (nI (popA Y n (nI h))) (Y (187 + 5 * c + h)) (ageG Y h c n 0))) (-100) (nI 100))), .int (nI 0), .int (nI 100)] cw_X10_held st_X10_held ml_X10_158 (r_held l G (upA X9 206 Y) ((plainS Y n h c κ) + (heldS (valT Y 0 (nm5 (warmS Y n h c) (Y (167 + 4 * h + 2)) (nI (popA Y n (nI h))) (Y (187 + 5 * c + h)) (ageG Y h c n 0))) (-100) (nI 100))) (nI 0) (nI 100)) (by decide) rfl rfl (Nat.le_of_ble_eq_true rfl) dX10_chance_84 ?_
      exact n_iret C hRt rfl dX10_chance_87 (by unfold chS letsS kN; rw [cN_of hκ2 (by omega), if_pos h_16, if_pos h_26]) ⟨X9, rfl, hX9⟩
  · skip
    refine v_iconst C (nI 0) dX10_chance_19 (by decide) ?_
    exact n_iret C hRt rfl dX10_chance_20 (by unfold chS; rw [if_neg h_16]) ⟨M, rfl, ex23.rf M⟩
set_option maxHeartbeats 4000000 in
set_option maxRecDepth 100000 in
theorem r_bestHeap (l : Launch) (G : GC) (M : Mm) (Y : Nat → Int32) (n hN : Nat) (hY : YOk Y n hN) (c : Nat) (hc : c < n) : CI l G 6 yX10_bestHeap cX10_bestHeap 6 .int [.ref (gb G + 205), .int (nI c)] (upA M 206 Y) ((bstA Y n c hN).1) (fun M' => ∃ X, M' = upA X 206 Y ∧ ex23 M X) := by
  refine Con.of (by decide +kernel) (Nat.le_of_ble_eq_true rfl) ?_
  intro f C hRm hRt _
  have LB : ∀ (kk : Nat) (h : Nat) (b : Int32) (mo : Int32) (X : Mm), hN - h = kk → h ≤ hN → ex23 M X → b = (bstA Y n c h).1 → mo = (bstA Y n c h).2 → Vc f G NPh (upA X 206 Y) 7 [(4, .int (nI h)), (3, .int mo), (2, .int b), (0, .ref (gb G + 205)), (1, .int (nI c))] [] := by
    intro kk
    induction kk using Nat.strongRecOn with
    | _ kk ihLB =>
      intro h b mo X hkk hh hX hb hm
      have h5N := hY.1.2.2.2
      have h10n := hY.1.2.1
      refine v_iload C 0 dX10_bestHeap_7 rfl ?_
      refine v_aload_n C 3 dX10_bestHeap_9 rfl ?_
      refine g_X10_9 C (by decide) sh_205 dX10_bestHeap_10 ?_
      refine v_iconst C (nI 1) dX10_bestHeap_13 (by decide) ?_
      refine n_now_ld C (by decide) sh_206 (by omega) (by decide) dX10_bestHeap_14 ?_
      refine v_top (nI hN) hY.1.2.2.1 ?_
      refine n_icmp_ge C (by omega) (by omega) 45 dX10_bestHeap_15 rfl (fun h_15 => ?_) (fun h_15 => ?_)
      · skip
        refine v_iload_n C 2 dX10_bestHeap_45 rfl ?_
        (have h5 : h = hN := (by omega)); subst h5
        exact n_iret C hRt rfl dX10_bestHeap_46 hb ⟨X, rfl, hX⟩
      · skip
        refine v_aload_n C 3 dX10_bestHeap_18 rfl ?_
        refine v_iload_n C 4 dX10_bestHeap_19 rfl ?_
        refine v_iload C 0 dX10_bestHeap_20 rfl ?_
        refine n_callVi C hRm [.int (nI c), .int (nI h)] cw_X10_chance ml_X10_165 (by decide) sh_205 (by decide) rfl (r_chance l G X Y n hN hY c h (by omega) (by omega)) (by decide) rfl rfl (Nat.le_of_ble_eq_true rfl) dX10_bestHeap_22 (fun M9 hP_22 => ?_)
        obtain ⟨X9, rfl, hX9⟩ := hP_22
        refine v_istore C [(5, .int (chS Y n h c)), (4, .int (nI h)), (3, .int mo), (2, .int b), (0, .ref (gb G + 205)), (1, .int (nI c))] dX10_bestHeap_25 (by decide) rfl ?_
        refine v_iload C 0 dX10_bestHeap_27 rfl ?_
        refine v_iload_n C 2 dX10_bestHeap_29 rfl ?_
        refine v_icmp_le C 39 dX10_bestHeap_30 rfl (fun h_30 => ?_) (fun h_30 => ?_)
        · skip
          refine v_iinc C (nI (h + 1)) 1 [(4, .int (nI (h + 1))), (5, .int (chS Y n h c)), (3, .int mo), (2, .int b), (0, .ref (gb G + 205)), (1, .int (nI c))] dX10_bestHeap_39 rfl (nI_add _ _) (by decide) rfl ?_
          refine v_goto C 7 dX10_bestHeap_42 rfl ?_
          refine v_sub [0, 2, 3, 4, 5] [(4, .int (nI (h + 1))), (3, .int mo), (2, .int b), (0, .ref (gb G + 205)), (1, .int (nI c))] rfl ?_
          exact ihLB _ (by omega) (h + 1) b mo X9  rfl (by omega) (by exact hX.tr hX9) (by subst hb; subst hm; simp only [bstA]; first | rw [if_neg (Int32.not_lt.mpr h_30)] | rw [if_pos (Int32.not_le.mp h_30)]) (by subst hb; subst hm; simp only [bstA]; first | rw [if_neg (Int32.not_lt.mpr h_30)] | rw [if_pos (Int32.not_le.mp h_30)])
        · skip
          refine v_iload C 0 dX10_bestHeap_33 rfl ?_
          refine v_istore_n C [(3, .int (chS Y n h c)), (5, .int (chS Y n h c)), (4, .int (nI h)), (2, .int b), (0, .ref (gb G + 205)), (1, .int (nI c))] dX10_bestHeap_35 rfl (by decide) rfl ?_
          refine v_iload C 2 dX10_bestHeap_36 rfl ?_
          refine v_istore_n C [(2, .int (nI h)), (3, .int (chS Y n h c)), (5, .int (chS Y n h c)), (4, .int (nI h)), (0, .ref (gb G + 205)), (1, .int (nI c))] dX10_bestHeap_38 rfl (by decide) rfl ?_
          refine v_iinc C (nI (h + 1)) 3 [(4, .int (nI (h + 1))), (2, .int (nI h)), (3, .int (chS Y n h c)), (5, .int (chS Y n h c)), (0, .ref (gb G + 205)), (1, .int (nI c))] dX10_bestHeap_39 rfl (nI_add _ _) (by decide) rfl ?_
          refine v_goto C 7 dX10_bestHeap_42 rfl ?_
          refine v_sub [0, 2, 1, 4, 5] [(4, .int (nI (h + 1))), (3, .int (chS Y n h c)), (2, .int (nI h)), (0, .ref (gb G + 205)), (1, .int (nI c))] rfl ?_
          exact ihLB _ (by omega) (h + 1) (nI h) (chS Y n h c) X9  rfl (by omega) (by exact hX.tr hX9) (by subst hb; subst hm; simp only [bstA]; first | rw [if_neg (Int32.not_lt.mpr h_30)] | rw [if_pos (Int32.not_le.mp h_30)]) (by subst hb; subst hm; simp only [bstA]; first | rw [if_neg (Int32.not_lt.mpr h_30)] | rw [if_pos (Int32.not_le.mp h_30)])
  show Vc f G NPh (upA M 206 Y) 0 [(0, .ref (gb G + 205)), (1, .int (nI c))] []
  refine v_iconst C (-1) dX10_bestHeap_0 (by decide) ?_
  refine v_istore_n C [(2, .int (-1)), (0, .ref (gb G + 205)), (1, .int (nI c))] dX10_bestHeap_1 rfl (by decide) rfl ?_
  refine v_iconst C (-1) dX10_bestHeap_2 (by decide) ?_
  refine v_istore_n C [(3, .int (-1)), (2, .int (-1)), (0, .ref (gb G + 205)), (1, .int (nI c))] dX10_bestHeap_3 rfl (by decide) rfl ?_
  refine v_iconst C (nI 0) dX10_bestHeap_4 (by decide) ?_
  refine v_istore C [(4, .int (nI 0)), (3, .int (-1)), (2, .int (-1)), (0, .ref (gb G + 205)), (1, .int (nI c))] dX10_bestHeap_5 (by decide) rfl ?_
  refine v_sub [0, 1, 2, 3, 4] [(4, .int (nI 0)), (3, .int (-1)), (2, .int (-1)), (0, .ref (gb G + 205)), (1, .int (nI c))] rfl ?_
  exact LB _ 0 (-1) (-1) M  rfl (by omega) (by exact ex23.rf M) (by rfl) (by rfl)
