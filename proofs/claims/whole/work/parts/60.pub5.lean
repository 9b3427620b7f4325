theorem row_ne {M : Mm} {k L s a : Nat} {v : Int32} (h0 : a ≠ k) (h1 : a ≠ k + 1) : rowM M k L s v a = M a := by
  unfold rowM
  split
  · rw [up2_ne _ _ _ h0, up2_ne _ _ _ h1]
  · rfl
theorem row_lt {M : Mm} {k L s : Nat} {v : Int32} (h : s < L) : rowM M k L s v = up2 (up2 M (k + 1) s v) k 1 (nI (s + 1)) := if_pos h
theorem yk_wait {Y Y' : Nat → Int32} {n hN t : Nat} (hY : YOk Y n hN) (ht : t ≤ 24) (h5 : Y' 5 = nI t) (hY' : ∀ i, i ≠ 5 → ¬ (297 ≤ i ∧ i < 321) → Y' i = Y i) : YOk Y' n hN := by
  obtain ⟨⟨a, b, c, d⟩, e, f, g, h, _⟩ := hY
  refine ⟨⟨by rw [hY' _ (by omega) (by omega)]; exact a, b, by rw [hY' _ (by omega) (by omega)]; exact c, d⟩, fun q hq => by rw [hY' _ (by omega) (by omega)]; exact e q hq, fun q hq => by rw [hY' _ (by omega) (by omega)]; exact f q hq, fun u hu => ?_, by rw [hY' _ (by omega) (by omega)]; exact h, ⟨t, ht, h5⟩⟩
  obtain ⟨len, hok⟩ := g u hu
  exact ⟨len, hok.congr (fun i hi => hY' i (by omega) (by omega))⟩
theorem yk_wait0 {Y : Nat → Int32} {n hN : Nat} (hY : YOk Y n hN) : YOk (upd Y 5 (nI 0)) n hN := yk_wait hY (Nat.zero_le _) (upd_eq _ _ _) (fun i h1 _ => upd_ne _ _ h1)
theorem yk_tape {Y Y' : Nat → Int32} {n hN t : Nat} (hY : YOk Y n hN) (ht : t ≤ 60) (h5 : Y' 4 = nI t) (hY' : ∀ i, i ≠ 4 → ¬ (237 ≤ i ∧ i < 297) → Y' i = Y i) : YOk Y' n hN := by
  obtain ⟨⟨a, b, c, d⟩, e, f, g, _, h⟩ := hY
  refine ⟨⟨by rw [hY' _ (by omega) (by omega)]; exact a, b, by rw [hY' _ (by omega) (by omega)]; exact c, d⟩, fun q hq => by rw [hY' _ (by omega) (by omega)]; exact e q hq, fun q hq => by rw [hY' _ (by omega) (by omega)]; exact f q hq, fun u hu => ?_, ⟨t, ht, h5⟩, by rw [hY' _ (by omega) (by omega)]; exact h⟩
  obtain ⟨len, hok⟩ := g u hu
  exact ⟨len, hok.congr (fun i hi => hY' i (by omega) (by omega))⟩
theorem fd_hi {Y : Nat → Int32} {t : Nat} (x : Int64) : ∀ k, t + k ≤ 60 → ∀ i, i ≠ 4 → ¬ (237 ≤ i ∧ i < 297) → fdA Y t x k i = Y i
  | 0, _, _, _, _ => rfl
  | k + 1, hk, i, h1, h2 => by
    unfold fdA
    rw [upd_ne _ _ h1, upd_ne _ _ (by omega)]
    exact fd_hi x k (by omega) i h1 h2
theorem fd_4 {Y : Nat → Int32} {t : Nat} (ht : Y 4 = nI t) (x : Int64) : ∀ k, fdA Y t x k 4 = nI (t + k)
  | 0 => ht
  | k + 1 => upd_eq _ _ _
theorem yk_fd {Y : Nat → Int32} {n hN t : Nat} (hY : YOk Y n hN) (ht : Y 4 = nI t) (x : Int64) {k : Nat} (hk : t + k ≤ 60) : YOk (fdA Y t x k) n hN := yk_tape hY hk (fd_4 ht x k) (fd_hi x k hk)
section
variable {f : FC} {G : GC} {ph : Ph} {M : Mm} {own : String} {cc : ByteArray} {nL pc : Nat} {lv : List (Nat × Value)} {rest : List Value}
theorem v_lushr (C : Ctx f G own cc nL) {x : Int64} {y : Int32} (hd : decode cc pc = .ok (.lushr, 1)) (k : Vc f G ph M (pc + 1) lv (.long ((x.toUInt64 >>> (y.toInt64.toUInt64 &&& Int64.toUInt64 63)).toInt64) :: rest)) : Vc f G ph M pc lv (.int y :: .long x :: rest) := by
  obtain ⟨p, l, e, R, s, m, args, below, meth, c, Q⟩ := f
  obtain ⟨hx, hb, hml, ho, hts, hlk, hvk, hbs, hlow⟩ := C
  intro H locs ls hW hS hl
  exact lv_lushr hx hb hd rfl (k H locs ls hW hS hl)
end
theorem b255 : ∀ j, j < 32 → (255#32).getLsbD j = decide (j < 8) ∧ (255#64).getLsbD j = decide (j < 8) := by decide +kernel
theorem bv_byte (x : BitVec 64) (s : Nat) (hs : s + 8 ≤ 64) : (x >>> s).signExtend 32 &&& 255#32 = (x.sshiftRight s &&& 255#64).signExtend 32 := by
  apply BitVec.eq_of_getLsbD_eq
  intro j hj
  obtain ⟨h32, h64⟩ := b255 j hj
  rw [BitVec.getLsbD_and, BitVec.getLsbD_signExtend, BitVec.getLsbD_signExtend, if_pos (show j < 64 by omega), if_pos (show j < 64 by omega), BitVec.getLsbD_and, h32, h64, BitVec.getLsbD_ushiftRight, BitVec.getLsbD_sshiftRight]
  by_cases h : j < 8
  · simp [h, hj, show j < 64 by omega, show s + j < 64 by omega]
  · simp [h]
def blL (x : Int64) (i : Nat) : Int32 := Int64.toInt32 ((x.toUInt64 >>> ((nI (8 * i)).toInt64.toUInt64 &&& Int64.toUInt64 63)).toInt64) &&& nI 255
theorem bl_eq (x : Int64) : ∀ i, i < 8 → blL x i = byR x i := by
  intro i hi
  apply Int32.toBitVec_inj.mp
  rcases (show i = 0 ∨ i = 1 ∨ i = 2 ∨ i = 3 ∨ i = 4 ∨ i = 5 ∨ i = 6 ∨ i = 7 by omega) with h | h | h | h | h | h | h | h <;> subst h
  · exact bv_byte x.toBitVec 0 (by decide)
  · exact bv_byte x.toBitVec 8 (by decide)
  · exact bv_byte x.toBitVec 16 (by decide)
  · exact bv_byte x.toBitVec 24 (by decide)
  · exact bv_byte x.toBitVec 32 (by decide)
  · exact bv_byte x.toBitVec 40 (by decide)
  · exact bv_byte x.toBitVec 48 (by decide)
  · exact bv_byte x.toBitVec 56 (by decide)
set_option maxHeartbeats 4000000 in
set_option maxRecDepth 100000 in
theorem x_tell (l : Launch) (G : GC) (M : Mm) (Y : Nat → Int32) (n hN : Nat) (hR : YR M 1 Y n hN) (hY : YOk Y n hN) (hI : yI Y n) (hJ : yJ Y n) (t : Nat) (ht : Y 5 = nI t) (ht2 : t ≤ 24) (v : Int32) : CI l G 3 yX9_tell cX9_tell 2 .int [.ref (gb G + 0), .int v] M ((tellS Y t v).2.1) (PubC M (tellS Y t v).2.2 n hN (tellS Y t v).1) := by
  refine Con.of (by decide +kernel) (Nat.le_of_ble_eq_true rfl) ?_
  intro f C hRm hRt _
  have hn2 := hY.1.2.1
  have h5 := hY.1.2.2.2
  show Vc f G NPh M 0 [(0, .ref (gb G + 0)), (1, .int v)] []
  refine v_aload_n C 0 dX9_tell_0 rfl ?_
  refine g_X9_10 C (by decide) (show shp 0 = 9 from by decide +kernel) dX9_tell_1 ?_
  refine g_X9_295 C (by decide) (s_y (by decide)) dX9_tell_4 ?_
  refine g_X9_153 C (by decide) (show shp 7 = 4 from by decide +kernel) dX9_tell_7 ?_
  refine v_top (Y 5) (hR.1.2.2.2.2.2.2) ?_
  refine v_top (nI t) (ht) ?_
  refine v_bipush C (nI 24) dX9_tell_10 (by decide) ?_
  refine n_icmp_lt C (by omega) (by omega) 21 dX9_tell_12 rfl (fun h_12 => ?_) (fun h_12 => ?_)
  · skip
    refine v_aload_n C 0 dX9_tell_21 rfl ?_
    refine g_X9_10 C (by decide) (show shp 0 = 9 from by decide +kernel) dX9_tell_22 ?_
    refine g_X9_295 C (by decide) (s_y (by decide)) dX9_tell_25 ?_
    refine v_iload_n C 1 dX9_tell_28 rfl ?_
    refine n_callVv C hRm [.int v] cw_X4_add ml_X9_157 (by decide) (show shp 7 = 4 from by decide +kernel) (by decide) rfl (w_add l G M 7 24 (by decide) (show shp 7 = 4 from by decide +kernel) (show shp (7 + 1) = 1000 + 24 from by decide +kernel) (by decide) t (hR.1.2.2.2.2.2.2.trans ht) (by omega) v) (by decide) rfl rfl (Nat.le_of_ble_eq_true rfl) dX9_tell_29 (fun M1 hP_29 => ?_)
    subst hP_29
    have hRq1 : YR (rowM M 7 24 t v) 1 (upd (upd Y (297 + t) v) 5 (nI (t + 1))) n hN := by rw [row_lt (show t < 24 by omega)]; exact hR.wa1 hY ht (by omega) _
    have hFq1 : okG M (rowM M 7 24 t v) := fun a ha => (row_ne (by omega) (by omega)).trans ((okG.rf M) a ha)
    refine v_aload_n C 0 dX9_tell_32 rfl ?_
    refine g_X9_10 C (by decide) (show shp 0 = 9 from by decide +kernel) dX9_tell_33 ?_
    refine g_X9_295 C (by decide) (s_y (by decide)) dX9_tell_36 ?_
    refine g_X9_153 C (by decide) (show shp 7 = 4 from by decide +kernel) dX9_tell_39 ?_
    refine v_top ((upd (upd Y (297 + t) v) 5 (nI (t + 1))) 5) (hRq1.1.2.2.2.2.2.2) ?_
    refine v_top (nI (t + 1)) (upd_eq _ _ _) ?_
    have hS : tellS Y t v = (0, nI (t + 1), upd (upd Y (297 + t) v) 5 (nI (t + 1))) := by unfold tellS; (first | rw [if_neg h_12] | rw [if_pos (Decidable.not_not.mp h_12)] | rw [if_pos h_12] | rw [if_pos (congrArg nI h_12)] | rw [if_neg (fun q9 => h_12 ((nI_eq (by omega) (by omega)).mp q9))] | rw [if_neg (Nat.not_le.mpr h_12)] | rw [if_neg (Nat.not_lt.mpr h_12)] | skip); (first | rw [if_neg (show ¬ t = 24 by omega)] | rw [if_pos (show t = 24 by omega)] | skip); all_goals rfl
    exact n_iret C hRt (rfl) dX9_tell_42 (by rw [hS] <;> rfl) (by rw [hS]; exact pc_ok hRq1 hFq1)
  · skip
    refine v_aload_n C 0 dX9_tell_15 rfl ?_
    refine v_iconst C (nI 4) dX9_tell_16 (by decide) ?_
    refine n_callVi C hRm [.int (nI 4)] cw_X9_error ml_X9_58 (by decide) (show shp 0 = 9 from by decide +kernel) (by decide) rfl (c_error l G M 4 (by decide)) (by decide) rfl rfl (Nat.le_of_ble_eq_true rfl) dX9_tell_17 (fun M5 hP_17 => ?_)
    subst hP_17
    have hS : tellS Y t v = er 4 Y := by unfold tellS; (first | rw [if_neg h_12] | rw [if_pos (Decidable.not_not.mp h_12)] | rw [if_pos h_12] | rw [if_pos (congrArg nI h_12)] | rw [if_neg (fun q9 => h_12 ((nI_eq (by omega) (by omega)).mp q9))] | rw [if_neg (Nat.not_le.mpr h_12)] | rw [if_neg (Nat.not_lt.mpr h_12)] | skip); (first | rw [if_neg (show ¬ t = 24 by omega)] | rw [if_pos (show t = 24 by omega)] | skip); all_goals rfl
    exact n_iret C hRt (rfl) dX9_tell_20 (by rw [hS] <;> rfl) (by rw [hS]; exact pc_er hR (okG.rf M) (show (4 : Nat) ≠ 0 by decide))
set_option maxHeartbeats 4000000 in
set_option maxRecDepth 100000 in
theorem x_told (l : Launch) (G : GC) (M : Mm) (Y : Nat → Int32) (n hN : Nat) (hR : YR M 1 Y n hN) (hY : YOk Y n hN) (hI : yI Y n) (hJ : yJ Y n) (k : Int32) : CI l G 2 yX9_told cX9_told 2 .int [.ref (gb G + 0), .int k] M ((toldE (M 196) Y k).2.1) (PubC M (toldE (M 196) Y k).2.2 n hN (toldE (M 196) Y k).1) := by
  refine Con.of (by decide +kernel) (Nat.le_of_ble_eq_true rfl) ?_
  intro f C hRm hRt _
  have hn2 := hY.1.2.1
  have h5 := hY.1.2.2.2
  show Vc f G NPh M 0 [(0, .ref (gb G + 0)), (1, .int k)] []
  refine v_iload_n C 1 dX9_told_0 rfl ?_
  refine v_iconst C (nI 1) dX9_told_1 (by decide) ?_
  refine v_bipush C (nI 6) dX9_told_2 (by decide) ?_
  refine n_callSp C hRm [.int k, .int (nI 1), .int (nI 6)] cw_X9_outside st_X9_outside ml_X9_54 (c_outside l G M k (nI 1) (nI 6)) (by decide) rfl rfl (Nat.le_of_ble_eq_true rfl) dX9_told_4 ?_
  refine nb_if_eq C 18 dX9_told_7 rfl (fun h_7 => ?_) (fun h_7 => ?_)
  · skip
    obtain ⟨j, hj, rfl⟩ := within_nat2 (by decide) (by decide) (Decidable.not_not.mp h_7)
    refine v_aload_n C 0 dX9_told_18 rfl ?_
    refine g_X9_49 C (by decide) (show shp 0 = 9 from by decide +kernel) dX9_told_19 ?_
    refine v_iload_n C 1 dX9_told_22 rfl ?_
    refine v_iald C (by decide) (show shp 196 = 1000 + 7 from by decide +kernel) (by omega) (by decide) dX9_told_23 ?_
    have hS : toldE (M 196) Y (nI j) = (0, M 196 j, Y) := by unfold toldE; (try rw [nI_clamp (by omega)]); (try rw [nI_clamp (by omega)]); (try rw [nI_clamp (by omega)]); (first | rw [if_neg h_7] | rw [if_pos (Decidable.not_not.mp h_7)] | rw [if_pos h_7] | rw [if_pos (congrArg nI h_7)] | rw [if_neg (fun q9 => h_7 ((nI_eq (by omega) (by omega)).mp q9))] | rw [if_neg (Nat.not_le.mpr h_7)] | rw [if_neg (Nat.not_lt.mpr h_7)] | skip); all_goals rfl
    exact n_iret C hRt (rfl) dX9_told_24 (by rw [hS] <;> rfl) (by rw [hS]; exact pc_ok hR (okG.rf M))
  · skip
    refine v_aload_n C 0 dX9_told_10 rfl ?_
    refine v_iconst C (nI 1) dX9_told_11 (by decide) ?_
    refine n_callVi C hRm [.int (nI 1)] cw_X9_error ml_X9_58 (by decide) (show shp 0 = 9 from by decide +kernel) (by decide) rfl (c_error l G M 1 (by decide)) (by decide) rfl rfl (Nat.le_of_ble_eq_true rfl) dX9_told_12 (fun M5 hP_12 => ?_)
    subst hP_12
    refine v_goto C 24 dX9_told_15 rfl ?_
    have hS : toldE (M 196) Y k = er 1 Y := by unfold toldE; (try rw [nI_clamp (by omega)]); (try rw [nI_clamp (by omega)]); (try rw [nI_clamp (by omega)]); (first | rw [if_neg h_7] | rw [if_pos (Decidable.not_not.mp h_7)] | rw [if_pos h_7] | rw [if_pos (congrArg nI h_7)] | rw [if_neg (fun q9 => h_7 ((nI_eq (by omega) (by omega)).mp q9))] | rw [if_neg (Nat.not_le.mpr h_7)] | rw [if_neg (Nat.not_lt.mpr h_7)] | skip); all_goals rfl
    exact n_iret C hRt (rfl) dX9_told_24 (by rw [hS] <;> rfl) (by rw [hS]; exact pc_er hR (okG.rf M) (show (1 : Nat) ≠ 0 by decide))
set_option maxHeartbeats 4000000 in
set_option maxRecDepth 100000 in
theorem x_count (l : Launch) (G : GC) (M : Mm) (Y : Nat → Int32) (n hN : Nat) (hR : YR M 1 Y n hN) (hY : YOk Y n hN) (hI : yI Y n) (hJ : yJ Y n) (T : Int32) (hT : M 193 1 = T) (what : Int32) : CI l G 3 yX9_count cX9_count 2 .int [.ref (gb G + 0), .int what] M ((countS Y n T what).2.1) (PubC M (countS Y n T what).2.2 n hN (countS Y n T what).1) := by
  refine Con.of (by decide +kernel) (Nat.le_of_ble_eq_true rfl) ?_
  intro f C hRm hRt _
  have hn2 := hY.1.2.1
  have h5 := hY.1.2.2.2
  show Vc f G NPh M 0 [(0, .ref (gb G + 0)), (1, .int what)] []
  refine v_iload_n C 1 dX9_count_0 rfl ?_
  by_cases hw : nI 0 ≤ what ∧ what ≤ nI 8
  · obtain ⟨q, hq, rfl⟩ := within_nat (by decide) hw
    rcases (show q = 0 ∨ q = 1 ∨ q = 2 ∨ q = 3 ∨ q = 4 ∨ q = 5 ∨ q = 6 ∨ q = 7 ∨ q = 8 by omega) with h_0 | h_0 | h_0 | h_0 | h_0 | h_0 | h_0 | h_0 | h_0
    · subst h_0
      refine v_tableIn (off := 51) C 52 dX9_count_1 (by decide +kernel) (by decide +kernel) (by decide +kernel) rfl ?_
      refine v_aload_n C 0 dX9_count_52 rfl ?_
      refine g_X9_10 C (by decide) (show shp 0 = 9 from by decide +kernel) dX9_count_53 ?_
      refine g_X9_62 C (by decide) (s_y (by decide)) dX9_count_56 ?_
      refine v_top (nI n) (hR.n) ?_
      refine v_top (Y 0) (hY.1.1.symm) ?_
      have hS : countS Y n T (nI 0) = (0, Y 0, Y) := by unfold countS; (try rw [nI_clamp (by omega)]); (try rw [nI_clamp (by omega)]); (try rw [nI_clamp (by omega)]); (rw [if_pos (show nI 0 ≤ nI 0 ∧ nI 0 ≤ nI 8 by decide)]); skip; all_goals rfl
      exact n_iret C hRt (rfl) dX9_count_59 (by rw [hS] <;> rfl) (by rw [hS]; exact pc_ok hR (okG.rf M))
    · subst h_0
      refine v_tableIn (off := 59) C 60 dX9_count_1 (by decide +kernel) (by decide +kernel) (by decide +kernel) rfl ?_
      refine v_aload_n C 0 dX9_count_60 rfl ?_
      refine g_X9_10 C (by decide) (show shp 0 = 9 from by decide +kernel) dX9_count_61 ?_
      refine g_X9_101 C (by decide) (s_y (by decide)) dX9_count_64 ?_
      refine v_top (nI hN) (hR.hN) ?_
      refine v_top (Y 1) (hY.1.2.2.1.symm) ?_
      have hS : countS Y n T (nI 1) = (0, Y 1, Y) := by unfold countS; (try rw [nI_clamp (by omega)]); (try rw [nI_clamp (by omega)]); (try rw [nI_clamp (by omega)]); (rw [if_pos (show nI 0 ≤ nI 1 ∧ nI 1 ≤ nI 8 by decide)]); skip; all_goals rfl
      exact n_iret C hRt (rfl) dX9_count_67 (by rw [hS] <;> rfl) (by rw [hS]; exact pc_ok hR (okG.rf M))
    · subst h_0
      refine v_tableIn (off := 67) C 68 dX9_count_1 (by decide +kernel) (by decide +kernel) (by decide +kernel) rfl ?_
      refine v_aload_n C 0 dX9_count_68 rfl ?_
      refine g_X9_10 C (by decide) (show shp 0 = 9 from by decide +kernel) dX9_count_69 ?_
      refine g_X9_188 C (by decide) (s_y (by decide)) dX9_count_72 ?_
      refine v_top (Y 2) (hR.1.2.2.1) ?_
      have hS : countS Y n T (nI 2) = (0, Y 2, Y) := by unfold countS; (try rw [nI_clamp (by omega)]); (try rw [nI_clamp (by omega)]); (try rw [nI_clamp (by omega)]); (rw [if_pos (show nI 0 ≤ nI 2 ∧ nI 2 ≤ nI 8 by decide)]); skip; all_goals rfl
      exact n_iret C hRt (rfl) dX9_count_75 (by rw [hS] <;> rfl) (by rw [hS]; exact pc_ok hR (okG.rf M))
    · subst h_0
      refine v_tableIn (off := 75) C 76 dX9_count_1 (by decide +kernel) (by decide +kernel) (by decide +kernel) rfl ?_
      refine v_aload_n C 0 dX9_count_76 rfl ?_
      refine g_X9_10 C (by decide) (show shp 0 = 9 from by decide +kernel) dX9_count_77 ?_
      refine g_X9_198 C (by decide) (s_y (by decide)) dX9_count_80 ?_
      refine v_top (Y 3) (hR.1.2.2.2.1) ?_
      have hS : countS Y n T (nI 3) = (0, Y 3, Y) := by unfold countS; (try rw [nI_clamp (by omega)]); (try rw [nI_clamp (by omega)]); (try rw [nI_clamp (by omega)]); (rw [if_pos (show nI 0 ≤ nI 3 ∧ nI 3 ≤ nI 8 by decide)]); skip; all_goals rfl
      exact n_iret C hRt (rfl) dX9_count_83 (by rw [hS] <;> rfl) (by rw [hS]; exact pc_ok hR (okG.rf M))
    · subst h_0
      refine v_tableIn (off := 83) C 84 dX9_count_1 (by decide +kernel) (by decide +kernel) (by decide +kernel) rfl ?_
      refine v_aload_n C 0 dX9_count_84 rfl ?_
      refine g_X9_10 C (by decide) (show shp 0 = 9 from by decide +kernel) dX9_count_85 ?_
      refine n_callVp C hRm [] cw_X8_wall ml_X9_298 (by decide) (s_y (by decide)) (by decide) rfl (y_wall l G M 1 (by decide) Y _ _ hR hY  ) (by decide) rfl rfl (Nat.le_of_ble_eq_true rfl) dX9_count_88 ?_
      refine v_top (inA Y (-1) n) ((inA_msk Y (-1) n hn2).symm) ?_
      have hS : countS Y n T (nI 4) = (0, inA Y (-1) n, Y) := by unfold countS; (try rw [nI_clamp (by omega)]); (try rw [nI_clamp (by omega)]); (try rw [nI_clamp (by omega)]); (rw [if_pos (show nI 0 ≤ nI 4 ∧ nI 4 ≤ nI 8 by decide)]); skip; all_goals rfl
      exact n_iret C hRt (rfl) dX9_count_91 (by rw [hS] <;> rfl) (by rw [hS]; exact pc_ok hR (okG.rf M))
    · subst h_0
      refine v_tableIn (off := 91) C 92 dX9_count_1 (by decide +kernel) (by decide +kernel) (by decide +kernel) rfl ?_
      refine v_aload_n C 0 dX9_count_92 rfl ?_
      refine g_X9_10 C (by decide) (show shp 0 = 9 from by decide +kernel) dX9_count_93 ?_
      refine g_X9_149 C (by decide) (s_y (by decide)) dX9_count_96 ?_
      refine g_X9_153 C (by decide) (show shp 5 = 4 from by decide +kernel) dX9_count_99 ?_
      refine v_top (Y 4) (hR.1.2.2.2.2.2.1) ?_
      have hS : countS Y n T (nI 5) = (0, Y 4, Y) := by unfold countS; (try rw [nI_clamp (by omega)]); (try rw [nI_clamp (by omega)]); (try rw [nI_clamp (by omega)]); (rw [if_pos (show nI 0 ≤ nI 5 ∧ nI 5 ≤ nI 8 by decide)]); skip; all_goals rfl
      exact n_iret C hRt (rfl) dX9_count_102 (by rw [hS] <;> rfl) (by rw [hS]; exact pc_ok hR (okG.rf M))
    · subst h_0
      refine v_tableIn (off := 102) C 103 dX9_count_1 (by decide +kernel) (by decide +kernel) (by decide +kernel) rfl ?_
      refine v_aload_n C 0 dX9_count_103 rfl ?_
      refine g_X9_10 C (by decide) (show shp 0 = 9 from by decide +kernel) dX9_count_104 ?_
      refine g_X9_295 C (by decide) (s_y (by decide)) dX9_count_107 ?_
      refine g_X9_153 C (by decide) (show shp 7 = 4 from by decide +kernel) dX9_count_110 ?_
      refine v_top (Y 5) (hR.1.2.2.2.2.2.2) ?_
      have hS : countS Y n T (nI 6) = (0, Y 5, Y) := by unfold countS; (try rw [nI_clamp (by omega)]); (try rw [nI_clamp (by omega)]); (try rw [nI_clamp (by omega)]); (rw [if_pos (show nI 0 ≤ nI 6 ∧ nI 6 ≤ nI 8 by decide)]); skip; all_goals rfl
      exact n_iret C hRt (rfl) dX9_count_113 (by rw [hS] <;> rfl) (by rw [hS]; exact pc_ok hR (okG.rf M))
    · subst h_0
      refine v_tableIn (off := 113) C 114 dX9_count_1 (by decide +kernel) (by decide +kernel) (by decide +kernel) rfl ?_
      refine v_aload_n C 0 dX9_count_114 rfl ?_
      refine g_X9_39 C (by decide) (show shp 0 = 9 from by decide +kernel) dX9_count_115 ?_
      refine g_X9_254 C (by decide) (show shp 192 = 6 from by decide +kernel) dX9_count_118 ?_
      refine g_X9_153 C (by decide) (show shp 193 = 4 from by decide +kernel) dX9_count_121 ?_
      refine v_top (T) (hT) ?_
      have hS : countS Y n T (nI 7) = (0, T, Y) := by unfold countS; (try rw [nI_clamp (by omega)]); (try rw [nI_clamp (by omega)]); (try rw [nI_clamp (by omega)]); (rw [if_pos (show nI 0 ≤ nI 7 ∧ nI 7 ≤ nI 8 by decide)]); skip; all_goals rfl
      exact n_iret C hRt (rfl) dX9_count_124 (by rw [hS] <;> rfl) (by rw [hS]; exact pc_ok hR (okG.rf M))
    · subst h_0
      refine v_tableIn (off := 124) C 125 dX9_count_1 (by decide +kernel) (by decide +kernel) (by decide +kernel) rfl ?_
      refine v_aload_n C 0 dX9_count_125 rfl ?_
      refine g_X9_10 C (by decide) (show shp 0 = 9 from by decide +kernel) dX9_count_126 ?_
      refine g_X9_204 C (by decide) (s_y (by decide)) dX9_count_129 ?_
      refine v_top (Y 6) (hR.1.2.2.2.2.1) ?_
      have hS : countS Y n T (nI 8) = (0, Y 6, Y) := by unfold countS; (try rw [nI_clamp (by omega)]); (try rw [nI_clamp (by omega)]); (try rw [nI_clamp (by omega)]); (rw [if_pos (show nI 0 ≤ nI 8 ∧ nI 8 ≤ nI 8 by decide)]); skip; all_goals rfl
      exact n_iret C hRt (rfl) dX9_count_132 (by rw [hS] <;> rfl) (by rw [hS]; exact pc_ok hR (okG.rf M))
  · skip
    refine v_tableOut C 133 dX9_count_1 (tsw_out (by decide) hw) rfl ?_
    refine v_aload_n C 0 dX9_count_133 rfl ?_
    refine v_iconst C (nI 1) dX9_count_134 (by decide) ?_
    refine n_callVi C hRm [.int (nI 1)] cw_X9_error ml_X9_58 (by decide) (show shp 0 = 9 from by decide +kernel) (by decide) rfl (c_error l G M 1 (by decide)) (by decide) rfl rfl (Nat.le_of_ble_eq_true rfl) dX9_count_135 (fun M5 hP_135 => ?_)
    subst hP_135
    have hS : countS Y n T what = er 1 Y := by unfold countS; (first | rw [if_neg hw] | rw [if_pos (Decidable.not_not.mp hw)] | rw [if_pos hw] | rw [if_pos (congrArg nI hw)] | rw [if_neg (fun q9 => hw ((nI_eq (by omega) (by omega)).mp q9))] | rw [if_neg (Nat.not_le.mpr hw)] | rw [if_neg (Nat.not_lt.mpr hw)] | skip); all_goals rfl
    exact n_iret C hRt (rfl) dX9_count_138 (by rw [hS] <;> rfl) (by rw [hS]; exact pc_er hR (okG.rf M) (show (1 : Nat) ≠ 0 by decide))
theorem chk_in {Y : Nat → Int32} {t h k c q : Nat} (h1 : Y (7 + 6 * c + 4) = nI h) : chkG Y t h (k + 1) c q = if t ≤ q ∨ ¬ Y (297 + q) = nI c then nI (1 + q) else chkG Y t h k (c + 1) (q + 1) := if_pos h1
theorem chk_out {Y : Nat → Int32} {t h k c q : Nat} (h1 : ¬ Y (7 + 6 * c + 4) = nI h) : chkG Y t h (k + 1) c q = chkG Y t h k (c + 1) q := if_neg h1
set_option maxHeartbeats 4000000 in
set_option maxRecDepth 100000 in
theorem x_check (l : Launch) (G : GC) (M : Mm) (Y : Nat → Int32) (n hN : Nat) (hR : YR M 1 Y n hN) (hY : YOk Y n hN) (hI : yI Y n) (hJ : yJ Y n) (t : Nat) (ht : Y 5 = nI t) (ht2 : t ≤ 24) (heap : Int32) : CI l G 4 yX9_check cX9_check 6 .int [.ref (gb G + 0), .int heap] M ((checkS Y n t heap).2.1) (PubC M (checkS Y n t heap).2.2 n hN (checkS Y n t heap).1) := by
  refine Con.of (by decide +kernel) (Nat.le_of_ble_eq_true rfl) ?_
  intro f C hRm hRt _
  have hn2 := hY.1.2.1
  have h5 := hY.1.2.2.2
  have hY1 : YOk (upd Y 5 (nI 0)) n hN := yk_wait0 hY
  have LCs : ∀ h, h < hN → (nI 0 ≤ nI h ∧ nI h ≤ (upd Y 5 (nI 0)) 1 - nI 1) → heap = nI h → Vc f G NPh (up2 M 7 1 (nI 0)) 55 [(5, .int (nI 0)), (4, .int (nI 0)), (3, .int (nI (mskA (upd Y 5 (nI 0)) (nI h) n))), (2, .int (nI t)), (0, .ref (gb G + 0)), (1, .int (nI h))] [] := by
    intro h hh hhh e1
    subst e1
    have hR1 : YR (up2 M 7 1 (nI 0)) 1 (upd Y 5 (nI 0)) n hN := hR.wa0 hY
    have hF1 : okG M (up2 M 7 1 (nI 0)) := fun a ha => up2_ne _ _ _ (by omega)
    have hm9 : mskA (upd Y 5 (nI 0)) (nI h) n < 1024 := msk_1024 _ _ hn2
    have LC : ∀ (kk : Nat) (c : Nat) (q : Nat), n - c = kk → c ≤ n → q ≤ t → chkG (upd Y 5 (nI 0)) t h (n - c) c q = chkG (upd Y 5 (nI 0)) t h n 0 0 → Vc f G NPh (up2 M 7 1 (nI 0)) 55 [(5, .int (nI c)), (4, .int (nI q)), (3, .int (nI (mskA (upd Y 5 (nI 0)) (nI h) n))), (2, .int (nI t)), (0, .ref (gb G + 0)), (1, .int (nI h))] [] := by
      intro kk
      induction kk using Nat.strongRecOn with
      | _ kk ihLC =>
        intro c q hkk hc hq hg
        refine v_iload C 0 dX9_check_55 rfl ?_
        refine v_aload_n C 4 dX9_check_57 rfl ?_
        refine g_X9_10 C (by decide) (show shp 0 = 9 from by decide +kernel) dX9_check_58 ?_
        refine g_X9_62 C (by decide) (s_y (by decide)) dX9_check_61 ?_
        refine v_top (nI n) (hR1.n) ?_
        refine n_icmp_ge C (by omega) (by omega) 114 dX9_check_64 rfl (fun h_64 => ?_) (fun h_64 => ?_)
        · skip
          refine v_iload C 1 dX9_check_114 rfl ?_
          refine v_iload_n C 3 dX9_check_116 rfl ?_
          refine n_icmp_ge C (by omega) (by omega) 127 dX9_check_117 rfl (fun h_117 => ?_) (fun h_117 => ?_)
          · skip
            refine v_iconst C (nI 0) dX9_check_127 (by decide) ?_
            have hS : checkS Y n t (nI h) = (0, nI 0, upd Y 5 (nI 0)) := by unfold checkS; rw [if_pos hhh, nI_clamp (by omega), show chkG (upd Y 5 (nI 0)) t h n 0 0 = nI 0 from Eq.symm (by rw [← hg, show n - c = 0 by omega]; show _ = (if _ then _ else _); rw [if_pos (by omega)])]
            exact n_iret C hRt rfl dX9_check_128 (by rw [hS]) (by rw [hS]; exact pc_ok hR1 hF1)
          · skip
            refine v_iconst C (nI 1) dX9_check_120 (by decide) ?_
            refine v_iload C 1 dX9_check_121 rfl ?_
            refine n_iadd C dX9_check_123 ?_
            refine v_goto C 128 dX9_check_124 rfl ?_
            have hS : checkS Y n t (nI h) = (0, nI (1 + q), upd Y 5 (nI 0)) := by unfold checkS; rw [if_pos hhh, nI_clamp (by omega), show chkG (upd Y 5 (nI 0)) t h n 0 0 = nI (1 + q) from Eq.symm (by rw [← hg, show n - c = 0 by omega]; show _ = (if _ then _ else _); rw [if_neg (by omega)])]
            exact n_iret C hRt rfl dX9_check_128 (by rw [hS]) (by rw [hS]; exact pc_ok hR1 hF1)
        · skip
          refine v_iload_n C 2 dX9_check_67 rfl ?_
          refine v_iload C 0 dX9_check_68 rfl ?_
          refine v_ishr C dX9_check_70 ?_
          refine v_iconst C (nI 1) dX9_check_71 (by decide) ?_
          refine v_iand C dX9_check_72 ?_
          refine v_top (b2i (Nat.testBit (mskA (upd Y 5 (nI 0)) (nI h) n) c = true)) (bit_and c (by omega) _ hm9) ?_
          refine nb_if_eq C 108 dX9_check_73 rfl (fun h_73 => ?_) (fun h_73 => ?_)
          · skip
            refine v_iinc C (nI (c + 1)) 0 [(5, .int (nI (c + 1))), (4, .int (nI q)), (3, .int (nI (mskA (upd Y 5 (nI 0)) (nI h) n))), (2, .int (nI t)), (0, .ref (gb G + 0)), (1, .int (nI h))] dX9_check_108 rfl (nI_add _ _) (by decide) rfl ?_
            refine v_goto C 55 dX9_check_111 rfl ?_
            refine v_sub [0, 1, 2, 3, 4, 5] [(5, .int (nI (c + 1))), (4, .int (nI q)), (3, .int (nI (mskA (upd Y 5 (nI 0)) (nI h) n))), (2, .int (nI t)), (0, .ref (gb G + 0)), (1, .int (nI h))] rfl ?_
            exact ihLC _ (by omega) (c + 1) q rfl (by omega) (by omega) (by rw [← hg, show n - c = (n - (c + 1)) + 1 by omega]; exact (chk_out (fun z => h_73 ((msk_bit _ (nI h) n c (by omega)).mpr z))).symm)
          · skip
            refine v_iload C 1 dX9_check_76 rfl ?_
            refine v_iload_n C 3 dX9_check_78 rfl ?_
            refine n_icmp_ge C (by omega) (by omega) 100 dX9_check_79 rfl (fun h_79 => ?_) (fun h_79 => ?_)
            · skip
              refine v_iconst C (nI 1) dX9_check_100 (by decide) ?_
              refine v_iload C 1 dX9_check_101 rfl ?_
              refine n_iadd C dX9_check_103 ?_
              have hS : checkS Y n t (nI h) = (0, nI (1 + q), upd Y 5 (nI 0)) := by unfold checkS; rw [if_pos hhh, nI_clamp (by omega), show chkG (upd Y 5 (nI 0)) t h n 0 0 = nI (1 + q) from Eq.symm (by rw [← hg, show n - c = (n - (c + 1)) + 1 by omega, chk_in ((msk_bit _ (nI h) n c (by omega)).mp h_73), if_pos (Or.inl h_79)])]
              exact n_iret C hRt rfl dX9_check_104 (by rw [hS]) (by rw [hS]; exact pc_ok hR1 hF1)
            · skip
              refine v_aload_n C 4 dX9_check_82 rfl ?_
              refine g_X9_10 C (by decide) (show shp 0 = 9 from by decide +kernel) dX9_check_83 ?_
              refine g_X9_295 C (by decide) (s_y (by decide)) dX9_check_86 ?_
              refine g_X9_257 C (by decide) (show shp 7 = 4 from by decide +kernel) dX9_check_89 ?_
              refine v_iload C 1 dX9_check_92 rfl ?_
              refine v_iald C (by decide) (show shp 8 = 1000 + 24 from by decide +kernel) (by omega) (by decide) dX9_check_94 ?_
              refine v_top ((upd Y 5 (nI 0)) (297 + q)) (((congrFun (up2_ne _ _ _ (by decide)) q).trans (hR.tp.2 q (by rw [cN_of ht (by omega)]; omega))).trans (upd_ne _ _ (by omega)).symm) ?_
              refine v_iload C 0 dX9_check_95 rfl ?_
              refine v_icmp_eq C 105 dX9_check_97 rfl (fun h_97 => ?_) (fun h_97 => ?_)
              · skip
                refine v_iinc C (nI (q + 1)) 1 [(4, .int (nI (q + 1))), (5, .int (nI c)), (3, .int (nI (mskA (upd Y 5 (nI 0)) (nI h) n))), (2, .int (nI t)), (0, .ref (gb G + 0)), (1, .int (nI h))] dX9_check_105 rfl (nI_add _ _) (by decide) rfl ?_
                refine v_iinc C (nI (c + 1)) 1 [(5, .int (nI (c + 1))), (4, .int (nI (q + 1))), (3, .int (nI (mskA (upd Y 5 (nI 0)) (nI h) n))), (2, .int (nI t)), (0, .ref (gb G + 0)), (1, .int (nI h))] dX9_check_108 rfl (nI_add _ _) (by decide) rfl ?_
                refine v_goto C 55 dX9_check_111 rfl ?_
                refine v_sub [0, 1, 2, 3, 4, 5] [(5, .int (nI (c + 1))), (4, .int (nI (q + 1))), (3, .int (nI (mskA (upd Y 5 (nI 0)) (nI h) n))), (2, .int (nI t)), (0, .ref (gb G + 0)), (1, .int (nI h))] rfl ?_
                exact ihLC _ (by omega) (c + 1) (q + 1) rfl (by omega) (by omega) (by rw [← hg, show n - c = (n - (c + 1)) + 1 by omega, chk_in ((msk_bit _ (nI h) n c (by omega)).mp h_73), if_neg (fun z => z.elim (fun y => absurd y (by omega)) (fun y => y h_97))])
              · skip
                refine v_iconst C (nI 1) dX9_check_100 (by decide) ?_
                refine v_iload C 1 dX9_check_101 rfl ?_
                refine n_iadd C dX9_check_103 ?_
                have hS : checkS Y n t (nI h) = (0, nI (1 + q), upd Y 5 (nI 0)) := by unfold checkS; rw [if_pos hhh, nI_clamp (by omega), show chkG (upd Y 5 (nI 0)) t h n 0 0 = nI (1 + q) from Eq.symm (by rw [← hg, show n - c = (n - (c + 1)) + 1 by omega, chk_in ((msk_bit _ (nI h) n c (by omega)).mp h_73), if_pos (Or.inr h_97)])]
                exact n_iret C hRt rfl dX9_check_104 (by rw [hS]) (by rw [hS]; exact pc_ok hR1 hF1)
    exact LC _ 0 0 rfl (Nat.zero_le _) (Nat.zero_le _) rfl
  show Vc f G NPh M 0 [(0, .ref (gb G + 0)), (1, .int heap)] []
  refine v_aload_n C 0 dX9_check_0 rfl ?_
  refine g_X9_10 C (by decide) (show shp 0 = 9 from by decide +kernel) dX9_check_1 ?_
  refine g_X9_295 C (by decide) (s_y (by decide)) dX9_check_4 ?_
  refine g_X9_153 C (by decide) (show shp 7 = 4 from by decide +kernel) dX9_check_7 ?_
  refine v_top (Y 5) (hR.1.2.2.2.2.2.2) ?_
  refine v_top (nI t) (ht) ?_
  refine v_istore_n C [(2, .int (nI t)), (0, .ref (gb G + 0)), (1, .int heap)] dX9_check_10 rfl (by decide) rfl ?_
  refine v_aload_n C 1 dX9_check_11 rfl ?_
  refine g_X9_10 C (by decide) (show shp 0 = 9 from by decide +kernel) dX9_check_12 ?_
  refine g_X9_295 C (by decide) (s_y (by decide)) dX9_check_15 ?_
  refine v_iconst C (nI 0) dX9_check_18 (by decide) ?_
  refine p_X9_153 C (by decide) (show shp 7 = 4 from by decide +kernel) dX9_check_19 ?_
  have hR1 : YR (up2 M 7 1 (nI 0)) 1 (upd Y 5 (nI 0)) n hN := hR.wa0 hY
  have hF1 : okG M (up2 M 7 1 (nI 0)) := fun a ha => up2_ne _ _ _ (by omega)
  refine v_aload_n C 1 dX9_check_22 rfl ?_
  refine v_iload_n C 2 dX9_check_23 rfl ?_
  refine n_callVp C hRm [.int heap] cw_X9_noHeap ml_X9_116 (by decide) (show shp 0 = 9 from by decide +kernel) (by decide) rfl (c_noHeap l G (up2 M 7 1 (nI 0)) (upd Y 5 (nI 0)) _ _ hR1 hY1 heap) (by decide) rfl rfl (Nat.le_of_ble_eq_true rfl) dX9_check_24 ?_
  refine nb_if_eq C 36 dX9_check_27 rfl (fun h_27 => ?_) (fun h_27 => ?_)
  · skip
    obtain ⟨h, hh, rfl⟩ := is_nat hY1.1.2.2.1 (by omega) (Decidable.not_not.mp h_27)
    refine v_aload_n C 1 dX9_check_36 rfl ?_
    refine g_X9_10 C (by decide) (show shp 0 = 9 from by decide +kernel) dX9_check_37 ?_
    refine g_X9_104 C (by decide) (s_y (by decide)) dX9_check_40 ?_
    refine v_iload_n C 2 dX9_check_43 rfl ?_
    refine v_aald C rfl (by decide) (show shp 3 = 21 from by decide +kernel) (by decide) (by decide) (show h < 5 from by omega) (by decide) (1 + 50 + h) (by simp only [aOff] <;> omega) dX9_check_44 ?_
    refine g_X9_122 C (show 1 + 50 + h < 221 from by omega) (s_hp (by decide) (by omega)) dX9_check_45 ?_
    refine v_top (nI (mskA (upd Y 5 (nI 0)) (nI h) n)) (hR1.ins (by omega)) ?_
    refine v_istore_n C [(3, .int (nI (mskA (upd Y 5 (nI 0)) (nI h) n))), (2, .int (nI t)), (0, .ref (gb G + 0)), (1, .int (nI h))] dX9_check_48 rfl (by decide) rfl ?_
    refine v_iconst C (nI 0) dX9_check_49 (by decide) ?_
    refine v_istore C [(4, .int (nI 0)), (3, .int (nI (mskA (upd Y 5 (nI 0)) (nI h) n))), (2, .int (nI t)), (0, .ref (gb G + 0)), (1, .int (nI h))] dX9_check_50 (by decide) rfl ?_
    refine v_iconst C (nI 0) dX9_check_52 (by decide) ?_
    refine v_istore C [(5, .int (nI 0)), (4, .int (nI 0)), (3, .int (nI (mskA (upd Y 5 (nI 0)) (nI h) n))), (2, .int (nI t)), (0, .ref (gb G + 0)), (1, .int (nI h))] dX9_check_53 (by decide) rfl ?_
    refine v_sub [0, 1, 2, 3, 4, 5] [(5, .int (nI 0)), (4, .int (nI 0)), (3, .int (nI (mskA (upd Y 5 (nI 0)) (nI h) n))), (2, .int (nI t)), (0, .ref (gb G + 0)), (1, .int (nI h))] rfl ?_
    exact LCs h hh (Decidable.not_not.mp h_27) rfl
  · skip
    refine v_aload_n C 1 dX9_check_30 rfl ?_
    refine v_iconst C (nI 1) dX9_check_31 (by decide) ?_
    refine n_callVi C hRm [.int (nI 1)] cw_X9_error ml_X9_58 (by decide) (show shp 0 = 9 from by decide +kernel) (by decide) rfl (c_error l G (up2 M 7 1 (nI 0)) 1 (by decide)) (by decide) rfl rfl (Nat.le_of_ble_eq_true rfl) dX9_check_32 (fun M5 hP_32 => ?_)
    subst hP_32
    have hS : checkS Y n t heap = er 1 (upd Y 5 (nI 0)) := by unfold checkS; (first | rw [if_neg h_27] | rw [if_pos (Decidable.not_not.mp h_27)] | rw [if_pos h_27] | rw [if_pos (congrArg nI h_27)] | rw [if_neg (fun q9 => h_27 ((nI_eq (by omega) (by omega)).mp q9))] | rw [if_neg (Nat.not_le.mpr h_27)] | rw [if_neg (Nat.not_lt.mpr h_27)] | skip); all_goals rfl
    exact n_iret C hRt (rfl) dX9_check_35 (by rw [hS] <;> rfl) (by rw [hS]; exact pc_er hR1 hF1 (show (1 : Nat) ≠ 0 by decide))
set_option maxHeartbeats 4000000 in
set_option maxRecDepth 100000 in
theorem x_feed (l : Launch) (G : GC) (M : Mm) (Y : Nat → Int32) (n hN : Nat) (hR : YR M 1 Y n hN) (hY : YOk Y n hN) (hI : yI Y n) (hJ : yJ Y n) (t : Nat) (ht : Y 4 = nI t) (ht2 : t ≤ 60) (x : Int64) (k : Int32) : CI l G 3 yX9_feed cX9_feed 5 .int [.ref (gb G + 0), .long x, .int k] M ((feedS Y t x k).2.1) (PubC M (feedS Y t x k).2.2 n hN (feedS Y t x k).1) := by
  refine Con.of (by decide +kernel) (Nat.le_of_ble_eq_true rfl) ?_
  intro f C hRm hRt _
  have hn2 := hY.1.2.1
  have h5 := hY.1.2.2.2
  have LFs : ∀ j, 1 ≤ j ∧ j ≤ 8 → (nI 1 ≤ nI j ∧ nI j ≤ nI 8) → t + j ≤ 60 → k = nI j → Vc f G NPh M 42 [(4, .int (nI 0)), (0, .ref (gb G + 0)), (1, .long x), (3, .int (nI j))] [] := by
    intro j hj hjj h60 e1
    subst e1
    have LF : ∀ (kk : Nat) (i : Nat) (X : Mm), j - i = kk → i ≤ j → YR X 1 (fdA Y t x i) n hN → okG M X → Vc f G NPh X 42 [(4, .int (nI i)), (0, .ref (gb G + 0)), (1, .long x), (3, .int (nI j))] [] := by
      intro kk
      induction kk using Nat.strongRecOn with
      | _ kk ihLF =>
        intro i X hkk hi hRX hFX
        have hYi := yk_fd hY ht x (k := i) (by omega)
        refine v_iload C 0 dX9_feed_42 rfl ?_
        refine v_iload_n C 3 dX9_feed_44 rfl ?_
        refine n_icmp_ge C (by omega) (by omega) 76 dX9_feed_45 rfl (fun h_45 => ?_) (fun h_45 => ?_)
        · skip
          refine v_aload_n C 1 dX9_feed_76 rfl ?_
          refine g_X9_10 C (by decide) (show shp 0 = 9 from by decide +kernel) dX9_feed_77 ?_
          refine g_X9_149 C (by decide) (s_y (by decide)) dX9_feed_80 ?_
          refine g_X9_153 C (by decide) (show shp 5 = 4 from by decide +kernel) dX9_feed_83 ?_
          refine v_top ((fdA Y t x i) 4) (hRX.1.2.2.2.2.2.1) ?_
          refine v_top (nI (t + i)) (fd_4 ht x i) ?_
          have h9 : i = j := by omega
          subst h9
          have hS : feedS Y t x (nI i) = (0, nI (t + i), fdA Y t x i) := by unfold feedS; rw [if_pos hjj, nI_clamp (by omega), if_pos h60]
          exact n_iret C hRt rfl dX9_feed_86 (by rw [hS]) (by rw [hS]; exact pc_ok hRX hFX)
        · skip
          refine v_aload_n C 1 dX9_feed_48 rfl ?_
          refine g_X9_10 C (by decide) (show shp 0 = 9 from by decide +kernel) dX9_feed_49 ?_
          refine g_X9_149 C (by decide) (s_y (by decide)) dX9_feed_52 ?_
          refine v_lload_n C 2 dX9_feed_55 rfl ?_
          refine v_bipush C (nI 8) dX9_feed_56 (by decide) ?_
          refine v_iload C 0 dX9_feed_58 rfl ?_
          refine n_imul C dX9_feed_60 ?_
          refine v_lushr C dX9_feed_61 ?_
          refine v_l2i C dX9_feed_62 ?_
          refine v_sipush C (nI 255) dX9_feed_63 (by decide) ?_
          refine v_iand C dX9_feed_66 ?_
          refine v_top (byR x i) (bl_eq x i (by omega)) ?_
          refine n_callVv C hRm [.int (byR x i)] cw_X4_add ml_X9_157 (by decide) (show shp 5 = 4 from by decide +kernel) (by decide) rfl (w_add l G X 5 60 (by decide) (show shp 5 = 4 from by decide +kernel) (show shp (5 + 1) = 1000 + 60 from by decide +kernel) (by decide) (t + i) (hRX.1.2.2.2.2.2.1.trans (fd_4 ht x i)) (by omega) (byR x i)) (by decide) rfl rfl (Nat.le_of_ble_eq_true rfl) dX9_feed_67 (fun M1 hP_67 => ?_)
          subst hP_67
          have hRq1 : YR (rowM X 5 60 (t + i) (byR x i)) 1 (upd (upd (fdA Y t x i) (237 + (t + i)) (byR x i)) 4 (nI (t + i + 1))) n hN := by rw [row_lt (show t + i < 60 by omega)]; exact hRX.tp1 hYi (fd_4 ht x i) (by omega) _
          have hFq1 : okG M (rowM X 5 60 (t + i) (byR x i)) := fun a ha => (row_ne (by omega) (by omega)).trans (hFX a ha)
          refine v_iinc C (nI (i + 1)) 0 [(4, .int (nI (i + 1))), (0, .ref (gb G + 0)), (1, .long x), (3, .int (nI j))] dX9_feed_70 rfl (nI_add _ _) (by decide) rfl ?_
          refine v_goto C 42 dX9_feed_73 rfl ?_
          refine v_sub [0, 1, 2, 3] [(4, .int (nI (i + 1))), (0, .ref (gb G + 0)), (1, .long x), (3, .int (nI j))] rfl ?_
          exact ihLF _ (by omega) (i + 1) (rowM X 5 60 (t + i) (byR x i)) rfl (by omega) (by exact hRq1) hFq1
    exact LF _ 0 M rfl (Nat.zero_le _) hR (okG.rf M)
  show Vc f G NPh M 0 [(0, .ref (gb G + 0)), (1, .long x), (3, .int k)] []
  refine v_iload_n C 2 dX9_feed_0 rfl ?_
  refine v_iconst C (nI 1) dX9_feed_1 (by decide) ?_
  refine v_bipush C (nI 8) dX9_feed_2 (by decide) ?_
  refine n_callSp C hRm [.int k, .int (nI 1), .int (nI 8)] cw_X9_outside st_X9_outside ml_X9_54 (c_outside l G M k (nI 1) (nI 8)) (by decide) rfl rfl (Nat.le_of_ble_eq_true rfl) dX9_feed_4 ?_
  refine nb_if_eq C 16 dX9_feed_7 rfl (fun h_7 => ?_) (fun h_7 => ?_)
  · skip
    obtain ⟨j, hj, rfl⟩ := within_nat2 (by decide) (by decide) (Decidable.not_not.mp h_7)
    refine v_aload_n C 0 dX9_feed_16 rfl ?_
    refine g_X9_10 C (by decide) (show shp 0 = 9 from by decide +kernel) dX9_feed_17 ?_
    refine g_X9_149 C (by decide) (s_y (by decide)) dX9_feed_20 ?_
    refine g_X9_153 C (by decide) (show shp 5 = 4 from by decide +kernel) dX9_feed_23 ?_
    refine v_top (Y 4) (hR.1.2.2.2.2.2.1) ?_
    refine v_top (nI t) (ht) ?_
    refine v_iload_n C 2 dX9_feed_26 rfl ?_
    refine n_iadd C dX9_feed_27 ?_
    refine v_bipush C (nI 60) dX9_feed_28 (by decide) ?_
    refine n_icmp_le C (by omega) (by omega) 39 dX9_feed_30 rfl (fun h_30 => ?_) (fun h_30 => ?_)
    · skip
      refine v_iconst C (nI 0) dX9_feed_39 (by decide) ?_
      refine v_istore C [(4, .int (nI 0)), (0, .ref (gb G + 0)), (1, .long x), (3, .int (nI j))] dX9_feed_40 (by decide) rfl ?_
      refine v_sub [0, 1, 2, 3] [(4, .int (nI 0)), (0, .ref (gb G + 0)), (1, .long x), (3, .int (nI j))] rfl ?_
      exact LFs j hj (Decidable.not_not.mp h_7) h_30 rfl
    · skip
      refine v_aload_n C 0 dX9_feed_33 rfl ?_
      refine v_iconst C (nI 4) dX9_feed_34 (by decide) ?_
      refine n_callVi C hRm [.int (nI 4)] cw_X9_error ml_X9_58 (by decide) (show shp 0 = 9 from by decide +kernel) (by decide) rfl (c_error l G M 4 (by decide)) (by decide) rfl rfl (Nat.le_of_ble_eq_true rfl) dX9_feed_35 (fun M5 hP_35 => ?_)
      subst hP_35
      have hS : feedS Y t x (nI j) = er 4 Y := by unfold feedS; (try rw [nI_clamp (by omega)]); (try rw [nI_clamp (by omega)]); (try rw [nI_clamp (by omega)]); (first | rw [if_neg h_7] | rw [if_pos (Decidable.not_not.mp h_7)] | rw [if_pos h_7] | rw [if_pos (congrArg nI h_7)] | rw [if_neg (fun q9 => h_7 ((nI_eq (by omega) (by omega)).mp q9))] | rw [if_neg (Nat.not_le.mpr h_7)] | rw [if_neg (Nat.not_lt.mpr h_7)] | skip); (first | rw [if_neg h_30] | rw [if_pos (Decidable.not_not.mp h_30)] | rw [if_pos h_30] | rw [if_pos (congrArg nI h_30)] | rw [if_neg (fun q9 => h_30 ((nI_eq (by omega) (by omega)).mp q9))] | rw [if_neg (Nat.not_le.mpr h_30)] | rw [if_neg (Nat.not_lt.mpr h_30)] | skip); all_goals rfl
      exact n_iret C hRt (rfl) dX9_feed_38 (by rw [hS] <;> rfl) (by rw [hS]; exact pc_er hR (okG.rf M) (show (4 : Nat) ≠ 0 by decide))
  · skip
    refine v_aload_n C 0 dX9_feed_10 rfl ?_
    refine v_iconst C (nI 1) dX9_feed_11 (by decide) ?_
    refine n_callVi C hRm [.int (nI 1)] cw_X9_error ml_X9_58 (by decide) (show shp 0 = 9 from by decide +kernel) (by decide) rfl (c_error l G M 1 (by decide)) (by decide) rfl rfl (Nat.le_of_ble_eq_true rfl) dX9_feed_12 (fun M5 hP_12 => ?_)
    subst hP_12
    have hS : feedS Y t x k = er 1 Y := by unfold feedS; (try rw [nI_clamp (by omega)]); (try rw [nI_clamp (by omega)]); (try rw [nI_clamp (by omega)]); (first | rw [if_neg h_7] | rw [if_pos (Decidable.not_not.mp h_7)] | rw [if_pos h_7] | rw [if_pos (congrArg nI h_7)] | rw [if_neg (fun q9 => h_7 ((nI_eq (by omega) (by omega)).mp q9))] | rw [if_neg (Nat.not_le.mpr h_7)] | rw [if_neg (Nat.not_lt.mpr h_7)] | skip); all_goals rfl
    exact n_iret C hRt (rfl) dX9_feed_15 (by rw [hS] <;> rfl) (by rw [hS]; exact pc_er hR (okG.rf M) (show (1 : Nat) ≠ 0 by decide))
