theorem YR.tail {M M' : Mm} {y : Nat} {Y Y' : Nat → Int32} {n hN : Nat} (h : YR M y Y n hN) (hn : n ≤ 10) (hM : ∀ a, a ≠ y + 4 → a ≠ y + 5 → a ≠ y + 6 → a ≠ y + 7 → (a < y + 55 ∨ y + 61 ≤ a) → M' a = M a) (hY : ∀ i, i ≠ 4 → i ≠ 5 → i < 237 → Y' i = Y i) (h4 : M' (y + 4) 1 = Y' 4) (h5 : M' (y + 6) 1 = Y' 5) (hH : yrH M' y Y') (hI : yrI M' y Y') : YR M' y Y' n hN := by
  obtain ⟨⟨a1, a2, a3, a4, a5, a6, a7⟩, hb, hcc, hd, he, hf, hgg, -, -⟩ := h
  refine ⟨⟨?_, ?_, ?_, ?_, ?_, h4, h5⟩, fun d q f q2 q3 => ?_, fun d q => ?_, fun d q o q2 => ?_, fun d q o q2 => ?_, fun k q => ⟨?_, ?_, ?_, ?_⟩, fun k q => ?_, hH, hI⟩
  · rw [hM _ (by omega) (by omega) (by omega) (by omega) (by omega)]; exact a1
  · rw [hM _ (by omega) (by omega) (by omega) (by omega) (by omega)]; exact a2
  · rw [hM _ (by omega) (by omega) (by omega) (by omega) (by omega), hY _ (by omega) (by omega) (by omega)]; exact a3
  · rw [hM _ (by omega) (by omega) (by omega) (by omega) (by omega), hY _ (by omega) (by omega) (by omega)]; exact a4
  · rw [hM _ (by omega) (by omega) (by omega) (by omega) (by omega), hY _ (by omega) (by omega) (by omega)]; exact a5
  · rw [hM _ (by omega) (by omega) (by omega) (by omega) (by omega), hY _ (by omega) (by omega) (by omega)]; exact hb d q f q2 q3
  · rw [hM _ (by omega) (by omega) (by omega) (by omega) (by omega)]
    by_cases e : d < n
    · rw [if_pos e, hY _ (by omega) (by omega) (by omega)]; exact (hcc d q).trans (if_pos e)
    · rw [if_neg e]; exact (hcc d q).trans (if_neg e)
  · rw [hM _ (by omega) (by omega) (by omega) (by omega) (by omega), hY _ (by omega) (by omega) (by omega)]; exact hd d q o q2
  · rw [hM _ (by omega) (by omega) (by omega) (by omega) (by omega), hY _ (by omega) (by omega) (by omega)]; exact he d q o q2
  · rw [hM _ (by omega) (by omega) (by omega) (by omega) (by omega), hY _ (by omega) (by omega) (by omega)]; exact (hf k q).1
  · rw [hM _ (by omega) (by omega) (by omega) (by omega) (by omega), hY _ (by omega) (by omega) (by omega)]; exact (hf k q).2.1
  · rw [hM _ (by omega) (by omega) (by omega) (by omega) (by omega), hY _ (by omega) (by omega) (by omega)]; exact (hf k q).2.2.1
  · rw [hM _ (by omega) (by omega) (by omega) (by omega) (by omega)]
    by_cases e : k < hN
    · rw [if_pos e, hY _ (by omega) (by omega) (by omega)]; exact (hf k q).2.2.2.trans (if_pos e)
    · rw [if_neg e]; exact (hf k q).2.2.2.trans (if_neg e)
  · rw [hM _ (by omega) (by omega) (by omega) (by omega) (by omega), msk_congr (fun d hd' => hY _ (by omega) (by omega) (by omega))]; exact hgg k q
theorem cN_eq {Y Y' : Nat → Int32} {i : Nat} (h : Y' i = Y i) : cN Y' i = cN Y i := by unfold cN; rw [h]
/-- of the tail: what is untouched stays -/
theorem YR.tp_ {M M' : Mm} {y : Nat} {Y Y' : Nat → Int32} {n hN : Nat} (h : YR M y Y n hN) (ht : cN Y 4 ≤ 60) (hM : M' (y + 4 + 1) = M (y + 4 + 1)) (hY : ∀ i, i = 4 ∨ (237 ≤ i ∧ i < 297) → Y' i = Y i) : ∀ k, k < cN Y' 4 → M' (y + 4 + 1) k = Y' (237 + k) := fun k hk => by
  rw [cN_eq (hY 4 (by omega))] at hk
  rw [hM, hY _ (by omega)]; exact h.tp.1 k hk
theorem YR.wa_ {M M' : Mm} {y : Nat} {Y Y' : Nat → Int32} {n hN : Nat} (h : YR M y Y n hN) (hw : cN Y 5 ≤ 24) (hM : M' (y + 6 + 1) = M (y + 6 + 1)) (hY : ∀ i, i = 5 ∨ (297 ≤ i ∧ i < 321) → Y' i = Y i) : ∀ k, k < cN Y' 5 → M' (y + 6 + 1) k = Y' (297 + k) := fun k hk => by
  rw [cN_eq (hY 5 (by omega))] at hk
  rw [hM, hY _ (by omega)]; exact h.tp.2 k hk
theorem YR.tx_ {M M' : Mm} {y u : Nat} {Y Y' : Nat → Int32} {n hN : Nat} (h : YR M y Y n hN) (hu : u < 2) (hl : cN Y (321 + 62 * u) ≤ 60) (hM : M' (y + 55 + 3 * u) = M (y + 55 + 3 * u)) (hM1 : M' (y + 55 + 3 * u + 1) = M (y + 55 + 3 * u + 1)) (hY : ∀ i, 321 + 62 * u ≤ i → i < 321 + 62 * u + 62 → Y' i = Y i) : M' (y + 55 + 3 * u) 2 = Y' (321 + 62 * u) ∧ ∀ k, k < cN Y' (321 + 62 * u) → M' (y + 55 + 3 * u + 1) k = nI (cvC (cN Y' (321 + 62 * u + 1 + k))) := by
  refine ⟨?_, fun k hk => ?_⟩
  · rw [hM, hY _ (by omega) (by omega)]; exact (h.tx u hu).1
  · rw [cN_eq (hY _ (by omega) (by omega))] at hk
    rw [hM1, cN_eq (hY _ (by omega) (by omega))]; exact (h.tx u hu).2 k hk
theorem YOk.tl {Y : Nat → Int32} {n hN u : Nat} (h : YOk Y n hN) (hu : u < 2) : cN Y (321 + 62 * u) ≤ 60 := by
  obtain ⟨len, hok⟩ := h.2.2.2.1 u hu
  rw [show cN Y (321 + 62 * u) = len from cN_of hok.2.1 (by have := hok.1; omega)]; exact hok.1
/-- the tape is emptied -/
theorem YR.tp0 {M : Mm} {y : Nat} {Y : Nat → Int32} {n hN : Nat} (h : YR M y Y n hN) (hY : YOk Y n hN) : YR (up2 M (y + 4) 1 (nI 0)) y (upd Y 4 (nI 0)) n hN := by
  refine h.tail hY.1.2.1 (fun a h1 _ _ _ _ => up2_ne _ _ _ h1) (fun i h1 _ _ => upd_ne _ _ h1) ((up2_at _ _ _ _).trans (upd_eq _ _ _).symm) ?_ ⟨fun k hk => ?_, h.wa_ hY.t5 (up2_ne _ _ _ (by omega)) (fun i hi => upd_ne _ _ (by omega))⟩ (fun u hu => h.tx_ hu (hY.tl hu) (up2_ne _ _ _ (by omega)) (up2_ne _ _ _ (by omega)) (fun i h1 h2 => upd_ne _ _ (by omega)))
  · rw [up2_ne _ _ _ (by omega), upd_ne _ _ (by decide)]; exact h.1.2.2.2.2.2.2
  · rw [show cN (upd Y 4 (nI 0)) 4 = 0 from cN_of (j := 0) (upd_eq _ _ _) (by decide)] at hk; exact absurd hk (Nat.not_lt_zero k)
/-- one more byte on the tape -/
theorem YR.tp1 {M : Mm} {y s : Nat} {Y : Nat → Int32} {n hN : Nat} (h : YR M y Y n hN) (hY : YOk Y n hN) (hs : Y 4 = nI s) (hs2 : s < 60) (v : Int32) : YR (up2 (up2 M (y + 4 + 1) s v) (y + 4) 1 (nI (s + 1))) y (upd (upd Y (237 + s) v) 4 (nI (s + 1))) n hN := by
  have e : ∀ a, a ≠ y + 4 → a ≠ y + 5 → (up2 (up2 M (y + 4 + 1) s v) (y + 4) 1 (nI (s + 1))) a = M a := fun a h1 h2 => (up2_ne _ _ _ h1).trans (up2_ne _ _ _ (by omega))
  have g : ∀ i, i ≠ 4 → i ≠ 237 + s → (upd (upd Y (237 + s) v) 4 (nI (s + 1))) i = Y i := fun i h1 h2 => (upd_ne _ _ h1).trans (upd_ne _ _ h2)
  refine h.tail hY.1.2.1 (fun a h1 h2 _ _ _ => e a h1 h2) (fun i h1 _ h3 => g i h1 (by omega)) ((up2_at _ _ _ _).trans (upd_eq _ _ _).symm) ?_ ⟨fun k hk => ?_, h.wa_ hY.t5 (e _ (by omega) (by omega)) (fun i hi => g i (by omega) (by omega))⟩ (fun u hu => h.tx_ hu (hY.tl hu) (e _ (by omega) (by omega)) (e _ (by omega) (by omega)) (fun i h1 h2 => g i (by omega) (by omega)))
  · rw [e _ (by omega) (by omega), g _ (by decide) (by omega)]; exact h.1.2.2.2.2.2.2
  · rw [show cN (upd (upd Y (237 + s) v) 4 (nI (s + 1))) 4 = s + 1 from cN_of (upd_eq _ _ _) (by omega)] at hk
    rw [up2_ne _ _ _ (by omega), upd_ne _ _ (by omega)]
    by_cases hz : k = s
    · subst hz; rw [up2_at, upd_eq]
    · rw [up2_at_ne _ _ hz, upd_ne _ _ (by omega)]; exact h.tp.1 k (by rw [cN_of hs (by omega)]; omega)
/-- those that wait -/
theorem YR.wa0 {M : Mm} {y : Nat} {Y : Nat → Int32} {n hN : Nat} (h : YR M y Y n hN) (hY : YOk Y n hN) : YR (up2 M (y + 6) 1 (nI 0)) y (upd Y 5 (nI 0)) n hN := by
  refine h.tail hY.1.2.1 (fun a _ _ h1 _ _ => up2_ne _ _ _ h1) (fun i _ h1 _ => upd_ne _ _ h1) ?_ ((up2_at _ _ _ _).trans (upd_eq _ _ _).symm) ⟨h.tp_ hY.t4 (up2_ne _ _ _ (by omega)) (fun i hi => upd_ne _ _ (by omega)), fun k hk => ?_⟩ (fun u hu => h.tx_ hu (hY.tl hu) (up2_ne _ _ _ (by omega)) (up2_ne _ _ _ (by omega)) (fun i h1 h2 => upd_ne _ _ (by omega)))
  · rw [up2_ne _ _ _ (by omega), upd_ne _ _ (by decide)]; exact h.1.2.2.2.2.2.1
  · rw [show cN (upd Y 5 (nI 0)) 5 = 0 from cN_of (j := 0) (upd_eq _ _ _) (by decide)] at hk; exact absurd hk (Nat.not_lt_zero k)
theorem YR.wa1 {M : Mm} {y s : Nat} {Y : Nat → Int32} {n hN : Nat} (h : YR M y Y n hN) (hY : YOk Y n hN) (hs : Y 5 = nI s) (hs2 : s < 24) (v : Int32) : YR (up2 (up2 M (y + 6 + 1) s v) (y + 6) 1 (nI (s + 1))) y (upd (upd Y (297 + s) v) 5 (nI (s + 1))) n hN := by
  have e : ∀ a, a ≠ y + 6 → a ≠ y + 7 → (up2 (up2 M (y + 6 + 1) s v) (y + 6) 1 (nI (s + 1))) a = M a := fun a h1 h2 => (up2_ne _ _ _ h1).trans (up2_ne _ _ _ (by omega))
  have g : ∀ i, i ≠ 5 → i ≠ 297 + s → (upd (upd Y (297 + s) v) 5 (nI (s + 1))) i = Y i := fun i h1 h2 => (upd_ne _ _ h1).trans (upd_ne _ _ h2)
  refine h.tail hY.1.2.1 (fun a _ _ h1 h2 _ => e a h1 h2) (fun i _ h1 h3 => g i h1 (by omega)) ?_ ((up2_at _ _ _ _).trans (upd_eq _ _ _).symm) ⟨h.tp_ hY.t4 (e _ (by omega) (by omega)) (fun i hi => g i (by omega) (by omega)), fun k hk => ?_⟩ (fun u hu => h.tx_ hu (hY.tl hu) (e _ (by omega) (by omega)) (e _ (by omega) (by omega)) (fun i h1 h2 => g i (by omega) (by omega)))
  · rw [e _ (by omega) (by omega), g _ (by decide) (by omega)]; exact h.1.2.2.2.2.2.1
  · rw [show cN (upd (upd Y (297 + s) v) 5 (nI (s + 1))) 5 = s + 1 from cN_of (upd_eq _ _ _) (by omega)] at hk
    rw [up2_ne _ _ _ (by omega), upd_ne _ _ (by omega)]
    by_cases hz : k = s
    · subst hz; rw [up2_at, upd_eq]
    · rw [up2_at_ne _ _ hz, upd_ne _ _ (by omega)]; exact h.tp.2 k (by rw [cN_of hs (by omega)]; omega)
/-- a text is told anew: its cells, its row -/
theorem YR.txn {M M' : Mm} {y u : Nat} {Y Y' : Nat → Int32} {n hN : Nat} (h : YR M y Y n hN) (hY : YOk Y n hN) (hu : u < 2) (hM : ∀ a, a ≠ y + 55 + 3 * u → a ≠ y + 55 + 3 * u + 1 → M' a = M a) (hY' : ∀ i, (i < 321 + 62 * u ∨ 321 + 62 * u + 62 ≤ i) → Y' i = Y i) (hs : M' (y + 55 + 3 * u) 2 = Y' (321 + 62 * u)) (ht : ∀ k, k < cN Y' (321 + 62 * u) → M' (y + 55 + 3 * u + 1) k = nI (cvC (cN Y' (321 + 62 * u + 1 + k)))) : YR M' y Y' n hN := by
  refine h.tail hY.1.2.1 (fun a _ _ _ _ h1 => hM a (by omega) (by omega)) (fun i _ _ h1 => hY' i (by omega)) ?_ ?_ ⟨h.tp_ hY.t4 (hM _ (by omega) (by omega)) (fun i hi => hY' i (by omega)), h.wa_ hY.t5 (hM _ (by omega) (by omega)) (fun i hi => hY' i (by omega))⟩ (fun v hv => ?_)
  · rw [hM _ (by omega) (by omega), hY' _ (by omega)]; exact h.1.2.2.2.2.2.1
  · rw [hM _ (by omega) (by omega), hY' _ (by omega)]; exact h.1.2.2.2.2.2.2
  · by_cases e : v = u
    · subst e; exact ⟨hs, ht⟩
    · exact h.tx_ hv (hY.tl hv) (hM _ (by omega) (by omega)) (hM _ (by omega) (by omega)) (fun i h1 h2 => hY' i (by omega))
-- no code of a text for moves names a fifth name
def n4 (S : PS) : Prop := ∀ c, c ∈ S.2.2 → c ≠ 10004
theorem n4.cod {S : PS} (h : n4 S) {v : Nat} (hv : v ≠ 10004) : n4 (codS v S) := by
  unfold codS
  split
  · intro c hc
    rcases List.mem_append.mp hc with q | q
    · exact h c q
    · rw [List.mem_singleton] at q; rw [q]; exact hv
  · exact h
theorem sgn_n4 (lv : Nat) (b : Int32) : sgn lv b ≠ 10004 := by
  rcases sgn_rg lv b with h | h <;> omega
theorem lp_n4 {Y : Nat → Int32} {t lv : Nat} {g : PS → PS} (hg : ∀ S : PS, n4 S → n4 (g S)) : ∀ k S, n4 S → n4 (lpS Y t g lv k S)
  | 0, S, h => h
  | k + 1, S, h => by
    unfold lpS
    split
    · exact h
    · exact lp_n4 hg k _ ((hg (advS S) h).cod (sgn_n4 _ _))
theorem pz_n4 (Y : Nat → Int32) (t : Nat) : ∀ f lv op, ∀ S : PS, n4 S → n4 (pz Y t 1 f lv op S)
  | 0, _, _, S, h => h
  | f + 1, lv, op, S, h => by
    unfold pz
    by_cases hl : lv < 5
    · rw [if_pos hl]
      exact lp_n4 (pz_n4 Y t f (lv + 1) op) _ _ (pz_n4 Y t f (lv + 1) op S h)
    · rw [if_neg hl]
      unfold oneS
      split
      · split
        · exact h
        · split
          · exact (pz_n4 Y t f 5 (op + 1) (advS S) h).cod (by decide)
          · unfold clS
            have h1 := pz_n4 Y t f 0 (op + 1) (advS S) h
            split <;> exact h1
      · split
        · have h1 := num_st Y t 4 S 0
          have h2 := num_v Y t 4 S 0 1 (by decide)
          refine n4.cod (fun c hc => h c ?_) (by omega)
          rw [← h1.2]; exact hc
        · split
          · exact h
          · rename_i q
            refine n4.cod (S := S) h (v := _) ?_
            rcases nm_rg 1 (hereS Y t S) (lenS (1 + 1)) with z | ⟨j, hj, hj2⟩
            · exact absurd (Or.inr (show nmS 1 (hereS Y t S) < 0 by unfold nmS; rw [z]; decide)) q
            · have h4 : lenS (1 + 1) = 4 := by decide
              have h5 : nmS 1 (hereS Y t S) = nI j := hj2
              rw [h5, toN (by omega)]; omega
theorem tx_n4 (Y : Nat → Int32) (t : Nat) : ∀ c, c ∈ (txR Y t 1).2.2 → c ≠ 10004 := by
  rw [txR_eq]
  exact pz_n4 Y t 36 0 0 (true, 0, []) (fun c hc => absurd hc (List.not_mem_nil))
noncomputable def rdV (R : PS) (t : Nat) : Int32 := if R.1 = true ∧ R.2.1 = t then -1 else nI R.2.1
set_option maxHeartbeats 4000000 in
set_option maxRecDepth 100000 in
theorem d_read (l : Launch) (G : GC) (M : Mm) (Y : Nat → Int32) (t u n hN : Nat) (hR : YR M 1 Y n hN) (hT : Y 4 = nI t) (ht : t ≤ 60) (hu : u < 2) (hB : tB Y t) : CI l G 90 yX3_read cX3_read 3 .int [.ref (gb G + 187), .ref (gb G + 5), .ref (gK G (1 + u))] M (rdV (txR Y t u) t) (fun M' => cRp M' Y t u (txR Y t u) ∧ rF M M') := by
  refine Con.of (by decide +kernel) (Nat.le_of_ble_eq_true rfl) ?_
  intro f C hRm hRt _
  have hok0 : okS t (true, 0, []) := ⟨Nat.zero_le _, Nat.le_refl _⟩
  have htm := tx_mono Y t u
  show Vc f G NPh M 0 [(0, .ref (gb G + 187)), (1, .ref (gb G + 5)), (2, .ref (gK G (1 + u)))] []
  refine v_aload_n C 0 dX3_read_0 rfl ?_
  refine g_X3_12 C (by decide) (show shp 187 = 3 from by decide +kernel) dX3_read_1 ?_
  refine v_iconst C (nI 0) dX3_read_4 (by decide) ?_
  refine p_X3_28 C (by decide) (show shp 188 = 7 from by decide +kernel) dX3_read_5 ?_
  refine v_aload_n C 0 dX3_read_8 rfl ?_
  refine v_aload_n C 1 dX3_read_9 rfl ?_
  refine g_X3_32 C (by decide) (show shp 5 = 4 from by decide +kernel) dX3_read_10 ?_
  refine pd_bytes C dX3_read_13 ?_
  refine v_aload_n C 0 dX3_read_16 rfl ?_
  refine v_aload_n C 1 dX3_read_17 rfl ?_
  refine g_X3_37 C (by decide) (show shp 5 = 4 from by decide +kernel) dX3_read_18 ?_
  refine v_top (nI t) (by rw [up2_ne _ _ _ (by decide), up2_ne _ _ _ (by decide)]; exact hR.1.2.2.2.2.2.1.trans hT) ?_
  refine p_X3_38 C (by decide) (show shp 187 = 3 from by decide +kernel) dX3_read_21 ?_
  refine v_aload_n C 0 dX3_read_24 rfl ?_
  refine v_iconst C (nI 0) dX3_read_25 (by decide) ?_
  refine p_X3_41 C (by decide) (show shp 187 = 3 from by decide +kernel) dX3_read_26 ?_
  refine v_aload_n C 0 dX3_read_29 rfl ?_
  refine v_aload_n C 2 dX3_read_30 rfl ?_
  refine pd_names C (i := 1 + u) (by omega) dX3_read_31 ?_
  have hn5 : ∀ a, a ≠ 187 → a ≠ 188 → (up2 (up2 (up2 (up2 (up2 M 188 2 (nI 0)) 187 1 (nI 6)) 187 2 (nI t)) 187 3 (nI 0)) 187 4 (nI (1 + u + 1))) a = M a := fun a h1 h2 => by rw [up2_ne _ _ _ h1, up2_ne _ _ _ h1, up2_ne _ _ _ h1, up2_ne _ _ _ h1, up2_ne _ _ _ h2]
  have hp5 : cRp (up2 (up2 (up2 (up2 (up2 M 188 2 (nI 0)) 187 1 (nI 6)) 187 2 (nI t)) 187 3 (nI 0)) 187 4 (nI (1 + u + 1))) Y t u (true, 0, []) := by
    refine ⟨⟨by simp [up2_ap], by simp [up2_ap], by simp [up2_ap], by simp [up2_ap]⟩, fun k hk => ?_, ⟨0, by decide, by simp [up2_ap]⟩, fun _ => ⟨by simp [up2_ap], fun k hk => absurd hk (Nat.not_lt_zero k)⟩⟩
    rw [hn5 6 (by decide) (by decide)]; exact hR.tp.1 k (by rw [cN_of hT (by omega)]; exact hk)
  refine v_aload_n C 0 dX3_read_34 rfl ?_
  refine v_iconst C (nI 0) dX3_read_35 (by decide) ?_
  refine v_iconst C (nI 0) dX3_read_36 (by decide) ?_
  refine n_callVi C hRm [.int (nI 0), .int (nI 0)] cw_X3_readJoined ml_X3_44 (by decide) (show shp 187 = 3 from by decide +kernel) (by decide) rfl (((rb_all l G Y t u ht hu hB 36 0 (by decide)).1 0 (by decide) (by decide)) (up2 (up2 (up2 (up2 (up2 M 188 2 (nI 0)) 187 1 (nI 6)) 187 2 (nI t)) 187 3 (nI 0)) 187 4 (nI (1 + u + 1))) (true, 0, []) hp5 hok0 rfl) (by decide) rfl rfl (Nat.le_of_ble_eq_true rfl) dX3_read_37 (fun M1 hP_37 => ?_)
  obtain ⟨hp1, hf1⟩ := hP_37
  rw [← txR_eq] at hp1
  rw [← txR_eq]
  have he1 : rF M M1 := fun a h1 h2 h3 => (hf1 a h1 h2 h3).trans (hn5 a h1 h2)
  refine nb_if_eq C 58 dX3_read_40 rfl (fun h_40 => ?_) (fun h_40 => ?_)
  · skip
    refine v_aload_n C 0 dX3_read_58 rfl ?_
    refine g_X3_41 C (by decide) (show shp 187 = 3 from by decide +kernel) dX3_read_59 ?_
    refine v_top (nI (txR Y t u).2.1) (hp1.1.2.2.1) ?_
    exact n_iret C hRt rfl dX3_read_62 ((if_neg (fun q => h_40 q.1)).symm) ⟨hp1, he1⟩
  · skip
    refine v_aload_n C 0 dX3_read_43 rfl ?_
    refine g_X3_41 C (by decide) (show shp 187 = 3 from by decide +kernel) dX3_read_44 ?_
    refine v_top (nI (txR Y t u).2.1) (hp1.1.2.2.1) ?_
    refine v_aload_n C 0 dX3_read_47 rfl ?_
    refine g_X3_38 C (by decide) (show shp 187 = 3 from by decide +kernel) dX3_read_48 ?_
    refine v_top (nI t) (hp1.1.2.1) ?_
    refine n_icmp_ne C (by omega) (by omega) 58 dX3_read_51 rfl (fun h_51 => ?_) (fun h_51 => ?_)
    · skip
      refine v_aload_n C 0 dX3_read_58 rfl ?_
      refine g_X3_41 C (by decide) (show shp 187 = 3 from by decide +kernel) dX3_read_59 ?_
      refine v_top (nI (txR Y t u).2.1) (hp1.1.2.2.1) ?_
      exact n_iret C hRt rfl dX3_read_62 ((if_neg (fun q => h_51 q.2)).symm) ⟨hp1, he1⟩
    · skip
      refine v_iconst C (-1) dX3_read_54 (by decide) ?_
      refine v_goto C 62 dX3_read_55 rfl ?_
      exact n_iret C hRt rfl dX3_read_62 ((if_pos ⟨h_40, h_51⟩).symm) ⟨hp1, he1⟩
