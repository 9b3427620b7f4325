/-- what the class leaves unsaid of Y, beside yI -/
def yJ (Y : Nat → Int32) (n : Nat) : Prop := mind01 Y n ∧ self0 Y ∧ (∀ c, n ≤ c → c < 10 → Y (7 + 6 * c + 5) = nI 0) ∧ (∀ k, k < cN Y 4 → ∃ b, b < 256 ∧ Y (237 + k) = nI b) ∧ tx4 Y
theorem yd_184 {y : Nat} (hy : yd y) : y + 61 ≤ 184 := by rcases hy with h | h | h <;> subst h <;> decide
set_option maxHeartbeats 4000000 in
set_option maxRecDepth 100000 in
theorem f_look (l : Launch) (G : GC) (M : Mm) (y : Nat) (hy : yd y) (Y : Nat → Int32) (n hN : Nat) (hR : YR M y Y n hN) (hY : YOk Y n hN) (hJ1 : mind01 Y n) (hJ2 : self0 Y) : CV l G 2 yX1_look cX1_look 3 [.ref (gb G + 184), .ref (gb G + y)] M (fun M' => frF M M' ∧ frRep M' Y n) := by
  refine Con.of (by decide +kernel) (Nat.le_of_ble_eq_true rfl) ?_
  intro f C hRm hRt _
  have hyl : y + 60 < 221 := yd_lt hy (by decide)
  have hn2 := hY.1.2.1
  have h5 := hY.1.2.2.2
  have hy4 := yd_184 hy
  have L2 : ∀ (kk : Nat) (i : Nat) (X : Mm), n - i = kk → i ≤ n → X 184 0 = nI n → X 184 1 = nI (mndM Y n) → (∀ q, q < n → X 185 q = nI (slM Y n q)) → (∀ q, q < i → X 186 q = nI (bothM Y n q)) → frF M X → Vc f G NPh X 70 [(2, .int (nI i)), (0, .ref (gb G + 184)), (1, .ref (gb G + y))] [] := by
    intro kk
    induction kk using Nat.strongRecOn with
    | _ kk ihL2 =>
      intro i X hkk hi h0 h1 hs hb hFX
      refine v_iload_n C 0 dX1_look_70 rfl ?_
      refine v_aload_n C 1 dX1_look_71 rfl ?_
      refine g_X1_24 C (by decide) (show shp 184 = 1 from by decide +kernel) dX1_look_72 ?_
      refine v_top (nI n) (h0) ?_
      refine n_icmp_ge C (by omega) (by omega) 102 dX1_look_75 rfl (fun h_75 => ?_) (fun h_75 => ?_)
      · skip
        have h9 : i = n := by omega
        subst h9
        exact n_ret C hRt dX1_look_102 ⟨hFX, h0, h1, hs, hb⟩
      · skip
        refine v_aload_n C 1 dX1_look_78 rfl ?_
        refine g_X1_15 C (by decide) (show shp 184 = 1 from by decide +kernel) dX1_look_79 ?_
        refine v_iload_n C 0 dX1_look_82 rfl ?_
        refine v_aload_n C 1 dX1_look_83 rfl ?_
        refine g_X1_9 C (by decide) (show shp 184 = 1 from by decide +kernel) dX1_look_84 ?_
        refine v_iload_n C 0 dX1_look_87 rfl ?_
        refine v_iald C (by decide) (show shp 185 = 1000 + 10 from by decide +kernel) (by omega) (by decide) dX1_look_88 ?_
        refine v_top (nI (slM Y n i)) (hs i (by omega)) ?_
        refine v_aload_n C 1 dX1_look_89 rfl ?_
        refine v_iload_n C 0 dX1_look_90 rfl ?_
        refine n_callVp C hRm [.int (nI i)] cw_X1_naming ml_X1_46 (by decide) (show shp 184 = 1 from by decide +kernel) (by decide) rfl (f_naming l G X Y n hn2 h0 hs i (by omega)) (by decide) rfl rfl (Nat.le_of_ble_eq_true rfl) dX1_look_91 ?_
        refine v_iand C dX1_look_94 ?_
        refine v_top (nI (bothM Y n i)) ((nI_and _ _).trans (by rw [both_and])) ?_
        refine v_iast C (by decide) (show shp 186 = 1000 + 10 from by decide +kernel) (by omega) (by decide) dX1_look_95 ?_
        refine v_iinc C (nI (i + 1)) 0 [(2, .int (nI (i + 1))), (0, .ref (gb G + 184)), (1, .ref (gb G + y))] dX1_look_96 rfl (nI_add _ _) (by decide) rfl ?_
        refine v_goto C 70 dX1_look_99 rfl ?_
        refine v_sub [0, 1, 2] [(2, .int (nI (i + 1))), (0, .ref (gb G + 184)), (1, .ref (gb G + y))] rfl ?_
        exact ihL2 _ (by omega) (i + 1) (up2 X 186 i (nI (bothM Y n i))) rfl (by omega) ((congrFun (up2_ne _ _ _ (by decide)) 0).trans h0) ((congrFun (up2_ne _ _ _ (by decide)) 1).trans h1) (fun q hq => (congrFun (up2_ne _ _ _ (by decide)) q).trans (hs q hq)) (fun q hq => by
            by_cases e : q = i
            · subst e; exact up2_at _ _ _ _
            · rw [up2_at_ne _ _ e]; exact hb q (by omega)) (fun a ha => (up2_ne _ _ _ (by omega)).trans (hFX a ha))
  have L1 : ∀ (kk : Nat) (i : Nat) (X : Mm), n - i = kk → i ≤ n → YR X y Y n hN → X 184 0 = nI n → X 184 1 = nI (mndM Y i) → (∀ q, q < i → X 185 q = nI (slM Y n q)) → frF M X → Vc f G NPh X 15 [(2, .int (nI i)), (0, .ref (gb G + 184)), (1, .ref (gb G + y))] [] := by
    intro kk
    induction kk using Nat.strongRecOn with
    | _ kk ihL1 =>
      intro i X hkk hi hRX h0 h1 hs hFX
      refine v_iload_n C 0 dX1_look_15 rfl ?_
      refine v_aload_n C 1 dX1_look_16 rfl ?_
      refine g_X1_24 C (by decide) (show shp 184 = 1 from by decide +kernel) dX1_look_17 ?_
      refine v_top (nI n) (h0) ?_
      refine n_icmp_ge C (by omega) (by omega) 68 dX1_look_20 rfl (fun h_20 => ?_) (fun h_20 => ?_)
      · skip
        refine v_iconst C (nI 0) dX1_look_68 (by decide) ?_
        refine v_istore_n C [(2, .int (nI 0)), (0, .ref (gb G + 184)), (1, .ref (gb G + y))] dX1_look_69 rfl (by decide) rfl ?_
        refine v_sub [0, 1, 2] [(2, .int (nI 0)), (0, .ref (gb G + 184)), (1, .ref (gb G + y))] rfl ?_
        exact L2 _ 0 X rfl (by omega) h0 (by (have h9 : i = n := by omega); subst h9; exact h1) (by (have h9 : i = n := by omega); subst h9; exact hs) (fun q hq => absurd hq (Nat.not_lt_zero q)) hFX
      · skip
        refine v_aload_n C 1 dX1_look_23 rfl ?_
        refine g_X1_9 C (by decide) (show shp 184 = 1 from by decide +kernel) dX1_look_24 ?_
        refine v_iload_n C 0 dX1_look_27 rfl ?_
        refine v_aload_n C 1 dX1_look_28 rfl ?_
        refine v_aload_n C 2 dX1_look_29 rfl ?_
        refine g_X1_30 C (show y < 221 from by omega) (s_y hy) dX1_look_30 ?_
        refine v_iload_n C 0 dX1_look_33 rfl ?_
        refine v_aald C rfl (show y + 1 < 221 from by omega) (s_y1 hy) (by decide) (by decide) (show i < 10 from by omega) (by decide) (y + 20 + 3 * i) (by simp only [aOff] <;> omega) dX1_look_34 ?_
        refine g_X1_34 C (show y + 20 + 3 * i < 221 from by omega) (s_ch hy (by omega)) dX1_look_35 ?_
        refine n_callVp C hRm [.ref (gb G + (y + 20 + 3 * i + 1))] cw_X1_slipOf ml_X1_39 (by decide) (show shp 184 = 1 from by decide +kernel) (by decide) rfl (f_slipOf l G X (y + 20 + 3 * i + 1) (show y + 20 + 3 * i + 1 < 221 from by omega) (s_lk hy (by omega)) Y n hn2 h0 i (by omega) (fun o ho => hRX.lk (by omega) ho) (hJ2 i (by omega))) (by decide) rfl rfl (Nat.le_of_ble_eq_true rfl) dX1_look_38 ?_
        refine v_iast C (by decide) (show shp 185 = 1000 + 10 from by decide +kernel) (by omega) (by decide) dX1_look_41 ?_
        have hRq1 : YR (up2 X 185 i (nI (slM Y n i))) y Y n hN := hRX.fr (fun a _ hz => up2_ne _ _ _ (by omega))
        refine v_aload_n C 1 dX1_look_42 rfl ?_
        refine v_dup C dX1_look_43 rfl ?_
        refine g_X1_27 C (by decide) (show shp 184 = 1 from by decide +kernel) dX1_look_44 ?_
        refine v_top (nI (mndM Y i)) ((congrFun (up2_ne _ _ _ (by decide)) 1).trans h1) ?_
        refine v_aload_n C 2 dX1_look_47 rfl ?_
        refine g_X1_30 C (show y < 221 from by omega) (s_y hy) dX1_look_48 ?_
        refine v_iload_n C 0 dX1_look_51 rfl ?_
        refine v_aald C rfl (show y + 1 < 221 from by omega) (s_y1 hy) (by decide) (by decide) (show i < 10 from by omega) (by decide) (y + 20 + 3 * i) (by simp only [aOff] <;> omega) dX1_look_52 ?_
        refine g_X1_43 C (show y + 20 + 3 * i < 221 from by omega) (s_ch hy (by omega)) dX1_look_53 ?_
        refine v_top (Y (7 + 6 * i + 3)) (hRq1.ch (by omega) (by omega) (by omega)) ?_
        refine v_top (b2i (Y (7 + 6 * i + 3) = nI 1)) (mind_b hJ1 (by omega)) ?_
        refine v_iload_n C 0 dX1_look_56 rfl ?_
        refine v_ishl C dX1_look_57 ?_
        refine v_ior C dX1_look_58 ?_
        refine v_top (nI (mndM Y (i + 1))) (bmk_or (fun q => decide (Y (7 + 6 * q + 3) = nI 1)) (by omega) decide_eq_true_iff.symm) ?_
        refine p_X1_27 C (by decide) (show shp 184 = 1 from by decide +kernel) dX1_look_59 ?_
        have hRq2 : YR (up2 (up2 X 185 i (nI (slM Y n i))) 184 1 (nI (mndM Y (i + 1)))) y Y n hN := hRq1.fr (fun a _ hz => up2_ne _ _ _ (by omega))
        refine v_iinc C (nI (i + 1)) 0 [(2, .int (nI (i + 1))), (0, .ref (gb G + 184)), (1, .ref (gb G + y))] dX1_look_62 rfl (nI_add _ _) (by decide) rfl ?_
        refine v_goto C 15 dX1_look_65 rfl ?_
        refine v_sub [0, 1, 2] [(2, .int (nI (i + 1))), (0, .ref (gb G + 184)), (1, .ref (gb G + y))] rfl ?_
        exact ihL1 _ (by omega) (i + 1) (up2 (up2 X 185 i (nI (slM Y n i))) 184 1 (nI (mndM Y (i + 1)))) rfl (by omega) hRq2 ((up2_at_ne _ _ (by decide)).trans ((congrFun (up2_ne _ _ _ (by decide)) 0).trans h0)) (up2_at _ _ _ _) (fun q hq => by
            rw [up2_ne _ _ _ (by decide)]
            by_cases e : q = i
            · subst e; exact up2_at _ _ _ _
            · rw [up2_at_ne _ _ e]; exact hs q (by omega)) (fun a ha => (up2_ne _ _ _ (by omega)).trans ((up2_ne _ _ _ (by omega)).trans (hFX a ha)))
  show Vc f G NPh M 0 [(0, .ref (gb G + 184)), (1, .ref (gb G + y))] []
  refine v_aload_n C 0 dX1_look_0 rfl ?_
  refine v_aload_n C 1 dX1_look_1 rfl ?_
  refine g_X1_18 C (show y < 221 from by omega) (s_y hy) dX1_look_2 ?_
  refine v_top (nI n) (hR.n) ?_
  refine p_X1_24 C (by decide) (show shp 184 = 1 from by decide +kernel) dX1_look_5 ?_
  have hRq1 : YR (up2 M 184 0 (nI n)) y Y n hN := hR.fr (fun a _ hz => up2_ne _ _ _ (by omega))
  refine v_aload_n C 0 dX1_look_8 rfl ?_
  refine v_iconst C (nI 0) dX1_look_9 (by decide) ?_
  refine p_X1_27 C (by decide) (show shp 184 = 1 from by decide +kernel) dX1_look_10 ?_
  have hRq2 : YR (up2 (up2 M 184 0 (nI n)) 184 1 (nI 0)) y Y n hN := hRq1.fr (fun a _ hz => up2_ne _ _ _ (by omega))
  refine v_iconst C (nI 0) dX1_look_13 (by decide) ?_
  refine v_istore_n C [(2, .int (nI 0)), (0, .ref (gb G + 184)), (1, .ref (gb G + y))] dX1_look_14 rfl (by decide) rfl ?_
  refine v_sub [0, 1, 2] [(2, .int (nI 0)), (0, .ref (gb G + 184)), (1, .ref (gb G + y))] rfl ?_
  exact L1 _ 0 (up2 (up2 M 184 0 (nI n)) 184 1 (nI 0)) rfl (by omega) hRq2 ((up2_at_ne _ _ (by decide)).trans (up2_at _ _ _ _)) (up2_at _ _ _ _) (fun q hq => absurd hq (Nat.not_lt_zero q)) (fun a ha => (up2_ne _ _ _ (by omega)).trans (up2_ne _ _ _ (by omega)))
set_option maxHeartbeats 4000000 in
set_option maxRecDepth 100000 in
theorem c_outside (l : Launch) (G : GC) (M : Mm) (v lo hi : Int32) : CP l G 1 yX9_outside cX9_outside 3 .boolean [.int v, .int lo, .int hi] M (b2i (¬ (lo ≤ v ∧ v ≤ hi))) := by
  refine Con.of (by decide +kernel) (Nat.le_of_ble_eq_true rfl) ?_
  intro f C hRm hRt _
  show Vc f G NPh M 0 [(0, .int v), (1, .int lo), (2, .int hi)] []
  refine v_iload_n C 0 dX9_outside_0 rfl ?_
  refine v_iload_n C 1 dX9_outside_1 rfl ?_
  refine v_icmp_lt C 10 dX9_outside_2 rfl (fun h_2 => ?_) (fun h_2 => ?_)
  · skip
    refine v_iconst C (nI 1) dX9_outside_10 (by decide) ?_
    refine v_goto C 15 dX9_outside_11 rfl ?_
    exact n_iret C hRt rfl dX9_outside_15 (b2i_T (fun q => absurd h_2 (Int32.not_lt.mpr q.1))) rfl
  · skip
    refine v_iload_n C 0 dX9_outside_5 rfl ?_
    refine v_iload_n C 2 dX9_outside_6 rfl ?_
    refine v_icmp_le C 14 dX9_outside_7 rfl (fun h_7 => ?_) (fun h_7 => ?_)
    · skip
      refine v_iconst C (nI 0) dX9_outside_14 (by decide) ?_
      exact n_iret C hRt rfl dX9_outside_15 (b2i_F (fun q => q ⟨Int32.not_lt.mp h_2, h_7⟩)) rfl
    · skip
      refine v_iconst C (nI 1) dX9_outside_10 (by decide) ?_
      refine v_goto C 15 dX9_outside_11 rfl ?_
      exact n_iret C hRt rfl dX9_outside_15 (b2i_T (fun q => absurd q.2 h_7)) rfl
set_option maxHeartbeats 4000000 in
set_option maxRecDepth 100000 in
theorem c_error (l : Launch) (G : GC) (M : Mm) (k : Nat) (hk : k < 7) : CI l G 1 yX9_error cX9_error 2 .int [.ref (gb G + 0), .int (nI k)] M ((-1000000) - nI k) (fun M' => M' = up2 M 196 k (M 196 k + nI 1)) := by
  refine Con.of (by decide +kernel) (Nat.le_of_ble_eq_true rfl) ?_
  intro f C hRm hRt _
  show Vc f G NPh M 0 [(0, .ref (gb G + 0)), (1, .int (nI k))] []
  refine v_aload_n C 0 dX9_error_0 rfl ?_
  refine g_X9_49 C (by decide) (show shp 0 = 9 from by decide +kernel) dX9_error_1 ?_
  refine v_iload_n C 1 dX9_error_4 rfl ?_
  refine v_dup2 C dX9_error_5 rfl rfl ?_
  refine v_iald C (by decide) (show shp 196 = 1000 + 7 from by decide +kernel) (by omega) (by decide) dX9_error_6 ?_
  refine v_iconst C (nI 1) dX9_error_7 (by decide) ?_
  refine v_iadd C dX9_error_8 ?_
  refine v_iast C (by decide) (show shp 196 = 1000 + 7 from by decide +kernel) (by omega) (by decide) dX9_error_9 ?_
  refine v_ldcw C (-1000000) kc_X9_301 dX9_error_10 ?_
  refine v_iload_n C 1 dX9_error_13 rfl ?_
  refine v_isub C dX9_error_14 ?_
  exact n_iret C hRt (rfl) dX9_error_15 (rfl) (rfl)
set_option maxHeartbeats 4000000 in
set_option maxRecDepth 100000 in
theorem c_noChild (l : Launch) (G : GC) (M : Mm) (Y : Nat → Int32) (n hN : Nat) (hR : YR M 1 Y n hN) (hY : YOk Y n hN) (c : Int32) : CP l G 2 yX9_noChild cX9_noChild 2 .boolean [.ref (gb G + 0), .int c] M (b2i (¬ (nI 0 ≤ c ∧ c ≤ Y 0 - nI 1))) := by
  refine Con.of (by decide +kernel) (Nat.le_of_ble_eq_true rfl) ?_
  intro f C hRm hRt _
  show Vc f G NPh M 0 [(0, .ref (gb G + 0)), (1, .int c)] []
  refine v_iload_n C 1 dX9_noChild_0 rfl ?_
  refine v_iconst C (nI 0) dX9_noChild_1 (by decide) ?_
  refine v_aload_n C 0 dX9_noChild_2 rfl ?_
  refine g_X9_10 C (by decide) (show shp 0 = 9 from by decide +kernel) dX9_noChild_3 ?_
  refine g_X9_62 C (by decide) (s_y (by decide)) dX9_noChild_6 ?_
  refine v_top (nI n) (hR.n) ?_
  refine v_top (Y 0) (hY.1.1.symm) ?_
  refine v_iconst C (nI 1) dX9_noChild_9 (by decide) ?_
  refine v_isub C dX9_noChild_10 ?_
  refine n_callSp C hRm [.int c, .int (nI 0), .int ((Y 0) - (nI 1))] cw_X9_outside st_X9_outside ml_X9_54 (c_outside l G M c (nI 0) ((Y 0) - (nI 1))) (by decide) rfl rfl (Nat.le_of_ble_eq_true rfl) dX9_noChild_11 ?_
  exact n_iret C hRt (narrow_01 (b2i_01 _)) dX9_noChild_14 (rfl) (rfl)
set_option maxHeartbeats 4000000 in
set_option maxRecDepth 100000 in
theorem c_noHeap (l : Launch) (G : GC) (M : Mm) (Y : Nat → Int32) (n hN : Nat) (hR : YR M 1 Y n hN) (hY : YOk Y n hN) (c : Int32) : CP l G 2 yX9_noHeap cX9_noHeap 2 .boolean [.ref (gb G + 0), .int c] M (b2i (¬ (nI 0 ≤ c ∧ c ≤ Y 1 - nI 1))) := by
  refine Con.of (by decide +kernel) (Nat.le_of_ble_eq_true rfl) ?_
  intro f C hRm hRt _
  show Vc f G NPh M 0 [(0, .ref (gb G + 0)), (1, .int c)] []
  refine v_iload_n C 1 dX9_noHeap_0 rfl ?_
  refine v_iconst C (nI 0) dX9_noHeap_1 (by decide) ?_
  refine v_aload_n C 0 dX9_noHeap_2 rfl ?_
  refine g_X9_10 C (by decide) (show shp 0 = 9 from by decide +kernel) dX9_noHeap_3 ?_
  refine g_X9_101 C (by decide) (s_y (by decide)) dX9_noHeap_6 ?_
  refine v_top (nI hN) (hR.hN) ?_
  refine v_top (Y 1) (hY.1.2.2.1.symm) ?_
  refine v_iconst C (nI 1) dX9_noHeap_9 (by decide) ?_
  refine v_isub C dX9_noHeap_10 ?_
  refine n_callSp C hRm [.int c, .int (nI 0), .int ((Y 1) - (nI 1))] cw_X9_outside st_X9_outside ml_X9_54 (c_outside l G M c (nI 0) ((Y 1) - (nI 1))) (by decide) rfl rfl (Nat.le_of_ble_eq_true rfl) dX9_noHeap_11 ?_
  exact n_iret C hRt (narrow_01 (b2i_01 _)) dX9_noHeap_14 (rfl) (rfl)
set_option maxHeartbeats 4000000 in
set_option maxRecDepth 100000 in
theorem c_noSheet (l : Launch) (G : GC) (M : Mm) (c : Int32) : CP l G 2 yX9_noSheet cX9_noSheet 1 .boolean [.int c] M (b2i (¬ (nI 0 ≤ c ∧ c ≤ nI 3))) := by
  refine Con.of (by decide +kernel) (Nat.le_of_ble_eq_true rfl) ?_
  intro f C hRm hRt _
  show Vc f G NPh M 0 [(0, .int c)] []
  refine v_iload_n C 0 dX9_noSheet_0 rfl ?_
  refine v_iconst C (nI 0) dX9_noSheet_1 (by decide) ?_
  refine v_iconst C (nI 3) dX9_noSheet_2 (by decide) ?_
  refine n_callSp C hRm [.int c, .int (nI 0), .int (nI 3)] cw_X9_outside st_X9_outside ml_X9_54 (c_outside l G M c (nI 0) (nI 3)) (by decide) rfl rfl (Nat.le_of_ble_eq_true rfl) dX9_noSheet_3 ?_
  exact n_iret C hRt (narrow_01 (b2i_01 _)) dX9_noSheet_6 (rfl) (rfl)
set_option maxHeartbeats 4000000 in
set_option maxRecDepth 100000 in
theorem c_notAhead (l : Launch) (G : GC) (M : Mm) (c : Int32) : CP l G 2 yX9_notAhead cX9_notAhead 1 .boolean [.int c] M (b2i (¬ (nI 0 ≤ c ∧ c ≤ nI 60))) := by
  refine Con.of (by decide +kernel) (Nat.le_of_ble_eq_true rfl) ?_
  intro f C hRm hRt _
  show Vc f G NPh M 0 [(0, .int c)] []
  refine v_iload_n C 0 dX9_notAhead_0 rfl ?_
  refine v_iconst C (nI 0) dX9_notAhead_1 (by decide) ?_
  refine v_bipush C (nI 60) dX9_notAhead_2 (by decide) ?_
  refine n_callSp C hRm [.int c, .int (nI 0), .int (nI 60)] cw_X9_outside st_X9_outside ml_X9_54 (c_outside l G M c (nI 0) (nI 60)) (by decide) rfl rfl (Nat.le_of_ble_eq_true rfl) dX9_notAhead_4 ?_
  exact n_iret C hRt (narrow_01 (b2i_01 _)) dX9_notAhead_7 (rfl) (rfl)
def mostF (q : Nat) : Int32 := if q = 0 then nI 6 else if q = 3 then nI 1 else nI 99
set_option maxHeartbeats 4000000 in
set_option maxRecDepth 100000 in
theorem c_mostOf (l : Launch) (G : GC) (M : Mm) (q : Nat) (hq : q ≤ 3) : CP l G 1 yX9_mostOf cX9_mostOf 1 .int [.int (nI q)] M (mostF q) := by
  refine Con.of (by decide +kernel) (Nat.le_of_ble_eq_true rfl) ?_
  intro f C hRm hRt _
  rcases (show q = 0 ∨ q = 1 ∨ q = 2 ∨ q = 3 by omega) with h | h | h | h <;> subst h
  · show Vc f G NPh M 0 [(0, .int (nI 0))] []
    refine v_iload_n C 0 dX9_mostOf_0 rfl ?_
    refine v_lookup (off := 27) C 28 dX9_mostOf_1 (by decide +kernel) (by decide +kernel) rfl ?_
    refine v_bipush C (nI 6) dX9_mostOf_28 (by decide) ?_
    exact n_iret C hRt rfl dX9_mostOf_30 (by decide) rfl
  · show Vc f G NPh M 0 [(0, .int (nI 1))] []
    refine v_iload_n C 0 dX9_mostOf_0 rfl ?_
    refine v_lookup (off := 32) C 33 dX9_mostOf_1 (by decide +kernel) (by decide +kernel) rfl ?_
    refine v_bipush C (nI 99) dX9_mostOf_33 (by decide) ?_
    exact n_iret C hRt rfl dX9_mostOf_35 (by decide) rfl
  · show Vc f G NPh M 0 [(0, .int (nI 2))] []
    refine v_iload_n C 0 dX9_mostOf_0 rfl ?_
    refine v_lookup (off := 32) C 33 dX9_mostOf_1 (by decide +kernel) (by decide +kernel) rfl ?_
    refine v_bipush C (nI 99) dX9_mostOf_33 (by decide) ?_
    exact n_iret C hRt rfl dX9_mostOf_35 (by decide) rfl
  · show Vc f G NPh M 0 [(0, .int (nI 3))] []
    refine v_iload_n C 0 dX9_mostOf_0 rfl ?_
    refine v_lookup (off := 30) C 31 dX9_mostOf_1 (by decide +kernel) (by decide +kernel) rfl ?_
    refine v_iconst C (nI 1) dX9_mostOf_31 (by decide) ?_
    exact n_iret C hRt rfl dX9_mostOf_32 (by decide) rfl
set_option maxHeartbeats 4000000 in
set_option maxRecDepth 100000 in
theorem c_ofChild (l : Launch) (G : GC) (M : Mm) (y : Nat) (hy : yd y) (Y : Nat → Int32) (n hN : Nat) (hR : YR M y Y n hN) (hY : YOk Y n hN) (hJ1 : mind01 Y n) (hJ2 : self0 Y) (c q : Nat) (hc : c < n) (hq : q ≤ 7) : CI l G 3 yX9_ofChild cX9_ofChild 5 .int [.ref (gb G + 0), .ref (gb G + y), .int (nI c), .int (nI q)] M (toldS Y n c q) (frF M) := by
  refine Con.of (by decide +kernel) (Nat.le_of_ble_eq_true rfl) ?_
  intro f C hRm hRt _
  have hyl : y + 60 < 221 := yd_lt hy (by decide)
  have hn2 := hY.1.2.1
  have h5 := hY.1.2.2.2
  have hy4 := yd_184 hy
  show Vc f G NPh M 0 [(0, .ref (gb G + 0)), (1, .ref (gb G + y)), (2, .int (nI c)), (3, .int (nI q))] []
  refine v_aload_n C 1 dX9_ofChild_0 rfl ?_
  refine g_X9_66 C (show y < 221 from by omega) (s_y hy) dX9_ofChild_1 ?_
  refine v_iload_n C 2 dX9_ofChild_4 rfl ?_
  refine v_aald C rfl (show y + 1 < 221 from by omega) (s_y1 hy) (by decide) (by decide) (show c < 10 from by omega) (by decide) (y + 20 + 3 * c) (by simp only [aOff] <;> omega) dX9_ofChild_5 ?_
  refine v_astore C [(4, .ref (gb G + (y + 20 + 3 * c))), (0, .ref (gb G + 0)), (1, .ref (gb G + y)), (2, .int (nI c)), (3, .int (nI q))] dX9_ofChild_6 (by decide) rfl ?_
  refine v_iload_n C 4 dX9_ofChild_8 rfl ?_
  rcases (show q = 0 ∨ q = 1 ∨ q = 2 ∨ q = 3 ∨ q = 4 ∨ q = 5 ∨ q = 6 ∨ q = 7 by omega) with h_0 | h_0 | h_0 | h_0 | h_0 | h_0 | h_0 | h_0
  · subst h_0
    refine v_tableIn (off := 39) C 48 dX9_ofChild_9 (by decide +kernel) (by decide +kernel) (by decide +kernel) rfl ?_
    refine v_aload C 0 dX9_ofChild_48 rfl ?_
    refine g_X9_70 C (show y + 20 + 3 * c < 221 from by omega) (s_ch hy (by omega)) dX9_ofChild_50 ?_
    refine v_top (Y (7 + 6 * c + 0)) (hR.ch (by omega) (by omega) (by omega)) ?_
    exact n_iret C hRt rfl dX9_ofChild_53 rfl (fun _ _ => rfl)
  · subst h_0
    refine v_tableIn (off := 45) C 54 dX9_ofChild_9 (by decide +kernel) (by decide +kernel) (by decide +kernel) rfl ?_
    refine v_aload C 0 dX9_ofChild_54 rfl ?_
    refine g_X9_75 C (show y + 20 + 3 * c < 221 from by omega) (s_ch hy (by omega)) dX9_ofChild_56 ?_
    refine v_top (Y (7 + 6 * c + 1)) (hR.ch (by omega) (by omega) (by omega)) ?_
    exact n_iret C hRt rfl dX9_ofChild_59 rfl (fun _ _ => rfl)
  · subst h_0
    refine v_tableIn (off := 51) C 60 dX9_ofChild_9 (by decide +kernel) (by decide +kernel) (by decide +kernel) rfl ?_
    refine v_aload C 0 dX9_ofChild_60 rfl ?_
    refine g_X9_78 C (show y + 20 + 3 * c < 221 from by omega) (s_ch hy (by omega)) dX9_ofChild_62 ?_
    refine v_top (Y (7 + 6 * c + 2)) (hR.ch (by omega) (by omega) (by omega)) ?_
    exact n_iret C hRt rfl dX9_ofChild_65 rfl (fun _ _ => rfl)
  · subst h_0
    refine v_tableIn (off := 57) C 66 dX9_ofChild_9 (by decide +kernel) (by decide +kernel) (by decide +kernel) rfl ?_
    refine v_aload C 0 dX9_ofChild_66 rfl ?_
    refine g_X9_81 C (show y + 20 + 3 * c < 221 from by omega) (s_ch hy (by omega)) dX9_ofChild_68 ?_
    refine v_top (Y (7 + 6 * c + 3)) (hR.ch (by omega) (by omega) (by omega)) ?_
    exact n_iret C hRt rfl dX9_ofChild_71 rfl (fun _ _ => rfl)
  · subst h_0
    refine v_tableIn (off := 63) C 72 dX9_ofChild_9 (by decide +kernel) (by decide +kernel) (by decide +kernel) rfl ?_
    refine v_aload C 0 dX9_ofChild_72 rfl ?_
    refine g_X9_128 C (show y + 20 + 3 * c < 221 from by omega) (s_ch hy (by omega)) dX9_ofChild_74 ?_
    refine v_top (Y (7 + 6 * c + 4)) (hR.at (by omega) (by omega)) ?_
    exact n_iret C hRt rfl dX9_ofChild_77 rfl (fun _ _ => rfl)
  · subst h_0
    refine v_tableIn (off := 69) C 78 dX9_ofChild_9 (by decide +kernel) (by decide +kernel) (by decide +kernel) rfl ?_
    refine v_aload C 0 dX9_ofChild_78 rfl ?_
    refine g_X9_234 C (show y + 20 + 3 * c < 221 from by omega) (s_ch hy (by omega)) dX9_ofChild_80 ?_
    refine v_top (Y (7 + 6 * c + 5)) (hR.ch (by omega) (by omega) (by omega)) ?_
    exact n_iret C hRt rfl dX9_ofChild_83 rfl (fun _ _ => rfl)
  · subst h_0
    refine v_tableOut C 84 dX9_ofChild_9 (by first | exact Or.inr (by decide +kernel) | exact Or.inl (by decide +kernel)) rfl ?_
    refine v_aload_n C 1 dX9_ofChild_84 rfl ?_
    refine g_X9_25 C (by decide) (show shp 0 = 9 from by decide +kernel) dX9_ofChild_85 ?_
    refine v_aload_n C 2 dX9_ofChild_88 rfl ?_
    refine n_callVv C hRm [.ref (gb G + y)] cw_X1_look ml_X9_207 (by decide) (show shp 184 = 1 from by decide +kernel) (by decide) rfl (f_look l G M y hy Y _ _ hR hY hJ1 hJ2) (by decide) rfl rfl (Nat.le_of_ble_eq_true rfl) dX9_ofChild_89 (fun Mq1 hP_89 => ?_)
    obtain ⟨hLq1, hFrq1⟩ := hP_89
    have hRq1 := hR.fr (fun a h1 h2 => hLq1 a (by omega))
    refine v_iload_n C 4 dX9_ofChild_92 rfl ?_
    refine v_bipush C (nI 6) dX9_ofChild_93 (by decide) ?_
    refine n_icmp_ne C (by omega) (by omega) 110 dX9_ofChild_95 rfl (fun h_95 => absurd h_95 (by decide)) (fun _ => ?_)
    refine v_aload_n C 1 dX9_ofChild_98 rfl ?_
    refine g_X9_25 C (by decide) (show shp 0 = 9 from by decide +kernel) dX9_ofChild_99 ?_
    refine g_X9_305 C (by decide) (show shp 184 = 1 from by decide +kernel) dX9_ofChild_102 ?_
    refine v_iload_n C 3 dX9_ofChild_105 rfl ?_
    refine v_iald C (by decide) (show shp 185 = 1000 + 10 from by decide +kernel) (by omega) (by decide) dX9_ofChild_106 ?_
    refine v_top (nI (slM Y n c)) (hFrq1.2.2.1 c (by omega)) ?_
    refine v_goto C 118 dX9_ofChild_107 rfl ?_
    exact n_iret C hRt rfl dX9_ofChild_118 rfl hLq1
  · subst h_0
    refine v_tableOut C 84 dX9_ofChild_9 (by first | exact Or.inr (by decide +kernel) | exact Or.inl (by decide +kernel)) rfl ?_
    refine v_aload_n C 1 dX9_ofChild_84 rfl ?_
    refine g_X9_25 C (by decide) (show shp 0 = 9 from by decide +kernel) dX9_ofChild_85 ?_
    refine v_aload_n C 2 dX9_ofChild_88 rfl ?_
    refine n_callVv C hRm [.ref (gb G + y)] cw_X1_look ml_X9_207 (by decide) (show shp 184 = 1 from by decide +kernel) (by decide) rfl (f_look l G M y hy Y _ _ hR hY hJ1 hJ2) (by decide) rfl rfl (Nat.le_of_ble_eq_true rfl) dX9_ofChild_89 (fun Mq2 hP_89 => ?_)
    obtain ⟨hLq2, hFrq2⟩ := hP_89
    have hRq2 := hR.fr (fun a h1 h2 => hLq2 a (by omega))
    refine v_iload_n C 4 dX9_ofChild_92 rfl ?_
    refine v_bipush C (nI 6) dX9_ofChild_93 (by decide) ?_
    refine n_icmp_ne C (by omega) (by omega) 110 dX9_ofChild_95 rfl (fun _ => ?_) (fun h_95 => absurd h_95 (by decide))
    refine v_aload_n C 1 dX9_ofChild_110 rfl ?_
    refine g_X9_25 C (by decide) (show shp 0 = 9 from by decide +kernel) dX9_ofChild_111 ?_
    refine v_iload_n C 3 dX9_ofChild_114 rfl ?_
    refine n_callVp C hRm [.int (nI c)] cw_X1_countNaming ml_X9_308 (by decide) (show shp 184 = 1 from by decide +kernel) (by decide) rfl (f_countNaming l G Mq2 Y n hn2 hFrq2 c (by omega)) (by decide) rfl rfl (Nat.le_of_ble_eq_true rfl) dX9_ofChild_115 ?_
    exact n_iret C hRt rfl dX9_ofChild_118 rfl hLq2
