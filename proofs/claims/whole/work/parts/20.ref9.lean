abbrev O3 : Type := Nat × Int32 × (Nat → Int32)
def er (k : Nat) (Y : Nat → Int32) : O3 := (k, (-1000000) - nI k, Y)
def errUp (e : Nat → Int32) (k : Nat) : Nat → Int32 := if k = 0 then e else upd e k (e k + nI 1)
/-- what a public method leaves as it was: all but now, its own scratch, and one count of errors -/
def eqM (k : Nat) (M X : Mm) : Prop := (∀ a, a ≠ 205 → a ≠ 206 → a ≠ 208 → a ≠ 209 → a ≠ 211 → a ≠ 212 → a ≠ 213 → a ≠ 214 → a ≠ 215 → a ≠ 220 → X a = M a) ∧ X 205 3 = M 205 3 ∧ X 205 17 = M 205 17 ∧ X 209 = errUp (M 209) k
theorem eqM.rf (M : Mm) : eqM 0 M M := ⟨fun _ _ _ _ _ _ _ _ _ _ _ => rfl, rfl, rfl, rfl⟩
theorem eqM.fnd (M : Mm) {k : Nat} (hk : k ≠ 0) : eqM k M (fndM M k) := ⟨fun a _ _ _ h _ _ _ _ _ _ => up2_ne M _ _ h, congrFun (up2_ne M k _ (by decide)) 3, congrFun (up2_ne M k _ (by decide)) 17, by unfold fndM errUp; rw [if_neg hk, up2_eq]⟩
theorem eqM.of23 {M X : Mm} (h : ex23 M X) : eqM 0 M X := ⟨fun a h1 h2 h3 h4 h5 h6 h7 _ _ _ => h a h2 h6 h7, congrFun (h 205 (by decide) (by decide) (by decide)) 3, congrFun (h 205 (by decide) (by decide) (by decide)) 17, h 209 (by decide) (by decide) (by decide)⟩
theorem eqM.tr {k : Nat} {A B C : Mm} (h : eqM 0 A B) (h2 : eqM k B C) : eqM k A C := ⟨fun a x1 x2 x3 x4 x5 x6 x7 x8 x9 x10 => (h2.1 a x1 x2 x3 x4 x5 x6 x7 x8 x9 x10).trans (h.1 a x1 x2 x3 x4 x5 x6 x7 x8 x9 x10), h2.2.1.trans h.2.1, h2.2.2.1.trans h.2.2.1, by rw [h2.2.2.2, h.2.2.2]; rfl⟩
theorem eqM.up (M : Mm) {a : Nat} (i : Nat) (v : Int32) (ha : a = 208 ∨ a = 211 ∨ a = 212 ∨ a = 213 ∨ a = 214 ∨ a = 215 ∨ a = 220) : eqM 0 M (up2 M a i v) := ⟨fun b h1 h2 h3 h4 h5 h6 h7 h8 h9 h10 => up2_ne M _ _ (by omega), congrFun (up2_ne M _ _ (by omega)) 3, congrFun (up2_ne M _ _ (by omega)) 17, up2_ne M _ _ (by omega)⟩
theorem eqM.upA (M : Mm) {a : Nat} (g : Nat → Int32) (ha : a = 208 ∨ a = 211 ∨ a = 212 ∨ a = 213 ∨ a = 214 ∨ a = 215 ∨ a = 220) : eqM 0 M (upA M a g) := ⟨fun b h1 h2 h3 h4 h5 h6 h7 h8 h9 h10 => upA_ne M _ (by omega), congrFun (upA_ne M _ (by omega)) 3, congrFun (upA_ne M _ (by omega)) 17, upA_ne M _ (by omega)⟩
theorem fnd_upA (M : Mm) (Y : Nat → Int32) (k : Nat) : fndM (upA M 206 Y) k = upA (fndM M k) 206 Y := by
  unfold fndM
  rw [congrFun (upA_ne M Y (show (209 : Nat) ≠ 206 by decide)) k, up2_upA_ne _ _ _ _ (by decide)]
def PubR (M : Mm) (Y' : Nat → Int32) (k : Nat) : Mm → Prop := fun M' => ∃ X, M' = upA X 206 Y' ∧ eqM k M X
theorem within_nat {x : Int32} {k : Nat} (hk : k < 2 ^ 31) (h : nI 0 ≤ x ∧ x ≤ nI k) : ∃ j, j ≤ k ∧ x = nI j := by
  obtain ⟨j, h1, h2⟩ := nI_of (x := x) (by rw [← nI_0]; exact Int32.not_lt.mpr h.1)
  subst h2
  exact ⟨j, (nI_leI h1 hk).mp h.2, rfl⟩
theorem is_nat {y x : Int32} {n : Nat} (hn : y = nI n) (hn2 : n ≤ 10) (h : nI 0 ≤ x ∧ x ≤ y - nI 1) : ∃ j, j < n ∧ x = nI j := by
  subst hn
  obtain ⟨j, h1, h2⟩ := nI_of (x := x) (by rw [← nI_0]; exact Int32.not_lt.mpr h.1)
  subst h2
  rcases Nat.eq_zero_or_pos n with h0 | h0
  · subst h0
    exact absurd (Int32.le_trans h.1 h.2) (by decide)
  · rw [nI_subN h0] at h
    exact ⟨j, by have := (nI_leI h1 (by omega)).mp h.2; omega, rfl⟩
theorem is_mk {y : Int32} {n c : Nat} (hn : y = nI n) (hn2 : n ≤ 10) (h : c < n) : nI 0 ≤ nI c ∧ nI c ≤ y - nI 1 := by
  subst hn
  rw [nI_subN (by omega)]
  exact ⟨nI_le (by omega) (by omega), nI_le (by omega) (by omega)⟩

set_option maxHeartbeats 4000000 in
set_option maxRecDepth 100000 in
theorem r_copy_na (l : Launch) (G : GC) (M : Mm) : CV l G 1 yX10_copy cX10_copy 3 [.ref (gb G + 206), .ref (gb G + 208)] M (fun M' => M' = upA M 208 (M 206)) := by
  refine Con.of (by decide +kernel) (Nat.le_of_ble_eq_true rfl) ?_
  intro f C hRm hRt _
  refine v_can (fun hcan => ?_)
  have LC : ∀ (kk : Nat) (j : Nat), 445 - j = kk → j ≤ 445 → Vc f G NPh (upA M 208 (fillTo (M 206) (M 208) j)) 2 [(2, .int (nI j)), (0, .ref (gb G + 206)), (1, .ref (gb G + 208))] [] := by
    intro kk
    induction kk using Nat.strongRecOn with
    | _ kk ihLC =>
      intro j hkk hj
      refine v_iload_n C 0 dX10_copy_2 rfl ?_
      refine v_sipush C (nI 445) dX10_copy_3 (by decide) ?_
      refine n_icmp_ge C (by omega) (by omega) 21 dX10_copy_6 rfl (fun h_6 => ?_) (fun h_6 => ?_)
      · skip
        (have h5 : j = 445 := (by omega)); subst h5
        exact n_ret C hRt dX10_copy_21 (congrArg (upA M 208) (funext fun i => by unfold fillTo; split; rfl; exact (hcan 208 i (by rw [sh_208]; decide) (by rw [sh_208]; omega)).trans (hcan 206 i (by rw [sh_206]; decide) (by rw [sh_206]; omega)).symm))
      · skip
        refine v_aload_n C 2 dX10_copy_9 rfl ?_
        refine v_iload_n C 0 dX10_copy_10 rfl ?_
        refine v_aload_n C 1 dX10_copy_11 rfl ?_
        refine v_iload_n C 0 dX10_copy_12 rfl ?_
        refine v_iald C (by decide) sh_206 (by omega) (by decide) dX10_copy_13 ?_
        refine v_top (M 206 j) (congrFun (upA_ne M _ (by decide)) j) ?_
        refine v_iast C (by decide) sh_208 (by omega) (by decide) dX10_copy_14 ?_
        refine v_mem (upA M 208 (fillTo (M 206) (M 208) (j + 1))) (by rw [up2_upA, fillTo_succ]) ?_
        refine v_iinc C (nI (j + 1)) 0 [(2, .int (nI (j + 1))), (0, .ref (gb G + 206)), (1, .ref (gb G + 208))] dX10_copy_15 rfl (nI_add _ _) (by decide) rfl ?_
        refine v_goto C 2 dX10_copy_18 rfl ?_
        refine v_sub [0, 1, 2] [(2, .int (nI (j + 1))), (0, .ref (gb G + 206)), (1, .ref (gb G + 208))] rfl ?_
        exact ihLC _ (by omega) (j + 1)  rfl (by omega)
  show Vc f G NPh M 0 [(0, .ref (gb G + 206)), (1, .ref (gb G + 208))] []
  refine v_iconst C (nI 0) dX10_copy_0 (by decide) ?_
  refine v_istore_n C [(2, .int (nI 0)), (0, .ref (gb G + 206)), (1, .ref (gb G + 208))] dX10_copy_1 rfl (by decide) rfl ?_
  refine v_mem (upA M 208 (fillTo (M 206) (M 208) 0)) (by rw [fillTo_0, upA_self]) ?_
  refine v_sub [0, 1, 2] [(2, .int (nI 0)), (0, .ref (gb G + 206)), (1, .ref (gb G + 208))] rfl ?_
  exact LC _ 0 rfl (by omega)
set_option maxHeartbeats 4000000 in
set_option maxRecDepth 100000 in
theorem r_copy_an (l : Launch) (G : GC) (M : Mm) : CV l G 1 yX10_copy cX10_copy 3 [.ref (gb G + 208), .ref (gb G + 206)] M (fun M' => M' = upA M 206 (M 208)) := by
  refine Con.of (by decide +kernel) (Nat.le_of_ble_eq_true rfl) ?_
  intro f C hRm hRt _
  refine v_can (fun hcan => ?_)
  have LC : ∀ (kk : Nat) (j : Nat), 445 - j = kk → j ≤ 445 → Vc f G NPh (upA M 206 (fillTo (M 208) (M 206) j)) 2 [(2, .int (nI j)), (0, .ref (gb G + 208)), (1, .ref (gb G + 206))] [] := by
    intro kk
    induction kk using Nat.strongRecOn with
    | _ kk ihLC =>
      intro j hkk hj
      refine v_iload_n C 0 dX10_copy_2 rfl ?_
      refine v_sipush C (nI 445) dX10_copy_3 (by decide) ?_
      refine n_icmp_ge C (by omega) (by omega) 21 dX10_copy_6 rfl (fun h_6 => ?_) (fun h_6 => ?_)
      · skip
        (have h5 : j = 445 := (by omega)); subst h5
        exact n_ret C hRt dX10_copy_21 (congrArg (upA M 206) (funext fun i => by unfold fillTo; split; rfl; exact (hcan 206 i (by rw [sh_206]; decide) (by rw [sh_206]; omega)).trans (hcan 208 i (by rw [sh_208]; decide) (by rw [sh_208]; omega)).symm))
      · skip
        refine v_aload_n C 2 dX10_copy_9 rfl ?_
        refine v_iload_n C 0 dX10_copy_10 rfl ?_
        refine v_aload_n C 1 dX10_copy_11 rfl ?_
        refine v_iload_n C 0 dX10_copy_12 rfl ?_
        refine v_iald C (by decide) sh_208 (by omega) (by decide) dX10_copy_13 ?_
        refine v_top (M 208 j) (congrFun (upA_ne M _ (by decide)) j) ?_
        refine v_iast C (by decide) sh_206 (by omega) (by decide) dX10_copy_14 ?_
        refine v_mem (upA M 206 (fillTo (M 208) (M 206) (j + 1))) (by rw [up2_upA, fillTo_succ]) ?_
        refine v_iinc C (nI (j + 1)) 0 [(2, .int (nI (j + 1))), (0, .ref (gb G + 208)), (1, .ref (gb G + 206))] dX10_copy_15 rfl (nI_add _ _) (by decide) rfl ?_
        refine v_goto C 2 dX10_copy_18 rfl ?_
        refine v_sub [0, 1, 2] [(2, .int (nI (j + 1))), (0, .ref (gb G + 208)), (1, .ref (gb G + 206))] rfl ?_
        exact ihLC _ (by omega) (j + 1)  rfl (by omega)
  show Vc f G NPh M 0 [(0, .ref (gb G + 208)), (1, .ref (gb G + 206))] []
  refine v_iconst C (nI 0) dX10_copy_0 (by decide) ?_
  refine v_istore_n C [(2, .int (nI 0)), (0, .ref (gb G + 208)), (1, .ref (gb G + 206))] dX10_copy_1 rfl (by decide) rfl ?_
  refine v_mem (upA M 206 (fillTo (M 208) (M 206) 0)) (by rw [fillTo_0, upA_self]) ?_
  refine v_sub [0, 1, 2] [(2, .int (nI 0)), (0, .ref (gb G + 208)), (1, .ref (gb G + 206))] rfl ?_
  exact LC _ 0 rfl (by omega)
set_option maxHeartbeats 4000000 in
set_option maxRecDepth 100000 in
theorem r_copy_nk (l : Launch) (G : GC) (M : Mm) : CV l G 1 yX10_copy cX10_copy 3 [.ref (gb G + 206), .ref (gb G + 207)] M (fun M' => M' = upA M 207 (M 206)) := by
  refine Con.of (by decide +kernel) (Nat.le_of_ble_eq_true rfl) ?_
  intro f C hRm hRt _
  refine v_can (fun hcan => ?_)
  have LC : ∀ (kk : Nat) (j : Nat), 445 - j = kk → j ≤ 445 → Vc f G NPh (upA M 207 (fillTo (M 206) (M 207) j)) 2 [(2, .int (nI j)), (0, .ref (gb G + 206)), (1, .ref (gb G + 207))] [] := by
    intro kk
    induction kk using Nat.strongRecOn with
    | _ kk ihLC =>
      intro j hkk hj
      refine v_iload_n C 0 dX10_copy_2 rfl ?_
      refine v_sipush C (nI 445) dX10_copy_3 (by decide) ?_
      refine n_icmp_ge C (by omega) (by omega) 21 dX10_copy_6 rfl (fun h_6 => ?_) (fun h_6 => ?_)
      · skip
        (have h5 : j = 445 := (by omega)); subst h5
        exact n_ret C hRt dX10_copy_21 (congrArg (upA M 207) (funext fun i => by unfold fillTo; split; rfl; exact (hcan 207 i (by rw [sh_207]; decide) (by rw [sh_207]; omega)).trans (hcan 206 i (by rw [sh_206]; decide) (by rw [sh_206]; omega)).symm))
      · skip
        refine v_aload_n C 2 dX10_copy_9 rfl ?_
        refine v_iload_n C 0 dX10_copy_10 rfl ?_
        refine v_aload_n C 1 dX10_copy_11 rfl ?_
        refine v_iload_n C 0 dX10_copy_12 rfl ?_
        refine v_iald C (by decide) sh_206 (by omega) (by decide) dX10_copy_13 ?_
        refine v_top (M 206 j) (congrFun (upA_ne M _ (by decide)) j) ?_
        refine v_iast C (by decide) sh_207 (by omega) (by decide) dX10_copy_14 ?_
        refine v_mem (upA M 207 (fillTo (M 206) (M 207) (j + 1))) (by rw [up2_upA, fillTo_succ]) ?_
        refine v_iinc C (nI (j + 1)) 0 [(2, .int (nI (j + 1))), (0, .ref (gb G + 206)), (1, .ref (gb G + 207))] dX10_copy_15 rfl (nI_add _ _) (by decide) rfl ?_
        refine v_goto C 2 dX10_copy_18 rfl ?_
        refine v_sub [0, 1, 2] [(2, .int (nI (j + 1))), (0, .ref (gb G + 206)), (1, .ref (gb G + 207))] rfl ?_
        exact ihLC _ (by omega) (j + 1)  rfl (by omega)
  show Vc f G NPh M 0 [(0, .ref (gb G + 206)), (1, .ref (gb G + 207))] []
  refine v_iconst C (nI 0) dX10_copy_0 (by decide) ?_
  refine v_istore_n C [(2, .int (nI 0)), (0, .ref (gb G + 206)), (1, .ref (gb G + 207))] dX10_copy_1 rfl (by decide) rfl ?_
  refine v_mem (upA M 207 (fillTo (M 206) (M 207) 0)) (by rw [fillTo_0, upA_self]) ?_
  refine v_sub [0, 1, 2] [(2, .int (nI 0)), (0, .ref (gb G + 206)), (1, .ref (gb G + 207))] rfl ?_
  exact LC _ 0 rfl (by omega)
set_option maxHeartbeats 4000000 in
set_option maxRecDepth 100000 in
theorem r_copy_kn (l : Launch) (G : GC) (M : Mm) : CV l G 1 yX10_copy cX10_copy 3 [.ref (gb G + 207), .ref (gb G + 206)] M (fun M' => M' = upA M 206 (M 207)) := by
  refine Con.of (by decide +kernel) (Nat.le_of_ble_eq_true rfl) ?_
  intro f C hRm hRt _
  refine v_can (fun hcan => ?_)
  have LC : ∀ (kk : Nat) (j : Nat), 445 - j = kk → j ≤ 445 → Vc f G NPh (upA M 206 (fillTo (M 207) (M 206) j)) 2 [(2, .int (nI j)), (0, .ref (gb G + 207)), (1, .ref (gb G + 206))] [] := by
    intro kk
    induction kk using Nat.strongRecOn with
    | _ kk ihLC =>
      intro j hkk hj
      refine v_iload_n C 0 dX10_copy_2 rfl ?_
      refine v_sipush C (nI 445) dX10_copy_3 (by decide) ?_
      refine n_icmp_ge C (by omega) (by omega) 21 dX10_copy_6 rfl (fun h_6 => ?_) (fun h_6 => ?_)
      · skip
        (have h5 : j = 445 := (by omega)); subst h5
        exact n_ret C hRt dX10_copy_21 (congrArg (upA M 206) (funext fun i => by unfold fillTo; split; rfl; exact (hcan 206 i (by rw [sh_206]; decide) (by rw [sh_206]; omega)).trans (hcan 207 i (by rw [sh_207]; decide) (by rw [sh_207]; omega)).symm))
      · skip
        refine v_aload_n C 2 dX10_copy_9 rfl ?_
        refine v_iload_n C 0 dX10_copy_10 rfl ?_
        refine v_aload_n C 1 dX10_copy_11 rfl ?_
        refine v_iload_n C 0 dX10_copy_12 rfl ?_
        refine v_iald C (by decide) sh_207 (by omega) (by decide) dX10_copy_13 ?_
        refine v_top (M 207 j) (congrFun (upA_ne M _ (by decide)) j) ?_
        refine v_iast C (by decide) sh_206 (by omega) (by decide) dX10_copy_14 ?_
        refine v_mem (upA M 206 (fillTo (M 207) (M 206) (j + 1))) (by rw [up2_upA, fillTo_succ]) ?_
        refine v_iinc C (nI (j + 1)) 0 [(2, .int (nI (j + 1))), (0, .ref (gb G + 207)), (1, .ref (gb G + 206))] dX10_copy_15 rfl (nI_add _ _) (by decide) rfl ?_
        refine v_goto C 2 dX10_copy_18 rfl ?_
        refine v_sub [0, 1, 2] [(2, .int (nI (j + 1))), (0, .ref (gb G + 207)), (1, .ref (gb G + 206))] rfl ?_
        exact ihLC _ (by omega) (j + 1)  rfl (by omega)
  show Vc f G NPh M 0 [(0, .ref (gb G + 207)), (1, .ref (gb G + 206))] []
  refine v_iconst C (nI 0) dX10_copy_0 (by decide) ?_
  refine v_istore_n C [(2, .int (nI 0)), (0, .ref (gb G + 207)), (1, .ref (gb G + 206))] dX10_copy_1 rfl (by decide) rfl ?_
  refine v_mem (upA M 206 (fillTo (M 207) (M 206) 0)) (by rw [fillTo_0, upA_self]) ?_
  refine v_sub [0, 1, 2] [(2, .int (nI 0)), (0, .ref (gb G + 207)), (1, .ref (gb G + 206))] rfl ?_
  exact LC _ 0 rfl (by omega)
set_option maxHeartbeats 4000000 in
set_option maxRecDepth 100000 in
theorem r_putBack (l : Launch) (G : GC) (M : Mm) (Y : Nat → Int32) (v : Int32) : CI l G 2 yX10_putBack cX10_putBack 2 .int [.ref (gb G + 205), .int v] (upA M 206 Y) v (fun M' => M' = upA M 206 (M 208)) := by
  refine Con.of (by decide +kernel) (Nat.le_of_ble_eq_true rfl) ?_
  intro f C hRm hRt _
  show Vc f G NPh (upA M 206 Y) 0 [(0, .ref (gb G + 205)), (1, .int v)] []
  refine v_aload_n C 0 dX10_putBack_0 rfl ?_
  refine g_X10_16 C (by decide) sh_205 dX10_putBack_1 ?_
  refine v_aload_n C 0 dX10_putBack_4 rfl ?_
  refine g_X10_9 C (by decide) sh_205 dX10_putBack_5 ?_
  refine n_callSv C hRm [.ref (gb G + 208), .ref (gb G + 206)] cw_X10_copy st_X10_copy ml_X10_76 (r_copy_an l G (upA M 206 Y)) (by decide) rfl rfl (Nat.le_of_ble_eq_true rfl) dX10_putBack_8 (fun M5 hP => ?_)
  subst hP
  refine v_mem (upA M 206 (M 208)) (by rw [upA_upA, upA_ne _ _ (by decide)]) ?_
  refine v_iload_n C 1 dX10_putBack_11 rfl ?_
  exact n_iret C hRt rfl dX10_putBack_12 (rfl) (rfl)
def childY (Y : Nat → Int32) (n : Nat) (km age mind : Int32) : Nat → Int32 := upd (upd (upd (upd (upd (upd (upd Y (7 + 6 * n + 0) (km / nI 100)) (7 + 6 * n + 1) (km - km / nI 100 * nI 100)) (7 + 6 * n + 2) age) (7 + 6 * n + 3) mind) (7 + 6 * n + 4) (-1)) (7 + 6 * n + 5) (nI 0)) 0 (nI (n + 1))
def childS (Y : Nat → Int32) (n : Nat) (km age mind : Int32) : O3 := if nI 0 ≤ km ∧ km ≤ nI 699 then (if nI 0 ≤ age ∧ age ≤ nI 99 then (if nI 0 ≤ mind ∧ mind ≤ nI 1 then (if n = 10 then er 4 Y else (0, nI n, childY Y n km age mind)) else er 1 Y) else er 1 Y) else er 1 Y
set_option maxHeartbeats 4000000 in
set_option maxRecDepth 100000 in
theorem r_child (l : Launch) (G : GC) (M : Mm) (Y : Nat → Int32) (n hN : Nat) (hY : YOk Y n hN) (km age mind : Int32) : CI l G 2 yX10_child cX10_child 6 .int [.ref (gb G + 205), .int km, .int age, .int mind] (upA M 206 Y) ((childS Y n km age mind).2.1) (PubR M (childS Y n km age mind).2.2 (childS Y n km age mind).1) := by
  refine Con.of (by decide +kernel) (Nat.le_of_ble_eq_true rfl) ?_
  intro f C hRm hRt _
  show Vc f G NPh (upA M 206 Y) 0 [(0, .ref (gb G + 205)), (1, .int km), (2, .int age), (3, .int mind)] []
  have h10 := hY.1.2.1
  have h5N := hY.1.2.2.2
  refine v_iload_n C 1 dX10_child_0 rfl ?_
  refine v_iconst C (nI 0) dX10_child_1 (by decide) ?_
  refine v_sipush C (nI 699) dX10_child_2 (by decide) ?_
  refine n_callSp C hRm [.int km, .int (nI 0), .int (nI 699)] cw_X10_within st_X10_within ml_X10_72 (r_within l G (upA M 206 Y) km (nI 0) (nI 699)) (by decide) rfl rfl (Nat.le_of_ble_eq_true rfl) dX10_child_5 ?_
  refine nb_if_eq C 30 dX10_child_8 rfl (fun h_8 => ?_) (fun h_8 => ?_)
  · skip
    refine v_aload_n C 0 dX10_child_30 rfl ?_
    refine v_ldc C (-1000001) kc_X10_80 dX10_child_31 ?_
    refine n_callVi C hRm [.int (-1000001)] cw_X10_finding ml_X10_81 (by decide) sh_205 (by decide) rfl (r_finding l G (upA M 206 Y) 1 (by decide) (-1000001) (by decide)) (by decide) rfl rfl (Nat.le_of_ble_eq_true rfl) dX10_child_33 (fun M5 hP_33 => ?_)
    subst hP_33
    refine v_mem (upA (fndM M 1) 206 Y) (fnd_upA _ _ _) ?_
    have hS : childS Y n km age mind = er 1 Y := by unfold childS; (first | rw [if_pos h_8] | rw [if_neg h_8] | rw [if_pos (congrArg nI h_8)] | rw [if_neg (fun q9 => h_8 ((nI_eq (by omega) (by omega)).mp q9))] | rw [if_neg (Nat.not_le.mpr h_8)] | rw [if_neg (Nat.not_lt.mpr h_8)] | skip); all_goals rfl
    exact n_iret C hRt rfl dX10_child_36 (by rw [hS] <;> rfl) (by rw [hS]; exact ⟨_, rfl, (eqM.rf M).tr (eqM.fnd _ (show (1 : Nat) ≠ 0 by decide))⟩)
  · skip
    refine v_iload_n C 2 dX10_child_11 rfl ?_
    refine v_iconst C (nI 0) dX10_child_12 (by decide) ?_
    refine v_bipush C (nI 99) dX10_child_13 (by decide) ?_
    refine n_callSp C hRm [.int age, .int (nI 0), .int (nI 99)] cw_X10_within st_X10_within ml_X10_72 (r_within l G (upA M 206 Y) age (nI 0) (nI 99)) (by decide) rfl rfl (Nat.le_of_ble_eq_true rfl) dX10_child_15 ?_
    refine nb_if_eq C 30 dX10_child_18 rfl (fun h_18 => ?_) (fun h_18 => ?_)
    · skip
      refine v_aload_n C 0 dX10_child_30 rfl ?_
      refine v_ldc C (-1000001) kc_X10_80 dX10_child_31 ?_
      refine n_callVi C hRm [.int (-1000001)] cw_X10_finding ml_X10_81 (by decide) sh_205 (by decide) rfl (r_finding l G (upA M 206 Y) 1 (by decide) (-1000001) (by decide)) (by decide) rfl rfl (Nat.le_of_ble_eq_true rfl) dX10_child_33 (fun M5 hP_33 => ?_)
      subst hP_33
      refine v_mem (upA (fndM M 1) 206 Y) (fnd_upA _ _ _) ?_
      have hS : childS Y n km age mind = er 1 Y := by unfold childS; (first | rw [if_pos h_8] | rw [if_neg h_8] | rw [if_pos (congrArg nI h_8)] | rw [if_neg (fun q9 => h_8 ((nI_eq (by omega) (by omega)).mp q9))] | rw [if_neg (Nat.not_le.mpr h_8)] | rw [if_neg (Nat.not_lt.mpr h_8)] | skip); (first | rw [if_pos h_18] | rw [if_neg h_18] | rw [if_pos (congrArg nI h_18)] | rw [if_neg (fun q9 => h_18 ((nI_eq (by omega) (by omega)).mp q9))] | rw [if_neg (Nat.not_le.mpr h_18)] | rw [if_neg (Nat.not_lt.mpr h_18)] | skip); all_goals rfl
      exact n_iret C hRt rfl dX10_child_36 (by rw [hS] <;> rfl) (by rw [hS]; exact ⟨_, rfl, (eqM.rf M).tr (eqM.fnd _ (show (1 : Nat) ≠ 0 by decide))⟩)
    · skip
      refine v_iload_n C 3 dX10_child_21 rfl ?_
      refine v_iconst C (nI 0) dX10_child_22 (by decide) ?_
      refine v_iconst C (nI 1) dX10_child_23 (by decide) ?_
      refine n_callSp C hRm [.int mind, .int (nI 0), .int (nI 1)] cw_X10_within st_X10_within ml_X10_72 (r_within l G (upA M 206 Y) mind (nI 0) (nI 1)) (by decide) rfl rfl (Nat.le_of_ble_eq_true rfl) dX10_child_24 ?_
      refine nb_if_ne C 37 dX10_child_27 rfl (fun h_27 => ?_) (fun h_27 => ?_)
      · skip
        refine v_aload_n C 0 dX10_child_37 rfl ?_
        refine g_X10_9 C (by decide) sh_205 dX10_child_38 ?_
        refine v_iconst C (nI 0) dX10_child_41 (by decide) ?_
        refine n_now_ld C (by decide) sh_206 (by omega) (by decide) dX10_child_42 ?_
        refine v_top (nI n) hY.1.1 ?_
        refine v_istore C [(4, .int (nI n)), (0, .ref (gb G + 205)), (1, .int km), (2, .int age), (3, .int mind)] dX10_child_43 (by decide) rfl ?_
        refine v_iload C 0 dX10_child_45 rfl ?_
        refine v_bipush C (nI 10) dX10_child_47 (by decide) ?_
        refine n_icmp_ne C (by omega) (by omega) 59 dX10_child_49 rfl (fun h_49 => ?_) (fun h_49 => ?_)
        · skip
          refine v_bipush C (nI 7) dX10_child_59 (by decide) ?_
          refine v_bipush C (nI 6) dX10_child_61 (by decide) ?_
          refine v_iload C 0 dX10_child_63 rfl ?_
          refine n_imul C dX10_child_65 ?_
          refine n_iadd C dX10_child_66 ?_
          refine v_istore C [(5, .int (nI (7 + (6 * n)))), (4, .int (nI n)), (0, .ref (gb G + 205)), (1, .int km), (2, .int age), (3, .int mind)] dX10_child_67 (by decide) rfl ?_
          refine v_aload_n C 2 dX10_child_69 rfl ?_
          refine g_X10_9 C (by decide) sh_205 dX10_child_70 ?_
          refine v_iload C 0 dX10_child_73 rfl ?_
          refine v_iconst C (nI 0) dX10_child_75 (by decide) ?_
          refine n_iadd C dX10_child_76 ?_
          refine v_iload_n C 3 dX10_child_77 rfl ?_
          refine v_bipush C (nI 100) dX10_child_78 (by decide) ?_
          refine v_idiv C dX10_child_80 (by decide) ?_
          refine n_now_st C (by decide) sh_206 (by omega) (by decide) dX10_child_81 ?_
          refine v_aload_n C 2 dX10_child_82 rfl ?_
          refine g_X10_9 C (by decide) sh_205 dX10_child_83 ?_
          refine v_iload C 0 dX10_child_86 rfl ?_
          refine v_iconst C (nI 1) dX10_child_88 (by decide) ?_
          refine n_iadd C dX10_child_89 ?_
          refine v_iload_n C 3 dX10_child_90 rfl ?_
          refine v_bipush C (nI 100) dX10_child_91 (by decide) ?_
          refine v_irem C dX10_child_93 (by decide) ?_
          refine n_now_st C (by decide) sh_206 (by omega) (by decide) dX10_child_94 ?_
          refine v_aload_n C 2 dX10_child_95 rfl ?_
          refine g_X10_9 C (by decide) sh_205 dX10_child_96 ?_
          refine v_iload C 0 dX10_child_99 rfl ?_
          refine v_iconst C (nI 2) dX10_child_101 (by decide) ?_
          refine n_iadd C dX10_child_102 ?_
          refine v_iload_n C 4 dX10_child_103 rfl ?_
          refine n_now_st C (by decide) sh_206 (by omega) (by decide) dX10_child_104 ?_
          refine v_aload_n C 2 dX10_child_105 rfl ?_
          refine g_X10_9 C (by decide) sh_205 dX10_child_106 ?_
          refine v_iload C 0 dX10_child_109 rfl ?_
          refine v_iconst C (nI 3) dX10_child_111 (by decide) ?_
          refine n_iadd C dX10_child_112 ?_
          refine v_iload_n C 5 dX10_child_113 rfl ?_
          refine n_now_st C (by decide) sh_206 (by omega) (by decide) dX10_child_114 ?_
          refine v_aload_n C 2 dX10_child_115 rfl ?_
          refine g_X10_9 C (by decide) sh_205 dX10_child_116 ?_
          refine v_iload C 0 dX10_child_119 rfl ?_
          refine v_iconst C (nI 4) dX10_child_121 (by decide) ?_
          refine n_iadd C dX10_child_122 ?_
          refine v_iconst C (-1) dX10_child_123 (by decide) ?_
          refine n_now_st C (by decide) sh_206 (by omega) (by decide) dX10_child_124 ?_
          refine v_aload_n C 2 dX10_child_125 rfl ?_
          refine g_X10_9 C (by decide) sh_205 dX10_child_126 ?_
          refine v_iload C 0 dX10_child_129 rfl ?_
          refine v_iconst C (nI 5) dX10_child_131 (by decide) ?_
          refine n_iadd C dX10_child_132 ?_
          refine v_iconst C (nI 0) dX10_child_133 (by decide) ?_
          refine n_now_st C (by decide) sh_206 (by omega) (by decide) dX10_child_134 ?_
          refine v_aload_n C 2 dX10_child_135 rfl ?_
          refine g_X10_9 C (by decide) sh_205 dX10_child_136 ?_
          refine v_iconst C (nI 0) dX10_child_139 (by decide) ?_
          refine v_dup2 C dX10_child_140 rfl rfl ?_
          refine n_now_ld C (by decide) sh_206 (by omega) (by decide) dX10_child_141 ?_
          refine v_top (nI n) (by (repeat rw [upd_ne _ _ (by omega)]); exact hY.1.1) ?_
          refine v_iconst C (nI 1) dX10_child_142 (by decide) ?_
          refine n_iadd C dX10_child_143 ?_
          refine n_now_st C (by decide) sh_206 (by omega) (by decide) dX10_child_144 ?_
          refine v_iload C 1 dX10_child_145 rfl ?_
          have hS : childS Y n km age mind = (0, nI n, upd (upd (upd (upd (upd (upd (upd Y ((7 + (6 * n)) + 0) (km / (nI 100))) ((7 + (6 * n)) + 1) (km - km / (nI 100) * (nI 100))) ((7 + (6 * n)) + 2) age) ((7 + (6 * n)) + 3) mind) ((7 + (6 * n)) + 4) (-1)) ((7 + (6 * n)) + 5) (nI 0)) 0 (nI (n + 1))) := by unfold childS; (first | rw [if_pos h_8] | rw [if_neg h_8] | rw [if_pos (congrArg nI h_8)] | rw [if_neg (fun q9 => h_8 ((nI_eq (by omega) (by omega)).mp q9))] | rw [if_neg (Nat.not_le.mpr h_8)] | rw [if_neg (Nat.not_lt.mpr h_8)] | skip); (first | rw [if_pos h_18] | rw [if_neg h_18] | rw [if_pos (congrArg nI h_18)] | rw [if_neg (fun q9 => h_18 ((nI_eq (by omega) (by omega)).mp q9))] | rw [if_neg (Nat.not_le.mpr h_18)] | rw [if_neg (Nat.not_lt.mpr h_18)] | skip); (first | rw [if_pos h_27] | rw [if_neg h_27] | rw [if_pos (congrArg nI h_27)] | rw [if_neg (fun q9 => h_27 ((nI_eq (by omega) (by omega)).mp q9))] | rw [if_neg (Nat.not_le.mpr h_27)] | rw [if_neg (Nat.not_lt.mpr h_27)] | skip); (first | rw [if_pos h_49] | rw [if_neg h_49] | rw [if_pos (congrArg nI h_49)] | rw [if_neg (fun q9 => h_49 ((nI_eq (by omega) (by omega)).mp q9))] | rw [if_neg (Nat.not_le.mpr h_49)] | rw [if_neg (Nat.not_lt.mpr h_49)] | skip); all_goals rfl
          exact n_iret C hRt rfl dX10_child_147 (by rw [hS] <;> rfl) (by rw [hS]; exact ⟨_, rfl, eqM.rf M⟩)
        · skip
          refine v_aload_n C 1 dX10_child_52 rfl ?_
          refine v_ldc C (-1000004) kc_X10_85 dX10_child_53 ?_
          refine n_callVi C hRm [.int (-1000004)] cw_X10_finding ml_X10_81 (by decide) sh_205 (by decide) rfl (r_finding l G (upA M 206 Y) 4 (by decide) (-1000004) (by decide)) (by decide) rfl rfl (Nat.le_of_ble_eq_true rfl) dX10_child_55 (fun M5 hP_55 => ?_)
          subst hP_55
          refine v_mem (upA (fndM M 4) 206 Y) (fnd_upA _ _ _) ?_
          have hS : childS Y n km age mind = er 4 Y := by unfold childS; (first | rw [if_pos h_8] | rw [if_neg h_8] | rw [if_pos (congrArg nI h_8)] | rw [if_neg (fun q9 => h_8 ((nI_eq (by omega) (by omega)).mp q9))] | rw [if_neg (Nat.not_le.mpr h_8)] | rw [if_neg (Nat.not_lt.mpr h_8)] | skip); (first | rw [if_pos h_18] | rw [if_neg h_18] | rw [if_pos (congrArg nI h_18)] | rw [if_neg (fun q9 => h_18 ((nI_eq (by omega) (by omega)).mp q9))] | rw [if_neg (Nat.not_le.mpr h_18)] | rw [if_neg (Nat.not_lt.mpr h_18)] | skip); (first | rw [if_pos h_27] | rw [if_neg h_27] | rw [if_pos (congrArg nI h_27)] | rw [if_neg (fun q9 => h_27 ((nI_eq (by omega) (by omega)).mp q9))] | rw [if_neg (Nat.not_le.mpr h_27)] | rw [if_neg (Nat.not_lt.mpr h_27)] | skip); (first | rw [if_pos h_49] | rw [if_neg h_49] | rw [if_pos (congrArg nI h_49)] | rw [if_neg (fun q9 => h_49 ((nI_eq (by omega) (by omega)).mp q9))] | rw [if_neg (Nat.not_le.mpr h_49)] | rw [if_neg (Nat.not_lt.mpr h_49)] | skip); all_goals rfl
          exact n_iret C hRt rfl dX10_child_58 (by rw [hS] <;> rfl) (by rw [hS]; exact ⟨_, rfl, (eqM.rf M).tr (eqM.fnd _ (show (4 : Nat) ≠ 0 by decide))⟩)
      · skip
        refine v_aload_n C 0 dX10_child_30 rfl ?_
        refine v_ldc C (-1000001) kc_X10_80 dX10_child_31 ?_
        refine n_callVi C hRm [.int (-1000001)] cw_X10_finding ml_X10_81 (by decide) sh_205 (by decide) rfl (r_finding l G (upA M 206 Y) 1 (by decide) (-1000001) (by decide)) (by decide) rfl rfl (Nat.le_of_ble_eq_true rfl) dX10_child_33 (fun M5 hP_33 => ?_)
        subst hP_33
        refine v_mem (upA (fndM M 1) 206 Y) (fnd_upA _ _ _) ?_
        have hS : childS Y n km age mind = er 1 Y := by unfold childS; (first | rw [if_pos h_8] | rw [if_neg h_8] | rw [if_pos (congrArg nI h_8)] | rw [if_neg (fun q9 => h_8 ((nI_eq (by omega) (by omega)).mp q9))] | rw [if_neg (Nat.not_le.mpr h_8)] | rw [if_neg (Nat.not_lt.mpr h_8)] | skip); (first | rw [if_pos h_18] | rw [if_neg h_18] | rw [if_pos (congrArg nI h_18)] | rw [if_neg (fun q9 => h_18 ((nI_eq (by omega) (by omega)).mp q9))] | rw [if_neg (Nat.not_le.mpr h_18)] | rw [if_neg (Nat.not_lt.mpr h_18)] | skip); (first | rw [if_pos h_27] | rw [if_neg h_27] | rw [if_pos (congrArg nI h_27)] | rw [if_neg (fun q9 => h_27 ((nI_eq (by omega) (by omega)).mp q9))] | rw [if_neg (Nat.not_le.mpr h_27)] | rw [if_neg (Nat.not_lt.mpr h_27)] | skip); all_goals rfl
        exact n_iret C hRt rfl dX10_child_36 (by rw [hS] <;> rfl) (by rw [hS]; exact ⟨_, rfl, (eqM.rf M).tr (eqM.fnd _ (show (1 : Nat) ≠ 0 by decide))⟩)
