theorem oi_X3_3 : Cond.methodLink RX3 3 Lib.objectInit ∈ lw_w := lw_in (by decide +kernel) rfl
theorem is_X7 : Cond.instantiable RX7 3 ∈ lw_w := lw_in (by decide +kernel) rfl
theorem df_X7 : ∀ j, j < 3 → defaultValue (tyX7 j) = if rfs 7 j = 0 then .int 0 else .null := fun j hj => by rcases (show j = 0 ∨ j = 1 ∨ j = 2 by omega) with h | h | h <;> subst h <;> rfl
/-- Reader's: the cell k stands, its text with two arrays follows, then its bytes -/
theorem c_X3_init (l : Launch) (G : GC) (M : Mm) (k : Nat) (hk : k + 5 ≤ 221) (hs : shp k = 3) (h1 : shp (k + 1) = 7) (h2 : shp (k + 1 + 1) = 1000 + 60) (h3 : shp (k + 1 + 2) = 1000 + 60) (h4 : shp (k + 1 + 1 + 2) = 1000 + 0) : Con l G (k + 1) 0 2 yX3_init cX3_init 1 none [.ref (gb G + k)] M 4 123 4 (fun v M' => v = none ∧ M' = up2 (up2 (up2 (up2 (up2 M (k + 1) 0 (nI 1)) (k + 1) 1 (nI 1)) k 0 (nI 1)) k 1 (nI (k + 1 + 1 + 2))) k 4 (nI (0 + 1))) := by
  refine Con.of (by decide +kernel) (Nat.le_of_ble_eq_true rfl) ?_
  intro f C hRm hRt hinit
  show Vc f G (0, 0, k + 1, 0) M 0 [(0, .ref (gb G + k))] []
  refine v_aload_n C 0 dX3_init_0 rfl ?_
  refine v_objI C hRm (by decide) oi_X3_3 (by decide) dX3_init_1 ?_
  refine v_aload_n C 0 dX3_init_4 rfl ?_
  refine v_newc C hRm tyX7 tyX7_ok rfl rfl inw_X7 cl_X3_9 is_X7 cw_X7_init.1 df_X7 h1 (by decide) (by decide) (by decide) dX3_init_5 ?_
  refine v_dup C dX3_init_8 rfl ?_
  refine v_callIN C hRm (k := k + 1) (As := []) cw_X7_init im_X7_init rfl (show (_, _, _, "BreakTime") ∈ nestM from by decide +kernel) (c_X7_init l G M (k + 1) (by omega) h1 h2 h3) (by decide) ⟨show 3 ≤ 4 by decide, show 123 ≤ 123 by decide⟩ rfl rfl (Nat.le_of_ble_eq_true rfl) dX3_init_9 (fun v M' hP => ?_)
  obtain ⟨rfl, rfl⟩ := hP
  refine q_X3_12 C hinit (show k < k + 1 + 1 + 2 by omega) hs dX3_init_12 ?_
  refine v_aload_n C 0 dX3_init_15 rfl ?_
  refine v_iconst C (nI 0) dX3_init_16 (by decide) ?_
  refine v_newa C hRm 0 ai_arr h4 (by decide) (show 3 + 1 ≤ 4 by decide) (show 123 + 0 ≤ 123 by decide) dX3_init_17 ?_
  refine q_X3_18 C (show k < k + 1 + 1 + 2 + 1 by omega) hs (j := k + 1 + 1 + 2) (by omega) (by omega) dX3_init_19 ?_
  refine v_aload_n C 0 dX3_init_22 rfl ?_
  refine v_ldcS C "" 0 (show (_, _, _, _) ∈ strIdx from by decide +kernel) dX3_init_23 ?_
  refine q_X3_24 C (show k < k + 1 + 1 + 2 + 1 by omega) hs (j := 0) (by decide) dX3_init_25 ?_
  exact v_ret C hRt dX3_init_28 ⟨rfl, rfl⟩
