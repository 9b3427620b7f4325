theorem oi_X6_3 : Cond.methodLink RX6 3 Lib.objectInit ∈ lw_w := lw_in (by decide +kernel) rfl
theorem is_X4 : Cond.instantiable RX4 2 ∈ lw_w := lw_in (by decide +kernel) rfl
theorem df_X4 : ∀ j, j < 2 → defaultValue (tyX4 j) = if rfs 4 j = 0 then .int 0 else .null := fun j hj => by rcases (show j = 0 ∨ j = 1 by omega) with h | h <;> subst h <;> rfl
/-- Speaker's: the cell k stands, its trace follows -/
theorem c_X6_init (l : Launch) (G : GC) (M : Mm) (k : Nat) (hk : k + 3 ≤ 221) (hs : shp k = 6) (h1 : shp (k + 1) = 4) (h2 : shp (k + 1 + 1) = 1000 + 30) : Con l G (k + 1) 0 3 yX6_init cX6_init 1 none [.ref (gb G + k)] M 2 32 2 (fun v M' => v = none ∧ M' = up2 (up2 M (k + 1) 0 (nI 1)) k 0 (nI 1)) := by
  refine Con.of (by decide +kernel) (Nat.le_of_ble_eq_true rfl) ?_
  intro f C hRm hRt hinit
  show Vc f G (0, 0, k + 1, 0) M 0 [(0, .ref (gb G + k))] []
  refine v_aload_n C 0 dX6_init_0 rfl ?_
  refine v_objI C hRm (by decide) oi_X6_3 (by decide) dX6_init_1 ?_
  refine v_aload_n C 0 dX6_init_4 rfl ?_
  refine v_newc C hRm tyX4 tyX4_ok rfl rfl inw_X4 cl_X6_9 is_X4 cw_X4_init.1 df_X4 h1 (by decide) (by decide) (by decide) dX6_init_5 ?_
  refine v_dup C dX6_init_8 rfl ?_
  refine v_bipush C (nI 30) dX6_init_9 (by decide) ?_
  refine v_callI C hRm (k := k + 1) (As := [.int (nI 30)]) cw_X4_init im_X4_init rfl ml_X6_11 (c_X4_init l G M (k + 1) 30 (by omega) (by decide) h1 h2) (by decide) ⟨show 2 ≤ 2 by decide, show 32 ≤ 32 by decide⟩ rfl rfl (Nat.le_of_ble_eq_true rfl) dX6_init_11 (fun v M' hP => ?_)
  obtain ⟨rfl, rfl⟩ := hP
  refine q_X6_14 C hinit (show k < k + 1 + 1 + 1 by omega) hs dX6_init_14 ?_
  exact v_ret C hRt dX6_init_17 ⟨rfl, rfl⟩
