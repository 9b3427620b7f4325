theorem oi_inst : Cond.instanceMethod Lib.objectInit ∈ lw_w := lw_in (by decide +kernel) rfl
theorem oi_code : Cond.code Lib.objectInit ⟨#[0xb1]⟩ 1 none ∈ lw_w := lw_in (by decide +kernel) rfl
theorem ai_arr : Cond.arrayClass .int ∈ lw_w := lw_in (by decide +kernel) rfl
section
variable {f : FC} {G : GC} {ph : Ph} {M : Mm} {own : String} {cc : ByteArray} {nL pc : Nat} {lv : List (Nat × Value)} {rest : List Value}
theorem v_objI (C : Ctx f G own cc nL) {l : Launch} {D DK DS : Nat} (hRm : Rm f l D DK DS) (hD : 1 ≤ D) {idx a : Nat} (hlink : Cond.methodLink own idx Lib.objectInit ∈ lw_w) (hrest : (rest.map fun v => v.category).sum ≤ 8) (hd : decode cc pc = .ok (.invokespecial idx, 3)) (kk : Vc f G ph M (pc + 3) lv rest) : Vc f G ph M pc lv (.ref a :: rest) := by
  obtain ⟨p, l0, e, R, s, m, args, below, meth, c, Q⟩ := f
  obtain ⟨hx, hb, hml, ho, hts, hlk, hvk, hbs, hlow⟩ := C
  obtain ⟨rfl, r1, r2, r3, r4⟩ := hRm
  dsimp only at r1 r2 r3 r4
  intro H locs ls hW hS hl
  refine W.objInit hx hb ho (hts _ hlink) (hts _ oi_inst) (hts _ oi_code) rfl (by exact hl.1) rfl hd (by omega) (by show 2 * 0 + (rest.map fun v => v.category).sum + 12 ≤ _; omega) ?_
  exact kk H locs ls hW hS hl
end
theorem oi_X0_3 : Cond.methodLink RX0 3 Lib.objectInit ∈ lw_w := lw_in (List.mem_of_getElem? (i := 123) (by decide +kernel)) rfl
theorem oi_X1_3 : Cond.methodLink RX1 3 Lib.objectInit ∈ lw_w := lw_in (List.mem_of_getElem? (i := 270) (by decide +kernel)) rfl
theorem oi_X2_1 : Cond.methodLink RX2 1 Lib.objectInit ∈ lw_w := lw_in (List.mem_of_getElem? (i := 173) (by decide +kernel)) rfl
theorem oi_X5_3 : Cond.methodLink RX5 3 Lib.objectInit ∈ lw_w := lw_in (List.mem_of_getElem? (i := 345) (by decide +kernel)) rfl
theorem oi_X7_3 : Cond.methodLink RX7 3 Lib.objectInit ∈ lw_w := lw_in (List.mem_of_getElem? (i := 203) (by decide +kernel)) rfl
/-- Child's: the cell k stands, its two arrays follow -/
theorem c_X0_init (l : Launch) (G : GC) (M : Mm) (k : Nat) (hk : k + 3 ≤ 221) (hs : shp k = 0) (h1 : shp (k + 1) = 1000 + 10) (h2 : shp (k + 2) = 1000 + 5) : Con l G (k + 1) 0 1 yX0_init cX0_init 1 none [.ref (gb G + k)] M 2 15 2 (fun v M' => v = none ∧ M' = up2 (up2 (up2 M k 4 (-1)) k 6 (nI 1)) k 7 (nI 1)) := by
  refine Con.of (by decide +kernel) (Nat.le_of_ble_eq_true rfl) ?_
  intro f C hRm hRt hinit
  show Vc f G (0, 0, k + 1, 0) M 0 [(0, .ref (gb G + k))] []
  refine v_aload_n C 0 dX0_init_0 rfl ?_
  refine v_objI C hRm (by decide) oi_X0_3 (by decide) dX0_init_1 ?_
  refine v_aload_n C 0 dX0_init_4 rfl ?_
  refine v_iconst C (-1) dX0_init_5 (by decide) ?_
  refine q_X0_9 C (show k < k + 1 by omega) hs dX0_init_6 ?_
  refine v_aload_n C 0 dX0_init_9 rfl ?_
  refine v_bipush C (nI 10) dX0_init_10 (by decide) ?_
  refine v_newa C hRm 10 ai_arr h1 (by decide) (by decide) (by decide) dX0_init_12 ?_
  refine q_X0_15 C hinit (show k < k + 1 + 1 by omega) hs dX0_init_14 ?_
  refine v_aload_n C 0 dX0_init_17 rfl ?_
  refine v_iconst C (nI 5) dX0_init_18 (by decide) ?_
  refine v_newa C hRm 5 ai_arr h2 (by decide) (by decide) (by decide) dX0_init_19 ?_
  refine q_X0_19 C hinit (show k < k + 1 + 1 + 1 by omega) hs dX0_init_21 ?_
  exact v_ret C hRt dX0_init_24 ⟨rfl, rfl⟩
