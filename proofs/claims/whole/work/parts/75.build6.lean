section
variable {f : FC} {G : GC} {ph : Ph} {M : Mm} {own : String} {cc : ByteArray} {nL pc : Nat} {lv : List (Nat × Value)} {rest : List Value} {l : Launch} {D DK DS index : Nat}
theorem v_mmaxB (C : Ctx f G own cc nL) (hRm : Rm f l D DK DS) (hD : 1 ≤ D) (hph : ph.1 ≤ DK ∧ ph.2.1 ≤ DS) (hlink : Cond.methodLink own index yJ9_max_7cf53 ∈ lw_w) {x y : Int32} (hrest : (rest.map fun v => v.category).sum ≤ 8) (hd : decode cc pc = .ok (.invokestatic index, 3)) (kk : Vc f G ph M (pc + 3) lv (.int (if x < y then y else x) :: rest)) : Vc f G ph M pc lv (.int y :: .int x :: rest) := by
  obtain ⟨p, l0, e, R, s, m, args, below, meth, c, Q⟩ := f
  obtain ⟨hx, hb, hml, ho, hts, hlk, hvk, hbs, hlow⟩ := C
  intro H locs ls hW hS hl
  obtain ⟨rfl, r1, r2, r3, r4⟩ := hRm
  dsimp only at r1 r2 r3 r4
  have cw := cw_J9_max_7cf53
  exact va_mmax hx hb (hml.trans (hml.symm.trans hl.1.symm)) ho (hts _ hlink) (hts _ st_J9_max_7cf53) (hts _ cw.1) (hts _ cw.2.1) (by omega) (by omega) (Nat.le_trans hph.1 r3) (Nat.le_trans hph.2 r4) hd (kk H locs ls hW hS hl)
end
theorem oi_X4_1 : Cond.methodLink RX4 1 Lib.objectInit ∈ lw_w := lw_in (by decide +kernel) rfl
/-- Row's: the cell k stands, its array follows -/
theorem c_X4_init (l : Launch) (G : GC) (M : Mm) (k N : Nat) (hk : k + 2 ≤ 221) (hN : N ≤ 100) (hs : shp k = 4) (h1 : shp (k + 1) = 1000 + N) : Con l G (k + 1) 0 2 yX4_init cX4_init 2 none [.ref (gb G + k), .int (nI N)] M 1 N 1 (fun v M' => v = none ∧ M' = up2 M k 0 (nI 1)) := by
  refine Con.of (by decide +kernel) (Nat.le_of_ble_eq_true rfl) ?_
  intro f C hRm hRt hinit
  show Vc f G (0, 0, k + 1, 0) M 0 [(0, .ref (gb G + k)), (1, .int (nI N))] []
  refine v_aload_n C 0 dX4_init_0 rfl ?_
  refine v_objI C hRm (by decide) oi_X4_1 (by decide) dX4_init_1 ?_
  refine v_aload_n C 0 dX4_init_4 rfl ?_
  refine v_iconst C (nI 0) dX4_init_5 (by decide) ?_
  refine v_iload_n C 1 dX4_init_6 rfl ?_
  refine v_mmaxB C hRm (by decide) ⟨Nat.zero_le _, Nat.zero_le _⟩ ml_X4_7 (Nat.le_of_ble_eq_true rfl) dX4_init_7 ?_
  have e : (if nI 0 < nI N then nI N else nI 0) = nI N := by
    rcases Nat.eq_zero_or_pos N with z | z
    · subst z; rfl
    · exact if_pos ((nI_ltI (by decide) (by omega)).mpr z)
  rw [e]
  refine v_newa C hRm N ai_arr h1 (by omega) (by omega) (by omega) dX4_init_10 ?_
  rw [Nat.zero_add N]
  refine q_X4_13 C hinit (show k < k + 1 + 1 by omega) hs dX4_init_12 ?_
  exact v_ret C hRt dX4_init_15 ⟨rfl, rfl⟩
