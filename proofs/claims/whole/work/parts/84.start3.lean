theorem df_X9 : ∀ j, j < 9 → defaultValue (tyX9 j) = if rfs 9 j = 0 then .int 0 else .null := fun j hj => by rcases (show j = 0 ∨ j = 1 ∨ j = 2 ∨ j = 3 ∨ j = 4 ∨ j = 5 ∨ j = 6 ∨ j = 7 ∨ j = 8 by omega) with h | h | h | h | h | h | h | h | h <;> subst h <;> rfl
theorem df_X10 : ∀ j, j < 24 → defaultValue (tyX10 j) = if rfs 10 j = 0 then .int 0 else .null := fun j hj => by rcases (show j = 0 ∨ j = 1 ∨ j = 2 ∨ j = 3 ∨ j = 4 ∨ j = 5 ∨ j = 6 ∨ j = 7 ∨ j = 8 ∨ j = 9 ∨ j = 10 ∨ j = 11 ∨ j = 12 ∨ j = 13 ∨ j = 14 ∨ j = 15 ∨ j = 16 ∨ j = 17 ∨ j = 18 ∨ j = 19 ∨ j = 20 ∨ j = 21 ∨ j = 22 ∨ j = 23 by omega) with h | h | h | h | h | h | h | h | h | h | h | h | h | h | h | h | h | h | h | h | h | h | h | h <;> subst h <;> rfl
/-- all cells stand: the phase behind the constructors -/
theorem v_one {f : FC} {G : GC} {M : Mm} {pc : Nat} {lv : List (Nat × Value)} {st : List Value} {dk ds : Nat} (hR : RefsOk M) (kk : Vc f G (dk, ds, 221, 1) M pc lv st) : Vc f G (dk, ds, 221, 0) M pc lv st := by
  obtain ⟨p, l, e, R, s, m, args, below, meth, c, Q⟩ := f
  intro H locs ls hW hS hl
  obtain ⟨h1, h2, h3, h4, h5⟩ := hW
  exact kk H locs ls ⟨h1, ⟨h2.1, fun z => absurd rfl z⟩, h3, h4, fun _ => ⟨rfl, hR⟩⟩ hS hl
theorem lw_enter {p : Program} {l : Launch} {e : Env} {R : Room} {s : State} {m : MethodId} {b : Nat} {below : List Frame} {meth : Method} {c : Code} {Q : State → Prop} {G : GC} {nL : Nat} (hml : c.maxLocals = nL) (hL : (lg_sl [Value.ref b]).length ≤ nL) (hg1 : gb G = s.heap.size) (hg2 : gH G = s.heap) (key : Vc (p, l, e, R, s, m, #[Value.ref b], below, meth, c, Q) G (0, 0, 0, 0) (fun _ _ => 0) 0 (lv_args 0 [Value.ref b]) []) : W p l e R s m #[Value.ref b] below meth c s.heap [] 0 0 Q (entryFrame m ([Value.ref b] : List Value).toArray nL) := by
  rw [lg_entry_eq]
  have hl := lv_entry [Value.ref b] (n := nL) hL
  rw [← hml] at hl ⊢
  have hW : Wd G (0, 0, 0, 0) (fun _ _ => 0) s.heap := ⟨fun k hk => absurd hk (Nat.not_lt_zero k), ⟨by show gb G + 0 ≤ _; omega, fun _ => by show _ = gb G + 0; omega⟩, fun q hq => by rw [hg2], ⟨fun _ _ => rfl, fun _ _ _ _ => rfl⟩, fun z => absurd z (show ¬ (0 : Nat) = 1 by decide)⟩
  exact key s.heap [] _ hW va_S.rf hl
set_option maxHeartbeats 4000000 in
/-- from the entry, for every script of at most 384 ints, the law comes to its end with true -/
theorem whole_start {p : Program} {e : Env} {s : State} {m : MethodId} {below : List Frame} {meth : Method} {c : Code} (l : Launch) (hflags : l.flags = flags0) {b L : Nat} {xs : Nat → Int32} (hL : L ≤ 384) (C0 : lw_At p s m meth c b L xs) : W p l e room_1 s m #[Value.ref b] below meth c s.heap [] 0 0 (lw_Z below #[Value.ref b] s) (entryFrame m ([Value.ref b] : List Value).toArray 4) := by
  obtain ⟨hx, hb, hr, hml, hown, hts, hX, hbl, hlocks, hgv⟩ := C0
  obtain ⟨G, hg1, hg2, hvk⟩ := vm_start hts hgv
  have C : Ctx (p, l, e, room_1, s, m, #[Value.ref b], below, meth, c, lw_Z below #[Value.ref b] s) G RL cL_law 4 := ⟨hx, hb, hml, hown, fun w hw => hts w (List.mem_filter.mp hw).1, hlocks, hvk, by omega, fun q hq => by rw [hg2]⟩
  have hRm : Rm (p, l, e, room_1, s, m, #[Value.ref b], below, meth, c, lw_Z below #[Value.ref b] s) l 2000 221 4277 := ⟨rfl, Nat.le_of_ble_eq_true rfl, Nat.le_of_ble_eq_true rfl, Nat.le_of_ble_eq_true rfl, Nat.le_of_ble_eq_true rfl⟩
  refine lw_enter hml (Nat.le_of_ble_eq_true rfl) hg1 hg2 ?_
  show Vc _ G (0, 0, 0, 0) _ 0 [(0, .ref b)] []
  refine v_newc C hRm tyX9 tyX9_ok rfl rfl inw_X9 cl_L_7 is_X9 cw_X9_init.1 df_X9 (show shp 0 = 9 by decide +kernel) (by decide) (show 0 + 1 ≤ 221 by decide) (show 0 + 9 ≤ 4277 by decide) dL_law_0 ?_
  show Vc _ G (1, 9, 1, 0) _ _ _ _
  refine v_dup C dL_law_3 rfl ?_
  refine v_callI C hRm (k := 0) (As := []) cw_X9_init im_X9_init rfl ml_L_9 (c_X9_init l G _) (Nat.le_of_ble_eq_true rfl) ⟨show 1 + 204 ≤ 221 by decide, show 9 + 2507 ≤ 4277 by decide⟩ rfl rfl (Nat.le_of_ble_eq_true rfl) dL_law_4 (fun v M2 hP => ?_)
  obtain ⟨rfl, rfl⟩ := hP
  show Vc _ G (205, 2516, 205, 0) _ _ _ [.ref (gb G + 0)]
  refine v_astore_n C [(1, .ref (gb G + 0)), (0, .ref b)] dL_law_7 rfl (by decide) rfl ?_
  refine v_newc C hRm tyX10 tyX10_ok rfl rfl inw_X10 cl_L_10 is_X10 cw_X10_init.1 df_X10 (show shp 205 = 10 by decide +kernel) (by decide) (show 205 + 1 ≤ 221 by decide) (show 2516 + 24 ≤ 4277 by decide) dL_law_8 ?_
  show Vc _ G (206, 2540, 206, 0) _ _ _ _
  refine v_dup C dL_law_11 rfl ?_
  refine v_callI C hRm (k := 205) (As := []) cw_X10_init im_X10_init rfl ml_L_12 (c_X10_init l G _) (Nat.le_of_ble_eq_true rfl) ⟨show 206 + 15 ≤ 221 by decide, show 2540 + 1737 ≤ 4277 by decide⟩ rfl rfl (Nat.le_of_ble_eq_true rfl) dL_law_12 (fun v M2 hP => ?_)
  obtain ⟨rfl, rfl⟩ := hP
  show Vc _ G (221, 4277, 221, 0) m0 _ _ [.ref (gb G + 205)]
  refine v_astore_n C [(2, .ref (gb G + 205)), (1, .ref (gb G + 0)), (0, .ref b)] dL_law_15 rfl (by decide) rfl ?_
  refine v_iconst C (nI 0) dL_law_16 (by decide) ?_
  refine v_istore_n C [(3, .int (nI 0)), (2, .ref (gb G + 205)), (1, .ref (gb G + 0)), (0, .ref b)] dL_law_17 rfl (by decide) rfl ?_
  refine v_sub [0, 3, 2, 1] (lwLV G b 0) rfl ?_
  refine v_one m0_refs ?_
  exact lw_loop ⟨C, hRm, ⟨hX, hbl⟩, by omega, hL⟩ (fun M lv => lw_end hx hb hr hlocks hg1 (Nat.le_of_ble_eq_true rfl) (Nat.le_of_ble_eq_true rfl) M lv) (L + 1) 0 m0 (by omega) (by omega) m0_rel
