def bytS (i j : Nat) : Int32 := (strT.getD i []).getD j 0
def lenS (i : Nat) : Nat := (strT.getD i []).length
section VJ
variable {f : FC} {G : GC} {ph : Ph} {M : Mm} {own : String} {cc : ByteArray} {nL pc : Nat} {lv : List (Nat × Value)} {rest : List Value} {l : Launch} {D index : Nat}
theorem hkept {G : GC} {s : State} (hlow : ∀ q, q < gb G → s.heap[q]? = (gH G)[q]?) : ∀ a : Nat, a < (gH G).size → ¬ Ab G a → s.heap[a]? = (gH G)[a]? := fun a _ h => hlow a (Nat.not_le.mp h)
theorem v_gets (C : Ctx f G own cc nL) {Cn n d : String} (v : Value) (hZ : ∀ s, VmOk G s → va_Z Cn n d v (Ab G) s (gH G)) (hlink : Cond.fieldLink own index Cn n d ∈ lw_w) (hd : decode cc pc = .ok (.getstatic index, 3)) (kk : Vc f G ph M (pc + 3) lv (v :: rest)) : Vc f G ph M pc lv rest := by
  obtain ⟨p, l0, e, R, s, m, args, below, meth, c, Q⟩ := f
  obtain ⟨hx, hb, hml, ho, hts, hlk, hvk, hbs, hlow⟩ := C
  intro H locs ls hW hS hl
  exact va_gets hx hb ((hZ s hvk).kept (hkept hlow)) hS ho (hts _ hlink) (fun _ h => h) hd (kk H locs ls hW hS hl)
theorem v_getsN (C : Ctx f G own cc nL) {Cn n d host : String} (v : Value) (hZ : ∀ s, VmOk G s → va_Z Cn n d v (Ab G) s (gH G)) (hlink : (own, index, Cn, n, d, host) ∈ nestF) (hd : decode cc pc = .ok (.getstatic index, 3)) (kk : Vc f G ph M (pc + 3) lv (v :: rest)) : Vc f G ph M pc lv rest := by
  obtain ⟨p, l0, e, R, s, m, args, below, meth, c, Q⟩ := f
  obtain ⟨hx, hb, hml, ho, hts, hlk, hvk, hbs, hlow⟩ := C
  intro H locs ls hW hS hl
  exact va_getsN hx hb ((hZ s hvk).kept (hkept hlow)) hS ho (va_Nw.use rfl (hvk.2.2.2.2.2.2.2.1 _ hlink)) (fun _ h => h) hd (kk H locs ls hW hS hl)
theorem v_getsq (C : Ctx f G own cc nL) {Cn n d : String} (hZ : ∀ s, VmOk G s → va_Zq Cn n d (Ab G) s (gH G)) (hlink : Cond.fieldLink own index Cn n d ∈ lw_w) (hd : decode cc pc = .ok (.getstatic index, 3)) (kk : ∀ v, (v = .null ∨ ∃ a, v = Value.ref a) → Vc f G ph M (pc + 3) lv (v :: rest)) : Vc f G ph M pc lv rest := by
  obtain ⟨p, l0, e, R, s, m, args, below, meth, c, Q⟩ := f
  obtain ⟨hx, hb, hml, ho, hts, hlk, hvk, hbs, hlow⟩ := C
  intro H locs ls hW hS hl
  rcases hZ s hvk with h | ⟨t, h⟩
  · exact va_gets hx hb (h.kept (hkept hlow)) hS ho (hts _ hlink) (fun _ h => h) hd (kk _ (Or.inl rfl) H locs ls hW hS hl)
  · exact va_gets hx hb (h.kept (hkept hlow)) hS ho (hts _ hlink) (fun _ h => h) hd (kk _ (Or.inr ⟨t, rfl⟩) H locs ls hW hS hl)
theorem va_OF.kept2 {o n d : String} {v : Value} {t : Nat} {A : Nat → Prop} {U : State} {H H1 : Heap} (h : va_OF o n d v t A U H) (hq : ∀ a : Nat, a < H.size → ¬ A a → H1[a]? = H[a]?) : va_OF o n d v t A U H1 := by
  obtain ⟨cf, k, i, f, cell, h1, h2, h3, h4, h5, h6⟩ := h
  exact ⟨cf, k, i, f, cell, h1, h2, (hq t (Array.getElem?_eq_some_iff.mp h3).1 h6).trans h3, h4, h5, h6⟩
theorem v_sval (C : Ctx f G own cc nL) {i : Nat} (hi : i < 10) (hlink : Cond.fieldLink own index "java/lang/String" "value" "[B" ∈ lw_w) (hd : decode cc pc = .ok (.getfield index, 3)) (kk : Vc f G ph M (pc + 3) lv (.ref (gV G i) :: rest)) : Vc f G ph M pc lv (.ref (gK G i) :: rest) := by
  obtain ⟨p, l0, e, R, s, m, args, below, meth, c, Q⟩ := f
  obtain ⟨hx, hb, hml, ho, hts, hlk, hvk, hbs, hlow⟩ := C
  intro H locs ls hW hS hl
  exact vk_getf hx hb ((hvk.2.2.2.2.1 i hi).2.2.1.kept2 (hkept hlow)) hS ho (hts _ hlink) (fun _ h => h) hd (kk H locs ls hW hS hl)
theorem v_scod (C : Ctx f G own cc nL) {i : Nat} (hi : i < 10) (hlink : Cond.fieldLink own index "java/lang/String" "coder" "B" ∈ lw_w) (hd : decode cc pc = .ok (.getfield index, 3)) (kk : Vc f G ph M (pc + 3) lv (.int 0 :: rest)) : Vc f G ph M pc lv (.ref (gK G i) :: rest) := by
  obtain ⟨p, l0, e, R, s, m, args, below, meth, c, Q⟩ := f
  obtain ⟨hx, hb, hml, ho, hts, hlk, hvk, hbs, hlow⟩ := C
  intro H locs ls hW hS hl
  exact vk_getf hx hb ((hvk.2.2.2.2.1 i hi).2.1.kept2 (hkept hlow)) hS ho (hts _ hlink) (fun _ h => h) hd (kk H locs ls hW hS hl)
theorem v_sbal (C : Ctx f G own cc nL) {i j : Nat} (hi : i < 10) (hj : j < lenS i) (hj2 : j < 2 ^ 31) (hd : decode cc pc = .ok (.baload, 1)) (kk : Vc f G ph M (pc + 1) lv (.int (bytS i j) :: rest)) : Vc f G ph M pc lv (.int (nI j) :: .ref (gV G i) :: rest) := by
  obtain ⟨p, l0, e, R, s, m, args, below, meth, c, Q⟩ := f
  obtain ⟨hx, hb, hml, ho, hts, hlk, hvk, hbs, hlow⟩ := C
  intro H locs ls hW hS hl
  exact va_tb hx hb ((hvk.2.2.2.2.1 i hi).2.2.2.kept (hkept hlow)) hS (show vp_in (nI j) _ from fun q => by rw [nI_clamp hj2] at q; rcases q with q | q; exact nI_pos hj2 q; exact Nat.not_lt.mpr q hj) (by rw [nI_clamp hj2]; rfl) hd (kk H locs ls hW hS hl)
theorem v_slen (C : Ctx f G own cc nL) {i : Nat} (hi : i < 10) (hd : decode cc pc = .ok (.arraylength, 1)) (kk : Vc f G ph M (pc + 1) lv (.int (nI (lenS i)) :: rest)) : Vc f G ph M pc lv (.ref (gV G i) :: rest) := by
  obtain ⟨p, l0, e, R, s, m, args, below, meth, c, Q⟩ := f
  obtain ⟨hx, hb, hml, ho, hts, hlk, hvk, hbs, hlow⟩ := C
  intro H locs ls hW hS hl
  exact va_tlen hx hb ((hvk.2.2.2.2.1 i hi).2.2.2.kept (hkept hlow)) hS rfl hd (kk H locs ls hW hS hl)
theorem v_above (C : Ctx f G own cc nL) {j : Nat} (hj : j < 7) (hd : decode cc pc = .ok (.iaload, 1)) (kk : Vc f G ph M (pc + 1) lv (.int (aboveT.getD j 0) :: rest)) : Vc f G ph M pc lv (.int (nI j) :: .ref (gV G 20) :: rest) := by
  obtain ⟨p, l0, e, R, s, m, args, below, meth, c, Q⟩ := f
  obtain ⟨hx, hb, hml, ho, hts, hlk, hvk, hbs, hlow⟩ := C
  intro H locs ls hW hS hl
  exact va_ti hx hb (hvk.2.1.2.kept (hkept hlow)) hS (vp_in_nI hj (by decide)) (by rw [nI_clamp (by omega)]) hd (kk H locs ls hW hS hl)
theorem v_bodies (C : Ctx f G own cc nL) {j : Nat} (hj : j < 28) (hd : decode cc pc = .ok (.iaload, 1)) (kk : Vc f G ph M (pc + 1) lv (.int (bodiesT.getD j 0) :: rest)) : Vc f G ph M pc lv (.int (nI j) :: .ref (gV G 21) :: rest) := by
  obtain ⟨p, l0, e, R, s, m, args, below, meth, c, Q⟩ := f
  obtain ⟨hx, hb, hml, ho, hts, hlk, hvk, hbs, hlow⟩ := C
  intro H locs ls hW hS hl
  exact va_ti hx hb (hvk.2.2.1.2.kept (hkept hlow)) hS (vp_in_nI hj (by decide)) (by rw [nI_clamp (by omega)]) hd (kk H locs ls hW hS hl)
theorem v_loadv {k : Fin 4} {v : Value} (C : Ctx f G own cc nL) (j : Nat) (hv : v = .null ∨ ∃ a, v = Value.ref a) (hd : decode cc pc = .ok (.aload_n k, 1)) (hj : lv[j]? = some ((k : Nat), v)) (kk : Vc f G ph M (pc + 1) lv (v :: rest)) : Vc f G ph M pc lv rest := by
  rcases hv with rfl | ⟨a, rfl⟩
  · obtain ⟨p, l0, e, R, s, m, args, below, meth, c, Q⟩ := f
    obtain ⟨hx, hb, hml, ho, hts, hlk, hvk, hbs, hlow⟩ := C
    intro H locs ls hW hS hl
    exact lv_aload_nN hx hb hd rfl (lv_at hl j hj) (kk H locs ls hW hS hl)
  · exact v_aload_n C j hd hj kk
/-- a call on a constant of text -/
theorem v_callT (C : Ctx f G own cc nL) {D DK DS : Nat} (hRm : Rm f l D DK DS) {y : MethodName} {cy : ByteArray} {nLy : Nat} {ret : Option FieldType} {d : Nat} {Post : Option Value → Mm → Prop} {i nn : Nat} {As st : List Value}
    (cw : CwV y cy nLy ret nn) (hyc : y.cls = "java/lang/String") (hlink : Cond.methodLink own index y ∈ lw_w) (hi : i < 10)
    (hc : Con l G ph.2.2.1 ph.2.2.2 d y cy nLy ret (.ref (gK G i) :: As) M 0 0 0 Post) (hD : d + 1 ≤ D) (hkd : ph.1 ≤ DK ∧ ph.2.1 ≤ DS) (hn : As.length = nn) (hst : st = As.reverse ++ .ref (gK G i) :: rest) (hrest : (rest.map fun v => v.category).sum ≤ 8) (hd : decode cc pc = .ok (.invokevirtual index, 3))
    (kk : ∀ v M', Post v M' → Vc f G ph M' (pc + 3) lv (v.toList ++ rest)) : Vc f G ph M pc lv st := by
  obtain ⟨p, l0, e, R, s, m, args, below, meth, c, Q⟩ := f
  obtain ⟨hx, hb, hml, ho, hts, hlk, hvk, hbs, hlow⟩ := C
  intro H locs ls hW hS hl
  obtain ⟨rfl, r1, r2, r3, r4⟩ := hRm
  dsimp only at r1 r2 r3 r4
  obtain ⟨⟨c1, c2, c3, c4⟩, c5, c6⟩ := cw
  have hcw : CallW R s args own y.cls index y cy nLy ret (.code y cy nLy ret :: lw_w) (rmOf d 0 0) 0 0 nn := ⟨callB_of nn hts (lw_goodc c2) rfl rfl rfl (hts _ c1) (hts _ hlink) c4 ⟨by show d + 1 ≤ _; omega, by show 8 + (nLy + 11) + 40 * d ≤ _; omega⟩, hts _ c5, hts _ c6⟩
  have hrecv : ∃ cellB : Cell, H[gK G i]? = some cellB ∧ cellB.vm.isStatics = false ∧ s.vm.findClass y.cls = some cellB.cls := by
    obtain ⟨cell, h1, h2, h3, h4⟩ := (hvk.2.2.2.2.1 i hi).1
    refine ⟨cell, ?_, h2, by rw [hyc]; exact h3⟩
    have hq : gK G i < gb G := Nat.not_le.mp h4
    rw [hW.2.2.1 _ hq]; exact h1
  subst hst
  refine v_after (dk := 0) (ds := 0) (dn := 0) (Qc := fun _ _ _ => True) hW hS hl ?_ kk
  exact va_runV (As := As) (rest := rest) ⟨hx, hb, hml, ho, hts⟩ hc hcw ⟨con_blind, hrecv, fun U hU hwU => ⟨rfl, by rw [hU]; exact hW, hvk.warm hwU⟩⟩ rfl hn (by rw [hl.1]; exact hml) rfl (lv_room hrest) hd ⟨by omega, by omega⟩
theorem n_callTp (C : Ctx f G own cc nL) (hRm : Rm f l D 0 0) {y : MethodName} {cy : ByteArray} {nLy d i nn : Nat} {rt : FieldType} {r : Int32} {st : List Value} (As : List Value) (cw : CwV y cy nLy (some rt) nn) (hyc : y.cls = "java/lang/String") (hlink : Cond.methodLink own index y ∈ lw_w) (hi : i < 10) (hc : CP l G d y cy nLy rt (.ref (gK G i) :: As) M r) (hD : d + 1 ≤ D) (hn : As.length = nn) (hst : st = As.reverse ++ .ref (gK G i) :: rest) (hrest : (rest.map fun v => v.category).sum ≤ 8) (hd : decode cc pc = .ok (.invokevirtual index, 3)) (kk : Vc f G NPh M (pc + 3) lv (.int r :: rest)) : Vc f G NPh M pc lv st := v_callT C hRm cw hyc hlink hi hc hD ⟨Nat.le_refl _, Nat.le_refl _⟩ hn hst hrest hd (fun v M' h => by obtain ⟨rfl, rfl⟩ := h; exact kk)
end VJ
theorem fj_J0_9 : Cond.fieldLink RJ0 9 "java/lang/String" "value" "[B" ∈ lw_w := lw_in (List.mem_of_getElem? (i := 1454) (by decide +kernel)) rfl
theorem fj_J0_15 : Cond.fieldLink RJ0 15 "java/lang/String" "coder" "B" ∈ lw_w := lw_in (List.mem_of_getElem? (i := 1453) (by decide +kernel)) rfl
theorem fj_J0_38 : Cond.fieldLink RJ0 38 "java/lang/String" "COMPACT_STRINGS" "Z" ∈ lw_w := lw_in (List.mem_of_getElem? (i := 616) (by decide +kernel)) rfl
theorem fj_J0_1053 : Cond.fieldLink RJ0 1053 "jdk/internal/util/Preconditions" "SIOOBE_FORMATTER" "Ljava/util/function/BiFunction;" ∈ lw_w := lw_in (List.mem_of_getElem? (i := 655) (by decide +kernel)) rfl
theorem fj_X9_92 : Cond.fieldLink RX9 92 "BreakTime" "ABOVE" "[I" ∈ lw_w := lw_in (List.mem_of_getElem? (i := 437) (by decide +kernel)) rfl
