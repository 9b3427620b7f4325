theorem lw_good : GoodIn lw_w lw_w := fun w h => ⟨h, good_of_word (List.mem_filter.mp h).2⟩
theorem lw_goodc {w : Cond} (h : w ∈ lw_w) : GoodIn lw_w (w :: lw_w) := fun v hv => by
  rcases List.mem_cons.mp hv with rfl | hv
  · exact lw_good _ h
  · exact lw_good _ hv
def rmOf (d k n : Nat) : Room := { frames := d, cells := k, slots := n, locals := 40 * d }
/-- a method's contract over the region: from n cells to n + dn, d frames deep at most -/
def Con (l : Launch) (G : GC) (n md d : Nat) (y : MethodName) (cc : ByteArray) (nL : Nat) (ret : Option FieldType) (av : List Value) (M : Mm) (dk ds dn : Nat) (Post : Option Value → Mm → Prop) : Prop :=
  Met l y (.code y cc nL ret :: lw_w) (rmOf d dk ds) (fun a U => a = av.toArray ∧ Wd G (0, 0, n, md) M U.heap ∧ VmOk G U) (fun _ st o t => ∃ v M', o = .returned v ∧ Post v M' ∧ Wd G (0, 0, n + dn, md) M' t.heap ∧ st.heap.size ≤ t.heap.size) dk ds (Ab G)
/-- the room that a frame has -/
def Rm (f : FC) (l : Launch) (D DK DS : Nat) : Prop := f.2.1 = l ∧ D ≤ f.2.2.2.1.frames ∧ 40 * D ≤ f.2.2.2.1.locals ∧ DK ≤ f.2.2.2.1.cells ∧ DS ≤ f.2.2.2.1.slots
/-- what a frame owes at its end -/
def Rt (f : FC) (G : GC) (ret : Option FieldType) (dk ds n md : Nat) (Post : Option Value → Mm → Prop) : Prop := match f with
  | (_, _, _, _, s, _, args, below, meth, _, Q) => meth.sig.returnType = ret ∧ Q = MQ below (fun _ st o t => ∃ v M', o = .returned v ∧ Post v M' ∧ Wd G (0, 0, n, md) M' t.heap ∧ st.heap.size ≤ t.heap.size) args s dk ds (Ab G)
theorem Con.mono {l : Launch} {G : GC} {n md d : Nat} {y : MethodName} {cc : ByteArray} {nL : Nat} {ret : Option FieldType} {av : List Value} {M : Mm} {dk ds dn : Nat} {Post Post' : Option Value → Mm → Prop} (h : Con l G n md d y cc nL ret av M dk ds dn Post) (hp : ∀ v M', Post v M' → Post' v M') : Con l G n md d y cc nL ret av M dk ds dn Post' := by
  intro p e a1 a2 a3 s m args below b1 b2 b3 b4
  obtain ⟨k, o, h1, h2, h3, ⟨⟨v, M', h4, h5, h6⟩, h7⟩⟩ := h p e a1 a2 a3 s m args below b1 b2 b3 b4
  exact ⟨k, o, h1, h2, h3, ⟨⟨v, M', h4, hp v M' h5, h6⟩, h7⟩⟩
theorem Con.of {l : Launch} {G : GC} {n md d : Nat} {y : MethodName} {cc : ByteArray} {nL : Nat} {ret : Option FieldType} {av : List Value} {M : Mm} {dk ds dn : Nat} {Post : Option Value → Mm → Prop}
    (hy : plainName y.cls = true) (hL : (lg_sl av).length ≤ nL)
    (body : ∀ f : FC, Ctx f G y.cls cc nL → Rm f l d dk ds → Rt f G ret dk ds (n + dn) md Post → f.2.2.2.2.2.2.2.2.1.name = y.name → Vc f G (0, 0, n, md) M 0 (lv_args 0 av) []) : Con l G n md d y cc nL ret av M dk ds dn Post := by
  refine Met.ofW (cc := cc) (maxL := nL) (ret := ret) hy rfl ?_
  intro p e s m args below meth c s₁ B hml hv
  obtain ⟨rfl, hW, hvk⟩ := hv
  have hts := atoms_spec (ws := .code y cc nL ret :: lw_w) B.pre
  have hsz : gb G ≤ s.heap.size := by have h1 := hW.2.1.1; omega
  have key := body (p, l, e, (headSpec (.code y cc nL ret :: lw_w) (rmOf d dk ds)).room, s, m, av.toArray, below, meth, c, MQ below (fun _ st o t => ∃ v M', o = .returned v ∧ Post v M' ∧ Wd G (0, 0, n + dn, md) M' t.heap ∧ st.heap.size ≤ t.heap.size) av.toArray s dk ds (Ab G))
    ⟨B.exec, B.bytes, hml, findClass_of_methodNamed B.named, fun w hw => hts w (List.mem_cons_of_mem _ hw), B.notSynchronized, hvk, hsz, hW.2.2.1⟩
    ⟨rfl, Nat.le_refl _, Nat.le_refl _, Nat.le_refl _, Nat.le_refl _⟩ ⟨B.returns, rfl⟩ (name_of_methodNamed B.named B.method).1
  rw [lg_entry_eq]
  have hl := lv_entry av (n := nL) hL
  rw [← hml] at hl ⊢
  exact key s.heap [] _ hW va_S.rf hl
section VR
variable {f : FC} {G : GC} {ph : Ph} {M : Mm} {own : String} {cc : ByteArray} {nL pc : Nat} {lv : List (Nat × Value)} {rest : List Value}
theorem v_iret (C : Ctx f G own cc nL) {dk ds n md : Nat} {ty : FieldType} {Post : Option Value → Mm → Prop} (hR : Rt f G (some ty) dk ds n md Post) {x : Int32} (hty : narrow ty (.int x) = .int x) (hd : decode cc pc = .ok (.ireturn, 1)) (hP : Post (some (.int x)) M) : Vc f G (dk, ds, n, md) M pc lv [.int x] := by
  obtain ⟨p, l0, e, R, s, m, args, below, meth, c, Q⟩ := f
  obtain ⟨hx, hb, hml, ho, hts, hlk, hvk, hbs, hlow⟩ := C
  intro H locs ls hW hS hl
  obtain ⟨hr, hQ⟩ := hR
  subst hQ
  exact W.zret hx hb hr hty (fun t ht _ => ⟨_, M, rfl, hP, by rw [ht]; exact hW, by rw [ht]; exact hS.1⟩) hS.2.2 hd
theorem v_ret (C : Ctx f G own cc nL) {dk ds n md : Nat} {Post : Option Value → Mm → Prop} (hR : Rt f G none dk ds n md Post) (hd : decode cc pc = .ok (.return_, 1)) (hP : Post none M) : Vc f G (dk, ds, n, md) M pc lv [] := by
  obtain ⟨p, l0, e, R, s, m, args, below, meth, c, Q⟩ := f
  obtain ⟨hx, hb, hml, ho, hts, hlk, hvk, hbs, hlow⟩ := C
  intro H locs ls hW hS hl
  obtain ⟨hr, hQ⟩ := hR
  subst hQ
  exact W.vret hx hb hr (fun t ht _ => ⟨_, M, rfl, hP, by rw [ht]; exact hW, by rw [ht]; exact hS.1⟩) hS.2.2 hd
theorem v_aret (C : Ctx f G own cc nL) {dk ds n md : Nat} {rt : FieldType} {Post : Option Value → Mm → Prop} (hR : Rt f G (some rt) dk ds n md Post) {x : Nat} (hrt : (∃ n, rt = .object n) ∨ ∃ t, rt = .array t) (hd : decode cc pc = .ok (.areturn, 1)) (hP : Post (some (.ref x)) M) : Vc f G (dk, ds, n, md) M pc lv [.ref x] := by
  obtain ⟨p, l0, e, R, s, m, args, below, meth, c, Q⟩ := f
  obtain ⟨hx, hb, hml, ho, hts, hlk, hvk, hbs, hlow⟩ := C
  intro H locs ls hW hS hl
  obtain ⟨hr, hQ⟩ := hR
  subst hQ
  exact W.aret hx hb hr hrt (Or.inr ⟨x, rfl⟩) (fun t ht _ => ⟨_, M, rfl, hP, by rw [ht]; exact hW, by rw [ht]; exact hS.1⟩) hS.2.2 hd
/-- what a call needs of its method's words -/
def CwS (y : MethodName) (cy : ByteArray) (nLy : Nat) (ret : Option FieldType) (n : Nat) : Prop := Cond.initialized y.cls ∈ lw_w ∧ Cond.code y cy nLy ret ∈ lw_w ∧ nLy ≤ 21 ∧ (y.cls ≠ "java/lang/invoke/MethodHandle" ∧ y.cls ≠ "java/lang/invoke/VarHandle" ∧ (parseMethodDescriptor y.desc).map (fun d => d.parameters.length) = some n)
def CwV (y : MethodName) (cy : ByteArray) (nLy : Nat) (ret : Option FieldType) (n : Nat) : Prop := CwS y cy nLy ret n ∧ Cond.instanceMethod y ∈ lw_w ∧ Cond.selects y.cls y y ∈ lw_w
theorem v_after {Qc : State → Outcome → State → Prop} {p : Program} {l : Launch} {e : Env} {R : Room} {s : State} {m : MethodId} {args : Array Value} {below : List Frame} {meth : Method} {c : Code} {Q : State → Prop} {H : Heap} {locs : List Loc} {ls : Array Slot} {st0 : List Value} {dk ds dn : Nat} {Post : Option Value → Mm → Prop} (hW : Wd G ph M H) (hS : va_S (Ab G) s.heap H locs) (hl : lv_has ls c.maxLocals lv)
    (hr : va_Run p l e R s m args below meth c H locs ph.1 ph.2.1 dk ds (F0 m pc ls st0) rest (fun st o t => ∃ v M', o = .returned v ∧ Post v M' ∧ Wd G (0, 0, ph.2.2.1 + dn, ph.2.2.2) M' t.heap ∧ st.heap.size ≤ t.heap.size) (Ab G))
    (kk : ∀ v M', Post v M' → Vc (p, l, e, R, s, m, args, below, meth, c, Q) G (ph.1 + dk, ph.2.1 + ds, ph.2.2.1 + dn, ph.2.2.2) M' (pc + 3) lv (v.toList ++ rest)) : W p l e R s m args below meth c H locs ph.1 ph.2.1 Q (F0 m pc ls st0) := by
  intro T hT X
  obtain ⟨v, st₀, t, T', L, h0, X', hL, e1, e2, ⟨v2, M', hv, hP, hW2, hz0⟩, st⟩ := hr T hT X
  cases hv
  rw [← e1] at hW2
  have hz : H.size ≤ T'.heap.size := by rw [e1, ← h0]; exact hz0
  obtain ⟨t2, a1, b1⟩ := kk _ M' hP T'.heap (locs ++ L) ls hW2 ⟨Nat.le_trans hS.1 hz, fun q h1 h2 => by
    have hq : q < gb G := Nat.not_le.mp h2
    rw [hW2.2.2.1 q hq, ← hW.2.2.1 q hq]
    exact hS.2.1 q h1 h2, fun q hq => by
      rcases List.mem_append.mp hq with h | h
      · exact hS.2.2 q h
      · exact hL q h⟩ hl T' rfl X'
  exact ⟨t2, st t2 a1, b1⟩
theorem con_blind {av : List Value} {n md : Nat} : FrameBlind (fun a U => a = av.toArray ∧ Wd G (0, 0, n, md) M U.heap ∧ VmOk G U) := fun a U g mk q => ⟨q.1, q.2.1, q.2.2.same (u := U) (U := U.calling g mk a) rfl⟩
theorem v_callV (C : Ctx f G own cc nL) {l : Launch} {D DK DS : Nat} (hRm : Rm f l D DK DS) {y : MethodName} {cy : ByteArray} {nLy : Nat} {ret : Option FieldType} {d dk ds dn : Nat} {Post : Option Value → Mm → Prop} {k ci index nn : Nat} {As st : List Value} {T : u_T} {N : Nat}
    (cw : CwV y cy nLy ret nn) (hlink : Cond.methodLink own index y ∈ lw_w) (hk : k < ph.2.2.1) (hs : shp k = ci) (hci : ci < 20) (hcl : vwCl[ci]? = some (y.cls, T, N))
    (hc : Con l G ph.2.2.1 ph.2.2.2 d y cy nLy ret (.ref (gb G + k) :: As) M dk ds dn Post) (hD : d + 1 ≤ D) (hkd : ph.1 + dk ≤ DK ∧ ph.2.1 + ds ≤ DS) (hn : As.length = nn) (hst : st = As.reverse ++ .ref (gb G + k) :: rest) (hrest : (rest.map fun v => v.category).sum ≤ 8) (hd : decode cc pc = .ok (.invokevirtual index, 3))
    (kk : ∀ v M', Post v M' → Vc f G (ph.1 + dk, ph.2.1 + ds, ph.2.2.1 + dn, ph.2.2.2) M' (pc + 3) lv (v.toList ++ rest)) : Vc f G ph M pc lv st := by
  obtain ⟨p, l0, e, R, s, m, args, below, meth, c, Q⟩ := f
  obtain ⟨hx, hb, hml, ho, hts, hlk, hvk, hbs, hlow⟩ := C
  intro H locs ls hW hS hl
  obtain ⟨rfl, r1, r2, r3, r4⟩ := hRm
  dsimp only at r1 r2 r3 r4
  obtain ⟨⟨c1, c2, c3, c4⟩, c5, c6⟩ := cw
  have hcw : CallW R s args own y.cls index y cy nLy ret (.code y cy nLy ret :: lw_w) (rmOf d dk ds) dk ds nn := ⟨callB_of nn hts (lw_goodc c2) rfl rfl rfl (hts _ c1) (hts _ hlink) c4 ⟨by show d + 1 ≤ _; omega, by show 8 + (nLy + 11) + 40 * d ≤ _; omega⟩, hts _ c5, hts _ c6⟩
  have hobj := hW.obj hk hs hci
  have hrecv : ∃ cellB : Cell, H[gb G + k]? = some cellB ∧ cellB.vm.isStatics = false ∧ s.vm.findClass y.cls = some cellB.cls := by
    obtain ⟨r, h1, cell, q1, q2, q3, q4⟩ := hobj
    have hr : r = (y.cls, T, N) := Option.some.inj (h1.symm.trans hcl)
    subst hr
    exact ⟨cell, q1, by rw [q3]; rfl, by rw [q2]; exact (hvk.cls hcl).2.1⟩
  subst hst
  refine v_after (Qc := fun _ _ _ => True) hW hS hl ?_ kk
  exact va_runV (As := As) (rest := rest) ⟨hx, hb, hml, ho, hts⟩ hc hcw ⟨con_blind, hrecv, fun U hU hwU => ⟨rfl, by rw [hU]; exact hW, hvk.warm hwU⟩⟩ rfl hn (by rw [hl.1]; exact hml) rfl (lv_room hrest) hd ⟨by omega, by omega⟩
theorem v_callS (C : Ctx f G own cc nL) {l : Launch} {D DK DS : Nat} (hRm : Rm f l D DK DS) {y : MethodName} {cy : ByteArray} {nLy : Nat} {ret : Option FieldType} {d dk ds dn : Nat} {Post : Option Value → Mm → Prop} {index nn : Nat} {As st : List Value}
    (cw : CwS y cy nLy ret nn) (hstat : Cond.static y ∈ lw_w) (hlink : Cond.methodLink own index y ∈ lw_w)
    (hc : Con l G ph.2.2.1 ph.2.2.2 d y cy nLy ret As M dk ds dn Post) (hD : d + 1 ≤ D) (hkd : ph.1 + dk ≤ DK ∧ ph.2.1 + ds ≤ DS) (hn : As.length = nn) (hst : st = As.reverse ++ rest) (hrest : (rest.map fun v => v.category).sum ≤ 8) (hd : decode cc pc = .ok (.invokestatic index, 3))
    (kk : ∀ v M', Post v M' → Vc f G (ph.1 + dk, ph.2.1 + ds, ph.2.2.1 + dn, ph.2.2.2) M' (pc + 3) lv (v.toList ++ rest)) : Vc f G ph M pc lv st := by
  obtain ⟨p, l0, e, R, s, m, args, below, meth, c, Q⟩ := f
  obtain ⟨hx, hb, hml, ho, hts, hlk, hvk, hbs, hlow⟩ := C
  intro H locs ls hW hS hl
  obtain ⟨rfl, r1, r2, r3, r4⟩ := hRm
  dsimp only at r1 r2 r3 r4
  obtain ⟨c1, c2, c3, c4⟩ := cw
  subst hst
  refine v_after (Qc := fun _ _ _ => True) hW hS hl ?_ kk
  exact va_runS (As := As) (rest := rest) ⟨hx, hb, hml, ho, hts⟩ hc ⟨callB_of nn hts (lw_goodc c2) rfl rfl rfl (hts _ c1) (hts _ hlink) c4 ⟨by show d + 1 ≤ _; omega, by show 8 + (nLy + 11) + 40 * d ≤ _; omega⟩, hts _ hstat⟩ ⟨con_blind, fun U hU hwU => ⟨rfl, by rw [hU]; exact hW, hvk.warm hwU⟩⟩ rfl hn (by rw [hl.1]; exact hml) rfl (lv_room hrest) hd ⟨by omega, by omega⟩
theorem v_callSN (C : Ctx f G own cc nL) {l : Launch} {D DK DS : Nat} (hRm : Rm f l D DK DS) {y : MethodName} {cy : ByteArray} {nLy : Nat} {ret : Option FieldType} {d dk ds dn : Nat} {Post : Option Value → Mm → Prop} {index nn : Nat} {As st : List Value} {host : String}
    (cw : CwS y cy nLy ret nn) (hstat : Cond.static y ∈ lw_w) (hlink : (own, index, y, host) ∈ nestM)
    (hc : Con l G ph.2.2.1 ph.2.2.2 d y cy nLy ret As M dk ds dn Post) (hD : d + 1 ≤ D) (hkd : ph.1 + dk ≤ DK ∧ ph.2.1 + ds ≤ DS) (hn : As.length = nn) (hst : st = As.reverse ++ rest) (hrest : (rest.map fun v => v.category).sum ≤ 8) (hd : decode cc pc = .ok (.invokestatic index, 3))
    (kk : ∀ v M', Post v M' → Vc f G (ph.1 + dk, ph.2.1 + ds, ph.2.2.1 + dn, ph.2.2.2) M' (pc + 3) lv (v.toList ++ rest)) : Vc f G ph M pc lv st := by
  obtain ⟨p, l0, e, R, s, m, args, below, meth, c, Q⟩ := f
  obtain ⟨hx, hb, hml, ho, hts, hlk, hvk, hbs, hlow⟩ := C
  intro H locs ls hW hS hl
  obtain ⟨rfl, r1, r2, r3, r4⟩ := hRm
  dsimp only at r1 r2 r3 r4
  obtain ⟨c1, c2, c3, c4⟩ := cw
  subst hst
  refine v_after (Qc := fun _ _ _ => True) hW hS hl ?_ kk
  have hnw : va_Nw (.methodLinkNest own index y host) s := hvk.2.2.2.2.2.2.1 _ hlink
  exact va_runSN (As := As) (rest := rest) ⟨hx, hb, hml, ho, hts⟩ hc ⟨va_cnB nn hts (lw_goodc c2) rfl rfl rfl hnw (hts _ c1) c4 ⟨by show d + 1 ≤ _; omega, by show 8 + (nLy + 11) + 40 * d ≤ _; omega⟩, hts _ hstat, trivial⟩ ⟨con_blind, fun U hU hwU => ⟨rfl, by rw [hU]; exact hW, hvk.warm hwU⟩⟩ rfl hn (by rw [hl.1]; exact hml) rfl (lv_room hrest) hd ⟨by omega, by omega⟩
theorem v_callI (C : Ctx f G own cc nL) {l : Launch} {D DK DS : Nat} (hRm : Rm f l D DK DS) {y : MethodName} {cy : ByteArray} {nLy : Nat} {d dk ds dn : Nat} {Post : Option Value → Mm → Prop} {k index nn : Nat} {As st : List Value}
    (cw : CwS y cy nLy none nn) (hinst : Cond.instanceMethod y ∈ lw_w) (hy1 : y.name = "<init>") (hlink : Cond.methodLink own index y ∈ lw_w)
    (hc : Con l G ph.2.2.1 ph.2.2.2 d y cy nLy none (.ref (gb G + k) :: As) M dk ds dn Post) (hD : d + 1 ≤ D) (hkd : ph.1 + dk ≤ DK ∧ ph.2.1 + ds ≤ DS) (hn : As.length = nn) (hst : st = As.reverse ++ .ref (gb G + k) :: rest) (hrest : (rest.map fun v => v.category).sum ≤ 8) (hd : decode cc pc = .ok (.invokespecial index, 3))
    (kk : ∀ v M', Post v M' → Vc f G (ph.1 + dk, ph.2.1 + ds, ph.2.2.1 + dn, ph.2.2.2) M' (pc + 3) lv (v.toList ++ rest)) : Vc f G ph M pc lv st := by
  obtain ⟨p, l0, e, R, s, m, args, below, meth, c, Q⟩ := f
  obtain ⟨hx, hb, hml, ho, hts, hlk, hvk, hbs, hlow⟩ := C
  intro H locs ls hW hS hl
  obtain ⟨rfl, r1, r2, r3, r4⟩ := hRm
  dsimp only at r1 r2 r3 r4
  obtain ⟨c1, c2, c3, c4⟩ := cw
  subst hst
  refine v_after (Qc := fun _ _ _ => True) hW hS hl ?_ kk
  exact va_runI (As := As) (rest := rest) ⟨hx, hb, hml, ho, hts⟩ hc ⟨callB_of nn hts (lw_goodc c2) rfl rfl rfl (hts _ c1) (hts _ hlink) c4 ⟨by show d + 1 ≤ _; omega, by show 8 + (nLy + 11) + 40 * d ≤ _; omega⟩, hy1, hts _ hinst⟩ ⟨con_blind, fun U hU hwU => ⟨rfl, by rw [hU]; exact hW, hvk.warm hwU⟩⟩ rfl hn (by rw [hl.1]; exact hml) rfl (lv_room hrest) hd ⟨by omega, by omega⟩
theorem v_callIN (C : Ctx f G own cc nL) {l : Launch} {D DK DS : Nat} (hRm : Rm f l D DK DS) {y : MethodName} {cy : ByteArray} {nLy : Nat} {d dk ds dn : Nat} {Post : Option Value → Mm → Prop} {k index nn : Nat} {As st : List Value} {host : String}
    (cw : CwS y cy nLy none nn) (hinst : Cond.instanceMethod y ∈ lw_w) (hy1 : y.name = "<init>") (hlink : (own, index, y, host) ∈ nestM)
    (hc : Con l G ph.2.2.1 ph.2.2.2 d y cy nLy none (.ref (gb G + k) :: As) M dk ds dn Post) (hD : d + 1 ≤ D) (hkd : ph.1 + dk ≤ DK ∧ ph.2.1 + ds ≤ DS) (hn : As.length = nn) (hst : st = As.reverse ++ .ref (gb G + k) :: rest) (hrest : (rest.map fun v => v.category).sum ≤ 8) (hd : decode cc pc = .ok (.invokespecial index, 3))
    (kk : ∀ v M', Post v M' → Vc f G (ph.1 + dk, ph.2.1 + ds, ph.2.2.1 + dn, ph.2.2.2) M' (pc + 3) lv (v.toList ++ rest)) : Vc f G ph M pc lv st := by
  obtain ⟨p, l0, e, R, s, m, args, below, meth, c, Q⟩ := f
  obtain ⟨hx, hb, hml, ho, hts, hlk, hvk, hbs, hlow⟩ := C
  intro H locs ls hW hS hl
  obtain ⟨rfl, r1, r2, r3, r4⟩ := hRm
  dsimp only at r1 r2 r3 r4
  obtain ⟨c1, c2, c3, c4⟩ := cw
  subst hst
  refine v_after (Qc := fun _ _ _ => True) hW hS hl ?_ kk
  have hnw : va_Nw (.methodLinkNest own index y host) s := hvk.2.2.2.2.2.2.1 _ hlink
  exact va_runIN (As := As) (rest := rest) ⟨hx, hb, hml, ho, hts⟩ hc ⟨va_cnB nn hts (lw_goodc c2) rfl rfl rfl hnw (hts _ c1) c4 ⟨by show d + 1 ≤ _; omega, by show 8 + (nLy + 11) + 40 * d ≤ _; omega⟩, hy1, hts _ hinst⟩ ⟨con_blind, fun U hU hwU => ⟨rfl, by rw [hU]; exact hW, hvk.warm hwU⟩⟩ rfl hn (by rw [hl.1]; exact hml) rfl (lv_room hrest) hd ⟨by omega, by omega⟩
end VR
