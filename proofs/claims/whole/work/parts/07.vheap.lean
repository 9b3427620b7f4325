theorem Wd.obj {G : GC} {ph : Ph} {M : Mm} {H : Heap} (h : Wd G ph M H) {k ci : Nat} (hk : k < ph.2.2.1) (hs : shp k = ci) (hc : ci < 20) : va_at (gD G) vwCl (gb G + k, .inr (ci, (List.range (nSl ci)).map (fun i => sv G M k i (rfs ci i)))) H := En_obj hs hc ▸ h.1 k hk
theorem Wd.int {G : GC} {ph : Ph} {M : Mm} {H : Heap} (h : Wd G ph M H) {k L : Nat} (hk : k < ph.2.2.1) (hs : shp k = 1000 + L) : H[gb G + k]? = some (arrV (gt G 0) L (fun j => .int (M k j))) := by
  have h1 := h.1 k hk
  rw [En_int hs] at h1
  exact h1
theorem Wd.arr {G : GC} {ph : Ph} {M : Mm} {H : Heap} (h : Wd G ph M H) {k s : Nat} (hk : k < ph.2.2.1) (hs : shp k = s) (h1 : 20 ≤ s) (h2 : s < 1000) : H[gb G + k]? = some (arrV (gt G (s - 19)) (aLen s) (fun j => va_rf (ae G M k s j))) := by
  have h3 := h.1 k hk
  rw [En_arr hs h1 h2] at h3
  exact h3
/-- one cell of the region changes -/
theorem Wd.step {G : GC} {ph : Ph} {M M' : Mm} {H H1 : Heap} (h : Wd G ph M H) {k : Nat} (hk : k < ph.2.2.1) (he : va_at (gD G) vwCl (gb G + k, En G M' k) H1) (hz : H1.size = H.size) (ho : ∀ q, q ≠ gb G + k → H1[q]? = H[q]?) (hM : ∀ a, a ≠ k → M' a = M a) (hC : ∀ i, 1000 ≤ shp k → shp k - 1000 ≤ i → M' k i = M k i) (hr : ph.2.2.2 = 1 → RefsOk M') : Wd G ph M' H1 := by
  obtain ⟨h1, h2, h3, ⟨h4, h6⟩, h5⟩ := h
  refine ⟨fun a ha => ?_, ⟨by rw [hz]; exact h2.1, fun hm => hz.trans (h2.2 hm)⟩, fun q hq => (ho q (by omega)).trans (h3 q hq), ⟨fun a ha => (hM a (by omega)).trans (h4 a ha), fun a i ha hi => ?_⟩, fun hm => ⟨(h5 hm).1, hr hm⟩⟩
  rotate_left
  · by_cases hak : a = k
    · subst hak; exact (hC i ha hi).trans (h6 a i ha hi)
    · rw [hM a hak]; exact h6 a i ha hi
  by_cases hak : a = k
  · subst hak; exact he
  · rw [En_congr (hM a hak)]
    exact (h1 a ha).kept (ho _ (by omega))
theorem RefsOk.up {M : Mm} (h : RefsOk M) {k i : Nat} {v : Int32} (hv : (shp k < 20 ∧ rfs (shp k) i = 0) ∨ 1000 ≤ shp k ∨ v ≠ 0) : RefsOk (up2 M k i v) := by
  intro a j ha hj
  rw [up2_ap]
  by_cases hq : a = k ∧ j = i
  · rw [if_pos hq]
    obtain ⟨rfl, rfl⟩ := hq
    rcases hv with hv | hv | hv
    · rcases hj with hj | hj
      · exact absurd hv.2 hj.2
      · omega
    · omega
    · exact hv
  · rw [if_neg hq]; exact h a j ha hj
theorem RefsOk.upA {M : Mm} (h : RefsOk M) {k : Nat} {g : Nat → Int32} (hv : 1000 ≤ shp k) : RefsOk (upA M k g) := by
  intro a j ha hj
  by_cases hq : a = k
  · subst hq; omega
  · rw [upA_ne M g hq]; exact h a j ha hj
theorem sv_0 (G : GC) (M : Mm) (k i : Nat) : sv G M k i 0 = .int (M k i) := rfl
theorem sv_r {G : GC} {M : Mm} {k i r : Nat} (h : M k i ≠ 0) (h0 : r ≠ 0) (h1 : r < 5000) : sv G M k i r = .ref (gb G + (k + r)) := by
  unfold sv
  rw [if_neg h0, if_neg h, if_neg (by omega), if_neg (by omega)]
theorem sv_b {G : GC} {M : Mm} {k i : Nat} (h : M k i ≠ 0) : sv G M k i 5000 = .ref (gb G + (M k i).toNatClampNeg) := by
  unfold sv
  rw [if_neg (by omega), if_neg h, if_pos rfl]
theorem sv_s {G : GC} {M : Mm} {k i : Nat} (h : M k i ≠ 0) : sv G M k i 5001 = .ref (gK G ((M k i).toNatClampNeg - 1)) := by
  unfold sv
  rw [if_neg (by omega), if_neg h, if_neg (by omega), if_pos rfl]
theorem range_map_get {α : Type} (n i : Nat) (g : Nat → α) (h : i < n) : ((List.range n).map g)[i]? = some (g i) := by
  rw [List.getElem?_map, List.getElem?_range h]; rfl
theorem vpV_range (n i : Nat) (g : Nat → Value) (h : i < n) : vp_V ((List.range n).map g) i = g i := by
  unfold vp_V
  rw [List.getD_eq_getElem?_getD, range_map_get n i g h]; rfl
theorem VmOk.cls {G : GC} {s : State} (h : VmOk G s) {ci : Nat} {q : vw_C} (hc : vwCl[ci]? = some q) : u_Kn s q.1 q.2.1 q.2.2 ((gD G).1 ci) ((gD G).2 ci) := h.1.1 ci q hc
section VH
variable {f : FC} {G : GC} {ph : Ph} {M : Mm} {own : String} {cc : ByteArray} {nL pc : Nat} {lv : List (Nat × Value)} {rest : List Value}
/-- the raw reading of a field: whatever the slot holds -/
theorem v_get0 (C : Ctx f G own cc nL) {k ci i index : Nat} {Cn : String} {T : u_T} {N : Nat} (hk : k < ph.2.2.1) (hs : shp k = ci) (hci : ci < 20) (hc : vwCl[ci]? = some (Cn, T, N)) (hn : nSl ci = N) (hi : i < N) (hin : ∀ w ∈ u_ws Cn T N, w ∈ lw_w) (hlink : Cond.fieldLink own index (T i).1 (T i).2.1 (T i).2.2.1 ∈ lw_w) (hd : decode cc pc = .ok (.getfield index, 3)) (v : Value) (hv : ∀ H, Wd G ph M H → sv G M k i (rfs ci i) = v) (kk : Vc f G ph M (pc + 3) lv (v :: rest)) : Vc f G ph M pc lv (.ref (gb G + k) :: rest) := by
  obtain ⟨p, l, e, R, s, m, args, below, meth, c, Q⟩ := f
  obtain ⟨hx, hb, hml, ho, hts, hlk, hvk, hbs, hlow⟩ := C
  intro H locs ls hW hS hl
  obtain ⟨r, h1, cell, q1, q2, q3, q4⟩ := hW.obj hk hs hci
  have hr : r = (Cn, T, N) := Option.some.inj (h1.symm.trans hc)
  subst hr
  obtain ⟨hSl, hfc, kC, hkC, hkind⟩ := hvk.cls hc
  obtain ⟨cf, kf, fi, fd, hif, hsl⟩ := hSl i hi
  refine W.getf hx hb ho (hts _ hlink) hif (u_facts hfc hkC (u_lays hts hin hi) hif).1 q1 (by rw [q3]; exact fun h => by cases h) (v := v) ?_ rfl rfl hd (kk H locs ls hW hS hl)
  rw [hsl, q4 i hi, ← hv H hW]
  exact congrArg some (vpV_range _ _ _ (by omega))
/-- the raw writing of a field -/
theorem v_put0 (C : Ctx f G own cc nL) {k ci i index : Nat} {Cn : String} {T : u_T} {N : Nat} (hk : k < ph.2.2.1) (hs : shp k = ci) (hci : ci < 20) (hc : vwCl[ci]? = some (Cn, T, N)) (hn : nSl ci = N) (hi : i < N) (hin : ∀ w ∈ u_ws Cn T N, w ∈ lw_w) (hnm : ∀ a, a < N → ∀ b, b < N → a ≠ b → (T a).2.1 ≠ (T b).2.1) (ty0 : Nat → FieldType) (hty : ∀ k, k < N → parseFieldDescriptor (T k).2.2.1 = some (ty0 k)) (hfin : (T i).2.2.2 = false) (hlink : Cond.fieldLink own index (T i).1 (T i).2.1 (T i).2.2.1 ∈ lw_w) (hd : decode cc pc = .ok (.putfield index, 3)) (M' : Mm) (v : Value) (hsv : sv G M' k i (rfs ci i) = v) (hoth : ∀ j, j ≠ i → M' k j = M k j) (hM : ∀ a, a ≠ k → M' a = M a) (hR : RefsOk M → RefsOk M') (hnar : narrow (ty0 i) v = v) (hfit : fits (ty0 i) v = true) (kk : Vc f G ph M' (pc + 3) lv rest) : Vc f G ph M pc lv (v :: .ref (gb G + k) :: rest) := by
  obtain ⟨p, l, e, R, s, m, args, below, meth, c, Q⟩ := f
  obtain ⟨hx, hb, hml, ho, hts, hlk, hvk, hbs, hlow⟩ := C
  intro H locs ls hW hS hl
  have hap : ∀ x y, x < N → y < N → x ≠ y → ((gD G).2 ci) x ≠ ((gD G).2 ci) y := va_apart (own := own) hts hin ty0 hty hnm hvk.1 hc
  obtain ⟨r, h1, cell, q1, q2, q3, q4⟩ := hW.obj hk hs hci
  have hr : r = (Cn, T, N) := Option.some.inj (h1.symm.trans hc)
  subst hr
  obtain ⟨hSl, hfc, kC, hkC, hkind⟩ := hvk.cls hc
  obtain ⟨cf, kf, fi, fd, hif, hsl⟩ := hSl i hi
  have hlay := hts _ (hin _ (u_in_lay hi))
  unfold u_lay at hlay
  rw [if_neg (by rw [hfin]; decide)] at hlay
  have hst := (u_facts hfc hkC (u_lays hts hin hi) hif).1
  have h6 := u_store hfc hkC hkind hlay hif (hty i hi) hnar hfit
  refine W.putK hx hb (f := fd) ⟨ho, hts _ hlink, ⟨_, _, _, hif⟩, hst⟩ (by rw [q2]; exact h6) q1 q3 (by rw [hsl]; exact k2_hasslot (q4 i hi)) rfl rfl hd fun H' e1 e2 e3 => ?_
  rw [hsl] at e1 ⊢
  refine kk H' _ ls (hW.step hk ?_ e2 e3 hM (fun i h1 h2 => by omega) (fun hm => hR (hW.2.2.2.2 hm).2)) (hS.put e2 e3 (by unfold Ab; omega)) hl
  rw [En_obj hs hci]
  refine ⟨_, hc, t_OB.to (V := updV (vp_V ((List.range (nSl ci)).map (fun i => sv G M k i (rfs ci i)))) i v) ⟨_, e1, q2, q3, t_set q4 hap hi v⟩ (fun j hj => ?_)⟩
  have hj2 : j < nSl ci := by rw [hn]; exact hj
  rw [vpV_range _ _ _ hj2]
  by_cases hji : j = i
  · subst hji
    rw [hsv]; simp [updV]
  · simp only [updV, if_neg hji]
    rw [vpV_range _ _ _ hj2]
    unfold sv
    rw [hoth j hji]
theorem v_putF0 (C : Ctx f G own cc nL) (hinit : f.2.2.2.2.2.2.2.2.1.name = "<init>") {k ci i index : Nat} {Cn : String} {T : u_T} {N : Nat} (hk : k < ph.2.2.1) (hs : shp k = ci) (hci : ci < 20) (hc : vwCl[ci]? = some (Cn, T, N)) (hn : nSl ci = N) (hi : i < N) (hin : ∀ w ∈ u_ws Cn T N, w ∈ lw_w) (hnm : ∀ a, a < N → ∀ b, b < N → a ≠ b → (T a).2.1 ≠ (T b).2.1) (ty0 : Nat → FieldType) (hty : ∀ k, k < N → parseFieldDescriptor (T k).2.2.1 = some (ty0 k)) (hfin : (T i).2.2.2 = true) (hdecl : (T i).1 = own) (hlink : Cond.fieldLink own index (T i).1 (T i).2.1 (T i).2.2.1 ∈ lw_w) (hd : decode cc pc = .ok (.putfield index, 3)) (M' : Mm) (v : Value) (hsv : sv G M' k i (rfs ci i) = v) (hoth : ∀ j, j ≠ i → M' k j = M k j) (hM : ∀ a, a ≠ k → M' a = M a) (hR : RefsOk M → RefsOk M') (hnar : narrow (ty0 i) v = v) (hfit : fits (ty0 i) v = true) (kk : Vc f G ph M' (pc + 3) lv rest) : Vc f G ph M pc lv (v :: .ref (gb G + k) :: rest) := by
  obtain ⟨p, l, e, R, s, m, args, below, meth, c, Q⟩ := f
  obtain ⟨hx, hb, hml, ho, hts, hlk, hvk, hbs, hlow⟩ := C
  intro H locs ls hW hS hl
  have hap : ∀ x y, x < N → y < N → x ≠ y → ((gD G).2 ci) x ≠ ((gD G).2 ci) y := va_apart (own := own) hts hin ty0 hty hnm hvk.1 hc
  obtain ⟨r, h1, cell, q1, q2, q3, q4⟩ := hW.obj hk hs hci
  have hr : r = (Cn, T, N) := Option.some.inj (h1.symm.trans hc)
  subst hr
  obtain ⟨hSl, hfc, kC, hkC, hkind⟩ := hvk.cls hc
  obtain ⟨cf, kf, fi, fd, hif, hsl⟩ := hSl i hi
  have hlay := hts _ (hin _ (u_in_lay hi))
  unfold u_lay at hlay
  rw [if_pos hfin] at hlay
  have hst := (u_facts hfc hkC (u_lays hts hin hi) hif).1
  have hcf : m.cls = cf := by
    obtain ⟨_, _, c', _, _, _, -, -, hf', -, -, -, hown2, -⟩ := Cond.laysFinal_spec hlay
    have e1 : c' = cf := by have := hif.symm.trans hf'; simp at this; exact this.1.symm
    rw [hdecl] at hown2
    rw [← e1]; exact Option.some.inj (ho.symm.trans hown2)
  have h6 := u_fits hfc hkC hkind (Or.inr hlay) hif (hty i hi) hnar hfit
  refine W.putFinK hx hb ho (hts _ hlink) hif hst hcf hinit (by rw [q2]; exact h6) q1 q3 (by rw [hsl]; exact k2_hasslot (q4 i hi)) rfl rfl hd fun H' e1 e2 e3 => ?_
  rw [hsl] at e1 ⊢
  refine kk H' _ ls (hW.step hk ?_ e2 e3 hM (fun i h1 h2 => by omega) (fun hm => hR (hW.2.2.2.2 hm).2)) (hS.put e2 e3 (by unfold Ab; omega)) hl
  rw [En_obj hs hci]
  refine ⟨_, hc, t_OB.to (V := updV (vp_V ((List.range (nSl ci)).map (fun i => sv G M k i (rfs ci i)))) i v) ⟨_, e1, q2, q3, t_set q4 hap hi v⟩ (fun j hj => ?_)⟩
  have hj2 : j < nSl ci := by rw [hn]; exact hj
  rw [vpV_range _ _ _ hj2]
  by_cases hji : j = i
  · subst hji
    rw [hsv]; simp [updV]
  · simp only [updV, if_neg hji]
    rw [vpV_range _ _ _ hj2]
    unfold sv
    rw [hoth j hji]
theorem v_iald (C : Ctx f G own cc nL) {k L j : Nat} (hk : k < ph.2.2.1) (hs : shp k = 1000 + L) (hj : j < L) (hL : L < 2 ^ 31) (hd : decode cc pc = .ok (.iaload, 1)) (kk : Vc f G ph M (pc + 1) lv (.int (M k j) :: rest)) : Vc f G ph M pc lv (.int (nI j) :: .ref (gb G + k) :: rest) := by
  obtain ⟨p, l, e, R, s, m, args, below, meth, c, Q⟩ := f
  obtain ⟨hx, hb, hml, ho, hts, hlk, hvk, hbs, hlow⟩ := C
  intro H locs ls hW hS hl
  have hin : ¬ (nI j < 0 ∨ L ≤ (nI j).toNatClampNeg) := nI_in hj hL
  refine W.iald (v := .int (M k j)) hx hb (hW.int hk hs) ((hvk.1.2 0 _ rfl).1 L (fun j => .int (M k j))) (fun q => by cases q) (by rw [arrV_size]; exact hin) ?_ rfl rfl hd (kk H locs ls hW hS hl)
  rw [nI_clamp (by omega), arrV_read _ _ hj]
theorem v_iast (C : Ctx f G own cc nL) {k L j : Nat} {x : Int32} (hk : k < ph.2.2.1) (hs : shp k = 1000 + L) (hj : j < L) (hL : L < 2 ^ 31) (hd : decode cc pc = .ok (.iastore, 1)) (kk : Vc f G ph (up2 M k j x) (pc + 1) lv rest) : Vc f G ph M pc lv (.int x :: .int (nI j) :: .ref (gb G + k) :: rest) := by
  obtain ⟨p, l, e, R, s, m, args, below, meth, c, Q⟩ := f
  obtain ⟨hx, hb, hml, ho, hts, hlk, hvk, hbs, hlow⟩ := C
  intro H locs ls hW hS hl
  have hin : ¬ (nI j < 0 ∨ L ≤ (nI j).toNatClampNeg) := nI_in hj hL
  refine W.iast hx hb (hW.int hk hs) ((hvk.1.2 0 _ rfl).1 L (fun j => .int (M k j))) (fun q => by cases q) (by rw [arrV_size]; exact hin) rfl rfl hd fun H1 e1 z oq => ?_
  refine kk H1 _ ls (hW.step hk ?_ z oq (fun a ha => up2_ne M _ _ ha) (fun i h1 h2 => up2_at_ne M _ (by omega)) (fun hm => (hW.2.2.2.2 hm).2.up (Or.inr (Or.inl (by omega))))) (hS.put z oq (by unfold Ab; omega)) hl
  rw [En_int hs]
  show H1[gb G + k]? = some (vp_cell _ _)
  rw [e1, vp_cell_i, nI_clamp (by omega), arrV_store]
  congr 2
  funext q
  by_cases hq : q = j
  · subst hq; rw [up2_at]; simp [updV]
  · rw [up2_at_ne M x hq]; simp [updV, hq]
theorem v_alen (C : Ctx f G own cc nL) {k L : Nat} (hk : k < ph.2.2.1) (hs : shp k = 1000 + L) (hd : decode cc pc = .ok (.arraylength, 1)) (kk : Vc f G ph M (pc + 1) lv (.int (nI L) :: rest)) : Vc f G ph M pc lv (.ref (gb G + k) :: rest) := by
  obtain ⟨p, l, e, R, s, m, args, below, meth, c, Q⟩ := f
  obtain ⟨hx, hb, hml, ho, hts, hlk, hvk, hbs, hlow⟩ := C
  intro H locs ls hW hS hl
  exact W.alen (n := nI L) hx hb (hW.int hk hs) ((hvk.1.2 0 _ rfl).1 L (fun j => .int (M k j))) (by rw [arrV_size]; rfl) rfl rfl hd (kk H locs ls hW hS hl)
/-- an element of an array of references, behind the constructors -/
theorem v_aald (C : Ctx f G own cc nL) {k sh j : Nat} (hm : ph.2.2.2 = 1) (hk : k < 221) (hs : shp k = sh) (h1 : 20 ≤ sh) (h2 : sh < 25) (hj : j < aLen sh) (hL : aLen sh < 2 ^ 31) (k' : Nat) (hk' : k + aOff sh j = k') (hd : decode cc pc = .ok (.aaload, 1)) (kk : Vc f G ph M (pc + 1) lv (.ref (gb G + k') :: rest)) : Vc f G ph M pc lv (.int (nI j) :: .ref (gb G + k) :: rest) := by
  obtain ⟨p, l, e, R, s, m, args, below, meth, c, Q⟩ := f
  obtain ⟨hx, hb, hml, ho, hts, hlk, hvk, hbs, hlow⟩ := C
  intro H locs ls hW hS hl
  have hin : ¬ (nI j < 0 ∨ aLen sh ≤ (nI j).toNatClampNeg) := nI_in hj hL
  have hn := (hW.2.2.2.2 hm).1
  have hne : M k j ≠ 0 := (hW.2.2.2.2 hm).2 k j hk (Or.inr ⟨by omega, by omega, by rw [hs]; exact hj⟩)
  have hty : ∃ ty, (tysOf G)[sh - 19]? = some (gt G (sh - 19), ty) ∧ ty.isReference = true := by
    rcases (show sh = 20 ∨ sh = 21 ∨ sh = 22 ∨ sh = 23 ∨ sh = 24 by omega) with h | h | h | h | h <;> subst h <;> exact ⟨_, rfl, rfl⟩
  obtain ⟨ty, ht, hrf⟩ := hty
  refine W.aald (v := .ref (gb G + k')) (ty := ty) hx hb (hW.arr (by omega) hs h1 (by omega)) ((hvk.1.2 _ _ ht).1 (aLen sh) (fun j => va_rf (ae G M k sh j))) hrf (fun q => by cases q) (by rw [arrV_size]; exact hin) ?_ rfl rfl hd (kk H locs ls hW hS hl)
  rw [nI_clamp (by omega), arrV_read _ _ hj]
  unfold ae
  rw [if_neg hne, if_neg (by omega), hk']
  rfl
end VH
