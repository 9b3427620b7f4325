theorem Wd.push {G : GC} {dk ds n : Nat} {M : Mm} {H H1 : Heap} (h : Wd G (dk, ds, n, 0) M H) (hz : H1.size = gb G + n + 1) (ho : ∀ q, q < gb G + n → H1[q]? = H[q]?) (he : va_at (gD G) vwCl (gb G + n, En G M n) H1) (dk' ds' : Nat) : Wd G (dk', ds', n + 1, 0) M H1 := by
  obtain ⟨h1, h2, h3, ⟨h4, h6⟩, h5⟩ := h
  refine ⟨fun k hk => ?_, ⟨by show gb G + (n + 1) ≤ H1.size; omega, fun _ => by show H1.size = gb G + (n + 1); omega⟩, fun q hq => (ho q (by omega)).trans (h3 q hq), ⟨fun k hk => h4 k (by have : n + 1 ≤ k := hk; show n ≤ k; omega), h6⟩, fun z => absurd z (show ¬ (0 : Nat) = 1 by decide)⟩
  have hk' : k < n + 1 := hk
  by_cases e : k = n
  · subst e; exact he
  · exact (h1 k (show k < n by omega)).kept (ho _ (by omega))
theorem va_S.grow {A : Nat → Prop} {H0 H H1 : Heap} {locs : List Loc} (h : va_S A H0 H locs) (hz : H.size ≤ H1.size) (ho : ∀ q, q < H.size → H1[q]? = H[q]?) : va_S A H0 H1 locs := ⟨Nat.le_trans h.1 hz, fun x h1 h2 => (ho x (Nat.lt_of_lt_of_le h1 h.1)).trans (h.2.1 x h1 h2), h.2.2⟩
theorem Wd.z0 {G : GC} {ph : Ph} {M : Mm} {H : Heap} (h : Wd G ph M H) {k : Nat} (hk : ph.2.2.1 ≤ k) : M k = fun _ => 0 := h.2.2.2.1.1 k hk
section
variable {f : FC} {G : GC} {M : Mm} {own : String} {cc : ByteArray} {nL pc : Nat} {lv : List (Nat × Value)} {rest : List Value}
theorem v_newa (C : Ctx f G own cc nL) {l : Launch} {D DK DS dk ds n : Nat} (hRm : Rm f l D DK DS) (N : Nat) (harr : Cond.arrayClass .int ∈ lw_w) (hs : shp n = 1000 + N) (hN : N ≤ 1000) (hdk : dk + 1 ≤ DK) (hds : ds + N ≤ DS) (hd : decode cc pc = .ok (.newarray .int, 2)) (kk : Vc f G (dk + 1, ds + N, n + 1, 0) M (pc + 2) lv (.ref (gb G + n) :: rest)) : Vc f G (dk, ds, n, 0) M pc lv (.int (nI N) :: rest) := by
  obtain ⟨p, l0, e, R, s, m, args, below, meth, c, Q⟩ := f
  obtain ⟨hx, hb, hml, ho, hts, hlk, hvk, hbs, hlow⟩ := C
  obtain ⟨rfl, r1, r2, r3, r4⟩ := hRm
  dsimp only at r1 r2 r3 r4
  intro H locs ls hW hS hl
  have hz : H.size = gb G + n := hW.2.1.2 (show ¬ (0 : Nat) = 1 by decide)
  have h0 : ¬ nI N < 0 := fun q => nI_in (show N < N + 1 by omega) (show N + 1 < 2 ^ 31 by omega) (Or.inl q)
  refine va_newaK (atype := .int) hx hb (hts _ harr) rfl hd rfl h0 (nI_clamp (by omega)) (by show N * 4 ≤ _; omega) (show dk + 1 ≤ _ by omega) (show ds + N ≤ _ by omega) hz (fun H1 cA e1 z1 o1 hAr hNm => ?_)
  have hcA : cA = gt G 0 := Option.some.inj (hNm.symm.trans (hvk.1.2 0 _ rfl).2)
  subst hcA
  refine kk H1 locs ls (hW.push z1 o1 ?_ _ _) (hS.grow (by omega) (fun q hq => o1 q (by omega))) hl
  rw [En_int hs, hW.z0 (show n ≤ n from Nat.le_refl n)]
  exact e1
theorem v_newc (C : Ctx f G own cc nL) {l : Launch} {D DK DS dk ds n : Nat} (hRm : Rm f l D DK DS) {ci index : Nat} {Cn : String} {T : u_T} {N : Nat} (ty : Nat → FieldType) (hty : ∀ k, k < N → parseFieldDescriptor (T k).2.2.1 = some (ty k)) (hc : vwCl[ci]? = some (Cn, T, N)) (hn : nSl ci = N) (hin : ∀ w ∈ u_ws Cn T N, w ∈ lw_w) (hcl : Cond.classLink own index Cn ∈ lw_w) (hinst : Cond.instantiable Cn N ∈ lw_w) (hini : Cond.initialized Cn ∈ lw_w) (hdf : ∀ j, j < N → defaultValue (ty j) = if rfs ci j = 0 then .int 0 else .null) (hs : shp n = ci) (hci : ci < 20) (hdk : dk + 1 ≤ DK) (hds : ds + N ≤ DS) (hd : decode cc pc = .ok (.new index, 3)) (kk : Vc f G (dk + 1, ds + N, n + 1, 0) M (pc + 3) lv (.ref (gb G + n) :: rest)) : Vc f G (dk, ds, n, 0) M pc lv rest := by
  obtain ⟨p, l0, e, R, s, m, args, below, meth, c, Q⟩ := f
  obtain ⟨hx, hb, hml, ho, hts, hlk, hvk, hbs, hlow⟩ := C
  obtain ⟨rfl, r1, r2, r3, r4⟩ := hRm
  dsimp only at r1 r2 r3 r4
  intro H locs ls hW hS hl
  have hz : H.size = gb G + n := hW.2.1.2 (show ¬ (0 : Nat) = 1 by decide)
  have hKn := hvk.1.1 ci _ hc
  refine W.newcK hx hb ho (hts _ hcl) (hts _ hinst) (hts _ hini) rfl hd (show dk + 1 ≤ _ by omega) (show ds + N ≤ _ by omega) hKn.2.1 hz (fun H1 kC hkC e1 z1 o1 => ?_)
  refine kk H1 locs ls (hW.push z1 o1 ?_ _ _) (hS.grow (by omega) (fun q hq => o1 q (by omega))) hl
  rw [En_obj hs hci]
  refine ⟨_, hc, (u_born ty hts hin hKn hkC e1 hty).to (fun j hj => ?_)⟩
  rw [vpV_range _ _ _ (by rw [hn]; exact hj), hdf j hj]
  unfold sv
  rw [hW.z0 (show n ≤ n from Nat.le_refl n)]
  by_cases h0 : rfs ci j = 0
  · rw [if_pos h0, if_pos h0]
  · rw [if_neg h0, if_neg h0, if_pos rfl]
end
