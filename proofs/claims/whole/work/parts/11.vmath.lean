section VM
variable {f : FC} {G : GC} {M : Mm} {own : String} {cc : ByteArray} {nL pc : Nat} {lv : List (Nat × Value)} {rest : List Value} {l : Launch} {D index : Nat}
theorem v_mmax (C : Ctx f G own cc nL) (hRm : Rm f l D 0 0) (hD : 1 ≤ D) (hlink : Cond.methodLink own index yJ9_max_7cf53 ∈ lw_w) {x y : Int32} (hrest : (rest.map fun v => v.category).sum ≤ 8) (hd : decode cc pc = .ok (.invokestatic index, 3)) (kk : Vc f G NPh M (pc + 3) lv (.int (if x < y then y else x) :: rest)) : Vc f G NPh M pc lv (.int y :: .int x :: rest) := by
  obtain ⟨p, l0, e, R, s, m, args, below, meth, c, Q⟩ := f
  obtain ⟨hx, hb, hml, ho, hts, hlk, hvk, hbs, hlow⟩ := C
  intro H locs ls hW hS hl
  obtain ⟨rfl, r1, r2, r3, r4⟩ := hRm
  dsimp only at r1 r2 r3 r4
  have cw := cw_J9_max_7cf53
  exact va_mmax hx hb (hml.trans (hml.symm.trans hl.1.symm)) ho (hts _ hlink) (hts _ st_J9_max_7cf53) (hts _ cw.1) (hts _ cw.2.1) (by omega) (by omega) (Nat.zero_le _) (Nat.zero_le _) hd (kk H locs ls hW hS hl)
theorem v_mmin (C : Ctx f G own cc nL) (hRm : Rm f l D 0 0) (hD : 1 ≤ D) (hlink : Cond.methodLink own index yJ9_min_7cf53 ∈ lw_w) {x y : Int32} (hrest : (rest.map fun v => v.category).sum ≤ 8) (hd : decode cc pc = .ok (.invokestatic index, 3)) (kk : Vc f G NPh M (pc + 3) lv (.int (if y < x then y else x) :: rest)) : Vc f G NPh M pc lv (.int y :: .int x :: rest) := by
  obtain ⟨p, l0, e, R, s, m, args, below, meth, c, Q⟩ := f
  obtain ⟨hx, hb, hml, ho, hts, hlk, hvk, hbs, hlow⟩ := C
  intro H locs ls hW hS hl
  obtain ⟨rfl, r1, r2, r3, r4⟩ := hRm
  dsimp only at r1 r2 r3 r4
  have cw := cw_J9_min_7cf53
  exact va_mmin hx hb (hml.trans (hml.symm.trans hl.1.symm)) ho (hts _ hlink) (hts _ st_J9_min_7cf53) (hts _ cw.1) (hts _ cw.2.1) (by omega) (by omega) (Nat.zero_le _) (Nat.zero_le _) hd (kk H locs ls hW hS hl)
theorem v_mabs (C : Ctx f G own cc nL) (hRm : Rm f l D 0 0) (hD : 1 ≤ D) (hlink : Cond.methodLink own index yJ9_abs_0f7a4 ∈ lw_w) {x : Int32} (hrest : (rest.map fun v => v.category).sum ≤ 8) (hd : decode cc pc = .ok (.invokestatic index, 3)) (kk : Vc f G NPh M (pc + 3) lv (.int (if 0 ≤ x then x else 0 - x) :: rest)) : Vc f G NPh M pc lv (.int x :: rest) := by
  obtain ⟨p, l0, e, R, s, m, args, below, meth, c, Q⟩ := f
  obtain ⟨hx, hb, hml, ho, hts, hlk, hvk, hbs, hlow⟩ := C
  intro H locs ls hW hS hl
  obtain ⟨rfl, r1, r2, r3, r4⟩ := hRm
  dsimp only at r1 r2 r3 r4
  have cw := cw_J9_abs_0f7a4
  exact va_mabs hx hb (hml.trans (hml.symm.trans hl.1.symm)) ho (hts _ hlink) (hts _ st_J9_abs_0f7a4) (hts _ cw.1) (hts _ cw.2.1) (by omega) (by omega) (Nat.zero_le _) (Nat.zero_le _) hd (kk H locs ls hW hS hl)
theorem v_copy (C : Ctx f G own cc nL) (hRm : Rm f l D 0 0) (hD : 1 ≤ D) (hlink : Cond.methodLink own index arraycopyName ∈ lw_w) (hnat : Cond.native arraycopyName ∈ lw_w) (hstat : Cond.static arraycopyName ∈ lw_w) (hini : Cond.initialized "java/lang/System" ∈ lw_w) {k0 k1 L0 L1 sp dp n : Nat} (hk0 : k0 < 221) (hs0 : shp k0 = 1000 + L0) (hk1 : k1 < 221) (hs1 : shp k1 = 1000 + L1) (h4 : sp + n ≤ L0) (h5 : dp + n ≤ L1) (hL0 : L0 < 2 ^ 31) (hL1 : L1 < 2 ^ 31) (hrest : (rest.map fun v => v.category).sum ≤ 8) (hd : decode cc pc = .ok (.invokestatic index, 3))
    (kk : Vc f G NPh (upA M k1 (va_cpy (M k0) (M k1) sp dp n)) (pc + 3) lv rest) : Vc f G NPh M pc lv (.int (nI n) :: .int (nI dp) :: .ref (gb G + k1) :: .int (nI sp) :: .ref (gb G + k0) :: rest) := by
  obtain ⟨p, l0, e, R, s, m, args, below, meth, c, Q⟩ := f
  obtain ⟨hx, hb, hml, ho, hts, hlk, hvk, hbs, hlow⟩ := C
  intro H locs ls hW hS hl
  obtain ⟨rfl, r1, r2, r3, r4⟩ := hRm
  dsimp only at r1 r2 r3 r4
  have hn := (hW.2.2.2.2 rfl).1
  have hP : va_P (gD G) vwCl ((List.range 221).map (fun k => (gb G + k, En G M k))) H := fun k q hq => by
    rw [List.getElem?_map] at hq
    cases hr : (List.range 221)[k]? with
    | none => rw [hr] at hq; cases hq
    | some a => rw [hr] at hq; cases hq; exact hW.1 a (List.mem_range.mp (List.mem_of_getElem? hr))
  have hDD : va_D (Ab G) ((List.range 221).map (fun k => (gb G + k, En G M k))) := by
    have key : ∀ (i : Nat) (q : Nat × va_E), ((List.range 221).map (fun k => (gb G + k, En G M k)))[i]? = some q → q.1 = gb G + i := fun i q hq => by
      rw [List.getElem?_map] at hq
      cases hr : (List.range 221)[i]? with
      | none => rw [hr] at hq; cases hq
      | some a =>
        rw [hr] at hq; cases hq
        have h9 := List.getElem?_eq_some_iff.mp hr
        obtain ⟨h9, h10⟩ := h9
        rw [List.getElem_range] at h10
        rw [h10]
    refine ⟨fun i j p q hi hj hpq => ?_, fun k q hq => ?_⟩
    · have h1 := key i p hi
      have h2 := key j q hj
      omega
    · have h1 := key k q hq
      unfold Ab; omega
  have hget : ∀ k, k < 221 → ((List.range 221).map (fun k => (gb G + k, En G M k)))[k]? = some (gb G + k, En G M k) := fun k hk => range_map_get 221 k _ hk
  have e0 := hget k0 hk0
  have e1 := hget k1 hk1
  rw [En_int hs0] at e0
  rw [En_int hs1] at e1
  refine va_copyi (t0 := 0) (t1 := 0) hx hb (hml.trans (hml.symm.trans hl.1.symm)) ho (hts _ hlink) (hts _ hnat) (hts _ hstat) (hts _ hini) hvk.1 hP hDD hS k0 k1 e0 e1 rfl rfl rfl (nI_pos (by omega)) (nI_pos (by omega)) (nI_pos (by omega)) (by rw [nI_clamp (by omega), nI_clamp (by omega)]; exact h4) (by rw [nI_clamp (by omega), nI_clamp (by omega)]; exact h5) (fun i hi => rfl) (by omega) (by rw [show nativeFrameWords "java/lang/System" "arraycopy" 5 = 7 from by decide +kernel]; omega) hd (fun H1 locs1 hP1 hD1 hS1 => ?_)
  rw [nI_clamp (by omega), nI_clamp (by omega), nI_clamp (by omega)] at hP1
  refine kk H1 locs1 ls ⟨fun k hk => ?_, ?_, fun q hq => ?_, ⟨fun a ha => ?_, fun a i ha hi => ?_⟩, fun _ => ⟨rfl, (hW.2.2.2.2 rfl).2.upA (by omega)⟩⟩ hS1 hl
  · by_cases h : k = k1
    · subst h
      rw [En_int hs1, upA_eq]
      refine hP1 k _ ?_
      rw [List.getElem?_set_self (by simpa using hk1)]
    · rw [En_congr (upA_ne M _ h)]
      refine hP1 k _ ?_
      rw [List.getElem?_set_ne (fun q => h q.symm)]
      exact hget k hk
  · have h9 : gb G + 220 < H1.size := by
      by_cases h : 220 = k1
      · subst h
        exact (hP1 220 _ (by rw [List.getElem?_set_self (by simp)])).lt
      · exact (hP1 220 _ (by rw [List.getElem?_set_ne (fun q => h q.symm)]; exact hget 220 (by decide))).lt
    exact ⟨by show gb G + 221 ≤ _; omega, fun h => absurd rfl h⟩
  · have h1 := hS1.2.1 q (by omega) (by unfold Ab; omega)
    rw [h1]; exact hlow q hq
  · rw [upA_ne M _ (by omega)]; exact hW.2.2.2.1.1 a ha
  · by_cases h : a = k1
    · subst h
      rw [upA_eq]
      unfold va_cpy
      rw [if_neg (by omega)]
      exact hW.2.2.2.1.2 a i ha hi
    · rw [upA_ne M _ h]; exact hW.2.2.2.1.2 a i ha hi
end VM
theorem ml_X9_281 : Cond.methodLink RX9 281 arraycopyName ∈ lw_w := lw_in (List.mem_of_getElem? (i := 912) (by decide +kernel)) rfl
theorem ml_X0_37 : Cond.methodLink RX0 37 arraycopyName ∈ lw_w := lw_in (List.mem_of_getElem? (i := 814) (by decide +kernel)) rfl
theorem ml_X4_26 : Cond.methodLink RX4 26 arraycopyName ∈ lw_w := lw_in (List.mem_of_getElem? (i := 825) (by decide +kernel)) rfl
theorem ml_X7_22 : Cond.methodLink RX7 22 arraycopyName ∈ lw_w := lw_in (List.mem_of_getElem? (i := 700) (by decide +kernel)) rfl
theorem ml_X8_207 : Cond.methodLink RX8 207 arraycopyName ∈ lw_w := lw_in (List.mem_of_getElem? (i := 758) (by decide +kernel)) rfl
theorem ac_nat : Cond.native arraycopyName ∈ lw_w := lw_in (List.mem_of_getElem? (i := 702) (by decide +kernel)) rfl
theorem ac_stat : Cond.static arraycopyName ∈ lw_w := lw_in (List.mem_of_getElem? (i := 701) (by decide +kernel)) rfl
theorem ac_ini : Cond.initialized "java/lang/System" ∈ lw_w := lw_in (List.mem_of_getElem? (i := 74) (by decide +kernel)) rfl
