section
variable {f : FC} {G : GC} {ph : Ph} {M : Mm} {own : String} {cc : ByteArray} {nL pc : Nat} {lv : List (Nat × Value)} {rest : List Value}
theorem nI_nneg {N : Nat} (h : N < 2 ^ 30) : ¬ nI N < 0 := fun q => nI_in (show N < N + 1 by omega) (show N + 1 < 2 ^ 31 by omega) (Or.inl q)
theorem v_anew (C : Ctx f G own cc nL) {l : Launch} {D DK DS dk ds n : Nat} (hRm : Rm f l D DK DS) {sh index : Nat} {Cn : String} (N : Nat) (hs : shp n = sh) (h1 : 20 ≤ sh) (h2 : sh < 1000) (hL : aLen sh = N) (hN : N ≤ 1000) (ht : (tysOf G)[sh - 19]? = some (gt G (sh - 19), .object Cn)) (hcl : Cond.classLink own index Cn ∈ lw_w) (hov : Cn ∈ overC) (hdk : dk + 1 ≤ DK) (hds : ds + N ≤ DS) (hd : decode cc pc = .ok (.anewarray index, 3)) (kk : Vc f G (dk + 1, ds + N, n + 1, 0) M (pc + 3) lv (.ref (gb G + n) :: rest)) : Vc f G (dk, ds, n, 0) M pc lv (.int (nI N) :: rest) := by
  obtain ⟨p, l0, e, R, s, m, args, below, meth, c, Q⟩ := f
  obtain ⟨hx, hb, hml, ho, hts, hlk, hvk, hbs, hlow⟩ := C
  obtain ⟨rfl, r1, r2, r3, r4⟩ := hRm
  dsimp only at r1 r2 r3 r4
  intro H locs ls hW hS hl
  have hz : H.size = gb G + n := hW.2.1.2 (show ¬ (0 : Nat) = 1 by decide)
  have hcl0 : (nI N).toNatClampNeg = N := nI_clamp (by omega)
  have hAO : va_AO Cn s := hvk.2.2.2.2.2.2.2.2.1 _ hov
  refine W.anew hx hb ho (hts _ hcl) (va_AO.use hAO) rfl hd rfl (nI_nneg (by omega)) (by rw [hcl0]; omega) (show dk + 1 ≤ _ by omega) (by rw [hcl0]; show ds + N ≤ _; omega) (fun cA kA comp f1 f2 f3 f4 => ?_)
  obtain ⟨_, _, -, -, -, hq⟩ := (hvk.1.2 _ _ ht).2
  have hcA : cA = gt G (sh - 19) := Option.some.inj (f1.symm.trans hq)
  subst hcA
  rw [hcl0, hz]
  have e1 : (H.push ({ cls := gt G (sh - 19), slots := Array.replicate N .null, vm := .none } : Cell))[gb G + n]? = some (arrV (gt G (sh - 19)) N (fun _ => .null)) := by rw [← hz, Array.getElem?_push_size, ← arrV_new]
  have o1 : ∀ q : Nat, q < gb G + n → (H.push ({ cls := gt G (sh - 19), slots := Array.replicate N .null, vm := .none } : Cell))[q]? = H[q]? := fun q hq => by rw [Array.getElem?_push, if_neg (by omega)]
  have z1 : (H.push ({ cls := gt G (sh - 19), slots := Array.replicate N .null, vm := .none } : Cell)).size = gb G + n + 1 := by rw [Array.size_push, hz]
  generalize H.push ({ cls := gt G (sh - 19), slots := Array.replicate N .null, vm := .none } : Cell) = H1 at e1 o1 z1 ⊢
  refine kk H1 locs ls (hW.push z1 o1 ?_ _ _) (hS.grow (by omega) (fun q hq => o1 q (by omega))) hl
  rw [En_arr hs h1 h2]
  show H1[gb G + n]? = some (arrV (gt G (sh - 19)) (aLen sh) (fun j => va_rf (ae G M n sh j)))
  rw [e1, hL]
  congr 2
  funext j
  unfold ae
  rw [hW.z0 (show n ≤ n from Nat.le_refl n), if_pos rfl]
  rfl
theorem v_aasto (C : Ctx f G own cc nL) {k sh j ci N : Nat} {Cn : String} {T : u_T} (k' : Nat) (hm : ph.2.2.2 = 0) (hk : k < ph.2.2.1) (hs : shp k = sh) (h1 : 20 ≤ sh) (h2 : sh < 25) (ht : (tysOf G)[sh - 19]? = some (gt G (sh - 19), .object Cn)) (hj : j < aLen sh) (hL : aLen sh < 2 ^ 31) (hk' : k + aOff sh j = k') (hkk : k' < ph.2.2.1) (hs' : shp k' = ci) (hci : ci < 20) (hc : vwCl[ci]? = some (Cn, T, N)) (hd : decode cc pc = .ok (.aastore, 1)) (kk : Vc f G ph (up2 M k j (nI 1)) (pc + 1) lv rest) : Vc f G ph M pc lv (.ref (gb G + k') :: .int (nI j) :: .ref (gb G + k) :: rest) := by
  obtain ⟨p, l, e, R, s, m, args, below, meth, c, Q⟩ := f
  obtain ⟨hx, hb, hml, ho, hts, hlk, hvk, hbs, hlow⟩ := C
  intro H locs ls hW hS hl
  obtain ⟨r', hr', cellV, g1, g2, g3, -⟩ := hW.obj hkk hs' hci
  have hcls := (hvk.1.1 ci _ hc).2
  obtain ⟨kA, comp, k1, k2, k3, -⟩ := (hvk.1.2 _ _ ht).2
  have hcomp : comp = (gD G).1 ci := Option.some.inj (k3.symm.trans hcls.1)
  subst hcomp
  obtain ⟨kC, hkC, -⟩ := hcls.2
  have hin : ¬ (nI j < 0 ∨ aLen sh ≤ (nI j).toNatClampNeg) := nI_in hj hL
  refine W.aast hx hb (hW.arr hk hs h1 (by omega)) (fun q h => by cases h) (fun h => by cases h) k1 k2 rfl hkC ⟨fun q => hin (Or.inl q), by show _ < (arrV _ _ _).slots.size; rw [arrV_size, nI_clamp (by omega)]; exact hj⟩ g1 (fun q h => by rw [g3] at h; cases h) (by rw [g2]; exact hkC) (by rw [g2]; exact va_assign hcls) rfl rfl hd fun H1 e1 z oq => ?_
  refine kk H1 _ ls (hW.step hk ?_ z oq (fun a ha => up2_ne M _ _ ha) (fun i q1 q2 => by omega) (fun hm1 => by rw [hm] at hm1; exact absurd hm1 (by decide))) (hS.put z oq (by unfold Ab; omega)) hl
  rw [En_arr hs h1 (by omega)]
  show H1[gb G + k]? = some (arrV (gt G (sh - 19)) (aLen sh) (fun q => va_rf (ae G (up2 M k j (nI 1)) k sh q)))
  rw [e1, nI_clamp (by omega), arrV_store]
  congr 2
  funext q
  by_cases hq : q = j
  · subst hq
    have e2 : ae G (up2 M k q (nI 1)) k sh q = some (gb G + k') := by
      unfold ae
      rw [up2_at, if_neg (show ¬ nI 1 = 0 by decide), if_neg (by omega), hk']
    rw [e2]
    simp [updV, va_rf]
  · have e2 : ae G (up2 M k j (nI 1)) k sh q = ae G M k sh q := by
      unfold ae
      rw [up2_at_ne _ _ hq]
    rw [e2]
    simp [updV, hq]
end
