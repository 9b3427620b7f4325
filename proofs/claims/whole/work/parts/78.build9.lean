theorem v_ph {f : FC} {G : GC} {M : Mm} {pc : Nat} {lv : List (Nat × Value)} {st : List Value} {dk ds n md dk' ds' n' : Nat} (h1 : dk = dk') (h2 : ds = ds') (h3 : n = n') (kk : Vc f G (dk', ds', n', md) M pc lv st) : Vc f G (dk, ds, n, md) M pc lv st := by
  subst h1; subst h2; subst h3; exact kk
theorem outer_arrV (cA : ClassId) (N h : Nat) : ∀ i, Jvm.Free.Multi.outerC cA N h i = arrV cA N (fun j => if j < i then .ref (h + 1 + j) else .null)
  | 0 => by
    show ({ cls := cA, slots := Array.replicate N .null, vm := .none } : Cell) = _
    rw [arrV_new]
    congr 1
  | i + 1 => by
    show (Jvm.Free.Multi.outerC cA N h i).setSlot i (.ref (h + 1 + i)) = _
    rw [outer_arrV cA N h i, arrV_store]
    congr 1
    funext j
    unfold updV
    by_cases e : j = i
    · subst e; rw [if_pos rfl, if_pos (Nat.lt_succ_self _)]
    · rw [if_neg e]
      show (if j < i then Value.ref (h + 1 + j) else Value.null) = if j < i + 1 then Value.ref (h + 1 + j) else Value.null
      by_cases hj : j < i
      · rw [if_pos hj, if_pos (by omega)]
      · rw [if_neg hj, if_neg (by omega)]
/-- the memory behind a two-dimensional array of ten: its ten rows are there -/
def mvM (M : Mm) (n : Nat) : Mm := fun a => if a = n then (fun j => if j < 10 then nI 1 else 0) else M a
theorem mvM_eq (M : Mm) (n : Nat) : mvM M n n = fun j => if j < 10 then nI 1 else 0 := if_pos rfl
theorem mvM_ne (M : Mm) {n a : Nat} (h : a ≠ n) : mvM M n a = M a := if_neg h
theorem Wd.manew {G : GC} {dk ds n : Nat} {M : Mm} {H H1 : Heap} (h : Wd G (dk, ds, n, 0) M H) (hs : shp n = 24) (hs2 : ∀ j, j < 10 → shp (n + 1 + j) = 1000 + 10) (hz : H1.size = gb G + n + 1 + 10) (ho : ∀ q, q < gb G + n → H1[q]? = H[q]?)
    (e1 : H1[gb G + n]? = some (arrV (gt G 5) 10 (fun j => if j < 10 then .ref (gb G + n + 1 + j) else .null))) (e2 : ∀ j, j < 10 → H1[gb G + n + 1 + j]? = some (arrV (gt G 0) 10 (fun _ => .int 0))) (dk' ds' : Nat) : Wd G (dk', ds', n + 11, 0) (mvM M n) H1 := by
  obtain ⟨h1, h2, h3, ⟨h4, h6⟩, h5⟩ := h
  refine ⟨fun k hk => ?_, ⟨by show gb G + (n + 11) ≤ H1.size; omega, fun _ => by show H1.size = gb G + (n + 11); omega⟩, fun q hq => (ho q (by omega)).trans (h3 q hq), ⟨fun k hk => ?_, fun k i hk hi => ?_⟩, fun z => absurd z (show ¬ (0 : Nat) = 1 by decide)⟩
  · have hk' : k < n + 11 := hk
    rcases Nat.lt_or_ge k n with q | q
    · rw [En_congr (mvM_ne M (by omega))]
      exact (h1 k q).kept (ho _ (by omega))
    rcases Nat.eq_or_lt_of_le q with q' | q'
    · subst q'
      rw [En_arr hs (by decide) (by decide)]
      show H1[gb G + n]? = some (arrV (gt G 5) 10 (fun j => va_rf (ae G (mvM M n) n 24 j)))
      rw [e1]
      congr 2
      funext j
      show (if j < 10 then Value.ref (gb G + n + 1 + j) else Value.null) = va_rf (ae G (mvM M n) n 24 j)
      by_cases hj : j < 10
      · have h1 : mvM M n n j = nI 1 := by rw [mvM_eq]; exact if_pos hj
        have h2 : ae G (mvM M n) n 24 j = some (gb G + (n + aOff 24 j)) := by
          unfold ae
          rw [h1, if_neg (show ¬ nI 1 = 0 by decide), if_neg (show ¬ (24 : Nat) = 25 by decide)]
        rw [h2, if_pos hj]
        show Value.ref _ = Value.ref _
        congr 1
        show _ = gb G + (n + (1 + 1 * j))
        omega
      · have h1 : mvM M n n j = 0 := by rw [mvM_eq]; exact if_neg hj
        have h2 : ae G (mvM M n) n 24 j = none := by
          unfold ae
          rw [h1, if_pos rfl]
        rw [h2, if_neg hj]
        rfl
    · obtain ⟨j, rfl⟩ : ∃ j, k = n + 1 + j := ⟨k - (n + 1), by omega⟩
      rw [En_int (hs2 j (by omega)), mvM_ne M (by omega), h4 (n + 1 + j) (show n ≤ n + 1 + j by omega)]
      show H1[gb G + (n + 1 + j)]? = some (arrV (gt G 0) 10 (fun _ => .int 0))
      rw [← e2 j (by omega), show gb G + (n + 1 + j) = gb G + n + 1 + j by omega]
  · have hk' : n + 11 ≤ k := hk
    rw [mvM_ne M (by omega)]
    exact h4 k (show n ≤ k by omega)
  · have hne : k ≠ n := fun q => by subst q; omega
    rw [mvM_ne M hne]
    exact h6 k i hk hi
theorem v_manew {f : FC} {G : GC} {M : Mm} {own : String} {cc : ByteArray} {nL pc : Nat} {lv : List (Nat × Value)} {rest : List Value} (C : Ctx f G own cc nL) {l : Launch} {D DK DS dk ds n index : Nat} (hRm : Rm f l D DK DS) (hs : shp n = 24) (hs2 : ∀ j, j < 10 → shp (n + 1 + j) = 1000 + 10) (hcl : Cond.classLink own index "[[I" ∈ lw_w) (hdk : dk + 11 ≤ DK) (hds : ds + 110 ≤ DS) (hd : decode cc pc = .ok (.multianewarray index 2, 4))
    (kk : Vc f G (dk + 11, ds + 110, n + 11, 0) (mvM M n) (pc + 4) lv (.ref (gb G + n) :: rest)) : Vc f G (dk, ds, n, 0) M pc lv (.int (nI 10) :: .int (nI 10) :: rest) := by
  obtain ⟨p, l0, e, R, s, m, args, below, meth, c, Q⟩ := f
  obtain ⟨hx, hb, hml, ho, hts, hlk, hvk, hbs, hlow⟩ := C
  obtain ⟨rfl, r1, r2, r3, r4⟩ := hRm
  dsimp only at r1 r2 r3 r4
  intro H locs ls hW hS hl
  have hz : H.size = gb G + n := hW.2.1.2 (show ¬ (0 : Nat) = 1 by decide)
  have eN : ("[" ++ (FieldType.array .int).toString) = "[[I" := by decide +kernel
  have c10 : (nI 10).toNatClampNeg = 10 := nI_clamp (by decide)
  have f5 : s.vm.findClass ("[" ++ (FieldType.array .int).toString) = some (gt G 5) := (hvk.1.2 5 _ rfl).2
  have f0 : s.vm.findClass ("[" ++ FieldType.int.toString) = some (gt G 0) := (hvk.1.2 0 _ rfl).2
  refine W_manew (N := 10) (K := 10) hx hb ho (by rw [eN]; exact hts _ hcl) (va_AI.use hvk.2.2.2.2.2.2.2.2.2) (hts _ ai_arr) rfl hd rfl (nI_nneg (by decide)) (nI_nneg (by decide)) c10 c10 (by decide) (by decide) (by decide) rfl rfl (show dk + (1 + 10) ≤ _ by omega) (show ds + (10 + 10 * 10) ≤ _ by omega) hz (fun H1 cA comp g1 g2 z1 o1 e1 e2 => ?_)
  have hcA : cA = gt G 5 := Option.some.inj (g1.symm.trans f5)
  have hco : comp = gt G 0 := Option.some.inj (g2.symm.trans f0)
  subst hcA; subst hco
  rw [outer_arrV] at e1
  refine kk H1 locs ls (hW.manew hs hs2 z1 o1 e1 (fun j hj => ?_) _ _) (hS.grow (by omega) (fun q hq => o1 q (by omega))) hl
  rw [e2 j hj]
  show some ({ cls := gt G 0, slots := Array.replicate 10 (.int 0), vm := .none } : Cell) = _
  rw [arrV_new]
/-- the memory of a yard at k as it is built -/
def yB (M : Mm) (k : Nat) : Mm := up2 (mvM (up2 (up2 (up2 (up2 (up2 (up2 (up2 (up2 (up2 M k 0 (nI 1)) k 1 (nI 1)) k 2 (nI 1)) (k + 4) 0 (nI 1)) k 3 (nI 1)) (k + 6) 0 (nI 1)) k 4 (nI 1)) k 9 (nI 1)) k 10 (nI 1)) (k + 9)) k 11 (nI 1)
def yCh (M : Mm) (k : Nat) : Nat → Mm
  | 0 => M
  | i + 1 => up2 (up2 (up2 (up2 (yCh M k i) (k + 20 + 3 * i) 4 (-1)) (k + 20 + 3 * i) 6 (nI 1)) (k + 20 + 3 * i) 7 (nI 1)) (k + 1) i (nI 1)
def yHp (M : Mm) (k : Nat) : Nat → Mm
  | 0 => M
  | i + 1 => up2 (up2 (yHp M k i) (k + 50 + i) 2 (nI 30)) (k + 2) i (nI 1)
def yTx (M : Mm) (k : Nat) : Nat → Mm
  | 0 => M
  | i + 1 => up2 (up2 (up2 (yTx M k i) (k + 55 + 3 * i) 0 (nI 1)) (k + 55 + 3 * i) 1 (nI 1)) (k + 3) i (nI 1)
def yMm (M : Mm) (k : Nat) : Mm := yTx (yHp (yCh (yB M k) k 10) k 5) k 2
theorem yCh_own (M : Mm) (k : Nat) : ∀ i, yCh M k i k = M k
  | 0 => rfl
  | i + 1 => by
    show up2 (up2 (up2 (up2 (yCh M k i) (k + 20 + 3 * i) 4 (-1)) (k + 20 + 3 * i) 6 (nI 1)) (k + 20 + 3 * i) 7 (nI 1)) (k + 1) i (nI 1) k = _
    rw [up2_ne _ _ _ (by omega), up2_ne _ _ _ (by omega), up2_ne _ _ _ (by omega), up2_ne _ _ _ (by omega), yCh_own M k i]
theorem yHp_own (M : Mm) (k : Nat) : ∀ i, yHp M k i k = M k
  | 0 => rfl
  | i + 1 => by
    show up2 (up2 (yHp M k i) (k + 50 + i) 2 (nI 30)) (k + 2) i (nI 1) k = _
    rw [up2_ne _ _ _ (by omega), up2_ne _ _ _ (by omega), yHp_own M k i]
theorem yTx_own (M : Mm) (k : Nat) : ∀ i, yTx M k i k = M k
  | 0 => rfl
  | i + 1 => by
    show up2 (up2 (up2 (yTx M k i) (k + 55 + 3 * i) 0 (nI 1)) (k + 55 + 3 * i) 1 (nI 1)) (k + 3) i (nI 1) k = _
    rw [up2_ne _ _ _ (by omega), up2_ne _ _ _ (by omega), up2_ne _ _ _ (by omega), yTx_own M k i]
theorem yB_own (M : Mm) (k : Nat) {j : Nat} (hj : j < 3) : yB M k k j = nI 1 := by
  unfold yB
  rw [up2_at_ne _ _ (by omega), mvM_ne _ (by omega), up2_at_ne _ _ (by omega), up2_at_ne _ _ (by omega), up2_at_ne _ _ (by omega), up2_ne _ _ _ (by omega), up2_at_ne _ _ (by omega), up2_ne _ _ _ (by omega)]
  rcases (show j = 0 ∨ j = 1 ∨ j = 2 by omega) with h | h | h <;> subst h
  · rw [up2_at_ne _ _ (by decide), up2_at_ne _ _ (by decide), up2_at]
  · rw [up2_at_ne _ _ (by decide), up2_at]
  · rw [up2_at]
