abbrev yInv (Y : Nat → Int32) (n hN : Nat) : Prop := YOk Y n hN ∧ yI Y n ∧ yJ Y n
theorem yI.t2 {Y Y' : Nat → Int32} {n : Nat} (h : yI Y n) (ha : ∀ c, c < n → Y' (7 + 6 * c + 4) = Y (7 + 6 * c + 4)) (hl : ∀ k, k < 5 → Y' (167 + 4 * k + 0) = Y (167 + 4 * k + 0) ∧ Y' (167 + 4 * k + 3) = Y (167 + 4 * k + 3)) : yI Y' n :=
  ⟨fun k hk hf => by rw [(hl k hk).2]; exact h.1 k hk (fun q => hf ((fewP_congr ha (hl k hk).1).mpr q)), fun k hk => by rw [(hl k hk).2]; exact h.2 k hk⟩
theorem yInv.up {Y : Nat → Int32} {n hN : Nat} (h : yInv Y n hN) {i : Nat} {v : Int32} (h1 : YOk (upd Y i v) n hN) (ha : ∀ c, c < n → i ≠ 7 + 6 * c + 4 ∧ i ≠ 7 + 6 * c + 3) (hf : ∀ k, k < 5 → i ≠ 167 + 4 * k + 0 ∧ i ≠ 167 + 4 * k + 3) (hs : ∀ c, c < 10 → i ≠ 67 + 10 * c + c) (hb : ∀ c, n ≤ c → c < 10 → i ≠ 7 + 6 * c + 5) (ht : i ≠ 4 ∧ i < 237) : yInv (upd Y i v) n hN :=
  ⟨h1, h.2.1.t2 (fun c hc => upd_ne _ _ (Ne.symm (ha c hc).1)) (fun k hk => ⟨upd_ne _ _ (Ne.symm (hf k hk).1), upd_ne _ _ (Ne.symm (hf k hk).2)⟩), h.2.2.to (fun c hc => upd_ne _ _ (Ne.symm (ha c hc).2)) (fun c hc => upd_ne _ _ (Ne.symm (hs c hc))) (fun c h1 h2 => upd_ne _ _ (Ne.symm (hb c h1 h2))) (fun j hj => upd_ne _ _ (by omega))⟩
theorem km_div : ∀ k, k ≤ 699 → nI k / nI 100 = nI (k / 100) := by decide +kernel
theorem childY_ne (Y : Nat → Int32) (n : Nat) (km age mind : Int32) {i : Nat} (h : i ≠ 0 ∧ ¬ (7 + 6 * n ≤ i ∧ i < 7 + 6 * n + 6)) : childY Y n km age mind i = Y i := by
  unfold childY
  rw [upd_ne _ _ (by omega), upd_ne _ _ (by omega), upd_ne _ _ (by omega), upd_ne _ _ (by omega), upd_ne _ _ (by omega), upd_ne _ _ (by omega), upd_ne _ _ (by omega)]
theorem iv_child {Y : Nat → Int32} {n hN : Nat} (h : yInv Y n hN) (hn : n < 10) {km age mind : Int32} {κ : Nat} (hκ : κ < 7) (hk : km / nI 100 = nI κ) (hm : mind = nI 0 ∨ mind = nI 1) : yInv (childY Y n km age mind) (n + 1) hN := by
  have g : ∀ i, i ≠ 0 ∧ ¬ (7 + 6 * n ≤ i ∧ i < 7 + 6 * n + 6) → childY Y n km age mind i = Y i := fun i hi => childY_ne Y n km age mind hi
  have g0 : childY Y n km age mind 0 = nI (n + 1) := upd_eq _ _ _
  have g1 : childY Y n km age mind (7 + 6 * n + 0) = nI κ := by
    unfold childY
    rw [upd_ne _ _ (by omega), upd_ne _ _ (by omega), upd_ne _ _ (by omega), upd_ne _ _ (by omega), upd_ne _ _ (by omega), upd_ne _ _ (by omega), upd_eq, hk]
  have g3 : childY Y n km age mind (7 + 6 * n + 3) = mind := by
    unfold childY
    rw [upd_ne _ _ (by omega), upd_ne _ _ (by omega), upd_ne _ _ (by omega), upd_eq]
  have g4 : childY Y n km age mind (7 + 6 * n + 4) = -1 := by
    unfold childY
    rw [upd_ne _ _ (by omega), upd_ne _ _ (by omega), upd_eq]
  generalize childY Y n km age mind = Y' at g g0 g1 g3 g4 ⊢
  obtain ⟨⟨⟨a, b, c, d⟩, e, f, t, q4, q5⟩, hI, hJ⟩ := h
  have hms : ∀ k, k < 5 → mskA Y' (nI k) (n + 1) = mskA Y (nI k) n := fun k hk => by
    show mskA Y' (nI k) n + (if Y' (7 + 6 * n + 4) = nI k then 2 ^ n else 0) = _
    rw [if_neg (by rw [g4]; exact fun z => nI_m1 k hk z.symm), Nat.add_zero]
    exact msk_congr (fun d hd' => g _ (by omega))
  refine ⟨⟨⟨g0, by omega, (g 1 (by omega)).trans c, d⟩, fun q hq => ?_, fun q hq => ?_, fun u hu => ?_, ?_, ?_⟩, ⟨fun k hk hf => ?_, fun k hk => ?_⟩, ⟨fun q hq => ?_, fun q hq => ?_, fun q h1 h2 => ?_, fun k hk => ?_, fun k hk => ?_⟩⟩
  · by_cases hqn : q = n
    · subst hqn; exact ⟨κ, hκ, g1⟩
    · rw [g _ (by omega)]; exact e q (by omega)
  · by_cases hqn : q = n
    · subst hqn; exact Or.inl g4
    · rw [g _ (by omega)]; exact f q (by omega)
  · obtain ⟨len, hok⟩ := t u hu
    exact ⟨len, hok.congr (fun i hi => g i (by omega))⟩
  · rw [g 4 (by omega)]; exact q4
  · rw [g 5 (by omega)]; exact q5
  · rw [g _ (by omega)]
    refine hI.1 k hk (fun z => hf ?_)
    unfold fewP popA at z ⊢
    rw [hms k hk, g _ (by omega)]; exact z
  · rw [g _ (by omega)]; exact hI.2 k hk
  · by_cases hqn : q = n
    · subst hqn; rw [g3]; exact hm
    · rw [g _ (by omega)]; exact hJ.1 q (by omega)
  · rw [g _ (by omega)]; exact hJ.2.1 q hq
  · rw [g _ (by omega)]; exact hJ.2.2.1 q (by omega) h2
  · rw [cN_eq (g 4 (by omega))] at hk
    rw [g _ (by omega)]; exact hJ.2.2.2.1 k hk
  · rw [cN_eq (g _ (by omega))] at hk
    rw [cN_eq (g _ (by omega))]; exact hJ.2.2.2.2 k hk
theorem i_child {Y : Nat → Int32} {n hN : Nat} (h : yInv Y n hN) (km age mind : Int32) : yInv (childS Y n km age mind).2.2 (if (childS Y n km age mind).1 = 0 then n + 1 else n) hN := by
  unfold childS
  by_cases h1 : nI 0 ≤ km ∧ km ≤ nI 699
  · rw [if_pos h1]
    by_cases h2 : nI 0 ≤ age ∧ age ≤ nI 99
    · rw [if_pos h2]
      by_cases h3 : nI 0 ≤ mind ∧ mind ≤ nI 1
      · rw [if_pos h3]
        by_cases h4 : n = 10
        · rw [if_pos h4]; exact h
        · rw [if_neg h4]
          obtain ⟨k, hk, rfl⟩ := within_nat (by decide) h1
          obtain ⟨m, hm, rfl⟩ := within_nat (by decide) h3
          have := h.1.1.2.1
          exact iv_child h (by omega) (κ := k / 100) (by omega) (km_div k hk) (by rcases (show m = 0 ∨ m = 1 by omega) with z | z <;> subst z <;> simp)
      · rw [if_neg h3]; exact h
    · rw [if_neg h2]; exact h
  · rw [if_neg h1]; exact h
theorem iv_mind {Y : Nat → Int32} {n hN : Nat} (h : yInv Y n hN) {c : Nat} (hc : c < n) {v : Int32} (hv : v = nI 0 ∨ v = nI 1) : yInv (upd Y (7 + 6 * c + 3) v) n hN := by
  have h10 := h.1.1.2.1
  refine ⟨yk_upd h.1 _ (by omega) (fun _ _ => by omega) (fun _ _ => by omega), h.2.1.t2 (fun d hd => upd_ne _ _ (by omega)) (fun k hk => ⟨upd_ne _ _ (by omega), upd_ne _ _ (by omega)⟩), ⟨fun q hq => ?_, fun q hq => ?_, fun q h1 h2 => ?_, fun k hk => ?_, fun k hk => ?_⟩⟩
  · by_cases z : q = c
    · subst z; rw [upd_eq]; exact hv
    · rw [upd_ne _ _ (by omega)]; exact h.2.2.1 q hq
  · rw [upd_ne _ _ (by omega)]; exact h.2.2.2.1 q hq
  · rw [upd_ne _ _ (by omega)]; exact h.2.2.2.2.1 q h1 h2
  · rw [cN_eq (upd_ne _ _ (by omega))] at hk
    rw [upd_ne _ _ (by omega)]; exact h.2.2.2.2.2.1 k hk
  · rw [cN_eq (upd_ne _ _ (by omega))] at hk
    rw [cN_eq (upd_ne _ _ (by omega))]; exact h.2.2.2.2.2.2 k hk
theorem i_set {Y : Nat → Int32} {n hN : Nat} (h : yInv Y n hN) (child what v : Int32) : yInv (setS Y child what v).2.2 n hN := by
  have h10 := h.1.1.2.1
  unfold setS
  by_cases h1 : nI 0 ≤ child ∧ child ≤ Y 0 - nI 1
  · rw [if_pos h1]
    obtain ⟨c, hc, rfl⟩ := is_natB h.1.1.1 (by omega) h1
    by_cases h2 : nI 0 ≤ what ∧ what ≤ nI 3
    · rw [if_pos h2]
      obtain ⟨q, hq, rfl⟩ := within_nat (by decide) h2
      rw [nI_clamp (by omega), nI_clamp (by omega)]
      by_cases h3 : nI q = 0
      · rw [if_pos h3]
        have hq0 : q = 0 := (nI_eq (by omega) (by decide)).mp (h3.trans nI_0.symm)
        subst hq0
        by_cases h4 : nI 0 ≤ v ∧ v ≤ nI 6
        · rw [if_pos h4]
          obtain ⟨k, hk, rfl⟩ := within_nat (by decide) h4
          exact h.up (yk_kind h.1 hc (by omega)) (fun d hd => by omega) (fun k hk => by omega) (fun d hd => by omega) (fun d _ _ => by omega) (by omega)
        · rw [if_neg h4]; exact h
      · rw [if_neg h3]
        have hq0 : q ≠ 0 := fun z => h3 (by rw [z]; exact nI_0)
        by_cases h5 : nI q = nI 3
        · rw [if_pos h5]
          have hq3 : q = 3 := (nI_eq (by omega) (by decide)).mp h5
          subst hq3
          by_cases h4 : nI 0 ≤ v ∧ v ≤ nI 1
          · rw [if_pos h4]
            obtain ⟨m, hm, rfl⟩ := within_nat (by decide) h4
            exact iv_mind h hc (by rcases (show m = 0 ∨ m = 1 by omega) with z | z <;> subst z <;> simp)
          · rw [if_neg h4]; exact h
        · rw [if_neg h5]
          have hq3 : q ≠ 3 := fun z => h5 (by rw [z])
          by_cases h4 : nI 0 ≤ v ∧ v ≤ nI 99
          · rw [if_pos h4]
            exact h.up (yk_upd h.1 _ (by omega) (fun _ _ => by omega) (fun _ _ => by omega)) (fun d hd => by omega) (fun k hk => by omega) (fun d hd => by omega) (fun d _ _ => by omega) (by omega)
          · rw [if_neg h4]; exact h
    · rw [if_neg h2]; exact h
  · rw [if_neg h1]; exact h
theorem i_likes {Y : Nat → Int32} {n hN : Nat} (h : yInv Y n hN) (one other v : Int32) : yInv (likesS Y one other v).2.2 n hN := by
  have h10 := h.1.1.2.1
  unfold likesS
  by_cases h1 : nI 0 ≤ one ∧ one ≤ Y 0 - nI 1
  · rw [if_pos h1]
    by_cases h2 : nI 0 ≤ other ∧ other ≤ Y 0 - nI 1
    · rw [if_pos h2]
      by_cases h3 : one = other
      · rw [if_pos h3]; exact h
      · rw [if_neg h3]
        by_cases h4 : nI 0 ≤ v ∧ v ≤ nI 99
        · rw [if_pos h4]
          obtain ⟨c, hc, rfl⟩ := is_natB h.1.1.1 (by omega) h1
          obtain ⟨o, ho, rfl⟩ := is_natB h.1.1.1 (by omega) h2
          have hco : c ≠ o := fun z => h3 (by rw [z])
          show yInv (upd Y (67 + 10 * (nI c).toNatClampNeg + (nI o).toNatClampNeg) v) n hN
          rw [nI_clamp (by omega), nI_clamp (by omega)]
          exact h.up (yk_like h.1 (by omega) (by omega) v) (fun d hd => by omega) (fun k hk => by omega) (fun d hd => by omega) (fun d _ _ => by omega) (by omega)
        · rw [if_neg h4]; exact h
    · rw [if_neg h2]; exact h
  · rw [if_neg h1]; exact h
theorem heapY_ne (Y : Nat → Int32) (hN : Nat) (a b : Int32) {i : Nat} (h : i ≠ 1 ∧ ¬ (167 + 4 * hN ≤ i ∧ i < 167 + 4 * hN + 4)) : heapY Y hN a b i = Y i := by
  unfold heapY
  rw [upd_ne _ _ (by omega), upd_ne _ _ (by omega), upd_ne _ _ (by omega), upd_ne _ _ (by omega), upd_ne _ _ (by omega)]
theorem iv_heap {Y : Nat → Int32} {n hN : Nat} (h : yInv Y n hN) (hn : hN < 5) {a b : Int32} : yInv (heapY Y hN a b) n (hN + 1) := by
  have g : ∀ i, i ≠ 1 ∧ ¬ (167 + 4 * hN ≤ i ∧ i < 167 + 4 * hN + 4) → heapY Y hN a b i = Y i := fun i hi => heapY_ne Y hN a b hi
  have g0 : heapY Y hN a b 1 = nI (hN + 1) := upd_eq _ _ _
  have g3 : heapY Y hN a b (167 + 4 * hN + 3) = nI 0 := by
    unfold heapY
    rw [upd_ne _ _ (by omega), upd_eq]
  have hout : ∀ k, hN ≤ k → k < 5 → mskA Y (nI k) n = 0 := fun k h1 h2 => msk_out h.1 h1 h2
  generalize heapY Y hN a b = Y' at g g0 g3 ⊢
  obtain ⟨⟨⟨a', b', c, d⟩, e, f, t, q4, q5⟩, hI, hJ⟩ := h
  have hms : ∀ k, mskA Y' (nI k) n = mskA Y (nI k) n := fun k => msk_congr (fun d hd' => g _ (by omega))
  refine ⟨⟨⟨(g 0 (by omega)).trans a', b', g0, by omega⟩, fun q hq => ?_, fun q hq => ?_, fun u hu => ?_, ?_, ?_⟩, ⟨fun k hk hf => ?_, fun k hk => ?_⟩, ⟨fun q hq => ?_, fun q hq => ?_, fun q h1 h2 => ?_, fun k hk => ?_, fun k hk => ?_⟩⟩
  · rw [g _ (by omega)]; exact e q hq
  · rw [g _ (by omega)]
    rcases f q hq with z | ⟨j, hj, z⟩
    · exact Or.inl z
    · exact Or.inr ⟨j, by omega, z⟩
  · obtain ⟨len, hok⟩ := t u hu
    exact ⟨len, hok.congr (fun i hi => g i (by omega))⟩
  · rw [g 4 (by omega)]; exact q4
  · rw [g 5 (by omega)]; exact q5
  · by_cases z : k = hN
    · subst z; exact g3
    · rw [g _ (by omega)]
      refine hI.1 k hk (fun z => hf ?_)
      unfold fewP popA at z ⊢
      rw [hms k, g _ (by omega)]; exact z
  · by_cases z : k = hN
    · subst z; exact ⟨0, by decide, g3⟩
    · rw [g _ (by omega)]; exact hI.2 k hk
  · rw [g _ (by omega)]; exact hJ.1 q hq
  · rw [g _ (by omega)]; exact hJ.2.1 q hq
  · rw [g _ (by omega)]; exact hJ.2.2.1 q h1 h2
  · rw [cN_eq (g 4 (by omega))] at hk
    rw [g _ (by omega)]; exact hJ.2.2.2.1 k hk
  · rw [cN_eq (g _ (by omega))] at hk
    rw [cN_eq (g _ (by omega))]; exact hJ.2.2.2.2 k hk
theorem i_heap {Y : Nat → Int32} {n hN : Nat} (h : yInv Y n hN) (a b : Int32) : yInv (heapS Y hN a b).2.2 n (if (heapS Y hN a b).1 = 0 then hN + 1 else hN) := by
  unfold heapS
  by_cases h1 : nI 1 ≤ a ∧ a ≤ nI 10
  · rw [if_pos h1]
    by_cases h2 : a ≤ b ∧ b ≤ nI 10
    · rw [if_pos h2]
      by_cases h4 : hN = 5
      · rw [if_pos h4]; exact h
      · rw [if_neg h4]
        have := h.1.1.2.2.2
        exact iv_heap h (by omega)
    · rw [if_neg h2]; exact h
  · rw [if_neg h1]; exact h
theorem i_rule {Y : Nat → Int32} {n hN : Nat} (h : yInv Y n hN) (heap v : Int32) : yInv (ruleS Y heap v).2.2 n hN := by
  have h10 := h.1.1.2.1
  have h5 := h.1.1.2.2.2
  unfold ruleS
  by_cases h1 : nI 0 ≤ heap ∧ heap ≤ Y 1 - nI 1
  · rw [if_pos h1]
    by_cases h4 : nI 0 ≤ v ∧ v ≤ nI 99
    · rw [if_pos h4]
      obtain ⟨k, hk, rfl⟩ := is_natB h.1.1.2.2.1 (by omega) h1
      show yInv (upd Y (167 + 4 * (nI k).toNatClampNeg + 2) v) n hN
      rw [nI_clamp (by omega)]
      exact h.up (yk_upd h.1 _ (by omega) (fun _ _ => by omega) (fun _ _ => by omega)) (fun d hd => by omega) (fun k hk => by omega) (fun d hd => by omega) (fun d _ _ => by omega) (by omega)
    · rw [if_neg h4]; exact h
  · rw [if_neg h1]; exact h
theorem iv_goes {Y : Nat → Int32} {n hN : Nat} (h : yInv Y n hN) {c : Nat} (hc : c < n) {x : Int32} (hx : x = -1 ∨ ∃ k, k < hN ∧ x = nI k) : yInv (goesS Y n hN c x) n hN := by
  have h10 := h.1.1.2.1
  have h5 := h.1.1.2.2.2
  have g : ∀ i, i ≠ 7 + 6 * c + 4 → ¬ (167 ≤ i ∧ i < 237) → goesS Y n hN c x i = Y i := fun i h1 h2 => by
    rw [goes_ap Y x h10 (by omega) h5 i, if_neg h1, if_neg (by omega), if_neg (by omega)]
  exact ⟨yk_goes h.1 hc hx, yi_goes h.1 h.2.1 hc, h.2.2.to (fun d hd => g _ (by omega) (by omega)) (fun d hd => g _ (by omega) (by omega)) (fun d h1 h2 => g _ (by omega) (by omega)) (fun i hi => g _ (by omega) (by omega))⟩
theorem i_join {Y : Nat → Int32} {n hN : Nat} (h : yInv Y n hN) (child heap : Int32) : yInv (joinS Y n hN child heap).2.2 n hN := by
  have h10 := h.1.1.2.1
  have h5 := h.1.1.2.2.2
  unfold joinS
  by_cases h1 : nI 0 ≤ child ∧ child ≤ Y 0 - nI 1
  · rw [if_pos h1]
    by_cases h2 : nI 0 ≤ heap ∧ heap ≤ Y 1 - nI 1
    · rw [if_pos h2]
      by_cases h3 : Y (7 + 6 * child.toNatClampNeg + 4) = heap
      · rw [if_pos h3]; exact h
      · rw [if_neg h3]
        obtain ⟨c, hc, rfl⟩ := is_natB h.1.1.1 (by omega) h1
        obtain ⟨k, hk, rfl⟩ := is_natB h.1.1.2.2.1 (by omega) h2
        show yInv (goesS Y n hN (nI c).toNatClampNeg (nI k)) n hN
        rw [nI_clamp (by omega)]
        exact iv_goes h hc (Or.inr ⟨k, hk, rfl⟩)
    · rw [if_neg h2]; exact h
  · rw [if_neg h1]; exact h
theorem i_leave {Y : Nat → Int32} {n hN : Nat} (h : yInv Y n hN) (child : Int32) : yInv (leaveS Y n hN child).2.2 n hN := by
  have h10 := h.1.1.2.1
  unfold leaveS
  by_cases h1 : nI 0 ≤ child ∧ child ≤ Y 0 - nI 1
  · rw [if_pos h1]
    by_cases h3 : 0 ≤ Y (7 + 6 * child.toNatClampNeg + 4)
    · rw [if_pos h3]
      obtain ⟨c, hc, rfl⟩ := is_natB h.1.1.1 (by omega) h1
      show yInv (goesS Y n hN (nI c).toNatClampNeg (-1)) n hN
      rw [nI_clamp (by omega)]
      exact iv_goes h hc (Or.inl rfl)
    · rw [if_neg h3]; exact h
  · rw [if_neg h1]; exact h
theorem i_minutes {Y : Nat → Int32} {n hN : Nat} (h : yInv Y n hN) (k : Int32) : yInv (minutesS Y n hN k).2.2 n hN := by
  unfold minutesS
  by_cases h1 : nI 1 ≤ k ∧ k ≤ nI 60
  · rw [if_pos h1]
    by_cases h2 : Y 2 + k ≤ (99999)
    · rw [if_pos h2]; exact ⟨yk_pass h.1 _, yi_pass h.1 h.2.1 _, yj_pass h.1 h.2.2 _⟩
    · rw [if_neg h2]; exact h
  · rw [if_neg h1]; exact h
theorem self_trm {Y : Nat → Int32} {n : Nat} (hn : n ≤ 10) (h : self0 Y) : ∀ k, self0 (trmI Y n k)
  | 0 => h
  | k + 1 => fun c hc => by
    show termS (trmI Y n k) n (67 + 10 * c + c) = nI 0
    unfold termS
    rw [upd_ne _ _ (by omega), lkA_R _ hn]
    unfold lkR
    rw [show (67 + 10 * c + c - 67) / 10 = c by omega, show (67 + 10 * c + c - 67) % 10 = c by omega]
    split
    · unfold newL; rw [if_pos rfl]
    · exact self_trm hn h k c hc
theorem i_terms {Y : Nat → Int32} {n hN : Nat} (h : yInv Y n hN) (k : Int32) : yInv (termsS Y n k).2.2 n hN := by
  have h10 := h.1.1.2.1
  unfold termsS
  by_cases h1 : nI 1 ≤ k ∧ k ≤ nI 20
  · rw [if_pos h1]
    by_cases h2 : Y 3 + k ≤ nI 999
    · rw [if_pos h2]
      have g : ∀ i, i < 67 ∨ 167 ≤ i → i ≠ 3 → trmI Y n k.toNatClampNeg i = Y i := fun i h1 h2 => trm_hi h10 h1 h2 _
      show yInv (trmI Y n k.toNatClampNeg) n hN
      refine ⟨yk_trm h.1 _, h.2.1.t2 (fun d hd => g _ (by omega) (by omega)) (fun q hq => ⟨g _ (by omega) (by omega), g _ (by omega) (by omega)⟩), fun d hd => ?_, self_trm h10 h.2.2.2.1 _, fun d h1 h2 => ?_, fun q hq => ?_, tx4_trm h10 h.2.2.2.2.2.2 _⟩
      · rw [g _ (by omega) (by omega)]; exact h.2.2.1 d hd
      · rw [g _ (by omega) (by omega)]; exact h.2.2.2.2.1 d h1 h2
      · rw [cN_eq (g 4 (by omega) (by omega))] at hq
        rw [g _ (by omega) (by omega)]; exact h.2.2.2.2.2.1 q hq
    · rw [if_neg h2]; exact h
  · rw [if_neg h1]; exact h
theorem i_seed {Y : Nat → Int32} {n hN : Nat} (h : yInv Y n hN) (v : Int32) : yInv (seedS Y v).2.2 n hN :=
  h.up (yk_upd h.1 _ (by omega) (fun _ _ => by omega) (fun _ _ => by omega)) (fun d hd => by omega) (fun k hk => by omega) (fun d hd => by omega) (fun d _ _ => by omega) (by omega)

