theorem nI_mul (a b : Nat) : nI a * nI b = nI (a * b) := (Int32.ofNat_mul a b).symm
theorem nI_subN {a b : Nat} (h : b ≤ a) : nI a - nI b = nI (a - b) := by
  have h1 : nI a = nI (a - b) + nI b := by rw [nI_add, Nat.sub_add_cancel h]
  rw [h1, Int32.add_sub_cancel]
theorem nI_dec {a : Nat} (h : 1 ≤ a) : nI a + Int32.ofInt (-1) = nI (a - 1) := by
  have h1 : nI a = nI (a - 1) + nI 1 := by rw [nI_add, Nat.sub_add_cancel h]
  rw [h1, show Int32.ofInt (-1) = -(nI 1) from by decide, ← Int32.sub_eq_add_neg, Int32.add_sub_cancel]
def b2i (P : Prop) [Decidable P] : Int32 := if P then 1 else 0
theorem b2i_t {P : Prop} [Decidable P] (h : P) : (1 : Int32) = b2i P := (if_pos h).symm
theorem b2i_f {P : Prop} [Decidable P] (h : ¬ P) : (0 : Int32) = b2i P := (if_neg h).symm
theorem b2i_T {P : Prop} [Decidable P] (h : P) : nI 1 = b2i P := (if_pos h).symm
theorem b2i_F {P : Prop} [Decidable P] (h : ¬ P) : nI 0 = b2i P := (if_neg h).symm
theorem b2i_01 (P : Prop) [Decidable P] : b2i P = 0 ∨ b2i P = 1 := by
  unfold b2i
  by_cases h : P
  · rw [if_pos h]; exact Or.inr rfl
  · rw [if_neg h]; exact Or.inl rfl
theorem b2i_eq0 {P : Prop} [Decidable P] : b2i P = 0 ↔ ¬ P := by
  unfold b2i
  by_cases h : P
  · rw [if_pos h]; exact ⟨fun q => absurd q (by decide), fun q => absurd h q⟩
  · rw [if_neg h]; exact ⟨fun _ => h, fun _ => rfl⟩
theorem b2i_congr {P Q : Prop} [Decidable P] [Decidable Q] (h : P ↔ Q) : b2i P = b2i Q := by
  unfold b2i
  by_cases hp : P
  · rw [if_pos hp, if_pos (h.mp hp)]
  · rw [if_neg hp, if_neg (fun q => hp (h.mpr q))]
theorem narrow_01 {x : Int32} (h : x = 0 ∨ x = 1) : narrow .boolean (.int x) = .int x := by rcases h with rfl | rfl <;> rfl
theorem up2_upA (M : Mm) (k i : Nat) (g : Nat → Int32) (v : Int32) : up2 (upA M k g) k i v = upA M k (upd g i v) := by
  funext a
  by_cases h : a = k
  · subst h; rw [up2_eq, upA_eq, upA_eq]
  · rw [up2_ne _ _ _ h, upA_ne _ _ h, upA_ne _ _ h]
theorem upA_upA (M : Mm) (k : Nat) (g g' : Nat → Int32) : upA (upA M k g) k g' = upA M k g' := by
  funext a
  by_cases h : a = k
  · subst h; rw [upA_eq, upA_eq]
  · rw [upA_ne _ _ h, upA_ne _ _ h, upA_ne _ _ h]
theorem upA_self (M : Mm) (k : Nat) : upA M k (M k) = M := by
  funext a
  by_cases h : a = k
  · subst h; rw [upA_eq]
  · rw [upA_ne _ _ h]
theorem upA_swap (M : Mm) {j k : Nat} (g h : Nat → Int32) (hjk : j ≠ k) : upA (upA M j g) k h = upA (upA M k h) j g := by
  funext a
  by_cases h1 : a = j
  · subst h1
    rw [upA_ne _ _ hjk, upA_eq, upA_eq]
  · by_cases h2 : a = k
    · subst h2; rw [upA_eq, upA_ne _ _ h1, upA_eq]
    · rw [upA_ne _ _ h2, upA_ne _ _ h1, upA_ne _ _ h1, upA_ne _ _ h2]
theorem up2_as (M : Mm) (k i : Nat) (v : Int32) : up2 M k i v = upA M k (upd (M k) i v) := rfl
theorem up2_upA_ne (M : Mm) {j k : Nat} (i : Nat) (g : Nat → Int32) (v : Int32) (h : j ≠ k) : up2 (upA M k g) j i v = upA (up2 M j i v) k g := by
  rw [up2_as, up2_as, upA_ne _ _ h]
  exact upA_swap M g _ (fun q => h q.symm)
abbrev CP (l : Launch) (G : GC) (d : Nat) (y : MethodName) (cy : ByteArray) (nLy : Nat) (rt : FieldType) (av : List Value) (M : Mm) (r : Int32) : Prop := Con l G 221 1 d y cy nLy (some rt) av M 0 0 0 (fun v M' => v = some (.int r) ∧ M' = M)
abbrev CI (l : Launch) (G : GC) (d : Nat) (y : MethodName) (cy : ByteArray) (nLy : Nat) (rt : FieldType) (av : List Value) (M : Mm) (r : Int32) (P : Mm → Prop) : Prop := Con l G 221 1 d y cy nLy (some rt) av M 0 0 0 (fun v M' => v = some (.int r) ∧ P M')
abbrev CV (l : Launch) (G : GC) (d : Nat) (y : MethodName) (cy : ByteArray) (nLy : Nat) (av : List Value) (M : Mm) (P : Mm → Prop) : Prop := Con l G 221 1 d y cy nLy none av M 0 0 0 (fun v M' => v = none ∧ P M')
section NR
variable {f : FC} {G : GC} {ph : Ph} {M : Mm} {own : String} {cc : ByteArray} {nL pc : Nat} {lv : List (Nat × Value)} {rest : List Value}
theorem n_iadd (C : Ctx f G own cc nL) {a b : Nat} (hd : decode cc pc = .ok (.iadd, 1)) (k : Vc f G ph M (pc + 1) lv (.int (nI (a + b)) :: rest)) : Vc f G ph M pc lv (.int (nI b) :: .int (nI a) :: rest) := v_iadd C hd (by rw [nI_add]; exact k)
theorem n_imul (C : Ctx f G own cc nL) {a b : Nat} (hd : decode cc pc = .ok (.imul, 1)) (k : Vc f G ph M (pc + 1) lv (.int (nI (a * b)) :: rest)) : Vc f G ph M pc lv (.int (nI b) :: .int (nI a) :: rest) := v_imul C hd (by rw [nI_mul]; exact k)
theorem n_isub (C : Ctx f G own cc nL) {a b : Nat} (h : b ≤ a) (hd : decode cc pc = .ok (.isub, 1)) (k : Vc f G ph M (pc + 1) lv (.int (nI (a - b)) :: rest)) : Vc f G ph M pc lv (.int (nI b) :: .int (nI a) :: rest) := v_isub C hd (by rw [nI_subN h]; exact k)
theorem n_now_ld (C : Ctx f G own cc nL) {k0 L j : Nat} {Y : Nat → Int32} (hk : k0 < ph.2.2.1) (hs : shp k0 = 1000 + L) (hj : j < L) (hL : L < 2 ^ 31) (hd : decode cc pc = .ok (.iaload, 1)) (kk : Vc f G ph (upA M k0 Y) (pc + 1) lv (.int (Y j) :: rest)) : Vc f G ph (upA M k0 Y) pc lv (.int (nI j) :: .ref (gb G + k0) :: rest) := v_iald C hk hs hj hL hd (by rw [upA_eq]; exact kk)
theorem n_now_st (C : Ctx f G own cc nL) {k0 L j : Nat} {Y : Nat → Int32} {x : Int32} (hk : k0 < ph.2.2.1) (hs : shp k0 = 1000 + L) (hj : j < L) (hL : L < 2 ^ 31) (hd : decode cc pc = .ok (.iastore, 1)) (kk : Vc f G ph (upA M k0 (upd Y j x)) (pc + 1) lv rest) : Vc f G ph (upA M k0 Y) pc lv (.int x :: .int (nI j) :: .ref (gb G + k0) :: rest) := v_iast C hk hs hj hL hd (by rw [up2_upA]; exact kk)
theorem nb_if_eq (C : Ctx f G own cc nL) {P : Prop} [Decidable P] {off : Int} (tgt : Nat) (hd : decode cc pc = .ok (.ifCond .eq off, 3)) (ht : (pc : Int) + off = (tgt : Int)) (kt : ¬ P → Vc f G ph M tgt lv rest) (kf : P → Vc f G ph M (pc + 3) lv rest) : Vc f G ph M pc lv (.int (b2i P) :: rest) := v_if_eq C tgt hd ht (fun h => kt (b2i_eq0.mp h)) (fun h => kf (Decidable.byContradiction fun q => h (b2i_eq0.mpr q)))
theorem nb_if_ne (C : Ctx f G own cc nL) {P : Prop} [Decidable P] {off : Int} (tgt : Nat) (hd : decode cc pc = .ok (.ifCond .ne off, 3)) (ht : (pc : Int) + off = (tgt : Int)) (kt : P → Vc f G ph M tgt lv rest) (kf : ¬ P → Vc f G ph M (pc + 3) lv rest) : Vc f G ph M pc lv (.int (b2i P) :: rest) := v_if_ne C tgt hd ht (fun h => kt (Decidable.byContradiction fun q => h (b2i_eq0.mpr q))) (fun h => kf (b2i_eq0.mp h))
theorem n_if_eq (C : Ctx f G own cc nL) {a : Nat} (ha : a < 2 ^ 31) {off : Int} (tgt : Nat) (hd : decode cc pc = .ok (.ifCond .eq off, 3)) (ht : (pc : Int) + off = (tgt : Int)) (kt : a = 0 → Vc f G ph M tgt lv rest) (kf : a ≠ 0 → Vc f G ph M (pc + 3) lv rest) : Vc f G ph M pc lv (.int (nI a) :: rest) := v_if_eq C tgt hd ht (fun h => kt ((nI_eq ha (by decide)).mp (h.trans nI_0.symm))) (fun h => kf (fun q => h (by rw [q]; exact nI_0)))
theorem n_if_ne (C : Ctx f G own cc nL) {a : Nat} (ha : a < 2 ^ 31) {off : Int} (tgt : Nat) (hd : decode cc pc = .ok (.ifCond .ne off, 3)) (ht : (pc : Int) + off = (tgt : Int)) (kt : a ≠ 0 → Vc f G ph M tgt lv rest) (kf : a = 0 → Vc f G ph M (pc + 3) lv rest) : Vc f G ph M pc lv (.int (nI a) :: rest) := v_if_ne C tgt hd ht (fun h => kt (fun q => h (by rw [q]; exact nI_0))) (fun h => kf ((nI_eq ha (by decide)).mp (h.trans nI_0.symm)))
-- lt: x < y / ¬ x < y
theorem n_icmp_lt (C : Ctx f G own cc nL) {a b : Nat} (ha : a < 2 ^ 31) (hb : b < 2 ^ 31) {off : Int} (tgt : Nat) (hd : decode cc pc = .ok (.if_icmp .lt off, 3)) (ht : (pc : Int) + off = (tgt : Int)) (kt : a < b → Vc f G ph M tgt lv rest) (kf : b ≤ a → Vc f G ph M (pc + 3) lv rest) : Vc f G ph M pc lv (.int (nI b) :: .int (nI a) :: rest) := v_icmp_lt C tgt hd ht (fun h => kt (by
  have h1 := nI_ltI ha hb; have h2 := nI_leI ha hb; have h3 := nI_ltI hb ha; have h4 := nI_leI hb ha; have h5 := nI_eq ha hb
  first | exact h1.mp h | exact h2.mp h | exact h3.mp h | exact h4.mp h | exact h5.mp h | exact (fun q => h (h5.mpr q)) | (have h9 := Decidable.not_not.mp h; exact h5.mp h9))) (fun h => kf (by
  have h1 := nI_ltI ha hb; have h2 := nI_leI ha hb; have h3 := nI_ltI hb ha; have h4 := nI_leI hb ha; have h5 := nI_eq ha hb
  first | exact h1.mp h | exact h2.mp h | exact h3.mp h | exact h4.mp h | exact h5.mp h | exact (fun q => h (h5.mpr q)) | exact Nat.not_lt.mp (fun q => h (h1.mpr q)) | exact Nat.not_le.mp (fun q => h (h2.mpr q)) | exact Nat.not_lt.mp (fun q => h (h3.mpr q)) | exact Nat.not_le.mp (fun q => h (h4.mpr q)) | (have h9 := Decidable.not_not.mp h; exact h5.mp h9)))
-- ge: y ≤ x / ¬ y ≤ x
theorem n_icmp_ge (C : Ctx f G own cc nL) {a b : Nat} (ha : a < 2 ^ 31) (hb : b < 2 ^ 31) {off : Int} (tgt : Nat) (hd : decode cc pc = .ok (.if_icmp .ge off, 3)) (ht : (pc : Int) + off = (tgt : Int)) (kt : b ≤ a → Vc f G ph M tgt lv rest) (kf : a < b → Vc f G ph M (pc + 3) lv rest) : Vc f G ph M pc lv (.int (nI b) :: .int (nI a) :: rest) := v_icmp_ge C tgt hd ht (fun h => kt (by
  have h1 := nI_ltI ha hb; have h2 := nI_leI ha hb; have h3 := nI_ltI hb ha; have h4 := nI_leI hb ha; have h5 := nI_eq ha hb
  first | exact h1.mp h | exact h2.mp h | exact h3.mp h | exact h4.mp h | exact h5.mp h | exact (fun q => h (h5.mpr q)) | (have h9 := Decidable.not_not.mp h; exact h5.mp h9))) (fun h => kf (by
  have h1 := nI_ltI ha hb; have h2 := nI_leI ha hb; have h3 := nI_ltI hb ha; have h4 := nI_leI hb ha; have h5 := nI_eq ha hb
  first | exact h1.mp h | exact h2.mp h | exact h3.mp h | exact h4.mp h | exact h5.mp h | exact (fun q => h (h5.mpr q)) | exact Nat.not_lt.mp (fun q => h (h1.mpr q)) | exact Nat.not_le.mp (fun q => h (h2.mpr q)) | exact Nat.not_lt.mp (fun q => h (h3.mpr q)) | exact Nat.not_le.mp (fun q => h (h4.mpr q)) | (have h9 := Decidable.not_not.mp h; exact h5.mp h9)))
-- gt: y < x / ¬ y < x
theorem n_icmp_gt (C : Ctx f G own cc nL) {a b : Nat} (ha : a < 2 ^ 31) (hb : b < 2 ^ 31) {off : Int} (tgt : Nat) (hd : decode cc pc = .ok (.if_icmp .gt off, 3)) (ht : (pc : Int) + off = (tgt : Int)) (kt : b < a → Vc f G ph M tgt lv rest) (kf : a ≤ b → Vc f G ph M (pc + 3) lv rest) : Vc f G ph M pc lv (.int (nI b) :: .int (nI a) :: rest) := v_icmp_gt C tgt hd ht (fun h => kt (by
  have h1 := nI_ltI ha hb; have h2 := nI_leI ha hb; have h3 := nI_ltI hb ha; have h4 := nI_leI hb ha; have h5 := nI_eq ha hb
  first | exact h1.mp h | exact h2.mp h | exact h3.mp h | exact h4.mp h | exact h5.mp h | exact (fun q => h (h5.mpr q)) | (have h9 := Decidable.not_not.mp h; exact h5.mp h9))) (fun h => kf (by
  have h1 := nI_ltI ha hb; have h2 := nI_leI ha hb; have h3 := nI_ltI hb ha; have h4 := nI_leI hb ha; have h5 := nI_eq ha hb
  first | exact h1.mp h | exact h2.mp h | exact h3.mp h | exact h4.mp h | exact h5.mp h | exact (fun q => h (h5.mpr q)) | exact Nat.not_lt.mp (fun q => h (h1.mpr q)) | exact Nat.not_le.mp (fun q => h (h2.mpr q)) | exact Nat.not_lt.mp (fun q => h (h3.mpr q)) | exact Nat.not_le.mp (fun q => h (h4.mpr q)) | (have h9 := Decidable.not_not.mp h; exact h5.mp h9)))
-- le: x ≤ y / ¬ x ≤ y
theorem n_icmp_le (C : Ctx f G own cc nL) {a b : Nat} (ha : a < 2 ^ 31) (hb : b < 2 ^ 31) {off : Int} (tgt : Nat) (hd : decode cc pc = .ok (.if_icmp .le off, 3)) (ht : (pc : Int) + off = (tgt : Int)) (kt : a ≤ b → Vc f G ph M tgt lv rest) (kf : b < a → Vc f G ph M (pc + 3) lv rest) : Vc f G ph M pc lv (.int (nI b) :: .int (nI a) :: rest) := v_icmp_le C tgt hd ht (fun h => kt (by
  have h1 := nI_ltI ha hb; have h2 := nI_leI ha hb; have h3 := nI_ltI hb ha; have h4 := nI_leI hb ha; have h5 := nI_eq ha hb
  first | exact h1.mp h | exact h2.mp h | exact h3.mp h | exact h4.mp h | exact h5.mp h | exact (fun q => h (h5.mpr q)) | (have h9 := Decidable.not_not.mp h; exact h5.mp h9))) (fun h => kf (by
  have h1 := nI_ltI ha hb; have h2 := nI_leI ha hb; have h3 := nI_ltI hb ha; have h4 := nI_leI hb ha; have h5 := nI_eq ha hb
  first | exact h1.mp h | exact h2.mp h | exact h3.mp h | exact h4.mp h | exact h5.mp h | exact (fun q => h (h5.mpr q)) | exact Nat.not_lt.mp (fun q => h (h1.mpr q)) | exact Nat.not_le.mp (fun q => h (h2.mpr q)) | exact Nat.not_lt.mp (fun q => h (h3.mpr q)) | exact Nat.not_le.mp (fun q => h (h4.mpr q)) | (have h9 := Decidable.not_not.mp h; exact h5.mp h9)))
-- eq: x = y / ¬ x = y
theorem n_icmp_eq (C : Ctx f G own cc nL) {a b : Nat} (ha : a < 2 ^ 31) (hb : b < 2 ^ 31) {off : Int} (tgt : Nat) (hd : decode cc pc = .ok (.if_icmp .eq off, 3)) (ht : (pc : Int) + off = (tgt : Int)) (kt : a = b → Vc f G ph M tgt lv rest) (kf : a ≠ b → Vc f G ph M (pc + 3) lv rest) : Vc f G ph M pc lv (.int (nI b) :: .int (nI a) :: rest) := v_icmp_eq C tgt hd ht (fun h => kt (by
  have h1 := nI_ltI ha hb; have h2 := nI_leI ha hb; have h3 := nI_ltI hb ha; have h4 := nI_leI hb ha; have h5 := nI_eq ha hb
  first | exact h1.mp h | exact h2.mp h | exact h3.mp h | exact h4.mp h | exact h5.mp h | exact (fun q => h (h5.mpr q)) | (have h9 := Decidable.not_not.mp h; exact h5.mp h9))) (fun h => kf (by
  have h1 := nI_ltI ha hb; have h2 := nI_leI ha hb; have h3 := nI_ltI hb ha; have h4 := nI_leI hb ha; have h5 := nI_eq ha hb
  first | exact h1.mp h | exact h2.mp h | exact h3.mp h | exact h4.mp h | exact h5.mp h | exact (fun q => h (h5.mpr q)) | exact Nat.not_lt.mp (fun q => h (h1.mpr q)) | exact Nat.not_le.mp (fun q => h (h2.mpr q)) | exact Nat.not_lt.mp (fun q => h (h3.mpr q)) | exact Nat.not_le.mp (fun q => h (h4.mpr q)) | (have h9 := Decidable.not_not.mp h; exact h5.mp h9)))
-- ne: ¬ x = y / x = y
theorem n_icmp_ne (C : Ctx f G own cc nL) {a b : Nat} (ha : a < 2 ^ 31) (hb : b < 2 ^ 31) {off : Int} (tgt : Nat) (hd : decode cc pc = .ok (.if_icmp .ne off, 3)) (ht : (pc : Int) + off = (tgt : Int)) (kt : a ≠ b → Vc f G ph M tgt lv rest) (kf : a = b → Vc f G ph M (pc + 3) lv rest) : Vc f G ph M pc lv (.int (nI b) :: .int (nI a) :: rest) := v_icmp_ne C tgt hd ht (fun h => kt (by
  have h1 := nI_ltI ha hb; have h2 := nI_leI ha hb; have h3 := nI_ltI hb ha; have h4 := nI_leI hb ha; have h5 := nI_eq ha hb
  first | exact h1.mp h | exact h2.mp h | exact h3.mp h | exact h4.mp h | exact h5.mp h | exact (fun q => h (h5.mpr q)) | (have h9 := Decidable.not_not.mp h; exact h5.mp h9))) (fun h => kf (by
  have h1 := nI_ltI ha hb; have h2 := nI_leI ha hb; have h3 := nI_ltI hb ha; have h4 := nI_leI hb ha; have h5 := nI_eq ha hb
  first | exact h1.mp h | exact h2.mp h | exact h3.mp h | exact h4.mp h | exact h5.mp h | exact (fun q => h (h5.mpr q)) | exact Nat.not_lt.mp (fun q => h (h1.mpr q)) | exact Nat.not_le.mp (fun q => h (h2.mpr q)) | exact Nat.not_lt.mp (fun q => h (h3.mpr q)) | exact Nat.not_le.mp (fun q => h (h4.mpr q)) | (have h9 := Decidable.not_not.mp h; exact h5.mp h9)))
theorem n_iret (C : Ctx f G own cc nL) {ty : FieldType} {r : Int32} {P : Mm → Prop} (hR : Rt f G (some ty) 0 0 221 1 (fun v M' => v = some (.int r) ∧ P M')) {x : Int32} (hty : narrow ty (.int x) = .int x) (hd : decode cc pc = .ok (.ireturn, 1)) (hx : x = r) (hP : P M) : Vc f G NPh M pc lv [.int x] := v_iret C hR hty hd ⟨by rw [hx], hP⟩
theorem n_ret (C : Ctx f G own cc nL) {P : Mm → Prop} (hR : Rt f G none 0 0 221 1 (fun v M' => v = none ∧ P M')) (hd : decode cc pc = .ok (.return_, 1)) (hP : P M) : Vc f G NPh M pc lv [] := v_ret C hR hd ⟨rfl, hP⟩
variable {l : Launch} {D d nLy index nn k ci N : Nat} {y : MethodName} {cy : ByteArray} {rt : FieldType} {r : Int32} {P : Mm → Prop} {T : u_T}

theorem n_callVp (C : Ctx f G own cc nL) (hRm : Rm f l D 0 0) {st : List Value} (As : List Value) (cw : CwV y cy nLy (some rt) nn) (hlink : Cond.methodLink own index y ∈ lw_w) (hk : k < 221) (hs : shp k = ci) (hci : ci < 20) (hcl : vwCl[ci]? = some (y.cls, T, N)) (hc : CP l G d y cy nLy rt (.ref (gb G + k) :: As) M r) (hD : d + 1 ≤ D) (hn : As.length = nn) (hst : st = As.reverse ++ .ref (gb G + k) :: rest) (hrest : (rest.map fun v => v.category).sum ≤ 8) (hd : decode cc pc = .ok (.invokevirtual index, 3)) (kk : Vc f G NPh M (pc + 3) lv (.int r :: rest)) : Vc f G NPh M pc lv st := v_callV C hRm cw hlink hk hs hci hcl hc hD ⟨Nat.le_refl _, Nat.le_refl _⟩ hn hst hrest hd (fun v M' h => by obtain ⟨rfl, rfl⟩ := h; exact kk)
theorem n_callSp (C : Ctx f G own cc nL) (hRm : Rm f l D 0 0) {st : List Value} (As : List Value) (cw : CwS y cy nLy (some rt) nn) (hstat : Cond.static y ∈ lw_w) (hlink : Cond.methodLink own index y ∈ lw_w) (hc : CP l G d y cy nLy rt As M r) (hD : d + 1 ≤ D) (hn : As.length = nn) (hst : st = As.reverse ++ rest) (hrest : (rest.map fun v => v.category).sum ≤ 8) (hd : decode cc pc = .ok (.invokestatic index, 3)) (kk : Vc f G NPh M (pc + 3) lv (.int r :: rest)) : Vc f G NPh M pc lv st := v_callS C hRm cw hstat hlink hc hD ⟨Nat.le_refl _, Nat.le_refl _⟩ hn hst hrest hd (fun v M' h => by obtain ⟨rfl, rfl⟩ := h; exact kk)
theorem n_callNp (C : Ctx f G own cc nL) (hRm : Rm f l D 0 0) {st : List Value} (As : List Value) (cw : CwS y cy nLy (some rt) nn) (hstat : Cond.static y ∈ lw_w) {host : String} (hlink : (own, index, y, host) ∈ nestM) (hc : CP l G d y cy nLy rt As M r) (hD : d + 1 ≤ D) (hn : As.length = nn) (hst : st = As.reverse ++ rest) (hrest : (rest.map fun v => v.category).sum ≤ 8) (hd : decode cc pc = .ok (.invokestatic index, 3)) (kk : Vc f G NPh M (pc + 3) lv (.int r :: rest)) : Vc f G NPh M pc lv st := v_callSN C hRm cw hstat hlink hc hD ⟨Nat.le_refl _, Nat.le_refl _⟩ hn hst hrest hd (fun v M' h => by obtain ⟨rfl, rfl⟩ := h; exact kk)
theorem n_callVi (C : Ctx f G own cc nL) (hRm : Rm f l D 0 0) {st : List Value} (As : List Value) (cw : CwV y cy nLy (some rt) nn) (hlink : Cond.methodLink own index y ∈ lw_w) (hk : k < 221) (hs : shp k = ci) (hci : ci < 20) (hcl : vwCl[ci]? = some (y.cls, T, N)) (hc : CI l G d y cy nLy rt (.ref (gb G + k) :: As) M r P) (hD : d + 1 ≤ D) (hn : As.length = nn) (hst : st = As.reverse ++ .ref (gb G + k) :: rest) (hrest : (rest.map fun v => v.category).sum ≤ 8) (hd : decode cc pc = .ok (.invokevirtual index, 3)) (kk : ∀ M', P M' → Vc f G NPh M' (pc + 3) lv (.int r :: rest)) : Vc f G NPh M pc lv st := v_callV C hRm cw hlink hk hs hci hcl hc hD ⟨Nat.le_refl _, Nat.le_refl _⟩ hn hst hrest hd (fun v M' h => by obtain ⟨rfl, hP⟩ := h; exact kk M' hP)
theorem n_callSi (C : Ctx f G own cc nL) (hRm : Rm f l D 0 0) {st : List Value} (As : List Value) (cw : CwS y cy nLy (some rt) nn) (hstat : Cond.static y ∈ lw_w) (hlink : Cond.methodLink own index y ∈ lw_w) (hc : CI l G d y cy nLy rt As M r P) (hD : d + 1 ≤ D) (hn : As.length = nn) (hst : st = As.reverse ++ rest) (hrest : (rest.map fun v => v.category).sum ≤ 8) (hd : decode cc pc = .ok (.invokestatic index, 3)) (kk : ∀ M', P M' → Vc f G NPh M' (pc + 3) lv (.int r :: rest)) : Vc f G NPh M pc lv st := v_callS C hRm cw hstat hlink hc hD ⟨Nat.le_refl _, Nat.le_refl _⟩ hn hst hrest hd (fun v M' h => by obtain ⟨rfl, hP⟩ := h; exact kk M' hP)
theorem n_callNi (C : Ctx f G own cc nL) (hRm : Rm f l D 0 0) {st : List Value} (As : List Value) (cw : CwS y cy nLy (some rt) nn) (hstat : Cond.static y ∈ lw_w) {host : String} (hlink : (own, index, y, host) ∈ nestM) (hc : CI l G d y cy nLy rt As M r P) (hD : d + 1 ≤ D) (hn : As.length = nn) (hst : st = As.reverse ++ rest) (hrest : (rest.map fun v => v.category).sum ≤ 8) (hd : decode cc pc = .ok (.invokestatic index, 3)) (kk : ∀ M', P M' → Vc f G NPh M' (pc + 3) lv (.int r :: rest)) : Vc f G NPh M pc lv st := v_callSN C hRm cw hstat hlink hc hD ⟨Nat.le_refl _, Nat.le_refl _⟩ hn hst hrest hd (fun v M' h => by obtain ⟨rfl, hP⟩ := h; exact kk M' hP)
theorem n_callVv (C : Ctx f G own cc nL) (hRm : Rm f l D 0 0) {st : List Value} (As : List Value) (cw : CwV y cy nLy none nn) (hlink : Cond.methodLink own index y ∈ lw_w) (hk : k < 221) (hs : shp k = ci) (hci : ci < 20) (hcl : vwCl[ci]? = some (y.cls, T, N)) (hc : CV l G d y cy nLy (.ref (gb G + k) :: As) M P) (hD : d + 1 ≤ D) (hn : As.length = nn) (hst : st = As.reverse ++ .ref (gb G + k) :: rest) (hrest : (rest.map fun v => v.category).sum ≤ 8) (hd : decode cc pc = .ok (.invokevirtual index, 3)) (kk : ∀ M', P M' → Vc f G NPh M' (pc + 3) lv rest) : Vc f G NPh M pc lv st := v_callV C hRm cw hlink hk hs hci hcl hc hD ⟨Nat.le_refl _, Nat.le_refl _⟩ hn hst hrest hd (fun v M' h => by obtain ⟨rfl, hP⟩ := h; exact kk M' hP)
theorem n_callSv (C : Ctx f G own cc nL) (hRm : Rm f l D 0 0) {st : List Value} (As : List Value) (cw : CwS y cy nLy none nn) (hstat : Cond.static y ∈ lw_w) (hlink : Cond.methodLink own index y ∈ lw_w) (hc : CV l G d y cy nLy As M P) (hD : d + 1 ≤ D) (hn : As.length = nn) (hst : st = As.reverse ++ rest) (hrest : (rest.map fun v => v.category).sum ≤ 8) (hd : decode cc pc = .ok (.invokestatic index, 3)) (kk : ∀ M', P M' → Vc f G NPh M' (pc + 3) lv rest) : Vc f G NPh M pc lv st := v_callS C hRm cw hstat hlink hc hD ⟨Nat.le_refl _, Nat.le_refl _⟩ hn hst hrest hd (fun v M' h => by obtain ⟨rfl, hP⟩ := h; exact kk M' hP)
theorem n_callNv (C : Ctx f G own cc nL) (hRm : Rm f l D 0 0) {st : List Value} (As : List Value) (cw : CwS y cy nLy none nn) (hstat : Cond.static y ∈ lw_w) {host : String} (hlink : (own, index, y, host) ∈ nestM) (hc : CV l G d y cy nLy As M P) (hD : d + 1 ≤ D) (hn : As.length = nn) (hst : st = As.reverse ++ rest) (hrest : (rest.map fun v => v.category).sum ≤ 8) (hd : decode cc pc = .ok (.invokestatic index, 3)) (kk : ∀ M', P M' → Vc f G NPh M' (pc + 3) lv rest) : Vc f G NPh M pc lv st := v_callSN C hRm cw hstat hlink hc hD ⟨Nat.le_refl _, Nat.le_refl _⟩ hn hst hrest hd (fun v M' h => by obtain ⟨rfl, hP⟩ := h; exact kk M' hP)
end NR
