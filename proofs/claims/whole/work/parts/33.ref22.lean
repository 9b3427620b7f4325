abbrev VS : Type := List Int32 × Bool
def begS (σ : VS) (b : Nat) : VS := if σ.1.length < 30 then (σ.1 ++ [nI b], σ.2) else σ
def vRep (X : Mm) (c : Nat) (σ : VS) : Prop := X 205 17 = nI σ.1.length ∧ σ.1.length ≤ 30 ∧ X 205 18 = nI c ∧ X 205 19 = b2i (σ.2 = true) ∧ ∀ i, i < σ.1.length → X 216 i = σ.1.getD i 0
def exV (M X : Mm) : Prop := (∀ a, a ≠ 205 → a ≠ 206 → a ≠ 216 → X a = M a) ∧ ∀ j, j ≠ 17 → j ≠ 19 → X 205 j = M 205 j
theorem exV.rf (M : Mm) : exV M M := ⟨fun _ _ _ _ => rfl, fun _ _ _ => rfl⟩
theorem exV.tr {A B C : Mm} (h : exV A B) (h2 : exV B C) : exV A C := ⟨fun a x y z => (h2.1 a x y z).trans (h.1 a x y z), fun j x y => (h2.2 j x y).trans (h.2 j x y)⟩
/-- of which kind the body is -/
def hasOB (k a : Nat) : Bool := match k with
  | 0 => true
  | 1 => a == 0 || a == 3
  | 2 => a == 1
  | 5 => a == 1
  | 3 => a == 2
  | 4 => a == 0 || a == 2
  | _ => Nat.blt a 2
def aboC (k : Nat) : Nat := match k with
  | 4 => 1
  | 5 => 2
  | _ => 0
def ownN (k a : Nat) : Nat := if hasOB k a = true then k else if hasOB (aboC k) a = true then aboC k else aboC (aboC k)
def bodN (k a : Nat) : Nat := match 4 * k + a with
  | 0 => 10
  | 1 => 11
  | 2 => 12
  | 3 => 13
  | 4 => 20
  | 7 => 21
  | 9 => 30
  | 14 => 40
  | 16 => 50
  | 18 => 51
  | 21 => 60
  | 24 => 70
  | _ => 71
def rkB (b : Nat) : Nat := match b with
  | 10 => 0
  | 20 => 1
  | 50 => 2
  | 70 => 0
  | 11 => 3
  | 30 => 4
  | 60 => 5
  | 71 => 4
  | 12 => 6
  | 40 => 7
  | 51 => 7
  | 13 => 0
  | _ => 6
def bdF (rec : Nat → Nat → Int32 → VS → Int32 × VS) (κ : Nat) (m : Int32) (c b : Nat) (x : Int32) (σ : VS) : Int32 × VS := match b with
  | 10 => (x + nI c, σ)
  | 11 => ((rec κ 0 x σ).1 * nI 2, (rec κ 0 x σ).2)
  | 12 => ((rec κ 1 x σ).1 - m, (rec κ 1 x σ).2)
  | 13 => if m = nI c then (nI 0, (σ.1, true)) else (x / (m - nI c), (σ.1, false))
  | 20 => ((rec 0 0 x σ).1 - nI 6, (rec 0 0 x σ).2)
  | 21 => ((rec 0 3 x σ).1 + (rec κ 1 (nI 1) (rec 0 3 x σ).2).1, (rec κ 1 (nI 1) (rec 0 3 x σ).2).2)
  | 30 => (-(rec 0 1 x σ).1, (rec 0 1 x σ).2)
  | 40 => ((rec 0 2 (x / nI 2) σ).1, (rec 0 2 (x / nI 2) σ).2)
  | 50 => ((rec 1 0 x σ).1 * nI 3, (rec 1 0 x σ).2)
  | 51 => ((rec 1 2 x σ).1 ^^^ nI c, (rec 1 2 x σ).2)
  | 60 => ((rec 2 1 (x + nI 1) σ).1, (rec 2 1 (x + nI 1) σ).2)
  | 70 => (nI 5, σ)
  | _ => ((rec 0 1 x σ).1 + m, (rec 0 1 x σ).2)
def vF (κ : Nat) (m : Int32) (c : Nat) : Nat → Nat → Nat → Int32 → VS → Int32 × VS
  | 0, _, _, _, σ => (nI 0, σ)
  | f + 1, k, a, x, σ => if σ.2 = true then (nI 0, σ) else bdF (vF κ m c f) κ m c (bodN (ownN k a) a) x (begS σ (bodN (ownN k a) a))
theorem rk_own : ∀ κ, κ < 7 → rkB (bodN (ownN κ 0) 0) ≤ 2 ∧ rkB (bodN (ownN κ 1) 1) ≤ 5 ∧ rkB (bodN (ownN κ 2) 2) ≤ 7 ∧ rkB (bodN (ownN κ 3) 3) ≤ 6 := by decide +kernel
theorem sub_ne {a b : Int32} (h : ¬ a = b) : ¬ a - b = 0 := fun q => h (by
  have h1 : a = (a - b) + b := by rw [Int32.sub_add_cancel]
  rw [h1, q]; simp)
theorem vRep.beg {X : Mm} {c : Nat} {σ : VS} (h : vRep X c σ) (b : Nat) (hlt : σ.1.length < 30) : vRep (up2 (up2 X 216 σ.1.length (nI b)) 205 17 (nI (σ.1.length + 1))) c (begS σ b) := by
  obtain ⟨h1, h2, h3, h4, h5⟩ := h
  unfold begS
  rw [if_pos hlt]
  refine ⟨?_, by simp; omega, ?_, ?_, fun i hi => ?_⟩
  · rw [up2_at]; simp
  · rw [up2_at_ne _ _ (by decide), up2_ne _ _ _ (by decide)]; exact h3
  · rw [up2_at_ne _ _ (by decide), up2_ne _ _ _ (by decide)]; exact h4
  · rw [up2_ne _ _ _ (by decide)]
    simp only [List.length_append, List.length_cons, List.length_nil] at hi
    by_cases hq : i = σ.1.length
    · subst hq; rw [up2_at]; simp [List.getD_eq_getElem?_getD]
    · rw [up2_at_ne _ _ hq, h5 i (by omega)]
      simp [List.getD_eq_getElem?_getD, List.getElem?_append_left (show i < σ.1.length by omega)]
theorem exV.beg {X : Mm} (i : Nat) (v v2 : Int32) : exV X (up2 (up2 X 216 i v) 205 17 v2) := ⟨fun a h1 _ h3 => (up2_ne _ _ _ h1).trans (up2_ne _ _ _ h3), fun j h1 _ => (up2_at_ne _ _ h1).trans (congrFun (up2_ne _ _ _ (by decide)) j)⟩
theorem vRep.part {X : Mm} {c : Nat} {σ : VS} (h : vRep X c σ) (b : Bool) : vRep (up2 X 205 19 (b2i (b = true))) c (σ.1, b) := by
  obtain ⟨h1, h2, h3, h4, h5⟩ := h
  exact ⟨(up2_at_ne _ _ (by decide)).trans h1, h2, (up2_at_ne _ _ (by decide)).trans h3, up2_at _ _ _ _, fun i hi => (congrFun (up2_ne _ _ _ (by decide)) i).trans (h5 i hi)⟩
theorem exV.part {X : Mm} (v : Int32) : exV X (up2 X 205 19 v) := ⟨fun a h1 _ _ => up2_ne _ _ _ h1, fun j _ h2 => up2_at_ne _ _ h2⟩

set_option maxHeartbeats 4000000 in
set_option maxRecDepth 100000 in
theorem r_began (l : Launch) (G : GC) (X : Mm) (Y : Nat → Int32) (c : Nat) (σ : VS) (hv : vRep X c σ) (b : Nat) : CV l G 1 yX10_began cX10_began 2 [.ref (gb G + 205), .int (nI b)] (upA X 206 Y) (fun M' => ∃ X', M' = upA X' 206 Y ∧ vRep X' c (begS σ b) ∧ exV X X') := by
  refine Con.of (by decide +kernel) (Nat.le_of_ble_eq_true rfl) ?_
  intro f C hRm hRt _
  show Vc f G NPh (upA X 206 Y) 0 [(0, .ref (gb G + 205)), (1, .int (nI b))] []
  have h30 := hv.2.1
  refine v_aload_n C 0 dX10_began_0 rfl ?_
  refine g_X10_280 C (by decide) sh_205 dX10_began_1 ?_
  refine v_top (X 205 17) (congrFun (upA_ne X Y (by decide)) 17) ?_
  refine v_top (nI σ.1.length) hv.1 ?_
  refine v_bipush C (nI 30) dX10_began_4 (by decide) ?_
  refine n_icmp_ge C (by omega) (by omega) 29 dX10_began_6 rfl (fun h_6 => ?_) (fun h_6 => ?_)
  · skip
    exact n_ret C hRt dX10_began_29 ⟨X, rfl, by unfold begS; rw [if_neg (by omega)]; exact hv, exV.rf X⟩
  · skip
    refine v_aload_n C 0 dX10_began_9 rfl ?_
    refine g_X10_47 C (by decide) sh_205 dX10_began_10 ?_
    refine v_aload_n C 0 dX10_began_13 rfl ?_
    refine g_X10_280 C (by decide) sh_205 dX10_began_14 ?_
    refine v_top (X 205 17) (congrFun (upA_ne X Y (by decide)) 17) ?_
    refine v_top (nI σ.1.length) hv.1 ?_
    refine v_iload_n C 1 dX10_began_17 rfl ?_
    refine v_iast C (by decide) sh_216 (by omega) (by decide) dX10_began_18 ?_
    refine v_mem (upA (up2 X 216 σ.1.length (nI b)) 206 Y) (up2_upA_ne _ _ _ _ (by decide)) ?_
    refine v_aload_n C 0 dX10_began_19 rfl ?_
    refine v_dup C dX10_began_20 rfl ?_
    refine g_X10_280 C (by decide) sh_205 dX10_began_21 ?_
    refine v_top ((up2 X 216 σ.1.length (nI b)) 205 17) (congrFun (upA_ne (up2 X 216 σ.1.length (nI b)) Y (by decide)) 17) ?_
    refine v_top (nI σ.1.length) ((congrFun (up2_ne _ _ _ (by decide)) 17).trans hv.1) ?_
    refine v_iconst C (nI 1) dX10_began_24 (by decide) ?_
    refine n_iadd C dX10_began_25 ?_
    refine p_X10_280 C (by decide) sh_205 dX10_began_26 ?_
    refine v_mem (upA (up2 (up2 X 216 σ.1.length (nI b)) 205 17 (nI (σ.1.length + 1))) 206 Y) (up2_upA_ne _ _ _ _ (by decide)) ?_
    exact n_ret C hRt dX10_began_29 ⟨_, rfl, hv.beg b h_6, exV.beg _ _ _⟩
set_option maxHeartbeats 4000000 in
set_option maxRecDepth 100000 in
theorem r_hasOwn (l : Launch) (G : GC) (M : Mm) (k a : Nat) (hk : k < 7) (ha : a < 4) : CP l G 1 yX10_hasOwn cX10_hasOwn 2 .boolean [.int (nI k), .int (nI a)] M (b2i (hasOB k a = true)) := by
  refine Con.of (by decide +kernel) (Nat.le_of_ble_eq_true rfl) ?_
  intro f C hRm hRt _
  rcases (show k = 0 ∨ k = 1 ∨ k = 2 ∨ k = 3 ∨ k = 4 ∨ k = 5 ∨ k = 6 by omega) with h | h | h | h | h | h | h <;> subst h <;> rcases (show a = 0 ∨ a = 1 ∨ a = 2 ∨ a = 3 by omega) with h | h | h | h <;> subst h
  · show Vc f G NPh M 0 [(0, .int (nI 0)), (1, .int (nI 0))] []
    refine v_iload_n C 0 dX10_hasOwn_0 rfl ?_
    refine v_tableIn (off := 39) C 40 dX10_hasOwn_1 (by decide +kernel) (by decide +kernel) (by decide +kernel) rfl ?_
    refine v_iconst C (nI 1) dX10_hasOwn_40 (by decide) ?_
    exact n_iret C hRt rfl dX10_hasOwn_41 (by decide +kernel) rfl
  · show Vc f G NPh M 0 [(0, .int (nI 0)), (1, .int (nI 1))] []
    refine v_iload_n C 0 dX10_hasOwn_0 rfl ?_
    refine v_tableIn (off := 39) C 40 dX10_hasOwn_1 (by decide +kernel) (by decide +kernel) (by decide +kernel) rfl ?_
    refine v_iconst C (nI 1) dX10_hasOwn_40 (by decide) ?_
    exact n_iret C hRt rfl dX10_hasOwn_41 (by decide +kernel) rfl
  · show Vc f G NPh M 0 [(0, .int (nI 0)), (1, .int (nI 2))] []
    refine v_iload_n C 0 dX10_hasOwn_0 rfl ?_
    refine v_tableIn (off := 39) C 40 dX10_hasOwn_1 (by decide +kernel) (by decide +kernel) (by decide +kernel) rfl ?_
    refine v_iconst C (nI 1) dX10_hasOwn_40 (by decide) ?_
    exact n_iret C hRt rfl dX10_hasOwn_41 (by decide +kernel) rfl
  · show Vc f G NPh M 0 [(0, .int (nI 0)), (1, .int (nI 3))] []
    refine v_iload_n C 0 dX10_hasOwn_0 rfl ?_
    refine v_tableIn (off := 39) C 40 dX10_hasOwn_1 (by decide +kernel) (by decide +kernel) (by decide +kernel) rfl ?_
    refine v_iconst C (nI 1) dX10_hasOwn_40 (by decide) ?_
    exact n_iret C hRt rfl dX10_hasOwn_41 (by decide +kernel) rfl
  · show Vc f G NPh M 0 [(0, .int (nI 1)), (1, .int (nI 0))] []
    refine v_iload_n C 0 dX10_hasOwn_0 rfl ?_
    refine v_tableIn (off := 41) C 42 dX10_hasOwn_1 (by decide +kernel) (by decide +kernel) (by decide +kernel) rfl ?_
    refine v_iload_n C 1 dX10_hasOwn_42 rfl ?_
    refine n_if_eq C (by omega) 51 dX10_hasOwn_43 rfl (fun _ => ?_) (fun h_43 => absurd h_43 (by decide))
    refine v_iconst C (nI 1) dX10_hasOwn_51 (by decide) ?_
    refine v_goto C 56 dX10_hasOwn_52 rfl ?_
    exact n_iret C hRt rfl dX10_hasOwn_56 (by decide +kernel) rfl
  · show Vc f G NPh M 0 [(0, .int (nI 1)), (1, .int (nI 1))] []
    refine v_iload_n C 0 dX10_hasOwn_0 rfl ?_
    refine v_tableIn (off := 41) C 42 dX10_hasOwn_1 (by decide +kernel) (by decide +kernel) (by decide +kernel) rfl ?_
    refine v_iload_n C 1 dX10_hasOwn_42 rfl ?_
    refine n_if_eq C (by omega) 51 dX10_hasOwn_43 rfl (fun h_43 => absurd h_43 (by decide)) (fun _ => ?_)
    refine v_iload_n C 1 dX10_hasOwn_46 rfl ?_
    refine v_iconst C (nI 3) dX10_hasOwn_47 (by decide) ?_
    refine n_icmp_ne C (by omega) (by omega) 55 dX10_hasOwn_48 rfl (fun _ => ?_) (fun h_48 => absurd h_48 (by decide))
    refine v_iconst C (nI 0) dX10_hasOwn_55 (by decide) ?_
    exact n_iret C hRt rfl dX10_hasOwn_56 (by decide +kernel) rfl
  · show Vc f G NPh M 0 [(0, .int (nI 1)), (1, .int (nI 2))] []
    refine v_iload_n C 0 dX10_hasOwn_0 rfl ?_
    refine v_tableIn (off := 41) C 42 dX10_hasOwn_1 (by decide +kernel) (by decide +kernel) (by decide +kernel) rfl ?_
    refine v_iload_n C 1 dX10_hasOwn_42 rfl ?_
    refine n_if_eq C (by omega) 51 dX10_hasOwn_43 rfl (fun h_43 => absurd h_43 (by decide)) (fun _ => ?_)
    refine v_iload_n C 1 dX10_hasOwn_46 rfl ?_
    refine v_iconst C (nI 3) dX10_hasOwn_47 (by decide) ?_
    refine n_icmp_ne C (by omega) (by omega) 55 dX10_hasOwn_48 rfl (fun _ => ?_) (fun h_48 => absurd h_48 (by decide))
    refine v_iconst C (nI 0) dX10_hasOwn_55 (by decide) ?_
    exact n_iret C hRt rfl dX10_hasOwn_56 (by decide +kernel) rfl
  · show Vc f G NPh M 0 [(0, .int (nI 1)), (1, .int (nI 3))] []
    refine v_iload_n C 0 dX10_hasOwn_0 rfl ?_
    refine v_tableIn (off := 41) C 42 dX10_hasOwn_1 (by decide +kernel) (by decide +kernel) (by decide +kernel) rfl ?_
    refine v_iload_n C 1 dX10_hasOwn_42 rfl ?_
    refine n_if_eq C (by omega) 51 dX10_hasOwn_43 rfl (fun h_43 => absurd h_43 (by decide)) (fun _ => ?_)
    refine v_iload_n C 1 dX10_hasOwn_46 rfl ?_
    refine v_iconst C (nI 3) dX10_hasOwn_47 (by decide) ?_
    refine n_icmp_ne C (by omega) (by omega) 55 dX10_hasOwn_48 rfl (fun h_48 => absurd h_48 (by decide)) (fun _ => ?_)
    refine v_iconst C (nI 1) dX10_hasOwn_51 (by decide) ?_
    refine v_goto C 56 dX10_hasOwn_52 rfl ?_
    exact n_iret C hRt rfl dX10_hasOwn_56 (by decide +kernel) rfl
  · show Vc f G NPh M 0 [(0, .int (nI 2)), (1, .int (nI 0))] []
    refine v_iload_n C 0 dX10_hasOwn_0 rfl ?_
    refine v_tableIn (off := 56) C 57 dX10_hasOwn_1 (by decide +kernel) (by decide +kernel) (by decide +kernel) rfl ?_
    refine v_iload_n C 1 dX10_hasOwn_57 rfl ?_
    refine v_iconst C (nI 1) dX10_hasOwn_58 (by decide) ?_
    refine n_icmp_ne C (by omega) (by omega) 66 dX10_hasOwn_59 rfl (fun _ => ?_) (fun h_59 => absurd h_59 (by decide))
    refine v_iconst C (nI 0) dX10_hasOwn_66 (by decide) ?_
    exact n_iret C hRt rfl dX10_hasOwn_67 (by decide +kernel) rfl
  · show Vc f G NPh M 0 [(0, .int (nI 2)), (1, .int (nI 1))] []
    refine v_iload_n C 0 dX10_hasOwn_0 rfl ?_
    refine v_tableIn (off := 56) C 57 dX10_hasOwn_1 (by decide +kernel) (by decide +kernel) (by decide +kernel) rfl ?_
    refine v_iload_n C 1 dX10_hasOwn_57 rfl ?_
    refine v_iconst C (nI 1) dX10_hasOwn_58 (by decide) ?_
    refine n_icmp_ne C (by omega) (by omega) 66 dX10_hasOwn_59 rfl (fun h_59 => absurd h_59 (by decide)) (fun _ => ?_)
    refine v_iconst C (nI 1) dX10_hasOwn_62 (by decide) ?_
    refine v_goto C 67 dX10_hasOwn_63 rfl ?_
    exact n_iret C hRt rfl dX10_hasOwn_67 (by decide +kernel) rfl
  · show Vc f G NPh M 0 [(0, .int (nI 2)), (1, .int (nI 2))] []
    refine v_iload_n C 0 dX10_hasOwn_0 rfl ?_
    refine v_tableIn (off := 56) C 57 dX10_hasOwn_1 (by decide +kernel) (by decide +kernel) (by decide +kernel) rfl ?_
    refine v_iload_n C 1 dX10_hasOwn_57 rfl ?_
    refine v_iconst C (nI 1) dX10_hasOwn_58 (by decide) ?_
    refine n_icmp_ne C (by omega) (by omega) 66 dX10_hasOwn_59 rfl (fun _ => ?_) (fun h_59 => absurd h_59 (by decide))
    refine v_iconst C (nI 0) dX10_hasOwn_66 (by decide) ?_
    exact n_iret C hRt rfl dX10_hasOwn_67 (by decide +kernel) rfl
  · show Vc f G NPh M 0 [(0, .int (nI 2)), (1, .int (nI 3))] []
    refine v_iload_n C 0 dX10_hasOwn_0 rfl ?_
    refine v_tableIn (off := 56) C 57 dX10_hasOwn_1 (by decide +kernel) (by decide +kernel) (by decide +kernel) rfl ?_
    refine v_iload_n C 1 dX10_hasOwn_57 rfl ?_
    refine v_iconst C (nI 1) dX10_hasOwn_58 (by decide) ?_
    refine n_icmp_ne C (by omega) (by omega) 66 dX10_hasOwn_59 rfl (fun _ => ?_) (fun h_59 => absurd h_59 (by decide))
    refine v_iconst C (nI 0) dX10_hasOwn_66 (by decide) ?_
    exact n_iret C hRt rfl dX10_hasOwn_67 (by decide +kernel) rfl
  · show Vc f G NPh M 0 [(0, .int (nI 3)), (1, .int (nI 0))] []
    refine v_iload_n C 0 dX10_hasOwn_0 rfl ?_
    refine v_tableIn (off := 67) C 68 dX10_hasOwn_1 (by decide +kernel) (by decide +kernel) (by decide +kernel) rfl ?_
    refine v_iload_n C 1 dX10_hasOwn_68 rfl ?_
    refine v_iconst C (nI 2) dX10_hasOwn_69 (by decide) ?_
    refine n_icmp_ne C (by omega) (by omega) 77 dX10_hasOwn_70 rfl (fun _ => ?_) (fun h_70 => absurd h_70 (by decide))
    refine v_iconst C (nI 0) dX10_hasOwn_77 (by decide) ?_
    exact n_iret C hRt rfl dX10_hasOwn_78 (by decide +kernel) rfl
  · show Vc f G NPh M 0 [(0, .int (nI 3)), (1, .int (nI 1))] []
    refine v_iload_n C 0 dX10_hasOwn_0 rfl ?_
    refine v_tableIn (off := 67) C 68 dX10_hasOwn_1 (by decide +kernel) (by decide +kernel) (by decide +kernel) rfl ?_
    refine v_iload_n C 1 dX10_hasOwn_68 rfl ?_
    refine v_iconst C (nI 2) dX10_hasOwn_69 (by decide) ?_
    refine n_icmp_ne C (by omega) (by omega) 77 dX10_hasOwn_70 rfl (fun _ => ?_) (fun h_70 => absurd h_70 (by decide))
    refine v_iconst C (nI 0) dX10_hasOwn_77 (by decide) ?_
    exact n_iret C hRt rfl dX10_hasOwn_78 (by decide +kernel) rfl
  · show Vc f G NPh M 0 [(0, .int (nI 3)), (1, .int (nI 2))] []
    refine v_iload_n C 0 dX10_hasOwn_0 rfl ?_
    refine v_tableIn (off := 67) C 68 dX10_hasOwn_1 (by decide +kernel) (by decide +kernel) (by decide +kernel) rfl ?_
    refine v_iload_n C 1 dX10_hasOwn_68 rfl ?_
    refine v_iconst C (nI 2) dX10_hasOwn_69 (by decide) ?_
    refine n_icmp_ne C (by omega) (by omega) 77 dX10_hasOwn_70 rfl (fun h_70 => absurd h_70 (by decide)) (fun _ => ?_)
    refine v_iconst C (nI 1) dX10_hasOwn_73 (by decide) ?_
    refine v_goto C 78 dX10_hasOwn_74 rfl ?_
    exact n_iret C hRt rfl dX10_hasOwn_78 (by decide +kernel) rfl
  · show Vc f G NPh M 0 [(0, .int (nI 3)), (1, .int (nI 3))] []
    refine v_iload_n C 0 dX10_hasOwn_0 rfl ?_
    refine v_tableIn (off := 67) C 68 dX10_hasOwn_1 (by decide +kernel) (by decide +kernel) (by decide +kernel) rfl ?_
    refine v_iload_n C 1 dX10_hasOwn_68 rfl ?_
    refine v_iconst C (nI 2) dX10_hasOwn_69 (by decide) ?_
    refine n_icmp_ne C (by omega) (by omega) 77 dX10_hasOwn_70 rfl (fun _ => ?_) (fun h_70 => absurd h_70 (by decide))
    refine v_iconst C (nI 0) dX10_hasOwn_77 (by decide) ?_
    exact n_iret C hRt rfl dX10_hasOwn_78 (by decide +kernel) rfl
  · show Vc f G NPh M 0 [(0, .int (nI 4)), (1, .int (nI 0))] []
    refine v_iload_n C 0 dX10_hasOwn_0 rfl ?_
    refine v_tableIn (off := 78) C 79 dX10_hasOwn_1 (by decide +kernel) (by decide +kernel) (by decide +kernel) rfl ?_
    refine v_iload_n C 1 dX10_hasOwn_79 rfl ?_
    refine n_if_eq C (by omega) 88 dX10_hasOwn_80 rfl (fun _ => ?_) (fun h_80 => absurd h_80 (by decide))
    refine v_iconst C (nI 1) dX10_hasOwn_88 (by decide) ?_
    refine v_goto C 93 dX10_hasOwn_89 rfl ?_
    exact n_iret C hRt rfl dX10_hasOwn_93 (by decide +kernel) rfl
  · show Vc f G NPh M 0 [(0, .int (nI 4)), (1, .int (nI 1))] []
    refine v_iload_n C 0 dX10_hasOwn_0 rfl ?_
    refine v_tableIn (off := 78) C 79 dX10_hasOwn_1 (by decide +kernel) (by decide +kernel) (by decide +kernel) rfl ?_
    refine v_iload_n C 1 dX10_hasOwn_79 rfl ?_
    refine n_if_eq C (by omega) 88 dX10_hasOwn_80 rfl (fun h_80 => absurd h_80 (by decide)) (fun _ => ?_)
    refine v_iload_n C 1 dX10_hasOwn_83 rfl ?_
    refine v_iconst C (nI 2) dX10_hasOwn_84 (by decide) ?_
    refine n_icmp_ne C (by omega) (by omega) 92 dX10_hasOwn_85 rfl (fun _ => ?_) (fun h_85 => absurd h_85 (by decide))
    refine v_iconst C (nI 0) dX10_hasOwn_92 (by decide) ?_
    exact n_iret C hRt rfl dX10_hasOwn_93 (by decide +kernel) rfl
  · show Vc f G NPh M 0 [(0, .int (nI 4)), (1, .int (nI 2))] []
    refine v_iload_n C 0 dX10_hasOwn_0 rfl ?_
    refine v_tableIn (off := 78) C 79 dX10_hasOwn_1 (by decide +kernel) (by decide +kernel) (by decide +kernel) rfl ?_
    refine v_iload_n C 1 dX10_hasOwn_79 rfl ?_
    refine n_if_eq C (by omega) 88 dX10_hasOwn_80 rfl (fun h_80 => absurd h_80 (by decide)) (fun _ => ?_)
    refine v_iload_n C 1 dX10_hasOwn_83 rfl ?_
    refine v_iconst C (nI 2) dX10_hasOwn_84 (by decide) ?_
    refine n_icmp_ne C (by omega) (by omega) 92 dX10_hasOwn_85 rfl (fun h_85 => absurd h_85 (by decide)) (fun _ => ?_)
    refine v_iconst C (nI 1) dX10_hasOwn_88 (by decide) ?_
    refine v_goto C 93 dX10_hasOwn_89 rfl ?_
    exact n_iret C hRt rfl dX10_hasOwn_93 (by decide +kernel) rfl
  · show Vc f G NPh M 0 [(0, .int (nI 4)), (1, .int (nI 3))] []
    refine v_iload_n C 0 dX10_hasOwn_0 rfl ?_
    refine v_tableIn (off := 78) C 79 dX10_hasOwn_1 (by decide +kernel) (by decide +kernel) (by decide +kernel) rfl ?_
    refine v_iload_n C 1 dX10_hasOwn_79 rfl ?_
    refine n_if_eq C (by omega) 88 dX10_hasOwn_80 rfl (fun h_80 => absurd h_80 (by decide)) (fun _ => ?_)
    refine v_iload_n C 1 dX10_hasOwn_83 rfl ?_
    refine v_iconst C (nI 2) dX10_hasOwn_84 (by decide) ?_
    refine n_icmp_ne C (by omega) (by omega) 92 dX10_hasOwn_85 rfl (fun _ => ?_) (fun h_85 => absurd h_85 (by decide))
    refine v_iconst C (nI 0) dX10_hasOwn_92 (by decide) ?_
    exact n_iret C hRt rfl dX10_hasOwn_93 (by decide +kernel) rfl
  · show Vc f G NPh M 0 [(0, .int (nI 5)), (1, .int (nI 0))] []
    refine v_iload_n C 0 dX10_hasOwn_0 rfl ?_
    refine v_tableIn (off := 56) C 57 dX10_hasOwn_1 (by decide +kernel) (by decide +kernel) (by decide +kernel) rfl ?_
    refine v_iload_n C 1 dX10_hasOwn_57 rfl ?_
    refine v_iconst C (nI 1) dX10_hasOwn_58 (by decide) ?_
    refine n_icmp_ne C (by omega) (by omega) 66 dX10_hasOwn_59 rfl (fun _ => ?_) (fun h_59 => absurd h_59 (by decide))
    refine v_iconst C (nI 0) dX10_hasOwn_66 (by decide) ?_
    exact n_iret C hRt rfl dX10_hasOwn_67 (by decide +kernel) rfl
  · show Vc f G NPh M 0 [(0, .int (nI 5)), (1, .int (nI 1))] []
    refine v_iload_n C 0 dX10_hasOwn_0 rfl ?_
    refine v_tableIn (off := 56) C 57 dX10_hasOwn_1 (by decide +kernel) (by decide +kernel) (by decide +kernel) rfl ?_
    refine v_iload_n C 1 dX10_hasOwn_57 rfl ?_
    refine v_iconst C (nI 1) dX10_hasOwn_58 (by decide) ?_
    refine n_icmp_ne C (by omega) (by omega) 66 dX10_hasOwn_59 rfl (fun h_59 => absurd h_59 (by decide)) (fun _ => ?_)
    refine v_iconst C (nI 1) dX10_hasOwn_62 (by decide) ?_
    refine v_goto C 67 dX10_hasOwn_63 rfl ?_
    exact n_iret C hRt rfl dX10_hasOwn_67 (by decide +kernel) rfl
  · show Vc f G NPh M 0 [(0, .int (nI 5)), (1, .int (nI 2))] []
    refine v_iload_n C 0 dX10_hasOwn_0 rfl ?_
    refine v_tableIn (off := 56) C 57 dX10_hasOwn_1 (by decide +kernel) (by decide +kernel) (by decide +kernel) rfl ?_
    refine v_iload_n C 1 dX10_hasOwn_57 rfl ?_
    refine v_iconst C (nI 1) dX10_hasOwn_58 (by decide) ?_
    refine n_icmp_ne C (by omega) (by omega) 66 dX10_hasOwn_59 rfl (fun _ => ?_) (fun h_59 => absurd h_59 (by decide))
    refine v_iconst C (nI 0) dX10_hasOwn_66 (by decide) ?_
    exact n_iret C hRt rfl dX10_hasOwn_67 (by decide +kernel) rfl
  · show Vc f G NPh M 0 [(0, .int (nI 5)), (1, .int (nI 3))] []
    refine v_iload_n C 0 dX10_hasOwn_0 rfl ?_
    refine v_tableIn (off := 56) C 57 dX10_hasOwn_1 (by decide +kernel) (by decide +kernel) (by decide +kernel) rfl ?_
    refine v_iload_n C 1 dX10_hasOwn_57 rfl ?_
    refine v_iconst C (nI 1) dX10_hasOwn_58 (by decide) ?_
    refine n_icmp_ne C (by omega) (by omega) 66 dX10_hasOwn_59 rfl (fun _ => ?_) (fun h_59 => absurd h_59 (by decide))
    refine v_iconst C (nI 0) dX10_hasOwn_66 (by decide) ?_
    exact n_iret C hRt rfl dX10_hasOwn_67 (by decide +kernel) rfl
  · show Vc f G NPh M 0 [(0, .int (nI 6)), (1, .int (nI 0))] []
    refine v_iload_n C 0 dX10_hasOwn_0 rfl ?_
    refine v_tableOut C 94 dX10_hasOwn_1 (by first | exact Or.inr (by decide +kernel) | exact Or.inl (by decide +kernel)) rfl ?_
    refine v_iload_n C 1 dX10_hasOwn_94 rfl ?_
    refine v_iconst C (nI 2) dX10_hasOwn_95 (by decide) ?_
    refine n_icmp_ge C (by omega) (by omega) 103 dX10_hasOwn_96 rfl (fun h_96 => absurd h_96 (by decide)) (fun _ => ?_)
    refine v_iconst C (nI 1) dX10_hasOwn_99 (by decide) ?_
    refine v_goto C 104 dX10_hasOwn_100 rfl ?_
    exact n_iret C hRt rfl dX10_hasOwn_104 (by decide +kernel) rfl
  · show Vc f G NPh M 0 [(0, .int (nI 6)), (1, .int (nI 1))] []
    refine v_iload_n C 0 dX10_hasOwn_0 rfl ?_
    refine v_tableOut C 94 dX10_hasOwn_1 (by first | exact Or.inr (by decide +kernel) | exact Or.inl (by decide +kernel)) rfl ?_
    refine v_iload_n C 1 dX10_hasOwn_94 rfl ?_
    refine v_iconst C (nI 2) dX10_hasOwn_95 (by decide) ?_
    refine n_icmp_ge C (by omega) (by omega) 103 dX10_hasOwn_96 rfl (fun h_96 => absurd h_96 (by decide)) (fun _ => ?_)
    refine v_iconst C (nI 1) dX10_hasOwn_99 (by decide) ?_
    refine v_goto C 104 dX10_hasOwn_100 rfl ?_
    exact n_iret C hRt rfl dX10_hasOwn_104 (by decide +kernel) rfl
  · show Vc f G NPh M 0 [(0, .int (nI 6)), (1, .int (nI 2))] []
    refine v_iload_n C 0 dX10_hasOwn_0 rfl ?_
    refine v_tableOut C 94 dX10_hasOwn_1 (by first | exact Or.inr (by decide +kernel) | exact Or.inl (by decide +kernel)) rfl ?_
    refine v_iload_n C 1 dX10_hasOwn_94 rfl ?_
    refine v_iconst C (nI 2) dX10_hasOwn_95 (by decide) ?_
    refine n_icmp_ge C (by omega) (by omega) 103 dX10_hasOwn_96 rfl (fun _ => ?_) (fun h_96 => absurd h_96 (by decide))
    refine v_iconst C (nI 0) dX10_hasOwn_103 (by decide) ?_
    exact n_iret C hRt rfl dX10_hasOwn_104 (by decide +kernel) rfl
  · show Vc f G NPh M 0 [(0, .int (nI 6)), (1, .int (nI 3))] []
    refine v_iload_n C 0 dX10_hasOwn_0 rfl ?_
    refine v_tableOut C 94 dX10_hasOwn_1 (by first | exact Or.inr (by decide +kernel) | exact Or.inl (by decide +kernel)) rfl ?_
    refine v_iload_n C 1 dX10_hasOwn_94 rfl ?_
    refine v_iconst C (nI 2) dX10_hasOwn_95 (by decide) ?_
    refine n_icmp_ge C (by omega) (by omega) 103 dX10_hasOwn_96 rfl (fun _ => ?_) (fun h_96 => absurd h_96 (by decide))
    refine v_iconst C (nI 0) dX10_hasOwn_103 (by decide) ?_
    exact n_iret C hRt rfl dX10_hasOwn_104 (by decide +kernel) rfl
/-- bodyFrom, f deep -/
def VB (l : Launch) (G : GC) (Y : Nat → Int32) (κ c f : Nat) : Prop := ∀ (X : Mm) (k a : Nat) (x : Int32) (σ : VS), vRep X c σ → k < 7 → a < 4 → rkB (bodN (ownN k a) a) < f → CI l G (10 + 3 * f) yX10_bodyFrom cX10_bodyFrom 5 .int [.ref (gb G + 205), .int (nI k), .int (nI a), .int x] (upA X 206 Y) (vF κ (Y (7 + 6 * c + 1)) c f k a x σ).1 (fun M' => ∃ X', M' = upA X' 206 Y ∧ vRep X' c (vF κ (Y (7 + 6 * c + 1)) c f k a x σ).2 ∧ exV X X')
set_option maxHeartbeats 4000000 in
set_option maxRecDepth 100000 in
theorem r_voiced (l : Launch) (G : GC) (Y : Nat → Int32) (κ c fu : Nat) (hB : VB l G Y κ c fu) (hκ : κ < 7) (hκ2 : Y (7 + 6 * c + 0) = nI κ) (hc : c < 10) (X : Mm) (a : Nat) (x : Int32) (σ : VS) (hv : vRep X c σ) (ha : a < 4) (hr : rkB (bodN (ownN κ a) a) < fu) : CI l G (11 + 3 * fu) yX10_voiced cX10_voiced 3 .int [.ref (gb G + 205), .int (nI a), .int x] (upA X 206 Y) ((vF κ (Y (7 + 6 * c + 1)) c fu κ a x σ).1) (fun M' => ∃ X', M' = upA X' 206 Y ∧ vRep X' c ((vF κ (Y (7 + 6 * c + 1)) c fu κ a x σ).2) ∧ exV X X') := by
  refine Con.of (by decide +kernel) (Nat.le_of_ble_eq_true rfl) ?_
  intro f C hRm hRt _
  show Vc f G NPh (upA X 206 Y) 0 [(0, .ref (gb G + 205)), (1, .int (nI a)), (2, .int x)] []
  refine v_aload_n C 0 dX10_voiced_0 rfl ?_
  refine v_aload_n C 0 dX10_voiced_1 rfl ?_
  refine v_aload_n C 0 dX10_voiced_2 rfl ?_
  refine g_X10_283 C (by decide) sh_205 dX10_voiced_3 ?_
  refine v_top (X 205 18) (congrFun (upA_ne X Y (by decide)) 18) ?_
  refine v_top (nI c) hv.2.2.1 ?_
  refine v_iconst C (nI 0) dX10_voiced_6 (by decide) ?_
  refine n_callVp C hRm [.int (nI c), .int (nI 0)] cw_X10_of ml_X10_86 (by decide) sh_205 (by decide) rfl (r_of l G X Y c 0 (by omega)) (by omega) rfl rfl (Nat.le_of_ble_eq_true rfl) dX10_voiced_7 ?_
  refine v_top (nI κ) hκ2 ?_
  refine v_iload_n C 1 dX10_voiced_10 rfl ?_
  refine v_iload_n C 2 dX10_voiced_11 rfl ?_
  refine n_callVi C hRm [.int (nI κ), .int (nI a), .int x] cw_X10_bodyFrom ml_X10_286 (by decide) sh_205 (by decide) rfl (hB X κ a x σ hv hκ ha hr) (by omega) rfl rfl (Nat.le_of_ble_eq_true rfl) dX10_voiced_12 (fun M5 hP_12 => ?_)
  obtain ⟨X9, rfl, hv9, he9⟩ := hP_12
  exact n_iret C hRt rfl dX10_voiced_15 rfl ⟨X9, rfl, hv9, he9⟩
set_option maxHeartbeats 4000000 in
set_option maxRecDepth 100000 in
theorem r_body10 (l : Launch) (G : GC) (Y : Nat → Int32) (κ c fu : Nat) (hB : VB l G Y κ c fu) (hκ : κ < 7) (hκ2 : Y (7 + 6 * c + 0) = nI κ) (hc : c < 10) (X : Mm) (x : Int32) (σ : VS) (hv : vRep X c σ) (hf : 0 < fu + 1) : CI l G (12 + 3 * fu) yX10_body cX10_body 6 .int [.ref (gb G + 205), .int (nI 0), .int (nI 0), .int x] (upA X 206 Y) ((bdF (vF κ (Y (7 + 6 * c + 1)) c fu) κ (Y (7 + 6 * c + 1)) c 10 x (begS σ 10)).1) (fun M' => ∃ X', M' = upA X' 206 Y ∧ vRep X' c ((bdF (vF κ (Y (7 + 6 * c + 1)) c fu) κ (Y (7 + 6 * c + 1)) c 10 x (begS σ 10)).2) ∧ exV X X') := by
  refine Con.of (by decide +kernel) (Nat.le_of_ble_eq_true rfl) ?_
  intro f C hRm hRt _
  show Vc f G NPh (upA X 206 Y) 0 [(0, .ref (gb G + 205)), (1, .int (nI 0)), (2, .int (nI 0)), (3, .int x)] []
  refine v_aload_n C 0 dX10_body_0 rfl ?_
  refine v_aload_n C 0 dX10_body_1 rfl ?_
  refine g_X10_283 C (by decide) sh_205 dX10_body_2 ?_
  refine v_top (X 205 18) (congrFun (upA_ne X Y (by decide)) 18) ?_
  refine v_top (nI c) hv.2.2.1 ?_
  refine v_iconst C (nI 1) dX10_body_5 (by decide) ?_
  refine n_callVp C hRm [.int (nI c), .int (nI 1)] cw_X10_of ml_X10_86 (by decide) sh_205 (by decide) rfl (r_of l G X Y c 1 (by omega)) (by omega) rfl rfl (Nat.le_of_ble_eq_true rfl) dX10_body_6 ?_
  refine v_istore C [(4, .int (Y (7 + 6 * c + 1))), (0, .ref (gb G + 205)), (1, .int (nI 0)), (2, .int (nI 0)), (3, .int x)] dX10_body_9 (by decide) rfl ?_
  refine v_iconst C (nI 4) dX10_body_11 (by decide) ?_
  refine v_iload_n C 2 dX10_body_12 rfl ?_
  refine n_imul C dX10_body_13 ?_
  refine v_iload_n C 3 dX10_body_14 rfl ?_
  refine n_iadd C dX10_body_15 ?_
  refine v_top (nI 0) rfl ?_
  refine v_tableIn (off := 116) C 132 dX10_body_16 (by decide +kernel) (by decide +kernel) (by decide +kernel) rfl ?_
  refine v_aload_n C 1 dX10_body_132 rfl ?_
  refine v_bipush C (nI 10) dX10_body_133 (by decide) ?_
  refine n_callVv C hRm [.int (nI 10)] cw_X10_began ml_X10_298 (by decide) sh_205 (by decide) rfl (r_began l G X Y c σ hv 10) (by omega) rfl rfl (Nat.le_of_ble_eq_true rfl) dX10_body_135 (fun M5 hP_135 => ?_)
  obtain ⟨X135, rfl, hv135, he135⟩ := hP_135
  have hE135 := (exV.rf X).tr he135
  refine v_iload_n C 4 dX10_body_138 rfl ?_
  refine v_aload_n C 1 dX10_body_139 rfl ?_
  refine g_X10_283 C (by decide) sh_205 dX10_body_140 ?_
  refine v_top (X135 205 18) (congrFun (upA_ne X135 Y (by decide)) 18) ?_
  refine v_top (nI c) hv135.2.2.1 ?_
  refine v_iadd C dX10_body_143 ?_
  exact n_iret C hRt rfl dX10_body_144 rfl ⟨_, rfl, hv135, hE135⟩
set_option maxHeartbeats 4000000 in
set_option maxRecDepth 100000 in
theorem r_body11 (l : Launch) (G : GC) (Y : Nat → Int32) (κ c fu : Nat) (hB : VB l G Y κ c fu) (hκ : κ < 7) (hκ2 : Y (7 + 6 * c + 0) = nI κ) (hc : c < 10) (X : Mm) (x : Int32) (σ : VS) (hv : vRep X c σ) (hf : 3 < fu + 1) : CI l G (12 + 3 * fu) yX10_body cX10_body 6 .int [.ref (gb G + 205), .int (nI 0), .int (nI 1), .int x] (upA X 206 Y) ((bdF (vF κ (Y (7 + 6 * c + 1)) c fu) κ (Y (7 + 6 * c + 1)) c 11 x (begS σ 11)).1) (fun M' => ∃ X', M' = upA X' 206 Y ∧ vRep X' c ((bdF (vF κ (Y (7 + 6 * c + 1)) c fu) κ (Y (7 + 6 * c + 1)) c 11 x (begS σ 11)).2) ∧ exV X X') := by
  refine Con.of (by decide +kernel) (Nat.le_of_ble_eq_true rfl) ?_
  intro f C hRm hRt _
  show Vc f G NPh (upA X 206 Y) 0 [(0, .ref (gb G + 205)), (1, .int (nI 0)), (2, .int (nI 1)), (3, .int x)] []
  refine v_aload_n C 0 dX10_body_0 rfl ?_
  refine v_aload_n C 0 dX10_body_1 rfl ?_
  refine g_X10_283 C (by decide) sh_205 dX10_body_2 ?_
  refine v_top (X 205 18) (congrFun (upA_ne X Y (by decide)) 18) ?_
  refine v_top (nI c) hv.2.2.1 ?_
  refine v_iconst C (nI 1) dX10_body_5 (by decide) ?_
  refine n_callVp C hRm [.int (nI c), .int (nI 1)] cw_X10_of ml_X10_86 (by decide) sh_205 (by decide) rfl (r_of l G X Y c 1 (by omega)) (by omega) rfl rfl (Nat.le_of_ble_eq_true rfl) dX10_body_6 ?_
  refine v_istore C [(4, .int (Y (7 + 6 * c + 1))), (0, .ref (gb G + 205)), (1, .int (nI 0)), (2, .int (nI 1)), (3, .int x)] dX10_body_9 (by decide) rfl ?_
  refine v_iconst C (nI 4) dX10_body_11 (by decide) ?_
  refine v_iload_n C 2 dX10_body_12 rfl ?_
  refine n_imul C dX10_body_13 ?_
  refine v_iload_n C 3 dX10_body_14 rfl ?_
  refine n_iadd C dX10_body_15 ?_
  refine v_top (nI 1) rfl ?_
  refine v_tableIn (off := 129) C 145 dX10_body_16 (by decide +kernel) (by decide +kernel) (by decide +kernel) rfl ?_
  refine v_aload_n C 1 dX10_body_145 rfl ?_
  refine v_bipush C (nI 11) dX10_body_146 (by decide) ?_
  refine n_callVv C hRm [.int (nI 11)] cw_X10_began ml_X10_298 (by decide) sh_205 (by decide) rfl (r_began l G X Y c σ hv 11) (by omega) rfl rfl (Nat.le_of_ble_eq_true rfl) dX10_body_148 (fun M5 hP_148 => ?_)
  obtain ⟨X148, rfl, hv148, he148⟩ := hP_148
  have hE148 := (exV.rf X).tr he148
  refine v_aload_n C 1 dX10_body_151 rfl ?_
  refine v_iconst C (nI 0) dX10_body_152 (by decide) ?_
  refine v_iload_n C 4 dX10_body_153 rfl ?_
  refine n_callVi C hRm [.int (nI 0), .int x] cw_X10_voiced ml_X10_301 (by decide) sh_205 (by decide) rfl (r_voiced l G Y κ c fu hB hκ hκ2 hc X148 0 x (begS σ 11) hv148 (by decide) (by have := (rk_own κ hκ).1; omega)) (by omega) rfl rfl (Nat.le_of_ble_eq_true rfl) dX10_body_154 (fun M5 hP_154 => ?_)
  obtain ⟨X154, rfl, hv154, he154⟩ := hP_154
  have hE154 := (hE148).tr he154
  refine v_iconst C (nI 2) dX10_body_157 (by decide) ?_
  refine v_imul C dX10_body_158 ?_
  exact n_iret C hRt rfl dX10_body_159 rfl ⟨_, rfl, hv154, hE154⟩
set_option maxHeartbeats 4000000 in
set_option maxRecDepth 100000 in
theorem r_body12 (l : Launch) (G : GC) (Y : Nat → Int32) (κ c fu : Nat) (hB : VB l G Y κ c fu) (hκ : κ < 7) (hκ2 : Y (7 + 6 * c + 0) = nI κ) (hc : c < 10) (X : Mm) (x : Int32) (σ : VS) (hv : vRep X c σ) (hf : 6 < fu + 1) : CI l G (12 + 3 * fu) yX10_body cX10_body 6 .int [.ref (gb G + 205), .int (nI 0), .int (nI 2), .int x] (upA X 206 Y) ((bdF (vF κ (Y (7 + 6 * c + 1)) c fu) κ (Y (7 + 6 * c + 1)) c 12 x (begS σ 12)).1) (fun M' => ∃ X', M' = upA X' 206 Y ∧ vRep X' c ((bdF (vF κ (Y (7 + 6 * c + 1)) c fu) κ (Y (7 + 6 * c + 1)) c 12 x (begS σ 12)).2) ∧ exV X X') := by
  refine Con.of (by decide +kernel) (Nat.le_of_ble_eq_true rfl) ?_
  intro f C hRm hRt _
  show Vc f G NPh (upA X 206 Y) 0 [(0, .ref (gb G + 205)), (1, .int (nI 0)), (2, .int (nI 2)), (3, .int x)] []
  refine v_aload_n C 0 dX10_body_0 rfl ?_
  refine v_aload_n C 0 dX10_body_1 rfl ?_
  refine g_X10_283 C (by decide) sh_205 dX10_body_2 ?_
  refine v_top (X 205 18) (congrFun (upA_ne X Y (by decide)) 18) ?_
  refine v_top (nI c) hv.2.2.1 ?_
  refine v_iconst C (nI 1) dX10_body_5 (by decide) ?_
  refine n_callVp C hRm [.int (nI c), .int (nI 1)] cw_X10_of ml_X10_86 (by decide) sh_205 (by decide) rfl (r_of l G X Y c 1 (by omega)) (by omega) rfl rfl (Nat.le_of_ble_eq_true rfl) dX10_body_6 ?_
  refine v_istore C [(4, .int (Y (7 + 6 * c + 1))), (0, .ref (gb G + 205)), (1, .int (nI 0)), (2, .int (nI 2)), (3, .int x)] dX10_body_9 (by decide) rfl ?_
  refine v_iconst C (nI 4) dX10_body_11 (by decide) ?_
  refine v_iload_n C 2 dX10_body_12 rfl ?_
  refine n_imul C dX10_body_13 ?_
  refine v_iload_n C 3 dX10_body_14 rfl ?_
  refine n_iadd C dX10_body_15 ?_
  refine v_top (nI 2) rfl ?_
  refine v_tableIn (off := 144) C 160 dX10_body_16 (by decide +kernel) (by decide +kernel) (by decide +kernel) rfl ?_
  refine v_aload_n C 1 dX10_body_160 rfl ?_
  refine v_bipush C (nI 12) dX10_body_161 (by decide) ?_
  refine n_callVv C hRm [.int (nI 12)] cw_X10_began ml_X10_298 (by decide) sh_205 (by decide) rfl (r_began l G X Y c σ hv 12) (by omega) rfl rfl (Nat.le_of_ble_eq_true rfl) dX10_body_163 (fun M5 hP_163 => ?_)
  obtain ⟨X163, rfl, hv163, he163⟩ := hP_163
  have hE163 := (exV.rf X).tr he163
  refine v_aload_n C 1 dX10_body_166 rfl ?_
  refine v_iconst C (nI 1) dX10_body_167 (by decide) ?_
  refine v_iload_n C 4 dX10_body_168 rfl ?_
  refine n_callVi C hRm [.int (nI 1), .int x] cw_X10_voiced ml_X10_301 (by decide) sh_205 (by decide) rfl (r_voiced l G Y κ c fu hB hκ hκ2 hc X163 1 x (begS σ 12) hv163 (by decide) (by have := (rk_own κ hκ).2.1; omega)) (by omega) rfl rfl (Nat.le_of_ble_eq_true rfl) dX10_body_169 (fun M5 hP_169 => ?_)
  obtain ⟨X169, rfl, hv169, he169⟩ := hP_169
  have hE169 := (hE163).tr he169
  refine v_iload C 0 dX10_body_172 rfl ?_
  refine v_isub C dX10_body_174 ?_
  exact n_iret C hRt rfl dX10_body_175 rfl ⟨_, rfl, hv169, hE169⟩
set_option maxHeartbeats 4000000 in
set_option maxRecDepth 100000 in
theorem r_body13 (l : Launch) (G : GC) (Y : Nat → Int32) (κ c fu : Nat) (hB : VB l G Y κ c fu) (hκ : κ < 7) (hκ2 : Y (7 + 6 * c + 0) = nI κ) (hc : c < 10) (X : Mm) (x : Int32) (σ : VS) (hv : vRep X c σ) (hf : 0 < fu + 1) : CI l G (12 + 3 * fu) yX10_body cX10_body 6 .int [.ref (gb G + 205), .int (nI 0), .int (nI 3), .int x] (upA X 206 Y) ((bdF (vF κ (Y (7 + 6 * c + 1)) c fu) κ (Y (7 + 6 * c + 1)) c 13 x (begS σ 13)).1) (fun M' => ∃ X', M' = upA X' 206 Y ∧ vRep X' c ((bdF (vF κ (Y (7 + 6 * c + 1)) c fu) κ (Y (7 + 6 * c + 1)) c 13 x (begS σ 13)).2) ∧ exV X X') := by
  refine Con.of (by decide +kernel) (Nat.le_of_ble_eq_true rfl) ?_
  intro f C hRm hRt _
  show Vc f G NPh (upA X 206 Y) 0 [(0, .ref (gb G + 205)), (1, .int (nI 0)), (2, .int (nI 3)), (3, .int x)] []
  refine v_aload_n C 0 dX10_body_0 rfl ?_
  refine v_aload_n C 0 dX10_body_1 rfl ?_
  refine g_X10_283 C (by decide) sh_205 dX10_body_2 ?_
  refine v_top (X 205 18) (congrFun (upA_ne X Y (by decide)) 18) ?_
  refine v_top (nI c) hv.2.2.1 ?_
  refine v_iconst C (nI 1) dX10_body_5 (by decide) ?_
  refine n_callVp C hRm [.int (nI c), .int (nI 1)] cw_X10_of ml_X10_86 (by decide) sh_205 (by decide) rfl (r_of l G X Y c 1 (by omega)) (by omega) rfl rfl (Nat.le_of_ble_eq_true rfl) dX10_body_6 ?_
  refine v_istore C [(4, .int (Y (7 + 6 * c + 1))), (0, .ref (gb G + 205)), (1, .int (nI 0)), (2, .int (nI 3)), (3, .int x)] dX10_body_9 (by decide) rfl ?_
  refine v_iconst C (nI 4) dX10_body_11 (by decide) ?_
  refine v_iload_n C 2 dX10_body_12 rfl ?_
  refine n_imul C dX10_body_13 ?_
  refine v_iload_n C 3 dX10_body_14 rfl ?_
  refine n_iadd C dX10_body_15 ?_
  refine v_top (nI 3) rfl ?_
  refine v_tableIn (off := 160) C 176 dX10_body_16 (by decide +kernel) (by decide +kernel) (by decide +kernel) rfl ?_
  refine v_aload_n C 1 dX10_body_176 rfl ?_
  refine v_bipush C (nI 13) dX10_body_177 (by decide) ?_
  refine n_callVv C hRm [.int (nI 13)] cw_X10_began ml_X10_298 (by decide) sh_205 (by decide) rfl (r_began l G X Y c σ hv 13) (by omega) rfl rfl (Nat.le_of_ble_eq_true rfl) dX10_body_179 (fun M5 hP_179 => ?_)
  obtain ⟨X179, rfl, hv179, he179⟩ := hP_179
  have hE179 := (exV.rf X).tr he179
  refine v_aload_n C 1 dX10_body_182 rfl ?_
  refine v_iload C 0 dX10_body_183 rfl ?_
  refine v_aload_n C 1 dX10_body_185 rfl ?_
  refine g_X10_283 C (by decide) sh_205 dX10_body_186 ?_
  refine v_top (X179 205 18) (congrFun (upA_ne X179 Y (by decide)) 18) ?_
  refine v_top (nI c) hv179.2.2.1 ?_
  refine v_icmp_ne C 196 dX10_body_189 rfl (fun h_189 => ?_) (fun h_189 => ?_)
  · skip
    refine v_iconst C (nI 0) dX10_body_196 (by decide) ?_
    refine p_X10_292 C (by decide) sh_205 (by decide) dX10_body_197 ?_
    refine v_mem (upA (up2 X179 205 19 (nI 0)) 206 Y) (up2_upA_ne _ _ _ _ (by decide)) ?_
    refine v_aload_n C 1 dX10_body_200 rfl ?_
    refine g_X10_292 C (by decide) sh_205 dX10_body_201 ?_
    refine v_top ((up2 X179 205 19 (nI 0)) 205 19) (congrFun (upA_ne (up2 X179 205 19 (nI 0)) Y (by decide)) 19) ?_
    refine v_top (nI 0) (up2_at _ _ _ _) ?_
    refine n_if_eq C (by omega) 211 dX10_body_204 rfl (fun _ => ?_) (fun h_204 => absurd h_204 (by decide))
    refine v_iload_n C 4 dX10_body_211 rfl ?_
    refine v_iload C 0 dX10_body_212 rfl ?_
    refine v_aload_n C 1 dX10_body_214 rfl ?_
    refine g_X10_283 C (by decide) sh_205 dX10_body_215 ?_
    refine v_top ((up2 X179 205 19 (nI 0)) 205 18) (congrFun (upA_ne (up2 X179 205 19 (nI 0)) Y (by decide)) 18) ?_
    refine v_top (nI c) ((up2_at_ne _ _ (by decide)).trans hv179.2.2.1) ?_
    refine v_isub C dX10_body_218 ?_
    refine v_idiv C dX10_body_219 (sub_ne h_189) ?_
    have hz : bdF (vF κ (Y (7 + 6 * c + 1)) c fu) κ (Y (7 + 6 * c + 1)) c 13 x (begS σ 13) = (x / (Y (7 + 6 * c + 1) - nI c), ((begS σ 13).1, false)) := if_neg h_189
    exact n_iret C hRt rfl dX10_body_220 (by rw [hz]) ⟨_, rfl, by rw [hz]; exact hv179.part false, (hE179).tr (exV.part _)⟩
  · skip
    refine v_iconst C (nI 1) dX10_body_192 (by decide) ?_
    refine v_goto C 197 dX10_body_193 rfl ?_
    refine p_X10_292 C (by decide) sh_205 (by decide) dX10_body_197 ?_
    refine v_mem (upA (up2 X179 205 19 (nI 1)) 206 Y) (up2_upA_ne _ _ _ _ (by decide)) ?_
    refine v_aload_n C 1 dX10_body_200 rfl ?_
    refine g_X10_292 C (by decide) sh_205 dX10_body_201 ?_
    refine v_top ((up2 X179 205 19 (nI 1)) 205 19) (congrFun (upA_ne (up2 X179 205 19 (nI 1)) Y (by decide)) 19) ?_
    refine v_top (nI 1) (up2_at _ _ _ _) ?_
    refine n_if_eq C (by omega) 211 dX10_body_204 rfl (fun h_204 => absurd h_204 (by decide)) (fun _ => ?_)
    refine v_iconst C (nI 0) dX10_body_207 (by decide) ?_
    refine v_goto C 220 dX10_body_208 rfl ?_
    have hz : bdF (vF κ (Y (7 + 6 * c + 1)) c fu) κ (Y (7 + 6 * c + 1)) c 13 x (begS σ 13) = (nI 0, ((begS σ 13).1, true)) := if_pos h_189
    exact n_iret C hRt rfl dX10_body_220 (by rw [hz]) ⟨_, rfl, by rw [hz]; exact hv179.part true, (hE179).tr (exV.part _)⟩
set_option maxHeartbeats 4000000 in
set_option maxRecDepth 100000 in
theorem r_body20 (l : Launch) (G : GC) (Y : Nat → Int32) (κ c fu : Nat) (hB : VB l G Y κ c fu) (hκ : κ < 7) (hκ2 : Y (7 + 6 * c + 0) = nI κ) (hc : c < 10) (X : Mm) (x : Int32) (σ : VS) (hv : vRep X c σ) (hf : 1 < fu + 1) : CI l G (12 + 3 * fu) yX10_body cX10_body 6 .int [.ref (gb G + 205), .int (nI 1), .int (nI 0), .int x] (upA X 206 Y) ((bdF (vF κ (Y (7 + 6 * c + 1)) c fu) κ (Y (7 + 6 * c + 1)) c 20 x (begS σ 20)).1) (fun M' => ∃ X', M' = upA X' 206 Y ∧ vRep X' c ((bdF (vF κ (Y (7 + 6 * c + 1)) c fu) κ (Y (7 + 6 * c + 1)) c 20 x (begS σ 20)).2) ∧ exV X X') := by
  refine Con.of (by decide +kernel) (Nat.le_of_ble_eq_true rfl) ?_
  intro f C hRm hRt _
  show Vc f G NPh (upA X 206 Y) 0 [(0, .ref (gb G + 205)), (1, .int (nI 1)), (2, .int (nI 0)), (3, .int x)] []
  refine v_aload_n C 0 dX10_body_0 rfl ?_
  refine v_aload_n C 0 dX10_body_1 rfl ?_
  refine g_X10_283 C (by decide) sh_205 dX10_body_2 ?_
  refine v_top (X 205 18) (congrFun (upA_ne X Y (by decide)) 18) ?_
  refine v_top (nI c) hv.2.2.1 ?_
  refine v_iconst C (nI 1) dX10_body_5 (by decide) ?_
  refine n_callVp C hRm [.int (nI c), .int (nI 1)] cw_X10_of ml_X10_86 (by decide) sh_205 (by decide) rfl (r_of l G X Y c 1 (by omega)) (by omega) rfl rfl (Nat.le_of_ble_eq_true rfl) dX10_body_6 ?_
  refine v_istore C [(4, .int (Y (7 + 6 * c + 1))), (0, .ref (gb G + 205)), (1, .int (nI 1)), (2, .int (nI 0)), (3, .int x)] dX10_body_9 (by decide) rfl ?_
  refine v_iconst C (nI 4) dX10_body_11 (by decide) ?_
  refine v_iload_n C 2 dX10_body_12 rfl ?_
  refine n_imul C dX10_body_13 ?_
  refine v_iload_n C 3 dX10_body_14 rfl ?_
  refine n_iadd C dX10_body_15 ?_
  refine v_top (nI 4) rfl ?_
  refine v_tableIn (off := 205) C 221 dX10_body_16 (by decide +kernel) (by decide +kernel) (by decide +kernel) rfl ?_
  refine v_aload_n C 1 dX10_body_221 rfl ?_
  refine v_bipush C (nI 20) dX10_body_222 (by decide) ?_
  refine n_callVv C hRm [.int (nI 20)] cw_X10_began ml_X10_298 (by decide) sh_205 (by decide) rfl (r_began l G X Y c σ hv 20) (by omega) rfl rfl (Nat.le_of_ble_eq_true rfl) dX10_body_224 (fun M5 hP_224 => ?_)
  obtain ⟨X224, rfl, hv224, he224⟩ := hP_224
  have hE224 := (exV.rf X).tr he224
  refine v_aload_n C 1 dX10_body_227 rfl ?_
  refine v_iconst C (nI 0) dX10_body_228 (by decide) ?_
  refine v_iconst C (nI 0) dX10_body_229 (by decide) ?_
  refine v_iload_n C 4 dX10_body_230 rfl ?_
  refine n_callVi C hRm [.int (nI 0), .int (nI 0), .int x] cw_X10_bodyFrom ml_X10_286 (by decide) sh_205 (by decide) rfl (hB X224 0 0 x (begS σ 20) hv224 (by omega) (by decide) (by have h9 : rkB (bodN (ownN 0 0) 0) = 0 := (by decide); omega)) (by omega) rfl rfl (Nat.le_of_ble_eq_true rfl) dX10_body_231 (fun M5 hP_231 => ?_)
  obtain ⟨X231, rfl, hv231, he231⟩ := hP_231
  have hE231 := (hE224).tr he231
  refine v_bipush C (nI 6) dX10_body_234 (by decide) ?_
  refine v_isub C dX10_body_236 ?_
  exact n_iret C hRt rfl dX10_body_237 rfl ⟨_, rfl, hv231, hE231⟩
set_option maxHeartbeats 4000000 in
set_option maxRecDepth 100000 in
theorem r_body21 (l : Launch) (G : GC) (Y : Nat → Int32) (κ c fu : Nat) (hB : VB l G Y κ c fu) (hκ : κ < 7) (hκ2 : Y (7 + 6 * c + 0) = nI κ) (hc : c < 10) (X : Mm) (x : Int32) (σ : VS) (hv : vRep X c σ) (hf : 6 < fu + 1) : CI l G (12 + 3 * fu) yX10_body cX10_body 6 .int [.ref (gb G + 205), .int (nI 1), .int (nI 3), .int x] (upA X 206 Y) ((bdF (vF κ (Y (7 + 6 * c + 1)) c fu) κ (Y (7 + 6 * c + 1)) c 21 x (begS σ 21)).1) (fun M' => ∃ X', M' = upA X' 206 Y ∧ vRep X' c ((bdF (vF κ (Y (7 + 6 * c + 1)) c fu) κ (Y (7 + 6 * c + 1)) c 21 x (begS σ 21)).2) ∧ exV X X') := by
  refine Con.of (by decide +kernel) (Nat.le_of_ble_eq_true rfl) ?_
  intro f C hRm hRt _
  show Vc f G NPh (upA X 206 Y) 0 [(0, .ref (gb G + 205)), (1, .int (nI 1)), (2, .int (nI 3)), (3, .int x)] []
  refine v_aload_n C 0 dX10_body_0 rfl ?_
  refine v_aload_n C 0 dX10_body_1 rfl ?_
  refine g_X10_283 C (by decide) sh_205 dX10_body_2 ?_
  refine v_top (X 205 18) (congrFun (upA_ne X Y (by decide)) 18) ?_
  refine v_top (nI c) hv.2.2.1 ?_
  refine v_iconst C (nI 1) dX10_body_5 (by decide) ?_
  refine n_callVp C hRm [.int (nI c), .int (nI 1)] cw_X10_of ml_X10_86 (by decide) sh_205 (by decide) rfl (r_of l G X Y c 1 (by omega)) (by omega) rfl rfl (Nat.le_of_ble_eq_true rfl) dX10_body_6 ?_
  refine v_istore C [(4, .int (Y (7 + 6 * c + 1))), (0, .ref (gb G + 205)), (1, .int (nI 1)), (2, .int (nI 3)), (3, .int x)] dX10_body_9 (by decide) rfl ?_
  refine v_iconst C (nI 4) dX10_body_11 (by decide) ?_
  refine v_iload_n C 2 dX10_body_12 rfl ?_
  refine n_imul C dX10_body_13 ?_
  refine v_iload_n C 3 dX10_body_14 rfl ?_
  refine n_iadd C dX10_body_15 ?_
  refine v_top (nI 7) rfl ?_
  refine v_tableIn (off := 222) C 238 dX10_body_16 (by decide +kernel) (by decide +kernel) (by decide +kernel) rfl ?_
  refine v_aload_n C 1 dX10_body_238 rfl ?_
  refine v_bipush C (nI 21) dX10_body_239 (by decide) ?_
  refine n_callVv C hRm [.int (nI 21)] cw_X10_began ml_X10_298 (by decide) sh_205 (by decide) rfl (r_began l G X Y c σ hv 21) (by omega) rfl rfl (Nat.le_of_ble_eq_true rfl) dX10_body_241 (fun M5 hP_241 => ?_)
  obtain ⟨X241, rfl, hv241, he241⟩ := hP_241
  have hE241 := (exV.rf X).tr he241
  refine v_aload_n C 1 dX10_body_244 rfl ?_
  refine v_iconst C (nI 0) dX10_body_245 (by decide) ?_
  refine v_iconst C (nI 3) dX10_body_246 (by decide) ?_
  refine v_iload_n C 4 dX10_body_247 rfl ?_
  refine n_callVi C hRm [.int (nI 0), .int (nI 3), .int x] cw_X10_bodyFrom ml_X10_286 (by decide) sh_205 (by decide) rfl (hB X241 0 3 x (begS σ 21) hv241 (by omega) (by decide) (by have h9 : rkB (bodN (ownN 0 3) 3) = 0 := (by decide); omega)) (by omega) rfl rfl (Nat.le_of_ble_eq_true rfl) dX10_body_248 (fun M5 hP_248 => ?_)
  obtain ⟨X248, rfl, hv248, he248⟩ := hP_248
  have hE248 := (hE241).tr he248
  refine v_istore C [(5, .int ((vF κ (Y (7 + 6 * c + 1)) c fu 0 3 x (begS σ 21)).1)), (4, .int (Y (7 + 6 * c + 1))), (0, .ref (gb G + 205)), (1, .int (nI 1)), (2, .int (nI 3)), (3, .int x)] dX10_body_251 (by decide) rfl ?_
  refine v_iload C 0 dX10_body_253 rfl ?_
  refine v_aload_n C 2 dX10_body_255 rfl ?_
  refine v_iconst C (nI 1) dX10_body_256 (by decide) ?_
  refine v_iconst C (nI 1) dX10_body_257 (by decide) ?_
  refine n_callVi C hRm [.int (nI 1), .int (nI 1)] cw_X10_voiced ml_X10_301 (by decide) sh_205 (by decide) rfl (r_voiced l G Y κ c fu hB hκ hκ2 hc X248 1 (nI 1) ((vF κ (Y (7 + 6 * c + 1)) c fu 0 3 x (begS σ 21)).2) hv248 (by decide) (by have := (rk_own κ hκ).2.1; omega)) (by omega) rfl rfl (Nat.le_of_ble_eq_true rfl) dX10_body_258 (fun M5 hP_258 => ?_)
  obtain ⟨X258, rfl, hv258, he258⟩ := hP_258
  have hE258 := (hE248).tr he258
  refine v_iadd C dX10_body_261 ?_
  exact n_iret C hRt rfl dX10_body_262 rfl ⟨_, rfl, hv258, hE258⟩
set_option maxHeartbeats 4000000 in
set_option maxRecDepth 100000 in
theorem r_body30 (l : Launch) (G : GC) (Y : Nat → Int32) (κ c fu : Nat) (hB : VB l G Y κ c fu) (hκ : κ < 7) (hκ2 : Y (7 + 6 * c + 0) = nI κ) (hc : c < 10) (X : Mm) (x : Int32) (σ : VS) (hv : vRep X c σ) (hf : 4 < fu + 1) : CI l G (12 + 3 * fu) yX10_body cX10_body 6 .int [.ref (gb G + 205), .int (nI 2), .int (nI 1), .int x] (upA X 206 Y) ((bdF (vF κ (Y (7 + 6 * c + 1)) c fu) κ (Y (7 + 6 * c + 1)) c 30 x (begS σ 30)).1) (fun M' => ∃ X', M' = upA X' 206 Y ∧ vRep X' c ((bdF (vF κ (Y (7 + 6 * c + 1)) c fu) κ (Y (7 + 6 * c + 1)) c 30 x (begS σ 30)).2) ∧ exV X X') := by
  refine Con.of (by decide +kernel) (Nat.le_of_ble_eq_true rfl) ?_
  intro f C hRm hRt _
  show Vc f G NPh (upA X 206 Y) 0 [(0, .ref (gb G + 205)), (1, .int (nI 2)), (2, .int (nI 1)), (3, .int x)] []
  refine v_aload_n C 0 dX10_body_0 rfl ?_
  refine v_aload_n C 0 dX10_body_1 rfl ?_
  refine g_X10_283 C (by decide) sh_205 dX10_body_2 ?_
  refine v_top (X 205 18) (congrFun (upA_ne X Y (by decide)) 18) ?_
  refine v_top (nI c) hv.2.2.1 ?_
  refine v_iconst C (nI 1) dX10_body_5 (by decide) ?_
  refine n_callVp C hRm [.int (nI c), .int (nI 1)] cw_X10_of ml_X10_86 (by decide) sh_205 (by decide) rfl (r_of l G X Y c 1 (by omega)) (by omega) rfl rfl (Nat.le_of_ble_eq_true rfl) dX10_body_6 ?_
  refine v_istore C [(4, .int (Y (7 + 6 * c + 1))), (0, .ref (gb G + 205)), (1, .int (nI 2)), (2, .int (nI 1)), (3, .int x)] dX10_body_9 (by decide) rfl ?_
  refine v_iconst C (nI 4) dX10_body_11 (by decide) ?_
  refine v_iload_n C 2 dX10_body_12 rfl ?_
  refine n_imul C dX10_body_13 ?_
  refine v_iload_n C 3 dX10_body_14 rfl ?_
  refine n_iadd C dX10_body_15 ?_
  refine v_top (nI 9) rfl ?_
  refine v_tableIn (off := 247) C 263 dX10_body_16 (by decide +kernel) (by decide +kernel) (by decide +kernel) rfl ?_
  refine v_aload_n C 1 dX10_body_263 rfl ?_
  refine v_bipush C (nI 30) dX10_body_264 (by decide) ?_
  refine n_callVv C hRm [.int (nI 30)] cw_X10_began ml_X10_298 (by decide) sh_205 (by decide) rfl (r_began l G X Y c σ hv 30) (by omega) rfl rfl (Nat.le_of_ble_eq_true rfl) dX10_body_266 (fun M5 hP_266 => ?_)
  obtain ⟨X266, rfl, hv266, he266⟩ := hP_266
  have hE266 := (exV.rf X).tr he266
  refine v_aload_n C 1 dX10_body_269 rfl ?_
  refine v_iconst C (nI 0) dX10_body_270 (by decide) ?_
  refine v_iconst C (nI 1) dX10_body_271 (by decide) ?_
  refine v_iload_n C 4 dX10_body_272 rfl ?_
  refine n_callVi C hRm [.int (nI 0), .int (nI 1), .int x] cw_X10_bodyFrom ml_X10_286 (by decide) sh_205 (by decide) rfl (hB X266 0 1 x (begS σ 30) hv266 (by omega) (by decide) (by have h9 : rkB (bodN (ownN 0 1) 1) = 3 := (by decide); omega)) (by omega) rfl rfl (Nat.le_of_ble_eq_true rfl) dX10_body_273 (fun M5 hP_273 => ?_)
  obtain ⟨X273, rfl, hv273, he273⟩ := hP_273
  have hE273 := (hE266).tr he273
  refine v_ineg C dX10_body_276 ?_
  exact n_iret C hRt rfl dX10_body_277 rfl ⟨_, rfl, hv273, hE273⟩
set_option maxHeartbeats 4000000 in
set_option maxRecDepth 100000 in
theorem r_body40 (l : Launch) (G : GC) (Y : Nat → Int32) (κ c fu : Nat) (hB : VB l G Y κ c fu) (hκ : κ < 7) (hκ2 : Y (7 + 6 * c + 0) = nI κ) (hc : c < 10) (X : Mm) (x : Int32) (σ : VS) (hv : vRep X c σ) (hf : 7 < fu + 1) : CI l G (12 + 3 * fu) yX10_body cX10_body 6 .int [.ref (gb G + 205), .int (nI 3), .int (nI 2), .int x] (upA X 206 Y) ((bdF (vF κ (Y (7 + 6 * c + 1)) c fu) κ (Y (7 + 6 * c + 1)) c 40 x (begS σ 40)).1) (fun M' => ∃ X', M' = upA X' 206 Y ∧ vRep X' c ((bdF (vF κ (Y (7 + 6 * c + 1)) c fu) κ (Y (7 + 6 * c + 1)) c 40 x (begS σ 40)).2) ∧ exV X X') := by
  refine Con.of (by decide +kernel) (Nat.le_of_ble_eq_true rfl) ?_
  intro f C hRm hRt _
  show Vc f G NPh (upA X 206 Y) 0 [(0, .ref (gb G + 205)), (1, .int (nI 3)), (2, .int (nI 2)), (3, .int x)] []
  refine v_aload_n C 0 dX10_body_0 rfl ?_
  refine v_aload_n C 0 dX10_body_1 rfl ?_
  refine g_X10_283 C (by decide) sh_205 dX10_body_2 ?_
  refine v_top (X 205 18) (congrFun (upA_ne X Y (by decide)) 18) ?_
  refine v_top (nI c) hv.2.2.1 ?_
  refine v_iconst C (nI 1) dX10_body_5 (by decide) ?_
  refine n_callVp C hRm [.int (nI c), .int (nI 1)] cw_X10_of ml_X10_86 (by decide) sh_205 (by decide) rfl (r_of l G X Y c 1 (by omega)) (by omega) rfl rfl (Nat.le_of_ble_eq_true rfl) dX10_body_6 ?_
  refine v_istore C [(4, .int (Y (7 + 6 * c + 1))), (0, .ref (gb G + 205)), (1, .int (nI 3)), (2, .int (nI 2)), (3, .int x)] dX10_body_9 (by decide) rfl ?_
  refine v_iconst C (nI 4) dX10_body_11 (by decide) ?_
  refine v_iload_n C 2 dX10_body_12 rfl ?_
  refine n_imul C dX10_body_13 ?_
  refine v_iload_n C 3 dX10_body_14 rfl ?_
  refine n_iadd C dX10_body_15 ?_
  refine v_top (nI 14) rfl ?_
  refine v_tableIn (off := 262) C 278 dX10_body_16 (by decide +kernel) (by decide +kernel) (by decide +kernel) rfl ?_
  refine v_aload_n C 1 dX10_body_278 rfl ?_
  refine v_bipush C (nI 40) dX10_body_279 (by decide) ?_
  refine n_callVv C hRm [.int (nI 40)] cw_X10_began ml_X10_298 (by decide) sh_205 (by decide) rfl (r_began l G X Y c σ hv 40) (by omega) rfl rfl (Nat.le_of_ble_eq_true rfl) dX10_body_281 (fun M5 hP_281 => ?_)
  obtain ⟨X281, rfl, hv281, he281⟩ := hP_281
  have hE281 := (exV.rf X).tr he281
  refine v_aload_n C 1 dX10_body_284 rfl ?_
  refine v_iconst C (nI 0) dX10_body_285 (by decide) ?_
  refine v_iconst C (nI 2) dX10_body_286 (by decide) ?_
  refine v_iload_n C 4 dX10_body_287 rfl ?_
  refine v_iconst C (nI 2) dX10_body_288 (by decide) ?_
  refine v_idiv C dX10_body_289 (by decide) ?_
  refine n_callVi C hRm [.int (nI 0), .int (nI 2), .int (x / (nI 2))] cw_X10_bodyFrom ml_X10_286 (by decide) sh_205 (by decide) rfl (hB X281 0 2 (x / (nI 2)) (begS σ 40) hv281 (by omega) (by decide) (by have h9 : rkB (bodN (ownN 0 2) 2) = 6 := (by decide); omega)) (by omega) rfl rfl (Nat.le_of_ble_eq_true rfl) dX10_body_290 (fun M5 hP_290 => ?_)
  obtain ⟨X290, rfl, hv290, he290⟩ := hP_290
  have hE290 := (hE281).tr he290
  exact n_iret C hRt rfl dX10_body_293 rfl ⟨_, rfl, hv290, hE290⟩
set_option maxHeartbeats 4000000 in
set_option maxRecDepth 100000 in
theorem r_body50 (l : Launch) (G : GC) (Y : Nat → Int32) (κ c fu : Nat) (hB : VB l G Y κ c fu) (hκ : κ < 7) (hκ2 : Y (7 + 6 * c + 0) = nI κ) (hc : c < 10) (X : Mm) (x : Int32) (σ : VS) (hv : vRep X c σ) (hf : 2 < fu + 1) : CI l G (12 + 3 * fu) yX10_body cX10_body 6 .int [.ref (gb G + 205), .int (nI 4), .int (nI 0), .int x] (upA X 206 Y) ((bdF (vF κ (Y (7 + 6 * c + 1)) c fu) κ (Y (7 + 6 * c + 1)) c 50 x (begS σ 50)).1) (fun M' => ∃ X', M' = upA X' 206 Y ∧ vRep X' c ((bdF (vF κ (Y (7 + 6 * c + 1)) c fu) κ (Y (7 + 6 * c + 1)) c 50 x (begS σ 50)).2) ∧ exV X X') := by
  refine Con.of (by decide +kernel) (Nat.le_of_ble_eq_true rfl) ?_
  intro f C hRm hRt _
  show Vc f G NPh (upA X 206 Y) 0 [(0, .ref (gb G + 205)), (1, .int (nI 4)), (2, .int (nI 0)), (3, .int x)] []
  refine v_aload_n C 0 dX10_body_0 rfl ?_
  refine v_aload_n C 0 dX10_body_1 rfl ?_
  refine g_X10_283 C (by decide) sh_205 dX10_body_2 ?_
  refine v_top (X 205 18) (congrFun (upA_ne X Y (by decide)) 18) ?_
  refine v_top (nI c) hv.2.2.1 ?_
  refine v_iconst C (nI 1) dX10_body_5 (by decide) ?_
  refine n_callVp C hRm [.int (nI c), .int (nI 1)] cw_X10_of ml_X10_86 (by decide) sh_205 (by decide) rfl (r_of l G X Y c 1 (by omega)) (by omega) rfl rfl (Nat.le_of_ble_eq_true rfl) dX10_body_6 ?_
  refine v_istore C [(4, .int (Y (7 + 6 * c + 1))), (0, .ref (gb G + 205)), (1, .int (nI 4)), (2, .int (nI 0)), (3, .int x)] dX10_body_9 (by decide) rfl ?_
  refine v_iconst C (nI 4) dX10_body_11 (by decide) ?_
  refine v_iload_n C 2 dX10_body_12 rfl ?_
  refine n_imul C dX10_body_13 ?_
  refine v_iload_n C 3 dX10_body_14 rfl ?_
  refine n_iadd C dX10_body_15 ?_
  refine v_top (nI 16) rfl ?_
  refine v_tableIn (off := 278) C 294 dX10_body_16 (by decide +kernel) (by decide +kernel) (by decide +kernel) rfl ?_
  refine v_aload_n C 1 dX10_body_294 rfl ?_
  refine v_bipush C (nI 50) dX10_body_295 (by decide) ?_
  refine n_callVv C hRm [.int (nI 50)] cw_X10_began ml_X10_298 (by decide) sh_205 (by decide) rfl (r_began l G X Y c σ hv 50) (by omega) rfl rfl (Nat.le_of_ble_eq_true rfl) dX10_body_297 (fun M5 hP_297 => ?_)
  obtain ⟨X297, rfl, hv297, he297⟩ := hP_297
  have hE297 := (exV.rf X).tr he297
  refine v_aload_n C 1 dX10_body_300 rfl ?_
  refine v_iconst C (nI 1) dX10_body_301 (by decide) ?_
  refine v_iconst C (nI 0) dX10_body_302 (by decide) ?_
  refine v_iload_n C 4 dX10_body_303 rfl ?_
  refine n_callVi C hRm [.int (nI 1), .int (nI 0), .int x] cw_X10_bodyFrom ml_X10_286 (by decide) sh_205 (by decide) rfl (hB X297 1 0 x (begS σ 50) hv297 (by omega) (by decide) (by have h9 : rkB (bodN (ownN 1 0) 0) = 1 := (by decide); omega)) (by omega) rfl rfl (Nat.le_of_ble_eq_true rfl) dX10_body_304 (fun M5 hP_304 => ?_)
  obtain ⟨X304, rfl, hv304, he304⟩ := hP_304
  have hE304 := (hE297).tr he304
  refine v_iconst C (nI 3) dX10_body_307 (by decide) ?_
  refine v_imul C dX10_body_308 ?_
  exact n_iret C hRt rfl dX10_body_309 rfl ⟨_, rfl, hv304, hE304⟩
set_option maxHeartbeats 4000000 in
set_option maxRecDepth 100000 in
theorem r_body51 (l : Launch) (G : GC) (Y : Nat → Int32) (κ c fu : Nat) (hB : VB l G Y κ c fu) (hκ : κ < 7) (hκ2 : Y (7 + 6 * c + 0) = nI κ) (hc : c < 10) (X : Mm) (x : Int32) (σ : VS) (hv : vRep X c σ) (hf : 7 < fu + 1) : CI l G (12 + 3 * fu) yX10_body cX10_body 6 .int [.ref (gb G + 205), .int (nI 4), .int (nI 2), .int x] (upA X 206 Y) ((bdF (vF κ (Y (7 + 6 * c + 1)) c fu) κ (Y (7 + 6 * c + 1)) c 51 x (begS σ 51)).1) (fun M' => ∃ X', M' = upA X' 206 Y ∧ vRep X' c ((bdF (vF κ (Y (7 + 6 * c + 1)) c fu) κ (Y (7 + 6 * c + 1)) c 51 x (begS σ 51)).2) ∧ exV X X') := by
  refine Con.of (by decide +kernel) (Nat.le_of_ble_eq_true rfl) ?_
  intro f C hRm hRt _
  show Vc f G NPh (upA X 206 Y) 0 [(0, .ref (gb G + 205)), (1, .int (nI 4)), (2, .int (nI 2)), (3, .int x)] []
  refine v_aload_n C 0 dX10_body_0 rfl ?_
  refine v_aload_n C 0 dX10_body_1 rfl ?_
  refine g_X10_283 C (by decide) sh_205 dX10_body_2 ?_
  refine v_top (X 205 18) (congrFun (upA_ne X Y (by decide)) 18) ?_
  refine v_top (nI c) hv.2.2.1 ?_
  refine v_iconst C (nI 1) dX10_body_5 (by decide) ?_
  refine n_callVp C hRm [.int (nI c), .int (nI 1)] cw_X10_of ml_X10_86 (by decide) sh_205 (by decide) rfl (r_of l G X Y c 1 (by omega)) (by omega) rfl rfl (Nat.le_of_ble_eq_true rfl) dX10_body_6 ?_
  refine v_istore C [(4, .int (Y (7 + 6 * c + 1))), (0, .ref (gb G + 205)), (1, .int (nI 4)), (2, .int (nI 2)), (3, .int x)] dX10_body_9 (by decide) rfl ?_
  refine v_iconst C (nI 4) dX10_body_11 (by decide) ?_
  refine v_iload_n C 2 dX10_body_12 rfl ?_
  refine n_imul C dX10_body_13 ?_
  refine v_iload_n C 3 dX10_body_14 rfl ?_
  refine n_iadd C dX10_body_15 ?_
  refine v_top (nI 18) rfl ?_
  refine v_tableIn (off := 294) C 310 dX10_body_16 (by decide +kernel) (by decide +kernel) (by decide +kernel) rfl ?_
  refine v_aload_n C 1 dX10_body_310 rfl ?_
  refine v_bipush C (nI 51) dX10_body_311 (by decide) ?_
  refine n_callVv C hRm [.int (nI 51)] cw_X10_began ml_X10_298 (by decide) sh_205 (by decide) rfl (r_began l G X Y c σ hv 51) (by omega) rfl rfl (Nat.le_of_ble_eq_true rfl) dX10_body_313 (fun M5 hP_313 => ?_)
  obtain ⟨X313, rfl, hv313, he313⟩ := hP_313
  have hE313 := (exV.rf X).tr he313
  refine v_aload_n C 1 dX10_body_316 rfl ?_
  refine v_iconst C (nI 1) dX10_body_317 (by decide) ?_
  refine v_iconst C (nI 2) dX10_body_318 (by decide) ?_
  refine v_iload_n C 4 dX10_body_319 rfl ?_
  refine n_callVi C hRm [.int (nI 1), .int (nI 2), .int x] cw_X10_bodyFrom ml_X10_286 (by decide) sh_205 (by decide) rfl (hB X313 1 2 x (begS σ 51) hv313 (by omega) (by decide) (by have h9 : rkB (bodN (ownN 1 2) 2) = 6 := (by decide); omega)) (by omega) rfl rfl (Nat.le_of_ble_eq_true rfl) dX10_body_320 (fun M5 hP_320 => ?_)
  obtain ⟨X320, rfl, hv320, he320⟩ := hP_320
  have hE320 := (hE313).tr he320
  refine v_aload_n C 1 dX10_body_323 rfl ?_
  refine g_X10_283 C (by decide) sh_205 dX10_body_324 ?_
  refine v_top (X320 205 18) (congrFun (upA_ne X320 Y (by decide)) 18) ?_
  refine v_top (nI c) hv320.2.2.1 ?_
  refine v_ixor C dX10_body_327 ?_
  exact n_iret C hRt rfl dX10_body_328 rfl ⟨_, rfl, hv320, hE320⟩
set_option maxHeartbeats 4000000 in
set_option maxRecDepth 100000 in
theorem r_body60 (l : Launch) (G : GC) (Y : Nat → Int32) (κ c fu : Nat) (hB : VB l G Y κ c fu) (hκ : κ < 7) (hκ2 : Y (7 + 6 * c + 0) = nI κ) (hc : c < 10) (X : Mm) (x : Int32) (σ : VS) (hv : vRep X c σ) (hf : 5 < fu + 1) : CI l G (12 + 3 * fu) yX10_body cX10_body 6 .int [.ref (gb G + 205), .int (nI 5), .int (nI 1), .int x] (upA X 206 Y) ((bdF (vF κ (Y (7 + 6 * c + 1)) c fu) κ (Y (7 + 6 * c + 1)) c 60 x (begS σ 60)).1) (fun M' => ∃ X', M' = upA X' 206 Y ∧ vRep X' c ((bdF (vF κ (Y (7 + 6 * c + 1)) c fu) κ (Y (7 + 6 * c + 1)) c 60 x (begS σ 60)).2) ∧ exV X X') := by
  refine Con.of (by decide +kernel) (Nat.le_of_ble_eq_true rfl) ?_
  intro f C hRm hRt _
  show Vc f G NPh (upA X 206 Y) 0 [(0, .ref (gb G + 205)), (1, .int (nI 5)), (2, .int (nI 1)), (3, .int x)] []
  refine v_aload_n C 0 dX10_body_0 rfl ?_
  refine v_aload_n C 0 dX10_body_1 rfl ?_
  refine g_X10_283 C (by decide) sh_205 dX10_body_2 ?_
  refine v_top (X 205 18) (congrFun (upA_ne X Y (by decide)) 18) ?_
  refine v_top (nI c) hv.2.2.1 ?_
  refine v_iconst C (nI 1) dX10_body_5 (by decide) ?_
  refine n_callVp C hRm [.int (nI c), .int (nI 1)] cw_X10_of ml_X10_86 (by decide) sh_205 (by decide) rfl (r_of l G X Y c 1 (by omega)) (by omega) rfl rfl (Nat.le_of_ble_eq_true rfl) dX10_body_6 ?_
  refine v_istore C [(4, .int (Y (7 + 6 * c + 1))), (0, .ref (gb G + 205)), (1, .int (nI 5)), (2, .int (nI 1)), (3, .int x)] dX10_body_9 (by decide) rfl ?_
  refine v_iconst C (nI 4) dX10_body_11 (by decide) ?_
  refine v_iload_n C 2 dX10_body_12 rfl ?_
  refine n_imul C dX10_body_13 ?_
  refine v_iload_n C 3 dX10_body_14 rfl ?_
  refine n_iadd C dX10_body_15 ?_
  refine v_top (nI 21) rfl ?_
  refine v_tableIn (off := 313) C 329 dX10_body_16 (by decide +kernel) (by decide +kernel) (by decide +kernel) rfl ?_
  refine v_aload_n C 1 dX10_body_329 rfl ?_
  refine v_bipush C (nI 60) dX10_body_330 (by decide) ?_
  refine n_callVv C hRm [.int (nI 60)] cw_X10_began ml_X10_298 (by decide) sh_205 (by decide) rfl (r_began l G X Y c σ hv 60) (by omega) rfl rfl (Nat.le_of_ble_eq_true rfl) dX10_body_332 (fun M5 hP_332 => ?_)
  obtain ⟨X332, rfl, hv332, he332⟩ := hP_332
  have hE332 := (exV.rf X).tr he332
  refine v_aload_n C 1 dX10_body_335 rfl ?_
  refine v_iconst C (nI 2) dX10_body_336 (by decide) ?_
  refine v_iconst C (nI 1) dX10_body_337 (by decide) ?_
  refine v_iload_n C 4 dX10_body_338 rfl ?_
  refine v_iconst C (nI 1) dX10_body_339 (by decide) ?_
  refine v_iadd C dX10_body_340 ?_
  refine n_callVi C hRm [.int (nI 2), .int (nI 1), .int (x + (nI 1))] cw_X10_bodyFrom ml_X10_286 (by decide) sh_205 (by decide) rfl (hB X332 2 1 (x + (nI 1)) (begS σ 60) hv332 (by omega) (by decide) (by have h9 : rkB (bodN (ownN 2 1) 1) = 4 := (by decide); omega)) (by omega) rfl rfl (Nat.le_of_ble_eq_true rfl) dX10_body_341 (fun M5 hP_341 => ?_)
  obtain ⟨X341, rfl, hv341, he341⟩ := hP_341
  have hE341 := (hE332).tr he341
  exact n_iret C hRt rfl dX10_body_344 rfl ⟨_, rfl, hv341, hE341⟩
set_option maxHeartbeats 4000000 in
set_option maxRecDepth 100000 in
theorem r_body70 (l : Launch) (G : GC) (Y : Nat → Int32) (κ c fu : Nat) (hB : VB l G Y κ c fu) (hκ : κ < 7) (hκ2 : Y (7 + 6 * c + 0) = nI κ) (hc : c < 10) (X : Mm) (x : Int32) (σ : VS) (hv : vRep X c σ) (hf : 0 < fu + 1) : CI l G (12 + 3 * fu) yX10_body cX10_body 6 .int [.ref (gb G + 205), .int (nI 6), .int (nI 0), .int x] (upA X 206 Y) ((bdF (vF κ (Y (7 + 6 * c + 1)) c fu) κ (Y (7 + 6 * c + 1)) c 70 x (begS σ 70)).1) (fun M' => ∃ X', M' = upA X' 206 Y ∧ vRep X' c ((bdF (vF κ (Y (7 + 6 * c + 1)) c fu) κ (Y (7 + 6 * c + 1)) c 70 x (begS σ 70)).2) ∧ exV X X') := by
  refine Con.of (by decide +kernel) (Nat.le_of_ble_eq_true rfl) ?_
  intro f C hRm hRt _
  show Vc f G NPh (upA X 206 Y) 0 [(0, .ref (gb G + 205)), (1, .int (nI 6)), (2, .int (nI 0)), (3, .int x)] []
  refine v_aload_n C 0 dX10_body_0 rfl ?_
  refine v_aload_n C 0 dX10_body_1 rfl ?_
  refine g_X10_283 C (by decide) sh_205 dX10_body_2 ?_
  refine v_top (X 205 18) (congrFun (upA_ne X Y (by decide)) 18) ?_
  refine v_top (nI c) hv.2.2.1 ?_
  refine v_iconst C (nI 1) dX10_body_5 (by decide) ?_
  refine n_callVp C hRm [.int (nI c), .int (nI 1)] cw_X10_of ml_X10_86 (by decide) sh_205 (by decide) rfl (r_of l G X Y c 1 (by omega)) (by omega) rfl rfl (Nat.le_of_ble_eq_true rfl) dX10_body_6 ?_
  refine v_istore C [(4, .int (Y (7 + 6 * c + 1))), (0, .ref (gb G + 205)), (1, .int (nI 6)), (2, .int (nI 0)), (3, .int x)] dX10_body_9 (by decide) rfl ?_
  refine v_iconst C (nI 4) dX10_body_11 (by decide) ?_
  refine v_iload_n C 2 dX10_body_12 rfl ?_
  refine n_imul C dX10_body_13 ?_
  refine v_iload_n C 3 dX10_body_14 rfl ?_
  refine n_iadd C dX10_body_15 ?_
  refine v_top (nI 24) rfl ?_
  refine v_tableIn (off := 329) C 345 dX10_body_16 (by decide +kernel) (by decide +kernel) (by decide +kernel) rfl ?_
  refine v_aload_n C 1 dX10_body_345 rfl ?_
  refine v_bipush C (nI 70) dX10_body_346 (by decide) ?_
  refine n_callVv C hRm [.int (nI 70)] cw_X10_began ml_X10_298 (by decide) sh_205 (by decide) rfl (r_began l G X Y c σ hv 70) (by omega) rfl rfl (Nat.le_of_ble_eq_true rfl) dX10_body_348 (fun M5 hP_348 => ?_)
  obtain ⟨X348, rfl, hv348, he348⟩ := hP_348
  have hE348 := (exV.rf X).tr he348
  refine v_iconst C (nI 5) dX10_body_351 (by decide) ?_
  exact n_iret C hRt rfl dX10_body_352 rfl ⟨_, rfl, hv348, hE348⟩
set_option maxHeartbeats 4000000 in
set_option maxRecDepth 100000 in
theorem r_body71 (l : Launch) (G : GC) (Y : Nat → Int32) (κ c fu : Nat) (hB : VB l G Y κ c fu) (hκ : κ < 7) (hκ2 : Y (7 + 6 * c + 0) = nI κ) (hc : c < 10) (X : Mm) (x : Int32) (σ : VS) (hv : vRep X c σ) (hf : 4 < fu + 1) : CI l G (12 + 3 * fu) yX10_body cX10_body 6 .int [.ref (gb G + 205), .int (nI 6), .int (nI 1), .int x] (upA X 206 Y) ((bdF (vF κ (Y (7 + 6 * c + 1)) c fu) κ (Y (7 + 6 * c + 1)) c 71 x (begS σ 71)).1) (fun M' => ∃ X', M' = upA X' 206 Y ∧ vRep X' c ((bdF (vF κ (Y (7 + 6 * c + 1)) c fu) κ (Y (7 + 6 * c + 1)) c 71 x (begS σ 71)).2) ∧ exV X X') := by
  refine Con.of (by decide +kernel) (Nat.le_of_ble_eq_true rfl) ?_
  intro f C hRm hRt _
  show Vc f G NPh (upA X 206 Y) 0 [(0, .ref (gb G + 205)), (1, .int (nI 6)), (2, .int (nI 1)), (3, .int x)] []
  refine v_aload_n C 0 dX10_body_0 rfl ?_
  refine v_aload_n C 0 dX10_body_1 rfl ?_
  refine g_X10_283 C (by decide) sh_205 dX10_body_2 ?_
  refine v_top (X 205 18) (congrFun (upA_ne X Y (by decide)) 18) ?_
  refine v_top (nI c) hv.2.2.1 ?_
  refine v_iconst C (nI 1) dX10_body_5 (by decide) ?_
  refine n_callVp C hRm [.int (nI c), .int (nI 1)] cw_X10_of ml_X10_86 (by decide) sh_205 (by decide) rfl (r_of l G X Y c 1 (by omega)) (by omega) rfl rfl (Nat.le_of_ble_eq_true rfl) dX10_body_6 ?_
  refine v_istore C [(4, .int (Y (7 + 6 * c + 1))), (0, .ref (gb G + 205)), (1, .int (nI 6)), (2, .int (nI 1)), (3, .int x)] dX10_body_9 (by decide) rfl ?_
  refine v_iconst C (nI 4) dX10_body_11 (by decide) ?_
  refine v_iload_n C 2 dX10_body_12 rfl ?_
  refine n_imul C dX10_body_13 ?_
  refine v_iload_n C 3 dX10_body_14 rfl ?_
  refine n_iadd C dX10_body_15 ?_
  refine v_top (nI 25) rfl ?_
  refine v_tableOut C 353 dX10_body_16 (by first | exact Or.inr (by decide +kernel) | exact Or.inl (by decide +kernel)) rfl ?_
  refine v_aload_n C 1 dX10_body_353 rfl ?_
  refine v_bipush C (nI 71) dX10_body_354 (by decide) ?_
  refine n_callVv C hRm [.int (nI 71)] cw_X10_began ml_X10_298 (by decide) sh_205 (by decide) rfl (r_began l G X Y c σ hv 71) (by omega) rfl rfl (Nat.le_of_ble_eq_true rfl) dX10_body_356 (fun M5 hP_356 => ?_)
  obtain ⟨X356, rfl, hv356, he356⟩ := hP_356
  have hE356 := (exV.rf X).tr he356
  refine v_aload_n C 1 dX10_body_359 rfl ?_
  refine v_iconst C (nI 0) dX10_body_360 (by decide) ?_
  refine v_iconst C (nI 1) dX10_body_361 (by decide) ?_
  refine v_iload_n C 4 dX10_body_362 rfl ?_
  refine n_callVi C hRm [.int (nI 0), .int (nI 1), .int x] cw_X10_bodyFrom ml_X10_286 (by decide) sh_205 (by decide) rfl (hB X356 0 1 x (begS σ 71) hv356 (by omega) (by decide) (by have h9 : rkB (bodN (ownN 0 1) 1) = 3 := (by decide); omega)) (by omega) rfl rfl (Nat.le_of_ble_eq_true rfl) dX10_body_363 (fun M5 hP_363 => ?_)
  obtain ⟨X363, rfl, hv363, he363⟩ := hP_363
  have hE363 := (hE356).tr he363
  refine v_iload C 0 dX10_body_366 rfl ?_
  refine v_iadd C dX10_body_368 ?_
  exact n_iret C hRt rfl dX10_body_369 rfl ⟨_, rfl, hv363, hE363⟩
set_option maxHeartbeats 4000000 in
set_option maxRecDepth 100000 in
theorem vb_step (l : Launch) (G : GC) (Y : Nat → Int32) (κ c fu : Nat) (hB : VB l G Y κ c fu) (hκ : κ < 7) (hκ2 : Y (7 + 6 * c + 0) = nI κ) (hc : c < 10) : VB l G Y κ c (fu + 1) := by
  intro X k a x σ hv hk ha hr
  refine Con.of (by decide +kernel) (Nat.le_of_ble_eq_true rfl) ?_
  intro f C hRm hRt _
  rcases (show k = 0 ∨ k = 1 ∨ k = 2 ∨ k = 3 ∨ k = 4 ∨ k = 5 ∨ k = 6 by omega) with h | h | h | h | h | h | h <;> subst h <;> rcases (show a = 0 ∨ a = 1 ∨ a = 2 ∨ a = 3 by omega) with h | h | h | h <;> subst h
  · show Vc f G NPh (upA X 206 Y) 0 [(0, .ref (gb G + 205)), (1, .int (nI 0)), (2, .int (nI 0)), (3, .int x)] []
    refine v_iload_n C 1 dX10_bodyFrom_0 rfl ?_
    refine v_istore C [(4, .int (nI 0)), (0, .ref (gb G + 205)), (1, .int (nI 0)), (2, .int (nI 0)), (3, .int x)] dX10_bodyFrom_1 (by decide) rfl ?_
    refine v_iload C 0 dX10_bodyFrom_3 rfl ?_
    refine v_iload_n C 3 dX10_bodyFrom_5 rfl ?_
    refine n_callSp C hRm [.int (nI 0), .int (nI 0)] cw_X10_hasOwn st_X10_hasOwn ml_X10_289 (r_hasOwn l G (upA X 206 Y) 0 0 (by decide) (by decide)) (by omega) rfl rfl (Nat.le_of_ble_eq_true rfl) dX10_bodyFrom_6 ?_
    refine v_top (nI 1) (by decide +kernel) ?_
    refine n_if_ne C (by omega) 22 dX10_bodyFrom_9 rfl (fun _ => ?_) (fun h_9 => absurd h_9 (by decide))
    refine v_aload_n C 1 dX10_bodyFrom_22 rfl ?_
    refine g_X10_292 C (by decide) sh_205 dX10_bodyFrom_23 ?_
    refine v_top (X 205 19) (congrFun (upA_ne X Y (by decide)) 19) ?_
    refine v_top (b2i (σ.2 = true)) hv.2.2.2.1 ?_
    refine nb_if_eq C 33 dX10_bodyFrom_26 rfl (fun h_26 => ?_) (fun h_26 => ?_)
    · skip
      refine v_aload_n C 1 dX10_bodyFrom_33 rfl ?_
      refine v_iload C 0 dX10_bodyFrom_34 rfl ?_
      refine v_iload_n C 3 dX10_bodyFrom_36 rfl ?_
      refine v_iload_n C 4 dX10_bodyFrom_37 rfl ?_
      refine n_callVi C hRm [.int (nI 0), .int (nI 0), .int x] cw_X10_body ml_X10_295 (by decide) sh_205 (by decide) rfl (r_body10 l G Y κ c fu hB hκ hκ2 hc X x σ hv (by have h9 : rkB (bodN (ownN 0 0) 0) = 0 := (by decide); omega)) (by omega) rfl rfl (Nat.le_of_ble_eq_true rfl) dX10_bodyFrom_38 (fun M5 hP_38 => ?_)
      obtain ⟨X9, rfl, hv9, he9⟩ := hP_38
      have hz : vF κ (Y (7 + 6 * c + 1)) c (fu + 1) 0 0 x σ = bdF (vF κ (Y (7 + 6 * c + 1)) c fu) κ (Y (7 + 6 * c + 1)) c 10 x (begS σ 10) := if_neg h_26
      exact n_iret C hRt rfl dX10_bodyFrom_41 (by rw [hz]) ⟨X9, rfl, by rw [hz]; exact hv9, he9⟩
    · skip
      refine v_iconst C (nI 0) dX10_bodyFrom_29 (by decide) ?_
      refine v_goto C 41 dX10_bodyFrom_30 rfl ?_
      have hz : vF κ (Y (7 + 6 * c + 1)) c (fu + 1) 0 0 x σ = (nI 0, σ) := if_pos h_26
      exact n_iret C hRt rfl dX10_bodyFrom_41 (by rw [hz]) ⟨X, rfl, by rw [hz]; exact hv, exV.rf X⟩
  · show Vc f G NPh (upA X 206 Y) 0 [(0, .ref (gb G + 205)), (1, .int (nI 0)), (2, .int (nI 1)), (3, .int x)] []
    refine v_iload_n C 1 dX10_bodyFrom_0 rfl ?_
    refine v_istore C [(4, .int (nI 0)), (0, .ref (gb G + 205)), (1, .int (nI 0)), (2, .int (nI 1)), (3, .int x)] dX10_bodyFrom_1 (by decide) rfl ?_
    refine v_iload C 0 dX10_bodyFrom_3 rfl ?_
    refine v_iload_n C 3 dX10_bodyFrom_5 rfl ?_
    refine n_callSp C hRm [.int (nI 0), .int (nI 1)] cw_X10_hasOwn st_X10_hasOwn ml_X10_289 (r_hasOwn l G (upA X 206 Y) 0 1 (by decide) (by decide)) (by omega) rfl rfl (Nat.le_of_ble_eq_true rfl) dX10_bodyFrom_6 ?_
    refine v_top (nI 1) (by decide +kernel) ?_
    refine n_if_ne C (by omega) 22 dX10_bodyFrom_9 rfl (fun _ => ?_) (fun h_9 => absurd h_9 (by decide))
    refine v_aload_n C 1 dX10_bodyFrom_22 rfl ?_
    refine g_X10_292 C (by decide) sh_205 dX10_bodyFrom_23 ?_
    refine v_top (X 205 19) (congrFun (upA_ne X Y (by decide)) 19) ?_
    refine v_top (b2i (σ.2 = true)) hv.2.2.2.1 ?_
    refine nb_if_eq C 33 dX10_bodyFrom_26 rfl (fun h_26 => ?_) (fun h_26 => ?_)
    · skip
      refine v_aload_n C 1 dX10_bodyFrom_33 rfl ?_
      refine v_iload C 0 dX10_bodyFrom_34 rfl ?_
      refine v_iload_n C 3 dX10_bodyFrom_36 rfl ?_
      refine v_iload_n C 4 dX10_bodyFrom_37 rfl ?_
      refine n_callVi C hRm [.int (nI 0), .int (nI 1), .int x] cw_X10_body ml_X10_295 (by decide) sh_205 (by decide) rfl (r_body11 l G Y κ c fu hB hκ hκ2 hc X x σ hv (by have h9 : rkB (bodN (ownN 0 1) 1) = 3 := (by decide); omega)) (by omega) rfl rfl (Nat.le_of_ble_eq_true rfl) dX10_bodyFrom_38 (fun M5 hP_38 => ?_)
      obtain ⟨X9, rfl, hv9, he9⟩ := hP_38
      have hz : vF κ (Y (7 + 6 * c + 1)) c (fu + 1) 0 1 x σ = bdF (vF κ (Y (7 + 6 * c + 1)) c fu) κ (Y (7 + 6 * c + 1)) c 11 x (begS σ 11) := if_neg h_26
      exact n_iret C hRt rfl dX10_bodyFrom_41 (by rw [hz]) ⟨X9, rfl, by rw [hz]; exact hv9, he9⟩
    · skip
      refine v_iconst C (nI 0) dX10_bodyFrom_29 (by decide) ?_
      refine v_goto C 41 dX10_bodyFrom_30 rfl ?_
      have hz : vF κ (Y (7 + 6 * c + 1)) c (fu + 1) 0 1 x σ = (nI 0, σ) := if_pos h_26
      exact n_iret C hRt rfl dX10_bodyFrom_41 (by rw [hz]) ⟨X, rfl, by rw [hz]; exact hv, exV.rf X⟩
  · show Vc f G NPh (upA X 206 Y) 0 [(0, .ref (gb G + 205)), (1, .int (nI 0)), (2, .int (nI 2)), (3, .int x)] []
    refine v_iload_n C 1 dX10_bodyFrom_0 rfl ?_
    refine v_istore C [(4, .int (nI 0)), (0, .ref (gb G + 205)), (1, .int (nI 0)), (2, .int (nI 2)), (3, .int x)] dX10_bodyFrom_1 (by decide) rfl ?_
    refine v_iload C 0 dX10_bodyFrom_3 rfl ?_
    refine v_iload_n C 3 dX10_bodyFrom_5 rfl ?_
    refine n_callSp C hRm [.int (nI 0), .int (nI 2)] cw_X10_hasOwn st_X10_hasOwn ml_X10_289 (r_hasOwn l G (upA X 206 Y) 0 2 (by decide) (by decide)) (by omega) rfl rfl (Nat.le_of_ble_eq_true rfl) dX10_bodyFrom_6 ?_
    refine v_top (nI 1) (by decide +kernel) ?_
    refine n_if_ne C (by omega) 22 dX10_bodyFrom_9 rfl (fun _ => ?_) (fun h_9 => absurd h_9 (by decide))
    refine v_aload_n C 1 dX10_bodyFrom_22 rfl ?_
    refine g_X10_292 C (by decide) sh_205 dX10_bodyFrom_23 ?_
    refine v_top (X 205 19) (congrFun (upA_ne X Y (by decide)) 19) ?_
    refine v_top (b2i (σ.2 = true)) hv.2.2.2.1 ?_
    refine nb_if_eq C 33 dX10_bodyFrom_26 rfl (fun h_26 => ?_) (fun h_26 => ?_)
    · skip
      refine v_aload_n C 1 dX10_bodyFrom_33 rfl ?_
      refine v_iload C 0 dX10_bodyFrom_34 rfl ?_
      refine v_iload_n C 3 dX10_bodyFrom_36 rfl ?_
      refine v_iload_n C 4 dX10_bodyFrom_37 rfl ?_
      refine n_callVi C hRm [.int (nI 0), .int (nI 2), .int x] cw_X10_body ml_X10_295 (by decide) sh_205 (by decide) rfl (r_body12 l G Y κ c fu hB hκ hκ2 hc X x σ hv (by have h9 : rkB (bodN (ownN 0 2) 2) = 6 := (by decide); omega)) (by omega) rfl rfl (Nat.le_of_ble_eq_true rfl) dX10_bodyFrom_38 (fun M5 hP_38 => ?_)
      obtain ⟨X9, rfl, hv9, he9⟩ := hP_38
      have hz : vF κ (Y (7 + 6 * c + 1)) c (fu + 1) 0 2 x σ = bdF (vF κ (Y (7 + 6 * c + 1)) c fu) κ (Y (7 + 6 * c + 1)) c 12 x (begS σ 12) := if_neg h_26
      exact n_iret C hRt rfl dX10_bodyFrom_41 (by rw [hz]) ⟨X9, rfl, by rw [hz]; exact hv9, he9⟩
    · skip
      refine v_iconst C (nI 0) dX10_bodyFrom_29 (by decide) ?_
      refine v_goto C 41 dX10_bodyFrom_30 rfl ?_
      have hz : vF κ (Y (7 + 6 * c + 1)) c (fu + 1) 0 2 x σ = (nI 0, σ) := if_pos h_26
      exact n_iret C hRt rfl dX10_bodyFrom_41 (by rw [hz]) ⟨X, rfl, by rw [hz]; exact hv, exV.rf X⟩
  · show Vc f G NPh (upA X 206 Y) 0 [(0, .ref (gb G + 205)), (1, .int (nI 0)), (2, .int (nI 3)), (3, .int x)] []
    refine v_iload_n C 1 dX10_bodyFrom_0 rfl ?_
    refine v_istore C [(4, .int (nI 0)), (0, .ref (gb G + 205)), (1, .int (nI 0)), (2, .int (nI 3)), (3, .int x)] dX10_bodyFrom_1 (by decide) rfl ?_
    refine v_iload C 0 dX10_bodyFrom_3 rfl ?_
    refine v_iload_n C 3 dX10_bodyFrom_5 rfl ?_
    refine n_callSp C hRm [.int (nI 0), .int (nI 3)] cw_X10_hasOwn st_X10_hasOwn ml_X10_289 (r_hasOwn l G (upA X 206 Y) 0 3 (by decide) (by decide)) (by omega) rfl rfl (Nat.le_of_ble_eq_true rfl) dX10_bodyFrom_6 ?_
    refine v_top (nI 1) (by decide +kernel) ?_
    refine n_if_ne C (by omega) 22 dX10_bodyFrom_9 rfl (fun _ => ?_) (fun h_9 => absurd h_9 (by decide))
    refine v_aload_n C 1 dX10_bodyFrom_22 rfl ?_
    refine g_X10_292 C (by decide) sh_205 dX10_bodyFrom_23 ?_
    refine v_top (X 205 19) (congrFun (upA_ne X Y (by decide)) 19) ?_
    refine v_top (b2i (σ.2 = true)) hv.2.2.2.1 ?_
    refine nb_if_eq C 33 dX10_bodyFrom_26 rfl (fun h_26 => ?_) (fun h_26 => ?_)
    · skip
      refine v_aload_n C 1 dX10_bodyFrom_33 rfl ?_
      refine v_iload C 0 dX10_bodyFrom_34 rfl ?_
      refine v_iload_n C 3 dX10_bodyFrom_36 rfl ?_
      refine v_iload_n C 4 dX10_bodyFrom_37 rfl ?_
      refine n_callVi C hRm [.int (nI 0), .int (nI 3), .int x] cw_X10_body ml_X10_295 (by decide) sh_205 (by decide) rfl (r_body13 l G Y κ c fu hB hκ hκ2 hc X x σ hv (by have h9 : rkB (bodN (ownN 0 3) 3) = 0 := (by decide); omega)) (by omega) rfl rfl (Nat.le_of_ble_eq_true rfl) dX10_bodyFrom_38 (fun M5 hP_38 => ?_)
      obtain ⟨X9, rfl, hv9, he9⟩ := hP_38
      have hz : vF κ (Y (7 + 6 * c + 1)) c (fu + 1) 0 3 x σ = bdF (vF κ (Y (7 + 6 * c + 1)) c fu) κ (Y (7 + 6 * c + 1)) c 13 x (begS σ 13) := if_neg h_26
      exact n_iret C hRt rfl dX10_bodyFrom_41 (by rw [hz]) ⟨X9, rfl, by rw [hz]; exact hv9, he9⟩
    · skip
      refine v_iconst C (nI 0) dX10_bodyFrom_29 (by decide) ?_
      refine v_goto C 41 dX10_bodyFrom_30 rfl ?_
      have hz : vF κ (Y (7 + 6 * c + 1)) c (fu + 1) 0 3 x σ = (nI 0, σ) := if_pos h_26
      exact n_iret C hRt rfl dX10_bodyFrom_41 (by rw [hz]) ⟨X, rfl, by rw [hz]; exact hv, exV.rf X⟩
  · show Vc f G NPh (upA X 206 Y) 0 [(0, .ref (gb G + 205)), (1, .int (nI 1)), (2, .int (nI 0)), (3, .int x)] []
    refine v_iload_n C 1 dX10_bodyFrom_0 rfl ?_
    refine v_istore C [(4, .int (nI 1)), (0, .ref (gb G + 205)), (1, .int (nI 1)), (2, .int (nI 0)), (3, .int x)] dX10_bodyFrom_1 (by decide) rfl ?_
    refine v_iload C 0 dX10_bodyFrom_3 rfl ?_
    refine v_iload_n C 3 dX10_bodyFrom_5 rfl ?_
    refine n_callSp C hRm [.int (nI 1), .int (nI 0)] cw_X10_hasOwn st_X10_hasOwn ml_X10_289 (r_hasOwn l G (upA X 206 Y) 1 0 (by decide) (by decide)) (by omega) rfl rfl (Nat.le_of_ble_eq_true rfl) dX10_bodyFrom_6 ?_
    refine v_top (nI 1) (by decide +kernel) ?_
    refine n_if_ne C (by omega) 22 dX10_bodyFrom_9 rfl (fun _ => ?_) (fun h_9 => absurd h_9 (by decide))
    refine v_aload_n C 1 dX10_bodyFrom_22 rfl ?_
    refine g_X10_292 C (by decide) sh_205 dX10_bodyFrom_23 ?_
    refine v_top (X 205 19) (congrFun (upA_ne X Y (by decide)) 19) ?_
    refine v_top (b2i (σ.2 = true)) hv.2.2.2.1 ?_
    refine nb_if_eq C 33 dX10_bodyFrom_26 rfl (fun h_26 => ?_) (fun h_26 => ?_)
    · skip
      refine v_aload_n C 1 dX10_bodyFrom_33 rfl ?_
      refine v_iload C 0 dX10_bodyFrom_34 rfl ?_
      refine v_iload_n C 3 dX10_bodyFrom_36 rfl ?_
      refine v_iload_n C 4 dX10_bodyFrom_37 rfl ?_
      refine n_callVi C hRm [.int (nI 1), .int (nI 0), .int x] cw_X10_body ml_X10_295 (by decide) sh_205 (by decide) rfl (r_body20 l G Y κ c fu hB hκ hκ2 hc X x σ hv (by have h9 : rkB (bodN (ownN 1 0) 0) = 1 := (by decide); omega)) (by omega) rfl rfl (Nat.le_of_ble_eq_true rfl) dX10_bodyFrom_38 (fun M5 hP_38 => ?_)
      obtain ⟨X9, rfl, hv9, he9⟩ := hP_38
      have hz : vF κ (Y (7 + 6 * c + 1)) c (fu + 1) 1 0 x σ = bdF (vF κ (Y (7 + 6 * c + 1)) c fu) κ (Y (7 + 6 * c + 1)) c 20 x (begS σ 20) := if_neg h_26
      exact n_iret C hRt rfl dX10_bodyFrom_41 (by rw [hz]) ⟨X9, rfl, by rw [hz]; exact hv9, he9⟩
    · skip
      refine v_iconst C (nI 0) dX10_bodyFrom_29 (by decide) ?_
      refine v_goto C 41 dX10_bodyFrom_30 rfl ?_
      have hz : vF κ (Y (7 + 6 * c + 1)) c (fu + 1) 1 0 x σ = (nI 0, σ) := if_pos h_26
      exact n_iret C hRt rfl dX10_bodyFrom_41 (by rw [hz]) ⟨X, rfl, by rw [hz]; exact hv, exV.rf X⟩
  · show Vc f G NPh (upA X 206 Y) 0 [(0, .ref (gb G + 205)), (1, .int (nI 1)), (2, .int (nI 1)), (3, .int x)] []
    refine v_iload_n C 1 dX10_bodyFrom_0 rfl ?_
    refine v_istore C [(4, .int (nI 1)), (0, .ref (gb G + 205)), (1, .int (nI 1)), (2, .int (nI 1)), (3, .int x)] dX10_bodyFrom_1 (by decide) rfl ?_
    refine v_iload C 0 dX10_bodyFrom_3 rfl ?_
    refine v_iload_n C 3 dX10_bodyFrom_5 rfl ?_
    refine n_callSp C hRm [.int (nI 1), .int (nI 1)] cw_X10_hasOwn st_X10_hasOwn ml_X10_289 (r_hasOwn l G (upA X 206 Y) 1 1 (by decide) (by decide)) (by omega) rfl rfl (Nat.le_of_ble_eq_true rfl) dX10_bodyFrom_6 ?_
    refine v_top (nI 0) (by decide +kernel) ?_
    refine n_if_ne C (by omega) 22 dX10_bodyFrom_9 rfl (fun h_9 => absurd h_9 (by decide)) (fun _ => ?_)
    refine v_iload C 0 dX10_bodyFrom_12 rfl ?_
    refine n_callSp C hRm [.int (nI 1)] cw_X10_above st_X10_above ml_X10_102 (r_above l G (upA X 206 Y) 1 (by decide)) (by omega) rfl rfl (Nat.le_of_ble_eq_true rfl) dX10_bodyFrom_14 ?_
    refine v_top (nI 0) (by decide +kernel) ?_
    refine v_istore C [(4, .int (nI 0)), (0, .ref (gb G + 205)), (1, .int (nI 1)), (2, .int (nI 1)), (3, .int x)] dX10_bodyFrom_17 (by decide) rfl ?_
    refine v_goto C 3 dX10_bodyFrom_19 rfl ?_
    refine v_iload C 0 dX10_bodyFrom_3 rfl ?_
    refine v_iload_n C 3 dX10_bodyFrom_5 rfl ?_
    refine n_callSp C hRm [.int (nI 0), .int (nI 1)] cw_X10_hasOwn st_X10_hasOwn ml_X10_289 (r_hasOwn l G (upA X 206 Y) 0 1 (by decide) (by decide)) (by omega) rfl rfl (Nat.le_of_ble_eq_true rfl) dX10_bodyFrom_6 ?_
    refine v_top (nI 1) (by decide +kernel) ?_
    refine n_if_ne C (by omega) 22 dX10_bodyFrom_9 rfl (fun _ => ?_) (fun h_9 => absurd h_9 (by decide))
    refine v_aload_n C 1 dX10_bodyFrom_22 rfl ?_
    refine g_X10_292 C (by decide) sh_205 dX10_bodyFrom_23 ?_
    refine v_top (X 205 19) (congrFun (upA_ne X Y (by decide)) 19) ?_
    refine v_top (b2i (σ.2 = true)) hv.2.2.2.1 ?_
    refine nb_if_eq C 33 dX10_bodyFrom_26 rfl (fun h_26 => ?_) (fun h_26 => ?_)
    · skip
      refine v_aload_n C 1 dX10_bodyFrom_33 rfl ?_
      refine v_iload C 0 dX10_bodyFrom_34 rfl ?_
      refine v_iload_n C 3 dX10_bodyFrom_36 rfl ?_
      refine v_iload_n C 4 dX10_bodyFrom_37 rfl ?_
      refine n_callVi C hRm [.int (nI 0), .int (nI 1), .int x] cw_X10_body ml_X10_295 (by decide) sh_205 (by decide) rfl (r_body11 l G Y κ c fu hB hκ hκ2 hc X x σ hv (by have h9 : rkB (bodN (ownN 1 1) 1) = 3 := (by decide); omega)) (by omega) rfl rfl (Nat.le_of_ble_eq_true rfl) dX10_bodyFrom_38 (fun M5 hP_38 => ?_)
      obtain ⟨X9, rfl, hv9, he9⟩ := hP_38
      have hz : vF κ (Y (7 + 6 * c + 1)) c (fu + 1) 1 1 x σ = bdF (vF κ (Y (7 + 6 * c + 1)) c fu) κ (Y (7 + 6 * c + 1)) c 11 x (begS σ 11) := if_neg h_26
      exact n_iret C hRt rfl dX10_bodyFrom_41 (by rw [hz]) ⟨X9, rfl, by rw [hz]; exact hv9, he9⟩
    · skip
      refine v_iconst C (nI 0) dX10_bodyFrom_29 (by decide) ?_
      refine v_goto C 41 dX10_bodyFrom_30 rfl ?_
      have hz : vF κ (Y (7 + 6 * c + 1)) c (fu + 1) 1 1 x σ = (nI 0, σ) := if_pos h_26
      exact n_iret C hRt rfl dX10_bodyFrom_41 (by rw [hz]) ⟨X, rfl, by rw [hz]; exact hv, exV.rf X⟩
  · show Vc f G NPh (upA X 206 Y) 0 [(0, .ref (gb G + 205)), (1, .int (nI 1)), (2, .int (nI 2)), (3, .int x)] []
    refine v_iload_n C 1 dX10_bodyFrom_0 rfl ?_
    refine v_istore C [(4, .int (nI 1)), (0, .ref (gb G + 205)), (1, .int (nI 1)), (2, .int (nI 2)), (3, .int x)] dX10_bodyFrom_1 (by decide) rfl ?_
    refine v_iload C 0 dX10_bodyFrom_3 rfl ?_
    refine v_iload_n C 3 dX10_bodyFrom_5 rfl ?_
    refine n_callSp C hRm [.int (nI 1), .int (nI 2)] cw_X10_hasOwn st_X10_hasOwn ml_X10_289 (r_hasOwn l G (upA X 206 Y) 1 2 (by decide) (by decide)) (by omega) rfl rfl (Nat.le_of_ble_eq_true rfl) dX10_bodyFrom_6 ?_
    refine v_top (nI 0) (by decide +kernel) ?_
    refine n_if_ne C (by omega) 22 dX10_bodyFrom_9 rfl (fun h_9 => absurd h_9 (by decide)) (fun _ => ?_)
    refine v_iload C 0 dX10_bodyFrom_12 rfl ?_
    refine n_callSp C hRm [.int (nI 1)] cw_X10_above st_X10_above ml_X10_102 (r_above l G (upA X 206 Y) 1 (by decide)) (by omega) rfl rfl (Nat.le_of_ble_eq_true rfl) dX10_bodyFrom_14 ?_
    refine v_top (nI 0) (by decide +kernel) ?_
    refine v_istore C [(4, .int (nI 0)), (0, .ref (gb G + 205)), (1, .int (nI 1)), (2, .int (nI 2)), (3, .int x)] dX10_bodyFrom_17 (by decide) rfl ?_
    refine v_goto C 3 dX10_bodyFrom_19 rfl ?_
    refine v_iload C 0 dX10_bodyFrom_3 rfl ?_
    refine v_iload_n C 3 dX10_bodyFrom_5 rfl ?_
    refine n_callSp C hRm [.int (nI 0), .int (nI 2)] cw_X10_hasOwn st_X10_hasOwn ml_X10_289 (r_hasOwn l G (upA X 206 Y) 0 2 (by decide) (by decide)) (by omega) rfl rfl (Nat.le_of_ble_eq_true rfl) dX10_bodyFrom_6 ?_
    refine v_top (nI 1) (by decide +kernel) ?_
    refine n_if_ne C (by omega) 22 dX10_bodyFrom_9 rfl (fun _ => ?_) (fun h_9 => absurd h_9 (by decide))
    refine v_aload_n C 1 dX10_bodyFrom_22 rfl ?_
    refine g_X10_292 C (by decide) sh_205 dX10_bodyFrom_23 ?_
    refine v_top (X 205 19) (congrFun (upA_ne X Y (by decide)) 19) ?_
    refine v_top (b2i (σ.2 = true)) hv.2.2.2.1 ?_
    refine nb_if_eq C 33 dX10_bodyFrom_26 rfl (fun h_26 => ?_) (fun h_26 => ?_)
    · skip
      refine v_aload_n C 1 dX10_bodyFrom_33 rfl ?_
      refine v_iload C 0 dX10_bodyFrom_34 rfl ?_
      refine v_iload_n C 3 dX10_bodyFrom_36 rfl ?_
      refine v_iload_n C 4 dX10_bodyFrom_37 rfl ?_
      refine n_callVi C hRm [.int (nI 0), .int (nI 2), .int x] cw_X10_body ml_X10_295 (by decide) sh_205 (by decide) rfl (r_body12 l G Y κ c fu hB hκ hκ2 hc X x σ hv (by have h9 : rkB (bodN (ownN 1 2) 2) = 6 := (by decide); omega)) (by omega) rfl rfl (Nat.le_of_ble_eq_true rfl) dX10_bodyFrom_38 (fun M5 hP_38 => ?_)
      obtain ⟨X9, rfl, hv9, he9⟩ := hP_38
      have hz : vF κ (Y (7 + 6 * c + 1)) c (fu + 1) 1 2 x σ = bdF (vF κ (Y (7 + 6 * c + 1)) c fu) κ (Y (7 + 6 * c + 1)) c 12 x (begS σ 12) := if_neg h_26
      exact n_iret C hRt rfl dX10_bodyFrom_41 (by rw [hz]) ⟨X9, rfl, by rw [hz]; exact hv9, he9⟩
    · skip
      refine v_iconst C (nI 0) dX10_bodyFrom_29 (by decide) ?_
      refine v_goto C 41 dX10_bodyFrom_30 rfl ?_
      have hz : vF κ (Y (7 + 6 * c + 1)) c (fu + 1) 1 2 x σ = (nI 0, σ) := if_pos h_26
      exact n_iret C hRt rfl dX10_bodyFrom_41 (by rw [hz]) ⟨X, rfl, by rw [hz]; exact hv, exV.rf X⟩
  · show Vc f G NPh (upA X 206 Y) 0 [(0, .ref (gb G + 205)), (1, .int (nI 1)), (2, .int (nI 3)), (3, .int x)] []
    refine v_iload_n C 1 dX10_bodyFrom_0 rfl ?_
    refine v_istore C [(4, .int (nI 1)), (0, .ref (gb G + 205)), (1, .int (nI 1)), (2, .int (nI 3)), (3, .int x)] dX10_bodyFrom_1 (by decide) rfl ?_
    refine v_iload C 0 dX10_bodyFrom_3 rfl ?_
    refine v_iload_n C 3 dX10_bodyFrom_5 rfl ?_
    refine n_callSp C hRm [.int (nI 1), .int (nI 3)] cw_X10_hasOwn st_X10_hasOwn ml_X10_289 (r_hasOwn l G (upA X 206 Y) 1 3 (by decide) (by decide)) (by omega) rfl rfl (Nat.le_of_ble_eq_true rfl) dX10_bodyFrom_6 ?_
    refine v_top (nI 1) (by decide +kernel) ?_
    refine n_if_ne C (by omega) 22 dX10_bodyFrom_9 rfl (fun _ => ?_) (fun h_9 => absurd h_9 (by decide))
    refine v_aload_n C 1 dX10_bodyFrom_22 rfl ?_
    refine g_X10_292 C (by decide) sh_205 dX10_bodyFrom_23 ?_
    refine v_top (X 205 19) (congrFun (upA_ne X Y (by decide)) 19) ?_
    refine v_top (b2i (σ.2 = true)) hv.2.2.2.1 ?_
    refine nb_if_eq C 33 dX10_bodyFrom_26 rfl (fun h_26 => ?_) (fun h_26 => ?_)
    · skip
      refine v_aload_n C 1 dX10_bodyFrom_33 rfl ?_
      refine v_iload C 0 dX10_bodyFrom_34 rfl ?_
      refine v_iload_n C 3 dX10_bodyFrom_36 rfl ?_
      refine v_iload_n C 4 dX10_bodyFrom_37 rfl ?_
      refine n_callVi C hRm [.int (nI 1), .int (nI 3), .int x] cw_X10_body ml_X10_295 (by decide) sh_205 (by decide) rfl (r_body21 l G Y κ c fu hB hκ hκ2 hc X x σ hv (by have h9 : rkB (bodN (ownN 1 3) 3) = 6 := (by decide); omega)) (by omega) rfl rfl (Nat.le_of_ble_eq_true rfl) dX10_bodyFrom_38 (fun M5 hP_38 => ?_)
      obtain ⟨X9, rfl, hv9, he9⟩ := hP_38
      have hz : vF κ (Y (7 + 6 * c + 1)) c (fu + 1) 1 3 x σ = bdF (vF κ (Y (7 + 6 * c + 1)) c fu) κ (Y (7 + 6 * c + 1)) c 21 x (begS σ 21) := if_neg h_26
      exact n_iret C hRt rfl dX10_bodyFrom_41 (by rw [hz]) ⟨X9, rfl, by rw [hz]; exact hv9, he9⟩
    · skip
      refine v_iconst C (nI 0) dX10_bodyFrom_29 (by decide) ?_
      refine v_goto C 41 dX10_bodyFrom_30 rfl ?_
      have hz : vF κ (Y (7 + 6 * c + 1)) c (fu + 1) 1 3 x σ = (nI 0, σ) := if_pos h_26
      exact n_iret C hRt rfl dX10_bodyFrom_41 (by rw [hz]) ⟨X, rfl, by rw [hz]; exact hv, exV.rf X⟩
  · show Vc f G NPh (upA X 206 Y) 0 [(0, .ref (gb G + 205)), (1, .int (nI 2)), (2, .int (nI 0)), (3, .int x)] []
    refine v_iload_n C 1 dX10_bodyFrom_0 rfl ?_
    refine v_istore C [(4, .int (nI 2)), (0, .ref (gb G + 205)), (1, .int (nI 2)), (2, .int (nI 0)), (3, .int x)] dX10_bodyFrom_1 (by decide) rfl ?_
    refine v_iload C 0 dX10_bodyFrom_3 rfl ?_
    refine v_iload_n C 3 dX10_bodyFrom_5 rfl ?_
    refine n_callSp C hRm [.int (nI 2), .int (nI 0)] cw_X10_hasOwn st_X10_hasOwn ml_X10_289 (r_hasOwn l G (upA X 206 Y) 2 0 (by decide) (by decide)) (by omega) rfl rfl (Nat.le_of_ble_eq_true rfl) dX10_bodyFrom_6 ?_
    refine v_top (nI 0) (by decide +kernel) ?_
    refine n_if_ne C (by omega) 22 dX10_bodyFrom_9 rfl (fun h_9 => absurd h_9 (by decide)) (fun _ => ?_)
    refine v_iload C 0 dX10_bodyFrom_12 rfl ?_
    refine n_callSp C hRm [.int (nI 2)] cw_X10_above st_X10_above ml_X10_102 (r_above l G (upA X 206 Y) 2 (by decide)) (by omega) rfl rfl (Nat.le_of_ble_eq_true rfl) dX10_bodyFrom_14 ?_
    refine v_top (nI 0) (by decide +kernel) ?_
    refine v_istore C [(4, .int (nI 0)), (0, .ref (gb G + 205)), (1, .int (nI 2)), (2, .int (nI 0)), (3, .int x)] dX10_bodyFrom_17 (by decide) rfl ?_
    refine v_goto C 3 dX10_bodyFrom_19 rfl ?_
    refine v_iload C 0 dX10_bodyFrom_3 rfl ?_
    refine v_iload_n C 3 dX10_bodyFrom_5 rfl ?_
    refine n_callSp C hRm [.int (nI 0), .int (nI 0)] cw_X10_hasOwn st_X10_hasOwn ml_X10_289 (r_hasOwn l G (upA X 206 Y) 0 0 (by decide) (by decide)) (by omega) rfl rfl (Nat.le_of_ble_eq_true rfl) dX10_bodyFrom_6 ?_
    refine v_top (nI 1) (by decide +kernel) ?_
    refine n_if_ne C (by omega) 22 dX10_bodyFrom_9 rfl (fun _ => ?_) (fun h_9 => absurd h_9 (by decide))
    refine v_aload_n C 1 dX10_bodyFrom_22 rfl ?_
    refine g_X10_292 C (by decide) sh_205 dX10_bodyFrom_23 ?_
    refine v_top (X 205 19) (congrFun (upA_ne X Y (by decide)) 19) ?_
    refine v_top (b2i (σ.2 = true)) hv.2.2.2.1 ?_
    refine nb_if_eq C 33 dX10_bodyFrom_26 rfl (fun h_26 => ?_) (fun h_26 => ?_)
    · skip
      refine v_aload_n C 1 dX10_bodyFrom_33 rfl ?_
      refine v_iload C 0 dX10_bodyFrom_34 rfl ?_
      refine v_iload_n C 3 dX10_bodyFrom_36 rfl ?_
      refine v_iload_n C 4 dX10_bodyFrom_37 rfl ?_
      refine n_callVi C hRm [.int (nI 0), .int (nI 0), .int x] cw_X10_body ml_X10_295 (by decide) sh_205 (by decide) rfl (r_body10 l G Y κ c fu hB hκ hκ2 hc X x σ hv (by have h9 : rkB (bodN (ownN 2 0) 0) = 0 := (by decide); omega)) (by omega) rfl rfl (Nat.le_of_ble_eq_true rfl) dX10_bodyFrom_38 (fun M5 hP_38 => ?_)
      obtain ⟨X9, rfl, hv9, he9⟩ := hP_38
      have hz : vF κ (Y (7 + 6 * c + 1)) c (fu + 1) 2 0 x σ = bdF (vF κ (Y (7 + 6 * c + 1)) c fu) κ (Y (7 + 6 * c + 1)) c 10 x (begS σ 10) := if_neg h_26
      exact n_iret C hRt rfl dX10_bodyFrom_41 (by rw [hz]) ⟨X9, rfl, by rw [hz]; exact hv9, he9⟩
    · skip
      refine v_iconst C (nI 0) dX10_bodyFrom_29 (by decide) ?_
      refine v_goto C 41 dX10_bodyFrom_30 rfl ?_
      have hz : vF κ (Y (7 + 6 * c + 1)) c (fu + 1) 2 0 x σ = (nI 0, σ) := if_pos h_26
      exact n_iret C hRt rfl dX10_bodyFrom_41 (by rw [hz]) ⟨X, rfl, by rw [hz]; exact hv, exV.rf X⟩
  · show Vc f G NPh (upA X 206 Y) 0 [(0, .ref (gb G + 205)), (1, .int (nI 2)), (2, .int (nI 1)), (3, .int x)] []
    refine v_iload_n C 1 dX10_bodyFrom_0 rfl ?_
    refine v_istore C [(4, .int (nI 2)), (0, .ref (gb G + 205)), (1, .int (nI 2)), (2, .int (nI 1)), (3, .int x)] dX10_bodyFrom_1 (by decide) rfl ?_
    refine v_iload C 0 dX10_bodyFrom_3 rfl ?_
    refine v_iload_n C 3 dX10_bodyFrom_5 rfl ?_
    refine n_callSp C hRm [.int (nI 2), .int (nI 1)] cw_X10_hasOwn st_X10_hasOwn ml_X10_289 (r_hasOwn l G (upA X 206 Y) 2 1 (by decide) (by decide)) (by omega) rfl rfl (Nat.le_of_ble_eq_true rfl) dX10_bodyFrom_6 ?_
    refine v_top (nI 1) (by decide +kernel) ?_
    refine n_if_ne C (by omega) 22 dX10_bodyFrom_9 rfl (fun _ => ?_) (fun h_9 => absurd h_9 (by decide))
    refine v_aload_n C 1 dX10_bodyFrom_22 rfl ?_
    refine g_X10_292 C (by decide) sh_205 dX10_bodyFrom_23 ?_
    refine v_top (X 205 19) (congrFun (upA_ne X Y (by decide)) 19) ?_
    refine v_top (b2i (σ.2 = true)) hv.2.2.2.1 ?_
    refine nb_if_eq C 33 dX10_bodyFrom_26 rfl (fun h_26 => ?_) (fun h_26 => ?_)
    · skip
      refine v_aload_n C 1 dX10_bodyFrom_33 rfl ?_
      refine v_iload C 0 dX10_bodyFrom_34 rfl ?_
      refine v_iload_n C 3 dX10_bodyFrom_36 rfl ?_
      refine v_iload_n C 4 dX10_bodyFrom_37 rfl ?_
      refine n_callVi C hRm [.int (nI 2), .int (nI 1), .int x] cw_X10_body ml_X10_295 (by decide) sh_205 (by decide) rfl (r_body30 l G Y κ c fu hB hκ hκ2 hc X x σ hv (by have h9 : rkB (bodN (ownN 2 1) 1) = 4 := (by decide); omega)) (by omega) rfl rfl (Nat.le_of_ble_eq_true rfl) dX10_bodyFrom_38 (fun M5 hP_38 => ?_)
      obtain ⟨X9, rfl, hv9, he9⟩ := hP_38
      have hz : vF κ (Y (7 + 6 * c + 1)) c (fu + 1) 2 1 x σ = bdF (vF κ (Y (7 + 6 * c + 1)) c fu) κ (Y (7 + 6 * c + 1)) c 30 x (begS σ 30) := if_neg h_26
      exact n_iret C hRt rfl dX10_bodyFrom_41 (by rw [hz]) ⟨X9, rfl, by rw [hz]; exact hv9, he9⟩
    · skip
      refine v_iconst C (nI 0) dX10_bodyFrom_29 (by decide) ?_
      refine v_goto C 41 dX10_bodyFrom_30 rfl ?_
      have hz : vF κ (Y (7 + 6 * c + 1)) c (fu + 1) 2 1 x σ = (nI 0, σ) := if_pos h_26
      exact n_iret C hRt rfl dX10_bodyFrom_41 (by rw [hz]) ⟨X, rfl, by rw [hz]; exact hv, exV.rf X⟩
  · show Vc f G NPh (upA X 206 Y) 0 [(0, .ref (gb G + 205)), (1, .int (nI 2)), (2, .int (nI 2)), (3, .int x)] []
    refine v_iload_n C 1 dX10_bodyFrom_0 rfl ?_
    refine v_istore C [(4, .int (nI 2)), (0, .ref (gb G + 205)), (1, .int (nI 2)), (2, .int (nI 2)), (3, .int x)] dX10_bodyFrom_1 (by decide) rfl ?_
    refine v_iload C 0 dX10_bodyFrom_3 rfl ?_
    refine v_iload_n C 3 dX10_bodyFrom_5 rfl ?_
    refine n_callSp C hRm [.int (nI 2), .int (nI 2)] cw_X10_hasOwn st_X10_hasOwn ml_X10_289 (r_hasOwn l G (upA X 206 Y) 2 2 (by decide) (by decide)) (by omega) rfl rfl (Nat.le_of_ble_eq_true rfl) dX10_bodyFrom_6 ?_
    refine v_top (nI 0) (by decide +kernel) ?_
    refine n_if_ne C (by omega) 22 dX10_bodyFrom_9 rfl (fun h_9 => absurd h_9 (by decide)) (fun _ => ?_)
    refine v_iload C 0 dX10_bodyFrom_12 rfl ?_
    refine n_callSp C hRm [.int (nI 2)] cw_X10_above st_X10_above ml_X10_102 (r_above l G (upA X 206 Y) 2 (by decide)) (by omega) rfl rfl (Nat.le_of_ble_eq_true rfl) dX10_bodyFrom_14 ?_
    refine v_top (nI 0) (by decide +kernel) ?_
    refine v_istore C [(4, .int (nI 0)), (0, .ref (gb G + 205)), (1, .int (nI 2)), (2, .int (nI 2)), (3, .int x)] dX10_bodyFrom_17 (by decide) rfl ?_
    refine v_goto C 3 dX10_bodyFrom_19 rfl ?_
    refine v_iload C 0 dX10_bodyFrom_3 rfl ?_
    refine v_iload_n C 3 dX10_bodyFrom_5 rfl ?_
    refine n_callSp C hRm [.int (nI 0), .int (nI 2)] cw_X10_hasOwn st_X10_hasOwn ml_X10_289 (r_hasOwn l G (upA X 206 Y) 0 2 (by decide) (by decide)) (by omega) rfl rfl (Nat.le_of_ble_eq_true rfl) dX10_bodyFrom_6 ?_
    refine v_top (nI 1) (by decide +kernel) ?_
    refine n_if_ne C (by omega) 22 dX10_bodyFrom_9 rfl (fun _ => ?_) (fun h_9 => absurd h_9 (by decide))
    refine v_aload_n C 1 dX10_bodyFrom_22 rfl ?_
    refine g_X10_292 C (by decide) sh_205 dX10_bodyFrom_23 ?_
    refine v_top (X 205 19) (congrFun (upA_ne X Y (by decide)) 19) ?_
    refine v_top (b2i (σ.2 = true)) hv.2.2.2.1 ?_
    refine nb_if_eq C 33 dX10_bodyFrom_26 rfl (fun h_26 => ?_) (fun h_26 => ?_)
    · skip
      refine v_aload_n C 1 dX10_bodyFrom_33 rfl ?_
      refine v_iload C 0 dX10_bodyFrom_34 rfl ?_
      refine v_iload_n C 3 dX10_bodyFrom_36 rfl ?_
      refine v_iload_n C 4 dX10_bodyFrom_37 rfl ?_
      refine n_callVi C hRm [.int (nI 0), .int (nI 2), .int x] cw_X10_body ml_X10_295 (by decide) sh_205 (by decide) rfl (r_body12 l G Y κ c fu hB hκ hκ2 hc X x σ hv (by have h9 : rkB (bodN (ownN 2 2) 2) = 6 := (by decide); omega)) (by omega) rfl rfl (Nat.le_of_ble_eq_true rfl) dX10_bodyFrom_38 (fun M5 hP_38 => ?_)
      obtain ⟨X9, rfl, hv9, he9⟩ := hP_38
      have hz : vF κ (Y (7 + 6 * c + 1)) c (fu + 1) 2 2 x σ = bdF (vF κ (Y (7 + 6 * c + 1)) c fu) κ (Y (7 + 6 * c + 1)) c 12 x (begS σ 12) := if_neg h_26
      exact n_iret C hRt rfl dX10_bodyFrom_41 (by rw [hz]) ⟨X9, rfl, by rw [hz]; exact hv9, he9⟩
    · skip
      refine v_iconst C (nI 0) dX10_bodyFrom_29 (by decide) ?_
      refine v_goto C 41 dX10_bodyFrom_30 rfl ?_
      have hz : vF κ (Y (7 + 6 * c + 1)) c (fu + 1) 2 2 x σ = (nI 0, σ) := if_pos h_26
      exact n_iret C hRt rfl dX10_bodyFrom_41 (by rw [hz]) ⟨X, rfl, by rw [hz]; exact hv, exV.rf X⟩
  · show Vc f G NPh (upA X 206 Y) 0 [(0, .ref (gb G + 205)), (1, .int (nI 2)), (2, .int (nI 3)), (3, .int x)] []
    refine v_iload_n C 1 dX10_bodyFrom_0 rfl ?_
    refine v_istore C [(4, .int (nI 2)), (0, .ref (gb G + 205)), (1, .int (nI 2)), (2, .int (nI 3)), (3, .int x)] dX10_bodyFrom_1 (by decide) rfl ?_
    refine v_iload C 0 dX10_bodyFrom_3 rfl ?_
    refine v_iload_n C 3 dX10_bodyFrom_5 rfl ?_
    refine n_callSp C hRm [.int (nI 2), .int (nI 3)] cw_X10_hasOwn st_X10_hasOwn ml_X10_289 (r_hasOwn l G (upA X 206 Y) 2 3 (by decide) (by decide)) (by omega) rfl rfl (Nat.le_of_ble_eq_true rfl) dX10_bodyFrom_6 ?_
    refine v_top (nI 0) (by decide +kernel) ?_
    refine n_if_ne C (by omega) 22 dX10_bodyFrom_9 rfl (fun h_9 => absurd h_9 (by decide)) (fun _ => ?_)
    refine v_iload C 0 dX10_bodyFrom_12 rfl ?_
    refine n_callSp C hRm [.int (nI 2)] cw_X10_above st_X10_above ml_X10_102 (r_above l G (upA X 206 Y) 2 (by decide)) (by omega) rfl rfl (Nat.le_of_ble_eq_true rfl) dX10_bodyFrom_14 ?_
    refine v_top (nI 0) (by decide +kernel) ?_
    refine v_istore C [(4, .int (nI 0)), (0, .ref (gb G + 205)), (1, .int (nI 2)), (2, .int (nI 3)), (3, .int x)] dX10_bodyFrom_17 (by decide) rfl ?_
    refine v_goto C 3 dX10_bodyFrom_19 rfl ?_
    refine v_iload C 0 dX10_bodyFrom_3 rfl ?_
    refine v_iload_n C 3 dX10_bodyFrom_5 rfl ?_
    refine n_callSp C hRm [.int (nI 0), .int (nI 3)] cw_X10_hasOwn st_X10_hasOwn ml_X10_289 (r_hasOwn l G (upA X 206 Y) 0 3 (by decide) (by decide)) (by omega) rfl rfl (Nat.le_of_ble_eq_true rfl) dX10_bodyFrom_6 ?_
    refine v_top (nI 1) (by decide +kernel) ?_
    refine n_if_ne C (by omega) 22 dX10_bodyFrom_9 rfl (fun _ => ?_) (fun h_9 => absurd h_9 (by decide))
    refine v_aload_n C 1 dX10_bodyFrom_22 rfl ?_
    refine g_X10_292 C (by decide) sh_205 dX10_bodyFrom_23 ?_
    refine v_top (X 205 19) (congrFun (upA_ne X Y (by decide)) 19) ?_
    refine v_top (b2i (σ.2 = true)) hv.2.2.2.1 ?_
    refine nb_if_eq C 33 dX10_bodyFrom_26 rfl (fun h_26 => ?_) (fun h_26 => ?_)
    · skip
      refine v_aload_n C 1 dX10_bodyFrom_33 rfl ?_
      refine v_iload C 0 dX10_bodyFrom_34 rfl ?_
      refine v_iload_n C 3 dX10_bodyFrom_36 rfl ?_
      refine v_iload_n C 4 dX10_bodyFrom_37 rfl ?_
      refine n_callVi C hRm [.int (nI 0), .int (nI 3), .int x] cw_X10_body ml_X10_295 (by decide) sh_205 (by decide) rfl (r_body13 l G Y κ c fu hB hκ hκ2 hc X x σ hv (by have h9 : rkB (bodN (ownN 2 3) 3) = 0 := (by decide); omega)) (by omega) rfl rfl (Nat.le_of_ble_eq_true rfl) dX10_bodyFrom_38 (fun M5 hP_38 => ?_)
      obtain ⟨X9, rfl, hv9, he9⟩ := hP_38
      have hz : vF κ (Y (7 + 6 * c + 1)) c (fu + 1) 2 3 x σ = bdF (vF κ (Y (7 + 6 * c + 1)) c fu) κ (Y (7 + 6 * c + 1)) c 13 x (begS σ 13) := if_neg h_26
      exact n_iret C hRt rfl dX10_bodyFrom_41 (by rw [hz]) ⟨X9, rfl, by rw [hz]; exact hv9, he9⟩
    · skip
      refine v_iconst C (nI 0) dX10_bodyFrom_29 (by decide) ?_
      refine v_goto C 41 dX10_bodyFrom_30 rfl ?_
      have hz : vF κ (Y (7 + 6 * c + 1)) c (fu + 1) 2 3 x σ = (nI 0, σ) := if_pos h_26
      exact n_iret C hRt rfl dX10_bodyFrom_41 (by rw [hz]) ⟨X, rfl, by rw [hz]; exact hv, exV.rf X⟩
  · show Vc f G NPh (upA X 206 Y) 0 [(0, .ref (gb G + 205)), (1, .int (nI 3)), (2, .int (nI 0)), (3, .int x)] []
    refine v_iload_n C 1 dX10_bodyFrom_0 rfl ?_
    refine v_istore C [(4, .int (nI 3)), (0, .ref (gb G + 205)), (1, .int (nI 3)), (2, .int (nI 0)), (3, .int x)] dX10_bodyFrom_1 (by decide) rfl ?_
    refine v_iload C 0 dX10_bodyFrom_3 rfl ?_
    refine v_iload_n C 3 dX10_bodyFrom_5 rfl ?_
    refine n_callSp C hRm [.int (nI 3), .int (nI 0)] cw_X10_hasOwn st_X10_hasOwn ml_X10_289 (r_hasOwn l G (upA X 206 Y) 3 0 (by decide) (by decide)) (by omega) rfl rfl (Nat.le_of_ble_eq_true rfl) dX10_bodyFrom_6 ?_
    refine v_top (nI 0) (by decide +kernel) ?_
    refine n_if_ne C (by omega) 22 dX10_bodyFrom_9 rfl (fun h_9 => absurd h_9 (by decide)) (fun _ => ?_)
    refine v_iload C 0 dX10_bodyFrom_12 rfl ?_
    refine n_callSp C hRm [.int (nI 3)] cw_X10_above st_X10_above ml_X10_102 (r_above l G (upA X 206 Y) 3 (by decide)) (by omega) rfl rfl (Nat.le_of_ble_eq_true rfl) dX10_bodyFrom_14 ?_
    refine v_top (nI 0) (by decide +kernel) ?_
    refine v_istore C [(4, .int (nI 0)), (0, .ref (gb G + 205)), (1, .int (nI 3)), (2, .int (nI 0)), (3, .int x)] dX10_bodyFrom_17 (by decide) rfl ?_
    refine v_goto C 3 dX10_bodyFrom_19 rfl ?_
    refine v_iload C 0 dX10_bodyFrom_3 rfl ?_
    refine v_iload_n C 3 dX10_bodyFrom_5 rfl ?_
    refine n_callSp C hRm [.int (nI 0), .int (nI 0)] cw_X10_hasOwn st_X10_hasOwn ml_X10_289 (r_hasOwn l G (upA X 206 Y) 0 0 (by decide) (by decide)) (by omega) rfl rfl (Nat.le_of_ble_eq_true rfl) dX10_bodyFrom_6 ?_
    refine v_top (nI 1) (by decide +kernel) ?_
    refine n_if_ne C (by omega) 22 dX10_bodyFrom_9 rfl (fun _ => ?_) (fun h_9 => absurd h_9 (by decide))
    refine v_aload_n C 1 dX10_bodyFrom_22 rfl ?_
    refine g_X10_292 C (by decide) sh_205 dX10_bodyFrom_23 ?_
    refine v_top (X 205 19) (congrFun (upA_ne X Y (by decide)) 19) ?_
    refine v_top (b2i (σ.2 = true)) hv.2.2.2.1 ?_
    refine nb_if_eq C 33 dX10_bodyFrom_26 rfl (fun h_26 => ?_) (fun h_26 => ?_)
    · skip
      refine v_aload_n C 1 dX10_bodyFrom_33 rfl ?_
      refine v_iload C 0 dX10_bodyFrom_34 rfl ?_
      refine v_iload_n C 3 dX10_bodyFrom_36 rfl ?_
      refine v_iload_n C 4 dX10_bodyFrom_37 rfl ?_
      refine n_callVi C hRm [.int (nI 0), .int (nI 0), .int x] cw_X10_body ml_X10_295 (by decide) sh_205 (by decide) rfl (r_body10 l G Y κ c fu hB hκ hκ2 hc X x σ hv (by have h9 : rkB (bodN (ownN 3 0) 0) = 0 := (by decide); omega)) (by omega) rfl rfl (Nat.le_of_ble_eq_true rfl) dX10_bodyFrom_38 (fun M5 hP_38 => ?_)
      obtain ⟨X9, rfl, hv9, he9⟩ := hP_38
      have hz : vF κ (Y (7 + 6 * c + 1)) c (fu + 1) 3 0 x σ = bdF (vF κ (Y (7 + 6 * c + 1)) c fu) κ (Y (7 + 6 * c + 1)) c 10 x (begS σ 10) := if_neg h_26
      exact n_iret C hRt rfl dX10_bodyFrom_41 (by rw [hz]) ⟨X9, rfl, by rw [hz]; exact hv9, he9⟩
    · skip
      refine v_iconst C (nI 0) dX10_bodyFrom_29 (by decide) ?_
      refine v_goto C 41 dX10_bodyFrom_30 rfl ?_
      have hz : vF κ (Y (7 + 6 * c + 1)) c (fu + 1) 3 0 x σ = (nI 0, σ) := if_pos h_26
      exact n_iret C hRt rfl dX10_bodyFrom_41 (by rw [hz]) ⟨X, rfl, by rw [hz]; exact hv, exV.rf X⟩
  · show Vc f G NPh (upA X 206 Y) 0 [(0, .ref (gb G + 205)), (1, .int (nI 3)), (2, .int (nI 1)), (3, .int x)] []
    refine v_iload_n C 1 dX10_bodyFrom_0 rfl ?_
    refine v_istore C [(4, .int (nI 3)), (0, .ref (gb G + 205)), (1, .int (nI 3)), (2, .int (nI 1)), (3, .int x)] dX10_bodyFrom_1 (by decide) rfl ?_
    refine v_iload C 0 dX10_bodyFrom_3 rfl ?_
    refine v_iload_n C 3 dX10_bodyFrom_5 rfl ?_
    refine n_callSp C hRm [.int (nI 3), .int (nI 1)] cw_X10_hasOwn st_X10_hasOwn ml_X10_289 (r_hasOwn l G (upA X 206 Y) 3 1 (by decide) (by decide)) (by omega) rfl rfl (Nat.le_of_ble_eq_true rfl) dX10_bodyFrom_6 ?_
    refine v_top (nI 0) (by decide +kernel) ?_
    refine n_if_ne C (by omega) 22 dX10_bodyFrom_9 rfl (fun h_9 => absurd h_9 (by decide)) (fun _ => ?_)
    refine v_iload C 0 dX10_bodyFrom_12 rfl ?_
    refine n_callSp C hRm [.int (nI 3)] cw_X10_above st_X10_above ml_X10_102 (r_above l G (upA X 206 Y) 3 (by decide)) (by omega) rfl rfl (Nat.le_of_ble_eq_true rfl) dX10_bodyFrom_14 ?_
    refine v_top (nI 0) (by decide +kernel) ?_
    refine v_istore C [(4, .int (nI 0)), (0, .ref (gb G + 205)), (1, .int (nI 3)), (2, .int (nI 1)), (3, .int x)] dX10_bodyFrom_17 (by decide) rfl ?_
    refine v_goto C 3 dX10_bodyFrom_19 rfl ?_
    refine v_iload C 0 dX10_bodyFrom_3 rfl ?_
    refine v_iload_n C 3 dX10_bodyFrom_5 rfl ?_
    refine n_callSp C hRm [.int (nI 0), .int (nI 1)] cw_X10_hasOwn st_X10_hasOwn ml_X10_289 (r_hasOwn l G (upA X 206 Y) 0 1 (by decide) (by decide)) (by omega) rfl rfl (Nat.le_of_ble_eq_true rfl) dX10_bodyFrom_6 ?_
    refine v_top (nI 1) (by decide +kernel) ?_
    refine n_if_ne C (by omega) 22 dX10_bodyFrom_9 rfl (fun _ => ?_) (fun h_9 => absurd h_9 (by decide))
    refine v_aload_n C 1 dX10_bodyFrom_22 rfl ?_
    refine g_X10_292 C (by decide) sh_205 dX10_bodyFrom_23 ?_
    refine v_top (X 205 19) (congrFun (upA_ne X Y (by decide)) 19) ?_
    refine v_top (b2i (σ.2 = true)) hv.2.2.2.1 ?_
    refine nb_if_eq C 33 dX10_bodyFrom_26 rfl (fun h_26 => ?_) (fun h_26 => ?_)
    · skip
      refine v_aload_n C 1 dX10_bodyFrom_33 rfl ?_
      refine v_iload C 0 dX10_bodyFrom_34 rfl ?_
      refine v_iload_n C 3 dX10_bodyFrom_36 rfl ?_
      refine v_iload_n C 4 dX10_bodyFrom_37 rfl ?_
      refine n_callVi C hRm [.int (nI 0), .int (nI 1), .int x] cw_X10_body ml_X10_295 (by decide) sh_205 (by decide) rfl (r_body11 l G Y κ c fu hB hκ hκ2 hc X x σ hv (by have h9 : rkB (bodN (ownN 3 1) 1) = 3 := (by decide); omega)) (by omega) rfl rfl (Nat.le_of_ble_eq_true rfl) dX10_bodyFrom_38 (fun M5 hP_38 => ?_)
      obtain ⟨X9, rfl, hv9, he9⟩ := hP_38
      have hz : vF κ (Y (7 + 6 * c + 1)) c (fu + 1) 3 1 x σ = bdF (vF κ (Y (7 + 6 * c + 1)) c fu) κ (Y (7 + 6 * c + 1)) c 11 x (begS σ 11) := if_neg h_26
      exact n_iret C hRt rfl dX10_bodyFrom_41 (by rw [hz]) ⟨X9, rfl, by rw [hz]; exact hv9, he9⟩
    · skip
      refine v_iconst C (nI 0) dX10_bodyFrom_29 (by decide) ?_
      refine v_goto C 41 dX10_bodyFrom_30 rfl ?_
      have hz : vF κ (Y (7 + 6 * c + 1)) c (fu + 1) 3 1 x σ = (nI 0, σ) := if_pos h_26
      exact n_iret C hRt rfl dX10_bodyFrom_41 (by rw [hz]) ⟨X, rfl, by rw [hz]; exact hv, exV.rf X⟩
  · show Vc f G NPh (upA X 206 Y) 0 [(0, .ref (gb G + 205)), (1, .int (nI 3)), (2, .int (nI 2)), (3, .int x)] []
    refine v_iload_n C 1 dX10_bodyFrom_0 rfl ?_
    refine v_istore C [(4, .int (nI 3)), (0, .ref (gb G + 205)), (1, .int (nI 3)), (2, .int (nI 2)), (3, .int x)] dX10_bodyFrom_1 (by decide) rfl ?_
    refine v_iload C 0 dX10_bodyFrom_3 rfl ?_
    refine v_iload_n C 3 dX10_bodyFrom_5 rfl ?_
    refine n_callSp C hRm [.int (nI 3), .int (nI 2)] cw_X10_hasOwn st_X10_hasOwn ml_X10_289 (r_hasOwn l G (upA X 206 Y) 3 2 (by decide) (by decide)) (by omega) rfl rfl (Nat.le_of_ble_eq_true rfl) dX10_bodyFrom_6 ?_
    refine v_top (nI 1) (by decide +kernel) ?_
    refine n_if_ne C (by omega) 22 dX10_bodyFrom_9 rfl (fun _ => ?_) (fun h_9 => absurd h_9 (by decide))
    refine v_aload_n C 1 dX10_bodyFrom_22 rfl ?_
    refine g_X10_292 C (by decide) sh_205 dX10_bodyFrom_23 ?_
    refine v_top (X 205 19) (congrFun (upA_ne X Y (by decide)) 19) ?_
    refine v_top (b2i (σ.2 = true)) hv.2.2.2.1 ?_
    refine nb_if_eq C 33 dX10_bodyFrom_26 rfl (fun h_26 => ?_) (fun h_26 => ?_)
    · skip
      refine v_aload_n C 1 dX10_bodyFrom_33 rfl ?_
      refine v_iload C 0 dX10_bodyFrom_34 rfl ?_
      refine v_iload_n C 3 dX10_bodyFrom_36 rfl ?_
      refine v_iload_n C 4 dX10_bodyFrom_37 rfl ?_
      refine n_callVi C hRm [.int (nI 3), .int (nI 2), .int x] cw_X10_body ml_X10_295 (by decide) sh_205 (by decide) rfl (r_body40 l G Y κ c fu hB hκ hκ2 hc X x σ hv (by have h9 : rkB (bodN (ownN 3 2) 2) = 7 := (by decide); omega)) (by omega) rfl rfl (Nat.le_of_ble_eq_true rfl) dX10_bodyFrom_38 (fun M5 hP_38 => ?_)
      obtain ⟨X9, rfl, hv9, he9⟩ := hP_38
      have hz : vF κ (Y (7 + 6 * c + 1)) c (fu + 1) 3 2 x σ = bdF (vF κ (Y (7 + 6 * c + 1)) c fu) κ (Y (7 + 6 * c + 1)) c 40 x (begS σ 40) := if_neg h_26
      exact n_iret C hRt rfl dX10_bodyFrom_41 (by rw [hz]) ⟨X9, rfl, by rw [hz]; exact hv9, he9⟩
    · skip
      refine v_iconst C (nI 0) dX10_bodyFrom_29 (by decide) ?_
      refine v_goto C 41 dX10_bodyFrom_30 rfl ?_
      have hz : vF κ (Y (7 + 6 * c + 1)) c (fu + 1) 3 2 x σ = (nI 0, σ) := if_pos h_26
      exact n_iret C hRt rfl dX10_bodyFrom_41 (by rw [hz]) ⟨X, rfl, by rw [hz]; exact hv, exV.rf X⟩
  · show Vc f G NPh (upA X 206 Y) 0 [(0, .ref (gb G + 205)), (1, .int (nI 3)), (2, .int (nI 3)), (3, .int x)] []
    refine v_iload_n C 1 dX10_bodyFrom_0 rfl ?_
    refine v_istore C [(4, .int (nI 3)), (0, .ref (gb G + 205)), (1, .int (nI 3)), (2, .int (nI 3)), (3, .int x)] dX10_bodyFrom_1 (by decide) rfl ?_
    refine v_iload C 0 dX10_bodyFrom_3 rfl ?_
    refine v_iload_n C 3 dX10_bodyFrom_5 rfl ?_
    refine n_callSp C hRm [.int (nI 3), .int (nI 3)] cw_X10_hasOwn st_X10_hasOwn ml_X10_289 (r_hasOwn l G (upA X 206 Y) 3 3 (by decide) (by decide)) (by omega) rfl rfl (Nat.le_of_ble_eq_true rfl) dX10_bodyFrom_6 ?_
    refine v_top (nI 0) (by decide +kernel) ?_
    refine n_if_ne C (by omega) 22 dX10_bodyFrom_9 rfl (fun h_9 => absurd h_9 (by decide)) (fun _ => ?_)
    refine v_iload C 0 dX10_bodyFrom_12 rfl ?_
    refine n_callSp C hRm [.int (nI 3)] cw_X10_above st_X10_above ml_X10_102 (r_above l G (upA X 206 Y) 3 (by decide)) (by omega) rfl rfl (Nat.le_of_ble_eq_true rfl) dX10_bodyFrom_14 ?_
    refine v_top (nI 0) (by decide +kernel) ?_
    refine v_istore C [(4, .int (nI 0)), (0, .ref (gb G + 205)), (1, .int (nI 3)), (2, .int (nI 3)), (3, .int x)] dX10_bodyFrom_17 (by decide) rfl ?_
    refine v_goto C 3 dX10_bodyFrom_19 rfl ?_
    refine v_iload C 0 dX10_bodyFrom_3 rfl ?_
    refine v_iload_n C 3 dX10_bodyFrom_5 rfl ?_
    refine n_callSp C hRm [.int (nI 0), .int (nI 3)] cw_X10_hasOwn st_X10_hasOwn ml_X10_289 (r_hasOwn l G (upA X 206 Y) 0 3 (by decide) (by decide)) (by omega) rfl rfl (Nat.le_of_ble_eq_true rfl) dX10_bodyFrom_6 ?_
    refine v_top (nI 1) (by decide +kernel) ?_
    refine n_if_ne C (by omega) 22 dX10_bodyFrom_9 rfl (fun _ => ?_) (fun h_9 => absurd h_9 (by decide))
    refine v_aload_n C 1 dX10_bodyFrom_22 rfl ?_
    refine g_X10_292 C (by decide) sh_205 dX10_bodyFrom_23 ?_
    refine v_top (X 205 19) (congrFun (upA_ne X Y (by decide)) 19) ?_
    refine v_top (b2i (σ.2 = true)) hv.2.2.2.1 ?_
    refine nb_if_eq C 33 dX10_bodyFrom_26 rfl (fun h_26 => ?_) (fun h_26 => ?_)
    · skip
      refine v_aload_n C 1 dX10_bodyFrom_33 rfl ?_
      refine v_iload C 0 dX10_bodyFrom_34 rfl ?_
      refine v_iload_n C 3 dX10_bodyFrom_36 rfl ?_
      refine v_iload_n C 4 dX10_bodyFrom_37 rfl ?_
      refine n_callVi C hRm [.int (nI 0), .int (nI 3), .int x] cw_X10_body ml_X10_295 (by decide) sh_205 (by decide) rfl (r_body13 l G Y κ c fu hB hκ hκ2 hc X x σ hv (by have h9 : rkB (bodN (ownN 3 3) 3) = 0 := (by decide); omega)) (by omega) rfl rfl (Nat.le_of_ble_eq_true rfl) dX10_bodyFrom_38 (fun M5 hP_38 => ?_)
      obtain ⟨X9, rfl, hv9, he9⟩ := hP_38
      have hz : vF κ (Y (7 + 6 * c + 1)) c (fu + 1) 3 3 x σ = bdF (vF κ (Y (7 + 6 * c + 1)) c fu) κ (Y (7 + 6 * c + 1)) c 13 x (begS σ 13) := if_neg h_26
      exact n_iret C hRt rfl dX10_bodyFrom_41 (by rw [hz]) ⟨X9, rfl, by rw [hz]; exact hv9, he9⟩
    · skip
      refine v_iconst C (nI 0) dX10_bodyFrom_29 (by decide) ?_
      refine v_goto C 41 dX10_bodyFrom_30 rfl ?_
      have hz : vF κ (Y (7 + 6 * c + 1)) c (fu + 1) 3 3 x σ = (nI 0, σ) := if_pos h_26
      exact n_iret C hRt rfl dX10_bodyFrom_41 (by rw [hz]) ⟨X, rfl, by rw [hz]; exact hv, exV.rf X⟩
  · show Vc f G NPh (upA X 206 Y) 0 [(0, .ref (gb G + 205)), (1, .int (nI 4)), (2, .int (nI 0)), (3, .int x)] []
    refine v_iload_n C 1 dX10_bodyFrom_0 rfl ?_
    refine v_istore C [(4, .int (nI 4)), (0, .ref (gb G + 205)), (1, .int (nI 4)), (2, .int (nI 0)), (3, .int x)] dX10_bodyFrom_1 (by decide) rfl ?_
    refine v_iload C 0 dX10_bodyFrom_3 rfl ?_
    refine v_iload_n C 3 dX10_bodyFrom_5 rfl ?_
    refine n_callSp C hRm [.int (nI 4), .int (nI 0)] cw_X10_hasOwn st_X10_hasOwn ml_X10_289 (r_hasOwn l G (upA X 206 Y) 4 0 (by decide) (by decide)) (by omega) rfl rfl (Nat.le_of_ble_eq_true rfl) dX10_bodyFrom_6 ?_
    refine v_top (nI 1) (by decide +kernel) ?_
    refine n_if_ne C (by omega) 22 dX10_bodyFrom_9 rfl (fun _ => ?_) (fun h_9 => absurd h_9 (by decide))
    refine v_aload_n C 1 dX10_bodyFrom_22 rfl ?_
    refine g_X10_292 C (by decide) sh_205 dX10_bodyFrom_23 ?_
    refine v_top (X 205 19) (congrFun (upA_ne X Y (by decide)) 19) ?_
    refine v_top (b2i (σ.2 = true)) hv.2.2.2.1 ?_
    refine nb_if_eq C 33 dX10_bodyFrom_26 rfl (fun h_26 => ?_) (fun h_26 => ?_)
    · skip
      refine v_aload_n C 1 dX10_bodyFrom_33 rfl ?_
      refine v_iload C 0 dX10_bodyFrom_34 rfl ?_
      refine v_iload_n C 3 dX10_bodyFrom_36 rfl ?_
      refine v_iload_n C 4 dX10_bodyFrom_37 rfl ?_
      refine n_callVi C hRm [.int (nI 4), .int (nI 0), .int x] cw_X10_body ml_X10_295 (by decide) sh_205 (by decide) rfl (r_body50 l G Y κ c fu hB hκ hκ2 hc X x σ hv (by have h9 : rkB (bodN (ownN 4 0) 0) = 2 := (by decide); omega)) (by omega) rfl rfl (Nat.le_of_ble_eq_true rfl) dX10_bodyFrom_38 (fun M5 hP_38 => ?_)
      obtain ⟨X9, rfl, hv9, he9⟩ := hP_38
      have hz : vF κ (Y (7 + 6 * c + 1)) c (fu + 1) 4 0 x σ = bdF (vF κ (Y (7 + 6 * c + 1)) c fu) κ (Y (7 + 6 * c + 1)) c 50 x (begS σ 50) := if_neg h_26
      exact n_iret C hRt rfl dX10_bodyFrom_41 (by rw [hz]) ⟨X9, rfl, by rw [hz]; exact hv9, he9⟩
    · skip
      refine v_iconst C (nI 0) dX10_bodyFrom_29 (by decide) ?_
      refine v_goto C 41 dX10_bodyFrom_30 rfl ?_
      have hz : vF κ (Y (7 + 6 * c + 1)) c (fu + 1) 4 0 x σ = (nI 0, σ) := if_pos h_26
      exact n_iret C hRt rfl dX10_bodyFrom_41 (by rw [hz]) ⟨X, rfl, by rw [hz]; exact hv, exV.rf X⟩
  · show Vc f G NPh (upA X 206 Y) 0 [(0, .ref (gb G + 205)), (1, .int (nI 4)), (2, .int (nI 1)), (3, .int x)] []
    refine v_iload_n C 1 dX10_bodyFrom_0 rfl ?_
    refine v_istore C [(4, .int (nI 4)), (0, .ref (gb G + 205)), (1, .int (nI 4)), (2, .int (nI 1)), (3, .int x)] dX10_bodyFrom_1 (by decide) rfl ?_
    refine v_iload C 0 dX10_bodyFrom_3 rfl ?_
    refine v_iload_n C 3 dX10_bodyFrom_5 rfl ?_
    refine n_callSp C hRm [.int (nI 4), .int (nI 1)] cw_X10_hasOwn st_X10_hasOwn ml_X10_289 (r_hasOwn l G (upA X 206 Y) 4 1 (by decide) (by decide)) (by omega) rfl rfl (Nat.le_of_ble_eq_true rfl) dX10_bodyFrom_6 ?_
    refine v_top (nI 0) (by decide +kernel) ?_
    refine n_if_ne C (by omega) 22 dX10_bodyFrom_9 rfl (fun h_9 => absurd h_9 (by decide)) (fun _ => ?_)
    refine v_iload C 0 dX10_bodyFrom_12 rfl ?_
    refine n_callSp C hRm [.int (nI 4)] cw_X10_above st_X10_above ml_X10_102 (r_above l G (upA X 206 Y) 4 (by decide)) (by omega) rfl rfl (Nat.le_of_ble_eq_true rfl) dX10_bodyFrom_14 ?_
    refine v_top (nI 1) (by decide +kernel) ?_
    refine v_istore C [(4, .int (nI 1)), (0, .ref (gb G + 205)), (1, .int (nI 4)), (2, .int (nI 1)), (3, .int x)] dX10_bodyFrom_17 (by decide) rfl ?_
    refine v_goto C 3 dX10_bodyFrom_19 rfl ?_
    refine v_iload C 0 dX10_bodyFrom_3 rfl ?_
    refine v_iload_n C 3 dX10_bodyFrom_5 rfl ?_
    refine n_callSp C hRm [.int (nI 1), .int (nI 1)] cw_X10_hasOwn st_X10_hasOwn ml_X10_289 (r_hasOwn l G (upA X 206 Y) 1 1 (by decide) (by decide)) (by omega) rfl rfl (Nat.le_of_ble_eq_true rfl) dX10_bodyFrom_6 ?_
    refine v_top (nI 0) (by decide +kernel) ?_
    refine n_if_ne C (by omega) 22 dX10_bodyFrom_9 rfl (fun h_9 => absurd h_9 (by decide)) (fun _ => ?_)
    refine v_iload C 0 dX10_bodyFrom_12 rfl ?_
    refine n_callSp C hRm [.int (nI 1)] cw_X10_above st_X10_above ml_X10_102 (r_above l G (upA X 206 Y) 1 (by decide)) (by omega) rfl rfl (Nat.le_of_ble_eq_true rfl) dX10_bodyFrom_14 ?_
    refine v_top (nI 0) (by decide +kernel) ?_
    refine v_istore C [(4, .int (nI 0)), (0, .ref (gb G + 205)), (1, .int (nI 4)), (2, .int (nI 1)), (3, .int x)] dX10_bodyFrom_17 (by decide) rfl ?_
    refine v_goto C 3 dX10_bodyFrom_19 rfl ?_
    refine v_iload C 0 dX10_bodyFrom_3 rfl ?_
    refine v_iload_n C 3 dX10_bodyFrom_5 rfl ?_
    refine n_callSp C hRm [.int (nI 0), .int (nI 1)] cw_X10_hasOwn st_X10_hasOwn ml_X10_289 (r_hasOwn l G (upA X 206 Y) 0 1 (by decide) (by decide)) (by omega) rfl rfl (Nat.le_of_ble_eq_true rfl) dX10_bodyFrom_6 ?_
    refine v_top (nI 1) (by decide +kernel) ?_
    refine n_if_ne C (by omega) 22 dX10_bodyFrom_9 rfl (fun _ => ?_) (fun h_9 => absurd h_9 (by decide))
    refine v_aload_n C 1 dX10_bodyFrom_22 rfl ?_
    refine g_X10_292 C (by decide) sh_205 dX10_bodyFrom_23 ?_
    refine v_top (X 205 19) (congrFun (upA_ne X Y (by decide)) 19) ?_
    refine v_top (b2i (σ.2 = true)) hv.2.2.2.1 ?_
    refine nb_if_eq C 33 dX10_bodyFrom_26 rfl (fun h_26 => ?_) (fun h_26 => ?_)
    · skip
      refine v_aload_n C 1 dX10_bodyFrom_33 rfl ?_
      refine v_iload C 0 dX10_bodyFrom_34 rfl ?_
      refine v_iload_n C 3 dX10_bodyFrom_36 rfl ?_
      refine v_iload_n C 4 dX10_bodyFrom_37 rfl ?_
      refine n_callVi C hRm [.int (nI 0), .int (nI 1), .int x] cw_X10_body ml_X10_295 (by decide) sh_205 (by decide) rfl (r_body11 l G Y κ c fu hB hκ hκ2 hc X x σ hv (by have h9 : rkB (bodN (ownN 4 1) 1) = 3 := (by decide); omega)) (by omega) rfl rfl (Nat.le_of_ble_eq_true rfl) dX10_bodyFrom_38 (fun M5 hP_38 => ?_)
      obtain ⟨X9, rfl, hv9, he9⟩ := hP_38
      have hz : vF κ (Y (7 + 6 * c + 1)) c (fu + 1) 4 1 x σ = bdF (vF κ (Y (7 + 6 * c + 1)) c fu) κ (Y (7 + 6 * c + 1)) c 11 x (begS σ 11) := if_neg h_26
      exact n_iret C hRt rfl dX10_bodyFrom_41 (by rw [hz]) ⟨X9, rfl, by rw [hz]; exact hv9, he9⟩
    · skip
      refine v_iconst C (nI 0) dX10_bodyFrom_29 (by decide) ?_
      refine v_goto C 41 dX10_bodyFrom_30 rfl ?_
      have hz : vF κ (Y (7 + 6 * c + 1)) c (fu + 1) 4 1 x σ = (nI 0, σ) := if_pos h_26
      exact n_iret C hRt rfl dX10_bodyFrom_41 (by rw [hz]) ⟨X, rfl, by rw [hz]; exact hv, exV.rf X⟩
  · show Vc f G NPh (upA X 206 Y) 0 [(0, .ref (gb G + 205)), (1, .int (nI 4)), (2, .int (nI 2)), (3, .int x)] []
    refine v_iload_n C 1 dX10_bodyFrom_0 rfl ?_
    refine v_istore C [(4, .int (nI 4)), (0, .ref (gb G + 205)), (1, .int (nI 4)), (2, .int (nI 2)), (3, .int x)] dX10_bodyFrom_1 (by decide) rfl ?_
    refine v_iload C 0 dX10_bodyFrom_3 rfl ?_
    refine v_iload_n C 3 dX10_bodyFrom_5 rfl ?_
    refine n_callSp C hRm [.int (nI 4), .int (nI 2)] cw_X10_hasOwn st_X10_hasOwn ml_X10_289 (r_hasOwn l G (upA X 206 Y) 4 2 (by decide) (by decide)) (by omega) rfl rfl (Nat.le_of_ble_eq_true rfl) dX10_bodyFrom_6 ?_
    refine v_top (nI 1) (by decide +kernel) ?_
    refine n_if_ne C (by omega) 22 dX10_bodyFrom_9 rfl (fun _ => ?_) (fun h_9 => absurd h_9 (by decide))
    refine v_aload_n C 1 dX10_bodyFrom_22 rfl ?_
    refine g_X10_292 C (by decide) sh_205 dX10_bodyFrom_23 ?_
    refine v_top (X 205 19) (congrFun (upA_ne X Y (by decide)) 19) ?_
    refine v_top (b2i (σ.2 = true)) hv.2.2.2.1 ?_
    refine nb_if_eq C 33 dX10_bodyFrom_26 rfl (fun h_26 => ?_) (fun h_26 => ?_)
    · skip
      refine v_aload_n C 1 dX10_bodyFrom_33 rfl ?_
      refine v_iload C 0 dX10_bodyFrom_34 rfl ?_
      refine v_iload_n C 3 dX10_bodyFrom_36 rfl ?_
      refine v_iload_n C 4 dX10_bodyFrom_37 rfl ?_
      refine n_callVi C hRm [.int (nI 4), .int (nI 2), .int x] cw_X10_body ml_X10_295 (by decide) sh_205 (by decide) rfl (r_body51 l G Y κ c fu hB hκ hκ2 hc X x σ hv (by have h9 : rkB (bodN (ownN 4 2) 2) = 7 := (by decide); omega)) (by omega) rfl rfl (Nat.le_of_ble_eq_true rfl) dX10_bodyFrom_38 (fun M5 hP_38 => ?_)
      obtain ⟨X9, rfl, hv9, he9⟩ := hP_38
      have hz : vF κ (Y (7 + 6 * c + 1)) c (fu + 1) 4 2 x σ = bdF (vF κ (Y (7 + 6 * c + 1)) c fu) κ (Y (7 + 6 * c + 1)) c 51 x (begS σ 51) := if_neg h_26
      exact n_iret C hRt rfl dX10_bodyFrom_41 (by rw [hz]) ⟨X9, rfl, by rw [hz]; exact hv9, he9⟩
    · skip
      refine v_iconst C (nI 0) dX10_bodyFrom_29 (by decide) ?_
      refine v_goto C 41 dX10_bodyFrom_30 rfl ?_
      have hz : vF κ (Y (7 + 6 * c + 1)) c (fu + 1) 4 2 x σ = (nI 0, σ) := if_pos h_26
      exact n_iret C hRt rfl dX10_bodyFrom_41 (by rw [hz]) ⟨X, rfl, by rw [hz]; exact hv, exV.rf X⟩
  · show Vc f G NPh (upA X 206 Y) 0 [(0, .ref (gb G + 205)), (1, .int (nI 4)), (2, .int (nI 3)), (3, .int x)] []
    refine v_iload_n C 1 dX10_bodyFrom_0 rfl ?_
    refine v_istore C [(4, .int (nI 4)), (0, .ref (gb G + 205)), (1, .int (nI 4)), (2, .int (nI 3)), (3, .int x)] dX10_bodyFrom_1 (by decide) rfl ?_
    refine v_iload C 0 dX10_bodyFrom_3 rfl ?_
    refine v_iload_n C 3 dX10_bodyFrom_5 rfl ?_
    refine n_callSp C hRm [.int (nI 4), .int (nI 3)] cw_X10_hasOwn st_X10_hasOwn ml_X10_289 (r_hasOwn l G (upA X 206 Y) 4 3 (by decide) (by decide)) (by omega) rfl rfl (Nat.le_of_ble_eq_true rfl) dX10_bodyFrom_6 ?_
    refine v_top (nI 0) (by decide +kernel) ?_
    refine n_if_ne C (by omega) 22 dX10_bodyFrom_9 rfl (fun h_9 => absurd h_9 (by decide)) (fun _ => ?_)
    refine v_iload C 0 dX10_bodyFrom_12 rfl ?_
    refine n_callSp C hRm [.int (nI 4)] cw_X10_above st_X10_above ml_X10_102 (r_above l G (upA X 206 Y) 4 (by decide)) (by omega) rfl rfl (Nat.le_of_ble_eq_true rfl) dX10_bodyFrom_14 ?_
    refine v_top (nI 1) (by decide +kernel) ?_
    refine v_istore C [(4, .int (nI 1)), (0, .ref (gb G + 205)), (1, .int (nI 4)), (2, .int (nI 3)), (3, .int x)] dX10_bodyFrom_17 (by decide) rfl ?_
    refine v_goto C 3 dX10_bodyFrom_19 rfl ?_
    refine v_iload C 0 dX10_bodyFrom_3 rfl ?_
    refine v_iload_n C 3 dX10_bodyFrom_5 rfl ?_
    refine n_callSp C hRm [.int (nI 1), .int (nI 3)] cw_X10_hasOwn st_X10_hasOwn ml_X10_289 (r_hasOwn l G (upA X 206 Y) 1 3 (by decide) (by decide)) (by omega) rfl rfl (Nat.le_of_ble_eq_true rfl) dX10_bodyFrom_6 ?_
    refine v_top (nI 1) (by decide +kernel) ?_
    refine n_if_ne C (by omega) 22 dX10_bodyFrom_9 rfl (fun _ => ?_) (fun h_9 => absurd h_9 (by decide))
    refine v_aload_n C 1 dX10_bodyFrom_22 rfl ?_
    refine g_X10_292 C (by decide) sh_205 dX10_bodyFrom_23 ?_
    refine v_top (X 205 19) (congrFun (upA_ne X Y (by decide)) 19) ?_
    refine v_top (b2i (σ.2 = true)) hv.2.2.2.1 ?_
    refine nb_if_eq C 33 dX10_bodyFrom_26 rfl (fun h_26 => ?_) (fun h_26 => ?_)
    · skip
      refine v_aload_n C 1 dX10_bodyFrom_33 rfl ?_
      refine v_iload C 0 dX10_bodyFrom_34 rfl ?_
      refine v_iload_n C 3 dX10_bodyFrom_36 rfl ?_
      refine v_iload_n C 4 dX10_bodyFrom_37 rfl ?_
      refine n_callVi C hRm [.int (nI 1), .int (nI 3), .int x] cw_X10_body ml_X10_295 (by decide) sh_205 (by decide) rfl (r_body21 l G Y κ c fu hB hκ hκ2 hc X x σ hv (by have h9 : rkB (bodN (ownN 4 3) 3) = 6 := (by decide); omega)) (by omega) rfl rfl (Nat.le_of_ble_eq_true rfl) dX10_bodyFrom_38 (fun M5 hP_38 => ?_)
      obtain ⟨X9, rfl, hv9, he9⟩ := hP_38
      have hz : vF κ (Y (7 + 6 * c + 1)) c (fu + 1) 4 3 x σ = bdF (vF κ (Y (7 + 6 * c + 1)) c fu) κ (Y (7 + 6 * c + 1)) c 21 x (begS σ 21) := if_neg h_26
      exact n_iret C hRt rfl dX10_bodyFrom_41 (by rw [hz]) ⟨X9, rfl, by rw [hz]; exact hv9, he9⟩
    · skip
      refine v_iconst C (nI 0) dX10_bodyFrom_29 (by decide) ?_
      refine v_goto C 41 dX10_bodyFrom_30 rfl ?_
      have hz : vF κ (Y (7 + 6 * c + 1)) c (fu + 1) 4 3 x σ = (nI 0, σ) := if_pos h_26
      exact n_iret C hRt rfl dX10_bodyFrom_41 (by rw [hz]) ⟨X, rfl, by rw [hz]; exact hv, exV.rf X⟩
  · show Vc f G NPh (upA X 206 Y) 0 [(0, .ref (gb G + 205)), (1, .int (nI 5)), (2, .int (nI 0)), (3, .int x)] []
    refine v_iload_n C 1 dX10_bodyFrom_0 rfl ?_
    refine v_istore C [(4, .int (nI 5)), (0, .ref (gb G + 205)), (1, .int (nI 5)), (2, .int (nI 0)), (3, .int x)] dX10_bodyFrom_1 (by decide) rfl ?_
    refine v_iload C 0 dX10_bodyFrom_3 rfl ?_
    refine v_iload_n C 3 dX10_bodyFrom_5 rfl ?_
    refine n_callSp C hRm [.int (nI 5), .int (nI 0)] cw_X10_hasOwn st_X10_hasOwn ml_X10_289 (r_hasOwn l G (upA X 206 Y) 5 0 (by decide) (by decide)) (by omega) rfl rfl (Nat.le_of_ble_eq_true rfl) dX10_bodyFrom_6 ?_
    refine v_top (nI 0) (by decide +kernel) ?_
    refine n_if_ne C (by omega) 22 dX10_bodyFrom_9 rfl (fun h_9 => absurd h_9 (by decide)) (fun _ => ?_)
    refine v_iload C 0 dX10_bodyFrom_12 rfl ?_
    refine n_callSp C hRm [.int (nI 5)] cw_X10_above st_X10_above ml_X10_102 (r_above l G (upA X 206 Y) 5 (by decide)) (by omega) rfl rfl (Nat.le_of_ble_eq_true rfl) dX10_bodyFrom_14 ?_
    refine v_top (nI 2) (by decide +kernel) ?_
    refine v_istore C [(4, .int (nI 2)), (0, .ref (gb G + 205)), (1, .int (nI 5)), (2, .int (nI 0)), (3, .int x)] dX10_bodyFrom_17 (by decide) rfl ?_
    refine v_goto C 3 dX10_bodyFrom_19 rfl ?_
    refine v_iload C 0 dX10_bodyFrom_3 rfl ?_
    refine v_iload_n C 3 dX10_bodyFrom_5 rfl ?_
    refine n_callSp C hRm [.int (nI 2), .int (nI 0)] cw_X10_hasOwn st_X10_hasOwn ml_X10_289 (r_hasOwn l G (upA X 206 Y) 2 0 (by decide) (by decide)) (by omega) rfl rfl (Nat.le_of_ble_eq_true rfl) dX10_bodyFrom_6 ?_
    refine v_top (nI 0) (by decide +kernel) ?_
    refine n_if_ne C (by omega) 22 dX10_bodyFrom_9 rfl (fun h_9 => absurd h_9 (by decide)) (fun _ => ?_)
    refine v_iload C 0 dX10_bodyFrom_12 rfl ?_
    refine n_callSp C hRm [.int (nI 2)] cw_X10_above st_X10_above ml_X10_102 (r_above l G (upA X 206 Y) 2 (by decide)) (by omega) rfl rfl (Nat.le_of_ble_eq_true rfl) dX10_bodyFrom_14 ?_
    refine v_top (nI 0) (by decide +kernel) ?_
    refine v_istore C [(4, .int (nI 0)), (0, .ref (gb G + 205)), (1, .int (nI 5)), (2, .int (nI 0)), (3, .int x)] dX10_bodyFrom_17 (by decide) rfl ?_
    refine v_goto C 3 dX10_bodyFrom_19 rfl ?_
    refine v_iload C 0 dX10_bodyFrom_3 rfl ?_
    refine v_iload_n C 3 dX10_bodyFrom_5 rfl ?_
    refine n_callSp C hRm [.int (nI 0), .int (nI 0)] cw_X10_hasOwn st_X10_hasOwn ml_X10_289 (r_hasOwn l G (upA X 206 Y) 0 0 (by decide) (by decide)) (by omega) rfl rfl (Nat.le_of_ble_eq_true rfl) dX10_bodyFrom_6 ?_
    refine v_top (nI 1) (by decide +kernel) ?_
    refine n_if_ne C (by omega) 22 dX10_bodyFrom_9 rfl (fun _ => ?_) (fun h_9 => absurd h_9 (by decide))
    refine v_aload_n C 1 dX10_bodyFrom_22 rfl ?_
    refine g_X10_292 C (by decide) sh_205 dX10_bodyFrom_23 ?_
    refine v_top (X 205 19) (congrFun (upA_ne X Y (by decide)) 19) ?_
    refine v_top (b2i (σ.2 = true)) hv.2.2.2.1 ?_
    refine nb_if_eq C 33 dX10_bodyFrom_26 rfl (fun h_26 => ?_) (fun h_26 => ?_)
    · skip
      refine v_aload_n C 1 dX10_bodyFrom_33 rfl ?_
      refine v_iload C 0 dX10_bodyFrom_34 rfl ?_
      refine v_iload_n C 3 dX10_bodyFrom_36 rfl ?_
      refine v_iload_n C 4 dX10_bodyFrom_37 rfl ?_
      refine n_callVi C hRm [.int (nI 0), .int (nI 0), .int x] cw_X10_body ml_X10_295 (by decide) sh_205 (by decide) rfl (r_body10 l G Y κ c fu hB hκ hκ2 hc X x σ hv (by have h9 : rkB (bodN (ownN 5 0) 0) = 0 := (by decide); omega)) (by omega) rfl rfl (Nat.le_of_ble_eq_true rfl) dX10_bodyFrom_38 (fun M5 hP_38 => ?_)
      obtain ⟨X9, rfl, hv9, he9⟩ := hP_38
      have hz : vF κ (Y (7 + 6 * c + 1)) c (fu + 1) 5 0 x σ = bdF (vF κ (Y (7 + 6 * c + 1)) c fu) κ (Y (7 + 6 * c + 1)) c 10 x (begS σ 10) := if_neg h_26
      exact n_iret C hRt rfl dX10_bodyFrom_41 (by rw [hz]) ⟨X9, rfl, by rw [hz]; exact hv9, he9⟩
    · skip
      refine v_iconst C (nI 0) dX10_bodyFrom_29 (by decide) ?_
      refine v_goto C 41 dX10_bodyFrom_30 rfl ?_
      have hz : vF κ (Y (7 + 6 * c + 1)) c (fu + 1) 5 0 x σ = (nI 0, σ) := if_pos h_26
      exact n_iret C hRt rfl dX10_bodyFrom_41 (by rw [hz]) ⟨X, rfl, by rw [hz]; exact hv, exV.rf X⟩
  · show Vc f G NPh (upA X 206 Y) 0 [(0, .ref (gb G + 205)), (1, .int (nI 5)), (2, .int (nI 1)), (3, .int x)] []
    refine v_iload_n C 1 dX10_bodyFrom_0 rfl ?_
    refine v_istore C [(4, .int (nI 5)), (0, .ref (gb G + 205)), (1, .int (nI 5)), (2, .int (nI 1)), (3, .int x)] dX10_bodyFrom_1 (by decide) rfl ?_
    refine v_iload C 0 dX10_bodyFrom_3 rfl ?_
    refine v_iload_n C 3 dX10_bodyFrom_5 rfl ?_
    refine n_callSp C hRm [.int (nI 5), .int (nI 1)] cw_X10_hasOwn st_X10_hasOwn ml_X10_289 (r_hasOwn l G (upA X 206 Y) 5 1 (by decide) (by decide)) (by omega) rfl rfl (Nat.le_of_ble_eq_true rfl) dX10_bodyFrom_6 ?_
    refine v_top (nI 1) (by decide +kernel) ?_
    refine n_if_ne C (by omega) 22 dX10_bodyFrom_9 rfl (fun _ => ?_) (fun h_9 => absurd h_9 (by decide))
    refine v_aload_n C 1 dX10_bodyFrom_22 rfl ?_
    refine g_X10_292 C (by decide) sh_205 dX10_bodyFrom_23 ?_
    refine v_top (X 205 19) (congrFun (upA_ne X Y (by decide)) 19) ?_
    refine v_top (b2i (σ.2 = true)) hv.2.2.2.1 ?_
    refine nb_if_eq C 33 dX10_bodyFrom_26 rfl (fun h_26 => ?_) (fun h_26 => ?_)
    · skip
      refine v_aload_n C 1 dX10_bodyFrom_33 rfl ?_
      refine v_iload C 0 dX10_bodyFrom_34 rfl ?_
      refine v_iload_n C 3 dX10_bodyFrom_36 rfl ?_
      refine v_iload_n C 4 dX10_bodyFrom_37 rfl ?_
      refine n_callVi C hRm [.int (nI 5), .int (nI 1), .int x] cw_X10_body ml_X10_295 (by decide) sh_205 (by decide) rfl (r_body60 l G Y κ c fu hB hκ hκ2 hc X x σ hv (by have h9 : rkB (bodN (ownN 5 1) 1) = 5 := (by decide); omega)) (by omega) rfl rfl (Nat.le_of_ble_eq_true rfl) dX10_bodyFrom_38 (fun M5 hP_38 => ?_)
      obtain ⟨X9, rfl, hv9, he9⟩ := hP_38
      have hz : vF κ (Y (7 + 6 * c + 1)) c (fu + 1) 5 1 x σ = bdF (vF κ (Y (7 + 6 * c + 1)) c fu) κ (Y (7 + 6 * c + 1)) c 60 x (begS σ 60) := if_neg h_26
      exact n_iret C hRt rfl dX10_bodyFrom_41 (by rw [hz]) ⟨X9, rfl, by rw [hz]; exact hv9, he9⟩
    · skip
      refine v_iconst C (nI 0) dX10_bodyFrom_29 (by decide) ?_
      refine v_goto C 41 dX10_bodyFrom_30 rfl ?_
      have hz : vF κ (Y (7 + 6 * c + 1)) c (fu + 1) 5 1 x σ = (nI 0, σ) := if_pos h_26
      exact n_iret C hRt rfl dX10_bodyFrom_41 (by rw [hz]) ⟨X, rfl, by rw [hz]; exact hv, exV.rf X⟩
  · show Vc f G NPh (upA X 206 Y) 0 [(0, .ref (gb G + 205)), (1, .int (nI 5)), (2, .int (nI 2)), (3, .int x)] []
    refine v_iload_n C 1 dX10_bodyFrom_0 rfl ?_
    refine v_istore C [(4, .int (nI 5)), (0, .ref (gb G + 205)), (1, .int (nI 5)), (2, .int (nI 2)), (3, .int x)] dX10_bodyFrom_1 (by decide) rfl ?_
    refine v_iload C 0 dX10_bodyFrom_3 rfl ?_
    refine v_iload_n C 3 dX10_bodyFrom_5 rfl ?_
    refine n_callSp C hRm [.int (nI 5), .int (nI 2)] cw_X10_hasOwn st_X10_hasOwn ml_X10_289 (r_hasOwn l G (upA X 206 Y) 5 2 (by decide) (by decide)) (by omega) rfl rfl (Nat.le_of_ble_eq_true rfl) dX10_bodyFrom_6 ?_
    refine v_top (nI 0) (by decide +kernel) ?_
    refine n_if_ne C (by omega) 22 dX10_bodyFrom_9 rfl (fun h_9 => absurd h_9 (by decide)) (fun _ => ?_)
    refine v_iload C 0 dX10_bodyFrom_12 rfl ?_
    refine n_callSp C hRm [.int (nI 5)] cw_X10_above st_X10_above ml_X10_102 (r_above l G (upA X 206 Y) 5 (by decide)) (by omega) rfl rfl (Nat.le_of_ble_eq_true rfl) dX10_bodyFrom_14 ?_
    refine v_top (nI 2) (by decide +kernel) ?_
    refine v_istore C [(4, .int (nI 2)), (0, .ref (gb G + 205)), (1, .int (nI 5)), (2, .int (nI 2)), (3, .int x)] dX10_bodyFrom_17 (by decide) rfl ?_
    refine v_goto C 3 dX10_bodyFrom_19 rfl ?_
    refine v_iload C 0 dX10_bodyFrom_3 rfl ?_
    refine v_iload_n C 3 dX10_bodyFrom_5 rfl ?_
    refine n_callSp C hRm [.int (nI 2), .int (nI 2)] cw_X10_hasOwn st_X10_hasOwn ml_X10_289 (r_hasOwn l G (upA X 206 Y) 2 2 (by decide) (by decide)) (by omega) rfl rfl (Nat.le_of_ble_eq_true rfl) dX10_bodyFrom_6 ?_
    refine v_top (nI 0) (by decide +kernel) ?_
    refine n_if_ne C (by omega) 22 dX10_bodyFrom_9 rfl (fun h_9 => absurd h_9 (by decide)) (fun _ => ?_)
    refine v_iload C 0 dX10_bodyFrom_12 rfl ?_
    refine n_callSp C hRm [.int (nI 2)] cw_X10_above st_X10_above ml_X10_102 (r_above l G (upA X 206 Y) 2 (by decide)) (by omega) rfl rfl (Nat.le_of_ble_eq_true rfl) dX10_bodyFrom_14 ?_
    refine v_top (nI 0) (by decide +kernel) ?_
    refine v_istore C [(4, .int (nI 0)), (0, .ref (gb G + 205)), (1, .int (nI 5)), (2, .int (nI 2)), (3, .int x)] dX10_bodyFrom_17 (by decide) rfl ?_
    refine v_goto C 3 dX10_bodyFrom_19 rfl ?_
    refine v_iload C 0 dX10_bodyFrom_3 rfl ?_
    refine v_iload_n C 3 dX10_bodyFrom_5 rfl ?_
    refine n_callSp C hRm [.int (nI 0), .int (nI 2)] cw_X10_hasOwn st_X10_hasOwn ml_X10_289 (r_hasOwn l G (upA X 206 Y) 0 2 (by decide) (by decide)) (by omega) rfl rfl (Nat.le_of_ble_eq_true rfl) dX10_bodyFrom_6 ?_
    refine v_top (nI 1) (by decide +kernel) ?_
    refine n_if_ne C (by omega) 22 dX10_bodyFrom_9 rfl (fun _ => ?_) (fun h_9 => absurd h_9 (by decide))
    refine v_aload_n C 1 dX10_bodyFrom_22 rfl ?_
    refine g_X10_292 C (by decide) sh_205 dX10_bodyFrom_23 ?_
    refine v_top (X 205 19) (congrFun (upA_ne X Y (by decide)) 19) ?_
    refine v_top (b2i (σ.2 = true)) hv.2.2.2.1 ?_
    refine nb_if_eq C 33 dX10_bodyFrom_26 rfl (fun h_26 => ?_) (fun h_26 => ?_)
    · skip
      refine v_aload_n C 1 dX10_bodyFrom_33 rfl ?_
      refine v_iload C 0 dX10_bodyFrom_34 rfl ?_
      refine v_iload_n C 3 dX10_bodyFrom_36 rfl ?_
      refine v_iload_n C 4 dX10_bodyFrom_37 rfl ?_
      refine n_callVi C hRm [.int (nI 0), .int (nI 2), .int x] cw_X10_body ml_X10_295 (by decide) sh_205 (by decide) rfl (r_body12 l G Y κ c fu hB hκ hκ2 hc X x σ hv (by have h9 : rkB (bodN (ownN 5 2) 2) = 6 := (by decide); omega)) (by omega) rfl rfl (Nat.le_of_ble_eq_true rfl) dX10_bodyFrom_38 (fun M5 hP_38 => ?_)
      obtain ⟨X9, rfl, hv9, he9⟩ := hP_38
      have hz : vF κ (Y (7 + 6 * c + 1)) c (fu + 1) 5 2 x σ = bdF (vF κ (Y (7 + 6 * c + 1)) c fu) κ (Y (7 + 6 * c + 1)) c 12 x (begS σ 12) := if_neg h_26
      exact n_iret C hRt rfl dX10_bodyFrom_41 (by rw [hz]) ⟨X9, rfl, by rw [hz]; exact hv9, he9⟩
    · skip
      refine v_iconst C (nI 0) dX10_bodyFrom_29 (by decide) ?_
      refine v_goto C 41 dX10_bodyFrom_30 rfl ?_
      have hz : vF κ (Y (7 + 6 * c + 1)) c (fu + 1) 5 2 x σ = (nI 0, σ) := if_pos h_26
      exact n_iret C hRt rfl dX10_bodyFrom_41 (by rw [hz]) ⟨X, rfl, by rw [hz]; exact hv, exV.rf X⟩
  · show Vc f G NPh (upA X 206 Y) 0 [(0, .ref (gb G + 205)), (1, .int (nI 5)), (2, .int (nI 3)), (3, .int x)] []
    refine v_iload_n C 1 dX10_bodyFrom_0 rfl ?_
    refine v_istore C [(4, .int (nI 5)), (0, .ref (gb G + 205)), (1, .int (nI 5)), (2, .int (nI 3)), (3, .int x)] dX10_bodyFrom_1 (by decide) rfl ?_
    refine v_iload C 0 dX10_bodyFrom_3 rfl ?_
    refine v_iload_n C 3 dX10_bodyFrom_5 rfl ?_
    refine n_callSp C hRm [.int (nI 5), .int (nI 3)] cw_X10_hasOwn st_X10_hasOwn ml_X10_289 (r_hasOwn l G (upA X 206 Y) 5 3 (by decide) (by decide)) (by omega) rfl rfl (Nat.le_of_ble_eq_true rfl) dX10_bodyFrom_6 ?_
    refine v_top (nI 0) (by decide +kernel) ?_
    refine n_if_ne C (by omega) 22 dX10_bodyFrom_9 rfl (fun h_9 => absurd h_9 (by decide)) (fun _ => ?_)
    refine v_iload C 0 dX10_bodyFrom_12 rfl ?_
    refine n_callSp C hRm [.int (nI 5)] cw_X10_above st_X10_above ml_X10_102 (r_above l G (upA X 206 Y) 5 (by decide)) (by omega) rfl rfl (Nat.le_of_ble_eq_true rfl) dX10_bodyFrom_14 ?_
    refine v_top (nI 2) (by decide +kernel) ?_
    refine v_istore C [(4, .int (nI 2)), (0, .ref (gb G + 205)), (1, .int (nI 5)), (2, .int (nI 3)), (3, .int x)] dX10_bodyFrom_17 (by decide) rfl ?_
    refine v_goto C 3 dX10_bodyFrom_19 rfl ?_
    refine v_iload C 0 dX10_bodyFrom_3 rfl ?_
    refine v_iload_n C 3 dX10_bodyFrom_5 rfl ?_
    refine n_callSp C hRm [.int (nI 2), .int (nI 3)] cw_X10_hasOwn st_X10_hasOwn ml_X10_289 (r_hasOwn l G (upA X 206 Y) 2 3 (by decide) (by decide)) (by omega) rfl rfl (Nat.le_of_ble_eq_true rfl) dX10_bodyFrom_6 ?_
    refine v_top (nI 0) (by decide +kernel) ?_
    refine n_if_ne C (by omega) 22 dX10_bodyFrom_9 rfl (fun h_9 => absurd h_9 (by decide)) (fun _ => ?_)
    refine v_iload C 0 dX10_bodyFrom_12 rfl ?_
    refine n_callSp C hRm [.int (nI 2)] cw_X10_above st_X10_above ml_X10_102 (r_above l G (upA X 206 Y) 2 (by decide)) (by omega) rfl rfl (Nat.le_of_ble_eq_true rfl) dX10_bodyFrom_14 ?_
    refine v_top (nI 0) (by decide +kernel) ?_
    refine v_istore C [(4, .int (nI 0)), (0, .ref (gb G + 205)), (1, .int (nI 5)), (2, .int (nI 3)), (3, .int x)] dX10_bodyFrom_17 (by decide) rfl ?_
    refine v_goto C 3 dX10_bodyFrom_19 rfl ?_
    refine v_iload C 0 dX10_bodyFrom_3 rfl ?_
    refine v_iload_n C 3 dX10_bodyFrom_5 rfl ?_
    refine n_callSp C hRm [.int (nI 0), .int (nI 3)] cw_X10_hasOwn st_X10_hasOwn ml_X10_289 (r_hasOwn l G (upA X 206 Y) 0 3 (by decide) (by decide)) (by omega) rfl rfl (Nat.le_of_ble_eq_true rfl) dX10_bodyFrom_6 ?_
    refine v_top (nI 1) (by decide +kernel) ?_
    refine n_if_ne C (by omega) 22 dX10_bodyFrom_9 rfl (fun _ => ?_) (fun h_9 => absurd h_9 (by decide))
    refine v_aload_n C 1 dX10_bodyFrom_22 rfl ?_
    refine g_X10_292 C (by decide) sh_205 dX10_bodyFrom_23 ?_
    refine v_top (X 205 19) (congrFun (upA_ne X Y (by decide)) 19) ?_
    refine v_top (b2i (σ.2 = true)) hv.2.2.2.1 ?_
    refine nb_if_eq C 33 dX10_bodyFrom_26 rfl (fun h_26 => ?_) (fun h_26 => ?_)
    · skip
      refine v_aload_n C 1 dX10_bodyFrom_33 rfl ?_
      refine v_iload C 0 dX10_bodyFrom_34 rfl ?_
      refine v_iload_n C 3 dX10_bodyFrom_36 rfl ?_
      refine v_iload_n C 4 dX10_bodyFrom_37 rfl ?_
      refine n_callVi C hRm [.int (nI 0), .int (nI 3), .int x] cw_X10_body ml_X10_295 (by decide) sh_205 (by decide) rfl (r_body13 l G Y κ c fu hB hκ hκ2 hc X x σ hv (by have h9 : rkB (bodN (ownN 5 3) 3) = 0 := (by decide); omega)) (by omega) rfl rfl (Nat.le_of_ble_eq_true rfl) dX10_bodyFrom_38 (fun M5 hP_38 => ?_)
      obtain ⟨X9, rfl, hv9, he9⟩ := hP_38
      have hz : vF κ (Y (7 + 6 * c + 1)) c (fu + 1) 5 3 x σ = bdF (vF κ (Y (7 + 6 * c + 1)) c fu) κ (Y (7 + 6 * c + 1)) c 13 x (begS σ 13) := if_neg h_26
      exact n_iret C hRt rfl dX10_bodyFrom_41 (by rw [hz]) ⟨X9, rfl, by rw [hz]; exact hv9, he9⟩
    · skip
      refine v_iconst C (nI 0) dX10_bodyFrom_29 (by decide) ?_
      refine v_goto C 41 dX10_bodyFrom_30 rfl ?_
      have hz : vF κ (Y (7 + 6 * c + 1)) c (fu + 1) 5 3 x σ = (nI 0, σ) := if_pos h_26
      exact n_iret C hRt rfl dX10_bodyFrom_41 (by rw [hz]) ⟨X, rfl, by rw [hz]; exact hv, exV.rf X⟩
  · show Vc f G NPh (upA X 206 Y) 0 [(0, .ref (gb G + 205)), (1, .int (nI 6)), (2, .int (nI 0)), (3, .int x)] []
    refine v_iload_n C 1 dX10_bodyFrom_0 rfl ?_
    refine v_istore C [(4, .int (nI 6)), (0, .ref (gb G + 205)), (1, .int (nI 6)), (2, .int (nI 0)), (3, .int x)] dX10_bodyFrom_1 (by decide) rfl ?_
    refine v_iload C 0 dX10_bodyFrom_3 rfl ?_
    refine v_iload_n C 3 dX10_bodyFrom_5 rfl ?_
    refine n_callSp C hRm [.int (nI 6), .int (nI 0)] cw_X10_hasOwn st_X10_hasOwn ml_X10_289 (r_hasOwn l G (upA X 206 Y) 6 0 (by decide) (by decide)) (by omega) rfl rfl (Nat.le_of_ble_eq_true rfl) dX10_bodyFrom_6 ?_
    refine v_top (nI 1) (by decide +kernel) ?_
    refine n_if_ne C (by omega) 22 dX10_bodyFrom_9 rfl (fun _ => ?_) (fun h_9 => absurd h_9 (by decide))
    refine v_aload_n C 1 dX10_bodyFrom_22 rfl ?_
    refine g_X10_292 C (by decide) sh_205 dX10_bodyFrom_23 ?_
    refine v_top (X 205 19) (congrFun (upA_ne X Y (by decide)) 19) ?_
    refine v_top (b2i (σ.2 = true)) hv.2.2.2.1 ?_
    refine nb_if_eq C 33 dX10_bodyFrom_26 rfl (fun h_26 => ?_) (fun h_26 => ?_)
    · skip
      refine v_aload_n C 1 dX10_bodyFrom_33 rfl ?_
      refine v_iload C 0 dX10_bodyFrom_34 rfl ?_
      refine v_iload_n C 3 dX10_bodyFrom_36 rfl ?_
      refine v_iload_n C 4 dX10_bodyFrom_37 rfl ?_
      refine n_callVi C hRm [.int (nI 6), .int (nI 0), .int x] cw_X10_body ml_X10_295 (by decide) sh_205 (by decide) rfl (r_body70 l G Y κ c fu hB hκ hκ2 hc X x σ hv (by have h9 : rkB (bodN (ownN 6 0) 0) = 0 := (by decide); omega)) (by omega) rfl rfl (Nat.le_of_ble_eq_true rfl) dX10_bodyFrom_38 (fun M5 hP_38 => ?_)
      obtain ⟨X9, rfl, hv9, he9⟩ := hP_38
      have hz : vF κ (Y (7 + 6 * c + 1)) c (fu + 1) 6 0 x σ = bdF (vF κ (Y (7 + 6 * c + 1)) c fu) κ (Y (7 + 6 * c + 1)) c 70 x (begS σ 70) := if_neg h_26
      exact n_iret C hRt rfl dX10_bodyFrom_41 (by rw [hz]) ⟨X9, rfl, by rw [hz]; exact hv9, he9⟩
    · skip
      refine v_iconst C (nI 0) dX10_bodyFrom_29 (by decide) ?_
      refine v_goto C 41 dX10_bodyFrom_30 rfl ?_
      have hz : vF κ (Y (7 + 6 * c + 1)) c (fu + 1) 6 0 x σ = (nI 0, σ) := if_pos h_26
      exact n_iret C hRt rfl dX10_bodyFrom_41 (by rw [hz]) ⟨X, rfl, by rw [hz]; exact hv, exV.rf X⟩
  · show Vc f G NPh (upA X 206 Y) 0 [(0, .ref (gb G + 205)), (1, .int (nI 6)), (2, .int (nI 1)), (3, .int x)] []
    refine v_iload_n C 1 dX10_bodyFrom_0 rfl ?_
    refine v_istore C [(4, .int (nI 6)), (0, .ref (gb G + 205)), (1, .int (nI 6)), (2, .int (nI 1)), (3, .int x)] dX10_bodyFrom_1 (by decide) rfl ?_
    refine v_iload C 0 dX10_bodyFrom_3 rfl ?_
    refine v_iload_n C 3 dX10_bodyFrom_5 rfl ?_
    refine n_callSp C hRm [.int (nI 6), .int (nI 1)] cw_X10_hasOwn st_X10_hasOwn ml_X10_289 (r_hasOwn l G (upA X 206 Y) 6 1 (by decide) (by decide)) (by omega) rfl rfl (Nat.le_of_ble_eq_true rfl) dX10_bodyFrom_6 ?_
    refine v_top (nI 1) (by decide +kernel) ?_
    refine n_if_ne C (by omega) 22 dX10_bodyFrom_9 rfl (fun _ => ?_) (fun h_9 => absurd h_9 (by decide))
    refine v_aload_n C 1 dX10_bodyFrom_22 rfl ?_
    refine g_X10_292 C (by decide) sh_205 dX10_bodyFrom_23 ?_
    refine v_top (X 205 19) (congrFun (upA_ne X Y (by decide)) 19) ?_
    refine v_top (b2i (σ.2 = true)) hv.2.2.2.1 ?_
    refine nb_if_eq C 33 dX10_bodyFrom_26 rfl (fun h_26 => ?_) (fun h_26 => ?_)
    · skip
      refine v_aload_n C 1 dX10_bodyFrom_33 rfl ?_
      refine v_iload C 0 dX10_bodyFrom_34 rfl ?_
      refine v_iload_n C 3 dX10_bodyFrom_36 rfl ?_
      refine v_iload_n C 4 dX10_bodyFrom_37 rfl ?_
      refine n_callVi C hRm [.int (nI 6), .int (nI 1), .int x] cw_X10_body ml_X10_295 (by decide) sh_205 (by decide) rfl (r_body71 l G Y κ c fu hB hκ hκ2 hc X x σ hv (by have h9 : rkB (bodN (ownN 6 1) 1) = 4 := (by decide); omega)) (by omega) rfl rfl (Nat.le_of_ble_eq_true rfl) dX10_bodyFrom_38 (fun M5 hP_38 => ?_)
      obtain ⟨X9, rfl, hv9, he9⟩ := hP_38
      have hz : vF κ (Y (7 + 6 * c + 1)) c (fu + 1) 6 1 x σ = bdF (vF κ (Y (7 + 6 * c + 1)) c fu) κ (Y (7 + 6 * c + 1)) c 71 x (begS σ 71) := if_neg h_26
      exact n_iret C hRt rfl dX10_bodyFrom_41 (by rw [hz]) ⟨X9, rfl, by rw [hz]; exact hv9, he9⟩
    · skip
      refine v_iconst C (nI 0) dX10_bodyFrom_29 (by decide) ?_
      refine v_goto C 41 dX10_bodyFrom_30 rfl ?_
      have hz : vF κ (Y (7 + 6 * c + 1)) c (fu + 1) 6 1 x σ = (nI 0, σ) := if_pos h_26
      exact n_iret C hRt rfl dX10_bodyFrom_41 (by rw [hz]) ⟨X, rfl, by rw [hz]; exact hv, exV.rf X⟩
  · show Vc f G NPh (upA X 206 Y) 0 [(0, .ref (gb G + 205)), (1, .int (nI 6)), (2, .int (nI 2)), (3, .int x)] []
    refine v_iload_n C 1 dX10_bodyFrom_0 rfl ?_
    refine v_istore C [(4, .int (nI 6)), (0, .ref (gb G + 205)), (1, .int (nI 6)), (2, .int (nI 2)), (3, .int x)] dX10_bodyFrom_1 (by decide) rfl ?_
    refine v_iload C 0 dX10_bodyFrom_3 rfl ?_
    refine v_iload_n C 3 dX10_bodyFrom_5 rfl ?_
    refine n_callSp C hRm [.int (nI 6), .int (nI 2)] cw_X10_hasOwn st_X10_hasOwn ml_X10_289 (r_hasOwn l G (upA X 206 Y) 6 2 (by decide) (by decide)) (by omega) rfl rfl (Nat.le_of_ble_eq_true rfl) dX10_bodyFrom_6 ?_
    refine v_top (nI 0) (by decide +kernel) ?_
    refine n_if_ne C (by omega) 22 dX10_bodyFrom_9 rfl (fun h_9 => absurd h_9 (by decide)) (fun _ => ?_)
    refine v_iload C 0 dX10_bodyFrom_12 rfl ?_
    refine n_callSp C hRm [.int (nI 6)] cw_X10_above st_X10_above ml_X10_102 (r_above l G (upA X 206 Y) 6 (by decide)) (by omega) rfl rfl (Nat.le_of_ble_eq_true rfl) dX10_bodyFrom_14 ?_
    refine v_top (nI 0) (by decide +kernel) ?_
    refine v_istore C [(4, .int (nI 0)), (0, .ref (gb G + 205)), (1, .int (nI 6)), (2, .int (nI 2)), (3, .int x)] dX10_bodyFrom_17 (by decide) rfl ?_
    refine v_goto C 3 dX10_bodyFrom_19 rfl ?_
    refine v_iload C 0 dX10_bodyFrom_3 rfl ?_
    refine v_iload_n C 3 dX10_bodyFrom_5 rfl ?_
    refine n_callSp C hRm [.int (nI 0), .int (nI 2)] cw_X10_hasOwn st_X10_hasOwn ml_X10_289 (r_hasOwn l G (upA X 206 Y) 0 2 (by decide) (by decide)) (by omega) rfl rfl (Nat.le_of_ble_eq_true rfl) dX10_bodyFrom_6 ?_
    refine v_top (nI 1) (by decide +kernel) ?_
    refine n_if_ne C (by omega) 22 dX10_bodyFrom_9 rfl (fun _ => ?_) (fun h_9 => absurd h_9 (by decide))
    refine v_aload_n C 1 dX10_bodyFrom_22 rfl ?_
    refine g_X10_292 C (by decide) sh_205 dX10_bodyFrom_23 ?_
    refine v_top (X 205 19) (congrFun (upA_ne X Y (by decide)) 19) ?_
    refine v_top (b2i (σ.2 = true)) hv.2.2.2.1 ?_
    refine nb_if_eq C 33 dX10_bodyFrom_26 rfl (fun h_26 => ?_) (fun h_26 => ?_)
    · skip
      refine v_aload_n C 1 dX10_bodyFrom_33 rfl ?_
      refine v_iload C 0 dX10_bodyFrom_34 rfl ?_
      refine v_iload_n C 3 dX10_bodyFrom_36 rfl ?_
      refine v_iload_n C 4 dX10_bodyFrom_37 rfl ?_
      refine n_callVi C hRm [.int (nI 0), .int (nI 2), .int x] cw_X10_body ml_X10_295 (by decide) sh_205 (by decide) rfl (r_body12 l G Y κ c fu hB hκ hκ2 hc X x σ hv (by have h9 : rkB (bodN (ownN 6 2) 2) = 6 := (by decide); omega)) (by omega) rfl rfl (Nat.le_of_ble_eq_true rfl) dX10_bodyFrom_38 (fun M5 hP_38 => ?_)
      obtain ⟨X9, rfl, hv9, he9⟩ := hP_38
      have hz : vF κ (Y (7 + 6 * c + 1)) c (fu + 1) 6 2 x σ = bdF (vF κ (Y (7 + 6 * c + 1)) c fu) κ (Y (7 + 6 * c + 1)) c 12 x (begS σ 12) := if_neg h_26
      exact n_iret C hRt rfl dX10_bodyFrom_41 (by rw [hz]) ⟨X9, rfl, by rw [hz]; exact hv9, he9⟩
    · skip
      refine v_iconst C (nI 0) dX10_bodyFrom_29 (by decide) ?_
      refine v_goto C 41 dX10_bodyFrom_30 rfl ?_
      have hz : vF κ (Y (7 + 6 * c + 1)) c (fu + 1) 6 2 x σ = (nI 0, σ) := if_pos h_26
      exact n_iret C hRt rfl dX10_bodyFrom_41 (by rw [hz]) ⟨X, rfl, by rw [hz]; exact hv, exV.rf X⟩
  · show Vc f G NPh (upA X 206 Y) 0 [(0, .ref (gb G + 205)), (1, .int (nI 6)), (2, .int (nI 3)), (3, .int x)] []
    refine v_iload_n C 1 dX10_bodyFrom_0 rfl ?_
    refine v_istore C [(4, .int (nI 6)), (0, .ref (gb G + 205)), (1, .int (nI 6)), (2, .int (nI 3)), (3, .int x)] dX10_bodyFrom_1 (by decide) rfl ?_
    refine v_iload C 0 dX10_bodyFrom_3 rfl ?_
    refine v_iload_n C 3 dX10_bodyFrom_5 rfl ?_
    refine n_callSp C hRm [.int (nI 6), .int (nI 3)] cw_X10_hasOwn st_X10_hasOwn ml_X10_289 (r_hasOwn l G (upA X 206 Y) 6 3 (by decide) (by decide)) (by omega) rfl rfl (Nat.le_of_ble_eq_true rfl) dX10_bodyFrom_6 ?_
    refine v_top (nI 0) (by decide +kernel) ?_
    refine n_if_ne C (by omega) 22 dX10_bodyFrom_9 rfl (fun h_9 => absurd h_9 (by decide)) (fun _ => ?_)
    refine v_iload C 0 dX10_bodyFrom_12 rfl ?_
    refine n_callSp C hRm [.int (nI 6)] cw_X10_above st_X10_above ml_X10_102 (r_above l G (upA X 206 Y) 6 (by decide)) (by omega) rfl rfl (Nat.le_of_ble_eq_true rfl) dX10_bodyFrom_14 ?_
    refine v_top (nI 0) (by decide +kernel) ?_
    refine v_istore C [(4, .int (nI 0)), (0, .ref (gb G + 205)), (1, .int (nI 6)), (2, .int (nI 3)), (3, .int x)] dX10_bodyFrom_17 (by decide) rfl ?_
    refine v_goto C 3 dX10_bodyFrom_19 rfl ?_
    refine v_iload C 0 dX10_bodyFrom_3 rfl ?_
    refine v_iload_n C 3 dX10_bodyFrom_5 rfl ?_
    refine n_callSp C hRm [.int (nI 0), .int (nI 3)] cw_X10_hasOwn st_X10_hasOwn ml_X10_289 (r_hasOwn l G (upA X 206 Y) 0 3 (by decide) (by decide)) (by omega) rfl rfl (Nat.le_of_ble_eq_true rfl) dX10_bodyFrom_6 ?_
    refine v_top (nI 1) (by decide +kernel) ?_
    refine n_if_ne C (by omega) 22 dX10_bodyFrom_9 rfl (fun _ => ?_) (fun h_9 => absurd h_9 (by decide))
    refine v_aload_n C 1 dX10_bodyFrom_22 rfl ?_
    refine g_X10_292 C (by decide) sh_205 dX10_bodyFrom_23 ?_
    refine v_top (X 205 19) (congrFun (upA_ne X Y (by decide)) 19) ?_
    refine v_top (b2i (σ.2 = true)) hv.2.2.2.1 ?_
    refine nb_if_eq C 33 dX10_bodyFrom_26 rfl (fun h_26 => ?_) (fun h_26 => ?_)
    · skip
      refine v_aload_n C 1 dX10_bodyFrom_33 rfl ?_
      refine v_iload C 0 dX10_bodyFrom_34 rfl ?_
      refine v_iload_n C 3 dX10_bodyFrom_36 rfl ?_
      refine v_iload_n C 4 dX10_bodyFrom_37 rfl ?_
      refine n_callVi C hRm [.int (nI 0), .int (nI 3), .int x] cw_X10_body ml_X10_295 (by decide) sh_205 (by decide) rfl (r_body13 l G Y κ c fu hB hκ hκ2 hc X x σ hv (by have h9 : rkB (bodN (ownN 6 3) 3) = 0 := (by decide); omega)) (by omega) rfl rfl (Nat.le_of_ble_eq_true rfl) dX10_bodyFrom_38 (fun M5 hP_38 => ?_)
      obtain ⟨X9, rfl, hv9, he9⟩ := hP_38
      have hz : vF κ (Y (7 + 6 * c + 1)) c (fu + 1) 6 3 x σ = bdF (vF κ (Y (7 + 6 * c + 1)) c fu) κ (Y (7 + 6 * c + 1)) c 13 x (begS σ 13) := if_neg h_26
      exact n_iret C hRt rfl dX10_bodyFrom_41 (by rw [hz]) ⟨X9, rfl, by rw [hz]; exact hv9, he9⟩
    · skip
      refine v_iconst C (nI 0) dX10_bodyFrom_29 (by decide) ?_
      refine v_goto C 41 dX10_bodyFrom_30 rfl ?_
      have hz : vF κ (Y (7 + 6 * c + 1)) c (fu + 1) 6 3 x σ = (nI 0, σ) := if_pos h_26
      exact n_iret C hRt rfl dX10_bodyFrom_41 (by rw [hz]) ⟨X, rfl, by rw [hz]; exact hv, exV.rf X⟩
theorem vb_all (l : Launch) (G : GC) (Y : Nat → Int32) (κ c : Nat) (hκ : κ < 7) (hκ2 : Y (7 + 6 * c + 0) = nI κ) (hc : c < 10) : ∀ fu, VB l G Y κ c fu
  | 0 => fun X k a x σ _ _ _ h => absurd h (Nat.not_lt_zero _)
  | fu + 1 => vb_step l G Y κ c fu (vb_all l G Y κ c hκ hκ2 hc fu) hκ hκ2 hc
def eqV (k : Nat) (M X : Mm) : Prop := (∀ a, a ≠ 205 → a ≠ 206 → a ≠ 208 → a ≠ 209 → a ≠ 211 → a ≠ 212 → a ≠ 213 → a ≠ 214 → a ≠ 215 → a ≠ 216 → a ≠ 220 → X a = M a) ∧ X 205 3 = M 205 3 ∧ X 209 = errUp (M 209) k
def trRep (X : Mm) (T : List Int32) : Prop := X 205 17 = nI T.length ∧ T.length ≤ 30 ∧ ∀ i, i < T.length → X 216 i = T.getD i 0
def voiV (Y : Nat → Int32) (c v : Nat) (x : Int32) : Int32 × VS := vF (kN Y c) (Y (7 + 6 * c + 1)) c 8 (kN Y c) v x ([], false)
def voiceS (Y : Nat → Int32) (child voice x : Int32) : O3 := if nI 0 ≤ child ∧ child ≤ Y 0 - nI 1 then (if nI 0 ≤ voice ∧ voice ≤ nI 3 then (if (voiV Y child.toNatClampNeg voice.toNatClampNeg x).2.2 = true then er 6 Y else (0, (voiV Y child.toNatClampNeg voice.toNatClampNeg x).1, Y)) else er 1 Y) else er 1 Y
/-- what voice() leaves: the trace too -/
def PubV (M : Mm) (Y : Nat → Int32) (child voice x : Int32) : Mm → Prop := fun M' => ∃ X, M' = upA X 206 Y ∧ ((voiceS Y child voice x).1 = 1 → eqM 1 M X) ∧ ((voiceS Y child voice x).1 ≠ 1 → eqV (voiceS Y child voice x).1 M X ∧ trRep X (voiV Y child.toNatClampNeg voice.toNatClampNeg x).2.1)
set_option maxHeartbeats 4000000 in
set_option maxRecDepth 100000 in
theorem r_voice (l : Launch) (G : GC) (M : Mm) (Y : Nat → Int32) (n hN : Nat) (hY : YOk Y n hN) (child voice x : Int32) : CI l G 40 yX10_voice cX10_voice 5 .int [.ref (gb G + 205), .int child, .int voice, .int x] (upA M 206 Y) ((voiceS Y child voice x).2.1) (PubV M Y child voice x) := by
  refine Con.of (by decide +kernel) (Nat.le_of_ble_eq_true rfl) ?_
  intro f C hRm hRt _
  have h10 := hY.1.2.1
  show Vc f G NPh (upA M 206 Y) 0 [(0, .ref (gb G + 205)), (1, .int child), (2, .int voice), (3, .int x)] []
  refine v_aload_n C 0 dX10_voice_0 rfl ?_
  refine v_iload_n C 1 dX10_voice_1 rfl ?_
  refine v_iconst C (nI 0) dX10_voice_2 (by decide) ?_
  refine n_callVp C hRm [.int child, .int (nI 0)] cw_X10_is ml_X10_95 (by decide) sh_205 (by decide) rfl (r_is l G M Y child 0 (by decide)) (by decide) rfl rfl (Nat.le_of_ble_eq_true rfl) dX10_voice_3 ?_
  refine nb_if_eq C 18 dX10_voice_6 rfl (fun h_6 => ?_) (fun h_6 => ?_)
  · skip
    refine v_aload_n C 0 dX10_voice_18 rfl ?_
    refine v_ldc C (-1000001) kc_X10_80 dX10_voice_19 ?_
    refine n_callVi C hRm [.int (-1000001)] cw_X10_finding ml_X10_81 (by decide) sh_205 (by decide) rfl (r_finding l G (upA M 206 Y) 1 (by decide) (-1000001) (by decide)) (by decide) rfl rfl (Nat.le_of_ble_eq_true rfl) dX10_voice_21 (fun M5 hP_21 => ?_)
    subst hP_21
    refine v_mem (upA (fndM M 1) 206 Y) (fnd_upA _ _ _) ?_
    have hS : voiceS Y child voice x = er 1 Y := by unfold voiceS; rw [if_neg h_6]
    exact n_iret C hRt rfl dX10_voice_24 (by rw [hS]; rfl) ⟨_, rfl, fun _ => eqM.fnd M (by decide), fun h9 => absurd (by rw [hS]; rfl) h9⟩
  · skip
    obtain ⟨c, hc, rfl⟩ := is_nat hY.1.1 hY.1.2.1 h_6
    refine v_iload_n C 2 dX10_voice_9 rfl ?_
    refine v_iconst C (nI 0) dX10_voice_10 (by decide) ?_
    refine v_iconst C (nI 3) dX10_voice_11 (by decide) ?_
    refine n_callSp C hRm [.int voice, .int (nI 0), .int (nI 3)] cw_X10_within st_X10_within ml_X10_72 (r_within l G (upA M 206 Y) voice (nI 0) (nI 3)) (by decide) rfl rfl (Nat.le_of_ble_eq_true rfl) dX10_voice_12 ?_
    refine nb_if_ne C 25 dX10_voice_15 rfl (fun h_15 => ?_) (fun h_15 => ?_)
    · skip
      obtain ⟨q, hq, rfl⟩ := within_nat (by decide) h_15
      refine v_aload_n C 0 dX10_voice_25 rfl ?_
      refine v_iconst C (nI 0) dX10_voice_26 (by decide) ?_
      refine p_X10_280 C (by decide) sh_205 dX10_voice_27 ?_
      refine v_mem (upA (up2 M 205 17 (nI 0)) 206 Y) (up2_upA_ne _ _ _ _ (by decide)) ?_
      refine v_aload_n C 0 dX10_voice_30 rfl ?_
      refine v_iload_n C 1 dX10_voice_31 rfl ?_
      refine p_X10_283 C (by decide) sh_205 dX10_voice_32 ?_
      refine v_mem (upA (up2 (up2 M 205 17 (nI 0)) 205 18 (nI c)) 206 Y) (up2_upA_ne _ _ _ _ (by decide)) ?_
      refine v_aload_n C 0 dX10_voice_35 rfl ?_
      refine v_iconst C (nI 0) dX10_voice_36 (by decide) ?_
      refine p_X10_292 C (by decide) sh_205 (by decide) dX10_voice_37 ?_
      refine v_mem (upA (up2 (up2 (up2 M 205 17 (nI 0)) 205 18 (nI c)) 205 19 (nI 0)) 206 Y) (up2_upA_ne _ _ _ _ (by decide)) ?_
      obtain ⟨κ, hκ, hκ2⟩ := hY.2.1 c hc
      have hv0 : vRep (up2 (up2 (up2 M 205 17 (nI 0)) 205 18 (nI c)) 205 19 (nI 0)) c ([], false) := ⟨by rw [up2_at_ne _ _ (by decide), up2_at_ne _ _ (by decide), up2_at]; rfl, Nat.zero_le _, by rw [up2_at_ne _ _ (by decide), up2_at], up2_at _ _ _ _, fun i hi => absurd hi (Nat.not_lt_zero _)⟩
      refine v_aload_n C 0 dX10_voice_40 rfl ?_
      refine v_iload_n C 2 dX10_voice_41 rfl ?_
      refine v_iload_n C 3 dX10_voice_42 rfl ?_
      refine n_callVi C hRm [.int (nI q), .int x] cw_X10_voiced ml_X10_301 (by decide) sh_205 (by decide) rfl (r_voiced l G Y κ c 8 (vb_all l G Y κ c hκ hκ2 (by omega) 8) hκ hκ2 (by omega) (up2 (up2 (up2 M 205 17 (nI 0)) 205 18 (nI c)) 205 19 (nI 0)) q x ([], false) hv0 (by omega) (by have := rk_own κ hκ; rcases (show q = 0 ∨ q = 1 ∨ q = 2 ∨ q = 3 by omega) with h | h | h | h <;> subst h <;> omega)) (by decide) rfl rfl (Nat.le_of_ble_eq_true rfl) dX10_voice_43 (fun M5 hP_43 => ?_)
      obtain ⟨X9, rfl, hv9, he9⟩ := hP_43
      refine v_istore C [(4, .int ((vF κ (Y (7 + 6 * c + 1)) c 8 κ q x ([], false)).1)), (0, .ref (gb G + 205)), (1, .int (nI c)), (2, .int (nI q)), (3, .int x)] dX10_voice_46 (by decide) rfl ?_
      refine v_aload_n C 1 dX10_voice_48 rfl ?_
      refine g_X10_292 C (by decide) sh_205 dX10_voice_49 ?_
      refine v_top (X9 205 19) (congrFun (upA_ne X9 Y (by decide)) 19) ?_
      refine v_top (b2i ((vF κ (Y (7 + 6 * c + 1)) c 8 κ q x ([], false)).2.2 = true)) hv9.2.2.2.1 ?_
      refine nb_if_eq C 65 dX10_voice_52 rfl (fun h_52 => ?_) (fun h_52 => ?_)
      · skip
        refine v_iload C 0 dX10_voice_65 rfl ?_
        have hz : voiV Y c q x = vF κ (Y (7 + 6 * c + 1)) c 8 κ q x ([], false) := by unfold voiV kN; rw [cN_of hκ2 (by omega)]
        have hS : voiceS Y (nI c) (nI q) x = (0, (vF κ (Y (7 + 6 * c + 1)) c 8 κ q x ([], false)).1, Y) := by unfold voiceS; rw [if_pos h_6, if_pos h_15, toN (show c < 2 ^ 31 by omega), toN (show q < 2 ^ 31 by omega), hz, if_neg h_52]
        have hq0 : ∀ a, a ≠ 205 → a ≠ 206 → a ≠ 216 → X9 a = M a := fun a h1 h2 h3 => (he9.1 a h1 h2 h3).trans (by rw [up2_ne _ _ _ h1, up2_ne _ _ _ h1, up2_ne _ _ _ h1])
        have hq3 : X9 205 3 = M 205 3 := (he9.2 3 (by decide) (by decide)).trans (by rw [up2_at_ne _ _ (by decide), up2_at_ne _ _ (by decide), up2_at_ne _ _ (by decide)])
        have hqE : eqV 0 M X9 := ⟨fun a h1 h2 _ _ _ _ _ _ _ h3 _ => hq0 a h1 h2 h3, hq3, hq0 209 (by decide) (by decide) (by decide)⟩
        have hqT : trRep X9 (vF κ (Y (7 + 6 * c + 1)) c 8 κ q x ([], false)).2.1 := ⟨hv9.1, hv9.2.1, hv9.2.2.2.2⟩
        exact n_iret C hRt rfl dX10_voice_67 (by rw [hS] <;> rfl) ⟨_, rfl, fun h9 => absurd h9 (by rw [hS]; show ¬ (0 : Nat) = 1; decide), fun _ => by rw [hS, toN (show c < 2 ^ 31 by omega), toN (show q < 2 ^ 31 by omega), hz]; exact ⟨hqE, hqT⟩⟩
      · skip
        refine v_aload_n C 1 dX10_voice_55 rfl ?_
        refine v_ldcw C (-1000006) kc_X10_304 dX10_voice_56 ?_
        refine n_callVi C hRm [.int (-1000006)] cw_X10_finding ml_X10_81 (by decide) sh_205 (by decide) rfl (r_finding l G (upA X9 206 Y) 6 (by decide) (-1000006) (by decide)) (by decide) rfl rfl (Nat.le_of_ble_eq_true rfl) dX10_voice_59 (fun M5 hP_59 => ?_)
        subst hP_59
        refine v_mem (upA (fndM X9 6) 206 Y) (fnd_upA _ _ _) ?_
        refine v_goto C 67 dX10_voice_62 rfl ?_
        have hz : voiV Y c q x = vF κ (Y (7 + 6 * c + 1)) c 8 κ q x ([], false) := by unfold voiV kN; rw [cN_of hκ2 (by omega)]
        have hS : voiceS Y (nI c) (nI q) x = er 6 Y := by unfold voiceS; rw [if_pos h_6, if_pos h_15, toN (show c < 2 ^ 31 by omega), toN (show q < 2 ^ 31 by omega), hz, if_pos h_52]
        have hq0 : ∀ a, a ≠ 205 → a ≠ 206 → a ≠ 216 → X9 a = M a := fun a h1 h2 h3 => (he9.1 a h1 h2 h3).trans (by rw [up2_ne _ _ _ h1, up2_ne _ _ _ h1, up2_ne _ _ _ h1])
        have hq3 : X9 205 3 = M 205 3 := (he9.2 3 (by decide) (by decide)).trans (by rw [up2_at_ne _ _ (by decide), up2_at_ne _ _ (by decide), up2_at_ne _ _ (by decide)])
        have hqE : eqV 0 M X9 := ⟨fun a h1 h2 _ _ _ _ _ _ _ h3 _ => hq0 a h1 h2 h3, hq3, hq0 209 (by decide) (by decide) (by decide)⟩
        have hqT : trRep X9 (vF κ (Y (7 + 6 * c + 1)) c 8 κ q x ([], false)).2.1 := ⟨hv9.1, hv9.2.1, hv9.2.2.2.2⟩
        have hqE6 : eqV 6 M (fndM X9 6) := ⟨fun a h1 h2 h3 h4 h5 h6 h7 h8 h9 h10 h11 => (up2_ne _ _ _ h4).trans (hqE.1 a h1 h2 h3 h4 h5 h6 h7 h8 h9 h10 h11), (congrFun (up2_ne X9 6 _ (by decide)) 3).trans hqE.2.1, by unfold fndM errUp; rw [if_neg (by decide), up2_eq, hqE.2.2]; rfl⟩
        have hqT6 : trRep (fndM X9 6) (vF κ (Y (7 + 6 * c + 1)) c 8 κ q x ([], false)).2.1 := ⟨(congrFun (up2_ne X9 6 _ (by decide)) 17).trans hqT.1, hqT.2.1, fun i hi => (congrFun (up2_ne X9 6 _ (by decide)) i).trans (hqT.2.2 i hi)⟩
        exact n_iret C hRt rfl dX10_voice_67 (by rw [hS] <;> rfl) ⟨_, rfl, fun h9 => absurd h9 (by rw [hS]; show ¬ (6 : Nat) = 1; decide), fun _ => by rw [hS, toN (show c < 2 ^ 31 by omega), toN (show q < 2 ^ 31 by omega), hz]; exact ⟨hqE6, hqT6⟩⟩
    · skip
      refine v_aload_n C 0 dX10_voice_18 rfl ?_
      refine v_ldc C (-1000001) kc_X10_80 dX10_voice_19 ?_
      refine n_callVi C hRm [.int (-1000001)] cw_X10_finding ml_X10_81 (by decide) sh_205 (by decide) rfl (r_finding l G (upA M 206 Y) 1 (by decide) (-1000001) (by decide)) (by decide) rfl rfl (Nat.le_of_ble_eq_true rfl) dX10_voice_21 (fun M5 hP_21 => ?_)
      subst hP_21
      refine v_mem (upA (fndM M 1) 206 Y) (fnd_upA _ _ _) ?_
      have hS : voiceS Y (nI c) voice x = er 1 Y := by unfold voiceS; rw [if_pos h_6, if_neg h_15]
      exact n_iret C hRt rfl dX10_voice_24 (by rw [hS]; rfl) ⟨_, rfl, fun _ => eqM.fnd M (by decide), fun h9 => absurd (by rw [hS]; rfl) h9⟩
