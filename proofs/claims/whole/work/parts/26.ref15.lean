def ownB (s c : Nat) : Int32 := if s.testBit c = true then nI s else nI s ^^^ (-1)
def lonA (Y : Nat → Int32) (n s : Nat) : Nat → Nat
  | 0 => 0
  | c + 1 => lonA Y n s c + (if Y (7 + 6 * c + 3) = nI 1 ∧ nI (bothM Y n c) &&& ownB s c = 0 then 1 else 0)
theorem lonA_le (Y : Nat → Int32) (n s : Nat) : ∀ o, lonA Y n s o ≤ o
  | 0 => Nat.le_refl _
  | o + 1 => by
    have := lonA_le Y n s o
    unfold lonA
    split <;> omega
def cv (j : Nat) : Int32 := if j = 1024 then -1 else nI j
theorem cv_lt {j : Nat} (h : j < 1024) : cv j = nI j := if_neg (by omega)
theorem cv_neg {j : Nat} (h : j ≤ 1024) (h2 : cv j < 0) : j = 1024 := by
  rcases Nat.lt_or_ge j 1024 with h3 | h3
  · rw [cv_lt h3] at h2; exact absurd h2 (nI_pos (by omega))
  · omega
theorem cv_nn {j : Nat} (h : j ≤ 1024) (h2 : ¬ cv j < 0) : j < 1024 := by
  rcases Nat.lt_or_ge j 1024 with h3 | h3
  · exact h3
  · rw [show j = 1024 by omega] at h2; exact absurd (by decide) h2
def mayP (n s : Nat) : Prop := n / 2 ≤ popN s ∧ n / 2 ≤ n - popN s
def clA (Y : Nat → Int32) (n : Nat) : Nat → Nat × Nat
  | 0 => (1024, 0)
  | i + 1 => if (n / 2 ≤ popN (2 * i) ∧ n / 2 ≤ n - popN (2 * i)) ∧ ((clA Y n i).1 = 1024 ∨ lonA Y n (2 * i) n < (clA Y n i).2) then (2 * i, lonA Y n (2 * i) n) else clA Y n i
theorem clA_le (Y : Nat → Int32) (n : Nat) : ∀ i, i ≤ 512 → (clA Y n i).1 ≤ 1024 ∧ (clA Y n i).2 ≤ n
  | 0, _ => ⟨Nat.le_refl _, Nat.zero_le _⟩
  | i + 1, hi => by
    have h := clA_le Y n i (by omega)
    unfold clA
    split
    · exact ⟨by show 2 * i ≤ 1024; omega, lonA_le Y n _ n⟩
    · exact h
def classesS (Y : Nat → Int32) (n : Nat) (what : Int32) : O3 := if nI 0 ≤ what ∧ what ≤ nI 1 then (if 2 ≤ n then (if what = 0 then (0, cv (clA Y n (2 ^ n / 2)).1, Y) else (0, nI (clA Y n (2 ^ n / 2)).2, Y)) else er 2 Y) else er 1 Y
theorem sh1_10 : ∀ n, n ≤ 10 → nI 1 <<< (nI n &&& 31) = nI (2 ^ n) := by decide +kernel
theorem half_n : ∀ n, n ≤ 10 → nI n / nI 2 = nI (n / 2) := by decide +kernel
theorem pop_n : ∀ n, n ≤ 10 → ∀ s, s < 2 ^ n → popN s ≤ n := by decide +kernel
theorem pow_n : ∀ n, n ≤ 10 → 2 ^ n ≤ 1024 := by decide +kernel
theorem pow_e : ∀ n, n ≤ 10 → 2 ≤ n → 2 * (2 ^ n / 2) = 2 ^ n := by decide +kernel
set_option maxHeartbeats 4000000 in
set_option maxRecDepth 100000 in
theorem r_nobodyIn (l : Launch) (G : GC) (M : Mm) (Y : Nat → Int32) (n : Nat) (hn : Y 0 = nI n) (hn2 : n ≤ 10) (hsl : slOk Y n M) (s : Nat) (hs : s < 1024) : CP l G 3 yX10_nobodyIn cX10_nobodyIn 5 .int [.ref (gb G + 205), .int (nI s)] (upA M 206 Y) (nI (lonA Y n s n)) := by
  refine Con.of (by decide +kernel) (Nat.le_of_ble_eq_true rfl) ?_
  intro f C hRm hRt _
  have LN : ∀ (kk : Nat) (c : Nat) (a : Nat), n - c = kk → c ≤ n → a = lonA Y n s c → Vc f G NPh (upA M 206 Y) 4 [(3, .int (nI c)), (2, .int (nI a)), (0, .ref (gb G + 205)), (1, .int (nI s))] [] := by
    intro kk
    induction kk using Nat.strongRecOn with
    | _ kk ihLN =>
      intro c a hkk hc ha
      refine v_iload_n C 0 dX10_nobodyIn_4 rfl ?_
      refine v_aload_n C 2 dX10_nobodyIn_5 rfl ?_
      refine g_X10_9 C (by decide) sh_205 dX10_nobodyIn_6 ?_
      refine v_iconst C (nI 0) dX10_nobodyIn_9 (by decide) ?_
      refine n_now_ld C (by decide) sh_206 (by omega) (by decide) dX10_nobodyIn_10 ?_
      refine v_top (nI n) hn ?_
      refine n_icmp_ge C (by omega) (by omega) 66 dX10_nobodyIn_11 rfl (fun h_11 => ?_) (fun h_11 => ?_)
      · skip
        refine v_iload_n C 1 dX10_nobodyIn_66 rfl ?_
        (have h5 : c = n := (by omega)); subst h5; subst ha
        exact n_iret C hRt rfl dX10_nobodyIn_67 rfl rfl
      · skip
        refine v_iload_n C 3 dX10_nobodyIn_14 rfl ?_
        refine v_iload_n C 0 dX10_nobodyIn_15 rfl ?_
        refine n_callSp C hRm [.int (nI s), .int (nI c)] cw_X10_hasBit st_X10_hasBit ml_X10_127 (r_hasBitN l G (upA M 206 Y) s c hs (by omega)) (by decide) rfl rfl (Nat.le_of_ble_eq_true rfl) dX10_nobodyIn_16 ?_
        refine nb_if_eq C 26 dX10_nobodyIn_19 rfl (fun h_19 => ?_) (fun h_19 => ?_)
        · skip
          refine v_iload_n C 3 dX10_nobodyIn_26 rfl ?_
          refine v_iconst C (-1) dX10_nobodyIn_27 (by decide) ?_
          refine v_ixor C dX10_nobodyIn_28 ?_
          refine v_top (ownB s c) (by unfold ownB; first | rw [if_pos h_19] | rw [if_neg h_19]) ?_
          refine v_istore C [(4, .int (ownB s c)), (3, .int (nI c)), (2, .int (nI a)), (0, .ref (gb G + 205)), (1, .int (nI s))] dX10_nobodyIn_29 (by decide) rfl ?_
          refine v_iload_n C 2 dX10_nobodyIn_31 rfl ?_
          refine v_aload_n C 3 dX10_nobodyIn_32 rfl ?_
          refine v_iload_n C 1 dX10_nobodyIn_33 rfl ?_
          refine v_iconst C (nI 3) dX10_nobodyIn_34 (by decide) ?_
          refine n_callVp C hRm [.int (nI c), .int (nI 3)] cw_X10_of ml_X10_86 (by decide) sh_205 (by decide) rfl (r_of l G M Y c 3 (by omega)) (by decide) rfl rfl (Nat.le_of_ble_eq_true rfl) dX10_nobodyIn_35 ?_
          refine v_iconst C (nI 1) dX10_nobodyIn_38 (by decide) ?_
          refine v_icmp_ne C 57 dX10_nobodyIn_39 rfl (fun h_39 => ?_) (fun h_39 => ?_)
          · skip
            refine v_iconst C (nI 0) dX10_nobodyIn_57 (by decide) ?_
            refine n_iadd C dX10_nobodyIn_58 ?_
            refine v_istore_n C [(2, .int (nI (a + 0))), (4, .int (ownB s c)), (3, .int (nI c)), (0, .ref (gb G + 205)), (1, .int (nI s))] dX10_nobodyIn_59 rfl (by decide) rfl ?_
            refine v_iinc C (nI (c + 1)) 2 [(3, .int (nI (c + 1))), (2, .int (nI (a + 0))), (4, .int (ownB s c)), (0, .ref (gb G + 205)), (1, .int (nI s))] dX10_nobodyIn_60 rfl (nI_add _ _) (by decide) rfl ?_
            refine v_goto C 4 dX10_nobodyIn_63 rfl ?_
            refine v_sub [0, 1, 3, 4] [(3, .int (nI (c + 1))), (2, .int (nI (a + 0))), (0, .ref (gb G + 205)), (1, .int (nI s))] rfl ?_
            exact ihLN _ (by omega) (c + 1) (a + 0)  rfl (by omega) (by subst ha; simp only [lonA]; (rw [if_neg (fun q => h_39 (And.left q))]))
          · skip
            refine v_aload_n C 3 dX10_nobodyIn_42 rfl ?_
            refine v_iload_n C 1 dX10_nobodyIn_43 rfl ?_
            refine n_callVp C hRm [.int (nI c)] cw_X10_bothOf ml_X10_264 (by decide) sh_205 (by decide) rfl (r_bothOf l G M Y n hn hn2 hsl c (by omega)) (by decide) rfl rfl (Nat.le_of_ble_eq_true rfl) dX10_nobodyIn_44 ?_
            refine v_iload C 0 dX10_nobodyIn_47 rfl ?_
            refine v_iand C dX10_nobodyIn_49 ?_
            refine v_if_ne C 57 dX10_nobodyIn_50 rfl (fun h_50 => ?_) (fun h_50 => ?_)
            · skip
              refine v_iconst C (nI 0) dX10_nobodyIn_57 (by decide) ?_
              refine n_iadd C dX10_nobodyIn_58 ?_
              refine v_istore_n C [(2, .int (nI (a + 0))), (4, .int (ownB s c)), (3, .int (nI c)), (0, .ref (gb G + 205)), (1, .int (nI s))] dX10_nobodyIn_59 rfl (by decide) rfl ?_
              refine v_iinc C (nI (c + 1)) 2 [(3, .int (nI (c + 1))), (2, .int (nI (a + 0))), (4, .int (ownB s c)), (0, .ref (gb G + 205)), (1, .int (nI s))] dX10_nobodyIn_60 rfl (nI_add _ _) (by decide) rfl ?_
              refine v_goto C 4 dX10_nobodyIn_63 rfl ?_
              refine v_sub [0, 1, 3, 4] [(3, .int (nI (c + 1))), (2, .int (nI (a + 0))), (0, .ref (gb G + 205)), (1, .int (nI s))] rfl ?_
              exact ihLN _ (by omega) (c + 1) (a + 0)  rfl (by omega) (by subst ha; simp only [lonA]; (rw [if_neg (fun q => h_50 (And.right q))]))
            · skip
              refine v_iconst C (nI 1) dX10_nobodyIn_53 (by decide) ?_
              refine v_goto C 58 dX10_nobodyIn_54 rfl ?_
              refine n_iadd C dX10_nobodyIn_58 ?_
              refine v_istore_n C [(2, .int (nI (a + 1))), (4, .int (ownB s c)), (3, .int (nI c)), (0, .ref (gb G + 205)), (1, .int (nI s))] dX10_nobodyIn_59 rfl (by decide) rfl ?_
              refine v_iinc C (nI (c + 1)) 2 [(3, .int (nI (c + 1))), (2, .int (nI (a + 1))), (4, .int (ownB s c)), (0, .ref (gb G + 205)), (1, .int (nI s))] dX10_nobodyIn_60 rfl (nI_add _ _) (by decide) rfl ?_
              refine v_goto C 4 dX10_nobodyIn_63 rfl ?_
              refine v_sub [0, 1, 3, 4] [(3, .int (nI (c + 1))), (2, .int (nI (a + 1))), (0, .ref (gb G + 205)), (1, .int (nI s))] rfl ?_
              exact ihLN _ (by omega) (c + 1) (a + 1)  rfl (by omega) (by subst ha; simp only [lonA]; rw [if_pos (And.intro h_39 h_50)])
        · skip
          refine v_iload_n C 3 dX10_nobodyIn_22 rfl ?_
          refine v_goto C 29 dX10_nobodyIn_23 rfl ?_
          refine v_top (ownB s c) (by unfold ownB; first | rw [if_pos h_19] | rw [if_neg h_19]) ?_
          refine v_istore C [(4, .int (ownB s c)), (3, .int (nI c)), (2, .int (nI a)), (0, .ref (gb G + 205)), (1, .int (nI s))] dX10_nobodyIn_29 (by decide) rfl ?_
          refine v_iload_n C 2 dX10_nobodyIn_31 rfl ?_
          refine v_aload_n C 3 dX10_nobodyIn_32 rfl ?_
          refine v_iload_n C 1 dX10_nobodyIn_33 rfl ?_
          refine v_iconst C (nI 3) dX10_nobodyIn_34 (by decide) ?_
          refine n_callVp C hRm [.int (nI c), .int (nI 3)] cw_X10_of ml_X10_86 (by decide) sh_205 (by decide) rfl (r_of l G M Y c 3 (by omega)) (by decide) rfl rfl (Nat.le_of_ble_eq_true rfl) dX10_nobodyIn_35 ?_
          refine v_iconst C (nI 1) dX10_nobodyIn_38 (by decide) ?_
          refine v_icmp_ne C 57 dX10_nobodyIn_39 rfl (fun h_39 => ?_) (fun h_39 => ?_)
          · skip
            refine v_iconst C (nI 0) dX10_nobodyIn_57 (by decide) ?_
            refine n_iadd C dX10_nobodyIn_58 ?_
            refine v_istore_n C [(2, .int (nI (a + 0))), (4, .int (ownB s c)), (3, .int (nI c)), (0, .ref (gb G + 205)), (1, .int (nI s))] dX10_nobodyIn_59 rfl (by decide) rfl ?_
            refine v_iinc C (nI (c + 1)) 2 [(3, .int (nI (c + 1))), (2, .int (nI (a + 0))), (4, .int (ownB s c)), (0, .ref (gb G + 205)), (1, .int (nI s))] dX10_nobodyIn_60 rfl (nI_add _ _) (by decide) rfl ?_
            refine v_goto C 4 dX10_nobodyIn_63 rfl ?_
            refine v_sub [0, 1, 3, 4] [(3, .int (nI (c + 1))), (2, .int (nI (a + 0))), (0, .ref (gb G + 205)), (1, .int (nI s))] rfl ?_
            exact ihLN _ (by omega) (c + 1) (a + 0)  rfl (by omega) (by subst ha; simp only [lonA]; (rw [if_neg (fun q => h_39 (And.left q))]))
          · skip
            refine v_aload_n C 3 dX10_nobodyIn_42 rfl ?_
            refine v_iload_n C 1 dX10_nobodyIn_43 rfl ?_
            refine n_callVp C hRm [.int (nI c)] cw_X10_bothOf ml_X10_264 (by decide) sh_205 (by decide) rfl (r_bothOf l G M Y n hn hn2 hsl c (by omega)) (by decide) rfl rfl (Nat.le_of_ble_eq_true rfl) dX10_nobodyIn_44 ?_
            refine v_iload C 0 dX10_nobodyIn_47 rfl ?_
            refine v_iand C dX10_nobodyIn_49 ?_
            refine v_if_ne C 57 dX10_nobodyIn_50 rfl (fun h_50 => ?_) (fun h_50 => ?_)
            · skip
              refine v_iconst C (nI 0) dX10_nobodyIn_57 (by decide) ?_
              refine n_iadd C dX10_nobodyIn_58 ?_
              refine v_istore_n C [(2, .int (nI (a + 0))), (4, .int (ownB s c)), (3, .int (nI c)), (0, .ref (gb G + 205)), (1, .int (nI s))] dX10_nobodyIn_59 rfl (by decide) rfl ?_
              refine v_iinc C (nI (c + 1)) 2 [(3, .int (nI (c + 1))), (2, .int (nI (a + 0))), (4, .int (ownB s c)), (0, .ref (gb G + 205)), (1, .int (nI s))] dX10_nobodyIn_60 rfl (nI_add _ _) (by decide) rfl ?_
              refine v_goto C 4 dX10_nobodyIn_63 rfl ?_
              refine v_sub [0, 1, 3, 4] [(3, .int (nI (c + 1))), (2, .int (nI (a + 0))), (0, .ref (gb G + 205)), (1, .int (nI s))] rfl ?_
              exact ihLN _ (by omega) (c + 1) (a + 0)  rfl (by omega) (by subst ha; simp only [lonA]; (rw [if_neg (fun q => h_50 (And.right q))]))
            · skip
              refine v_iconst C (nI 1) dX10_nobodyIn_53 (by decide) ?_
              refine v_goto C 58 dX10_nobodyIn_54 rfl ?_
              refine n_iadd C dX10_nobodyIn_58 ?_
              refine v_istore_n C [(2, .int (nI (a + 1))), (4, .int (ownB s c)), (3, .int (nI c)), (0, .ref (gb G + 205)), (1, .int (nI s))] dX10_nobodyIn_59 rfl (by decide) rfl ?_
              refine v_iinc C (nI (c + 1)) 2 [(3, .int (nI (c + 1))), (2, .int (nI (a + 1))), (4, .int (ownB s c)), (0, .ref (gb G + 205)), (1, .int (nI s))] dX10_nobodyIn_60 rfl (nI_add _ _) (by decide) rfl ?_
              refine v_goto C 4 dX10_nobodyIn_63 rfl ?_
              refine v_sub [0, 1, 3, 4] [(3, .int (nI (c + 1))), (2, .int (nI (a + 1))), (0, .ref (gb G + 205)), (1, .int (nI s))] rfl ?_
              exact ihLN _ (by omega) (c + 1) (a + 1)  rfl (by omega) (by subst ha; simp only [lonA]; rw [if_pos (And.intro h_39 h_50)])
  show Vc f G NPh (upA M 206 Y) 0 [(0, .ref (gb G + 205)), (1, .int (nI s))] []
  refine v_iconst C (nI 0) dX10_nobodyIn_0 (by decide) ?_
  refine v_istore_n C [(2, .int (nI 0)), (0, .ref (gb G + 205)), (1, .int (nI s))] dX10_nobodyIn_1 rfl (by decide) rfl ?_
  refine v_iconst C (nI 0) dX10_nobodyIn_2 (by decide) ?_
  refine v_istore_n C [(3, .int (nI 0)), (2, .int (nI 0)), (0, .ref (gb G + 205)), (1, .int (nI s))] dX10_nobodyIn_3 rfl (by decide) rfl ?_
  refine v_sub [0, 1, 2, 3] [(3, .int (nI 0)), (2, .int (nI 0)), (0, .ref (gb G + 205)), (1, .int (nI s))] rfl ?_
  exact LN _ 0 0  rfl (by omega) (by rfl)
set_option maxHeartbeats 4000000 in
set_option maxRecDepth 100000 in
theorem r_classes (l : Launch) (G : GC) (M : Mm) (Y : Nat → Int32) (n hN : Nat) (hY : YOk Y n hN) (what : Int32) : CI l G 4 yX10_classes cX10_classes 9 .int [.ref (gb G + 205), .int what] (upA M 206 Y) ((classesS Y n what).2.1) (PubR M (classesS Y n what).2.2 (classesS Y n what).1) := by
  refine Con.of (by decide +kernel) (Nat.le_of_ble_eq_true rfl) ?_
  intro f C hRm hRt _
  have h10 := hY.1.2.1
  have h5N := hY.1.2.2.2
  have hpw := pow_n n h10
  show Vc f G NPh (upA M 206 Y) 0 [(0, .ref (gb G + 205)), (1, .int what)] []
  refine v_iload_n C 1 dX10_classes_0 rfl ?_
  refine v_iconst C (nI 0) dX10_classes_1 (by decide) ?_
  refine v_iconst C (nI 1) dX10_classes_2 (by decide) ?_
  refine n_callSp C hRm [.int what, .int (nI 0), .int (nI 1)] cw_X10_within st_X10_within ml_X10_72 (r_within l G (upA M 206 Y) what (nI 0) (nI 1)) (by decide) rfl rfl (Nat.le_of_ble_eq_true rfl) dX10_classes_3 ?_
  refine nb_if_ne C 16 dX10_classes_6 rfl (fun h_6 => ?_) (fun h_6 => ?_)
  · skip
    refine v_aload_n C 0 dX10_classes_16 rfl ?_
    refine g_X10_9 C (by decide) sh_205 dX10_classes_17 ?_
    refine v_iconst C (nI 0) dX10_classes_20 (by decide) ?_
    refine n_now_ld C (by decide) sh_206 (by omega) (by decide) dX10_classes_21 ?_
    refine v_top (nI n) hY.1.1 ?_
    refine v_istore_n C [(2, .int (nI n)), (0, .ref (gb G + 205)), (1, .int what)] dX10_classes_22 rfl (by decide) rfl ?_
    refine v_iload_n C 0 dX10_classes_23 rfl ?_
    refine v_iconst C (nI 2) dX10_classes_24 (by decide) ?_
    refine n_icmp_ge C (by omega) (by omega) 36 dX10_classes_25 rfl (fun h_25 => ?_) (fun h_25 => ?_)
    · skip
      refine v_aload_n C 1 dX10_classes_36 rfl ?_
      refine n_callVv C hRm [] cw_X10_findSlips ml_X10_261 (by decide) sh_205 (by decide) rfl (r_findSlips l G M Y n hY.1.1 hY.1.2.1) (by decide) rfl rfl (Nat.le_of_ble_eq_true rfl) dX10_classes_37 (fun M5 hP_37 => ?_)
      obtain ⟨X7, rfl, hX7, hsl⟩ := hP_37
      refine v_iconst C (-1) dX10_classes_40 (by decide) ?_
      refine v_istore_n C [(3, .int (-1)), (2, .int (nI n)), (0, .ref (gb G + 205)), (1, .int what)] dX10_classes_41 rfl (by decide) rfl ?_
      refine v_iconst C (nI 0) dX10_classes_42 (by decide) ?_
      refine v_istore C [(4, .int (nI 0)), (3, .int (-1)), (2, .int (nI n)), (0, .ref (gb G + 205)), (1, .int what)] dX10_classes_43 (by decide) rfl ?_
      refine v_iconst C (nI 0) dX10_classes_45 (by decide) ?_
      refine v_istore C [(5, .int (nI 0)), (4, .int (nI 0)), (3, .int (-1)), (2, .int (nI n)), (0, .ref (gb G + 205)), (1, .int what)] dX10_classes_46 (by decide) rfl ?_
      have LC : ∀ (kk : Nat) (i : Nat) (j : Nat) (le : Nat), 2 ^ n - 2 * i = kk → 2 * i ≤ 2 ^ n → j = (clA Y n i).1 → le = (clA Y n i).2 → Vc f G NPh (upA X7 206 Y) 48 [(5, .int (nI (2 * i))), (3, .int (cv j)), (4, .int (nI le)), (2, .int (nI n)), (0, .ref (gb G + 205)), (1, .int what)] [] := by
        intro kk
        induction kk using Nat.strongRecOn with
        | _ kk ihLC =>
          intro i j le hkk hi hj hle
          have hj9 : j ≤ 1024 := hj ▸ (clA_le Y n i (by omega)).1
          have hl9 : le ≤ n := hle ▸ (clA_le Y n i (by omega)).2
          have hlo9 := lonA_le Y n (2 * i) n
          have hpe := pow_e n h10 (by omega)
          refine v_iload C 0 dX10_classes_48 rfl ?_
          refine v_iconst C (nI 1) dX10_classes_50 (by decide) ?_
          refine v_iload_n C 3 dX10_classes_51 rfl ?_
          refine v_ishl C dX10_classes_52 ?_
          refine v_top (nI (2 ^ n)) (sh1_10 n (by omega)) ?_
          refine n_icmp_ge C (by omega) (by omega) 134 dX10_classes_53 rfl (fun h_53 => ?_) (fun h_53 => ?_)
          · skip
            refine v_iload_n C 5 dX10_classes_134 rfl ?_
            refine v_if_ne C 142 dX10_classes_135 rfl (fun h_135 => ?_) (fun h_135 => ?_)
            · skip
              refine v_iload C 2 dX10_classes_142 rfl ?_
              have e0 : i = 2 ^ n / 2 := by omega
              have e1 : j = (clA Y n (2 ^ n / 2)).1 := by rw [hj, e0]
              have e2 : le = (clA Y n (2 ^ n / 2)).2 := by rw [hle, e0]
              have hS : classesS Y n what = (0, nI le, Y) := by unfold classesS; (try rw [nI_clamp (by omega)]); (try rw [nI_clamp (by omega)]); (first | rw [if_pos h_6] | rw [if_neg h_6] | rw [if_pos (congrArg nI h_6)] | rw [if_neg (fun q9 => h_6 ((nI_eq (by omega) (by omega)).mp q9))] | rw [if_neg (Nat.not_le.mpr h_6)] | rw [if_neg (Nat.not_lt.mpr h_6)] | skip); (first | rw [if_pos h_25] | rw [if_neg h_25] | rw [if_pos (congrArg nI h_25)] | rw [if_neg (fun q9 => h_25 ((nI_eq (by omega) (by omega)).mp q9))] | rw [if_neg (Nat.not_le.mpr h_25)] | rw [if_neg (Nat.not_lt.mpr h_25)] | skip); (first | rw [if_pos h_53] | rw [if_neg h_53] | rw [if_pos (congrArg nI h_53)] | rw [if_neg (fun q9 => h_53 ((nI_eq (by omega) (by omega)).mp q9))] | rw [if_neg (Nat.not_le.mpr h_53)] | rw [if_neg (Nat.not_lt.mpr h_53)] | skip); (first | rw [if_pos h_135] | rw [if_neg h_135] | rw [if_pos (congrArg nI h_135)] | rw [if_neg (fun q9 => h_135 ((nI_eq (by omega) (by omega)).mp q9))] | rw [if_neg (Nat.not_le.mpr h_135)] | rw [if_neg (Nat.not_lt.mpr h_135)] | skip); (try rw [e1]); (try rw [e2]); all_goals rfl
              exact n_iret C hRt rfl dX10_classes_144 (by rw [hS] <;> rfl) (by rw [hS]; exact ⟨_, rfl, eqM.of15 hX7⟩)
            · skip
              refine v_iload_n C 1 dX10_classes_138 rfl ?_
              refine v_goto C 144 dX10_classes_139 rfl ?_
              have e0 : i = 2 ^ n / 2 := by omega
              have e1 : j = (clA Y n (2 ^ n / 2)).1 := by rw [hj, e0]
              have e2 : le = (clA Y n (2 ^ n / 2)).2 := by rw [hle, e0]
              have hS : classesS Y n what = (0, cv j, Y) := by unfold classesS; (try rw [nI_clamp (by omega)]); (try rw [nI_clamp (by omega)]); (first | rw [if_pos h_6] | rw [if_neg h_6] | rw [if_pos (congrArg nI h_6)] | rw [if_neg (fun q9 => h_6 ((nI_eq (by omega) (by omega)).mp q9))] | rw [if_neg (Nat.not_le.mpr h_6)] | rw [if_neg (Nat.not_lt.mpr h_6)] | skip); (first | rw [if_pos h_25] | rw [if_neg h_25] | rw [if_pos (congrArg nI h_25)] | rw [if_neg (fun q9 => h_25 ((nI_eq (by omega) (by omega)).mp q9))] | rw [if_neg (Nat.not_le.mpr h_25)] | rw [if_neg (Nat.not_lt.mpr h_25)] | skip); (first | rw [if_pos h_53] | rw [if_neg h_53] | rw [if_pos (congrArg nI h_53)] | rw [if_neg (fun q9 => h_53 ((nI_eq (by omega) (by omega)).mp q9))] | rw [if_neg (Nat.not_le.mpr h_53)] | rw [if_neg (Nat.not_lt.mpr h_53)] | skip); (first | rw [if_pos h_135] | rw [if_neg h_135] | rw [if_pos (congrArg nI h_135)] | rw [if_neg (fun q9 => h_135 ((nI_eq (by omega) (by omega)).mp q9))] | rw [if_neg (Nat.not_le.mpr h_135)] | rw [if_neg (Nat.not_lt.mpr h_135)] | skip); (try rw [e1]); (try rw [e2]); all_goals rfl
              exact n_iret C hRt rfl dX10_classes_144 (by rw [hS] <;> rfl) (by rw [hS]; exact ⟨_, rfl, eqM.of15 hX7⟩)
          · skip
            refine v_iload C 0 dX10_classes_56 rfl ?_
            have hpn9 := pop_n n h10 (2 * i) (by omega)
            refine n_callSp C hRm [.int (nI (2 * i))] cw_X10_bits st_X10_bits ml_X10_115 (r_bits l G (upA X7 206 Y) (2 * i) (by omega)) (by decide) rfl rfl (Nat.le_of_ble_eq_true rfl) dX10_classes_58 ?_
            refine v_istore C [(6, .int (nI (popN (2 * i)))), (5, .int (nI (2 * i))), (3, .int (cv j)), (4, .int (nI le)), (2, .int (nI n)), (0, .ref (gb G + 205)), (1, .int what)] dX10_classes_61 (by decide) rfl ?_
            refine v_iload C 0 dX10_classes_63 rfl ?_
            refine v_iload_n C 4 dX10_classes_65 rfl ?_
            refine v_iconst C (nI 2) dX10_classes_66 (by decide) ?_
            refine v_idiv C dX10_classes_67 (by decide) ?_
            refine v_top (nI (n / 2)) (half_n n (by omega)) ?_
            refine n_icmp_lt C (by omega) (by omega) 85 dX10_classes_68 rfl (fun h_68 => ?_) (fun h_68 => ?_)
            · skip
              refine v_iconst C (nI 0) dX10_classes_85 (by decide) ?_
              refine v_istore C [(7, .int (nI 0)), (6, .int (nI (popN (2 * i)))), (5, .int (nI (2 * i))), (3, .int (cv j)), (4, .int (nI le)), (2, .int (nI n)), (0, .ref (gb G + 205)), (1, .int what)] dX10_classes_86 (by decide) rfl ?_
              refine v_iload C 0 dX10_classes_88 rfl ?_
              refine n_if_eq C (by omega) 102 dX10_classes_90 rfl (fun _ => ?_) (fun h_90 => absurd h_90 (by decide))
              refine v_iconst C (nI 0) dX10_classes_102 (by decide) ?_
              refine v_istore C [(8, .int (nI 0)), (7, .int (nI 0)), (6, .int (nI (popN (2 * i)))), (5, .int (nI (2 * i))), (3, .int (cv j)), (4, .int (nI le)), (2, .int (nI n)), (0, .ref (gb G + 205)), (1, .int what)] dX10_classes_103 (by decide) rfl ?_
              refine v_iload C 1 dX10_classes_105 rfl ?_
              refine n_if_eq C (by omega) 128 dX10_classes_107 rfl (fun _ => ?_) (fun h_107 => absurd h_107 (by decide))
              refine v_iinc C (nI (2 * i + 2)) 3 [(5, .int (nI (2 * i + 2))), (8, .int (nI 0)), (7, .int (nI 0)), (6, .int (nI (popN (2 * i)))), (3, .int (cv j)), (4, .int (nI le)), (2, .int (nI n)), (0, .ref (gb G + 205)), (1, .int what)] dX10_classes_128 rfl (nI_add _ _) (by decide) rfl ?_
              refine v_goto C 48 dX10_classes_131 rfl ?_
              refine v_sub [0, 4, 5, 6, 7, 8] [(5, .int (nI (2 * i + 2))), (3, .int (cv j)), (4, .int (nI le)), (2, .int (nI n)), (0, .ref (gb G + 205)), (1, .int what)] rfl ?_
              exact ihLC _ (by omega) (i + 1) j le  rfl (by omega) (by (have hcl : clA Y n i = (j, le) := (by rw [hj, hle])); simp only [clA, hcl]; rw [if_neg (fun q => by have := q.1.1; omega)]) (by (have hcl : clA Y n i = (j, le) := (by rw [hj, hle])); simp only [clA, hcl]; rw [if_neg (fun q => by have := q.1.1; omega)])
            · skip
              refine v_iload_n C 4 dX10_classes_71 rfl ?_
              refine v_iload C 0 dX10_classes_72 rfl ?_
              refine n_isub C (by omega) dX10_classes_74 ?_
              refine v_iload_n C 4 dX10_classes_75 rfl ?_
              refine v_iconst C (nI 2) dX10_classes_76 (by decide) ?_
              refine v_idiv C dX10_classes_77 (by decide) ?_
              refine v_top (nI (n / 2)) (half_n n (by omega)) ?_
              refine n_icmp_lt C (by omega) (by omega) 85 dX10_classes_78 rfl (fun h_78 => ?_) (fun h_78 => ?_)
              · skip
                refine v_iconst C (nI 0) dX10_classes_85 (by decide) ?_
                refine v_istore C [(7, .int (nI 0)), (6, .int (nI (popN (2 * i)))), (5, .int (nI (2 * i))), (3, .int (cv j)), (4, .int (nI le)), (2, .int (nI n)), (0, .ref (gb G + 205)), (1, .int what)] dX10_classes_86 (by decide) rfl ?_
                refine v_iload C 0 dX10_classes_88 rfl ?_
                refine n_if_eq C (by omega) 102 dX10_classes_90 rfl (fun _ => ?_) (fun h_90 => absurd h_90 (by decide))
                refine v_iconst C (nI 0) dX10_classes_102 (by decide) ?_
                refine v_istore C [(8, .int (nI 0)), (7, .int (nI 0)), (6, .int (nI (popN (2 * i)))), (5, .int (nI (2 * i))), (3, .int (cv j)), (4, .int (nI le)), (2, .int (nI n)), (0, .ref (gb G + 205)), (1, .int what)] dX10_classes_103 (by decide) rfl ?_
                refine v_iload C 1 dX10_classes_105 rfl ?_
                refine n_if_eq C (by omega) 128 dX10_classes_107 rfl (fun _ => ?_) (fun h_107 => absurd h_107 (by decide))
                refine v_iinc C (nI (2 * i + 2)) 3 [(5, .int (nI (2 * i + 2))), (8, .int (nI 0)), (7, .int (nI 0)), (6, .int (nI (popN (2 * i)))), (3, .int (cv j)), (4, .int (nI le)), (2, .int (nI n)), (0, .ref (gb G + 205)), (1, .int what)] dX10_classes_128 rfl (nI_add _ _) (by decide) rfl ?_
                refine v_goto C 48 dX10_classes_131 rfl ?_
                refine v_sub [0, 4, 5, 6, 7, 8] [(5, .int (nI (2 * i + 2))), (3, .int (cv j)), (4, .int (nI le)), (2, .int (nI n)), (0, .ref (gb G + 205)), (1, .int what)] rfl ?_
                exact ihLC _ (by omega) (i + 1) j le  rfl (by omega) (by (have hcl : clA Y n i = (j, le) := (by rw [hj, hle])); simp only [clA, hcl]; rw [if_neg (fun q => by have := q.1.2; omega)]) (by (have hcl : clA Y n i = (j, le) := (by rw [hj, hle])); simp only [clA, hcl]; rw [if_neg (fun q => by have := q.1.2; omega)])
              · skip
                refine v_iconst C (nI 1) dX10_classes_81 (by decide) ?_
                refine v_goto C 86 dX10_classes_82 rfl ?_
                refine v_istore C [(7, .int (nI 1)), (6, .int (nI (popN (2 * i)))), (5, .int (nI (2 * i))), (3, .int (cv j)), (4, .int (nI le)), (2, .int (nI n)), (0, .ref (gb G + 205)), (1, .int what)] dX10_classes_86 (by decide) rfl ?_
                refine v_iload C 0 dX10_classes_88 rfl ?_
                refine n_if_eq C (by omega) 102 dX10_classes_90 rfl (fun h_90 => absurd h_90 (by decide)) (fun _ => ?_)
                refine v_aload_n C 6 dX10_classes_93 rfl ?_
                refine v_iload C 2 dX10_classes_94 rfl ?_
                refine n_callVp C hRm [.int (nI (2 * i))] cw_X10_nobodyIn ml_X10_277 (by decide) sh_205 (by decide) rfl (r_nobodyIn l G X7 Y n hY.1.1 hY.1.2.1 hsl (2 * i) (by omega)) (by decide) rfl rfl (Nat.le_of_ble_eq_true rfl) dX10_classes_96 ?_
                refine v_goto C 103 dX10_classes_99 rfl ?_
                refine v_istore C [(8, .int (nI (lonA Y n (2 * i) n))), (7, .int (nI 1)), (6, .int (nI (popN (2 * i)))), (5, .int (nI (2 * i))), (3, .int (cv j)), (4, .int (nI le)), (2, .int (nI n)), (0, .ref (gb G + 205)), (1, .int what)] dX10_classes_103 (by decide) rfl ?_
                refine v_iload C 1 dX10_classes_105 rfl ?_
                refine n_if_eq C (by omega) 128 dX10_classes_107 rfl (fun h_107 => absurd h_107 (by decide)) (fun _ => ?_)
                refine v_iload_n C 4 dX10_classes_110 rfl ?_
                refine v_if_lt C 121 dX10_classes_111 rfl (fun h_111 => ?_) (fun h_111 => ?_)
                · skip
                  have hj10 := cv_neg hj9 h_111
                  refine v_iload C 3 dX10_classes_121 rfl ?_
                  refine v_istore_n C [(3, .int (nI (2 * i))), (8, .int (nI (lonA Y n (2 * i) n))), (7, .int (nI 1)), (6, .int (nI (popN (2 * i)))), (5, .int (nI (2 * i))), (4, .int (nI le)), (2, .int (nI n)), (0, .ref (gb G + 205)), (1, .int what)] dX10_classes_123 rfl (by decide) rfl ?_
                  refine v_iload C 1 dX10_classes_124 rfl ?_
                  refine v_istore C [(4, .int (nI (lonA Y n (2 * i) n))), (3, .int (nI (2 * i))), (8, .int (nI (lonA Y n (2 * i) n))), (7, .int (nI 1)), (6, .int (nI (popN (2 * i)))), (5, .int (nI (2 * i))), (2, .int (nI n)), (0, .ref (gb G + 205)), (1, .int what)] dX10_classes_126 (by decide) rfl ?_
                  refine v_iinc C (nI (2 * i + 2)) 5 [(5, .int (nI (2 * i + 2))), (4, .int (nI (lonA Y n (2 * i) n))), (3, .int (nI (2 * i))), (8, .int (nI (lonA Y n (2 * i) n))), (7, .int (nI 1)), (6, .int (nI (popN (2 * i)))), (2, .int (nI n)), (0, .ref (gb G + 205)), (1, .int what)] dX10_classes_128 rfl (nI_add _ _) (by decide) rfl ?_
                  refine v_goto C 48 dX10_classes_131 rfl ?_
                  refine v_sub [0, 2, 1, 6, 7, 8] [(5, .int (nI (2 * i + 2))), (3, .int (nI (2 * i))), (4, .int (nI (lonA Y n (2 * i) n))), (2, .int (nI n)), (0, .ref (gb G + 205)), (1, .int what)] rfl ?_
                  rw [← cv_lt (show 2 * i < 1024 by omega)]
                  exact ihLC _ (by omega) (i + 1) (2 * i) (lonA Y n (2 * i) n)  rfl (by omega) (by (have hcl : clA Y n i = (j, le) := (by rw [hj, hle])); simp only [clA, hcl]; rw [if_pos (And.intro (And.intro h_68 h_78) (by first | exact Or.inl hj10 | exact Or.inr h_118))]) (by (have hcl : clA Y n i = (j, le) := (by rw [hj, hle])); simp only [clA, hcl]; rw [if_pos (And.intro (And.intro h_68 h_78) (by first | exact Or.inl hj10 | exact Or.inr h_118))])
                · skip
                  have hj10 := cv_nn hj9 h_111
                  refine v_iload C 0 dX10_classes_114 rfl ?_
                  refine v_iload C 5 dX10_classes_116 rfl ?_
                  refine n_icmp_ge C (by omega) (by omega) 128 dX10_classes_118 rfl (fun h_118 => ?_) (fun h_118 => ?_)
                  · skip
                    refine v_iinc C (nI (2 * i + 2)) 3 [(5, .int (nI (2 * i + 2))), (8, .int (nI (lonA Y n (2 * i) n))), (7, .int (nI 1)), (6, .int (nI (popN (2 * i)))), (3, .int (cv j)), (4, .int (nI le)), (2, .int (nI n)), (0, .ref (gb G + 205)), (1, .int what)] dX10_classes_128 rfl (nI_add _ _) (by decide) rfl ?_
                    refine v_goto C 48 dX10_classes_131 rfl ?_
                    refine v_sub [0, 4, 5, 6, 7, 8] [(5, .int (nI (2 * i + 2))), (3, .int (cv j)), (4, .int (nI le)), (2, .int (nI n)), (0, .ref (gb G + 205)), (1, .int what)] rfl ?_
                    exact ihLC _ (by omega) (i + 1) j le  rfl (by omega) (by (have hcl : clA Y n i = (j, le) := (by rw [hj, hle])); simp only [clA, hcl]; rw [if_neg (fun q => by rcases q.2 with q2 | q2 <;> omega)]) (by (have hcl : clA Y n i = (j, le) := (by rw [hj, hle])); simp only [clA, hcl]; rw [if_neg (fun q => by rcases q.2 with q2 | q2 <;> omega)])
                  · skip
                    refine v_iload C 3 dX10_classes_121 rfl ?_
                    refine v_istore_n C [(3, .int (nI (2 * i))), (8, .int (nI (lonA Y n (2 * i) n))), (7, .int (nI 1)), (6, .int (nI (popN (2 * i)))), (5, .int (nI (2 * i))), (4, .int (nI le)), (2, .int (nI n)), (0, .ref (gb G + 205)), (1, .int what)] dX10_classes_123 rfl (by decide) rfl ?_
                    refine v_iload C 1 dX10_classes_124 rfl ?_
                    refine v_istore C [(4, .int (nI (lonA Y n (2 * i) n))), (3, .int (nI (2 * i))), (8, .int (nI (lonA Y n (2 * i) n))), (7, .int (nI 1)), (6, .int (nI (popN (2 * i)))), (5, .int (nI (2 * i))), (2, .int (nI n)), (0, .ref (gb G + 205)), (1, .int what)] dX10_classes_126 (by decide) rfl ?_
                    refine v_iinc C (nI (2 * i + 2)) 5 [(5, .int (nI (2 * i + 2))), (4, .int (nI (lonA Y n (2 * i) n))), (3, .int (nI (2 * i))), (8, .int (nI (lonA Y n (2 * i) n))), (7, .int (nI 1)), (6, .int (nI (popN (2 * i)))), (2, .int (nI n)), (0, .ref (gb G + 205)), (1, .int what)] dX10_classes_128 rfl (nI_add _ _) (by decide) rfl ?_
                    refine v_goto C 48 dX10_classes_131 rfl ?_
                    refine v_sub [0, 2, 1, 6, 7, 8] [(5, .int (nI (2 * i + 2))), (3, .int (nI (2 * i))), (4, .int (nI (lonA Y n (2 * i) n))), (2, .int (nI n)), (0, .ref (gb G + 205)), (1, .int what)] rfl ?_
                    rw [← cv_lt (show 2 * i < 1024 by omega)]
                    exact ihLC _ (by omega) (i + 1) (2 * i) (lonA Y n (2 * i) n)  rfl (by omega) (by (have hcl : clA Y n i = (j, le) := (by rw [hj, hle])); simp only [clA, hcl]; rw [if_pos (And.intro (And.intro h_68 h_78) (by first | exact Or.inl hj10 | exact Or.inr h_118))]) (by (have hcl : clA Y n i = (j, le) := (by rw [hj, hle])); simp only [clA, hcl]; rw [if_pos (And.intro (And.intro h_68 h_78) (by first | exact Or.inl hj10 | exact Or.inr h_118))])
      refine v_sub [0, 2, 1, 3, 4, 5] [(5, .int (nI 0)), (3, .int (-1)), (4, .int (nI 0)), (2, .int (nI n)), (0, .ref (gb G + 205)), (1, .int what)] rfl ?_
      exact LC _ 0 1024 0 rfl (Nat.zero_le _) (by rfl) (by rfl)
    · skip
      refine v_aload_n C 1 dX10_classes_28 rfl ?_
      refine v_ldcw C (-1000002) kc_X10_276 dX10_classes_29 ?_
      refine n_callVi C hRm [.int (-1000002)] cw_X10_finding ml_X10_81 (by decide) sh_205 (by decide) rfl (r_finding l G (upA M 206 Y) 2 (by decide) (-1000002) (by decide)) (by decide) rfl rfl (Nat.le_of_ble_eq_true rfl) dX10_classes_32 (fun M5 hP_32 => ?_)
      subst hP_32
      refine v_mem (upA (fndM M 2) 206 Y) (fnd_upA _ _ _) ?_
      have hS : classesS Y n what = er 2 Y := by unfold classesS; (try rw [nI_clamp (by omega)]); (try rw [nI_clamp (by omega)]); (first | rw [if_pos h_6] | rw [if_neg h_6] | rw [if_pos (congrArg nI h_6)] | rw [if_neg (fun q9 => h_6 ((nI_eq (by omega) (by omega)).mp q9))] | rw [if_neg (Nat.not_le.mpr h_6)] | rw [if_neg (Nat.not_lt.mpr h_6)] | skip); (first | rw [if_pos h_25] | rw [if_neg h_25] | rw [if_pos (congrArg nI h_25)] | rw [if_neg (fun q9 => h_25 ((nI_eq (by omega) (by omega)).mp q9))] | rw [if_neg (Nat.not_le.mpr h_25)] | rw [if_neg (Nat.not_lt.mpr h_25)] | skip); (try rw [e1]); (try rw [e2]); all_goals rfl
      exact n_iret C hRt rfl dX10_classes_35 (by rw [hS] <;> rfl) (by rw [hS]; exact ⟨_, rfl, (eqM.rf M).tr (eqM.fnd _ (show (2 : Nat) ≠ 0 by decide))⟩)
  · skip
    refine v_aload_n C 0 dX10_classes_9 rfl ?_
    refine v_ldc C (-1000001) kc_X10_80 dX10_classes_10 ?_
    refine n_callVi C hRm [.int (-1000001)] cw_X10_finding ml_X10_81 (by decide) sh_205 (by decide) rfl (r_finding l G (upA M 206 Y) 1 (by decide) (-1000001) (by decide)) (by decide) rfl rfl (Nat.le_of_ble_eq_true rfl) dX10_classes_12 (fun M5 hP_12 => ?_)
    subst hP_12
    refine v_mem (upA (fndM M 1) 206 Y) (fnd_upA _ _ _) ?_
    have hS : classesS Y n what = er 1 Y := by unfold classesS; (try rw [nI_clamp (by omega)]); (try rw [nI_clamp (by omega)]); (first | rw [if_pos h_6] | rw [if_neg h_6] | rw [if_pos (congrArg nI h_6)] | rw [if_neg (fun q9 => h_6 ((nI_eq (by omega) (by omega)).mp q9))] | rw [if_neg (Nat.not_le.mpr h_6)] | rw [if_neg (Nat.not_lt.mpr h_6)] | skip); (try rw [e1]); (try rw [e2]); all_goals rfl
    exact n_iret C hRt rfl dX10_classes_15 (by rw [hS] <;> rfl) (by rw [hS]; exact ⟨_, rfl, (eqM.rf M).tr (eqM.fnd _ (show (1 : Nat) ≠ 0 by decide))⟩)
def bestS (Y : Nat → Int32) (n hN : Nat) (child : Int32) : O3 := if nI 0 ≤ child ∧ child ≤ Y 0 - nI 1 then (if 0 ≤ (bstA Y n child.toNatClampNeg hN).1 then (0, (bstA Y n child.toNatClampNeg hN).1, Y) else er 2 Y) else er 1 Y
set_option maxHeartbeats 4000000 in
set_option maxRecDepth 100000 in
theorem r_best (l : Launch) (G : GC) (M : Mm) (Y : Nat → Int32) (n hN : Nat) (hY : YOk Y n hN) (child : Int32) : CI l G 7 yX10_best cX10_best 3 .int [.ref (gb G + 205), .int child] (upA M 206 Y) ((bestS Y n hN child).2.1) (PubR M (bestS Y n hN child).2.2 (bestS Y n hN child).1) := by
  refine Con.of (by decide +kernel) (Nat.le_of_ble_eq_true rfl) ?_
  intro f C hRm hRt _
  show Vc f G NPh (upA M 206 Y) 0 [(0, .ref (gb G + 205)), (1, .int child)] []
  have h10 := hY.1.2.1
  have h5N := hY.1.2.2.2
  refine v_aload_n C 0 dX10_best_0 rfl ?_
  refine v_iload_n C 1 dX10_best_1 rfl ?_
  refine v_iconst C (nI 0) dX10_best_2 (by decide) ?_
  refine n_callVp C hRm [.int child, .int (nI 0)] cw_X10_is ml_X10_95 (by decide) sh_205 (by decide) rfl (r_is l G M Y child 0 (by decide)) (by decide) rfl rfl (Nat.le_of_ble_eq_true rfl) dX10_best_3 ?_
  refine nb_if_ne C 16 dX10_best_6 rfl (fun h_6 => ?_) (fun h_6 => ?_)
  · skip
    obtain ⟨c, hc, rfl⟩ := is_nat hY.1.1 hY.1.2.1 h_6
    refine v_aload_n C 0 dX10_best_16 rfl ?_
    refine v_iload_n C 1 dX10_best_17 rfl ?_
    refine n_callVi C hRm [.int (nI c)] cw_X10_bestHeap ml_X10_233 (by decide) sh_205 (by decide) rfl (r_bestHeap l G M Y n hN hY c (by omega)) (by decide) rfl rfl (Nat.le_of_ble_eq_true rfl) dX10_best_18 (fun M7 hP_18 => ?_)
    obtain ⟨X9, rfl, hX9⟩ := hP_18
    refine v_istore_n C [(2, .int ((bstA Y n c hN).1)), (0, .ref (gb G + 205)), (1, .int (nI c))] dX10_best_21 rfl (by decide) rfl ?_
    refine v_iload_n C 0 dX10_best_22 rfl ?_
    refine v_if_ge C 36 dX10_best_23 rfl (fun h_23 => ?_) (fun h_23 => ?_)
    · skip
      refine v_iload_n C 0 dX10_best_36 rfl ?_
      have hS : bestS Y n hN (nI c) = (0, (bstA Y n c hN).1, Y) := by unfold bestS; (try rw [nI_clamp (by omega)]); (try rw [nI_clamp (by omega)]); (first | rw [if_pos h_6] | rw [if_neg h_6] | rw [if_pos (congrArg nI h_6)] | rw [if_neg (fun q9 => h_6 ((nI_eq (by omega) (by omega)).mp q9))] | rw [if_neg (Nat.not_le.mpr h_6)] | rw [if_neg (Nat.not_lt.mpr h_6)] | skip); (first | rw [if_pos h_23] | rw [if_neg h_23] | rw [if_pos (congrArg nI h_23)] | rw [if_neg (fun q9 => h_23 ((nI_eq (by omega) (by omega)).mp q9))] | rw [if_neg (Nat.not_le.mpr h_23)] | rw [if_neg (Nat.not_lt.mpr h_23)] | skip); all_goals rfl
      exact n_iret C hRt rfl dX10_best_37 (by rw [hS] <;> rfl) (by rw [hS]; exact ⟨_, rfl, eqM.of23 hX9⟩)
    · skip
      refine v_aload_n C 1 dX10_best_26 rfl ?_
      refine v_ldcw C (-1000002) kc_X10_276 dX10_best_27 ?_
      refine n_callVi C hRm [.int (-1000002)] cw_X10_finding ml_X10_81 (by decide) sh_205 (by decide) rfl (r_finding l G (upA X9 206 Y) 2 (by decide) (-1000002) (by decide)) (by decide) rfl rfl (Nat.le_of_ble_eq_true rfl) dX10_best_30 (fun M5 hP_30 => ?_)
      subst hP_30
      refine v_mem (upA (fndM X9 2) 206 Y) (fnd_upA _ _ _) ?_
      refine v_goto C 37 dX10_best_33 rfl ?_
      have hS : bestS Y n hN (nI c) = er 2 Y := by unfold bestS; (try rw [nI_clamp (by omega)]); (try rw [nI_clamp (by omega)]); (first | rw [if_pos h_6] | rw [if_neg h_6] | rw [if_pos (congrArg nI h_6)] | rw [if_neg (fun q9 => h_6 ((nI_eq (by omega) (by omega)).mp q9))] | rw [if_neg (Nat.not_le.mpr h_6)] | rw [if_neg (Nat.not_lt.mpr h_6)] | skip); (first | rw [if_pos h_23] | rw [if_neg h_23] | rw [if_pos (congrArg nI h_23)] | rw [if_neg (fun q9 => h_23 ((nI_eq (by omega) (by omega)).mp q9))] | rw [if_neg (Nat.not_le.mpr h_23)] | rw [if_neg (Nat.not_lt.mpr h_23)] | skip); all_goals rfl
      exact n_iret C hRt rfl dX10_best_37 (by rw [hS] <;> rfl) (by rw [hS]; exact ⟨_, rfl, (eqM.of23 hX9).tr (eqM.fnd _ (show (2 : Nat) ≠ 0 by decide))⟩)
  · skip
    refine v_aload_n C 0 dX10_best_9 rfl ?_
    refine v_ldc C (-1000001) kc_X10_80 dX10_best_10 ?_
    refine n_callVi C hRm [.int (-1000001)] cw_X10_finding ml_X10_81 (by decide) sh_205 (by decide) rfl (r_finding l G (upA M 206 Y) 1 (by decide) (-1000001) (by decide)) (by decide) rfl rfl (Nat.le_of_ble_eq_true rfl) dX10_best_12 (fun M5 hP_12 => ?_)
    subst hP_12
    refine v_mem (upA (fndM M 1) 206 Y) (fnd_upA _ _ _) ?_
    have hS : bestS Y n hN child = er 1 Y := by unfold bestS; (try rw [nI_clamp (by omega)]); (try rw [nI_clamp (by omega)]); (first | rw [if_pos h_6] | rw [if_neg h_6] | rw [if_pos (congrArg nI h_6)] | rw [if_neg (fun q9 => h_6 ((nI_eq (by omega) (by omega)).mp q9))] | rw [if_neg (Nat.not_le.mpr h_6)] | rw [if_neg (Nat.not_lt.mpr h_6)] | skip); all_goals rfl
    exact n_iret C hRt rfl dX10_best_15 (by rw [hS] <;> rfl) (by rw [hS]; exact ⟨_, rfl, (eqM.rf M).tr (eqM.fnd _ (show (1 : Nat) ≠ 0 by decide))⟩)
