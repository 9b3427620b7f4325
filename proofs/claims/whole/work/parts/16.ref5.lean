def doneS (is : Nat) (a b : Int32) : Int32 := match is with
  | 20000 => if ¬ a = 0 ∨ ¬ b = 0 then nI 1 else nI 0
  | 20001 => if ¬ a = 0 ∧ ¬ b = 0 then nI 1 else nI 0
  | 20002 => if a < b then nI 1 else nI 0
  | 20003 => if a = b then nI 1 else nI 0
  | 20004 => if b < a then nI 1 else nI 0
  | 20005 => a + b
  | 20006 => a - b
  | 20007 => a * b
  | 20008 => if b = 0 then nI 0 else a / b
  | _ => if b = 0 then nI 0 else a - a / b * b
def cN (Y : Nat → Int32) (i : Nat) : Nat := (Y i).toNatClampNeg
theorem cN_of {Y : Nat → Int32} {i j : Nat} (h : Y i = nI j) (hj : j < 2 ^ 31) : cN Y i = j := by unfold cN; rw [h, nI_clamp hj]
def stepT (nm : Nat → Int32) (is : Nat) (st : List Int32) : List Int32 :=
  if is < 10000 then nI is :: st else if is < 20000 then nm (is - 10000) :: st
  else if is = 20010 then (if st.getD 0 0 = 0 then nI 1 else nI 0) :: st.drop 1
  else doneS is (st.getD 1 0) (st.getD 0 0) :: st.drop 2
def evT (nm : Nat → Int32) (Y : Nat → Int32) (fr : Nat) : Nat → List Int32
  | 0 => []
  | k + 1 => stepT nm (cN Y (fr + k)) (evT nm Y fr k)
def dep (Y : Nat → Int32) (fr : Nat) : Nat → Nat
  | 0 => 0
  | k + 1 => if cN Y (fr + k) < 20000 then dep Y fr k + 1 else if cN Y (fr + k) = 20010 then dep Y fr k else dep Y fr k - 1
theorem dep_le (Y : Nat → Int32) (fr : Nat) : ∀ k, dep Y fr k ≤ k
  | 0 => Nat.le_refl 0
  | k + 1 => by
    have := dep_le Y fr k
    unfold dep
    split
    · omega
    · split <;> omega
def opOk (d is : Nat) : Prop := is ≤ 20010 ∧ (is < 10000 ∨ (10000 ≤ is ∧ is < 10005) ∨ (is = 20010 ∧ 1 ≤ d) ∨ (20000 ≤ is ∧ is < 20010 ∧ 2 ≤ d))
def okT (Y : Nat → Int32) (fr len : Nat) : Prop := len ≤ 60 ∧ Y (fr - 1) = nI len ∧ (∀ k, k < len → ∃ is, Y (fr + k) = nI is ∧ opOk (dep Y fr k) is) ∧ (0 < len → dep Y fr len = 1)
def pileR (X : Mm) (k0 n : Nat) (st : List Int32) : Prop := st.length = n ∧ ∀ j, j < n → X k0 j = st.getD (n - 1 - j) 0
theorem getD_cons_drop (v : Int32) (st : List Int32) (d m : Nat) : (v :: st.drop d).getD (m + 1) 0 = st.getD (d + m) 0 := by
  simp [List.getD_eq_getElem?_getD]
theorem pile_push {X : Mm} {k0 n : Nat} {st : List Int32} (h : pileR X k0 n st) (v : Int32) : pileR (up2 X k0 n v) k0 (n + 1) (v :: st) := by
  refine ⟨by simp [h.1], fun j hj => ?_⟩
  by_cases hjn : j = n
  · subst hjn; rw [up2_at, show j + 1 - 1 - j = 0 by omega]; rfl
  · rw [up2_at_ne X v hjn, h.2 j (by omega), show n + 1 - 1 - j = (n - 1 - j) + 1 by omega]; simp
theorem pile_not {X : Mm} {k0 n : Nat} {st : List Int32} (h : pileR X k0 n st) (hn : 1 ≤ n) (v : Int32) : pileR (up2 X k0 (n - 1) v) k0 n (v :: st.drop 1) := by
  refine ⟨by simp [h.1]; omega, fun j hj => ?_⟩
  by_cases hjn : j = n - 1
  · subst hjn; rw [up2_at, show n - 1 - (n - 1) = 0 by omega]; rfl
  · rw [up2_at_ne X v hjn, h.2 j (by omega)]
    refine Eq.trans ?_ (congrArg (fun q => (v :: st.drop 1).getD q 0) (show (n - 1 - j - 1) + 1 = n - 1 - j by omega))
    show _ = (v :: st.drop 1).getD ((n - 1 - j - 1) + 1) 0
    rw [getD_cons_drop, show 1 + (n - 1 - j - 1) = n - 1 - j by omega]
theorem pile_bin {X : Mm} {k0 n : Nat} {st : List Int32} (h : pileR X k0 n st) (hn : 2 ≤ n) (v : Int32) : pileR (up2 X k0 (n - 1 - 1) v) k0 (n - 1) (v :: st.drop 2) := by
  refine ⟨by simp [h.1]; omega, fun j hj => ?_⟩
  by_cases hjn : j = n - 1 - 1
  · subst hjn; rw [up2_at, show n - 1 - 1 - (n - 1 - 1) = 0 by omega]; rfl
  · rw [up2_at_ne X v hjn, h.2 j (by omega)]
    refine Eq.trans ?_ (congrArg (fun q => (v :: st.drop 2).getD q 0) (show (n - 1 - 1 - j - 1) + 1 = n - 1 - 1 - j by omega))
    show _ = (v :: st.drop 2).getD ((n - 1 - 1 - j - 1) + 1) 0
    rw [getD_cons_drop, show 2 + (n - 1 - 1 - j - 1) = n - 1 - j by omega]
def ex23 (M X : Mm) : Prop := ∀ a, a ≠ 206 → a ≠ 212 → a ≠ 213 → X a = M a
theorem ex23.rf (M : Mm) : ex23 M M := fun _ _ _ _ => rfl
theorem ex23.tr {A B C : Mm} (h : ex23 A B) (h2 : ex23 B C) : ex23 A C := fun a x y z => (h2 a x y z).trans (h a x y z)
theorem ex23.up (M : Mm) {k : Nat} (i : Nat) (v : Int32) (hk : k = 212 ∨ k = 213) : ex23 M (up2 M k i v) := fun a _ h2 h3 => up2_ne M i v (by omega)

set_option maxHeartbeats 4000000 in
set_option maxRecDepth 100000 in
theorem r_done (l : Launch) (G : GC) (M : Mm) (is : Nat) (his : 20000 ≤ is ∧ is < 20010) (a b : Int32) : CP l G 1 yX10_done cX10_done 3 .int [.int (nI is), .int a, .int b] M (doneS is a b) := by
  refine Con.of (by decide +kernel) (Nat.le_of_ble_eq_true rfl) ?_
  intro f C hRm hRt _
  show Vc f G NPh M 0 [(0, .int (nI is)), (1, .int a), (2, .int b)] []
  refine v_iload_n C 0 dX10_done_0 rfl ?_
  rcases (show is = 20000 ∨ is = 20001 ∨ is = 20002 ∨ is = 20003 ∨ is = 20004 ∨ is = 20005 ∨ is = 20006 ∨ is = 20007 ∨ is = 20008 ∨ is = 20009 by omega) with h_0 | h_0 | h_0 | h_0 | h_0 | h_0 | h_0 | h_0 | h_0 | h_0
  · subst h_0
    refine v_tableIn (off := 51) C 52 dX10_done_1 (by decide +kernel) (by decide +kernel) (by decide +kernel) rfl ?_
    refine v_iload_n C 1 dX10_done_52 rfl ?_
    refine v_if_ne C 60 dX10_done_53 rfl (fun h_53 => ?_) (fun h_53 => ?_)
    · skip
      refine v_iconst C (nI 1) dX10_done_60 (by decide) ?_
      refine v_goto C 65 dX10_done_61 rfl ?_
      exact n_iret C hRt rfl dX10_done_65 (by first | exact (if_pos (Or.inl (by assumption))).symm | exact (if_pos (Or.inr (by assumption))).symm | exact (if_neg (fun q => q.elim (fun z => z (by assumption)) (fun z => z (by assumption)))).symm) rfl
    · skip
      refine v_iload_n C 2 dX10_done_56 rfl ?_
      refine v_if_eq C 64 dX10_done_57 rfl (fun h_57 => ?_) (fun h_57 => ?_)
      · skip
        refine v_iconst C (nI 0) dX10_done_64 (by decide) ?_
        exact n_iret C hRt rfl dX10_done_65 (by first | exact (if_pos (Or.inl (by assumption))).symm | exact (if_pos (Or.inr (by assumption))).symm | exact (if_neg (fun q => q.elim (fun z => z (by assumption)) (fun z => z (by assumption)))).symm) rfl
      · skip
        refine v_iconst C (nI 1) dX10_done_60 (by decide) ?_
        refine v_goto C 65 dX10_done_61 rfl ?_
        exact n_iret C hRt rfl dX10_done_65 (by first | exact (if_pos (Or.inl (by assumption))).symm | exact (if_pos (Or.inr (by assumption))).symm | exact (if_neg (fun q => q.elim (fun z => z (by assumption)) (fun z => z (by assumption)))).symm) rfl
  · subst h_0
    refine v_tableIn (off := 65) C 66 dX10_done_1 (by decide +kernel) (by decide +kernel) (by decide +kernel) rfl ?_
    refine v_iload_n C 1 dX10_done_66 rfl ?_
    refine v_if_eq C 78 dX10_done_67 rfl (fun h_67 => ?_) (fun h_67 => ?_)
    · skip
      refine v_iconst C (nI 0) dX10_done_78 (by decide) ?_
      exact n_iret C hRt rfl dX10_done_79 (by first | exact (if_pos ⟨by assumption, by assumption⟩).symm | exact (if_neg (fun q => q.1 (by assumption))).symm | exact (if_neg (fun q => q.2 (by assumption))).symm) rfl
    · skip
      refine v_iload_n C 2 dX10_done_70 rfl ?_
      refine v_if_eq C 78 dX10_done_71 rfl (fun h_71 => ?_) (fun h_71 => ?_)
      · skip
        refine v_iconst C (nI 0) dX10_done_78 (by decide) ?_
        exact n_iret C hRt rfl dX10_done_79 (by first | exact (if_pos ⟨by assumption, by assumption⟩).symm | exact (if_neg (fun q => q.1 (by assumption))).symm | exact (if_neg (fun q => q.2 (by assumption))).symm) rfl
      · skip
        refine v_iconst C (nI 1) dX10_done_74 (by decide) ?_
        refine v_goto C 79 dX10_done_75 rfl ?_
        exact n_iret C hRt rfl dX10_done_79 (by first | exact (if_pos ⟨by assumption, by assumption⟩).symm | exact (if_neg (fun q => q.1 (by assumption))).symm | exact (if_neg (fun q => q.2 (by assumption))).symm) rfl
  · subst h_0
    refine v_tableIn (off := 79) C 80 dX10_done_1 (by decide +kernel) (by decide +kernel) (by decide +kernel) rfl ?_
    refine v_iload_n C 1 dX10_done_80 rfl ?_
    refine v_iload_n C 2 dX10_done_81 rfl ?_
    refine v_icmp_ge C 89 dX10_done_82 rfl (fun h_82 => ?_) (fun h_82 => ?_)
    · skip
      refine v_iconst C (nI 0) dX10_done_89 (by decide) ?_
      exact n_iret C hRt rfl dX10_done_90 (by first | exact (if_neg (Int32.not_lt.mpr (by assumption))).symm | exact (if_pos (Int32.not_le.mp (by assumption))).symm) rfl
    · skip
      refine v_iconst C (nI 1) dX10_done_85 (by decide) ?_
      refine v_goto C 90 dX10_done_86 rfl ?_
      exact n_iret C hRt rfl dX10_done_90 (by first | exact (if_neg (Int32.not_lt.mpr (by assumption))).symm | exact (if_pos (Int32.not_le.mp (by assumption))).symm) rfl
  · subst h_0
    refine v_tableIn (off := 90) C 91 dX10_done_1 (by decide +kernel) (by decide +kernel) (by decide +kernel) rfl ?_
    refine v_iload_n C 1 dX10_done_91 rfl ?_
    refine v_iload_n C 2 dX10_done_92 rfl ?_
    refine v_icmp_ne C 100 dX10_done_93 rfl (fun h_93 => ?_) (fun h_93 => ?_)
    · skip
      refine v_iconst C (nI 0) dX10_done_100 (by decide) ?_
      exact n_iret C hRt rfl dX10_done_101 (by first | exact (if_pos (by assumption)).symm | exact (if_neg (by assumption)).symm) rfl
    · skip
      refine v_iconst C (nI 1) dX10_done_96 (by decide) ?_
      refine v_goto C 101 dX10_done_97 rfl ?_
      exact n_iret C hRt rfl dX10_done_101 (by first | exact (if_pos (by assumption)).symm | exact (if_neg (by assumption)).symm) rfl
  · subst h_0
    refine v_tableIn (off := 101) C 102 dX10_done_1 (by decide +kernel) (by decide +kernel) (by decide +kernel) rfl ?_
    refine v_iload_n C 1 dX10_done_102 rfl ?_
    refine v_iload_n C 2 dX10_done_103 rfl ?_
    refine v_icmp_le C 111 dX10_done_104 rfl (fun h_104 => ?_) (fun h_104 => ?_)
    · skip
      refine v_iconst C (nI 0) dX10_done_111 (by decide) ?_
      exact n_iret C hRt rfl dX10_done_112 (by first | exact (if_neg (Int32.not_lt.mpr (by assumption))).symm | exact (if_pos (Int32.not_le.mp (by assumption))).symm) rfl
    · skip
      refine v_iconst C (nI 1) dX10_done_107 (by decide) ?_
      refine v_goto C 112 dX10_done_108 rfl ?_
      exact n_iret C hRt rfl dX10_done_112 (by first | exact (if_neg (Int32.not_lt.mpr (by assumption))).symm | exact (if_pos (Int32.not_le.mp (by assumption))).symm) rfl
  · subst h_0
    refine v_tableIn (off := 112) C 113 dX10_done_1 (by decide +kernel) (by decide +kernel) (by decide +kernel) rfl ?_
    refine v_iload_n C 1 dX10_done_113 rfl ?_
    refine v_iload_n C 2 dX10_done_114 rfl ?_
    refine v_iadd C dX10_done_115 ?_
    exact n_iret C hRt rfl dX10_done_116 (rfl) rfl
  · subst h_0
    refine v_tableIn (off := 116) C 117 dX10_done_1 (by decide +kernel) (by decide +kernel) (by decide +kernel) rfl ?_
    refine v_iload_n C 1 dX10_done_117 rfl ?_
    refine v_iload_n C 2 dX10_done_118 rfl ?_
    refine v_isub C dX10_done_119 ?_
    exact n_iret C hRt rfl dX10_done_120 (rfl) rfl
  · subst h_0
    refine v_tableIn (off := 120) C 121 dX10_done_1 (by decide +kernel) (by decide +kernel) (by decide +kernel) rfl ?_
    refine v_iload_n C 1 dX10_done_121 rfl ?_
    refine v_iload_n C 2 dX10_done_122 rfl ?_
    refine v_imul C dX10_done_123 ?_
    exact n_iret C hRt rfl dX10_done_124 (rfl) rfl
  · subst h_0
    refine v_tableIn (off := 124) C 125 dX10_done_1 (by decide +kernel) (by decide +kernel) (by decide +kernel) rfl ?_
    refine v_iload_n C 2 dX10_done_125 rfl ?_
    refine v_if_ne C 133 dX10_done_126 rfl (fun h_126 => ?_) (fun h_126 => ?_)
    · skip
      refine v_iload_n C 1 dX10_done_133 rfl ?_
      refine v_iload_n C 2 dX10_done_134 rfl ?_
      refine v_idiv C dX10_done_135 (by assumption) ?_
      exact n_iret C hRt rfl dX10_done_136 (by first | exact (if_pos (by assumption)).symm | exact (if_neg (by assumption)).symm) rfl
    · skip
      refine v_iconst C (nI 0) dX10_done_129 (by decide) ?_
      refine v_goto C 136 dX10_done_130 rfl ?_
      exact n_iret C hRt rfl dX10_done_136 (by first | exact (if_pos (by assumption)).symm | exact (if_neg (by assumption)).symm) rfl
  · subst h_0
    refine v_tableOut C 137 dX10_done_1 (Or.inr (by decide +kernel)) rfl ?_
    refine v_iload_n C 2 dX10_done_137 rfl ?_
    refine v_if_ne C 145 dX10_done_138 rfl (fun h_138 => ?_) (fun h_138 => ?_)
    · skip
      refine v_iload_n C 1 dX10_done_145 rfl ?_
      refine v_iload_n C 2 dX10_done_146 rfl ?_
      refine v_irem C dX10_done_147 (by assumption) ?_
      exact n_iret C hRt rfl dX10_done_148 (by first | exact (if_pos (by assumption)).symm | exact (if_neg (by assumption)).symm) rfl
    · skip
      refine v_iconst C (nI 0) dX10_done_141 (by decide) ?_
      refine v_goto C 148 dX10_done_142 rfl ?_
      exact n_iret C hRt rfl dX10_done_148 (by first | exact (if_pos (by assumption)).symm | exact (if_neg (by assumption)).symm) rfl
set_option maxHeartbeats 4000000 in
set_option maxRecDepth 100000 in
theorem r_worked (l : Launch) (G : GC) (M : Mm) (Y : Nat → Int32) (fr len : Nat) (hfr : 1 ≤ fr ∧ fr + 60 ≤ 445) (hok : okT Y fr len) (hl0 : 0 < len) (nm : Nat → Int32) (X0 : Mm) (hX0 : ex23 M X0) (hnm0 : ∀ j, j < 5 → X0 212 j = nm j) : CI l G 2 yX10_worked cX10_worked 5 .int [.ref (gb G + 205), .int (nI fr)] (upA X0 206 Y) ((evT nm Y fr len).getD 0 0) (fun M' => ∃ X, M' = upA X 206 Y ∧ ex23 M X) := by
  refine Con.of (by decide +kernel) (Nat.le_of_ble_eq_true rfl) ?_
  intro f C hRm hRt _
  have LK : ∀ (kk : Nat) (i : Nat) (n : Nat) (X : Mm), len - i = kk → i ≤ len → ex23 M X → ((∀ j, j < 5 → X 212 j = nm j)) → n = dep Y fr i → pileR X 213 n (evT nm Y fr i) → Vc f G NPh (upA X 206 Y) 4 [(3, .int (nI (fr + i))), (2, .int (nI n)), (0, .ref (gb G + 205)), (1, .int (nI fr))] [] := by
    intro kk
    induction kk using Nat.strongRecOn with
    | _ kk ihLK =>
      intro i n X hkk hi hX hnm hn hp
      have hd9 := dep_le Y fr i
      have hl9 := hok.1
      refine v_iload_n C 0 dX10_worked_4 rfl ?_
      refine v_iload_n C 3 dX10_worked_5 rfl ?_
      refine v_aload_n C 2 dX10_worked_6 rfl ?_
      refine g_X10_9 C (by decide) sh_205 dX10_worked_7 ?_
      refine v_iload_n C 3 dX10_worked_10 rfl ?_
      refine v_iconst C (nI 1) dX10_worked_11 (by decide) ?_
      refine n_isub C (by omega) dX10_worked_12 ?_
      refine n_now_ld C (by decide) sh_206 (by omega) (by decide) dX10_worked_13 ?_
      refine v_top (nI len) hok.2.1 ?_
      refine n_iadd C dX10_worked_14 ?_
      refine n_icmp_ge C (by omega) (by omega) 141 dX10_worked_15 rfl (fun h_15 => ?_) (fun h_15 => ?_)
      · skip
        refine v_aload_n C 2 dX10_worked_141 rfl ?_
        refine g_X10_38 C (by decide) sh_205 dX10_worked_142 ?_
        refine v_iconst C (nI 0) dX10_worked_145 (by decide) ?_
        refine v_iald C (by decide) sh_213 (by decide) (by decide) dX10_worked_146 ?_
        refine v_top (X 213 0) (congrFun (upA_ne X Y (by decide)) _) ?_
        (have h5 : i = len := (by omega)); subst h5
        exact n_iret C hRt rfl dX10_worked_147 ((hp.2 0 (by have := hok.2.2.2 hl0; omega)).trans (by rw [hn, hok.2.2.2 hl0])) ⟨X, rfl, hX⟩
      · skip
        refine v_aload_n C 2 dX10_worked_18 rfl ?_
        refine g_X10_9 C (by decide) sh_205 dX10_worked_19 ?_
        refine v_iload_n C 0 dX10_worked_22 rfl ?_
        refine n_now_ld C (by decide) sh_206 (by omega) (by decide) dX10_worked_23 ?_
        obtain ⟨is, his, his2, hcase⟩ := hok.2.2.1 i (by omega)
        have hcn : cN Y (fr + i) = is := cN_of his (by omega)
        refine v_top (nI is) his ?_
        refine v_istore C [(4, .int (nI is)), (3, .int (nI (fr + i))), (2, .int (nI n)), (0, .ref (gb G + 205)), (1, .int (nI fr))] dX10_worked_24 (by decide) rfl ?_
        refine v_iload C 0 dX10_worked_26 rfl ?_
        refine v_sipush C (nI 20000) dX10_worked_28 (by decide) ?_
        refine n_icmp_ge C (by omega) (by omega) 70 dX10_worked_31 rfl (fun h_31 => ?_) (fun h_31 => ?_)
        · skip
          refine v_iload C 0 dX10_worked_70 rfl ?_
          refine v_sipush C (nI 20010) dX10_worked_72 (by decide) ?_
          refine n_icmp_ne C (by omega) (by omega) 105 dX10_worked_75 rfl (fun h_75 => ?_) (fun h_75 => ?_)
          · skip
            refine v_iinc C (nI (n - 1)) 2 [(2, .int (nI (n - 1))), (4, .int (nI is)), (3, .int (nI (fr + i))), (0, .ref (gb G + 205)), (1, .int (nI fr))] dX10_worked_105 rfl (nI_dec (by omega)) (by decide) rfl ?_
            refine v_aload_n C 3 dX10_worked_108 rfl ?_
            refine g_X10_38 C (by decide) sh_205 dX10_worked_109 ?_
            refine v_iload_n C 0 dX10_worked_112 rfl ?_
            refine v_iconst C (nI 1) dX10_worked_113 (by decide) ?_
            refine n_isub C (by omega) dX10_worked_114 ?_
            refine v_iload C 1 dX10_worked_115 rfl ?_
            refine v_aload_n C 3 dX10_worked_117 rfl ?_
            refine g_X10_38 C (by decide) sh_205 dX10_worked_118 ?_
            refine v_iload_n C 0 dX10_worked_121 rfl ?_
            refine v_iconst C (nI 1) dX10_worked_122 (by decide) ?_
            refine n_isub C (by omega) dX10_worked_123 ?_
            refine v_iald C (by decide) sh_213 (by omega) (by decide) dX10_worked_124 ?_
            refine v_top (X 213 ((n - 1) - 1)) (congrFun (upA_ne X Y (by decide)) _) ?_
            refine v_aload_n C 3 dX10_worked_125 rfl ?_
            refine g_X10_38 C (by decide) sh_205 dX10_worked_126 ?_
            refine v_iload_n C 0 dX10_worked_129 rfl ?_
            refine v_iald C (by decide) sh_213 (by omega) (by decide) dX10_worked_130 ?_
            refine v_top (X 213 (n - 1)) (congrFun (upA_ne X Y (by decide)) _) ?_
            refine n_callSp C hRm [.int (nI is), .int (X 213 ((n - 1) - 1)), .int (X 213 (n - 1))] cw_X10_done st_X10_done ml_X10_226 (r_done l G (upA X 206 Y) is (by omega) (X 213 ((n - 1) - 1)) (X 213 (n - 1))) (by decide) rfl rfl (Nat.le_of_ble_eq_true rfl) dX10_worked_131 ?_
            refine v_iast C (by decide) sh_213 (by omega) (by decide) dX10_worked_134 ?_
            refine v_mem (upA (up2 X 213 ((n - 1) - 1) (doneS is (X 213 ((n - 1) - 1)) (X 213 (n - 1)))) 206 Y) (up2_upA_ne _ _ _ _ (by decide)) ?_
            refine v_iinc C (nI (fr + i + 1)) 2 [(3, .int (nI (fr + i + 1))), (2, .int (nI (n - 1))), (4, .int (nI is)), (0, .ref (gb G + 205)), (1, .int (nI fr))] dX10_worked_135 rfl (nI_add _ _) (by decide) rfl ?_
            refine v_goto C 4 dX10_worked_138 rfl ?_
            refine v_sub [0, 1, 3, 4] [(3, .int (nI (fr + i + 1))), (2, .int (nI (n - 1))), (0, .ref (gb G + 205)), (1, .int (nI fr))] rfl ?_
            exact ihLK _ (by omega) (i + 1) (n - 1) (up2 X 213 ((n - 1) - 1) (doneS is (X 213 ((n - 1) - 1)) (X 213 (n - 1))))  rfl (by omega) (by first | exact ex23.tr hX (ex23.up _ _ _ (by omega)) | omega) (by intro j hj; first | exact (congrFun (up2_ne _ _ _ (by decide)) j).trans (hnm j hj) | omega) (by unfold dep; rw [hcn]; first | (rw [if_pos (by omega)]; omega) | (rw [if_neg (by omega), if_pos (by omega)]; omega) | (rw [if_neg (by omega), if_neg (by omega)]; omega)) (by simp only [evT, stepT, hcn]; first | (rw [if_pos (show is < 10000 by omega)]; exact pile_push hp _) | (rw [if_neg (show ¬ is < 10000 by omega), if_pos (show is < 20000 by omega)]; exact (hnm (is - 10000) (by omega)) ▸ pile_push hp _) | (rw [if_neg (show ¬ is < 10000 by omega), if_neg (show ¬ is < 20000 by omega), if_pos (show is = 20010 by omega)]; have hz := hp.2 (n - 1) (by omega); rw [show n - 1 - (n - 1) = 0 by omega] at hz; rw [← hz]; first | (rw [if_pos (by assumption)]; exact pile_not hp (by omega) _) | (rw [if_neg (by assumption)]; exact pile_not hp (by omega) _)) | (rw [if_neg (show ¬ is < 10000 by omega), if_neg (show ¬ is < 20000 by omega), if_neg (show ¬ is = 20010 by omega)]; have hz := hp.2 (n - 1) (by omega); have hy := hp.2 (n - 1 - 1) (by omega); rw [show n - 1 - (n - 1) = 0 by omega] at hz; rw [show n - 1 - (n - 1 - 1) = 1 by omega] at hy; rw [← hz, ← hy]; exact pile_bin hp (by omega) _))
          · skip
            refine v_aload_n C 3 dX10_worked_78 rfl ?_
            refine g_X10_38 C (by decide) sh_205 dX10_worked_79 ?_
            refine v_iload_n C 2 dX10_worked_82 rfl ?_
            refine v_iconst C (nI 1) dX10_worked_83 (by decide) ?_
            refine n_isub C (by omega) dX10_worked_84 ?_
            refine v_aload_n C 3 dX10_worked_85 rfl ?_
            refine g_X10_38 C (by decide) sh_205 dX10_worked_86 ?_
            refine v_iload_n C 2 dX10_worked_89 rfl ?_
            refine v_iconst C (nI 1) dX10_worked_90 (by decide) ?_
            refine n_isub C (by omega) dX10_worked_91 ?_
            refine v_iald C (by decide) sh_213 (by omega) (by decide) dX10_worked_92 ?_
            refine v_top (X 213 (n - 1)) (congrFun (upA_ne X Y (by decide)) _) ?_
            refine v_if_ne C 100 dX10_worked_93 rfl (fun h_93 => ?_) (fun h_93 => ?_)
            · skip
              refine v_iconst C (nI 0) dX10_worked_100 (by decide) ?_
              refine v_iast C (by decide) sh_213 (by omega) (by decide) dX10_worked_101 ?_
              refine v_mem (upA (up2 X 213 (n - 1) (nI 0)) 206 Y) (up2_upA_ne _ _ _ _ (by decide)) ?_
              refine v_goto C 135 dX10_worked_102 rfl ?_
              refine v_iinc C (nI (fr + i + 1)) 1 [(3, .int (nI (fr + i + 1))), (4, .int (nI is)), (2, .int (nI n)), (0, .ref (gb G + 205)), (1, .int (nI fr))] dX10_worked_135 rfl (nI_add _ _) (by decide) rfl ?_
              refine v_goto C 4 dX10_worked_138 rfl ?_
              refine v_sub [0, 2, 3, 4] [(3, .int (nI (fr + i + 1))), (2, .int (nI n)), (0, .ref (gb G + 205)), (1, .int (nI fr))] rfl ?_
              exact ihLK _ (by omega) (i + 1) n (up2 X 213 (n - 1) (nI 0))  rfl (by omega) (by first | exact ex23.tr hX (ex23.up _ _ _ (by omega)) | omega) (by intro j hj; first | exact (congrFun (up2_ne _ _ _ (by decide)) j).trans (hnm j hj) | omega) (by unfold dep; rw [hcn]; first | (rw [if_pos (by omega)]; omega) | (rw [if_neg (by omega), if_pos (by omega)]; omega) | (rw [if_neg (by omega), if_neg (by omega)]; omega)) (by simp only [evT, stepT, hcn]; first | (rw [if_pos (show is < 10000 by omega)]; exact pile_push hp _) | (rw [if_neg (show ¬ is < 10000 by omega), if_pos (show is < 20000 by omega)]; exact (hnm (is - 10000) (by omega)) ▸ pile_push hp _) | (rw [if_neg (show ¬ is < 10000 by omega), if_neg (show ¬ is < 20000 by omega), if_pos (show is = 20010 by omega)]; have hz := hp.2 (n - 1) (by omega); rw [show n - 1 - (n - 1) = 0 by omega] at hz; rw [← hz]; first | (rw [if_pos (by assumption)]; exact pile_not hp (by omega) _) | (rw [if_neg (by assumption)]; exact pile_not hp (by omega) _)) | (rw [if_neg (show ¬ is < 10000 by omega), if_neg (show ¬ is < 20000 by omega), if_neg (show ¬ is = 20010 by omega)]; have hz := hp.2 (n - 1) (by omega); have hy := hp.2 (n - 1 - 1) (by omega); rw [show n - 1 - (n - 1) = 0 by omega] at hz; rw [show n - 1 - (n - 1 - 1) = 1 by omega] at hy; rw [← hz, ← hy]; exact pile_bin hp (by omega) _))
            · skip
              refine v_iconst C (nI 1) dX10_worked_96 (by decide) ?_
              refine v_goto C 101 dX10_worked_97 rfl ?_
              refine v_iast C (by decide) sh_213 (by omega) (by decide) dX10_worked_101 ?_
              refine v_mem (upA (up2 X 213 (n - 1) (nI 1)) 206 Y) (up2_upA_ne _ _ _ _ (by decide)) ?_
              refine v_goto C 135 dX10_worked_102 rfl ?_
              refine v_iinc C (nI (fr + i + 1)) 1 [(3, .int (nI (fr + i + 1))), (4, .int (nI is)), (2, .int (nI n)), (0, .ref (gb G + 205)), (1, .int (nI fr))] dX10_worked_135 rfl (nI_add _ _) (by decide) rfl ?_
              refine v_goto C 4 dX10_worked_138 rfl ?_
              refine v_sub [0, 2, 3, 4] [(3, .int (nI (fr + i + 1))), (2, .int (nI n)), (0, .ref (gb G + 205)), (1, .int (nI fr))] rfl ?_
              exact ihLK _ (by omega) (i + 1) n (up2 X 213 (n - 1) (nI 1))  rfl (by omega) (by first | exact ex23.tr hX (ex23.up _ _ _ (by omega)) | omega) (by intro j hj; first | exact (congrFun (up2_ne _ _ _ (by decide)) j).trans (hnm j hj) | omega) (by unfold dep; rw [hcn]; first | (rw [if_pos (by omega)]; omega) | (rw [if_neg (by omega), if_pos (by omega)]; omega) | (rw [if_neg (by omega), if_neg (by omega)]; omega)) (by simp only [evT, stepT, hcn]; first | (rw [if_pos (show is < 10000 by omega)]; exact pile_push hp _) | (rw [if_neg (show ¬ is < 10000 by omega), if_pos (show is < 20000 by omega)]; exact (hnm (is - 10000) (by omega)) ▸ pile_push hp _) | (rw [if_neg (show ¬ is < 10000 by omega), if_neg (show ¬ is < 20000 by omega), if_pos (show is = 20010 by omega)]; have hz := hp.2 (n - 1) (by omega); rw [show n - 1 - (n - 1) = 0 by omega] at hz; rw [← hz]; first | (rw [if_pos (by assumption)]; exact pile_not hp (by omega) _) | (rw [if_neg (by assumption)]; exact pile_not hp (by omega) _)) | (rw [if_neg (show ¬ is < 10000 by omega), if_neg (show ¬ is < 20000 by omega), if_neg (show ¬ is = 20010 by omega)]; have hz := hp.2 (n - 1) (by omega); have hy := hp.2 (n - 1 - 1) (by omega); rw [show n - 1 - (n - 1) = 0 by omega] at hz; rw [show n - 1 - (n - 1 - 1) = 1 by omega] at hy; rw [← hz, ← hy]; exact pile_bin hp (by omega) _))
        · skip
          refine v_aload_n C 3 dX10_worked_34 rfl ?_
          refine g_X10_38 C (by decide) sh_205 dX10_worked_35 ?_
          refine v_iload_n C 2 dX10_worked_38 rfl ?_
          refine v_iload C 0 dX10_worked_39 rfl ?_
          refine v_sipush C (nI 10000) dX10_worked_41 (by decide) ?_
          refine n_icmp_ge C (by omega) (by omega) 52 dX10_worked_44 rfl (fun h_44 => ?_) (fun h_44 => ?_)
          · skip
            refine v_aload_n C 3 dX10_worked_52 rfl ?_
            refine g_X10_35 C (by decide) sh_205 dX10_worked_53 ?_
            refine v_iload C 0 dX10_worked_56 rfl ?_
            refine v_sipush C (nI 10000) dX10_worked_58 (by decide) ?_
            refine n_isub C (by omega) dX10_worked_61 ?_
            refine v_iald C (by decide) sh_212 (by omega) (by decide) dX10_worked_62 ?_
            refine v_top (X 212 (is - 10000)) (congrFun (upA_ne X Y (by decide)) _) ?_
            refine v_iast C (by decide) sh_213 (by omega) (by decide) dX10_worked_63 ?_
            refine v_mem (upA (up2 X 213 n (X 212 (is - 10000))) 206 Y) (up2_upA_ne _ _ _ _ (by decide)) ?_
            refine v_iinc C (nI (n + 1)) 2 [(2, .int (nI (n + 1))), (4, .int (nI is)), (3, .int (nI (fr + i))), (0, .ref (gb G + 205)), (1, .int (nI fr))] dX10_worked_64 rfl (nI_add _ _) (by decide) rfl ?_
            refine v_goto C 135 dX10_worked_67 rfl ?_
            refine v_iinc C (nI (fr + i + 1)) 2 [(3, .int (nI (fr + i + 1))), (2, .int (nI (n + 1))), (4, .int (nI is)), (0, .ref (gb G + 205)), (1, .int (nI fr))] dX10_worked_135 rfl (nI_add _ _) (by decide) rfl ?_
            refine v_goto C 4 dX10_worked_138 rfl ?_
            refine v_sub [0, 1, 3, 4] [(3, .int (nI (fr + i + 1))), (2, .int (nI (n + 1))), (0, .ref (gb G + 205)), (1, .int (nI fr))] rfl ?_
            exact ihLK _ (by omega) (i + 1) (n + 1) (up2 X 213 n (X 212 (is - 10000)))  rfl (by omega) (by first | exact ex23.tr hX (ex23.up _ _ _ (by omega)) | omega) (by intro j hj; first | exact (congrFun (up2_ne _ _ _ (by decide)) j).trans (hnm j hj) | omega) (by unfold dep; rw [hcn]; first | (rw [if_pos (by omega)]; omega) | (rw [if_neg (by omega), if_pos (by omega)]; omega) | (rw [if_neg (by omega), if_neg (by omega)]; omega)) (by simp only [evT, stepT, hcn]; first | (rw [if_pos (show is < 10000 by omega)]; exact pile_push hp _) | (rw [if_neg (show ¬ is < 10000 by omega), if_pos (show is < 20000 by omega)]; exact (hnm (is - 10000) (by omega)) ▸ pile_push hp _) | (rw [if_neg (show ¬ is < 10000 by omega), if_neg (show ¬ is < 20000 by omega), if_pos (show is = 20010 by omega)]; have hz := hp.2 (n - 1) (by omega); rw [show n - 1 - (n - 1) = 0 by omega] at hz; rw [← hz]; first | (rw [if_pos (by assumption)]; exact pile_not hp (by omega) _) | (rw [if_neg (by assumption)]; exact pile_not hp (by omega) _)) | (rw [if_neg (show ¬ is < 10000 by omega), if_neg (show ¬ is < 20000 by omega), if_neg (show ¬ is = 20010 by omega)]; have hz := hp.2 (n - 1) (by omega); have hy := hp.2 (n - 1 - 1) (by omega); rw [show n - 1 - (n - 1) = 0 by omega] at hz; rw [show n - 1 - (n - 1 - 1) = 1 by omega] at hy; rw [← hz, ← hy]; exact pile_bin hp (by omega) _))
          · skip
            refine v_iload C 0 dX10_worked_47 rfl ?_
            refine v_goto C 63 dX10_worked_49 rfl ?_
            refine v_iast C (by decide) sh_213 (by omega) (by decide) dX10_worked_63 ?_
            refine v_mem (upA (up2 X 213 n (nI is)) 206 Y) (up2_upA_ne _ _ _ _ (by decide)) ?_
            refine v_iinc C (nI (n + 1)) 2 [(2, .int (nI (n + 1))), (4, .int (nI is)), (3, .int (nI (fr + i))), (0, .ref (gb G + 205)), (1, .int (nI fr))] dX10_worked_64 rfl (nI_add _ _) (by decide) rfl ?_
            refine v_goto C 135 dX10_worked_67 rfl ?_
            refine v_iinc C (nI (fr + i + 1)) 2 [(3, .int (nI (fr + i + 1))), (2, .int (nI (n + 1))), (4, .int (nI is)), (0, .ref (gb G + 205)), (1, .int (nI fr))] dX10_worked_135 rfl (nI_add _ _) (by decide) rfl ?_
            refine v_goto C 4 dX10_worked_138 rfl ?_
            refine v_sub [0, 1, 3, 4] [(3, .int (nI (fr + i + 1))), (2, .int (nI (n + 1))), (0, .ref (gb G + 205)), (1, .int (nI fr))] rfl ?_
            exact ihLK _ (by omega) (i + 1) (n + 1) (up2 X 213 n (nI is))  rfl (by omega) (by first | exact ex23.tr hX (ex23.up _ _ _ (by omega)) | omega) (by intro j hj; first | exact (congrFun (up2_ne _ _ _ (by decide)) j).trans (hnm j hj) | omega) (by unfold dep; rw [hcn]; first | (rw [if_pos (by omega)]; omega) | (rw [if_neg (by omega), if_pos (by omega)]; omega) | (rw [if_neg (by omega), if_neg (by omega)]; omega)) (by simp only [evT, stepT, hcn]; first | (rw [if_pos (show is < 10000 by omega)]; exact pile_push hp _) | (rw [if_neg (show ¬ is < 10000 by omega), if_pos (show is < 20000 by omega)]; exact (hnm (is - 10000) (by omega)) ▸ pile_push hp _) | (rw [if_neg (show ¬ is < 10000 by omega), if_neg (show ¬ is < 20000 by omega), if_pos (show is = 20010 by omega)]; have hz := hp.2 (n - 1) (by omega); rw [show n - 1 - (n - 1) = 0 by omega] at hz; rw [← hz]; first | (rw [if_pos (by assumption)]; exact pile_not hp (by omega) _) | (rw [if_neg (by assumption)]; exact pile_not hp (by omega) _)) | (rw [if_neg (show ¬ is < 10000 by omega), if_neg (show ¬ is < 20000 by omega), if_neg (show ¬ is = 20010 by omega)]; have hz := hp.2 (n - 1) (by omega); have hy := hp.2 (n - 1 - 1) (by omega); rw [show n - 1 - (n - 1) = 0 by omega] at hz; rw [show n - 1 - (n - 1 - 1) = 1 by omega] at hy; rw [← hz, ← hy]; exact pile_bin hp (by omega) _))
  show Vc f G NPh (upA X0 206 Y) 0 [(0, .ref (gb G + 205)), (1, .int (nI fr))] []
  refine v_iconst C (nI 0) dX10_worked_0 (by decide) ?_
  refine v_istore_n C [(2, .int (nI 0)), (0, .ref (gb G + 205)), (1, .int (nI fr))] dX10_worked_1 rfl (by decide) rfl ?_
  refine v_iload_n C 2 dX10_worked_2 rfl ?_
  refine v_istore_n C [(3, .int (nI fr)), (2, .int (nI 0)), (0, .ref (gb G + 205)), (1, .int (nI fr))] dX10_worked_3 rfl (by decide) rfl ?_
  refine v_sub [0, 1, 2, 3] [(3, .int (nI fr)), (2, .int (nI 0)), (0, .ref (gb G + 205)), (1, .int (nI fr))] rfl ?_
  exact LK _ 0 0 X0  rfl (by omega) (by exact hX0) (by exact hnm0) (by rfl) (by exact ⟨rfl, fun j hj => absurd hj (Nat.not_lt_zero _)⟩)
