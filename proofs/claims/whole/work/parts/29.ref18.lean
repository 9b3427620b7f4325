theorem divmod : ∀ n, n ≤ 10 → 0 < n → ∀ k, k < 100 → nI k / nI n = nI (k / n) ∧ nI k - nI k / nI n * nI n = nI (k % n) := by decide +kernel
theorem ne_n {n : Nat} (h : 0 < n) (h2 : n ≤ 10) : ¬ nI n = 0 := by
  rw [← nI_0]
  exact fun q => by have := (nI_eq (by omega) (by omega)).mp q; omega
theorem nn_100 {n : Nat} (h : n ≤ 10) : n * n ≤ 100 := Nat.mul_le_mul h h
theorem kn_lt {k n : Nat} (h : k < n * n) : k / n < n ∧ k % n < n ∧ 0 < n := by
  have h0 : 0 < n := by
    rcases Nat.eq_zero_or_pos n with h1 | h1
    · subst h1; simp at h
    · exact h1
  exact ⟨(Nat.div_lt_iff_lt_mul h0).mpr h, Nat.mod_lt _ h0, h0⟩
def newL (Y : Nat → Int32) (n a b : Nat) : Int32 := if a = b then nI 0 else movS Y n a b
def lkA (Y : Nat → Int32) (n : Nat) : Nat → Nat → Int32
  | 0 => Y
  | k + 1 => upd (lkA Y n k) (67 + 10 * (k / n) + k % n) (newL Y n (k / n) (k % n))
theorem lkA_off {Y : Nat → Int32} {n : Nat} (hn : n ≤ 10) {i : Nat} (hi : i < 67 ∨ 167 ≤ i) : ∀ k, k ≤ n * n → lkA Y n k i = Y i
  | 0, _ => rfl
  | k + 1, hk => by
    obtain ⟨h1, h2, h3⟩ := kn_lt (k := k) (n := n) (by omega)
    unfold lkA
    rw [upd_ne _ _ (by omega)]
    exact lkA_off hn hi k (by omega)
def termS (Y : Nat → Int32) (n : Nat) : Nat → Int32 := upd (lkA Y n (n * n)) 3 (lkA Y n (n * n) 3 + nI 1)
theorem yk_lk {Y : Nat → Int32} {n hN : Nat} (hY : YOk Y n hN) (k : Nat) (hk : k ≤ n * n) : YOk (lkA Y n k) n hN := by
  have h10 := hY.1.2.1
  refine hY.to (fun i hi => lkA_off h10 (by omega) k hk) (fun c hc => lkA_off h10 (by omega) k hk) (fun c hc => ?_)
  rw [lkA_off h10 (by omega) k hk]
  exact hY.2.2.1 c hc
theorem yk_term {Y : Nat → Int32} {n hN : Nat} (hY : YOk Y n hN) : YOk (termS Y n) n hN := by
  have h10 := hY.1.2.1
  exact yk_upd (yk_lk hY (n * n) (Nat.le_refl _)) _ (by omega) (by omega) (by omega)
def trmI (Y : Nat → Int32) (n : Nat) : Nat → Nat → Int32
  | 0 => Y
  | k + 1 => termS (trmI Y n k) n
theorem yk_trm {Y : Nat → Int32} {n hN : Nat} (hY : YOk Y n hN) : ∀ k, YOk (trmI Y n k) n hN
  | 0 => hY
  | k + 1 => yk_term (yk_trm hY k)
def ex24 (M X : Mm) : Prop := ∀ a, a ≠ 206 → a ≠ 212 → a ≠ 213 → a ≠ 214 → X a = M a
theorem ex24.rf (M : Mm) : ex24 M M := fun _ _ _ _ _ => rfl
theorem ex24.of23 {M X Z : Mm} (h : ex24 M X) (h2 : ex23 X Z) : ex24 M Z := fun a h1 h3 h4 h5 => (h2 a h1 h3 h4).trans (h a h1 h3 h4 h5)
theorem ex24.up {M X : Mm} (h : ex24 M X) (i : Nat) (v : Int32) : ex24 M (up2 X 214 i v) := fun a h1 h3 h4 h5 => (up2_ne _ _ _ h5).trans (h a h1 h3 h4 h5)
theorem eqM.of24 {M X : Mm} (h : ex24 M X) : eqM 0 M X := ⟨fun a h1 h2 h3 h4 h5 h6 h7 h8 h9 _ => h a h2 h6 h7 h8, congrFun (h 205 (by decide) (by decide) (by decide) (by decide)) 3, congrFun (h 205 (by decide) (by decide) (by decide) (by decide)) 17, h 209 (by decide) (by decide) (by decide) (by decide)⟩
def termsS (Y : Nat → Int32) (n : Nat) (k : Int32) : O3 := if nI 1 ≤ k ∧ k ≤ nI 20 then (if Y 3 + k ≤ nI 999 then (0, trmI Y n k.toNatClampNeg 3, trmI Y n k.toNatClampNeg) else er 3 Y) else er 1 Y
set_option maxHeartbeats 4000000 in
set_option maxRecDepth 100000 in
theorem r_term (l : Launch) (G : GC) (M : Mm) (Y : Nat → Int32) (n hN : Nat) (hY : YOk Y n hN) : CV l G 6 yX10_term cX10_term 3 [.ref (gb G + 205)] (upA M 206 Y) (fun M' => ∃ X, M' = upA X 206 (termS Y n) ∧ ex24 M X) := by
  refine Con.of (by decide +kernel) (Nat.le_of_ble_eq_true rfl) ?_
  intro f C hRm hRt _
  have h10 := hY.1.2.1
  have hnn := nn_100 h10
  have L2 : ∀ (kq : Nat) (k : Nat) (Z : Nat → Int32) (X : Mm), n * n - k = kq → k ≤ n * n → ex24 M X → (∀ j, j < n * n → X 214 j = newL Y n (j / n) (j % n)) → Z = lkA Y n k → Vc f G NPh (upA X 206 Z) 53 [(2, .int (nI k)), (0, .ref (gb G + 205)), (1, .int (nI n))] [] := by
    intro kq
    induction kq using Nat.strongRecOn with
    | _ kq ihL2 =>
      intro k Z X hkq hk hX hm hZ
      refine v_iload_n C 0 dX10_term_53 rfl ?_
      refine v_iload_n C 2 dX10_term_54 rfl ?_
      refine v_iload_n C 2 dX10_term_55 rfl ?_
      refine n_imul C dX10_term_56 ?_
      refine n_icmp_ge C (by omega) (by omega) 90 dX10_term_57 rfl (fun h_57 => ?_) (fun h_57 => ?_)
      · skip
        refine v_aload_n C 1 dX10_term_90 rfl ?_
        refine g_X10_9 C (by decide) sh_205 dX10_term_91 ?_
        refine v_iconst C (nI 3) dX10_term_94 (by decide) ?_
        refine v_dup2 C dX10_term_95 rfl rfl ?_
        refine n_now_ld C (by decide) sh_206 (by omega) (by decide) dX10_term_96 ?_
        refine v_iconst C (nI 1) dX10_term_97 (by decide) ?_
        refine v_iadd C dX10_term_98 ?_
        refine n_now_st C (by decide) sh_206 (by omega) (by decide) dX10_term_99 ?_
        exact n_ret C hRt dX10_term_100 ⟨X, by rw [hZ, show k = n * n by omega]; rfl, hX⟩
      · skip
        obtain ⟨hkn1, hkn2, hk0⟩ := kn_lt h_57
        refine v_aload_n C 1 dX10_term_60 rfl ?_
        refine g_X10_9 C (by decide) sh_205 dX10_term_61 ?_
        refine v_bipush C (nI 67) dX10_term_64 (by decide) ?_
        refine v_bipush C (nI 10) dX10_term_66 (by decide) ?_
        refine v_iload_n C 0 dX10_term_68 rfl ?_
        refine v_iload_n C 2 dX10_term_69 rfl ?_
        refine v_idiv C dX10_term_70 (ne_n hk0 h10) ?_
        refine v_top (nI (k / n)) (divmod n h10 hk0 k (by omega)).1 ?_
        refine n_imul C dX10_term_71 ?_
        refine n_iadd C dX10_term_72 ?_
        refine v_iload_n C 0 dX10_term_73 rfl ?_
        refine v_iload_n C 2 dX10_term_74 rfl ?_
        refine v_irem C dX10_term_75 (ne_n hk0 h10) ?_
        refine v_top (nI (k % n)) (divmod n h10 hk0 k (by omega)).2 ?_
        refine n_iadd C dX10_term_76 ?_
        refine v_aload_n C 1 dX10_term_77 rfl ?_
        refine g_X10_41 C (by decide) sh_205 dX10_term_78 ?_
        refine v_iload_n C 0 dX10_term_81 rfl ?_
        refine v_iald C (by decide) sh_214 (by omega) (by decide) dX10_term_82 ?_
        refine v_top (X 214 k) (congrFun (upA_ne X Z (by decide)) _) ?_
        refine n_now_st C (by decide) sh_206 (by omega) (by decide) dX10_term_83 ?_
        refine v_iinc C (nI (k + 1)) 0 [(2, .int (nI (k + 1))), (0, .ref (gb G + 205)), (1, .int (nI n))] dX10_term_84 rfl (nI_add _ _) (by decide) rfl ?_
        refine v_goto C 53 dX10_term_87 rfl ?_
        refine v_sub [0, 1, 2] [(2, .int (nI (k + 1))), (0, .ref (gb G + 205)), (1, .int (nI n))] rfl ?_
        exact ihL2 _ (by omega) (k + 1) (upd Z ((67 + (10 * (k / n))) + (k % n)) (X 214 k)) X  rfl (by omega) (by exact hX) (by exact hm) (by rw [hZ, hm k (by omega)]; rfl)
  have L1 : ∀ (kq : Nat) (k : Nat) (X : Mm), n * n - k = kq → k ≤ n * n → ex24 M X → (∀ j, j < k → X 214 j = newL Y n (j / n) (j % n)) → Vc f G NPh (upA X 206 Y) 9 [(2, .int (nI k)), (0, .ref (gb G + 205)), (1, .int (nI n))] [] := by
    intro kq
    induction kq using Nat.strongRecOn with
    | _ kq ihL1 =>
      intro k X hkq hk hX hm
      refine v_iload_n C 0 dX10_term_9 rfl ?_
      refine v_iload_n C 2 dX10_term_10 rfl ?_
      refine v_iload_n C 2 dX10_term_11 rfl ?_
      refine n_imul C dX10_term_12 ?_
      refine n_icmp_ge C (by omega) (by omega) 51 dX10_term_13 rfl (fun h_13 => ?_) (fun h_13 => ?_)
      · skip
        refine v_iconst C (nI 0) dX10_term_51 (by decide) ?_
        refine v_istore_n C [(2, .int (nI 0)), (0, .ref (gb G + 205)), (1, .int (nI n))] dX10_term_52 rfl (by decide) rfl ?_
        refine v_sub [0, 1, 2] [(2, .int (nI 0)), (0, .ref (gb G + 205)), (1, .int (nI n))] rfl ?_
        exact L2 _ 0 Y X  rfl (by omega) (by exact hX) (by exact fun j hj => hm j (by omega)) (by rfl)
      · skip
        obtain ⟨hkn1, hkn2, hk0⟩ := kn_lt h_13
        refine v_aload_n C 1 dX10_term_16 rfl ?_
        refine g_X10_41 C (by decide) sh_205 dX10_term_17 ?_
        refine v_iload_n C 0 dX10_term_20 rfl ?_
        refine v_iload_n C 0 dX10_term_21 rfl ?_
        refine v_iload_n C 2 dX10_term_22 rfl ?_
        refine v_idiv C dX10_term_23 (ne_n hk0 h10) ?_
        refine v_top (nI (k / n)) (divmod n h10 hk0 k (by omega)).1 ?_
        refine v_iload_n C 0 dX10_term_24 rfl ?_
        refine v_iload_n C 2 dX10_term_25 rfl ?_
        refine v_irem C dX10_term_26 (ne_n hk0 h10) ?_
        refine v_top (nI (k % n)) (divmod n h10 hk0 k (by omega)).2 ?_
        refine n_icmp_ne C (by omega) (by omega) 34 dX10_term_27 rfl (fun h_27 => ?_) (fun h_27 => ?_)
        · skip
          refine v_aload_n C 1 dX10_term_34 rfl ?_
          refine v_iload_n C 0 dX10_term_35 rfl ?_
          refine v_iload_n C 2 dX10_term_36 rfl ?_
          refine v_idiv C dX10_term_37 (ne_n hk0 h10) ?_
          refine v_top (nI (k / n)) (divmod n h10 hk0 k (by omega)).1 ?_
          refine v_iload_n C 0 dX10_term_38 rfl ?_
          refine v_iload_n C 2 dX10_term_39 rfl ?_
          refine v_irem C dX10_term_40 (ne_n hk0 h10) ?_
          refine v_top (nI (k % n)) (divmod n h10 hk0 k (by omega)).2 ?_
          refine n_callVi C hRm [.int (nI (k / n)), .int (nI (k % n))] cw_X10_movesTo ml_X10_255 (by decide) sh_205 (by decide) rfl (r_movesTo l G X Y n hN hY (k / n) (k % n) hkn1 hkn2) (by decide) rfl rfl (Nat.le_of_ble_eq_true rfl) dX10_term_41 (fun M9 hP_41 => ?_)
          obtain ⟨X9, rfl, hX9⟩ := hP_41
          refine v_iast C (by decide) sh_214 (by omega) (by decide) dX10_term_44 ?_
          refine v_mem (upA (up2 X9 214 k (movS Y n (k / n) (k % n))) 206 Y) (up2_upA_ne _ _ _ _ (by decide)) ?_
          refine v_iinc C (nI (k + 1)) 0 [(2, .int (nI (k + 1))), (0, .ref (gb G + 205)), (1, .int (nI n))] dX10_term_45 rfl (nI_add _ _) (by decide) rfl ?_
          refine v_goto C 9 dX10_term_48 rfl ?_
          refine v_sub [0, 1, 2] [(2, .int (nI (k + 1))), (0, .ref (gb G + 205)), (1, .int (nI n))] rfl ?_
          exact ihL1 _ (by omega) (k + 1) (up2 X9 214 k (movS Y n (k / n) (k % n)))  rfl (by omega) (by exact (hX.of23 hX9).up _ _) (by intro j hj; by_cases h9 : j = k; (subst h9; rw [up2_at]; unfold newL; first | rw [if_pos h_27] | rw [if_neg h_27]); rw [up2_at_ne _ _ h9]; exact (congrFun (hX9 214 (by decide) (by decide) (by decide)) j).trans (hm j (by omega)))
        · skip
          refine v_iconst C (nI 0) dX10_term_30 (by decide) ?_
          refine v_goto C 44 dX10_term_31 rfl ?_
          refine v_iast C (by decide) sh_214 (by omega) (by decide) dX10_term_44 ?_
          refine v_mem (upA (up2 X 214 k (nI 0)) 206 Y) (up2_upA_ne _ _ _ _ (by decide)) ?_
          refine v_iinc C (nI (k + 1)) 0 [(2, .int (nI (k + 1))), (0, .ref (gb G + 205)), (1, .int (nI n))] dX10_term_45 rfl (nI_add _ _) (by decide) rfl ?_
          refine v_goto C 9 dX10_term_48 rfl ?_
          refine v_sub [0, 1, 2] [(2, .int (nI (k + 1))), (0, .ref (gb G + 205)), (1, .int (nI n))] rfl ?_
          exact ihL1 _ (by omega) (k + 1) (up2 X 214 k (nI 0))  rfl (by omega) (by exact hX.up _ _) (by intro j hj; by_cases h9 : j = k; (subst h9; rw [up2_at]; unfold newL; first | rw [if_pos h_27] | rw [if_neg h_27]); rw [up2_at_ne _ _ h9]; exact hm j (by omega))
  show Vc f G NPh (upA M 206 Y) 0 [(0, .ref (gb G + 205))] []
  refine v_aload_n C 0 dX10_term_0 rfl ?_
  refine g_X10_9 C (by decide) sh_205 dX10_term_1 ?_
  refine v_iconst C (nI 0) dX10_term_4 (by decide) ?_
  refine n_now_ld C (by decide) sh_206 (by omega) (by decide) dX10_term_5 ?_
  refine v_top (nI n) hY.1.1 ?_
  refine v_istore_n C [(1, .int (nI n)), (0, .ref (gb G + 205))] dX10_term_6 rfl (by decide) rfl ?_
  refine v_iconst C (nI 0) dX10_term_7 (by decide) ?_
  refine v_istore_n C [(2, .int (nI 0)), (1, .int (nI n)), (0, .ref (gb G + 205))] dX10_term_8 rfl (by decide) rfl ?_
  refine v_sub [0, 2, 1] [(2, .int (nI 0)), (0, .ref (gb G + 205)), (1, .int (nI n))] rfl ?_
  exact L1 _ 0 M  rfl (by omega) (by exact ex24.rf M) (by exact fun j hj => absurd hj (Nat.not_lt_zero _))
set_option maxHeartbeats 4000000 in
set_option maxRecDepth 100000 in
theorem r_terms (l : Launch) (G : GC) (M : Mm) (Y : Nat → Int32) (n hN : Nat) (hY : YOk Y n hN) (k : Int32) : CI l G 7 yX10_terms cX10_terms 3 .int [.ref (gb G + 205), .int k] (upA M 206 Y) ((termsS Y n k).2.1) (PubR M (termsS Y n k).2.2 (termsS Y n k).1) := by
  refine Con.of (by decide +kernel) (Nat.le_of_ble_eq_true rfl) ?_
  intro f C hRm hRt _
  have h10 := hY.1.2.1
  have h5N := hY.1.2.2.2
  show Vc f G NPh (upA M 206 Y) 0 [(0, .ref (gb G + 205)), (1, .int k)] []
  refine v_iload_n C 1 dX10_terms_0 rfl ?_
  refine v_iconst C (nI 1) dX10_terms_1 (by decide) ?_
  refine v_bipush C (nI 20) dX10_terms_2 (by decide) ?_
  refine n_callSp C hRm [.int k, .int (nI 1), .int (nI 20)] cw_X10_within st_X10_within ml_X10_72 (r_within l G (upA M 206 Y) k (nI 1) (nI 20)) (by decide) rfl rfl (Nat.le_of_ble_eq_true rfl) dX10_terms_4 ?_
  refine nb_if_ne C 17 dX10_terms_7 rfl (fun h_7 => ?_) (fun h_7 => ?_)
  · skip
    obtain ⟨j, hj, rfl⟩ := within_nat2 (by decide) (by decide) h_7
    refine v_aload_n C 0 dX10_terms_17 rfl ?_
    refine g_X10_9 C (by decide) sh_205 dX10_terms_18 ?_
    refine v_iconst C (nI 3) dX10_terms_21 (by decide) ?_
    refine n_now_ld C (by decide) sh_206 (by omega) (by decide) dX10_terms_22 ?_
    refine v_iload_n C 1 dX10_terms_23 rfl ?_
    refine v_iadd C dX10_terms_24 ?_
    refine v_sipush C (nI 999) dX10_terms_25 (by decide) ?_
    refine v_icmp_le C 38 dX10_terms_28 rfl (fun h_28 => ?_) (fun h_28 => ?_)
    · skip
      refine v_iconst C (nI 0) dX10_terms_38 (by decide) ?_
      refine v_istore_n C [(2, .int (nI 0)), (0, .ref (gb G + 205)), (1, .int (nI j))] dX10_terms_39 rfl (by decide) rfl ?_
      have LT : ∀ (kk : Nat) (i : Nat) (Z : Nat → Int32) (X : Mm), j - i = kk → i ≤ j → eqM 0 M X → Z = trmI Y n i → Vc f G NPh (upA X 206 Z) 40 [(2, .int (nI i)), (0, .ref (gb G + 205)), (1, .int (nI j))] [] := by
        intro kk
        induction kk using Nat.strongRecOn with
        | _ kk ihLT =>
          intro i Z X hkk hi hem hZ
          have hYZ : YOk Z n hN := hZ ▸ yk_trm hY i
          refine v_iload_n C 0 dX10_terms_40 rfl ?_
          refine v_iload_n C 2 dX10_terms_41 rfl ?_
          refine n_icmp_ge C (by omega) (by omega) 55 dX10_terms_42 rfl (fun h_42 => ?_) (fun h_42 => ?_)
          · skip
            refine v_aload_n C 1 dX10_terms_55 rfl ?_
            refine g_X10_9 C (by decide) sh_205 dX10_terms_56 ?_
            refine v_iconst C (nI 3) dX10_terms_59 (by decide) ?_
            refine n_now_ld C (by decide) sh_206 (by omega) (by decide) dX10_terms_60 ?_
            have e1 : Z = trmI Y n j := by rw [hZ, show i = j by omega]
            have hS : termsS Y n (nI j) = (0, trmI Y n j 3, trmI Y n j) := by unfold termsS; rw [if_pos h_7, if_pos h_28, nI_clamp (by omega)]
            exact n_iret C hRt rfl dX10_terms_61 (by rw [hS, e1]) (by rw [hS]; exact ⟨_, by rw [e1], hem⟩)
          · skip
            refine v_aload_n C 1 dX10_terms_45 rfl ?_
            refine n_callVv C hRm [] cw_X10_term ml_X10_258 (by decide) sh_205 (by decide) rfl (r_term l G X Z n hN hYZ) (by decide) rfl rfl (Nat.le_of_ble_eq_true rfl) dX10_terms_46 (fun M5 hP_46 => ?_)
            obtain ⟨X9, rfl, hX9⟩ := hP_46
            refine v_iinc C (nI (i + 1)) 0 [(2, .int (nI (i + 1))), (0, .ref (gb G + 205)), (1, .int (nI j))] dX10_terms_49 rfl (nI_add _ _) (by decide) rfl ?_
            refine v_goto C 40 dX10_terms_52 rfl ?_
            refine v_sub [0, 1, 2] [(2, .int (nI (i + 1))), (0, .ref (gb G + 205)), (1, .int (nI j))] rfl ?_
            exact ihLT _ (by omega) (i + 1) (termS Z n) X9  rfl (by omega) (by exact hem.tr (eqM.of24 hX9)) (by rw [hZ]; rfl)
      refine v_sub [0, 1, 2] [(2, .int (nI 0)), (0, .ref (gb G + 205)), (1, .int (nI j))] rfl ?_
      exact LT _ 0 Y M  rfl (by omega) (by exact eqM.rf M) (by rfl)
    · skip
      refine v_aload_n C 0 dX10_terms_31 rfl ?_
      refine v_ldc C (-1000003) kc_X10_122 dX10_terms_32 ?_
      refine n_callVi C hRm [.int (-1000003)] cw_X10_finding ml_X10_81 (by decide) sh_205 (by decide) rfl (r_finding l G (upA M 206 Y) 3 (by decide) (-1000003) (by decide)) (by decide) rfl rfl (Nat.le_of_ble_eq_true rfl) dX10_terms_34 (fun M5 hP_34 => ?_)
      subst hP_34
      refine v_mem (upA (fndM M 3) 206 Y) (fnd_upA _ _ _) ?_
      have hS : termsS Y n (nI j) = er 3 Y := by unfold termsS; (try rw [nI_clamp (by omega)]); (try rw [nI_clamp (by omega)]); (first | rw [if_pos h_7] | rw [if_neg h_7] | rw [if_pos (congrArg nI h_7)] | rw [if_neg (fun q9 => h_7 ((nI_eq (by omega) (by omega)).mp q9))] | rw [if_neg (Nat.not_le.mpr h_7)] | rw [if_neg (Nat.not_lt.mpr h_7)] | skip); (first | rw [if_pos h_28] | rw [if_neg h_28] | rw [if_pos (congrArg nI h_28)] | rw [if_neg (fun q9 => h_28 ((nI_eq (by omega) (by omega)).mp q9))] | rw [if_neg (Nat.not_le.mpr h_28)] | rw [if_neg (Nat.not_lt.mpr h_28)] | skip); all_goals rfl
      exact n_iret C hRt rfl dX10_terms_37 (by rw [hS] <;> rfl) (by rw [hS]; exact ⟨_, rfl, (eqM.rf M).tr (eqM.fnd _ (show (3 : Nat) ≠ 0 by decide))⟩)
  · skip
    refine v_aload_n C 0 dX10_terms_10 rfl ?_
    refine v_ldc C (-1000001) kc_X10_80 dX10_terms_11 ?_
    refine n_callVi C hRm [.int (-1000001)] cw_X10_finding ml_X10_81 (by decide) sh_205 (by decide) rfl (r_finding l G (upA M 206 Y) 1 (by decide) (-1000001) (by decide)) (by decide) rfl rfl (Nat.le_of_ble_eq_true rfl) dX10_terms_13 (fun M5 hP_13 => ?_)
    subst hP_13
    refine v_mem (upA (fndM M 1) 206 Y) (fnd_upA _ _ _) ?_
    have hS : termsS Y n k = er 1 Y := by unfold termsS; (try rw [nI_clamp (by omega)]); (try rw [nI_clamp (by omega)]); (first | rw [if_pos h_7] | rw [if_neg h_7] | rw [if_pos (congrArg nI h_7)] | rw [if_neg (fun q9 => h_7 ((nI_eq (by omega) (by omega)).mp q9))] | rw [if_neg (Nat.not_le.mpr h_7)] | rw [if_neg (Nat.not_lt.mpr h_7)] | skip); all_goals rfl
    exact n_iret C hRt rfl dX10_terms_16 (by rw [hS] <;> rfl) (by rw [hS]; exact ⟨_, rfl, (eqM.rf M).tr (eqM.fnd _ (show (1 : Nat) ≠ 0 by decide))⟩)
