theorem nI_or (a b : Nat) : nI a ||| nI b = nI (a ||| b) := by
  unfold nI
  apply Int32.toBitVec_inj.mp
  simp [BitVec.ofNat_or]
theorem sh1_pow : ∀ c, c < 10 → sh1 c = nI (2 ^ c) := by decide +kernel
def bv (j : Nat) : Int32 := if j = 10 then -1 else nI j
theorem bv_lt {j : Nat} (h : j < 10) : bv j = nI j := if_neg (by omega)
theorem bv_neg : ∀ j, j ≤ 10 → bv j < 0 → j = 10 := by decide +kernel
theorem bv_nn : ∀ j, j ≤ 10 → ¬ bv j < 0 → j < 10 := by decide +kernel
theorem bv_ge : ∀ j, j ≤ 10 → 0 ≤ bv j → j < 10 := by decide +kernel
theorem bv_nge : ∀ j, j ≤ 10 → ¬ 0 ≤ bv j → j = 10 := by decide +kernel
def sbA (Y : Nat → Int32) (c m : Nat) : Nat → Nat
  | 0 => 10
  | o + 1 => if (¬ o = c ∧ ¬ m.testBit o = true ∧ ¬ Y (67 + 10 * c + o) ≤ 0) ∧ (sbA Y c m o = 10 ∨ ¬ Y (67 + 10 * c + o) ≤ Y (67 + 10 * c + sbA Y c m o)) then o else sbA Y c m o
theorem sbA_le (Y : Nat → Int32) (c m : Nat) : ∀ o, o ≤ 10 → sbA Y c m o ≤ 10
  | 0, _ => Nat.le_refl _
  | o + 1, h => by
    unfold sbA
    split
    · omega
    · exact sbA_le Y c m o (by omega)
def slN (Y : Nat → Int32) (c n : Nat) : Nat → Nat
  | 0 => 0
  | k + 1 => if sbA Y c (slN Y c n k) n = 10 then slN Y c n k else slN Y c n k ||| 2 ^ sbA Y c (slN Y c n k) n
theorem slN_lt (Y : Nat → Int32) (c : Nat) {n : Nat} (hn : n ≤ 10) : ∀ k, slN Y c n k < 1024
  | 0 => by show 0 < 1024; decide
  | k + 1 => by
    have h := sbA_le Y c (slN Y c n k) n hn
    unfold slN
    split
    · exact slN_lt Y c hn k
    · have h2 : 2 ^ sbA Y c (slN Y c n k) n < 2 ^ 10 := Nat.pow_lt_pow_right (by decide) (by omega)
      exact Nat.or_lt_two_pow (n := 10) (slN_lt Y c hn k) h2
def slM (Y : Nat → Int32) (n c : Nat) : Nat := slN Y c n 3
theorem slM_lt (Y : Nat → Int32) (c : Nat) {n : Nat} (hn : n ≤ 10) : slM Y n c < 1024 := slN_lt Y c hn 3
def nmA (Y : Nat → Int32) (n c : Nat) : Nat → Nat
  | 0 => 0
  | o + 1 => nmA Y n c o + (if (slM Y n o).testBit c = true then 1 else 0)
theorem nmA_le (Y : Nat → Int32) (n c : Nat) : ∀ o, nmA Y n c o ≤ o
  | 0 => Nat.le_refl _
  | o + 1 => by
    have := nmA_le Y n c o
    unfold nmA
    split <;> omega
def toldS (Y : Nat → Int32) (n c q : Nat) : Int32 := if q < 6 then Y (7 + 6 * c + q) else if q = 6 then nI (slM Y n c) else nI (nmA Y n c n)
def ex15 (M X : Mm) : Prop := ∀ a, a ≠ 206 → a ≠ 215 → X a = M a
theorem ex15.rf (M : Mm) : ex15 M M := fun _ _ _ => rfl
theorem ex15.up {M X : Mm} (h : ex15 M X) (i : Nat) (v : Int32) : ex15 M (up2 X 215 i v) := fun a h1 h2 => (up2_ne _ _ _ h2).trans (h a h1 h2)
theorem eqM.of15 {M X : Mm} (h : ex15 M X) : eqM 0 M X := ⟨fun a h1 h2 h3 h4 h5 h6 h7 h8 h9 _ => h a h2 h9, congrFun (h 205 (by decide) (by decide)) 3, congrFun (h 205 (by decide) (by decide)) 17, h 209 (by decide) (by decide)⟩

set_option maxHeartbeats 4000000 in
set_option maxRecDepth 100000 in
theorem r_slipOf (l : Launch) (G : GC) (M : Mm) (Y : Nat → Int32) (n : Nat) (hn : Y 0 = nI n) (hn2 : n ≤ 10) (c : Nat) (hc : c < 10) : CP l G 2 yX10_slipOf cX10_slipOf 7 .int [.ref (gb G + 205), .int (nI c)] (upA M 206 Y) (nI (slM Y n c)) := by
  refine Con.of (by decide +kernel) (Nat.le_of_ble_eq_true rfl) ?_
  intro f C hRm hRt _
  have LO : ∀ (kw : Nat) (k : Nat) (m : Nat), 3 - k = kw → k ≤ 3 → m = slN Y c n k → Vc f G NPh (upA M 206 Y) 4 [(3, .int (nI k)), (2, .int (nI m)), (0, .ref (gb G + 205)), (1, .int (nI c))] [] := by
    intro kw
    induction kw using Nat.strongRecOn with
    | _ kw ihLO =>
      intro k m hkw hk hm
      have hm9 : m < 1024 := hm ▸ slN_lt Y c hn2 k
      have LI : ∀ (kk : Nat) (o : Nat) (j : Nat), n - o = kk → k < 3 → o ≤ n → j = sbA Y c m o → Vc f G NPh (upA M 206 Y) 15 [(5, .int (nI o)), (4, .int (bv j)), (3, .int (nI k)), (2, .int (nI m)), (0, .ref (gb G + 205)), (1, .int (nI c))] [] := by
        intro kk
        induction kk using Nat.strongRecOn with
        | _ kk ihLI =>
          intro o j hkk hk3 ho hj
          have hj9 : j ≤ 10 := hj ▸ sbA_le Y c m o (by omega)
          refine v_iload C 0 dX10_slipOf_15 rfl ?_
          refine v_aload_n C 4 dX10_slipOf_17 rfl ?_
          refine g_X10_9 C (by decide) sh_205 dX10_slipOf_18 ?_
          refine v_iconst C (nI 0) dX10_slipOf_21 (by decide) ?_
          refine n_now_ld C (by decide) sh_206 (by omega) (by decide) dX10_slipOf_22 ?_
          refine v_top (nI n) hn ?_
          refine n_icmp_ge C (by omega) (by omega) 100 dX10_slipOf_23 rfl (fun h_23 => ?_) (fun h_23 => ?_)
          · skip
            refine v_iload_n C 3 dX10_slipOf_100 rfl ?_
            refine v_iload C 1 dX10_slipOf_101 rfl ?_
            refine v_if_ge C 110 dX10_slipOf_103 rfl (fun h_103 => ?_) (fun h_103 => ?_)
            · skip
              have hj10 := bv_ge j hj9 h_103
              rw [bv_lt hj10]
              refine v_iconst C (nI 1) dX10_slipOf_110 (by decide) ?_
              refine v_iload C 1 dX10_slipOf_111 rfl ?_
              refine v_ishl C dX10_slipOf_113 ?_
              refine v_ior C dX10_slipOf_114 ?_
              refine v_top (nI (m ||| 2 ^ j)) (by rw [show nI 1 <<< (nI j &&& 31) = sh1 j from rfl, sh1_pow j hj10, nI_or]) ?_
              refine v_istore_n C [(2, .int (nI (m ||| 2 ^ j))), (5, .int (nI o)), (4, .int (nI j)), (3, .int (nI k)), (0, .ref (gb G + 205)), (1, .int (nI c))] dX10_slipOf_115 rfl (by decide) rfl ?_
              refine v_iinc C (nI (k + 1)) 3 [(3, .int (nI (k + 1))), (2, .int (nI (m ||| 2 ^ j))), (5, .int (nI o)), (4, .int (nI j)), (0, .ref (gb G + 205)), (1, .int (nI c))] dX10_slipOf_116 rfl (nI_add _ _) (by decide) rfl ?_
              refine v_goto C 4 dX10_slipOf_119 rfl ?_
              refine v_sub [0, 1, 4, 5] [(3, .int (nI (k + 1))), (2, .int (nI (m ||| 2 ^ j))), (0, .ref (gb G + 205)), (1, .int (nI c))] rfl ?_
              exact ihLO _ (by omega) (k + 1) (m ||| 2 ^ j)  rfl (by omega) (by subst hm; subst hj; (have h5 : o = n := (by omega)); subst h5; simp only [slN]; first | rw [if_pos hj10] | rw [if_neg (by omega)])
            · skip
              have hj10 := bv_nge j hj9 h_103
              refine v_iconst C (nI 0) dX10_slipOf_106 (by decide) ?_
              refine v_goto C 114 dX10_slipOf_107 rfl ?_
              refine v_ior C dX10_slipOf_114 ?_
              refine v_top (nI m) (or_nI0 _) ?_
              refine v_istore_n C [(2, .int (nI m)), (5, .int (nI o)), (4, .int (bv j)), (3, .int (nI k)), (0, .ref (gb G + 205)), (1, .int (nI c))] dX10_slipOf_115 rfl (by decide) rfl ?_
              refine v_iinc C (nI (k + 1)) 3 [(3, .int (nI (k + 1))), (2, .int (nI m)), (5, .int (nI o)), (4, .int (bv j)), (0, .ref (gb G + 205)), (1, .int (nI c))] dX10_slipOf_116 rfl (nI_add _ _) (by decide) rfl ?_
              refine v_goto C 4 dX10_slipOf_119 rfl ?_
              refine v_sub [0, 1, 4, 5] [(3, .int (nI (k + 1))), (2, .int (nI m)), (0, .ref (gb G + 205)), (1, .int (nI c))] rfl ?_
              exact ihLO _ (by omega) (k + 1) m  rfl (by omega) (by subst hm; subst hj; (have h5 : o = n := (by omega)); subst h5; simp only [slN]; first | rw [if_pos hj10] | rw [if_neg (by omega)])
          · skip
            refine v_iload C 0 dX10_slipOf_26 rfl ?_
            refine v_iload_n C 5 dX10_slipOf_28 rfl ?_
            refine n_icmp_eq C (by omega) (by omega) 55 dX10_slipOf_29 rfl (fun h_29 => ?_) (fun h_29 => ?_)
            · skip
              refine v_iconst C (nI 0) dX10_slipOf_55 (by decide) ?_
              refine v_istore C [(6, .int (nI 0)), (5, .int (nI o)), (4, .int (bv j)), (3, .int (nI k)), (2, .int (nI m)), (0, .ref (gb G + 205)), (1, .int (nI c))] dX10_slipOf_56 (by decide) rfl ?_
              refine v_iload C 0 dX10_slipOf_58 rfl ?_
              refine n_if_eq C (by omega) 90 dX10_slipOf_60 rfl (fun _ => ?_) (fun h_60 => absurd h_60 (by decide))
              refine v_iload C 2 dX10_slipOf_90 rfl ?_
              refine v_istore C [(4, .int (bv j)), (6, .int (nI 0)), (5, .int (nI o)), (3, .int (nI k)), (2, .int (nI m)), (0, .ref (gb G + 205)), (1, .int (nI c))] dX10_slipOf_92 (by decide) rfl ?_
              refine v_iinc C (nI (o + 1)) 2 [(5, .int (nI (o + 1))), (4, .int (bv j)), (6, .int (nI 0)), (3, .int (nI k)), (2, .int (nI m)), (0, .ref (gb G + 205)), (1, .int (nI c))] dX10_slipOf_94 rfl (nI_add _ _) (by decide) rfl ?_
              refine v_goto C 15 dX10_slipOf_97 rfl ?_
              refine v_sub [0, 1, 3, 4, 5, 6] [(5, .int (nI (o + 1))), (4, .int (bv j)), (3, .int (nI k)), (2, .int (nI m)), (0, .ref (gb G + 205)), (1, .int (nI c))] rfl ?_
              exact ihLI _ (by omega) (o + 1) j  rfl (by exact hk3) (by omega) (by subst hj; simp only [sbA]; rw [if_neg (fun q => by first | exact q.1.1 h_29 | exact q.1.2.1 h_38 | exact q.1.2.2 h_48 | (rcases q.2 with q2 | q2; omega; exact q2 h_82))])
            · skip
              refine v_iload_n C 3 dX10_slipOf_32 rfl ?_
              refine v_iload C 0 dX10_slipOf_33 rfl ?_
              refine n_callSp C hRm [.int (nI m), .int (nI o)] cw_X10_hasBit st_X10_hasBit ml_X10_127 (r_hasBitN l G (upA M 206 Y) m o hm9 (by omega)) (by decide) rfl rfl (Nat.le_of_ble_eq_true rfl) dX10_slipOf_35 ?_
              refine nb_if_ne C 55 dX10_slipOf_38 rfl (fun h_38 => ?_) (fun h_38 => ?_)
              · skip
                refine v_iconst C (nI 0) dX10_slipOf_55 (by decide) ?_
                refine v_istore C [(6, .int (nI 0)), (5, .int (nI o)), (4, .int (bv j)), (3, .int (nI k)), (2, .int (nI m)), (0, .ref (gb G + 205)), (1, .int (nI c))] dX10_slipOf_56 (by decide) rfl ?_
                refine v_iload C 0 dX10_slipOf_58 rfl ?_
                refine n_if_eq C (by omega) 90 dX10_slipOf_60 rfl (fun _ => ?_) (fun h_60 => absurd h_60 (by decide))
                refine v_iload C 2 dX10_slipOf_90 rfl ?_
                refine v_istore C [(4, .int (bv j)), (6, .int (nI 0)), (5, .int (nI o)), (3, .int (nI k)), (2, .int (nI m)), (0, .ref (gb G + 205)), (1, .int (nI c))] dX10_slipOf_92 (by decide) rfl ?_
                refine v_iinc C (nI (o + 1)) 2 [(5, .int (nI (o + 1))), (4, .int (bv j)), (6, .int (nI 0)), (3, .int (nI k)), (2, .int (nI m)), (0, .ref (gb G + 205)), (1, .int (nI c))] dX10_slipOf_94 rfl (nI_add _ _) (by decide) rfl ?_
                refine v_goto C 15 dX10_slipOf_97 rfl ?_
                refine v_sub [0, 1, 3, 4, 5, 6] [(5, .int (nI (o + 1))), (4, .int (bv j)), (3, .int (nI k)), (2, .int (nI m)), (0, .ref (gb G + 205)), (1, .int (nI c))] rfl ?_
                exact ihLI _ (by omega) (o + 1) j  rfl (by exact hk3) (by omega) (by subst hj; simp only [sbA]; rw [if_neg (fun q => by first | exact q.1.1 h_29 | exact q.1.2.1 h_38 | exact q.1.2.2 h_48 | (rcases q.2 with q2 | q2; omega; exact q2 h_82))])
              · skip
                refine v_aload_n C 4 dX10_slipOf_41 rfl ?_
                refine v_iload_n C 5 dX10_slipOf_42 rfl ?_
                refine v_iload C 0 dX10_slipOf_43 rfl ?_
                refine n_callVp C hRm [.int (nI c), .int (nI o)] cw_X10_likesOf ml_X10_130 (by decide) sh_205 (by decide) rfl (r_likesOf l G M Y c o (by omega)) (by decide) rfl rfl (Nat.le_of_ble_eq_true rfl) dX10_slipOf_45 ?_
                refine v_if_le C 55 dX10_slipOf_48 rfl (fun h_48 => ?_) (fun h_48 => ?_)
                · skip
                  refine v_iconst C (nI 0) dX10_slipOf_55 (by decide) ?_
                  refine v_istore C [(6, .int (nI 0)), (5, .int (nI o)), (4, .int (bv j)), (3, .int (nI k)), (2, .int (nI m)), (0, .ref (gb G + 205)), (1, .int (nI c))] dX10_slipOf_56 (by decide) rfl ?_
                  refine v_iload C 0 dX10_slipOf_58 rfl ?_
                  refine n_if_eq C (by omega) 90 dX10_slipOf_60 rfl (fun _ => ?_) (fun h_60 => absurd h_60 (by decide))
                  refine v_iload C 2 dX10_slipOf_90 rfl ?_
                  refine v_istore C [(4, .int (bv j)), (6, .int (nI 0)), (5, .int (nI o)), (3, .int (nI k)), (2, .int (nI m)), (0, .ref (gb G + 205)), (1, .int (nI c))] dX10_slipOf_92 (by decide) rfl ?_
                  refine v_iinc C (nI (o + 1)) 2 [(5, .int (nI (o + 1))), (4, .int (bv j)), (6, .int (nI 0)), (3, .int (nI k)), (2, .int (nI m)), (0, .ref (gb G + 205)), (1, .int (nI c))] dX10_slipOf_94 rfl (nI_add _ _) (by decide) rfl ?_
                  refine v_goto C 15 dX10_slipOf_97 rfl ?_
                  refine v_sub [0, 1, 3, 4, 5, 6] [(5, .int (nI (o + 1))), (4, .int (bv j)), (3, .int (nI k)), (2, .int (nI m)), (0, .ref (gb G + 205)), (1, .int (nI c))] rfl ?_
                  exact ihLI _ (by omega) (o + 1) j  rfl (by exact hk3) (by omega) (by subst hj; simp only [sbA]; rw [if_neg (fun q => by first | exact q.1.1 h_29 | exact q.1.2.1 h_38 | exact q.1.2.2 h_48 | (rcases q.2 with q2 | q2; omega; exact q2 h_82))])
                · skip
                  refine v_iconst C (nI 1) dX10_slipOf_51 (by decide) ?_
                  refine v_goto C 56 dX10_slipOf_52 rfl ?_
                  refine v_istore C [(6, .int (nI 1)), (5, .int (nI o)), (4, .int (bv j)), (3, .int (nI k)), (2, .int (nI m)), (0, .ref (gb G + 205)), (1, .int (nI c))] dX10_slipOf_56 (by decide) rfl ?_
                  refine v_iload C 0 dX10_slipOf_58 rfl ?_
                  refine n_if_eq C (by omega) 90 dX10_slipOf_60 rfl (fun h_60 => absurd h_60 (by decide)) (fun _ => ?_)
                  refine v_iload C 2 dX10_slipOf_63 rfl ?_
                  refine v_if_lt C 85 dX10_slipOf_65 rfl (fun h_65 => ?_) (fun h_65 => ?_)
                  · skip
                    have hj10 := bv_neg j hj9 h_65
                    refine v_iload C 1 dX10_slipOf_85 rfl ?_
                    refine v_goto C 92 dX10_slipOf_87 rfl ?_
                    refine v_istore C [(4, .int (nI o)), (6, .int (nI 1)), (5, .int (nI o)), (3, .int (nI k)), (2, .int (nI m)), (0, .ref (gb G + 205)), (1, .int (nI c))] dX10_slipOf_92 (by decide) rfl ?_
                    refine v_iinc C (nI (o + 1)) 2 [(5, .int (nI (o + 1))), (4, .int (nI o)), (6, .int (nI 1)), (3, .int (nI k)), (2, .int (nI m)), (0, .ref (gb G + 205)), (1, .int (nI c))] dX10_slipOf_94 rfl (nI_add _ _) (by decide) rfl ?_
                    refine v_goto C 15 dX10_slipOf_97 rfl ?_
                    refine v_sub [0, 1, 3, 4, 5, 6] [(5, .int (nI (o + 1))), (4, .int (nI o)), (3, .int (nI k)), (2, .int (nI m)), (0, .ref (gb G + 205)), (1, .int (nI c))] rfl ?_
                    rw [← bv_lt (show o < 10 by omega)]
                    exact ihLI _ (by omega) (o + 1) o  rfl (by exact hk3) (by omega) (by subst hj; simp only [sbA]; rw [if_pos ⟨⟨h_29, h_38, h_48⟩, by first | exact Or.inl hj10 | exact Or.inr h_82⟩])
                  · skip
                    have hj10 := bv_nn j hj9 h_65
                    rw [bv_lt hj10]
                    refine v_aload_n C 5 dX10_slipOf_68 rfl ?_
                    refine v_iload_n C 6 dX10_slipOf_69 rfl ?_
                    refine v_iload C 1 dX10_slipOf_70 rfl ?_
                    refine n_callVp C hRm [.int (nI c), .int (nI o)] cw_X10_likesOf ml_X10_130 (by decide) sh_205 (by decide) rfl (r_likesOf l G M Y c o (by omega)) (by decide) rfl rfl (Nat.le_of_ble_eq_true rfl) dX10_slipOf_72 ?_
                    refine v_aload_n C 5 dX10_slipOf_75 rfl ?_
                    refine v_iload_n C 6 dX10_slipOf_76 rfl ?_
                    refine v_iload C 2 dX10_slipOf_77 rfl ?_
                    refine n_callVp C hRm [.int (nI c), .int (nI j)] cw_X10_likesOf ml_X10_130 (by decide) sh_205 (by decide) rfl (r_likesOf l G M Y c j (by omega)) (by decide) rfl rfl (Nat.le_of_ble_eq_true rfl) dX10_slipOf_79 ?_
                    refine v_icmp_le C 90 dX10_slipOf_82 rfl (fun h_82 => ?_) (fun h_82 => ?_)
                    · skip
                      refine v_iload C 2 dX10_slipOf_90 rfl ?_
                      refine v_istore C [(4, .int (nI j)), (6, .int (nI 1)), (5, .int (nI o)), (3, .int (nI k)), (2, .int (nI m)), (0, .ref (gb G + 205)), (1, .int (nI c))] dX10_slipOf_92 (by decide) rfl ?_
                      refine v_iinc C (nI (o + 1)) 2 [(5, .int (nI (o + 1))), (4, .int (nI j)), (6, .int (nI 1)), (3, .int (nI k)), (2, .int (nI m)), (0, .ref (gb G + 205)), (1, .int (nI c))] dX10_slipOf_94 rfl (nI_add _ _) (by decide) rfl ?_
                      refine v_goto C 15 dX10_slipOf_97 rfl ?_
                      refine v_sub [0, 1, 3, 4, 5, 6] [(5, .int (nI (o + 1))), (4, .int (nI j)), (3, .int (nI k)), (2, .int (nI m)), (0, .ref (gb G + 205)), (1, .int (nI c))] rfl ?_
                      rw [← bv_lt (show j < 10 by omega)]
                      exact ihLI _ (by omega) (o + 1) j  rfl (by exact hk3) (by omega) (by subst hj; simp only [sbA]; rw [if_neg (fun q => by first | exact q.1.1 h_29 | exact q.1.2.1 h_38 | exact q.1.2.2 h_48 | (rcases q.2 with q2 | q2; omega; exact q2 h_82))])
                    · skip
                      refine v_iload C 1 dX10_slipOf_85 rfl ?_
                      refine v_goto C 92 dX10_slipOf_87 rfl ?_
                      refine v_istore C [(4, .int (nI o)), (6, .int (nI 1)), (5, .int (nI o)), (3, .int (nI k)), (2, .int (nI m)), (0, .ref (gb G + 205)), (1, .int (nI c))] dX10_slipOf_92 (by decide) rfl ?_
                      refine v_iinc C (nI (o + 1)) 2 [(5, .int (nI (o + 1))), (4, .int (nI o)), (6, .int (nI 1)), (3, .int (nI k)), (2, .int (nI m)), (0, .ref (gb G + 205)), (1, .int (nI c))] dX10_slipOf_94 rfl (nI_add _ _) (by decide) rfl ?_
                      refine v_goto C 15 dX10_slipOf_97 rfl ?_
                      refine v_sub [0, 1, 3, 4, 5, 6] [(5, .int (nI (o + 1))), (4, .int (nI o)), (3, .int (nI k)), (2, .int (nI m)), (0, .ref (gb G + 205)), (1, .int (nI c))] rfl ?_
                      rw [← bv_lt (show o < 10 by omega)]
                      exact ihLI _ (by omega) (o + 1) o  rfl (by exact hk3) (by omega) (by subst hj; simp only [sbA]; rw [if_pos ⟨⟨h_29, h_38, h_48⟩, by first | exact Or.inl hj10 | exact Or.inr h_82⟩])
      refine v_iload_n C 0 dX10_slipOf_4 rfl ?_
      refine v_iconst C (nI 3) dX10_slipOf_5 (by decide) ?_
      refine n_icmp_ge C (by omega) (by omega) 122 dX10_slipOf_6 rfl (fun h_6 => ?_) (fun h_6 => ?_)
      · skip
        refine v_iload_n C 1 dX10_slipOf_122 rfl ?_
        (have h5 : k = 3 := (by omega)); subst h5; subst hm
        exact n_iret C hRt rfl dX10_slipOf_123 rfl rfl
      · skip
        refine v_iconst C (-1) dX10_slipOf_9 (by decide) ?_
        refine v_istore C [(4, .int (-1)), (3, .int (nI k)), (2, .int (nI m)), (0, .ref (gb G + 205)), (1, .int (nI c))] dX10_slipOf_10 (by decide) rfl ?_
        refine v_iconst C (nI 0) dX10_slipOf_12 (by decide) ?_
        refine v_istore C [(5, .int (nI 0)), (4, .int (-1)), (3, .int (nI k)), (2, .int (nI m)), (0, .ref (gb G + 205)), (1, .int (nI c))] dX10_slipOf_13 (by decide) rfl ?_
        refine v_sub [0, 1, 2, 3, 4, 5] [(5, .int (nI 0)), (4, .int (-1)), (3, .int (nI k)), (2, .int (nI m)), (0, .ref (gb G + 205)), (1, .int (nI c))] rfl ?_
        exact LI _ 0 10 rfl (by omega) (by omega) (by rfl)
  show Vc f G NPh (upA M 206 Y) 0 [(0, .ref (gb G + 205)), (1, .int (nI c))] []
  refine v_iconst C (nI 0) dX10_slipOf_0 (by decide) ?_
  refine v_istore_n C [(2, .int (nI 0)), (0, .ref (gb G + 205)), (1, .int (nI c))] dX10_slipOf_1 rfl (by decide) rfl ?_
  refine v_iconst C (nI 0) dX10_slipOf_2 (by decide) ?_
  refine v_istore_n C [(3, .int (nI 0)), (2, .int (nI 0)), (0, .ref (gb G + 205)), (1, .int (nI c))] dX10_slipOf_3 rfl (by decide) rfl ?_
  refine v_sub [0, 1, 2, 3] [(3, .int (nI 0)), (2, .int (nI 0)), (0, .ref (gb G + 205)), (1, .int (nI c))] rfl ?_
  exact LO _ 0 0  rfl (by omega) (by rfl)
set_option maxHeartbeats 4000000 in
set_option maxRecDepth 100000 in
theorem r_namedOf (l : Launch) (G : GC) (M : Mm) (Y : Nat → Int32) (n : Nat) (hn : Y 0 = nI n) (hn2 : n ≤ 10) (c : Nat) (hc : c < 10) : CP l G 3 yX10_namedOf cX10_namedOf 4 .int [.ref (gb G + 205), .int (nI c)] (upA M 206 Y) (nI (nmA Y n c n)) := by
  refine Con.of (by decide +kernel) (Nat.le_of_ble_eq_true rfl) ?_
  intro f C hRm hRt _
  have LN : ∀ (kk : Nat) (o : Nat) (a : Nat), n - o = kk → o ≤ n → a = nmA Y n c o → Vc f G NPh (upA M 206 Y) 4 [(3, .int (nI o)), (2, .int (nI a)), (0, .ref (gb G + 205)), (1, .int (nI c))] [] := by
    intro kk
    induction kk using Nat.strongRecOn with
    | _ kk ihLN =>
      intro o a hkk ho ha
      refine v_iload_n C 0 dX10_namedOf_4 rfl ?_
      refine v_aload_n C 2 dX10_namedOf_5 rfl ?_
      refine g_X10_9 C (by decide) sh_205 dX10_namedOf_6 ?_
      refine v_iconst C (nI 0) dX10_namedOf_9 (by decide) ?_
      refine n_now_ld C (by decide) sh_206 (by omega) (by decide) dX10_namedOf_10 ?_
      refine v_top (nI n) hn ?_
      refine n_icmp_ge C (by omega) (by omega) 40 dX10_namedOf_11 rfl (fun h_11 => ?_) (fun h_11 => ?_)
      · skip
        refine v_iload_n C 1 dX10_namedOf_40 rfl ?_
        (have h5 : o = n := (by omega)); subst h5; subst ha
        exact n_iret C hRt rfl dX10_namedOf_41 rfl rfl
      · skip
        refine v_iload_n C 1 dX10_namedOf_14 rfl ?_
        refine v_aload_n C 2 dX10_namedOf_15 rfl ?_
        refine v_iload_n C 0 dX10_namedOf_16 rfl ?_
        refine n_callVp C hRm [.int (nI o)] cw_X10_slipOf ml_X10_89 (by decide) sh_205 (by decide) rfl (r_slipOf l G M Y n hn hn2 o (by omega)) (by decide) rfl rfl (Nat.le_of_ble_eq_true rfl) dX10_namedOf_17 ?_
        refine v_iload_n C 3 dX10_namedOf_20 rfl ?_
        refine n_callSp C hRm [.int (nI (slM Y n o)), .int (nI c)] cw_X10_hasBit st_X10_hasBit ml_X10_127 (r_hasBitN l G (upA M 206 Y) (slM Y n o) c (slM_lt Y o hn2) (by omega)) (by decide) rfl rfl (Nat.le_of_ble_eq_true rfl) dX10_namedOf_21 ?_
        refine nb_if_eq C 31 dX10_namedOf_24 rfl (fun h_24 => ?_) (fun h_24 => ?_)
        · skip
          refine v_iconst C (nI 0) dX10_namedOf_31 (by decide) ?_
          refine n_iadd C dX10_namedOf_32 ?_
          refine v_istore_n C [(2, .int (nI (a + 0))), (3, .int (nI o)), (0, .ref (gb G + 205)), (1, .int (nI c))] dX10_namedOf_33 rfl (by decide) rfl ?_
          refine v_iinc C (nI (o + 1)) 1 [(3, .int (nI (o + 1))), (2, .int (nI (a + 0))), (0, .ref (gb G + 205)), (1, .int (nI c))] dX10_namedOf_34 rfl (nI_add _ _) (by decide) rfl ?_
          refine v_goto C 4 dX10_namedOf_37 rfl ?_
          refine v_sub [0, 1, 2, 3] [(3, .int (nI (o + 1))), (2, .int (nI (a + 0))), (0, .ref (gb G + 205)), (1, .int (nI c))] rfl ?_
          exact ihLN _ (by omega) (o + 1) (a + 0)  rfl (by omega) (by subst ha; simp only [nmA]; first | rw [if_pos h_24] | rw [if_neg h_24])
        · skip
          refine v_iconst C (nI 1) dX10_namedOf_27 (by decide) ?_
          refine v_goto C 32 dX10_namedOf_28 rfl ?_
          refine n_iadd C dX10_namedOf_32 ?_
          refine v_istore_n C [(2, .int (nI (a + 1))), (3, .int (nI o)), (0, .ref (gb G + 205)), (1, .int (nI c))] dX10_namedOf_33 rfl (by decide) rfl ?_
          refine v_iinc C (nI (o + 1)) 1 [(3, .int (nI (o + 1))), (2, .int (nI (a + 1))), (0, .ref (gb G + 205)), (1, .int (nI c))] dX10_namedOf_34 rfl (nI_add _ _) (by decide) rfl ?_
          refine v_goto C 4 dX10_namedOf_37 rfl ?_
          refine v_sub [0, 1, 2, 3] [(3, .int (nI (o + 1))), (2, .int (nI (a + 1))), (0, .ref (gb G + 205)), (1, .int (nI c))] rfl ?_
          exact ihLN _ (by omega) (o + 1) (a + 1)  rfl (by omega) (by subst ha; simp only [nmA]; first | rw [if_pos h_24] | rw [if_neg h_24])
  show Vc f G NPh (upA M 206 Y) 0 [(0, .ref (gb G + 205)), (1, .int (nI c))] []
  refine v_iconst C (nI 0) dX10_namedOf_0 (by decide) ?_
  refine v_istore_n C [(2, .int (nI 0)), (0, .ref (gb G + 205)), (1, .int (nI c))] dX10_namedOf_1 rfl (by decide) rfl ?_
  refine v_iconst C (nI 0) dX10_namedOf_2 (by decide) ?_
  refine v_istore_n C [(3, .int (nI 0)), (2, .int (nI 0)), (0, .ref (gb G + 205)), (1, .int (nI c))] dX10_namedOf_3 rfl (by decide) rfl ?_
  refine v_sub [0, 1, 2, 3] [(3, .int (nI 0)), (2, .int (nI 0)), (0, .ref (gb G + 205)), (1, .int (nI c))] rfl ?_
  exact LN _ 0 0  rfl (by omega) (by rfl)
set_option maxHeartbeats 4000000 in
set_option maxRecDepth 100000 in
theorem r_childTold (l : Launch) (G : GC) (M : Mm) (Y : Nat → Int32) (n : Nat) (hn : Y 0 = nI n) (hn2 : n ≤ 10) (c q : Nat) (hc : c < 10) (hq : q ≤ 7) : CP l G 4 yX10_childTold cX10_childTold 3 .int [.ref (gb G + 205), .int (nI c), .int (nI q)] (upA M 206 Y) (toldS Y n c q) := by
  refine Con.of (by decide +kernel) (Nat.le_of_ble_eq_true rfl) ?_
  intro f C hRm hRt _
  show Vc f G NPh (upA M 206 Y) 0 [(0, .ref (gb G + 205)), (1, .int (nI c)), (2, .int (nI q))] []
  refine v_iload_n C 2 dX10_childTold_0 rfl ?_
  refine v_bipush C (nI 6) dX10_childTold_1 (by decide) ?_
  refine n_icmp_ge C (by omega) (by omega) 15 dX10_childTold_3 rfl (fun h_3 => ?_) (fun h_3 => ?_)
  · skip
    refine v_iload_n C 2 dX10_childTold_15 rfl ?_
    refine v_bipush C (nI 6) dX10_childTold_16 (by decide) ?_
    refine n_icmp_ne C (by omega) (by omega) 29 dX10_childTold_18 rfl (fun h_18 => ?_) (fun h_18 => ?_)
    · skip
      refine v_aload_n C 0 dX10_childTold_29 rfl ?_
      refine v_iload_n C 1 dX10_childTold_30 rfl ?_
      refine n_callVp C hRm [.int (nI c)] cw_X10_namedOf ml_X10_92 (by decide) sh_205 (by decide) rfl (r_namedOf l G M Y n hn hn2 c (by omega)) (by decide) rfl rfl (Nat.le_of_ble_eq_true rfl) dX10_childTold_31 ?_
      exact n_iret C hRt rfl dX10_childTold_34 (by unfold toldS; first | rw [if_pos (by omega)] | rw [if_neg (by omega), if_pos (by omega)] | rw [if_neg (by omega), if_neg (by omega)]) rfl
    · skip
      refine v_aload_n C 0 dX10_childTold_21 rfl ?_
      refine v_iload_n C 1 dX10_childTold_22 rfl ?_
      refine n_callVp C hRm [.int (nI c)] cw_X10_slipOf ml_X10_89 (by decide) sh_205 (by decide) rfl (r_slipOf l G M Y n hn hn2 c (by omega)) (by decide) rfl rfl (Nat.le_of_ble_eq_true rfl) dX10_childTold_23 ?_
      refine v_goto C 34 dX10_childTold_26 rfl ?_
      exact n_iret C hRt rfl dX10_childTold_34 (by unfold toldS; first | rw [if_pos (by omega)] | rw [if_neg (by omega), if_pos (by omega)] | rw [if_neg (by omega), if_neg (by omega)]) rfl
  · skip
    refine v_aload_n C 0 dX10_childTold_6 rfl ?_
    refine v_iload_n C 1 dX10_childTold_7 rfl ?_
    refine v_iload_n C 2 dX10_childTold_8 rfl ?_
    refine n_callVp C hRm [.int (nI c), .int (nI q)] cw_X10_of ml_X10_86 (by decide) sh_205 (by decide) rfl (r_of l G M Y c q (by omega)) (by decide) rfl rfl (Nat.le_of_ble_eq_true rfl) dX10_childTold_9 ?_
    refine v_goto C 34 dX10_childTold_12 rfl ?_
    exact n_iret C hRt rfl dX10_childTold_34 (by unfold toldS; first | rw [if_pos (by omega)] | rw [if_neg (by omega), if_pos (by omega)] | rw [if_neg (by omega), if_neg (by omega)]) rfl
def childIsS (Y : Nat → Int32) (n : Nat) (child what : Int32) : O3 := if nI 0 ≤ child ∧ child ≤ Y 0 - nI 1 then (if nI 0 ≤ what ∧ what ≤ nI 7 then (0, toldS Y n child.toNatClampNeg what.toNatClampNeg, Y) else er 1 Y) else er 1 Y
set_option maxHeartbeats 4000000 in
set_option maxRecDepth 100000 in
theorem r_childIs (l : Launch) (G : GC) (M : Mm) (Y : Nat → Int32) (n hN : Nat) (hY : YOk Y n hN) (child what : Int32) : CI l G 5 yX10_childIs cX10_childIs 3 .int [.ref (gb G + 205), .int child, .int what] (upA M 206 Y) ((childIsS Y n child what).2.1) (PubR M (childIsS Y n child what).2.2 (childIsS Y n child what).1) := by
  refine Con.of (by decide +kernel) (Nat.le_of_ble_eq_true rfl) ?_
  intro f C hRm hRt _
  show Vc f G NPh (upA M 206 Y) 0 [(0, .ref (gb G + 205)), (1, .int child), (2, .int what)] []
  have h10 := hY.1.2.1
  have h5N := hY.1.2.2.2
  refine v_aload_n C 0 dX10_childIs_0 rfl ?_
  refine v_iload_n C 1 dX10_childIs_1 rfl ?_
  refine v_iconst C (nI 0) dX10_childIs_2 (by decide) ?_
  refine n_callVp C hRm [.int child, .int (nI 0)] cw_X10_is ml_X10_95 (by decide) sh_205 (by decide) rfl (r_is l G M Y child 0 (by decide)) (by decide) rfl rfl (Nat.le_of_ble_eq_true rfl) dX10_childIs_3 ?_
  refine nb_if_eq C 28 dX10_childIs_6 rfl (fun h_6 => ?_) (fun h_6 => ?_)
  · skip
    refine v_aload_n C 0 dX10_childIs_28 rfl ?_
    refine v_ldc C (-1000001) kc_X10_80 dX10_childIs_29 ?_
    refine n_callVi C hRm [.int (-1000001)] cw_X10_finding ml_X10_81 (by decide) sh_205 (by decide) rfl (r_finding l G (upA M 206 Y) 1 (by decide) (-1000001) (by decide)) (by decide) rfl rfl (Nat.le_of_ble_eq_true rfl) dX10_childIs_31 (fun M5 hP_31 => ?_)
    subst hP_31
    refine v_mem (upA (fndM M 1) 206 Y) (fnd_upA _ _ _) ?_
    have hS : childIsS Y n child what = er 1 Y := by unfold childIsS; (try rw [nI_clamp (by omega)]); (try rw [nI_clamp (by omega)]); (first | rw [if_pos h_6] | rw [if_neg h_6] | rw [if_pos (congrArg nI h_6)] | rw [if_neg (fun q9 => h_6 ((nI_eq (by omega) (by omega)).mp q9))] | rw [if_neg (Nat.not_le.mpr h_6)] | rw [if_neg (Nat.not_lt.mpr h_6)] | skip); all_goals rfl
    exact n_iret C hRt rfl dX10_childIs_34 (by rw [hS] <;> rfl) (by rw [hS]; exact ⟨_, rfl, (eqM.rf M).tr (eqM.fnd _ (show (1 : Nat) ≠ 0 by decide))⟩)
  · skip
    obtain ⟨c, hc, rfl⟩ := is_nat hY.1.1 hY.1.2.1 h_6
    refine v_iload_n C 2 dX10_childIs_9 rfl ?_
    refine v_iconst C (nI 0) dX10_childIs_10 (by decide) ?_
    refine v_bipush C (nI 7) dX10_childIs_11 (by decide) ?_
    refine n_callSp C hRm [.int what, .int (nI 0), .int (nI 7)] cw_X10_within st_X10_within ml_X10_72 (r_within l G (upA M 206 Y) what (nI 0) (nI 7)) (by decide) rfl rfl (Nat.le_of_ble_eq_true rfl) dX10_childIs_13 ?_
    refine nb_if_eq C 28 dX10_childIs_16 rfl (fun h_16 => ?_) (fun h_16 => ?_)
    · skip
      refine v_aload_n C 0 dX10_childIs_28 rfl ?_
      refine v_ldc C (-1000001) kc_X10_80 dX10_childIs_29 ?_
      refine n_callVi C hRm [.int (-1000001)] cw_X10_finding ml_X10_81 (by decide) sh_205 (by decide) rfl (r_finding l G (upA M 206 Y) 1 (by decide) (-1000001) (by decide)) (by decide) rfl rfl (Nat.le_of_ble_eq_true rfl) dX10_childIs_31 (fun M5 hP_31 => ?_)
      subst hP_31
      refine v_mem (upA (fndM M 1) 206 Y) (fnd_upA _ _ _) ?_
      have hS : childIsS Y n (nI c) what = er 1 Y := by unfold childIsS; (try rw [nI_clamp (by omega)]); (try rw [nI_clamp (by omega)]); (first | rw [if_pos h_6] | rw [if_neg h_6] | rw [if_pos (congrArg nI h_6)] | rw [if_neg (fun q9 => h_6 ((nI_eq (by omega) (by omega)).mp q9))] | rw [if_neg (Nat.not_le.mpr h_6)] | rw [if_neg (Nat.not_lt.mpr h_6)] | skip); (first | rw [if_pos h_16] | rw [if_neg h_16] | rw [if_pos (congrArg nI h_16)] | rw [if_neg (fun q9 => h_16 ((nI_eq (by omega) (by omega)).mp q9))] | rw [if_neg (Nat.not_le.mpr h_16)] | rw [if_neg (Nat.not_lt.mpr h_16)] | skip); all_goals rfl
      exact n_iret C hRt rfl dX10_childIs_34 (by rw [hS] <;> rfl) (by rw [hS]; exact ⟨_, rfl, (eqM.rf M).tr (eqM.fnd _ (show (1 : Nat) ≠ 0 by decide))⟩)
    · skip
      obtain ⟨q, hq, rfl⟩ := within_nat (by decide) h_16
      refine v_aload_n C 0 dX10_childIs_19 rfl ?_
      refine v_iload_n C 1 dX10_childIs_20 rfl ?_
      refine v_iload_n C 2 dX10_childIs_21 rfl ?_
      refine n_callVp C hRm [.int (nI c), .int (nI q)] cw_X10_childTold ml_X10_99 (by decide) sh_205 (by decide) rfl (r_childTold l G M Y n hY.1.1 hY.1.2.1 c q (by omega) (by omega)) (by decide) rfl rfl (Nat.le_of_ble_eq_true rfl) dX10_childIs_22 ?_
      refine v_goto C 34 dX10_childIs_25 rfl ?_
      have hS : childIsS Y n (nI c) (nI q) = (0, toldS Y n c q, Y) := by unfold childIsS; (try rw [nI_clamp (by omega)]); (try rw [nI_clamp (by omega)]); (first | rw [if_pos h_6] | rw [if_neg h_6] | rw [if_pos (congrArg nI h_6)] | rw [if_neg (fun q9 => h_6 ((nI_eq (by omega) (by omega)).mp q9))] | rw [if_neg (Nat.not_le.mpr h_6)] | rw [if_neg (Nat.not_lt.mpr h_6)] | skip); (first | rw [if_pos h_16] | rw [if_neg h_16] | rw [if_pos (congrArg nI h_16)] | rw [if_neg (fun q9 => h_16 ((nI_eq (by omega) (by omega)).mp q9))] | rw [if_neg (Nat.not_le.mpr h_16)] | rw [if_neg (Nat.not_lt.mpr h_16)] | skip); all_goals rfl
      exact n_iret C hRt rfl dX10_childIs_34 (by rw [hS] <;> rfl) (by rw [hS]; exact ⟨_, rfl, eqM.rf M⟩)
