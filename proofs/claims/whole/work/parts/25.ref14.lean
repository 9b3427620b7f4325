theorem sh1m : ∀ c, c < 10 → sh1 c - nI 1 = nI (2 ^ c - 1) := by decide +kernel
def rngA (Y : Nat → Int32) (n : Nat) : Nat → Nat
  | 0 => 0
  | c + 1 => rngA Y n c + (if ringM Y n c &&& (2 ^ c - 1) = 0 then 1 else 0)
def parA (Y : Nat → Int32) (n : Nat) : Nat → Nat
  | 0 => 0
  | c + 1 => parA Y n c + popN (bothM Y n c)
def mosA (Y : Nat → Int32) (n : Nat) : Nat → Int32
  | 0 => nI 0
  | c + 1 => maxS (mosA Y n c) (nI (nmA Y n c n))
def outA (Y : Nat → Int32) (n : Nat) : Nat → Nat
  | 0 => 0
  | c + 1 => outA Y n c + (if nmA Y n c n = 0 ∧ Y (7 + 6 * c + 3) = nI 1 then 2 ^ c else 0)
theorem outA_lt (Y : Nat → Int32) (n : Nat) : ∀ o, outA Y n o < 2 ^ o
  | 0 => Nat.zero_lt_one
  | o + 1 => by
    have h1 := outA_lt Y n o
    have h2 : 2 ^ (o + 1) = 2 ^ o + 2 ^ o := by rw [Nat.pow_succ]; omega
    unfold outA
    split <;> omega
def netS (Y : Nat → Int32) (n : Nat) (what : Int32) : O3 := if nI 0 ≤ what ∧ what ≤ nI 3 then (if what = 0 then (0, nI (rngA Y n n), Y) else if what = nI 1 then (0, nI (parA Y n n) / nI 2, Y) else if what = nI 2 then (0, mosA Y n n, Y) else (0, nI (outA Y n n), Y)) else er 1 Y
set_option maxHeartbeats 4000000 in
set_option maxRecDepth 100000 in
theorem r_net (l : Launch) (G : GC) (M : Mm) (Y : Nat → Int32) (n hN : Nat) (hY : YOk Y n hN) (what : Int32) : CI l G 4 yX10_net cX10_net 8 .int [.ref (gb G + 205), .int what] (upA M 206 Y) ((netS Y n what).2.1) (PubR M (netS Y n what).2.2 (netS Y n what).1) := by
  refine Con.of (by decide +kernel) (Nat.le_of_ble_eq_true rfl) ?_
  intro f C hRm hRt _
  have h10 := hY.1.2.1
  have h5N := hY.1.2.2.2
  show Vc f G NPh (upA M 206 Y) 0 [(0, .ref (gb G + 205)), (1, .int what)] []
  refine v_iload_n C 1 dX10_net_0 rfl ?_
  refine v_iconst C (nI 0) dX10_net_1 (by decide) ?_
  refine v_iconst C (nI 3) dX10_net_2 (by decide) ?_
  refine n_callSp C hRm [.int what, .int (nI 0), .int (nI 3)] cw_X10_within st_X10_within ml_X10_72 (r_within l G (upA M 206 Y) what (nI 0) (nI 3)) (by decide) rfl rfl (Nat.le_of_ble_eq_true rfl) dX10_net_3 ?_
  refine nb_if_ne C 16 dX10_net_6 rfl (fun h_6 => ?_) (fun h_6 => ?_)
  · skip
    refine v_aload_n C 0 dX10_net_16 rfl ?_
    refine n_callVv C hRm [] cw_X10_findSlips ml_X10_261 (by decide) sh_205 (by decide) rfl (r_findSlips l G M Y n hY.1.1 hY.1.2.1) (by decide) rfl rfl (Nat.le_of_ble_eq_true rfl) dX10_net_17 (fun M5 hP_17 => ?_)
    obtain ⟨X7, rfl, hX7, hsl⟩ := hP_17
    refine v_iconst C (nI 0) dX10_net_20 (by decide) ?_
    refine v_istore_n C [(2, .int (nI 0)), (0, .ref (gb G + 205)), (1, .int what)] dX10_net_21 rfl (by decide) rfl ?_
    refine v_iconst C (nI 0) dX10_net_22 (by decide) ?_
    refine v_istore_n C [(3, .int (nI 0)), (2, .int (nI 0)), (0, .ref (gb G + 205)), (1, .int what)] dX10_net_23 rfl (by decide) rfl ?_
    refine v_iconst C (nI 0) dX10_net_24 (by decide) ?_
    refine v_istore C [(4, .int (nI 0)), (3, .int (nI 0)), (2, .int (nI 0)), (0, .ref (gb G + 205)), (1, .int what)] dX10_net_25 (by decide) rfl ?_
    refine v_iconst C (nI 0) dX10_net_27 (by decide) ?_
    refine v_istore C [(5, .int (nI 0)), (4, .int (nI 0)), (3, .int (nI 0)), (2, .int (nI 0)), (0, .ref (gb G + 205)), (1, .int what)] dX10_net_28 (by decide) rfl ?_
    refine v_iconst C (nI 0) dX10_net_30 (by decide) ?_
    refine v_istore C [(6, .int (nI 0)), (5, .int (nI 0)), (4, .int (nI 0)), (3, .int (nI 0)), (2, .int (nI 0)), (0, .ref (gb G + 205)), (1, .int what)] dX10_net_31 (by decide) rfl ?_
    have LN : ∀ (kk : Nat) (c : Nat) (r : Nat) (a : Nat) (b : Int32) (t : Nat), n - c = kk → c ≤ n → r = rngA Y n c → a = parA Y n c → b = mosA Y n c → t = outA Y n c → Vc f G NPh (upA X7 206 Y) 33 [(6, .int (nI c)), (2, .int (nI r)), (3, .int (nI a)), (4, .int b), (5, .int (nI t)), (0, .ref (gb G + 205)), (1, .int what)] [] := by
      intro kk
      induction kk using Nat.strongRecOn with
      | _ kk ihLN =>
        intro c r a b t hkk hc hr ha hb ht
        have hnm9 := nmA_le Y n c n
        refine v_iload C 0 dX10_net_33 rfl ?_
        refine v_aload_n C 5 dX10_net_35 rfl ?_
        refine g_X10_9 C (by decide) sh_205 dX10_net_36 ?_
        refine v_iconst C (nI 0) dX10_net_39 (by decide) ?_
        refine n_now_ld C (by decide) sh_206 (by omega) (by decide) dX10_net_40 ?_
        refine v_top (nI n) hY.1.1 ?_
        refine n_icmp_ge C (by omega) (by omega) 132 dX10_net_41 rfl (fun h_41 => ?_) (fun h_41 => ?_)
        · skip
          refine v_iload_n C 6 dX10_net_132 rfl ?_
          refine v_if_ne C 140 dX10_net_133 rfl (fun h_133 => ?_) (fun h_133 => ?_)
          · skip
            refine v_iload_n C 6 dX10_net_140 rfl ?_
            refine v_iconst C (nI 1) dX10_net_141 (by decide) ?_
            refine v_icmp_ne C 151 dX10_net_142 rfl (fun h_142 => ?_) (fun h_142 => ?_)
            · skip
              refine v_iload_n C 6 dX10_net_151 rfl ?_
              refine v_iconst C (nI 2) dX10_net_152 (by decide) ?_
              refine v_icmp_ne C 161 dX10_net_153 rfl (fun h_153 => ?_) (fun h_153 => ?_)
              · skip
                refine v_iload C 4 dX10_net_161 rfl ?_
                have e1 : r = rngA Y n n := by rw [hr, show c = n by omega]
                have e2 : a = parA Y n n := by rw [ha, show c = n by omega]
                have e3 : b = mosA Y n n := by rw [hb, show c = n by omega]
                have e4 : t = outA Y n n := by rw [ht, show c = n by omega]
                have hS : netS Y n what = (0, nI t, Y) := by unfold netS; (try rw [nI_clamp (by omega)]); (try rw [nI_clamp (by omega)]); (first | rw [if_pos h_6] | rw [if_neg h_6] | rw [if_pos (congrArg nI h_6)] | rw [if_neg (fun q9 => h_6 ((nI_eq (by omega) (by omega)).mp q9))] | rw [if_neg (Nat.not_le.mpr h_6)] | rw [if_neg (Nat.not_lt.mpr h_6)] | skip); (first | rw [if_pos h_41] | rw [if_neg h_41] | rw [if_pos (congrArg nI h_41)] | rw [if_neg (fun q9 => h_41 ((nI_eq (by omega) (by omega)).mp q9))] | rw [if_neg (Nat.not_le.mpr h_41)] | rw [if_neg (Nat.not_lt.mpr h_41)] | skip); (first | rw [if_pos h_133] | rw [if_neg h_133] | rw [if_pos (congrArg nI h_133)] | rw [if_neg (fun q9 => h_133 ((nI_eq (by omega) (by omega)).mp q9))] | rw [if_neg (Nat.not_le.mpr h_133)] | rw [if_neg (Nat.not_lt.mpr h_133)] | skip); (first | rw [if_pos h_142] | rw [if_neg h_142] | rw [if_pos (congrArg nI h_142)] | rw [if_neg (fun q9 => h_142 ((nI_eq (by omega) (by omega)).mp q9))] | rw [if_neg (Nat.not_le.mpr h_142)] | rw [if_neg (Nat.not_lt.mpr h_142)] | skip); (first | rw [if_pos h_153] | rw [if_neg h_153] | rw [if_pos (congrArg nI h_153)] | rw [if_neg (fun q9 => h_153 ((nI_eq (by omega) (by omega)).mp q9))] | rw [if_neg (Nat.not_le.mpr h_153)] | rw [if_neg (Nat.not_lt.mpr h_153)] | skip); (try rw [e1]); (try rw [e2]); (try rw [e3]); (try rw [e4]); all_goals rfl
                exact n_iret C hRt rfl dX10_net_163 (by rw [hS] <;> rfl) (by rw [hS]; exact ⟨_, rfl, eqM.of15 hX7⟩)
              · skip
                refine v_iload C 3 dX10_net_156 rfl ?_
                refine v_goto C 163 dX10_net_158 rfl ?_
                have e1 : r = rngA Y n n := by rw [hr, show c = n by omega]
                have e2 : a = parA Y n n := by rw [ha, show c = n by omega]
                have e3 : b = mosA Y n n := by rw [hb, show c = n by omega]
                have e4 : t = outA Y n n := by rw [ht, show c = n by omega]
                have hS : netS Y n what = (0, b, Y) := by unfold netS; (try rw [nI_clamp (by omega)]); (try rw [nI_clamp (by omega)]); (first | rw [if_pos h_6] | rw [if_neg h_6] | rw [if_pos (congrArg nI h_6)] | rw [if_neg (fun q9 => h_6 ((nI_eq (by omega) (by omega)).mp q9))] | rw [if_neg (Nat.not_le.mpr h_6)] | rw [if_neg (Nat.not_lt.mpr h_6)] | skip); (first | rw [if_pos h_41] | rw [if_neg h_41] | rw [if_pos (congrArg nI h_41)] | rw [if_neg (fun q9 => h_41 ((nI_eq (by omega) (by omega)).mp q9))] | rw [if_neg (Nat.not_le.mpr h_41)] | rw [if_neg (Nat.not_lt.mpr h_41)] | skip); (first | rw [if_pos h_133] | rw [if_neg h_133] | rw [if_pos (congrArg nI h_133)] | rw [if_neg (fun q9 => h_133 ((nI_eq (by omega) (by omega)).mp q9))] | rw [if_neg (Nat.not_le.mpr h_133)] | rw [if_neg (Nat.not_lt.mpr h_133)] | skip); (first | rw [if_pos h_142] | rw [if_neg h_142] | rw [if_pos (congrArg nI h_142)] | rw [if_neg (fun q9 => h_142 ((nI_eq (by omega) (by omega)).mp q9))] | rw [if_neg (Nat.not_le.mpr h_142)] | rw [if_neg (Nat.not_lt.mpr h_142)] | skip); (first | rw [if_pos h_153] | rw [if_neg h_153] | rw [if_pos (congrArg nI h_153)] | rw [if_neg (fun q9 => h_153 ((nI_eq (by omega) (by omega)).mp q9))] | rw [if_neg (Nat.not_le.mpr h_153)] | rw [if_neg (Nat.not_lt.mpr h_153)] | skip); (try rw [e1]); (try rw [e2]); (try rw [e3]); (try rw [e4]); all_goals rfl
                exact n_iret C hRt rfl dX10_net_163 (by rw [hS] <;> rfl) (by rw [hS]; exact ⟨_, rfl, eqM.of15 hX7⟩)
            · skip
              refine v_iload_n C 2 dX10_net_145 rfl ?_
              refine v_iconst C (nI 2) dX10_net_146 (by decide) ?_
              refine v_idiv C dX10_net_147 (by decide) ?_
              refine v_goto C 163 dX10_net_148 rfl ?_
              have e1 : r = rngA Y n n := by rw [hr, show c = n by omega]
              have e2 : a = parA Y n n := by rw [ha, show c = n by omega]
              have e3 : b = mosA Y n n := by rw [hb, show c = n by omega]
              have e4 : t = outA Y n n := by rw [ht, show c = n by omega]
              have hS : netS Y n what = (0, (nI a) / (nI 2), Y) := by unfold netS; (try rw [nI_clamp (by omega)]); (try rw [nI_clamp (by omega)]); (first | rw [if_pos h_6] | rw [if_neg h_6] | rw [if_pos (congrArg nI h_6)] | rw [if_neg (fun q9 => h_6 ((nI_eq (by omega) (by omega)).mp q9))] | rw [if_neg (Nat.not_le.mpr h_6)] | rw [if_neg (Nat.not_lt.mpr h_6)] | skip); (first | rw [if_pos h_41] | rw [if_neg h_41] | rw [if_pos (congrArg nI h_41)] | rw [if_neg (fun q9 => h_41 ((nI_eq (by omega) (by omega)).mp q9))] | rw [if_neg (Nat.not_le.mpr h_41)] | rw [if_neg (Nat.not_lt.mpr h_41)] | skip); (first | rw [if_pos h_133] | rw [if_neg h_133] | rw [if_pos (congrArg nI h_133)] | rw [if_neg (fun q9 => h_133 ((nI_eq (by omega) (by omega)).mp q9))] | rw [if_neg (Nat.not_le.mpr h_133)] | rw [if_neg (Nat.not_lt.mpr h_133)] | skip); (first | rw [if_pos h_142] | rw [if_neg h_142] | rw [if_pos (congrArg nI h_142)] | rw [if_neg (fun q9 => h_142 ((nI_eq (by omega) (by omega)).mp q9))] | rw [if_neg (Nat.not_le.mpr h_142)] | rw [if_neg (Nat.not_lt.mpr h_142)] | skip); (try rw [e1]); (try rw [e2]); (try rw [e3]); (try rw [e4]); all_goals rfl
              exact n_iret C hRt rfl dX10_net_163 (by rw [hS] <;> rfl) (by rw [hS]; exact ⟨_, rfl, eqM.of15 hX7⟩)
          · skip
            refine v_iload_n C 1 dX10_net_136 rfl ?_
            refine v_goto C 163 dX10_net_137 rfl ?_
            have e1 : r = rngA Y n n := by rw [hr, show c = n by omega]
            have e2 : a = parA Y n n := by rw [ha, show c = n by omega]
            have e3 : b = mosA Y n n := by rw [hb, show c = n by omega]
            have e4 : t = outA Y n n := by rw [ht, show c = n by omega]
            have hS : netS Y n what = (0, nI r, Y) := by unfold netS; (try rw [nI_clamp (by omega)]); (try rw [nI_clamp (by omega)]); (first | rw [if_pos h_6] | rw [if_neg h_6] | rw [if_pos (congrArg nI h_6)] | rw [if_neg (fun q9 => h_6 ((nI_eq (by omega) (by omega)).mp q9))] | rw [if_neg (Nat.not_le.mpr h_6)] | rw [if_neg (Nat.not_lt.mpr h_6)] | skip); (first | rw [if_pos h_41] | rw [if_neg h_41] | rw [if_pos (congrArg nI h_41)] | rw [if_neg (fun q9 => h_41 ((nI_eq (by omega) (by omega)).mp q9))] | rw [if_neg (Nat.not_le.mpr h_41)] | rw [if_neg (Nat.not_lt.mpr h_41)] | skip); (first | rw [if_pos h_133] | rw [if_neg h_133] | rw [if_pos (congrArg nI h_133)] | rw [if_neg (fun q9 => h_133 ((nI_eq (by omega) (by omega)).mp q9))] | rw [if_neg (Nat.not_le.mpr h_133)] | rw [if_neg (Nat.not_lt.mpr h_133)] | skip); (try rw [e1]); (try rw [e2]); (try rw [e3]); (try rw [e4]); all_goals rfl
            exact n_iret C hRt rfl dX10_net_163 (by rw [hS] <;> rfl) (by rw [hS]; exact ⟨_, rfl, eqM.of15 hX7⟩)
        · skip
          refine v_aload_n C 5 dX10_net_44 rfl ?_
          refine v_iload C 0 dX10_net_45 rfl ?_
          refine n_callVp C hRm [.int (nI c)] cw_X10_namedOf ml_X10_92 (by decide) sh_205 (by decide) rfl (r_namedOf l G X7 Y n hY.1.1 hY.1.2.1 c (by omega)) (by decide) rfl rfl (Nat.le_of_ble_eq_true rfl) dX10_net_47 ?_
          refine v_istore C [(7, .int (nI (nmA Y n c n))), (6, .int (nI c)), (2, .int (nI r)), (3, .int (nI a)), (4, .int b), (5, .int (nI t)), (0, .ref (gb G + 205)), (1, .int what)] dX10_net_50 (by decide) rfl ?_
          refine v_iload_n C 2 dX10_net_52 rfl ?_
          refine v_aload_n C 6 dX10_net_53 rfl ?_
          refine v_iload C 1 dX10_net_54 rfl ?_
          refine n_callVp C hRm [.int (nI c)] cw_X10_ringOf ml_X10_267 (by decide) sh_205 (by decide) rfl (r_ringOf l G X7 Y n hY.1.1 hY.1.2.1 hsl c (by omega)) (by decide) rfl rfl (Nat.le_of_ble_eq_true rfl) dX10_net_56 ?_
          refine v_iconst C (nI 1) dX10_net_59 (by decide) ?_
          refine v_iload C 1 dX10_net_60 rfl ?_
          refine v_ishl C dX10_net_62 ?_
          refine v_iconst C (nI 1) dX10_net_63 (by decide) ?_
          refine v_isub C dX10_net_64 ?_
          refine v_top (nI (2 ^ c - 1)) (sh1m c (by omega)) ?_
          refine v_iand C dX10_net_65 ?_
          refine v_top (nI (ringM Y n c &&& (2 ^ c - 1))) (nI_and _ _) ?_
          have hra9 : ringM Y n c &&& (2 ^ c - 1) < 1024 := Nat.lt_of_le_of_lt Nat.and_le_left (ringM_lt Y hY.1.2.1 (by omega))
          refine n_if_ne C (by omega) 73 dX10_net_66 rfl (fun h_66 => ?_) (fun h_66 => ?_)
          · skip
            refine v_iconst C (nI 0) dX10_net_73 (by decide) ?_
            refine n_iadd C dX10_net_74 ?_
            refine v_istore_n C [(2, .int (nI (r + 0))), (7, .int (nI (nmA Y n c n))), (6, .int (nI c)), (3, .int (nI a)), (4, .int b), (5, .int (nI t)), (0, .ref (gb G + 205)), (1, .int what)] dX10_net_75 rfl (by decide) rfl ?_
            refine v_iload_n C 3 dX10_net_76 rfl ?_
            refine v_aload_n C 6 dX10_net_77 rfl ?_
            refine v_iload C 2 dX10_net_78 rfl ?_
            refine n_callVp C hRm [.int (nI c)] cw_X10_bothOf ml_X10_264 (by decide) sh_205 (by decide) rfl (r_bothOf l G X7 Y n hY.1.1 hY.1.2.1 hsl c (by omega)) (by decide) rfl rfl (Nat.le_of_ble_eq_true rfl) dX10_net_80 ?_
            refine n_callSp C hRm [.int (nI (bothM Y n c))] cw_X10_bits st_X10_bits ml_X10_115 (r_bits l G (upA X7 206 Y) (bothM Y n c) (bothM_lt _ _ hY.1.2.1)) (by decide) rfl rfl (Nat.le_of_ble_eq_true rfl) dX10_net_83 ?_
            refine n_iadd C dX10_net_86 ?_
            refine v_istore_n C [(3, .int (nI (a + (popN (bothM Y n c))))), (2, .int (nI (r + 0))), (7, .int (nI (nmA Y n c n))), (6, .int (nI c)), (4, .int b), (5, .int (nI t)), (0, .ref (gb G + 205)), (1, .int what)] dX10_net_87 rfl (by decide) rfl ?_
            refine v_iload C 4 dX10_net_88 rfl ?_
            refine v_iload C 2 dX10_net_90 rfl ?_
            refine v_mmax C hRm (by decide) ml_X10_69 (Nat.le_of_ble_eq_true rfl) dX10_net_92 ?_
            refine v_top (maxS b (nI (nmA Y n c n))) rfl ?_
            refine v_istore C [(4, .int (maxS b (nI (nmA Y n c n)))), (3, .int (nI (a + (popN (bothM Y n c))))), (2, .int (nI (r + 0))), (7, .int (nI (nmA Y n c n))), (6, .int (nI c)), (5, .int (nI t)), (0, .ref (gb G + 205)), (1, .int what)] dX10_net_95 (by decide) rfl ?_
            refine v_iload C 5 dX10_net_97 rfl ?_
            refine v_iload C 3 dX10_net_99 rfl ?_
            refine n_if_ne C (by omega) 122 dX10_net_101 rfl (fun h_101 => ?_) (fun h_101 => ?_)
            · skip
              refine v_iconst C (nI 0) dX10_net_122 (by decide) ?_
              refine v_ior C dX10_net_123 ?_
              refine v_top (nI t) (or_nI0 _) ?_
              refine v_istore C [(5, .int (nI t)), (4, .int (maxS b (nI (nmA Y n c n)))), (3, .int (nI (a + (popN (bothM Y n c))))), (2, .int (nI (r + 0))), (7, .int (nI (nmA Y n c n))), (6, .int (nI c)), (0, .ref (gb G + 205)), (1, .int what)] dX10_net_124 (by decide) rfl ?_
              refine v_iinc C (nI (c + 1)) 5 [(6, .int (nI (c + 1))), (5, .int (nI t)), (4, .int (maxS b (nI (nmA Y n c n)))), (3, .int (nI (a + (popN (bothM Y n c))))), (2, .int (nI (r + 0))), (7, .int (nI (nmA Y n c n))), (0, .ref (gb G + 205)), (1, .int what)] dX10_net_126 rfl (nI_add _ _) (by decide) rfl ?_
              refine v_goto C 33 dX10_net_129 rfl ?_
              refine v_sub [0, 4, 3, 2, 1, 6, 7] [(6, .int (nI (c + 1))), (2, .int (nI (r + 0))), (3, .int (nI (a + (popN (bothM Y n c))))), (4, .int (maxS b (nI (nmA Y n c n)))), (5, .int (nI t)), (0, .ref (gb G + 205)), (1, .int what)] rfl ?_
              exact ihLN _ (by omega) (c + 1) (r + 0) (a + (popN (bothM Y n c))) (maxS b (nI (nmA Y n c n))) t  rfl (by omega) (by subst hr; simp only [rngA]; first | rw [if_pos h_66] | (rw [if_neg h_66])) (by subst ha; rfl) (by subst hb; rfl) (by subst ht; simp only [outA]; (rw [if_neg (fun q => h_101 (And.left q))]; rfl))
            · skip
              refine v_aload_n C 6 dX10_net_104 rfl ?_
              refine v_iload C 4 dX10_net_105 rfl ?_
              refine v_iconst C (nI 3) dX10_net_107 (by decide) ?_
              refine n_callVp C hRm [.int (nI c), .int (nI 3)] cw_X10_of ml_X10_86 (by decide) sh_205 (by decide) rfl (r_of l G X7 Y c 3 (by omega)) (by decide) rfl rfl (Nat.le_of_ble_eq_true rfl) dX10_net_108 ?_
              refine v_iconst C (nI 1) dX10_net_111 (by decide) ?_
              refine v_icmp_ne C 122 dX10_net_112 rfl (fun h_112 => ?_) (fun h_112 => ?_)
              · skip
                refine v_iconst C (nI 0) dX10_net_122 (by decide) ?_
                refine v_ior C dX10_net_123 ?_
                refine v_top (nI t) (or_nI0 _) ?_
                refine v_istore C [(5, .int (nI t)), (4, .int (maxS b (nI (nmA Y n c n)))), (3, .int (nI (a + (popN (bothM Y n c))))), (2, .int (nI (r + 0))), (7, .int (nI (nmA Y n c n))), (6, .int (nI c)), (0, .ref (gb G + 205)), (1, .int what)] dX10_net_124 (by decide) rfl ?_
                refine v_iinc C (nI (c + 1)) 5 [(6, .int (nI (c + 1))), (5, .int (nI t)), (4, .int (maxS b (nI (nmA Y n c n)))), (3, .int (nI (a + (popN (bothM Y n c))))), (2, .int (nI (r + 0))), (7, .int (nI (nmA Y n c n))), (0, .ref (gb G + 205)), (1, .int what)] dX10_net_126 rfl (nI_add _ _) (by decide) rfl ?_
                refine v_goto C 33 dX10_net_129 rfl ?_
                refine v_sub [0, 4, 3, 2, 1, 6, 7] [(6, .int (nI (c + 1))), (2, .int (nI (r + 0))), (3, .int (nI (a + (popN (bothM Y n c))))), (4, .int (maxS b (nI (nmA Y n c n)))), (5, .int (nI t)), (0, .ref (gb G + 205)), (1, .int what)] rfl ?_
                exact ihLN _ (by omega) (c + 1) (r + 0) (a + (popN (bothM Y n c))) (maxS b (nI (nmA Y n c n))) t  rfl (by omega) (by subst hr; simp only [rngA]; first | rw [if_pos h_66] | (rw [if_neg h_66])) (by subst ha; rfl) (by subst hb; rfl) (by subst ht; simp only [outA]; (rw [if_neg (fun q => h_112 (And.right q))]; rfl))
              · skip
                refine v_iconst C (nI 1) dX10_net_115 (by decide) ?_
                refine v_iload C 4 dX10_net_116 rfl ?_
                refine v_ishl C dX10_net_118 ?_
                refine v_goto C 123 dX10_net_119 rfl ?_
                refine v_ior C dX10_net_123 ?_
                refine v_top (nI (t + 2 ^ c)) (or_bit c (by omega) t (ht ▸ outA_lt Y n c)) ?_
                refine v_istore C [(5, .int (nI (t + 2 ^ c))), (4, .int (maxS b (nI (nmA Y n c n)))), (3, .int (nI (a + (popN (bothM Y n c))))), (2, .int (nI (r + 0))), (7, .int (nI (nmA Y n c n))), (6, .int (nI c)), (0, .ref (gb G + 205)), (1, .int what)] dX10_net_124 (by decide) rfl ?_
                refine v_iinc C (nI (c + 1)) 5 [(6, .int (nI (c + 1))), (5, .int (nI (t + 2 ^ c))), (4, .int (maxS b (nI (nmA Y n c n)))), (3, .int (nI (a + (popN (bothM Y n c))))), (2, .int (nI (r + 0))), (7, .int (nI (nmA Y n c n))), (0, .ref (gb G + 205)), (1, .int what)] dX10_net_126 rfl (nI_add _ _) (by decide) rfl ?_
                refine v_goto C 33 dX10_net_129 rfl ?_
                refine v_sub [0, 4, 3, 2, 1, 6, 7] [(6, .int (nI (c + 1))), (2, .int (nI (r + 0))), (3, .int (nI (a + (popN (bothM Y n c))))), (4, .int (maxS b (nI (nmA Y n c n)))), (5, .int (nI (t + 2 ^ c))), (0, .ref (gb G + 205)), (1, .int what)] rfl ?_
                exact ihLN _ (by omega) (c + 1) (r + 0) (a + (popN (bothM Y n c))) (maxS b (nI (nmA Y n c n))) (t + 2 ^ c)  rfl (by omega) (by subst hr; simp only [rngA]; first | rw [if_pos h_66] | (rw [if_neg h_66])) (by subst ha; rfl) (by subst hb; rfl) (by subst ht; simp only [outA]; rw [if_pos (And.intro h_101 h_112)])
          · skip
            refine v_iconst C (nI 1) dX10_net_69 (by decide) ?_
            refine v_goto C 74 dX10_net_70 rfl ?_
            refine n_iadd C dX10_net_74 ?_
            refine v_istore_n C [(2, .int (nI (r + 1))), (7, .int (nI (nmA Y n c n))), (6, .int (nI c)), (3, .int (nI a)), (4, .int b), (5, .int (nI t)), (0, .ref (gb G + 205)), (1, .int what)] dX10_net_75 rfl (by decide) rfl ?_
            refine v_iload_n C 3 dX10_net_76 rfl ?_
            refine v_aload_n C 6 dX10_net_77 rfl ?_
            refine v_iload C 2 dX10_net_78 rfl ?_
            refine n_callVp C hRm [.int (nI c)] cw_X10_bothOf ml_X10_264 (by decide) sh_205 (by decide) rfl (r_bothOf l G X7 Y n hY.1.1 hY.1.2.1 hsl c (by omega)) (by decide) rfl rfl (Nat.le_of_ble_eq_true rfl) dX10_net_80 ?_
            refine n_callSp C hRm [.int (nI (bothM Y n c))] cw_X10_bits st_X10_bits ml_X10_115 (r_bits l G (upA X7 206 Y) (bothM Y n c) (bothM_lt _ _ hY.1.2.1)) (by decide) rfl rfl (Nat.le_of_ble_eq_true rfl) dX10_net_83 ?_
            refine n_iadd C dX10_net_86 ?_
            refine v_istore_n C [(3, .int (nI (a + (popN (bothM Y n c))))), (2, .int (nI (r + 1))), (7, .int (nI (nmA Y n c n))), (6, .int (nI c)), (4, .int b), (5, .int (nI t)), (0, .ref (gb G + 205)), (1, .int what)] dX10_net_87 rfl (by decide) rfl ?_
            refine v_iload C 4 dX10_net_88 rfl ?_
            refine v_iload C 2 dX10_net_90 rfl ?_
            refine v_mmax C hRm (by decide) ml_X10_69 (Nat.le_of_ble_eq_true rfl) dX10_net_92 ?_
            refine v_top (maxS b (nI (nmA Y n c n))) rfl ?_
            refine v_istore C [(4, .int (maxS b (nI (nmA Y n c n)))), (3, .int (nI (a + (popN (bothM Y n c))))), (2, .int (nI (r + 1))), (7, .int (nI (nmA Y n c n))), (6, .int (nI c)), (5, .int (nI t)), (0, .ref (gb G + 205)), (1, .int what)] dX10_net_95 (by decide) rfl ?_
            refine v_iload C 5 dX10_net_97 rfl ?_
            refine v_iload C 3 dX10_net_99 rfl ?_
            refine n_if_ne C (by omega) 122 dX10_net_101 rfl (fun h_101 => ?_) (fun h_101 => ?_)
            · skip
              refine v_iconst C (nI 0) dX10_net_122 (by decide) ?_
              refine v_ior C dX10_net_123 ?_
              refine v_top (nI t) (or_nI0 _) ?_
              refine v_istore C [(5, .int (nI t)), (4, .int (maxS b (nI (nmA Y n c n)))), (3, .int (nI (a + (popN (bothM Y n c))))), (2, .int (nI (r + 1))), (7, .int (nI (nmA Y n c n))), (6, .int (nI c)), (0, .ref (gb G + 205)), (1, .int what)] dX10_net_124 (by decide) rfl ?_
              refine v_iinc C (nI (c + 1)) 5 [(6, .int (nI (c + 1))), (5, .int (nI t)), (4, .int (maxS b (nI (nmA Y n c n)))), (3, .int (nI (a + (popN (bothM Y n c))))), (2, .int (nI (r + 1))), (7, .int (nI (nmA Y n c n))), (0, .ref (gb G + 205)), (1, .int what)] dX10_net_126 rfl (nI_add _ _) (by decide) rfl ?_
              refine v_goto C 33 dX10_net_129 rfl ?_
              refine v_sub [0, 4, 3, 2, 1, 6, 7] [(6, .int (nI (c + 1))), (2, .int (nI (r + 1))), (3, .int (nI (a + (popN (bothM Y n c))))), (4, .int (maxS b (nI (nmA Y n c n)))), (5, .int (nI t)), (0, .ref (gb G + 205)), (1, .int what)] rfl ?_
              exact ihLN _ (by omega) (c + 1) (r + 1) (a + (popN (bothM Y n c))) (maxS b (nI (nmA Y n c n))) t  rfl (by omega) (by subst hr; simp only [rngA]; first | rw [if_pos h_66] | (rw [if_neg h_66])) (by subst ha; rfl) (by subst hb; rfl) (by subst ht; simp only [outA]; (rw [if_neg (fun q => h_101 (And.left q))]; rfl))
            · skip
              refine v_aload_n C 6 dX10_net_104 rfl ?_
              refine v_iload C 4 dX10_net_105 rfl ?_
              refine v_iconst C (nI 3) dX10_net_107 (by decide) ?_
              refine n_callVp C hRm [.int (nI c), .int (nI 3)] cw_X10_of ml_X10_86 (by decide) sh_205 (by decide) rfl (r_of l G X7 Y c 3 (by omega)) (by decide) rfl rfl (Nat.le_of_ble_eq_true rfl) dX10_net_108 ?_
              refine v_iconst C (nI 1) dX10_net_111 (by decide) ?_
              refine v_icmp_ne C 122 dX10_net_112 rfl (fun h_112 => ?_) (fun h_112 => ?_)
              · skip
                refine v_iconst C (nI 0) dX10_net_122 (by decide) ?_
                refine v_ior C dX10_net_123 ?_
                refine v_top (nI t) (or_nI0 _) ?_
                refine v_istore C [(5, .int (nI t)), (4, .int (maxS b (nI (nmA Y n c n)))), (3, .int (nI (a + (popN (bothM Y n c))))), (2, .int (nI (r + 1))), (7, .int (nI (nmA Y n c n))), (6, .int (nI c)), (0, .ref (gb G + 205)), (1, .int what)] dX10_net_124 (by decide) rfl ?_
                refine v_iinc C (nI (c + 1)) 5 [(6, .int (nI (c + 1))), (5, .int (nI t)), (4, .int (maxS b (nI (nmA Y n c n)))), (3, .int (nI (a + (popN (bothM Y n c))))), (2, .int (nI (r + 1))), (7, .int (nI (nmA Y n c n))), (0, .ref (gb G + 205)), (1, .int what)] dX10_net_126 rfl (nI_add _ _) (by decide) rfl ?_
                refine v_goto C 33 dX10_net_129 rfl ?_
                refine v_sub [0, 4, 3, 2, 1, 6, 7] [(6, .int (nI (c + 1))), (2, .int (nI (r + 1))), (3, .int (nI (a + (popN (bothM Y n c))))), (4, .int (maxS b (nI (nmA Y n c n)))), (5, .int (nI t)), (0, .ref (gb G + 205)), (1, .int what)] rfl ?_
                exact ihLN _ (by omega) (c + 1) (r + 1) (a + (popN (bothM Y n c))) (maxS b (nI (nmA Y n c n))) t  rfl (by omega) (by subst hr; simp only [rngA]; first | rw [if_pos h_66] | (rw [if_neg h_66])) (by subst ha; rfl) (by subst hb; rfl) (by subst ht; simp only [outA]; (rw [if_neg (fun q => h_112 (And.right q))]; rfl))
              · skip
                refine v_iconst C (nI 1) dX10_net_115 (by decide) ?_
                refine v_iload C 4 dX10_net_116 rfl ?_
                refine v_ishl C dX10_net_118 ?_
                refine v_goto C 123 dX10_net_119 rfl ?_
                refine v_ior C dX10_net_123 ?_
                refine v_top (nI (t + 2 ^ c)) (or_bit c (by omega) t (ht ▸ outA_lt Y n c)) ?_
                refine v_istore C [(5, .int (nI (t + 2 ^ c))), (4, .int (maxS b (nI (nmA Y n c n)))), (3, .int (nI (a + (popN (bothM Y n c))))), (2, .int (nI (r + 1))), (7, .int (nI (nmA Y n c n))), (6, .int (nI c)), (0, .ref (gb G + 205)), (1, .int what)] dX10_net_124 (by decide) rfl ?_
                refine v_iinc C (nI (c + 1)) 5 [(6, .int (nI (c + 1))), (5, .int (nI (t + 2 ^ c))), (4, .int (maxS b (nI (nmA Y n c n)))), (3, .int (nI (a + (popN (bothM Y n c))))), (2, .int (nI (r + 1))), (7, .int (nI (nmA Y n c n))), (0, .ref (gb G + 205)), (1, .int what)] dX10_net_126 rfl (nI_add _ _) (by decide) rfl ?_
                refine v_goto C 33 dX10_net_129 rfl ?_
                refine v_sub [0, 4, 3, 2, 1, 6, 7] [(6, .int (nI (c + 1))), (2, .int (nI (r + 1))), (3, .int (nI (a + (popN (bothM Y n c))))), (4, .int (maxS b (nI (nmA Y n c n)))), (5, .int (nI (t + 2 ^ c))), (0, .ref (gb G + 205)), (1, .int what)] rfl ?_
                exact ihLN _ (by omega) (c + 1) (r + 1) (a + (popN (bothM Y n c))) (maxS b (nI (nmA Y n c n))) (t + 2 ^ c)  rfl (by omega) (by subst hr; simp only [rngA]; first | rw [if_pos h_66] | (rw [if_neg h_66])) (by subst ha; rfl) (by subst hb; rfl) (by subst ht; simp only [outA]; rw [if_pos (And.intro h_101 h_112)])
    refine v_sub [0, 4, 3, 2, 1, 5, 6] [(6, .int (nI 0)), (2, .int (nI 0)), (3, .int (nI 0)), (4, .int (nI 0)), (5, .int (nI 0)), (0, .ref (gb G + 205)), (1, .int what)] rfl ?_
    exact LN _ 0 0 0 (nI 0) 0  rfl (by omega) (by rfl) (by rfl) (by rfl) (by rfl)
  · skip
    refine v_aload_n C 0 dX10_net_9 rfl ?_
    refine v_ldc C (-1000001) kc_X10_80 dX10_net_10 ?_
    refine n_callVi C hRm [.int (-1000001)] cw_X10_finding ml_X10_81 (by decide) sh_205 (by decide) rfl (r_finding l G (upA M 206 Y) 1 (by decide) (-1000001) (by decide)) (by decide) rfl rfl (Nat.le_of_ble_eq_true rfl) dX10_net_12 (fun M5 hP_12 => ?_)
    subst hP_12
    refine v_mem (upA (fndM M 1) 206 Y) (fnd_upA _ _ _) ?_
    have hS : netS Y n what = er 1 Y := by unfold netS; (try rw [nI_clamp (by omega)]); (try rw [nI_clamp (by omega)]); (first | rw [if_pos h_6] | rw [if_neg h_6] | rw [if_pos (congrArg nI h_6)] | rw [if_neg (fun q9 => h_6 ((nI_eq (by omega) (by omega)).mp q9))] | rw [if_neg (Nat.not_le.mpr h_6)] | rw [if_neg (Nat.not_lt.mpr h_6)] | skip); (try rw [e1]); (try rw [e2]); (try rw [e3]); (try rw [e4]); all_goals rfl
    exact n_iret C hRt rfl dX10_net_15 (by rw [hS] <;> rfl) (by rw [hS]; exact ⟨_, rfl, (eqM.rf M).tr (eqM.fnd _ (show (1 : Nat) ≠ 0 by decide))⟩)
