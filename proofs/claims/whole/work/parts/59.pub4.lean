theorem wrd_s {Y : Nat → Int32} {n hN c t o h b : Nat} {le : Int32} (hb : b = (wrdA Y n hN c t o).1) (hl : le = (wrdA Y n hN c t o).2) (ha : Y (7 + 6 * o + 4) = nI h) (hh : h < 5) : wrdA Y n hN c t (o + 1) = if b = 10 ∨ grfS Y n hN c t (nI h) < le then (o, grfS Y n hN c t (nI h)) else (b, le) := by
  show (if _ then _ else _) = _
  rw [ha, ← hb, ← hl]
  have h0 : ¬ nI h < 0 := Int32.not_lt.mpr (nn_nI h hh)
  by_cases q : b = 10 ∨ grfS Y n hN c t (nI h) < le
  · rw [if_pos q, if_pos ⟨h0, q⟩]
  · rw [if_neg q, if_neg (fun z => q z.2), hb, hl]
theorem wrd_w {Y : Nat → Int32} {n hN c t o : Nat} (ha : Y (7 + 6 * o + 4) = -1) : wrdA Y n hN c t (o + 1) = wrdA Y n hN c t o := by
  show (if _ then _ else _) = _
  rw [if_neg (fun z => z.1 (by rw [ha]; decide))]
/-- the heaps that were tried are no better than the best -/
def trd (Y : Nat → Int32) (n hN c t m b : Nat) (le : Int32) : Prop := ∀ h, h < 5 → m.testBit h = true → b ≠ 10 ∧ ¬ grfS Y n hN c t (nI h) < le
theorem trd_new {Y : Nat → Int32} {n hN c t m b o h : Nat} {le : Int32} (ht : trd Y n hN c t m b le) (ho : o < 10) (hq : b = 10 ∨ grfS Y n hN c t (nI h) < le) : trd Y n hN c t (m ||| 2 ^ h) o (grfS Y n hN c t (nI h)) := by
  intro k hk hb
  rw [Nat.testBit_or, Bool.or_eq_true, Nat.testBit_two_pow, decide_eq_true_eq] at hb
  refine ⟨by omega, ?_⟩
  rcases hb with hb | hb
  · obtain ⟨h1, h2⟩ := ht k hk hb
    rcases hq with q | q
    · exact absurd q h1
    · exact fun z => h2 (Int32.lt_trans z q)
  · rw [hb]; exact Int32.lt_irrefl
theorem trd_old {Y : Nat → Int32} {n hN c t m b h : Nat} {le : Int32} (ht : trd Y n hN c t m b le) (hq : ¬ (b = 10 ∨ grfS Y n hN c t (nI h) < le)) : trd Y n hN c t (m ||| 2 ^ h) b le := by
  intro k hk hb
  rw [Nat.testBit_or, Bool.or_eq_true, Nat.testBit_two_pow, decide_eq_true_eq] at hb
  rcases hb with hb | hb
  · exact ht k hk hb
  · subst hb; exact ⟨fun z => hq (Or.inl z), fun z => hq (Or.inr z)⟩
theorem or_32 {m h : Nat} (hm : m < 32) (hh : h < 5) : m ||| 2 ^ h < 32 := Nat.or_lt_two_pow (n := 5) hm (Nat.pow_lt_pow_right (by decide) hh)
set_option maxHeartbeats 4000000 in
set_option maxRecDepth 100000 in
theorem x_word (l : Launch) (G : GC) (M : Mm) (Y : Nat → Int32) (n hN : Nat) (hR : YR M 1 Y n hN) (hY : YOk Y n hN) (hI : yI Y n) (hJ : yJ Y n) (child k : Int32) : CI l G 8 yX9_word cX9_word 9 .int [.ref (gb G + 0), .int child, .int k] M ((wordS Y n hN child k).2.1) (PubC M (wordS Y n hN child k).2.2 n hN (wordS Y n hN child k).1) := by
  refine Con.of (by decide +kernel) (Nat.le_of_ble_eq_true rfl) ?_
  intro f C hRm hRt _
  have hn2 := hY.1.2.1
  have h5 := hY.1.2.2.2
  have LWs : ∀ c j, c < n → j ≤ 60 → Y (7 + 6 * c + 4) = -1 → (nI 0 ≤ nI c ∧ nI c ≤ Y 0 - nI 1) → (nI 0 ≤ nI j ∧ nI j ≤ nI 60) → child = nI c → k = nI j → Vc f G NPh M 54 [(6, .int (nI 0)), (5, .int (nI 0)), (4, .int (nI 0)), (3, .int (bv 10)), (0, .ref (gb G + 0)), (1, .int (nI c)), (2, .int (nI j))] [] := by
    intro c j hc hj hw hcc hjj e1 e2
    subst e1 e2
    have LW : ∀ (kk : Nat) (o : Nat) (b : Nat) (le : Int32) (m : Nat) (X : Mm), n - o = kk → o ≤ n → b = (wrdA Y n hN c j o).1 → le = (wrdA Y n hN c j o).2 → m < 32 → trd Y n hN c j m b le → YR X 1 Y n hN → okG M X → Vc f G NPh X 54 [(6, .int (nI o)), (5, .int (nI m)), (4, .int le), (3, .int (bv b)), (0, .ref (gb G + 0)), (1, .int (nI c)), (2, .int (nI j))] [] := by
      intro kk
      induction kk using Nat.strongRecOn with
      | _ kk ihLW =>
        intro o b le m X hkk ho hb hl hm htr hRX hFX
        have hb9 : b ≤ 10 := by rw [hb]; exact wrdA_le Y n hN c j o (by omega)
        refine v_iload C 0 dX9_word_54 rfl ?_
        refine v_aload_n C 4 dX9_word_56 rfl ?_
        refine g_X9_10 C (by decide) (show shp 0 = 9 from by decide +kernel) dX9_word_57 ?_
        refine g_X9_62 C (by decide) (s_y (by decide)) dX9_word_60 ?_
        refine v_top (nI n) (hRX.n) ?_
        refine n_icmp_ge C (by omega) (by omega) 168 dX9_word_63 rfl (fun h_63 => ?_) (fun h_63 => ?_)
        · skip
          refine v_iload_n C 3 dX9_word_168 rfl ?_
          refine v_if_ge C 180 dX9_word_169 rfl (fun h_169 => ?_) (fun h_169 => ?_)
          · skip
            refine v_iload_n C 3 dX9_word_180 rfl ?_
            have h9 : o = n := by omega
            subst h9
            have hb8 := bv_ge b hb9 h_169
            have hS : wordS Y o hN (nI c) (nI j) = (0, nI b, Y) := by unfold wordS; rw [if_pos hcc, if_pos hjj, nI_clamp (by omega), nI_clamp (by omega), if_pos (by rw [hw]; decide), ← hb, if_neg (by omega)]
            exact n_iret C hRt rfl dX9_word_181 (by rw [hS]; exact bv_lt hb8) (by rw [hS]; exact pc_ok hRX hFX)
          · skip
            refine v_aload_n C 4 dX9_word_172 rfl ?_
            refine v_iconst C (nI 2) dX9_word_173 (by decide) ?_
            refine n_callVi C hRm [.int (nI 2)] cw_X9_error ml_X9_58 (by decide) (show shp 0 = 9 from by decide +kernel) (by decide) rfl (c_error l G X 2 (by decide)) (by decide) rfl rfl (Nat.le_of_ble_eq_true rfl) dX9_word_174 (fun M5 hP_174 => ?_)
            subst hP_174
            refine v_goto C 181 dX9_word_177 rfl ?_
            have h9 : o = n := by omega
            subst h9
            have hb8 := bv_nge b hb9 h_169
            have hS : wordS Y o hN (nI c) (nI j) = er 2 Y := by unfold wordS; rw [if_pos hcc, if_pos hjj, nI_clamp (by omega), nI_clamp (by omega), if_pos (by rw [hw]; decide), ← hb, if_pos hb8]
            exact n_iret C hRt rfl dX9_word_181 (by rw [hS] <;> rfl) (by rw [hS]; exact pc_er hRX hFX (show (2 : Nat) ≠ 0 by decide))
        · skip
          refine v_aload_n C 4 dX9_word_66 rfl ?_
          refine g_X9_10 C (by decide) (show shp 0 = 9 from by decide +kernel) dX9_word_67 ?_
          refine g_X9_66 C (by decide) (s_y (by decide)) dX9_word_70 ?_
          refine v_iload C 0 dX9_word_73 rfl ?_
          refine v_aald C rfl (by decide) (show shp 2 = 20 from by decide +kernel) (by decide) (by decide) (show o < 10 from by omega) (by decide) (1 + 20 + 3 * o) (by simp only [aOff] <;> omega) dX9_word_75 ?_
          refine g_X9_128 C (show 1 + 20 + 3 * o < 221 from by omega) (s_ch (by decide) (by omega)) dX9_word_76 ?_
          refine v_top (Y (7 + 6 * o + 4)) (hRX.at (by omega) (by omega)) ?_
          rcases hY.2.2.1 o (by omega) with hat | ⟨h, hh, hat⟩
          · skip
            refine v_top ((-1)) (hat) ?_
            refine v_istore C [(7, .int (-1)), (6, .int (nI o)), (5, .int (nI m)), (4, .int le), (3, .int (bv b)), (0, .ref (gb G + 0)), (1, .int (nI c)), (2, .int (nI j))] dX9_word_79 (by decide) rfl ?_
            refine v_iload C 0 dX9_word_81 rfl ?_
            refine v_iconst C (-1) dX9_word_83 (by decide) ?_
            refine v_icmp_eq C 162 dX9_word_84 rfl (fun h_84 => ?_) (fun h_84 => ?_)
            · skip
              refine v_iinc C (nI (o + 1)) 1 [(6, .int (nI (o + 1))), (7, .int (-1)), (5, .int (nI m)), (4, .int le), (3, .int (bv b)), (0, .ref (gb G + 0)), (1, .int (nI c)), (2, .int (nI j))] dX9_word_162 rfl (nI_add _ _) (by decide) rfl ?_
              refine v_goto C 54 dX9_word_165 rfl ?_
              refine v_sub [0, 2, 3, 4, 5, 6, 7] [(6, .int (nI (o + 1))), (5, .int (nI m)), (4, .int le), (3, .int (bv b)), (0, .ref (gb G + 0)), (1, .int (nI c)), (2, .int (nI j))] rfl ?_
              exact ihLW _ (by omega) (o + 1) b le m X rfl (by omega) (by rw [wrd_w hat]; exact hb) (by rw [wrd_w hat]; exact hl) hm htr hRX hFX
            · skip
              exact absurd rfl h_84
          · skip
            refine v_top (nI h) (hat) ?_
            refine v_istore C [(7, .int (nI h)), (6, .int (nI o)), (5, .int (nI m)), (4, .int le), (3, .int (bv b)), (0, .ref (gb G + 0)), (1, .int (nI c)), (2, .int (nI j))] dX9_word_79 (by decide) rfl ?_
            refine v_iload C 0 dX9_word_81 rfl ?_
            refine v_iconst C (-1) dX9_word_83 (by decide) ?_
            refine v_icmp_eq C 162 dX9_word_84 rfl (fun h_84 => ?_) (fun h_84 => ?_)
            · skip
              exact absurd h_84 (nI_m1 _ (by omega))
            · skip
              refine v_iload C 2 dX9_word_87 rfl ?_
              refine v_iload C 0 dX9_word_89 rfl ?_
              refine v_ishr C dX9_word_91 ?_
              refine v_iconst C (nI 1) dX9_word_92 (by decide) ?_
              refine v_iand C dX9_word_93 ?_
              refine v_top (b2i (Nat.testBit m h = true)) (bit_and h (by omega) _ (by omega)) ?_
              refine nb_if_ne C 162 dX9_word_94 rfl (fun h_94 => ?_) (fun h_94 => ?_)
              · skip
                refine v_iinc C (nI (o + 1)) 1 [(6, .int (nI (o + 1))), (7, .int (nI h)), (5, .int (nI m)), (4, .int le), (3, .int (bv b)), (0, .ref (gb G + 0)), (1, .int (nI c)), (2, .int (nI j))] dX9_word_162 rfl (nI_add _ _) (by decide) rfl ?_
                refine v_goto C 54 dX9_word_165 rfl ?_
                refine v_sub [0, 2, 3, 4, 5, 6, 7] [(6, .int (nI (o + 1))), (5, .int (nI m)), (4, .int le), (3, .int (bv b)), (0, .ref (gb G + 0)), (1, .int (nI c)), (2, .int (nI j))] rfl ?_
                exact ihLW _ (by omega) (o + 1) b le m X rfl (by omega) (by rw [wrd_s hb hl hat (by omega), if_neg (fun z => z.elim (htr h (by omega) h_94).1 (htr h (by omega) h_94).2)]) (by rw [wrd_s hb hl hat (by omega), if_neg (fun z => z.elim (htr h (by omega) h_94).1 (htr h (by omega) h_94).2)]) hm htr hRX hFX
              · skip
                refine v_iload C 2 dX9_word_97 rfl ?_
                refine v_iconst C (nI 1) dX9_word_99 (by decide) ?_
                refine v_iload C 0 dX9_word_100 rfl ?_
                refine v_ishl C dX9_word_102 ?_
                refine v_ior C dX9_word_103 ?_
                refine v_top (nI (m ||| 2 ^ h)) (or_sh (by omega)) ?_
                refine v_istore C [(5, .int (nI (m ||| 2 ^ h))), (7, .int (nI h)), (6, .int (nI o)), (4, .int le), (3, .int (bv b)), (0, .ref (gb G + 0)), (1, .int (nI c)), (2, .int (nI j))] dX9_word_104 (by decide) rfl ?_
                refine v_aload_n C 5 dX9_word_106 rfl ?_
                refine g_X9_16 C (by decide) (show shp 0 = 9 from by decide +kernel) dX9_word_107 ?_
                refine v_aload_n C 5 dX9_word_110 rfl ?_
                refine g_X9_10 C (by decide) (show shp 0 = 9 from by decide +kernel) dX9_word_111 ?_
                refine n_callVv C hRm [.ref (gb G + 1)] cw_X8_takeFrom ml_X9_232 (by decide) (s_y (by decide)) (by decide) rfl (y_take l G X 62 1 (by decide) (by decide) (by decide) Y _ _ hRX hY) (by decide) rfl rfl (Nat.le_of_ble_eq_true rfl) dX9_word_114 (fun Mq1 hP_114 => ?_)
                obtain ⟨hRq1, hFq1⟩ := hP_114
                have hRq1o := hRX.fr (fun a h1 h2 => hFq1 a (by omega))
                have hGq1 := hFX.tr hFq1
                refine v_aload_n C 5 dX9_word_117 rfl ?_
                refine g_X9_16 C (by decide) (show shp 0 = 9 from by decide +kernel) dX9_word_118 ?_
                refine v_iload_n C 6 dX9_word_121 rfl ?_
                refine v_iload C 1 dX9_word_122 rfl ?_
                refine n_callVv C hRm [.int (nI c), .int (nI h)] cw_X8_place ml_X9_131 (by decide) (s_y (by decide)) (by decide) rfl (y_place l G Mq1 62 (by decide) Y _ _ hRq1 hY hI.1 c hc (nI h) (Or.inr ⟨h, hh, rfl⟩) (by rw [hw]; exact fun z => nI_m1 h (by omega) z.symm)) (by decide) rfl rfl (Nat.le_of_ble_eq_true rfl) dX9_word_124 (fun Mq2 hP_124 => ?_)
                obtain ⟨hRq2, hFq2⟩ := hP_124
                have hRq2o := hRq1o.fr (fun a h1 h2 => hFq2 a (by omega))
                have hGq2 := hGq1.tr hFq2
                have hYg := yk_goes hY hc (h := nI h) (Or.inr ⟨h, hh, rfl⟩)
                have hIg : yI (goesS Y n hN c (nI h)) n := yi_goes hY hI hc
                refine v_aload_n C 5 dX9_word_127 rfl ?_
                refine g_X9_16 C (by decide) (show shp 0 = 9 from by decide +kernel) dX9_word_128 ?_
                refine v_iload_n C 7 dX9_word_131 rfl ?_
                refine n_callVv C hRm [.int (nI j)] cw_X8_pass ml_X9_192 (by decide) (s_y (by decide)) (by decide) rfl (y_pass l G Mq2 62 (by decide) (goesS Y n hN c (nI h)) _ _ hRq2 hYg hIg j (by omega)) (by decide) rfl rfl (Nat.le_of_ble_eq_true rfl) dX9_word_132 (fun Mq3 hP_132 => ?_)
                obtain ⟨hRq3, hFq3⟩ := hP_132
                have hRq3o := hRq2o.fr (fun a h1 h2 => hFq3 a (by omega))
                have hGq3 := hGq2.tr hFq3
                refine v_aload_n C 5 dX9_word_135 rfl ?_
                refine g_X9_16 C (by decide) (show shp 0 = 9 from by decide +kernel) dX9_word_136 ?_
                refine n_callVp C hRm [] cw_X8_grief ml_X9_195 (by decide) (s_y (by decide)) (by decide) rfl (y_grief l G Mq3 62 (by decide) (passS (goesS Y n hN c (nI h)) n hN j) _ _ hRq3 (yk_pass hYg j)) (by decide) rfl rfl (Nat.le_of_ble_eq_true rfl) dX9_word_139 ?_
                refine v_top (grfS Y n hN c j (nI h)) (rfl) ?_
                refine v_istore C [(8, .int (grfS Y n hN c j (nI h))), (5, .int (nI (m ||| 2 ^ h))), (7, .int (nI h)), (6, .int (nI o)), (4, .int le), (3, .int (bv b)), (0, .ref (gb G + 0)), (1, .int (nI c)), (2, .int (nI j))] dX9_word_142 (by decide) rfl ?_
                refine v_iload_n C 5 dX9_word_144 rfl ?_
                refine v_if_lt C 155 dX9_word_145 rfl (fun h_145 => ?_) (fun h_145 => ?_)
                · skip
                  have hq : b = 10 ∨ grfS Y n hN c j (nI h) < le := Or.inl (bv_neg b hb9 h_145)
                  refine v_iload C 3 dX9_word_155 rfl ?_
                  refine v_istore_n C [(3, .int (nI o)), (8, .int (grfS Y n hN c j (nI h))), (5, .int (nI (m ||| 2 ^ h))), (7, .int (nI h)), (6, .int (nI o)), (4, .int le), (0, .ref (gb G + 0)), (1, .int (nI c)), (2, .int (nI j))] dX9_word_157 rfl (by decide) rfl ?_
                  refine v_iload C 1 dX9_word_158 rfl ?_
                  refine v_istore C [(4, .int (grfS Y n hN c j (nI h))), (3, .int (nI o)), (8, .int (grfS Y n hN c j (nI h))), (5, .int (nI (m ||| 2 ^ h))), (7, .int (nI h)), (6, .int (nI o)), (0, .ref (gb G + 0)), (1, .int (nI c)), (2, .int (nI j))] dX9_word_160 (by decide) rfl ?_
                  refine v_iinc C (nI (o + 1)) 5 [(6, .int (nI (o + 1))), (4, .int (grfS Y n hN c j (nI h))), (3, .int (nI o)), (8, .int (grfS Y n hN c j (nI h))), (5, .int (nI (m ||| 2 ^ h))), (7, .int (nI h)), (0, .ref (gb G + 0)), (1, .int (nI c)), (2, .int (nI j))] dX9_word_162 rfl (nI_add _ _) (by decide) rfl ?_
                  refine v_goto C 54 dX9_word_165 rfl ?_
                  refine v_lv [(6, .int (nI (o + 1))), (4, .int (grfS Y n hN c j (nI h))), (3, .int (bv o)), (8, .int (grfS Y n hN c j (nI h))), (5, .int (nI (m ||| 2 ^ h))), (7, .int (nI h)), (0, .ref (gb G + 0)), (1, .int (nI c)), (2, .int (nI j))] (by rw [bv_lt (show o < 10 by omega)]) ?_
                  refine v_sub [0, 4, 1, 2, 6, 7, 8] [(6, .int (nI (o + 1))), (5, .int (nI (m ||| 2 ^ h))), (4, .int (grfS Y n hN c j (nI h))), (3, .int (bv o)), (0, .ref (gb G + 0)), (1, .int (nI c)), (2, .int (nI j))] rfl ?_
                  exact ihLW _ (by omega) (o + 1) o (grfS Y n hN c j (nI h)) (m ||| 2 ^ h) Mq3 rfl (by omega) (by rw [wrd_s hb hl hat (by omega), if_pos hq]) (by rw [wrd_s hb hl hat (by omega), if_pos hq]) (or_32 hm (by omega)) (trd_new htr (by omega) hq) hRq3o hGq3
                · skip
                  refine v_iload C 0 dX9_word_148 rfl ?_
                  refine v_iload C 4 dX9_word_150 rfl ?_
                  refine v_icmp_ge C 162 dX9_word_152 rfl (fun h_152 => ?_) (fun h_152 => ?_)
                  · skip
                    have hq : ¬ (b = 10 ∨ grfS Y n hN c j (nI h) < le) := fun z => z.elim (fun q => absurd (bv_nn b hb9 h_145) (by omega)) (fun q => absurd h_152 (Int32.not_le.mpr q))
                    refine v_iinc C (nI (o + 1)) 3 [(6, .int (nI (o + 1))), (8, .int (grfS Y n hN c j (nI h))), (5, .int (nI (m ||| 2 ^ h))), (7, .int (nI h)), (4, .int le), (3, .int (bv b)), (0, .ref (gb G + 0)), (1, .int (nI c)), (2, .int (nI j))] dX9_word_162 rfl (nI_add _ _) (by decide) rfl ?_
                    refine v_goto C 54 dX9_word_165 rfl ?_
                    refine v_sub [0, 2, 4, 5, 6, 7, 8] [(6, .int (nI (o + 1))), (5, .int (nI (m ||| 2 ^ h))), (4, .int le), (3, .int (bv b)), (0, .ref (gb G + 0)), (1, .int (nI c)), (2, .int (nI j))] rfl ?_
                    exact ihLW _ (by omega) (o + 1) b le (m ||| 2 ^ h) Mq3 rfl (by omega) (by rw [wrd_s hb hl hat (by omega), if_neg hq]) (by rw [wrd_s hb hl hat (by omega), if_neg hq]) (or_32 hm (by omega)) (trd_old htr hq) hRq3o hGq3
                  · skip
                    have hq : b = 10 ∨ grfS Y n hN c j (nI h) < le := Or.inr (Int32.not_le.mp h_152)
                    refine v_iload C 3 dX9_word_155 rfl ?_
                    refine v_istore_n C [(3, .int (nI o)), (8, .int (grfS Y n hN c j (nI h))), (5, .int (nI (m ||| 2 ^ h))), (7, .int (nI h)), (6, .int (nI o)), (4, .int le), (0, .ref (gb G + 0)), (1, .int (nI c)), (2, .int (nI j))] dX9_word_157 rfl (by decide) rfl ?_
                    refine v_iload C 1 dX9_word_158 rfl ?_
                    refine v_istore C [(4, .int (grfS Y n hN c j (nI h))), (3, .int (nI o)), (8, .int (grfS Y n hN c j (nI h))), (5, .int (nI (m ||| 2 ^ h))), (7, .int (nI h)), (6, .int (nI o)), (0, .ref (gb G + 0)), (1, .int (nI c)), (2, .int (nI j))] dX9_word_160 (by decide) rfl ?_
                    refine v_iinc C (nI (o + 1)) 5 [(6, .int (nI (o + 1))), (4, .int (grfS Y n hN c j (nI h))), (3, .int (nI o)), (8, .int (grfS Y n hN c j (nI h))), (5, .int (nI (m ||| 2 ^ h))), (7, .int (nI h)), (0, .ref (gb G + 0)), (1, .int (nI c)), (2, .int (nI j))] dX9_word_162 rfl (nI_add _ _) (by decide) rfl ?_
                    refine v_goto C 54 dX9_word_165 rfl ?_
                    refine v_lv [(6, .int (nI (o + 1))), (4, .int (grfS Y n hN c j (nI h))), (3, .int (bv o)), (8, .int (grfS Y n hN c j (nI h))), (5, .int (nI (m ||| 2 ^ h))), (7, .int (nI h)), (0, .ref (gb G + 0)), (1, .int (nI c)), (2, .int (nI j))] (by rw [bv_lt (show o < 10 by omega)]) ?_
                    refine v_sub [0, 4, 1, 2, 6, 7, 8] [(6, .int (nI (o + 1))), (5, .int (nI (m ||| 2 ^ h))), (4, .int (grfS Y n hN c j (nI h))), (3, .int (bv o)), (0, .ref (gb G + 0)), (1, .int (nI c)), (2, .int (nI j))] rfl ?_
                    exact ihLW _ (by omega) (o + 1) o (grfS Y n hN c j (nI h)) (m ||| 2 ^ h) Mq3 rfl (by omega) (by rw [wrd_s hb hl hat (by omega), if_pos hq]) (by rw [wrd_s hb hl hat (by omega), if_pos hq]) (or_32 hm (by omega)) (trd_new htr (by omega) hq) hRq3o hGq3
    exact LW _ 0 10 (nI 0) 0 M rfl (Nat.zero_le _) rfl rfl (by decide) (fun h hh q => by rw [Nat.zero_testBit] at q; cases q) hR (okG.rf M)
  show Vc f G NPh M 0 [(0, .ref (gb G + 0)), (1, .int child), (2, .int k)] []
  refine v_aload_n C 0 dX9_word_0 rfl ?_
  refine v_iload_n C 1 dX9_word_1 rfl ?_
  refine n_callVp C hRm [.int child] cw_X9_noChild ml_X9_84 (by decide) (show shp 0 = 9 from by decide +kernel) (by decide) rfl (c_noChild l G M Y _ _ hR hY child) (by decide) rfl rfl (Nat.le_of_ble_eq_true rfl) dX9_word_2 ?_
  refine nb_if_ne C 15 dX9_word_5 rfl (fun h_5 => ?_) (fun h_5 => ?_)
  · skip
    refine v_aload_n C 0 dX9_word_15 rfl ?_
    refine v_iconst C (nI 1) dX9_word_16 (by decide) ?_
    refine n_callVi C hRm [.int (nI 1)] cw_X9_error ml_X9_58 (by decide) (show shp 0 = 9 from by decide +kernel) (by decide) rfl (c_error l G M 1 (by decide)) (by decide) rfl rfl (Nat.le_of_ble_eq_true rfl) dX9_word_17 (fun M5 hP_17 => ?_)
    subst hP_17
    have hS : wordS Y n hN child k = er 1 Y := by unfold wordS; (try rw [nI_clamp (by omega)]); (try rw [nI_clamp (by omega)]); (try rw [nI_clamp (by omega)]); (first | rw [if_neg h_5] | rw [if_pos (Decidable.not_not.mp h_5)] | rw [if_pos h_5] | rw [if_pos (congrArg nI h_5)] | rw [if_neg (fun q9 => h_5 ((nI_eq (by omega) (by omega)).mp q9))] | rw [if_neg (Nat.not_le.mpr h_5)] | rw [if_neg (Nat.not_lt.mpr h_5)] | skip); all_goals rfl
    exact n_iret C hRt (rfl) dX9_word_20 (by rw [hS] <;> rfl) (by rw [hS]; exact pc_er hR (okG.rf M) (show (1 : Nat) ≠ 0 by decide))
  · skip
    obtain ⟨c, hc, rfl⟩ := is_nat hY.1.1 hY.1.2.1 (Decidable.not_not.mp h_5)
    refine v_iload_n C 2 dX9_word_8 rfl ?_
    refine n_callSp C hRm [.int k] cw_X9_notAhead st_X9_notAhead ml_X9_229 (c_notAhead l G M k) (by decide) rfl rfl (Nat.le_of_ble_eq_true rfl) dX9_word_9 ?_
    refine nb_if_eq C 21 dX9_word_12 rfl (fun h_12 => ?_) (fun h_12 => ?_)
    · skip
      obtain ⟨j, hj, rfl⟩ := within_nat (by decide) (Decidable.not_not.mp h_12)
      refine v_aload_n C 0 dX9_word_21 rfl ?_
      refine g_X9_10 C (by decide) (show shp 0 = 9 from by decide +kernel) dX9_word_22 ?_
      refine g_X9_66 C (by decide) (s_y (by decide)) dX9_word_25 ?_
      refine v_iload_n C 1 dX9_word_28 rfl ?_
      refine v_aald C rfl (by decide) (show shp 2 = 20 from by decide +kernel) (by decide) (by decide) (show c < 10 from by omega) (by decide) (1 + 20 + 3 * c) (by simp only [aOff] <;> omega) dX9_word_29 ?_
      refine g_X9_128 C (show 1 + 20 + 3 * c < 221 from by omega) (s_ch (by decide) (by omega)) dX9_word_30 ?_
      refine v_top (Y (7 + 6 * c + 4)) (hR.at (by omega) (by omega)) ?_
      refine v_iconst C (-1) dX9_word_33 (by decide) ?_
      refine v_icmp_eq C 43 dX9_word_34 rfl (fun h_34 => ?_) (fun h_34 => ?_)
      · skip
        refine v_iconst C (-1) dX9_word_43 (by decide) ?_
        refine v_istore_n C [(3, .int (-1)), (0, .ref (gb G + 0)), (1, .int (nI c)), (2, .int (nI j))] dX9_word_44 rfl (by decide) rfl ?_
        refine v_iconst C (nI 0) dX9_word_45 (by decide) ?_
        refine v_istore C [(4, .int (nI 0)), (3, .int (-1)), (0, .ref (gb G + 0)), (1, .int (nI c)), (2, .int (nI j))] dX9_word_46 (by decide) rfl ?_
        refine v_iconst C (nI 0) dX9_word_48 (by decide) ?_
        refine v_istore C [(5, .int (nI 0)), (4, .int (nI 0)), (3, .int (-1)), (0, .ref (gb G + 0)), (1, .int (nI c)), (2, .int (nI j))] dX9_word_49 (by decide) rfl ?_
        refine v_iconst C (nI 0) dX9_word_51 (by decide) ?_
        refine v_istore C [(6, .int (nI 0)), (5, .int (nI 0)), (4, .int (nI 0)), (3, .int (-1)), (0, .ref (gb G + 0)), (1, .int (nI c)), (2, .int (nI j))] dX9_word_52 (by decide) rfl ?_
        refine v_lv [(6, .int (nI 0)), (5, .int (nI 0)), (4, .int (nI 0)), (3, .int (bv 10)), (0, .ref (gb G + 0)), (1, .int (nI c)), (2, .int (nI j))] rfl ?_
        refine v_sub [0, 1, 2, 3, 4, 5, 6] [(6, .int (nI 0)), (5, .int (nI 0)), (4, .int (nI 0)), (3, .int (bv 10)), (0, .ref (gb G + 0)), (1, .int (nI c)), (2, .int (nI j))] rfl ?_
        exact LWs c j hc hj h_34 (Decidable.not_not.mp h_5) (Decidable.not_not.mp h_12) rfl rfl
      · skip
        refine v_aload_n C 0 dX9_word_37 rfl ?_
        refine v_iconst C (nI 3) dX9_word_38 (by decide) ?_
        refine n_callVi C hRm [.int (nI 3)] cw_X9_error ml_X9_58 (by decide) (show shp 0 = 9 from by decide +kernel) (by decide) rfl (c_error l G M 3 (by decide)) (by decide) rfl rfl (Nat.le_of_ble_eq_true rfl) dX9_word_39 (fun M5 hP_39 => ?_)
        subst hP_39
        have hS : wordS Y n hN (nI c) (nI j) = er 3 Y := by unfold wordS; (try rw [nI_clamp (by omega)]); (try rw [nI_clamp (by omega)]); (try rw [nI_clamp (by omega)]); (first | rw [if_neg h_5] | rw [if_pos (Decidable.not_not.mp h_5)] | rw [if_pos h_5] | rw [if_pos (congrArg nI h_5)] | rw [if_neg (fun q9 => h_5 ((nI_eq (by omega) (by omega)).mp q9))] | rw [if_neg (Nat.not_le.mpr h_5)] | rw [if_neg (Nat.not_lt.mpr h_5)] | skip); (first | rw [if_neg h_12] | rw [if_pos (Decidable.not_not.mp h_12)] | rw [if_pos h_12] | rw [if_pos (congrArg nI h_12)] | rw [if_neg (fun q9 => h_12 ((nI_eq (by omega) (by omega)).mp q9))] | rw [if_neg (Nat.not_le.mpr h_12)] | rw [if_neg (Nat.not_lt.mpr h_12)] | skip); (rw [if_neg (Int32.not_lt.mpr (at_nn hY hc h_34))]); all_goals rfl
        exact n_iret C hRt (rfl) dX9_word_42 (by rw [hS] <;> rfl) (by rw [hS]; exact pc_er hR (okG.rf M) (show (3 : Nat) ≠ 0 by decide))
    · skip
      refine v_aload_n C 0 dX9_word_15 rfl ?_
      refine v_iconst C (nI 1) dX9_word_16 (by decide) ?_
      refine n_callVi C hRm [.int (nI 1)] cw_X9_error ml_X9_58 (by decide) (show shp 0 = 9 from by decide +kernel) (by decide) rfl (c_error l G M 1 (by decide)) (by decide) rfl rfl (Nat.le_of_ble_eq_true rfl) dX9_word_17 (fun M5 hP_17 => ?_)
      subst hP_17
      have hS : wordS Y n hN (nI c) k = er 1 Y := by unfold wordS; (try rw [nI_clamp (by omega)]); (try rw [nI_clamp (by omega)]); (try rw [nI_clamp (by omega)]); (first | rw [if_neg h_5] | rw [if_pos (Decidable.not_not.mp h_5)] | rw [if_pos h_5] | rw [if_pos (congrArg nI h_5)] | rw [if_neg (fun q9 => h_5 ((nI_eq (by omega) (by omega)).mp q9))] | rw [if_neg (Nat.not_le.mpr h_5)] | rw [if_neg (Nat.not_lt.mpr h_5)] | skip); (first | rw [if_neg h_12] | rw [if_pos (Decidable.not_not.mp h_12)] | rw [if_pos h_12] | rw [if_pos (congrArg nI h_12)] | rw [if_neg (fun q9 => h_12 ((nI_eq (by omega) (by omega)).mp q9))] | rw [if_neg (Nat.not_le.mpr h_12)] | rw [if_neg (Nat.not_lt.mpr h_12)] | skip); all_goals rfl
      exact n_iret C hRt (rfl) dX9_word_20 (by rw [hS] <;> rfl) (by rw [hS]; exact pc_er hR (okG.rf M) (show (1 : Nat) ≠ 0 by decide))
set_option maxHeartbeats 4000000 in
set_option maxRecDepth 100000 in
theorem x_teach (l : Launch) (G : GC) (M : Mm) (Y : Nat → Int32) (n hN : Nat) (hR : YR M 1 Y n hN) (hY : YOk Y n hN) (hI : yI Y n) (hJ : yJ Y n) (child k0 : Int32) : CI l G 8 yX9_teach cX9_teach 7 .int [.ref (gb G + 0), .int child, .int k0] M ((teachS Y n hN child k0).2.1) (PubC M (teachS Y n hN child k0).2.2 n hN (teachS Y n hN child k0).1) := by
  refine Con.of (by decide +kernel) (Nat.le_of_ble_eq_true rfl) ?_
  intro f C hRm hRt _
  have hn2 := hY.1.2.1
  have h5 := hY.1.2.2.2
  have LTs : ∀ c j, c < n → j ≤ 60 → (nI 0 ≤ nI c ∧ nI c ≤ Y 0 - nI 1) → (nI 0 ≤ nI j ∧ nI j ≤ nI 60) → child = nI c → k0 = nI j → Vc f G NPh M 29 [(5, .int (nI 0)), (4, .int (nI 0)), (3, .int (nI 0)), (0, .ref (gb G + 0)), (1, .int (nI c)), (2, .int (nI j))] [] := by
    intro c j hc hj hcc hjj e1 e2
    subst e1 e2
    have LT : ∀ (kk : Nat) (k : Nat) (b : Nat) (le : Int32) (X : Mm), 7 - k = kk → k ≤ 7 → (0 < k → b = (tchA Y n hN c j k).1) → (0 < k → le = (tchA Y n hN c j k).2) → b < 7 → YR X 1 Y n hN → okG M X → Vc f G NPh X 29 [(5, .int (nI k)), (4, .int le), (3, .int (nI b)), (0, .ref (gb G + 0)), (1, .int (nI c)), (2, .int (nI j))] [] := by
      intro kk
      induction kk using Nat.strongRecOn with
      | _ kk ihLT =>
        intro k b le X hkk hk hb hl hb7 hRX hFX
        refine v_iload C 0 dX9_teach_29 rfl ?_
        refine v_bipush C (nI 7) dX9_teach_31 (by decide) ?_
        refine n_icmp_ge C (by omega) (by omega) 108 dX9_teach_33 rfl (fun h_33 => ?_) (fun h_33 => ?_)
        · skip
          refine v_iload_n C 2 dX9_teach_108 rfl ?_
          have h9 : k = 7 := by omega
          subst h9
          have hS : teachS Y n hN (nI c) (nI j) = (0, nI b, Y) := by unfold teachS; rw [if_pos hcc, if_pos hjj, nI_clamp (by omega), nI_clamp (by omega), ← hb (by decide), kv_lt hb7]
          exact n_iret C hRt rfl dX9_teach_109 (by rw [hS]) (by rw [hS]; exact pc_ok hRX hFX)
        · skip
          refine v_aload_n C 3 dX9_teach_36 rfl ?_
          refine g_X9_16 C (by decide) (show shp 0 = 9 from by decide +kernel) dX9_teach_37 ?_
          refine v_aload_n C 3 dX9_teach_40 rfl ?_
          refine g_X9_10 C (by decide) (show shp 0 = 9 from by decide +kernel) dX9_teach_41 ?_
          refine n_callVv C hRm [.ref (gb G + 1)] cw_X8_takeFrom ml_X9_232 (by decide) (s_y (by decide)) (by decide) rfl (y_take l G X 62 1 (by decide) (by decide) (by decide) Y _ _ hRX hY) (by decide) rfl rfl (Nat.le_of_ble_eq_true rfl) dX9_teach_44 (fun Mq1 hP_44 => ?_)
          obtain ⟨hRq1, hFq1⟩ := hP_44
          have hRq1o := hRX.fr (fun a h1 h2 => hFq1 a (by omega))
          have hGq1 := hFX.tr hFq1
          refine v_aload_n C 3 dX9_teach_47 rfl ?_
          refine g_X9_16 C (by decide) (show shp 0 = 9 from by decide +kernel) dX9_teach_48 ?_
          refine g_X9_66 C (by decide) (s_y (by decide)) dX9_teach_51 ?_
          refine v_iload_n C 4 dX9_teach_54 rfl ?_
          refine v_aald C rfl (by decide) (show shp 63 = 20 from by decide +kernel) (by decide) (by decide) (show c < 10 from by omega) (by decide) (62 + 20 + 3 * c) (by simp only [aOff] <;> omega) dX9_teach_55 ?_
          refine v_iload C 0 dX9_teach_56 rfl ?_
          refine p_X9_70 C (show 62 + 20 + 3 * c < 221 from by omega) (s_ch (by decide) (by omega)) dX9_teach_58 ?_
          have hRq2 : YR (up2 Mq1 (62 + 20 + 3 * c) 0 (nI k)) 62 (upd Y (7 + 6 * c + 0) (nI k)) n hN := hRq1.wch (c := c) (f := 0) (by omega) (by omega) (by omega) (by omega) (YOk.t4 hY) (YOk.t5 hY) _
          have hFq2 : okG M (up2 Mq1 (62 + 20 + 3 * c) 0 (nI k)) := hGq1.tr (Fr.up (y := 62) _ (by omega))
          have hRq3 := hRq1o.fr (M' := up2 Mq1 (62 + 20 + 3 * c) 0 (nI k)) (fun a h1 h2 => up2_ne _ _ _ (by omega))
          have hYk := yk_kind hY hc (show k < 7 by omega)
          have hIk : yI (upd Y (7 + 6 * c + 0) (nI k)) n := hI.to (fun d _ => upd_ne _ _ (by omega)) (fun q _ => upd_ne _ _ (by omega)) (fun q _ => upd_ne _ _ (by omega))
          refine v_aload_n C 3 dX9_teach_61 rfl ?_
          refine g_X9_16 C (by decide) (show shp 0 = 9 from by decide +kernel) dX9_teach_62 ?_
          refine v_iload_n C 5 dX9_teach_65 rfl ?_
          refine n_callVv C hRm [.int (nI j)] cw_X8_pass ml_X9_192 (by decide) (s_y (by decide)) (by decide) rfl (y_pass l G (up2 Mq1 (62 + 20 + 3 * c) 0 (nI k)) 62 (by decide) (upd Y (7 + 6 * c + 0) (nI k)) _ _ hRq2 hYk hIk j (by omega)) (by decide) rfl rfl (Nat.le_of_ble_eq_true rfl) dX9_teach_66 (fun Mq4 hP_66 => ?_)
          obtain ⟨hRq4, hFq4⟩ := hP_66
          have hRq4o := hRq3.fr (fun a h1 h2 => hFq4 a (by omega))
          have hGq4 := hFq2.tr hFq4
          refine v_aload_n C 3 dX9_teach_69 rfl ?_
          refine g_X9_16 C (by decide) (show shp 0 = 9 from by decide +kernel) dX9_teach_70 ?_
          refine g_X9_66 C (by decide) (s_y (by decide)) dX9_teach_73 ?_
          refine v_iload_n C 4 dX9_teach_76 rfl ?_
          refine v_aald C rfl (by decide) (show shp 63 = 20 from by decide +kernel) (by decide) (by decide) (show c < 10 from by omega) (by decide) (62 + 20 + 3 * c) (by simp only [aOff] <;> omega) dX9_teach_77 ?_
          refine g_X9_234 C (show 62 + 20 + 3 * c < 221 from by omega) (s_ch (by decide) (by omega)) dX9_teach_78 ?_
          refine v_top ((passS (upd Y (7 + 6 * c + 0) (nI k)) n hN j) (7 + 6 * c + 5)) (hRq4.ch (by omega) (by omega) (by omega)) ?_
          refine v_top (aloS Y n hN c j k) (rfl) ?_
          refine v_istore C [(6, .int (aloS Y n hN c j k)), (5, .int (nI k)), (4, .int le), (3, .int (nI b)), (0, .ref (gb G + 0)), (1, .int (nI c)), (2, .int (nI j))] dX9_teach_81 (by decide) rfl ?_
          refine v_iload C 1 dX9_teach_83 rfl ?_
          refine n_if_eq C (by omega) 95 dX9_teach_85 rfl (fun h_85 => ?_) (fun h_85 => ?_)
          · skip
            have hq : (tchA Y n hN c j k).1 = 7 ∨ aloS Y n hN c j k < (tchA Y n hN c j k).2 := Or.inl (by rw [show k = 0 from h_85]; rfl)
            refine v_iload C 1 dX9_teach_95 rfl ?_
            refine v_istore_n C [(3, .int (nI k)), (6, .int (aloS Y n hN c j k)), (5, .int (nI k)), (4, .int le), (0, .ref (gb G + 0)), (1, .int (nI c)), (2, .int (nI j))] dX9_teach_97 rfl (by decide) rfl ?_
            refine v_iload C 1 dX9_teach_98 rfl ?_
            refine v_istore C [(4, .int (aloS Y n hN c j k)), (3, .int (nI k)), (6, .int (aloS Y n hN c j k)), (5, .int (nI k)), (0, .ref (gb G + 0)), (1, .int (nI c)), (2, .int (nI j))] dX9_teach_100 (by decide) rfl ?_
            refine v_iinc C (nI (k + 1)) 3 [(5, .int (nI (k + 1))), (4, .int (aloS Y n hN c j k)), (3, .int (nI k)), (6, .int (aloS Y n hN c j k)), (0, .ref (gb G + 0)), (1, .int (nI c)), (2, .int (nI j))] dX9_teach_102 rfl (nI_add _ _) (by decide) rfl ?_
            refine v_goto C 29 dX9_teach_105 rfl ?_
            refine v_sub [0, 1, 2, 4, 5, 6] [(5, .int (nI (k + 1))), (4, .int (aloS Y n hN c j k)), (3, .int (nI k)), (0, .ref (gb G + 0)), (1, .int (nI c)), (2, .int (nI j))] rfl ?_
            exact ihLT _ (by omega) (k + 1) k (aloS Y n hN c j k) Mq4 rfl (by omega) (fun _ => by show _ = ((if _ then _ else _ : Nat × Int32)).1; rw [if_pos hq]) (fun _ => by show _ = ((if _ then _ else _ : Nat × Int32)).2; rw [if_pos hq]) (by omega) hRq4o hGq4
          · skip
            refine v_iload C 0 dX9_teach_88 rfl ?_
            refine v_iload C 2 dX9_teach_90 rfl ?_
            refine v_icmp_ge C 102 dX9_teach_92 rfl (fun h_92 => ?_) (fun h_92 => ?_)
            · skip
              have hq : ¬ ((tchA Y n hN c j k).1 = 7 ∨ aloS Y n hN c j k < (tchA Y n hN c j k).2) := by rw [← hl (by omega), ← hb (by omega)]; exact fun z => z.elim (fun q => absurd q (by omega)) (fun q => absurd h_92 (Int32.not_le.mpr q))
              refine v_iinc C (nI (k + 1)) 1 [(5, .int (nI (k + 1))), (6, .int (aloS Y n hN c j k)), (4, .int le), (3, .int (nI b)), (0, .ref (gb G + 0)), (1, .int (nI c)), (2, .int (nI j))] dX9_teach_102 rfl (nI_add _ _) (by decide) rfl ?_
              refine v_goto C 29 dX9_teach_105 rfl ?_
              refine v_sub [0, 2, 3, 4, 5, 6] [(5, .int (nI (k + 1))), (4, .int le), (3, .int (nI b)), (0, .ref (gb G + 0)), (1, .int (nI c)), (2, .int (nI j))] rfl ?_
              exact ihLT _ (by omega) (k + 1) b le Mq4 rfl (by omega) (fun _ => by show _ = ((if _ then _ else _ : Nat × Int32)).1; rw [if_neg hq, hb (by omega)]) (fun _ => by show _ = ((if _ then _ else _ : Nat × Int32)).2; rw [if_neg hq, hl (by omega)]) (by omega) hRq4o hGq4
            · skip
              have hq : (tchA Y n hN c j k).1 = 7 ∨ aloS Y n hN c j k < (tchA Y n hN c j k).2 := Or.inr (by rw [← hl (by omega)]; exact Int32.not_le.mp h_92)
              refine v_iload C 1 dX9_teach_95 rfl ?_
              refine v_istore_n C [(3, .int (nI k)), (6, .int (aloS Y n hN c j k)), (5, .int (nI k)), (4, .int le), (0, .ref (gb G + 0)), (1, .int (nI c)), (2, .int (nI j))] dX9_teach_97 rfl (by decide) rfl ?_
              refine v_iload C 1 dX9_teach_98 rfl ?_
              refine v_istore C [(4, .int (aloS Y n hN c j k)), (3, .int (nI k)), (6, .int (aloS Y n hN c j k)), (5, .int (nI k)), (0, .ref (gb G + 0)), (1, .int (nI c)), (2, .int (nI j))] dX9_teach_100 (by decide) rfl ?_
              refine v_iinc C (nI (k + 1)) 3 [(5, .int (nI (k + 1))), (4, .int (aloS Y n hN c j k)), (3, .int (nI k)), (6, .int (aloS Y n hN c j k)), (0, .ref (gb G + 0)), (1, .int (nI c)), (2, .int (nI j))] dX9_teach_102 rfl (nI_add _ _) (by decide) rfl ?_
              refine v_goto C 29 dX9_teach_105 rfl ?_
              refine v_sub [0, 1, 2, 4, 5, 6] [(5, .int (nI (k + 1))), (4, .int (aloS Y n hN c j k)), (3, .int (nI k)), (0, .ref (gb G + 0)), (1, .int (nI c)), (2, .int (nI j))] rfl ?_
              exact ihLT _ (by omega) (k + 1) k (aloS Y n hN c j k) Mq4 rfl (by omega) (fun _ => by show _ = ((if _ then _ else _ : Nat × Int32)).1; rw [if_pos hq]) (fun _ => by show _ = ((if _ then _ else _ : Nat × Int32)).2; rw [if_pos hq]) (by omega) hRq4o hGq4
    exact LT _ 0 0 (nI 0) M rfl (by decide) (fun h => absurd h (by decide)) (fun h => absurd h (by decide)) (by decide) hR (okG.rf M)
  show Vc f G NPh M 0 [(0, .ref (gb G + 0)), (1, .int child), (2, .int k0)] []
  refine v_aload_n C 0 dX9_teach_0 rfl ?_
  refine v_iload_n C 1 dX9_teach_1 rfl ?_
  refine n_callVp C hRm [.int child] cw_X9_noChild ml_X9_84 (by decide) (show shp 0 = 9 from by decide +kernel) (by decide) rfl (c_noChild l G M Y _ _ hR hY child) (by decide) rfl rfl (Nat.le_of_ble_eq_true rfl) dX9_teach_2 ?_
  refine nb_if_ne C 15 dX9_teach_5 rfl (fun h_5 => ?_) (fun h_5 => ?_)
  · skip
    refine v_aload_n C 0 dX9_teach_15 rfl ?_
    refine v_iconst C (nI 1) dX9_teach_16 (by decide) ?_
    refine n_callVi C hRm [.int (nI 1)] cw_X9_error ml_X9_58 (by decide) (show shp 0 = 9 from by decide +kernel) (by decide) rfl (c_error l G M 1 (by decide)) (by decide) rfl rfl (Nat.le_of_ble_eq_true rfl) dX9_teach_17 (fun M5 hP_17 => ?_)
    subst hP_17
    have hS : teachS Y n hN child k0 = er 1 Y := by unfold teachS; (try rw [nI_clamp (by omega)]); (try rw [nI_clamp (by omega)]); (try rw [nI_clamp (by omega)]); (first | rw [if_neg h_5] | rw [if_pos (Decidable.not_not.mp h_5)] | rw [if_pos h_5] | rw [if_pos (congrArg nI h_5)] | rw [if_neg (fun q9 => h_5 ((nI_eq (by omega) (by omega)).mp q9))] | rw [if_neg (Nat.not_le.mpr h_5)] | rw [if_neg (Nat.not_lt.mpr h_5)] | skip); all_goals rfl
    exact n_iret C hRt (rfl) dX9_teach_20 (by rw [hS] <;> rfl) (by rw [hS]; exact pc_er hR (okG.rf M) (show (1 : Nat) ≠ 0 by decide))
  · skip
    obtain ⟨c, hc, rfl⟩ := is_nat hY.1.1 hY.1.2.1 (Decidable.not_not.mp h_5)
    refine v_iload_n C 2 dX9_teach_8 rfl ?_
    refine n_callSp C hRm [.int k0] cw_X9_notAhead st_X9_notAhead ml_X9_229 (c_notAhead l G M k0) (by decide) rfl rfl (Nat.le_of_ble_eq_true rfl) dX9_teach_9 ?_
    refine nb_if_eq C 21 dX9_teach_12 rfl (fun h_12 => ?_) (fun h_12 => ?_)
    · skip
      obtain ⟨j, hj, rfl⟩ := within_nat (by decide) (Decidable.not_not.mp h_12)
      refine v_iconst C (nI 0) dX9_teach_21 (by decide) ?_
      refine v_istore_n C [(3, .int (nI 0)), (0, .ref (gb G + 0)), (1, .int (nI c)), (2, .int (nI j))] dX9_teach_22 rfl (by decide) rfl ?_
      refine v_iconst C (nI 0) dX9_teach_23 (by decide) ?_
      refine v_istore C [(4, .int (nI 0)), (3, .int (nI 0)), (0, .ref (gb G + 0)), (1, .int (nI c)), (2, .int (nI j))] dX9_teach_24 (by decide) rfl ?_
      refine v_iconst C (nI 0) dX9_teach_26 (by decide) ?_
      refine v_istore C [(5, .int (nI 0)), (4, .int (nI 0)), (3, .int (nI 0)), (0, .ref (gb G + 0)), (1, .int (nI c)), (2, .int (nI j))] dX9_teach_27 (by decide) rfl ?_
      refine v_sub [0, 1, 2, 3, 4, 5] [(5, .int (nI 0)), (4, .int (nI 0)), (3, .int (nI 0)), (0, .ref (gb G + 0)), (1, .int (nI c)), (2, .int (nI j))] rfl ?_
      exact LTs c j hc hj (Decidable.not_not.mp h_5) (Decidable.not_not.mp h_12) rfl rfl
    · skip
      refine v_aload_n C 0 dX9_teach_15 rfl ?_
      refine v_iconst C (nI 1) dX9_teach_16 (by decide) ?_
      refine n_callVi C hRm [.int (nI 1)] cw_X9_error ml_X9_58 (by decide) (show shp 0 = 9 from by decide +kernel) (by decide) rfl (c_error l G M 1 (by decide)) (by decide) rfl rfl (Nat.le_of_ble_eq_true rfl) dX9_teach_17 (fun M5 hP_17 => ?_)
      subst hP_17
      have hS : teachS Y n hN (nI c) k0 = er 1 Y := by unfold teachS; (try rw [nI_clamp (by omega)]); (try rw [nI_clamp (by omega)]); (try rw [nI_clamp (by omega)]); (first | rw [if_neg h_5] | rw [if_pos (Decidable.not_not.mp h_5)] | rw [if_pos h_5] | rw [if_pos (congrArg nI h_5)] | rw [if_neg (fun q9 => h_5 ((nI_eq (by omega) (by omega)).mp q9))] | rw [if_neg (Nat.not_le.mpr h_5)] | rw [if_neg (Nat.not_lt.mpr h_5)] | skip); (first | rw [if_neg h_12] | rw [if_pos (Decidable.not_not.mp h_12)] | rw [if_pos h_12] | rw [if_pos (congrArg nI h_12)] | rw [if_neg (fun q9 => h_12 ((nI_eq (by omega) (by omega)).mp q9))] | rw [if_neg (Nat.not_le.mpr h_12)] | rw [if_neg (Nat.not_lt.mpr h_12)] | skip); all_goals rfl
      exact n_iret C hRt (rfl) dX9_teach_20 (by rw [hS] <;> rfl) (by rw [hS]; exact pc_er hR (okG.rf M) (show (1 : Nat) ≠ 0 by decide))
theorem trm_hi {Y : Nat → Int32} {n : Nat} (hn : n ≤ 10) {i : Nat} (hi : i < 67 ∨ 167 ≤ i) (h3 : i ≠ 3) : ∀ k, trmI Y n k i = Y i
  | 0 => rfl
  | k + 1 => by
    show termS (trmI Y n k) n i = Y i
    unfold termS
    rw [upd_ne _ _ h3, lkA_off hn hi _ (Nat.le_refl _)]
    exact trm_hi hn hi h3 k
theorem tx4_trm {Y : Nat → Int32} {n : Nat} (hn : n ≤ 10) (h : tx4 Y) (k : Nat) : tx4 (trmI Y n k) := fun i hi => by
  have e : ∀ q, 321 ≤ q → trmI Y n k q = Y q := fun q hq => trm_hi hn (by omega) (by omega) k
  rw [cN_eq (e _ (by omega))] at hi
  rw [cN_eq (e _ (by omega))]; exact h i hi
set_option maxHeartbeats 4000000 in
set_option maxRecDepth 100000 in
theorem x_terms (l : Launch) (G : GC) (M : Mm) (Y : Nat → Int32) (n hN : Nat) (hR : YR M 1 Y n hN) (hY : YOk Y n hN) (hI : yI Y n) (hJ : yJ Y n) (k : Int32) : CI l G 5 yX9_terms cX9_terms 3 .int [.ref (gb G + 0), .int k] M ((termsS Y n k).2.1) (PubC M (termsS Y n k).2.2 n hN (termsS Y n k).1) := by
  refine Con.of (by decide +kernel) (Nat.le_of_ble_eq_true rfl) ?_
  intro f C hRm hRt _
  have hn2 := hY.1.2.1
  have h5 := hY.1.2.2.2
  have LTs : ∀ j, 1 ≤ j ∧ j ≤ 20 → (nI 1 ≤ nI j ∧ nI j ≤ nI 20) → Y 3 + nI j ≤ nI 999 → k = nI j → Vc f G NPh M 39 [(2, .int (nI 0)), (0, .ref (gb G + 0)), (1, .int (nI j))] [] := by
    intro j hj hjj h999 e1
    subst e1
    have LT : ∀ (kk : Nat) (i : Nat) (X : Mm), j - i = kk → i ≤ j → YR X 1 (trmI Y n i) n hN → okG M X → Vc f G NPh X 39 [(2, .int (nI i)), (0, .ref (gb G + 0)), (1, .int (nI j))] [] := by
      intro kk
      induction kk using Nat.strongRecOn with
      | _ kk ihLT =>
        intro i X hkk hi hRX hFX
        refine v_iload_n C 0 dX9_terms_39 rfl ?_
        refine v_iload_n C 2 dX9_terms_40 rfl ?_
        refine n_icmp_ge C (by omega) (by omega) 57 dX9_terms_41 rfl (fun h_41 => ?_) (fun h_41 => ?_)
        · skip
          refine v_aload_n C 1 dX9_terms_57 rfl ?_
          refine g_X9_10 C (by decide) (show shp 0 = 9 from by decide +kernel) dX9_terms_58 ?_
          refine g_X9_198 C (by decide) (s_y (by decide)) dX9_terms_61 ?_
          refine v_top ((trmI Y n i) 3) (hRX.1.2.2.2.1) ?_
          have h9 : i = j := by omega
          subst h9
          have hS : termsS Y n (nI i) = (0, trmI Y n i 3, trmI Y n i) := by unfold termsS; rw [if_pos hjj, if_pos h999, nI_clamp (by omega)]
          exact n_iret C hRt rfl dX9_terms_64 (by rw [hS]) (by rw [hS]; exact pc_ok hRX hFX)
        · skip
          refine v_aload_n C 1 dX9_terms_44 rfl ?_
          refine g_X9_10 C (by decide) (show shp 0 = 9 from by decide +kernel) dX9_terms_45 ?_
          refine n_callVv C hRm [] cw_X8_passTerm ml_X9_201 (by decide) (s_y (by decide)) (by decide) rfl (y_passTerm l G X 1 (by decide) (trmI Y n i) _ _ hRX (yk_trm hY i)  (tx4_trm hn2 hJ.2.2.2.2 i)) (by decide) rfl rfl (Nat.le_of_ble_eq_true rfl) dX9_terms_48 (fun Mq1 hP_48 => ?_)
          obtain ⟨hRq1, hFq1⟩ := hP_48
          have hGq1 := hFX.tr hFq1
          refine v_iinc C (nI (i + 1)) 0 [(2, .int (nI (i + 1))), (0, .ref (gb G + 0)), (1, .int (nI j))] dX9_terms_51 rfl (nI_add _ _) (by decide) rfl ?_
          refine v_goto C 39 dX9_terms_54 rfl ?_
          refine v_sub [0, 1, 2] [(2, .int (nI (i + 1))), (0, .ref (gb G + 0)), (1, .int (nI j))] rfl ?_
          exact ihLT _ (by omega) (i + 1) Mq1 rfl (by omega) (by exact hRq1) hGq1
    exact LT _ 0 M rfl (Nat.zero_le _) hR (okG.rf M)
  show Vc f G NPh M 0 [(0, .ref (gb G + 0)), (1, .int k)] []
  refine v_iload_n C 1 dX9_terms_0 rfl ?_
  refine v_iconst C (nI 1) dX9_terms_1 (by decide) ?_
  refine v_bipush C (nI 20) dX9_terms_2 (by decide) ?_
  refine n_callSp C hRm [.int k, .int (nI 1), .int (nI 20)] cw_X9_outside st_X9_outside ml_X9_54 (c_outside l G M k (nI 1) (nI 20)) (by decide) rfl rfl (Nat.le_of_ble_eq_true rfl) dX9_terms_4 ?_
  refine nb_if_eq C 16 dX9_terms_7 rfl (fun h_7 => ?_) (fun h_7 => ?_)
  · skip
    obtain ⟨j, hj, rfl⟩ := within_nat2 (by decide) (by decide) (Decidable.not_not.mp h_7)
    refine v_aload_n C 0 dX9_terms_16 rfl ?_
    refine g_X9_10 C (by decide) (show shp 0 = 9 from by decide +kernel) dX9_terms_17 ?_
    refine g_X9_198 C (by decide) (s_y (by decide)) dX9_terms_20 ?_
    refine v_top (Y 3) (hR.1.2.2.2.1) ?_
    refine v_iload_n C 1 dX9_terms_23 rfl ?_
    refine v_iadd C dX9_terms_24 ?_
    refine v_sipush C (nI 999) dX9_terms_25 (by decide) ?_
    refine v_icmp_le C 37 dX9_terms_28 rfl (fun h_28 => ?_) (fun h_28 => ?_)
    · skip
      refine v_iconst C (nI 0) dX9_terms_37 (by decide) ?_
      refine v_istore_n C [(2, .int (nI 0)), (0, .ref (gb G + 0)), (1, .int (nI j))] dX9_terms_38 rfl (by decide) rfl ?_
      refine v_sub [0, 1, 2] [(2, .int (nI 0)), (0, .ref (gb G + 0)), (1, .int (nI j))] rfl ?_
      exact LTs j hj (Decidable.not_not.mp h_7) (by first | exact h_28 | exact Int32.not_lt.mp h_28) rfl
    · skip
      refine v_aload_n C 0 dX9_terms_31 rfl ?_
      refine v_iconst C (nI 3) dX9_terms_32 (by decide) ?_
      refine n_callVi C hRm [.int (nI 3)] cw_X9_error ml_X9_58 (by decide) (show shp 0 = 9 from by decide +kernel) (by decide) rfl (c_error l G M 3 (by decide)) (by decide) rfl rfl (Nat.le_of_ble_eq_true rfl) dX9_terms_33 (fun M5 hP_33 => ?_)
      subst hP_33
      have hS : termsS Y n (nI j) = er 3 Y := by unfold termsS; (try rw [nI_clamp (by omega)]); (try rw [nI_clamp (by omega)]); (try rw [nI_clamp (by omega)]); (first | rw [if_neg h_7] | rw [if_pos (Decidable.not_not.mp h_7)] | rw [if_pos h_7] | rw [if_pos (congrArg nI h_7)] | rw [if_neg (fun q9 => h_7 ((nI_eq (by omega) (by omega)).mp q9))] | rw [if_neg (Nat.not_le.mpr h_7)] | rw [if_neg (Nat.not_lt.mpr h_7)] | skip); (first | rw [if_neg h_28] | rw [if_pos (Decidable.not_not.mp h_28)] | rw [if_pos h_28] | rw [if_pos (congrArg nI h_28)] | rw [if_neg (fun q9 => h_28 ((nI_eq (by omega) (by omega)).mp q9))] | rw [if_neg (Nat.not_le.mpr h_28)] | rw [if_neg (Nat.not_lt.mpr h_28)] | skip); all_goals rfl
      exact n_iret C hRt (rfl) dX9_terms_36 (by rw [hS] <;> rfl) (by rw [hS]; exact pc_er hR (okG.rf M) (show (3 : Nat) ≠ 0 by decide))
  · skip
    refine v_aload_n C 0 dX9_terms_10 rfl ?_
    refine v_iconst C (nI 1) dX9_terms_11 (by decide) ?_
    refine n_callVi C hRm [.int (nI 1)] cw_X9_error ml_X9_58 (by decide) (show shp 0 = 9 from by decide +kernel) (by decide) rfl (c_error l G M 1 (by decide)) (by decide) rfl rfl (Nat.le_of_ble_eq_true rfl) dX9_terms_12 (fun M5 hP_12 => ?_)
    subst hP_12
    have hS : termsS Y n k = er 1 Y := by unfold termsS; (try rw [nI_clamp (by omega)]); (try rw [nI_clamp (by omega)]); (try rw [nI_clamp (by omega)]); (first | rw [if_neg h_7] | rw [if_pos (Decidable.not_not.mp h_7)] | rw [if_pos h_7] | rw [if_pos (congrArg nI h_7)] | rw [if_neg (fun q9 => h_7 ((nI_eq (by omega) (by omega)).mp q9))] | rw [if_neg (Nat.not_le.mpr h_7)] | rw [if_neg (Nat.not_lt.mpr h_7)] | skip); all_goals rfl
    exact n_iret C hRt (rfl) dX9_terms_15 (by rw [hS] <;> rfl) (by rw [hS]; exact pc_er hR (okG.rf M) (show (1 : Nat) ≠ 0 by decide))
