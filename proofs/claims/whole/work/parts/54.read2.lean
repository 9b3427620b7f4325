def qcon (l : Launch) (G : GC) (d : Nat) (Y : Nat → Int32) (t u op : Nat) (g : PS → PS) : Prop := ∀ (X : Mm) (S : PS), cRp X Y t u S → okS t S → S.1 = true → CI l G d yX3_readQ cX3_readQ 4 .boolean [.ref (gb G + 187), .int (nI op)] X (b2i ((g S).1 = true)) (fun M' => cRp M' Y t u (g S) ∧ rF X M')
def jcon (l : Launch) (G : GC) (d : Nat) (Y : Nat → Int32) (t u lv op : Nat) (g : PS → PS) : Prop := ∀ (X : Mm) (S : PS), cRp X Y t u S → okS t S → S.1 = true → CI l G d yX3_readJoined cX3_readJoined 7 .boolean [.ref (gb G + 187), .int (nI lv), .int (nI op)] X (b2i ((g S).1 = true)) (fun M' => cRp M' Y t u (g S) ∧ rF X M')
def RB (l : Launch) (G : GC) (Y : Nat → Int32) (t u fu : Nat) : Prop := ∀ op, op ≤ 5 → (∀ lv, lv ≤ 5 → 6 * (5 - op) + (5 - lv) < fu → jcon l G (9 + 2 * fu) Y t u lv op (pz Y t u fu lv op)) ∧ (6 * (5 - op) < fu → qcon l G (8 + 2 * fu) Y t u op (pz Y t u fu 5 op))
theorem dg_n {Y : Nat → Int32} {t : Nat} {S : PS} (hB : tB Y t) (h : isDg (hereS Y t S)) : ¬ (hereS Y t S = nI 33 ∨ hereS Y t S = nI 40) := by
  obtain ⟨b, hb, hb2⟩ := here_b hB (dg_nn h)
  rw [hb2] at h ⊢
  exact dg_no b hb h
theorem st_n {Y : Nat → Int32} {t u : Nat} {S : PS} (hB : tB Y t) (hu : u < 2) : stP (1 + u) (hereS Y t S) ↔ ¬ (hereS Y t S < 0 ∨ nmS u (hereS Y t S) < 0) := by
  by_cases h : hereS Y t S < 0
  · exact ⟨fun q => absurd h q.1, fun q => absurd (Or.inl h) q⟩
  · obtain ⟨b, hb, hb2⟩ := here_b hB h
    rw [hb2, stP_n hb, st_nmb u hu b hb]
    rw [hb2] at h
    exact ⟨fun q z => z.elim h q, fun q z => q (Or.inr z)⟩
theorem st_3 {Y : Nat → Int32} {t : Nat} {S : PS} (hB : tB Y t) : stP 3 (hereS Y t S) ↔ (hereS Y t S = nI 33 ∨ hereS Y t S = nI 40) := by
  by_cases h : hereS Y t S < 0
  · exact ⟨fun q => absurd h q.1, fun q => by rcases q with q | q <;> (rw [q] at h; exact absurd h (by decide))⟩
  · obtain ⟨b, hb, hb2⟩ := here_b hB h
    rw [hb2, stP_n hb]; exact st_3b b hb
theorem st_4 {Y : Nat → Int32} {t : Nat} {S : PS} (hB : tB Y t) : stP 4 (hereS Y t S) ↔ hereS Y t S = nI 41 := by
  by_cases h : hereS Y t S < 0
  · exact ⟨fun q => absurd h q.1, fun q => by rw [q] at h; exact absurd h (by decide)⟩
  · obtain ⟨b, hb, hb2⟩ := here_b hB h
    rw [hb2, stP_n hb]; exact st_4b b hb
theorem here_bad {Y : Nat → Int32} {t : Nat} {S : PS} (h : ¬ S.1 = true) : hereS Y t S = -1 := if_neg (fun q => h q.1)
theorem cod_bad {v : Nat} {S : PS} (h : ¬ S.1 = true) : codS v S = S := if_neg h
theorem one_dg {Y : Nat → Int32} {t u op : Nat} {r1 r0 : PS → PS} {S : PS} (hB : tB Y t) (h : isDg (hereS Y t S)) : oneS Y t u r1 r0 op S = codS (numG Y t 4 S 0).2 (numG Y t 4 S 0).1 := by
  unfold oneS; rw [if_neg (dg_n hB h), if_pos h]
theorem one_nm {Y : Nat → Int32} {t u op j : Nat} {r1 r0 : PS → PS} {S : PS} (hB : tB Y t) (hu : u < 2) (hd : ¬ isDg (hereS Y t S)) (h : stP (1 + u) (hereS Y t S)) (hj : j < 5) (hj2 : nmS u (hereS Y t S) = nI j) : oneS Y t u r1 r0 op S = advS (codS (10000 + j) S) := by
  have h1 := (st_n hB hu).mp h
  have h2 : ¬ (hereS Y t S = nI 33 ∨ hereS Y t S = nI 40) := by
    obtain ⟨b, hb, hb2⟩ := here_b hB h.1
    have h3 : ¬ nmS u (nI b) < 0 := by rw [← hb2]; exact fun z => h1 (Or.inr z)
    rw [hb2]; exact nm_no u hu b hb h3
  unfold oneS
  rw [if_neg h2, if_neg hd, if_neg h1, hj2, toN (show j < 2 ^ 31 by omega)]
theorem one_no {Y : Nat → Int32} {t u op : Nat} {r1 r0 : PS → PS} {S : PS} (hB : tB Y t) (hu : u < 2) (hd : ¬ isDg (hereS Y t S)) (h : ¬ stP (1 + u) (hereS Y t S)) (h3 : op = 5 ∨ ¬ (hereS Y t S = nI 33 ∨ hereS Y t S = nI 40)) : oneS Y t u r1 r0 op S = (false, S.2) := by
  have h1 : hereS Y t S < 0 ∨ nmS u (hereS Y t S) < 0 := Classical.byContradiction fun z => h ((st_n hB hu).mpr z)
  unfold oneS
  by_cases h2 : hereS Y t S = nI 33 ∨ hereS Y t S = nI 40
  · rw [if_pos h2, if_pos (h3.resolve_right (fun z => z h2))]
  · rw [if_neg h2, if_neg hd, if_pos h1]
theorem one_not {Y : Nat → Int32} {t u op : Nat} {r1 r0 : PS → PS} {S : PS} (ho : op ≠ 5) (h : hereS Y t S = nI 33) : oneS Y t u r1 r0 op S = codS 20010 (r1 (advS S)) := by
  unfold oneS; rw [if_pos (Or.inl h), if_neg ho, if_pos h]
theorem one_par {Y : Nat → Int32} {t u op : Nat} {r1 r0 : PS → PS} {S : PS} (ho : op ≠ 5) (h1 : hereS Y t S = nI 33 ∨ hereS Y t S = nI 40) (h : ¬ hereS Y t S = nI 33) : oneS Y t u r1 r0 op S = clS Y t (r0 (advS S)) := by
  unfold oneS; rw [if_pos h1, if_neg ho, if_neg h]
theorem cl_bad {Y : Nat → Int32} {t : Nat} {R : PS} (h : ¬ hereS Y t R = nI 41) : clS Y t R = (false, R.2) := if_neg h
theorem cl_good {Y : Nat → Int32} {t : Nat} {R : PS} (h : hereS Y t R = nI 41) (hR : R.1 = true) : clS Y t R = advS R := by
  unfold clS advS; rw [if_pos h, hR]
set_option maxHeartbeats 4000000 in
set_option maxRecDepth 100000 in
theorem rb_q (l : Launch) (G : GC) (Y : Nat → Int32) (t u : Nat) (ht : t ≤ 60) (hu : u < 2) (hB : tB Y t) (fu : Nat) (hQ : RB l G Y t u fu) (op : Nat) (hop : op ≤ 5) (hr : 6 * (5 - op) < fu + 1) : qcon l G (8 + 2 * (fu + 1)) Y t u op (pz Y t u (fu + 1) 5 op) := by
  intro X S hp ho hS
  refine Con.of (by decide +kernel) (Nat.le_of_ble_eq_true rfl) ?_
  intro f C hRm hRt _
  have hz : pz Y t u (fu + 1) 5 op S = oneS Y t u (pz Y t u fu 5 (op + 1)) (pz Y t u fu 0 (op + 1)) op S := rfl
  rw [hz] at hRt
  show Vc f G NPh X 0 [(0, .ref (gb G + 187)), (1, .int (nI op))] []
  refine v_aload_n C 0 dX3_readQ_0 rfl ?_
  refine n_callVp C hRm [] cw_X3_next ml_X3_48 (by decide) (show shp 187 = 3 from by decide +kernel) (by decide) rfl (d_next l G X Y t u ht hu hB S hp ho hS) (by omega) rfl rfl (Nat.le_of_ble_eq_true rfl) dX3_readQ_1 ?_
  refine n_callSp C hRm [.int (hereS Y t S)] cw_X3_isDigit st_X3_isDigit ml_X3_84 (d_isDigit l G X (hereS Y t S)) (by omega) rfl rfl (Nat.le_of_ble_eq_true rfl) dX3_readQ_4 ?_
  refine nb_if_eq C 16 dX3_readQ_7 rfl (fun h_7 => ?_) (fun h_7 => ?_)
  · skip
    refine v_aload_n C 0 dX3_readQ_16 rfl ?_
    refine v_aload_n C 0 dX3_readQ_17 rfl ?_
    refine gd_names C (by omega) hp.1.2.2.2 dX3_readQ_18 ?_
    refine n_callVp C hRm [.ref (gK G (1 + u))] cw_X3_stands ml_X3_66 (by decide) (show shp 187 = 3 from by decide +kernel) (by decide) rfl (d_stands l G X Y t u ht hu hB S hp ho hS (1 + u) (by omega)) (by omega) rfl rfl (Nat.le_of_ble_eq_true rfl) dX3_readQ_21 ?_
    refine nb_st_eq C 62 dX3_readQ_24 rfl (fun h_24 => ?_) (fun h_24 => ?_)
    · skip
      refine v_iload_n C 1 dX3_readQ_62 rfl ?_
      refine v_iconst C (nI 5) dX3_readQ_63 (by decide) ?_
      refine n_icmp_ge C (by omega) (by omega) 76 dX3_readQ_64 rfl (fun h_64 => ?_) (fun h_64 => ?_)
      · skip
        refine v_iconst C (nI 0) dX3_readQ_76 (by decide) ?_
        have hF := show oneS Y t u (pz Y t u fu 5 (op + 1)) (pz Y t u fu 0 (op + 1)) op S = _ from one_no hB hu h_7 h_24 (Or.inl (by omega))
        exact n_iret C hRt (rfl) dX3_readQ_77 (by rw [hF]; exact b2i_F (fun q => by cases q)) ⟨by rw [hF]; exact hp.bad, (fun _ _ _ _ => rfl)⟩
      · skip
        refine v_aload_n C 0 dX3_readQ_67 rfl ?_
        refine v_ldcS C "!(" 3 (by decide +kernel) dX3_readQ_68 ?_
        refine n_callVp C hRm [.ref (gK G 3)] cw_X3_stands ml_X3_66 (by decide) (show shp 187 = 3 from by decide +kernel) (by decide) rfl (d_stands l G X Y t u ht hu hB S hp ho hS 3 (by omega)) (by omega) rfl rfl (Nat.le_of_ble_eq_true rfl) dX3_readQ_70 ?_
        refine nb_st_ne C 78 dX3_readQ_73 rfl (fun h_73 => ?_) (fun h_73 => ?_)
        · skip
          have hx := (st_3 hB).mp h_73
          have hlt := (here_lt (fun q => h_73.1 (by rw [q]; decide))).2
          refine v_aload_n C 0 dX3_readQ_78 rfl ?_
          refine n_callVp C hRm [] cw_X3_next ml_X3_48 (by decide) (show shp 187 = 3 from by decide +kernel) (by decide) rfl (d_next l G X Y t u ht hu hB S hp ho hS) (by omega) rfl rfl (Nat.le_of_ble_eq_true rfl) dX3_readQ_79 ?_
          refine v_bipush C (nI 33) dX3_readQ_82 (by decide) ?_
          refine v_icmp_ne C 91 dX3_readQ_84 rfl (fun h_84 => ?_) (fun h_84 => ?_)
          · skip
            refine v_iconst C (nI 0) dX3_readQ_91 (by decide) ?_
            refine v_istore_n C [(2, .int (nI 0)), (0, .ref (gb G + 187)), (1, .int (nI op))] dX3_readQ_92 rfl (by decide) rfl ?_
            refine v_aload_n C 1 dX3_readQ_93 rfl ?_
            refine v_dup C dX3_readQ_94 rfl ?_
            refine g_X3_41 C (by decide) (show shp 187 = 3 from by decide +kernel) dX3_readQ_95 ?_
            refine v_top (nI (S.2.1)) (hp.1.2.2.1) ?_
            refine v_iconst C (nI 1) dX3_readQ_98 (by decide) ?_
            refine n_iadd C dX3_readQ_99 ?_
            refine p_X3_41 C (by decide) (show shp 187 = 3 from by decide +kernel) dX3_readQ_100 ?_
            have hpq3 : cRp (up2 X 187 3 (nI (S.2.1 + 1))) Y t u (advS S) := hp.at
            have heq3 : rF X (up2 X 187 3 (nI (S.2.1 + 1))) := at_F _ _
            have hlq3 := hlt
            have hoq3 : okS t (advS S) := ⟨by show S.2.1 + 1 ≤ t; omega, by show S.2.2.length ≤ S.2.1 + 1; have := ho.2; omega⟩
            refine v_iload_n C 0 dX3_readQ_103 rfl ?_
            refine n_if_eq C (by omega) 127 dX3_readQ_104 rfl (fun _ => ?_) (fun h_104 => absurd h_104 (by decide))
            refine v_aload_n C 1 dX3_readQ_127 rfl ?_
            refine v_iconst C (nI 0) dX3_readQ_128 (by decide) ?_
            refine v_iload_n C 2 dX3_readQ_129 rfl ?_
            refine v_iconst C (nI 1) dX3_readQ_130 (by decide) ?_
            refine n_iadd C dX3_readQ_131 ?_
            refine n_callVi C hRm [.int (nI 0), .int (nI (op + 1))] cw_X3_readJoined ml_X3_44 (by decide) (show shp 187 = 3 from by decide +kernel) (by decide) rfl (((hQ (op + 1) (by omega)).1 0 (by omega) (by omega)) (up2 X 187 3 (nI (S.2.1 + 1))) (advS S) hpq3 hoq3 hS) (by omega) rfl rfl (Nat.le_of_ble_eq_true rfl) dX3_readQ_132 (fun Mq4 hP_132 => ?_)
            obtain ⟨hpq4, hfq4⟩ := hP_132
            have heq4 : rF X Mq4 := rF.tr heq3 hfq4
            have hmq4 := pz_mono Y t u fu 0 (op + 1) (advS S) hoq3.1
            have hoq4 := hmq4.ok hoq3
            refine nb_if_eq C 147 dX3_readQ_135 rfl (fun h_135 => ?_) (fun h_135 => ?_)
            · skip
              refine v_iconst C (nI 0) dX3_readQ_147 (by decide) ?_
              have hF := show oneS Y t u (pz Y t u fu 5 (op + 1)) (pz Y t u fu 0 (op + 1)) op S = _ from (one_par (by omega) hx h_84).trans (cl_bad (by rw [here_bad h_135]; decide))
              exact n_iret C hRt (rfl) dX3_readQ_148 (by rw [hF]; exact b2i_F (fun q => by cases q)) ⟨by rw [hF]; exact hpq4.bad, heq4⟩
            · skip
              refine v_aload_n C 1 dX3_readQ_138 rfl ?_
              refine v_ldcS C ")" 4 (by decide +kernel) dX3_readQ_139 ?_
              refine n_callVp C hRm [.ref (gK G 4)] cw_X3_stands ml_X3_66 (by decide) (show shp 187 = 3 from by decide +kernel) (by decide) rfl (d_stands l G Mq4 Y t u ht hu hB (pz Y t u fu 0 (op + 1) (advS S)) hpq4 hoq4 h_135 4 (by omega)) (by omega) rfl rfl (Nat.le_of_ble_eq_true rfl) dX3_readQ_141 ?_
              refine nb_st_ne C 149 dX3_readQ_144 rfl (fun h_144 => ?_) (fun h_144 => ?_)
              · skip
                refine v_aload_n C 1 dX3_readQ_149 rfl ?_
                refine v_dup C dX3_readQ_150 rfl ?_
                refine g_X3_41 C (by decide) (show shp 187 = 3 from by decide +kernel) dX3_readQ_151 ?_
                refine v_top (nI ((pz Y t u fu 0 (op + 1) (advS S)).2.1)) (hpq4.1.2.2.1) ?_
                refine v_iconst C (nI 1) dX3_readQ_154 (by decide) ?_
                refine n_iadd C dX3_readQ_155 ?_
                refine p_X3_41 C (by decide) (show shp 187 = 3 from by decide +kernel) dX3_readQ_156 ?_
                have hpq6 : cRp (up2 Mq4 187 3 (nI (((pz Y t u fu 0 (op + 1) (advS S)).2.1) + 1))) Y t u (advS (pz Y t u fu 0 (op + 1) (advS S))) := hpq4.at
                have heq6 : rF X (up2 Mq4 187 3 (nI (((pz Y t u fu 0 (op + 1) (advS S)).2.1) + 1))) := rF.tr heq4 (at_F _ _)
                refine v_iconst C (nI 1) dX3_readQ_159 (by decide) ?_
                have hF := show oneS Y t u (pz Y t u fu 5 (op + 1)) (pz Y t u fu 0 (op + 1)) op S = _ from (one_par (by omega) hx h_84).trans (cl_good ((st_4 hB).mp h_144) h_135)
                exact n_iret C hRt (rfl) dX3_readQ_160 (by rw [hF]; exact b2i_T h_135) ⟨by rw [hF]; exact hpq6, heq6⟩
              · skip
                refine v_iconst C (nI 0) dX3_readQ_147 (by decide) ?_
                have hF := show oneS Y t u (pz Y t u fu 5 (op + 1)) (pz Y t u fu 0 (op + 1)) op S = _ from (one_par (by omega) hx h_84).trans (cl_bad (fun z => h_144 ((st_4 hB).mpr z)))
                exact n_iret C hRt (rfl) dX3_readQ_148 (by rw [hF]; exact b2i_F (fun q => by cases q)) ⟨by rw [hF]; exact hpq4.bad, heq4⟩
          · skip
            refine v_iconst C (nI 1) dX3_readQ_87 (by decide) ?_
            refine v_goto C 92 dX3_readQ_88 rfl ?_
            refine v_istore_n C [(2, .int (nI 1)), (0, .ref (gb G + 187)), (1, .int (nI op))] dX3_readQ_92 rfl (by decide) rfl ?_
            refine v_aload_n C 1 dX3_readQ_93 rfl ?_
            refine v_dup C dX3_readQ_94 rfl ?_
            refine g_X3_41 C (by decide) (show shp 187 = 3 from by decide +kernel) dX3_readQ_95 ?_
            refine v_top (nI (S.2.1)) (hp.1.2.2.1) ?_
            refine v_iconst C (nI 1) dX3_readQ_98 (by decide) ?_
            refine n_iadd C dX3_readQ_99 ?_
            refine p_X3_41 C (by decide) (show shp 187 = 3 from by decide +kernel) dX3_readQ_100 ?_
            have hpq7 : cRp (up2 X 187 3 (nI (S.2.1 + 1))) Y t u (advS S) := hp.at
            have heq7 : rF X (up2 X 187 3 (nI (S.2.1 + 1))) := at_F _ _
            have hlq7 := hlt
            have hoq7 : okS t (advS S) := ⟨by show S.2.1 + 1 ≤ t; omega, by show S.2.2.length ≤ S.2.1 + 1; have := ho.2; omega⟩
            refine v_iload_n C 0 dX3_readQ_103 rfl ?_
            refine n_if_eq C (by omega) 127 dX3_readQ_104 rfl (fun h_104 => absurd h_104 (by decide)) (fun _ => ?_)
            refine v_aload_n C 1 dX3_readQ_107 rfl ?_
            refine v_iload_n C 2 dX3_readQ_108 rfl ?_
            refine v_iconst C (nI 1) dX3_readQ_109 (by decide) ?_
            refine n_iadd C dX3_readQ_110 ?_
            refine n_callVi C hRm [.int (nI (op + 1))] cw_X3_readQ ml_X3_58 (by decide) (show shp 187 = 3 from by decide +kernel) (by decide) rfl (((hQ (op + 1) (by omega)).2 (by omega)) (up2 X 187 3 (nI (S.2.1 + 1))) (advS S) hpq7 hoq7 hS) (by omega) rfl rfl (Nat.le_of_ble_eq_true rfl) dX3_readQ_111 (fun Mq8 hP_111 => ?_)
            obtain ⟨hpq8, hfq8⟩ := hP_111
            have heq8 : rF X Mq8 := rF.tr heq7 hfq8
            have hmq8 := pz_mono Y t u fu 5 (op + 1) (advS S) hoq7.1
            have hoq8 := hmq8.ok hoq7
            refine v_istore_n C [(3, .int (b2i ((pz Y t u fu 5 (op + 1) (advS S)).1 = true))), (2, .int (nI 1)), (0, .ref (gb G + 187)), (1, .int (nI op))] dX3_readQ_114 rfl (by decide) rfl ?_
            refine v_aload_n C 2 dX3_readQ_115 rfl ?_
            refine g_X3_12 C (by decide) (show shp 187 = 3 from by decide +kernel) dX3_readQ_116 ?_
            refine v_sipush C (nI 20033) dX3_readQ_119 (by decide) ?_
            by_cases hR1 : (pz Y t u fu 5 (op + 1) (advS S)).1 = true
            · skip
              refine v_top (nI (cvC 20010)) (by decide) ?_
              refine n_callVv C hRm [.int (nI (cvC 20010))] cw_X7_add ml_X3_70 (by decide) (show shp 188 = 7 from by decide +kernel) (by decide) rfl (t_add l G Mq8 188 (by decide) (show shp 188 = 7 from by decide +kernel) (show shp (188 + 1) = 1000 + 60 from by decide +kernel) (pz Y t u fu 5 (op + 1) (advS S)).2.2.length (hpq8.2.2.2 hR1).1 (Nat.le_of_lt (Nat.lt_of_lt_of_le (hmq8.ok1 ho) (Nat.le_trans hoq8.1 ht))) _) (by omega) rfl rfl (Nat.le_of_ble_eq_true rfl) dX3_readQ_122 (fun M5 hM5 => ?_)
              subst hM5
              have hpq9 := hpq8.add hR1 (Nat.lt_of_lt_of_le (hmq8.ok1 ho) (Nat.le_trans hoq8.1 ht)) 20010
              have heq9 : rF X (txaM Mq8 188 ((pz Y t u fu 5 (op + 1) (advS S)).2.2.length) (nI (cvC 20010))) := rF.tr heq8 (txa_F _ _ _)
              refine v_iload_n C 0 dX3_readQ_125 rfl ?_
              have hF := show oneS Y t u (pz Y t u fu 5 (op + 1)) (pz Y t u fu 0 (op + 1)) op S = _ from one_not (by omega) h_84
              exact n_iret C hRt (narrow_01 (b2i_01 _)) dX3_readQ_126 (by rw [hF, cod_1]) ⟨by rw [hF]; exact hpq9, heq9⟩
            · skip
              obtain ⟨sq10, hsq10, hzq10⟩ := hpq8.2.2.1
              refine n_callVv C hRm [.int (nI 20033)] cw_X7_add ml_X3_70 (by decide) (show shp 188 = 7 from by decide +kernel) (by decide) rfl (t_add l G Mq8 188 (by decide) (show shp 188 = 7 from by decide +kernel) (show shp (188 + 1) = 1000 + 60 from by decide +kernel) sq10 hzq10 hsq10 _) (by omega) rfl rfl (Nat.le_of_ble_eq_true rfl) dX3_readQ_122 (fun M5 hM5 => ?_)
              subst hM5
              have hpq10 := hpq8.addj hR1 hzq10 hsq10 (nI 20033)
              have heq10 : rF X (txaM Mq8 188 sq10 (nI 20033)) := rF.tr heq8 (txa_F _ _ _)
              refine v_iload_n C 0 dX3_readQ_125 rfl ?_
              have hF := show oneS Y t u (pz Y t u fu 5 (op + 1)) (pz Y t u fu 0 (op + 1)) op S = _ from one_not (by omega) h_84
              exact n_iret C hRt (narrow_01 (b2i_01 _)) dX3_readQ_126 (by rw [hF, cod_1]) ⟨by rw [hF]; exact (cod_bad hR1).symm ▸ hpq10, heq10⟩
        · skip
          refine v_iconst C (nI 0) dX3_readQ_76 (by decide) ?_
          have hF := show oneS Y t u (pz Y t u fu 5 (op + 1)) (pz Y t u fu 0 (op + 1)) op S = _ from one_no hB hu h_7 h_24 (Or.inr (fun z => h_73 ((st_3 hB).mpr z)))
          exact n_iret C hRt (rfl) dX3_readQ_77 (by rw [hF]; exact b2i_F (fun q => by cases q)) ⟨by rw [hF]; exact hp.bad, (fun _ _ _ _ => rfl)⟩
    · skip
      obtain ⟨b, hb, hb2⟩ := here_b hB h_24.1
      have hnm : ¬ nmS u (hereS Y t S) < 0 := fun z => (st_n hB hu).mp h_24 (Or.inr z)
      obtain ⟨j, hj, hj2⟩ := nm_get hu hnm
      have hlt := (here_lt (fun q => h_24.1 (by rw [q]; decide))).2
      have hl60 : S.2.2.length < 60 := by have := ho.2; omega
      refine v_aload_n C 0 dX3_readQ_27 rfl ?_
      refine g_X3_12 C (by decide) (show shp 187 = 3 from by decide +kernel) dX3_readQ_28 ?_
      refine v_sipush C (nI 10000) dX3_readQ_31 (by decide) ?_
      refine v_aload_n C 0 dX3_readQ_34 rfl ?_
      refine gd_names C (by omega) hp.1.2.2.2 dX3_readQ_35 ?_
      refine v_aload_n C 0 dX3_readQ_38 rfl ?_
      refine n_callVp C hRm [] cw_X3_next ml_X3_48 (by decide) (show shp 187 = 3 from by decide +kernel) (by decide) rfl (d_next l G X Y t u ht hu hB S hp ho hS) (by omega) rfl rfl (Nat.le_of_ble_eq_true rfl) dX3_readQ_39 ?_
      refine v_i2c C dX3_readQ_42 ?_
      refine v_top (nI b) (by rw [hb2]; exact i2c_b b hb) ?_
      refine n_callTp C hRm [.int (nI b)] cw_J0_indexOf_0f7a4 rfl ml_X3_52 (by omega) (j_indexOf l G X (1 + u) (by omega) b hb) (by omega) rfl rfl (Nat.le_of_ble_eq_true rfl) dX3_readQ_43 ?_
      refine v_iadd C dX3_readQ_46 ?_
      refine v_top (nI (cvC (10000 + j))) (by rw [st_nmb u hu b hb, ← hb2, hj2, nI_add, cv_lo (by omega)]) ?_
      refine n_callVv C hRm [.int (nI (cvC (10000 + j)))] cw_X7_add ml_X3_70 (by decide) (show shp 188 = 7 from by decide +kernel) (by decide) rfl (t_add l G X 188 (by decide) (show shp 188 = 7 from by decide +kernel) (show shp (188 + 1) = 1000 + 60 from by decide +kernel) S.2.2.length (hp.2.2.2 hS).1 (Nat.le_of_lt hl60) _) (by omega) rfl rfl (Nat.le_of_ble_eq_true rfl) dX3_readQ_47 (fun M5 hM5 => ?_)
      subst hM5
      have hpq11 := hp.add hS hl60 (10000 + j)
      have heq11 : rF X (txaM X 188 S.2.2.length (nI (cvC (10000 + j)))) := txa_F _ _ _
      refine v_aload_n C 0 dX3_readQ_50 rfl ?_
      refine v_dup C dX3_readQ_51 rfl ?_
      refine g_X3_41 C (by decide) (show shp 187 = 3 from by decide +kernel) dX3_readQ_52 ?_
      refine v_top (nI ((codS (10000 + j) S).2.1)) (hpq11.1.2.2.1) ?_
      refine v_iconst C (nI 1) dX3_readQ_55 (by decide) ?_
      refine n_iadd C dX3_readQ_56 ?_
      refine p_X3_41 C (by decide) (show shp 187 = 3 from by decide +kernel) dX3_readQ_57 ?_
      have hpq12 : cRp (up2 (txaM X 188 S.2.2.length (nI (cvC (10000 + j)))) 187 3 (nI (((codS (10000 + j) S).2.1) + 1))) Y t u (advS (codS (10000 + j) S)) := hpq11.at
      have heq12 : rF X (up2 (txaM X 188 S.2.2.length (nI (cvC (10000 + j)))) 187 3 (nI (((codS (10000 + j) S).2.1) + 1))) := rF.tr heq11 (at_F _ _)
      refine v_iconst C (nI 1) dX3_readQ_60 (by decide) ?_
      have hF := show oneS Y t u (pz Y t u fu 5 (op + 1)) (pz Y t u fu 0 (op + 1)) op S = _ from one_nm hB hu h_7 h_24 hj hj2
      exact n_iret C hRt (rfl) dX3_readQ_61 (by rw [hF]; exact b2i_T ((cod_1 _ _).trans hS)) ⟨by rw [hF]; exact hpq12, heq12⟩
  · skip
    refine v_aload_n C 0 dX3_readQ_10 rfl ?_
    refine n_callVv C hRm [] cw_X3_readNumber ml_X3_87 (by decide) (show shp 187 = 3 from by decide +kernel) (by decide) rfl (d_readNumber l G X Y t u ht hu hB S hp ho hS h_7) (by omega) rfl rfl (Nat.le_of_ble_eq_true rfl) dX3_readQ_11 (fun Mq13 hP_11 => ?_)
    obtain ⟨hpq13, hfq13⟩ := hP_11
    have heq13 := hfq13
    refine v_iconst C (nI 1) dX3_readQ_14 (by decide) ?_
    have hF := show oneS Y t u (pz Y t u fu 5 (op + 1)) (pz Y t u fu 0 (op + 1)) op S = _ from one_dg hB h_7
    exact n_iret C hRt (rfl) dX3_readQ_15 (by rw [hF]; exact b2i_T (by rw [cod_1, (num_st Y t 4 S 0).1]; exact hS)) ⟨by rw [hF]; exact hpq13, heq13⟩
set_option maxHeartbeats 4000000 in
set_option maxRecDepth 100000 in
theorem rb_j5 (l : Launch) (G : GC) (Y : Nat → Int32) (t u op d : Nat) (hop : op ≤ 5) (g : PS → PS) (hq : qcon l G d Y t u op g) : jcon l G (d + 1) Y t u 5 op g := by
  intro X S hp ho hS
  refine Con.of (by decide +kernel) (Nat.le_of_ble_eq_true rfl) ?_
  intro f C hRm hRt _
  show Vc f G NPh X 0 [(0, .ref (gb G + 187)), (1, .int (nI 5)), (2, .int (nI op))] []
  refine v_iload_n C 1 dX3_readJoined_0 rfl ?_
  refine v_iconst C (nI 5) dX3_readJoined_1 (by decide) ?_
  refine n_icmp_lt C (by omega) (by omega) 11 dX3_readJoined_2 rfl (fun h_2 => absurd h_2 (by decide)) (fun _ => ?_)
  refine v_aload_n C 0 dX3_readJoined_5 rfl ?_
  refine v_iload_n C 2 dX3_readJoined_6 rfl ?_
  refine n_callVi C hRm [.int (nI op)] cw_X3_readQ ml_X3_58 (by decide) (show shp 187 = 3 from by decide +kernel) (by decide) rfl (hq X S hp ho hS) (Nat.le_refl _) rfl rfl (Nat.le_of_ble_eq_true rfl) dX3_readJoined_7 (fun M1 hP_7 => ?_)
  obtain ⟨hp1, hf1⟩ := hP_7
  exact n_iret C hRt (narrow_01 (b2i_01 _)) dX3_readJoined_10 rfl ⟨hp1, hf1⟩
set_option maxHeartbeats 4000000 in
set_option maxRecDepth 100000 in
theorem rb_j (l : Launch) (G : GC) (Y : Nat → Int32) (t u : Nat) (ht : t ≤ 60) (hu : u < 2) (hB : tB Y t) (fu : Nat) (hQ : RB l G Y t u fu) (op : Nat) (hop : op ≤ 5) (lv : Nat) (hlv : lv < 5) (hr : 6 * (5 - op) + (5 - lv) < fu + 1) : jcon l G (9 + 2 * (fu + 1)) Y t u lv op (pz Y t u (fu + 1) lv op) := by
  intro X S hp ho hS
  refine Con.of (by decide +kernel) (Nat.le_of_ble_eq_true rfl) ?_
  intro f C hRm hRt _
  have hz : pz Y t u (fu + 1) lv op S = lpS Y t (pz Y t u fu (lv + 1) op) lv (jn lv) (pz Y t u fu (lv + 1) op S) := if_pos hlv
  have hjn : jn lv ≤ 60 := by unfold jn; split <;> decide
  have LJ : ∀ (kk : Nat) (j : Nat) (R : PS) (X1 : Mm), jn lv - j = kk → j ≤ jn lv → cRp X1 Y t u R → okS t R → rF X X1 → lpS Y t (pz Y t u fu (lv + 1) op) lv (jn lv - j) R = pz Y t u (fu + 1) lv op S → Vc f G NPh X1 36 [(5, .int (nI j)), (4, .int (nI (jn lv))), (3, .int (b2i (R.1 = true))), (0, .ref (gb G + 187)), (1, .int (nI lv)), (2, .int (nI op))] [] := by
    intro kk
    induction kk using Nat.strongRecOn with
    | _ kk ihLJ =>
      intro j R X1 hkk hj hp1 ho1 he1 hg
      refine v_iload C 0 dX3_readJoined_36 rfl ?_
      refine v_iload C 1 dX3_readJoined_38 rfl ?_
      refine n_icmp_ge C (by omega) (by omega) 102 dX3_readJoined_40 rfl (fun h_40 => ?_) (fun h_40 => ?_)
      · skip
        refine v_iload_n C 2 dX3_readJoined_102 rfl ?_
        have hF : R = pz Y t u (fu + 1) lv op S := by rw [← hg, show jn lv - j = 0 by omega]; rfl
        exact n_iret C hRt (narrow_01 (b2i_01 _)) dX3_readJoined_103 (by rw [hF]) ⟨hF ▸ hp1, he1⟩
      · skip
        refine v_iload_n C 2 dX3_readJoined_43 rfl ?_
        refine nb_if_eq C 102 dX3_readJoined_44 rfl (fun h_44 => ?_) (fun h_44 => ?_)
        · skip
          refine v_iload_n C 2 dX3_readJoined_102 rfl ?_
          have hF : R = pz Y t u (fu + 1) lv op S := by rw [← hg]; exact (lp_stop (sgn_0 (here_bad h_44)) _).symm
          exact n_iret C hRt (narrow_01 (b2i_01 _)) dX3_readJoined_103 (by rw [hF]) ⟨hF ▸ hp1, he1⟩
        · skip
          refine v_aload_n C 3 dX3_readJoined_47 rfl ?_
          refine v_iload_n C 4 dX3_readJoined_48 rfl ?_
          refine n_callSr C hRm [.int (nI lv)] cw_X3_signsOf st_X3_signsOf ml_X3_62 (d_signsOf l G X1 lv hlv) (by omega) rfl rfl (Nat.le_of_ble_eq_true rfl) dX3_readJoined_49 ?_
          refine n_callVp C hRm [.ref (gK G (5 + lv))] cw_X3_stands ml_X3_66 (by decide) (show shp 187 = 3 from by decide +kernel) (by decide) rfl (d_stands l G X1 Y t u ht hu hB R hp1 ho1 h_44 (5 + lv) (by omega)) (by omega) rfl rfl (Nat.le_of_ble_eq_true rfl) dX3_readJoined_52 ?_
          refine nb_st_eq C 102 dX3_readJoined_55 rfl (fun h_55 => ?_) (fun h_55 => ?_)
          · skip
            refine v_iload_n C 2 dX3_readJoined_102 rfl ?_
            have hF : R = pz Y t u (fu + 1) lv op S := by rw [← hg]; exact (lp_stop (Classical.byContradiction fun z => h_55 ((st_lv hB hlv).mpr z)) _).symm
            exact n_iret C hRt (narrow_01 (b2i_01 _)) dX3_readJoined_103 (by rw [hF]) ⟨hF ▸ hp1, he1⟩
          · skip
            have hsg : ¬ sgn lv (hereS Y t R) = 0 := (st_lv hB hlv).mp h_55
            have hlt := (sgn_lt hsg).2
            refine v_aload_n C 3 dX3_readJoined_58 rfl ?_
            refine n_callVp C hRm [] cw_X3_next ml_X3_48 (by decide) (show shp 187 = 3 from by decide +kernel) (by decide) rfl (d_next l G X1 Y t u ht hu hB R hp1 ho1 h_44) (by omega) rfl rfl (Nat.le_of_ble_eq_true rfl) dX3_readJoined_59 ?_
            refine v_istore C [(6, .int (hereS Y t R)), (5, .int (nI j)), (4, .int (nI (jn lv))), (3, .int (b2i (R.1 = true))), (0, .ref (gb G + 187)), (1, .int (nI lv)), (2, .int (nI op))] dX3_readJoined_62 (by decide) rfl ?_
            refine v_aload_n C 4 dX3_readJoined_64 rfl ?_
            refine v_dup C dX3_readJoined_65 rfl ?_
            refine g_X3_41 C (by decide) (show shp 187 = 3 from by decide +kernel) dX3_readJoined_66 ?_
            refine v_top (nI (R.2.1)) (hp1.1.2.2.1) ?_
            refine v_iconst C (nI 1) dX3_readJoined_69 (by decide) ?_
            refine n_iadd C dX3_readJoined_70 ?_
            refine p_X3_41 C (by decide) (show shp 187 = 3 from by decide +kernel) dX3_readJoined_71 ?_
            have hpq2 : cRp (up2 X1 187 3 (nI (R.2.1 + 1))) Y t u (advS R) := hp1.at
            have heq2 : rF X (up2 X1 187 3 (nI (R.2.1 + 1))) := rF.tr he1 (at_F _ _)
            have hlq2 := hlt
            have hoq2 : okS t (advS R) := ⟨by show R.2.1 + 1 ≤ t; omega, by show R.2.2.length ≤ R.2.1 + 1; have := ho1.2; omega⟩
            refine v_aload_n C 4 dX3_readJoined_74 rfl ?_
            refine v_iload_n C 5 dX3_readJoined_75 rfl ?_
            refine v_iconst C (nI 1) dX3_readJoined_76 (by decide) ?_
            refine n_iadd C dX3_readJoined_77 ?_
            refine v_iload_n C 6 dX3_readJoined_78 rfl ?_
            refine n_callVi C hRm [.int (nI (lv + 1)), .int (nI op)] cw_X3_readJoined ml_X3_44 (by decide) (show shp 187 = 3 from by decide +kernel) (by decide) rfl (((hQ op (by omega)).1 (lv + 1) (by omega) (by omega)) (up2 X1 187 3 (nI (R.2.1 + 1))) (advS R) hpq2 hoq2 h_44) (by omega) rfl rfl (Nat.le_of_ble_eq_true rfl) dX3_readJoined_79 (fun Mq3 hP_79 => ?_)
            obtain ⟨hpq3, hfq3⟩ := hP_79
            have heq3 : rF X Mq3 := rF.tr heq2 hfq3
            have hmq3 := pz_mono Y t u fu (lv + 1) op (advS R) hoq2.1
            have hoq3 := hmq3.ok hoq2
            refine v_istore_n C [(3, .int (b2i ((pz Y t u fu (lv + 1) op (advS R)).1 = true))), (6, .int (hereS Y t R)), (5, .int (nI j)), (4, .int (nI (jn lv))), (0, .ref (gb G + 187)), (1, .int (nI lv)), (2, .int (nI op))] dX3_readJoined_82 rfl (by decide) rfl ?_
            refine v_aload_n C 4 dX3_readJoined_83 rfl ?_
            refine g_X3_12 C (by decide) (show shp 187 = 3 from by decide +kernel) dX3_readJoined_84 ?_
            refine v_sipush C (nI 20000) dX3_readJoined_87 (by decide) ?_
            refine v_iload C 1 dX3_readJoined_90 rfl ?_
            refine v_iadd C dX3_readJoined_92 ?_
            by_cases hR1 : (pz Y t u fu (lv + 1) op (advS R)).1 = true
            · skip
              refine v_top (nI (cvC (sgn lv (hereS Y t R)))) (st_sg hB hlv hsg) ?_
              refine n_callVv C hRm [.int (nI (cvC (sgn lv (hereS Y t R))))] cw_X7_add ml_X3_70 (by decide) (show shp 188 = 7 from by decide +kernel) (by decide) rfl (t_add l G Mq3 188 (by decide) (show shp 188 = 7 from by decide +kernel) (show shp (188 + 1) = 1000 + 60 from by decide +kernel) (pz Y t u fu (lv + 1) op (advS R)).2.2.length (hpq3.2.2.2 hR1).1 (Nat.le_of_lt (Nat.lt_of_lt_of_le (hmq3.ok1 ho1) (Nat.le_trans hoq3.1 ht))) _) (by omega) rfl rfl (Nat.le_of_ble_eq_true rfl) dX3_readJoined_93 (fun M5 hM5 => ?_)
              subst hM5
              have hpq4 := hpq3.add hR1 (Nat.lt_of_lt_of_le (hmq3.ok1 ho1) (Nat.le_trans hoq3.1 ht)) (sgn lv (hereS Y t R))
              have heq4 : rF X (txaM Mq3 188 ((pz Y t u fu (lv + 1) op (advS R)).2.2.length) (nI (cvC (sgn lv (hereS Y t R))))) := rF.tr heq3 (txa_F _ _ _)
              refine v_iinc C (nI (j + 1)) 2 [(5, .int (nI (j + 1))), (3, .int (b2i ((pz Y t u fu (lv + 1) op (advS R)).1 = true))), (6, .int (hereS Y t R)), (4, .int (nI (jn lv))), (0, .ref (gb G + 187)), (1, .int (nI lv)), (2, .int (nI op))] dX3_readJoined_96 rfl (nI_add _ _) (by decide) rfl ?_
              refine v_goto C 36 dX3_readJoined_99 rfl ?_
              refine v_lv [(5, .int (nI (j + 1))), (3, .int (b2i ((codS (sgn lv (hereS Y t R)) (pz Y t u fu (lv + 1) op (advS R))).1 = true))), (6, .int (hereS Y t R)), (4, .int (nI (jn lv))), (0, .ref (gb G + 187)), (1, .int (nI lv)), (2, .int (nI op))] (by rw [cod_1]) ?_
              refine v_sub [0, 3, 1, 4, 5, 6] [(5, .int (nI (j + 1))), (4, .int (nI (jn lv))), (3, .int (b2i ((codS (sgn lv (hereS Y t R)) (pz Y t u fu (lv + 1) op (advS R))).1 = true))), (0, .ref (gb G + 187)), (1, .int (nI lv)), (2, .int (nI op))] rfl ?_
              exact ihLJ _ (by omega) (j + 1) (codS (sgn lv (hereS Y t R)) (pz Y t u fu (lv + 1) op (advS R))) (txaM Mq3 188 ((pz Y t u fu (lv + 1) op (advS R)).2.2.length) (nI (cvC (sgn lv (hereS Y t R))))) rfl (by omega) hpq4 ((hmq3.cod).ok ho1) heq4 (by rw [← hg, show jn lv - j = (jn lv - (j + 1)) + 1 by omega]; show _ = (if _ then _ else _); rw [if_neg hsg])
            · skip
              obtain ⟨sq5, hsq5, hzq5⟩ := hpq3.2.2.1
              refine n_callVv C hRm [.int ((nI 20000) + (hereS Y t R))] cw_X7_add ml_X3_70 (by decide) (show shp 188 = 7 from by decide +kernel) (by decide) rfl (t_add l G Mq3 188 (by decide) (show shp 188 = 7 from by decide +kernel) (show shp (188 + 1) = 1000 + 60 from by decide +kernel) sq5 hzq5 hsq5 _) (by omega) rfl rfl (Nat.le_of_ble_eq_true rfl) dX3_readJoined_93 (fun M5 hM5 => ?_)
              subst hM5
              have hpq5 := hpq3.addj hR1 hzq5 hsq5 ((nI 20000) + (hereS Y t R))
              have heq5 : rF X (txaM Mq3 188 sq5 ((nI 20000) + (hereS Y t R))) := rF.tr heq3 (txa_F _ _ _)
              refine v_iinc C (nI (j + 1)) 2 [(5, .int (nI (j + 1))), (3, .int (b2i ((pz Y t u fu (lv + 1) op (advS R)).1 = true))), (6, .int (hereS Y t R)), (4, .int (nI (jn lv))), (0, .ref (gb G + 187)), (1, .int (nI lv)), (2, .int (nI op))] dX3_readJoined_96 rfl (nI_add _ _) (by decide) rfl ?_
              refine v_goto C 36 dX3_readJoined_99 rfl ?_
              refine v_lv [(5, .int (nI (j + 1))), (3, .int (b2i ((codS (sgn lv (hereS Y t R)) (pz Y t u fu (lv + 1) op (advS R))).1 = true))), (6, .int (hereS Y t R)), (4, .int (nI (jn lv))), (0, .ref (gb G + 187)), (1, .int (nI lv)), (2, .int (nI op))] (by rw [cod_1]) ?_
              refine v_sub [0, 3, 1, 4, 5, 6] [(5, .int (nI (j + 1))), (4, .int (nI (jn lv))), (3, .int (b2i ((codS (sgn lv (hereS Y t R)) (pz Y t u fu (lv + 1) op (advS R))).1 = true))), (0, .ref (gb G + 187)), (1, .int (nI lv)), (2, .int (nI op))] rfl ?_
              exact ihLJ _ (by omega) (j + 1) (codS (sgn lv (hereS Y t R)) (pz Y t u fu (lv + 1) op (advS R))) (txaM Mq3 188 sq5 ((nI 20000) + (hereS Y t R))) rfl (by omega) ((cod_bad hR1).symm ▸ hpq5) ((hmq3.cod).ok ho1) heq5 (by rw [← hg, show jn lv - j = (jn lv - (j + 1)) + 1 by omega]; show _ = (if _ then _ else _); rw [if_neg hsg])
  show Vc f G NPh X 0 [(0, .ref (gb G + 187)), (1, .int (nI lv)), (2, .int (nI op))] []
  refine v_iload_n C 1 dX3_readJoined_0 rfl ?_
  refine v_iconst C (nI 5) dX3_readJoined_1 (by decide) ?_
  refine n_icmp_lt C (by omega) (by omega) 11 dX3_readJoined_2 rfl (fun h_2 => ?_) (fun h_2 => ?_)
  · skip
    refine v_aload_n C 0 dX3_readJoined_11 rfl ?_
    refine v_iload_n C 1 dX3_readJoined_12 rfl ?_
    refine v_iconst C (nI 1) dX3_readJoined_13 (by decide) ?_
    refine n_iadd C dX3_readJoined_14 ?_
    refine v_iload_n C 2 dX3_readJoined_15 rfl ?_
    refine n_callVi C hRm [.int (nI (lv + 1)), .int (nI op)] cw_X3_readJoined ml_X3_44 (by decide) (show shp 187 = 3 from by decide +kernel) (by decide) rfl (((hQ op (by omega)).1 (lv + 1) (by omega) (by omega)) X S hp ho hS) (by omega) rfl rfl (Nat.le_of_ble_eq_true rfl) dX3_readJoined_16 (fun Mq1 hP_16 => ?_)
    obtain ⟨hpq1, hfq1⟩ := hP_16
    have heq1 : rF X Mq1 := hfq1
    have hmq1 := pz_mono Y t u fu (lv + 1) op S ho.1
    have hoq1 := hmq1.ok ho
    refine v_istore_n C [(3, .int (b2i ((pz Y t u fu (lv + 1) op S).1 = true))), (0, .ref (gb G + 187)), (1, .int (nI lv)), (2, .int (nI op))] dX3_readJoined_19 rfl (by decide) rfl ?_
    refine v_iload_n C 2 dX3_readJoined_20 rfl ?_
    refine v_iconst C (nI 2) dX3_readJoined_21 (by decide) ?_
    refine n_icmp_ne C (by omega) (by omega) 29 dX3_readJoined_22 rfl (fun h_22 => ?_) (fun h_22 => ?_)
    · skip
      refine v_bipush C (nI 60) dX3_readJoined_29 (by decide) ?_
      refine v_istore C [(4, .int (nI 60)), (3, .int (b2i ((pz Y t u fu (lv + 1) op S).1 = true))), (0, .ref (gb G + 187)), (1, .int (nI lv)), (2, .int (nI op))] dX3_readJoined_31 (by decide) rfl ?_
      refine v_iconst C (nI 0) dX3_readJoined_33 (by decide) ?_
      refine v_istore C [(5, .int (nI 0)), (4, .int (nI 60)), (3, .int (b2i ((pz Y t u fu (lv + 1) op S).1 = true))), (0, .ref (gb G + 187)), (1, .int (nI lv)), (2, .int (nI op))] dX3_readJoined_34 (by decide) rfl ?_
      refine v_lv [(5, .int (nI 0)), (4, .int (nI (jn lv))), (3, .int (b2i ((pz Y t u fu (lv + 1) op S).1 = true))), (0, .ref (gb G + 187)), (1, .int (nI lv)), (2, .int (nI op))] (by rw [show jn lv = 60 from by unfold jn; rw [if_neg h_22]]) ?_
      refine v_sub [0, 1, 2, 3, 4, 5] [(5, .int (nI 0)), (4, .int (nI (jn lv))), (3, .int (b2i ((pz Y t u fu (lv + 1) op S).1 = true))), (0, .ref (gb G + 187)), (1, .int (nI lv)), (2, .int (nI op))] rfl ?_
      exact LJ _ 0 (pz Y t u fu (lv + 1) op S) Mq1 rfl (Nat.zero_le _) hpq1 hoq1 heq1 hz.symm
    · skip
      refine v_iconst C (nI 1) dX3_readJoined_25 (by decide) ?_
      refine v_goto C 31 dX3_readJoined_26 rfl ?_
      refine v_istore C [(4, .int (nI 1)), (3, .int (b2i ((pz Y t u fu (lv + 1) op S).1 = true))), (0, .ref (gb G + 187)), (1, .int (nI lv)), (2, .int (nI op))] dX3_readJoined_31 (by decide) rfl ?_
      refine v_iconst C (nI 0) dX3_readJoined_33 (by decide) ?_
      refine v_istore C [(5, .int (nI 0)), (4, .int (nI 1)), (3, .int (b2i ((pz Y t u fu (lv + 1) op S).1 = true))), (0, .ref (gb G + 187)), (1, .int (nI lv)), (2, .int (nI op))] dX3_readJoined_34 (by decide) rfl ?_
      refine v_lv [(5, .int (nI 0)), (4, .int (nI (jn lv))), (3, .int (b2i ((pz Y t u fu (lv + 1) op S).1 = true))), (0, .ref (gb G + 187)), (1, .int (nI lv)), (2, .int (nI op))] (by rw [show jn lv = 1 from by unfold jn; rw [if_pos h_22]]) ?_
      refine v_sub [0, 1, 2, 3, 4, 5] [(5, .int (nI 0)), (4, .int (nI (jn lv))), (3, .int (b2i ((pz Y t u fu (lv + 1) op S).1 = true))), (0, .ref (gb G + 187)), (1, .int (nI lv)), (2, .int (nI op))] rfl ?_
      exact LJ _ 0 (pz Y t u fu (lv + 1) op S) Mq1 rfl (Nat.zero_le _) hpq1 hoq1 heq1 hz.symm
  · skip
    exact absurd hlv (by omega)
theorem rb_all (l : Launch) (G : GC) (Y : Nat → Int32) (t u : Nat) (ht : t ≤ 60) (hu : u < 2) (hB : tB Y t) : ∀ fu, RB l G Y t u fu
  | 0 => fun op _ => ⟨fun _ _ h => absurd h (by omega), fun h => absurd h (by omega)⟩
  | fu + 1 => fun op hop => by
    have ih := rb_all l G Y t u ht hu hB fu
    refine ⟨fun lv hlv hr => ?_, fun hr => rb_q l G Y t u ht hu hB fu ih op hop hr⟩
    by_cases h : lv < 5
    · exact rb_j l G Y t u ht hu hB fu ih op hop lv h hr
    · have h5 : lv = 5 := by omega
      subst h5
      have h9 := rb_j5 l G Y t u op _ hop _ (rb_q l G Y t u ht hu hB fu ih op hop (by omega))
      rw [show 8 + 2 * (fu + 1) + 1 = 9 + 2 * (fu + 1) by omega] at h9
      exact h9
