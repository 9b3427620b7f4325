def cvR (X : Mm) (c κ : Nat) (m : Int32) (σ : VS) : Prop := X 192 1 = nI c ∧ X 192 2 = nI κ ∧ X 192 3 = m ∧ X 192 4 = b2i (σ.2 = true) ∧ X 193 1 = nI σ.1.length ∧ σ.1.length ≤ 30 ∧ ∀ i, i < σ.1.length → X 194 i = σ.1.getD i 0
abbrev svF (M X : Mm) : Prop := ∀ a, a ≠ 192 → a ≠ 193 → a ≠ 194 → X a = M a
theorem svF.rf (M : Mm) : svF M M := fun _ _ _ _ => rfl
theorem svF.tr {A B C : Mm} (h : svF A B) (h2 : svF B C) : svF A C := fun a x y z => (h2 a x y z).trans (h a x y z)
theorem cvR.beg {X : Mm} {c κ : Nat} {m : Int32} {σ : VS} (h : cvR X c κ m σ) (b : Nat) : cvR (rowM X 193 30 σ.1.length (nI b)) c κ m (begS σ b) := by
  obtain ⟨h1, h2, h3, h4, h5, h6, h7⟩ := h
  have n2 : ∀ j, rowM X 193 30 σ.1.length (nI b) 192 j = X 192 j := fun j => congrFun (row_ne (by decide) (by decide)) j
  refine ⟨(n2 1).trans h1, (n2 2).trans h2, (n2 3).trans h3, ?_, ?_⟩
  · rw [n2 4, h4]; unfold begS; split <;> rfl
  · unfold rowM begS
    by_cases hl : σ.1.length < 30
    · rw [if_pos hl, if_pos hl]
      refine ⟨by rw [up2_at]; simp, by simp; omega, fun i hi => ?_⟩
      rw [up2_ne _ _ _ (by decide)]
      simp only [List.length_append, List.length_cons, List.length_nil] at hi
      by_cases hq : i = σ.1.length
      · subst hq; rw [up2_at]; simp [List.getD_eq_getElem?_getD]
      · rw [up2_at_ne _ _ hq, h7 i (by omega)]
        simp [List.getD_eq_getElem?_getD, List.getElem?_append_left (show i < σ.1.length by omega)]
    · rw [if_neg hl, if_neg hl]; exact ⟨h5, h6, h7⟩
theorem cvR.part {X : Mm} {c κ : Nat} {m : Int32} {σ : VS} (h : cvR X c κ m σ) : cvR (up2 X 192 4 (nI 1)) c κ m (σ.1, true) :=
  ⟨(up2_at_ne _ _ (by decide)).trans h.1, (up2_at_ne _ _ (by decide)).trans h.2.1, (up2_at_ne _ _ (by decide)).trans h.2.2.1, up2_at _ _ _ _, (congrFun (up2_ne _ _ _ (by decide)) 1).trans h.2.2.2.2.1, h.2.2.2.2.2.1, fun i hi => (congrFun (up2_ne _ _ _ (by decide)) i).trans (h.2.2.2.2.2.2 i hi)⟩
theorem own_t1 : ∀ j, j < 7 → ∀ a, a < 4 → bodiesT.getD (j * 4 + a) 0 = 0 → j ≠ 0 := by decide +kernel
theorem own_t2 : ∀ j, j < 7 → j ≠ 0 → aboveT.getD j 0 = nI (aboveN j) := by decide +kernel
theorem own_t3 : ∀ j, j < 7 → j ≠ 0 → aboveN j < 7 := by decide +kernel
theorem own_t4 : ∀ j, j < 7 → j ≠ 0 → ∀ a, a < 4 → bodiesT.getD (j * 4 + a) 0 = 0 → dz (aboveN j) < dz j := by decide +kernel
theorem own_t5 : ∀ j, j < 7 → ∀ a, a < 4 → bodiesT.getD (j * 4 + a) 0 = 0 → ownN (aboveN j) a = ownN j a := by decide +kernel
theorem own_t6 : ∀ j, j < 7 → ∀ a, a < 4 → ¬ bodiesT.getD (j * 4 + a) 0 = 0 → ownN j a = j := by decide +kernel
theorem own_t (j : Nat) (hj : j < 7) (a : Nat) (ha : a < 4) : (bodiesT.getD (j * 4 + a) 0 = 0 → j ≠ 0 ∧ aboveT.getD j 0 = nI (aboveN j) ∧ aboveN j < 7 ∧ dz (aboveN j) < dz j ∧ ownN (aboveN j) a = ownN j a) ∧ (¬ bodiesT.getD (j * 4 + a) 0 = 0 → ownN j a = j) :=
  ⟨fun h => ⟨own_t1 j hj a ha h, own_t2 j hj (own_t1 j hj a ha h), own_t3 j hj (own_t1 j hj a ha h), own_t4 j hj (own_t1 j hj a ha h) a ha h, own_t5 j hj a ha h⟩, own_t6 j hj a ha⟩
theorem own_l : ∀ k, k < 7 → ∀ a, a < 4 → ownN k a * 4 + a ∈ [0, 1, 2, 3, 4, 7, 9, 14, 16, 18, 21, 24, 25] := by decide +kernel
def SV (l : Launch) (G : GC) (κ c : Nat) (m : Int32) (fu : Nat) : Prop := ∀ (X : Mm) (k a : Nat) (x : Int32) (σ : VS) (dep : Nat), cvR X c κ m σ → k < 7 → a < 4 → rkB (bodN (ownN k a) a) < fu → dep + fu ≤ 31 → CI l G (2 + fu) yX6_say cX6_say 9 .int [.ref (gb G + 192), .int (nI a), .int (nI k), .int x, .int (nI dep)] X (vF κ m c fu k a x σ).1 (fun M' => cvR M' c κ m (vF κ m c fu k a x σ).2 ∧ svF X M')
set_option maxHeartbeats 4000000 in
set_option maxRecDepth 100000 in
theorem v_part (l : Launch) (G : GC) (M : Mm) (x by_ : Int32) : CI l G 1 yX6_part cX6_part 3 .int [.ref (gb G + 192), .int x, .int by_] M (if by_ = 0 then nI 0 else x / by_) (fun M' => M' = if by_ = 0 then up2 M 192 4 (nI 1) else M) := by
  refine Con.of (by decide +kernel) (Nat.le_of_ble_eq_true rfl) ?_
  intro f C hRm hRt _
  show Vc f G NPh M 0 [(0, .ref (gb G + 192)), (1, .int x), (2, .int by_)] []
  refine v_iload_n C 2 dX6_part_0 rfl ?_
  refine v_if_ne C 11 dX6_part_1 rfl (fun h_1 => ?_) (fun h_1 => ?_)
  · skip
    refine v_iload_n C 1 dX6_part_11 rfl ?_
    refine v_iload_n C 2 dX6_part_12 rfl ?_
    refine v_idiv C dX6_part_13 h_1 ?_
    exact n_iret C hRt rfl dX6_part_14 ((if_neg h_1).symm) ((if_neg h_1).symm)
  · skip
    refine v_aload_n C 0 dX6_part_4 rfl ?_
    refine v_iconst C (nI 1) dX6_part_5 (by decide) ?_
    refine p_X6_24 C (by decide) (show shp 192 = 6 from by decide +kernel) (by decide) dX6_part_6 ?_
    refine v_iconst C (nI 0) dX6_part_9 (by decide) ?_
    exact n_iret C hRt rfl dX6_part_10 ((if_pos h_1).symm) ((if_pos h_1).symm)
set_option maxHeartbeats 4000000 in
set_option maxRecDepth 100000 in
theorem sv_step (l : Launch) (G : GC) (κ c : Nat) (m : Int32) (hκ : κ < 7) (fu : Nat) (hSV : SV l G κ c m fu) : SV l G κ c m (fu + 1) := by
  intro X k a x σ dep hv hk ha hr hd
  refine Con.of (by decide +kernel) (Nat.le_of_ble_eq_true rfl) ?_
  intro f C hRm hRt _
  by_cases hσ : σ.2 = true
  · have hF : vF κ m c (fu + 1) k a x σ = (nI 0, σ) := if_pos hσ
    rw [hF] at hRt
    show Vc f G NPh X 0 [(0, .ref (gb G + 192)), (1, .int (nI a)), (2, .int (nI k)), (3, .int x), (4, .int (nI dep))] []
    refine v_aload_n C 0 dX6_say_0 rfl ?_
    refine g_X6_24 C (by decide) (show shp 192 = 6 from by decide +kernel) dX6_say_1 ?_
    refine v_top (b2i (σ.2 = true)) (hv.2.2.2.1) ?_
    refine nb_if_ne C 14 dX6_say_4 rfl (fun h_4 => ?_) (fun h_4 => ?_)
    · skip
      refine v_iconst C (nI 0) dX6_say_14 (by decide) ?_
      exact n_iret C hRt rfl dX6_say_15 rfl ⟨hv, svF.rf X⟩
    · skip
      exact absurd hσ h_4
  · have hF : vF κ m c (fu + 1) k a x σ = bdF (vF κ m c fu) κ m c (bodN (ownN k a) a) x (begS σ (bodN (ownN k a) a)) := if_neg hσ
    rw [hF] at hRt
    have hT : Vc f G NPh X 56 [(5, .int (nI (ownN k a))), (0, .ref (gb G + 192)), (1, .int (nI a)), (3, .int x), (4, .int (nI dep))] [] := by
      have hoc := own_l k hk a ha
      simp only [List.mem_cons, List.not_mem_nil, or_false] at hoc
      generalize ownN k a = o at hRt hr hoc ⊢
      rcases hoc with h_oa | h_oa | h_oa | h_oa | h_oa | h_oa | h_oa | h_oa | h_oa | h_oa | h_oa | h_oa | h_oa
      · obtain ⟨h_o, h_a⟩ : o = 0 ∧ a = 0 := by omega
        subst h_o h_a
        rw [show bodN 0 0 = 10 from rfl] at hRt hr
        have hr2 : 0 < fu + 1 := hr
        skip
        refine v_getsN C (.ref (gV G 21)) (fun s h => h.2.2.1.1) (show (_, _, "BreakTime", "BODIES", "[I", "BreakTime") ∈ nestF from by decide +kernel) dX6_say_56 ?_
        refine v_iload C 0 dX6_say_59 rfl ?_
        refine v_iconst C (nI 4) dX6_say_61 (by decide) ?_
        refine n_imul C dX6_say_62 ?_
        refine v_iload_n C 2 dX6_say_63 rfl ?_
        refine n_iadd C dX6_say_64 ?_
        refine v_bodies C (by omega) dX6_say_65 ?_
        refine v_top (nI 10) (by decide) ?_
        refine v_istore C [(6, .int (nI 10)), (5, .int (nI 0)), (0, .ref (gb G + 192)), (1, .int (nI 0)), (3, .int x), (4, .int (nI dep))] dX6_say_66 (by decide) rfl ?_
        refine v_getsN C (.ref (gV G 20)) (fun s h => h.2.1.1) (show (_, _, "BreakTime", "ABOVE", "[I", "BreakTime") ∈ nestF from by decide +kernel) dX6_say_68 ?_
        refine v_iload C 1 dX6_say_71 rfl ?_
        refine v_above C (by omega) dX6_say_73 ?_
        refine v_top (nI 0) (by decide) ?_
        refine v_istore C [(7, .int (nI 0)), (6, .int (nI 10)), (5, .int (nI 0)), (0, .ref (gb G + 192)), (1, .int (nI 0)), (3, .int x), (4, .int (nI dep))] dX6_say_74 (by decide) rfl ?_
        refine v_iload C 6 dX6_say_76 rfl ?_
        refine v_iconst C (nI 1) dX6_say_78 (by decide) ?_
        refine n_iadd C dX6_say_79 ?_
        refine v_istore C [(8, .int (nI (dep + 1))), (7, .int (nI 0)), (6, .int (nI 10)), (5, .int (nI 0)), (0, .ref (gb G + 192)), (1, .int (nI 0)), (3, .int x), (4, .int (nI dep))] dX6_say_80 (by decide) rfl ?_
        refine v_aload_n C 4 dX6_say_82 rfl ?_
        refine g_X6_14 C (by decide) (show shp 192 = 6 from by decide +kernel) dX6_say_83 ?_
        refine v_iload C 2 dX6_say_86 rfl ?_
        refine n_callVv C hRm [.int (nI 10)] cw_X4_add ml_X6_52 (by decide) (show shp 193 = 4 from by decide +kernel) (by decide) rfl (w_add l G X 193 30 (by decide) (show shp 193 = 4 from by decide +kernel) (show shp (193 + 1) = 1000 + 30 from by decide +kernel) (by decide) σ.1.length hv.2.2.2.2.1 hv.2.2.2.2.2.1 (nI 10)) (by omega) rfl rfl (Nat.le_of_ble_eq_true rfl) dX6_say_88 (fun M1 hP_88 => ?_)
        subst hP_88
        have hvq1 := hv.beg 10
        have heq1 : svF X (rowM X 193 30 σ.1.length (nI 10)) := (svF.rf X).tr (fun a _ h1 h2 => row_ne h1 h2)
        refine v_iload C 2 dX6_say_91 rfl ?_
        refine v_lookup (off := 115) C 208 dX6_say_93 (by decide +kernel) (by decide +kernel) rfl ?_
        refine v_iload_n C 6 dX6_say_208 rfl ?_
        refine v_aload_n C 4 dX6_say_209 rfl ?_
        refine g_X6_28 C (by decide) (show shp 192 = 6 from by decide +kernel) dX6_say_210 ?_
        refine v_top (nI c) (hvq1.1) ?_
        refine v_iadd C dX6_say_213 ?_
        exact n_iret C hRt rfl dX6_say_214 (rfl) ⟨hvq1, heq1⟩
      · obtain ⟨h_o, h_a⟩ : o = 0 ∧ a = 1 := by omega
        subst h_o h_a
        rw [show bodN 0 1 = 11 from rfl] at hRt hr
        have hr2 : 3 < fu + 1 := hr
        skip
        refine v_getsN C (.ref (gV G 21)) (fun s h => h.2.2.1.1) (show (_, _, "BreakTime", "BODIES", "[I", "BreakTime") ∈ nestF from by decide +kernel) dX6_say_56 ?_
        refine v_iload C 0 dX6_say_59 rfl ?_
        refine v_iconst C (nI 4) dX6_say_61 (by decide) ?_
        refine n_imul C dX6_say_62 ?_
        refine v_iload_n C 2 dX6_say_63 rfl ?_
        refine n_iadd C dX6_say_64 ?_
        refine v_bodies C (by omega) dX6_say_65 ?_
        refine v_top (nI 11) (by decide) ?_
        refine v_istore C [(6, .int (nI 11)), (5, .int (nI 0)), (0, .ref (gb G + 192)), (1, .int (nI 1)), (3, .int x), (4, .int (nI dep))] dX6_say_66 (by decide) rfl ?_
        refine v_getsN C (.ref (gV G 20)) (fun s h => h.2.1.1) (show (_, _, "BreakTime", "ABOVE", "[I", "BreakTime") ∈ nestF from by decide +kernel) dX6_say_68 ?_
        refine v_iload C 1 dX6_say_71 rfl ?_
        refine v_above C (by omega) dX6_say_73 ?_
        refine v_top (nI 0) (by decide) ?_
        refine v_istore C [(7, .int (nI 0)), (6, .int (nI 11)), (5, .int (nI 0)), (0, .ref (gb G + 192)), (1, .int (nI 1)), (3, .int x), (4, .int (nI dep))] dX6_say_74 (by decide) rfl ?_
        refine v_iload C 6 dX6_say_76 rfl ?_
        refine v_iconst C (nI 1) dX6_say_78 (by decide) ?_
        refine n_iadd C dX6_say_79 ?_
        refine v_istore C [(8, .int (nI (dep + 1))), (7, .int (nI 0)), (6, .int (nI 11)), (5, .int (nI 0)), (0, .ref (gb G + 192)), (1, .int (nI 1)), (3, .int x), (4, .int (nI dep))] dX6_say_80 (by decide) rfl ?_
        refine v_aload_n C 4 dX6_say_82 rfl ?_
        refine g_X6_14 C (by decide) (show shp 192 = 6 from by decide +kernel) dX6_say_83 ?_
        refine v_iload C 2 dX6_say_86 rfl ?_
        refine n_callVv C hRm [.int (nI 11)] cw_X4_add ml_X6_52 (by decide) (show shp 193 = 4 from by decide +kernel) (by decide) rfl (w_add l G X 193 30 (by decide) (show shp 193 = 4 from by decide +kernel) (show shp (193 + 1) = 1000 + 30 from by decide +kernel) (by decide) σ.1.length hv.2.2.2.2.1 hv.2.2.2.2.2.1 (nI 11)) (by omega) rfl rfl (Nat.le_of_ble_eq_true rfl) dX6_say_88 (fun M1 hP_88 => ?_)
        subst hP_88
        have hvq1 := hv.beg 11
        have heq1 : svF X (rowM X 193 30 σ.1.length (nI 11)) := (svF.rf X).tr (fun a _ h1 h2 => row_ne h1 h2)
        refine v_iload C 2 dX6_say_91 rfl ?_
        refine v_lookup (off := 122) C 215 dX6_say_93 (by decide +kernel) (by decide +kernel) rfl ?_
        refine v_aload_n C 4 dX6_say_215 rfl ?_
        refine v_iconst C (nI 0) dX6_say_216 (by decide) ?_
        refine v_aload_n C 4 dX6_say_217 rfl ?_
        refine g_X6_36 C (by decide) (show shp 192 = 6 from by decide +kernel) dX6_say_218 ?_
        refine v_top (nI κ) (hvq1.2.1) ?_
        refine v_iload_n C 6 dX6_say_221 rfl ?_
        refine v_iload C 0 dX6_say_222 rfl ?_
        refine n_callVi C hRm [.int (nI 0), .int (nI κ), .int x, .int (nI (dep + 1))] cw_X6_say ml_X6_41 (by decide) (show shp 192 = 6 from by decide +kernel) (by decide) rfl (hSV (rowM X 193 30 σ.1.length (nI 11)) κ 0 x (begS σ 11) (dep + 1) hvq1 hκ (by decide) (by have := rk_own κ hκ; omega) (by omega)) (by omega) rfl rfl (Nat.le_of_ble_eq_true rfl) dX6_say_224 (fun Mq2 hP_224 => ?_)
        obtain ⟨hvq2, hfq2⟩ := hP_224
        have heq2 := heq1.tr hfq2
        refine v_iconst C (nI 2) dX6_say_227 (by decide) ?_
        refine v_imul C dX6_say_228 ?_
        exact n_iret C hRt rfl dX6_say_229 (rfl) ⟨hvq2, heq2⟩
      · obtain ⟨h_o, h_a⟩ : o = 0 ∧ a = 2 := by omega
        subst h_o h_a
        rw [show bodN 0 2 = 12 from rfl] at hRt hr
        have hr2 : 6 < fu + 1 := hr
        skip
        refine v_getsN C (.ref (gV G 21)) (fun s h => h.2.2.1.1) (show (_, _, "BreakTime", "BODIES", "[I", "BreakTime") ∈ nestF from by decide +kernel) dX6_say_56 ?_
        refine v_iload C 0 dX6_say_59 rfl ?_
        refine v_iconst C (nI 4) dX6_say_61 (by decide) ?_
        refine n_imul C dX6_say_62 ?_
        refine v_iload_n C 2 dX6_say_63 rfl ?_
        refine n_iadd C dX6_say_64 ?_
        refine v_bodies C (by omega) dX6_say_65 ?_
        refine v_top (nI 12) (by decide) ?_
        refine v_istore C [(6, .int (nI 12)), (5, .int (nI 0)), (0, .ref (gb G + 192)), (1, .int (nI 2)), (3, .int x), (4, .int (nI dep))] dX6_say_66 (by decide) rfl ?_
        refine v_getsN C (.ref (gV G 20)) (fun s h => h.2.1.1) (show (_, _, "BreakTime", "ABOVE", "[I", "BreakTime") ∈ nestF from by decide +kernel) dX6_say_68 ?_
        refine v_iload C 1 dX6_say_71 rfl ?_
        refine v_above C (by omega) dX6_say_73 ?_
        refine v_top (nI 0) (by decide) ?_
        refine v_istore C [(7, .int (nI 0)), (6, .int (nI 12)), (5, .int (nI 0)), (0, .ref (gb G + 192)), (1, .int (nI 2)), (3, .int x), (4, .int (nI dep))] dX6_say_74 (by decide) rfl ?_
        refine v_iload C 6 dX6_say_76 rfl ?_
        refine v_iconst C (nI 1) dX6_say_78 (by decide) ?_
        refine n_iadd C dX6_say_79 ?_
        refine v_istore C [(8, .int (nI (dep + 1))), (7, .int (nI 0)), (6, .int (nI 12)), (5, .int (nI 0)), (0, .ref (gb G + 192)), (1, .int (nI 2)), (3, .int x), (4, .int (nI dep))] dX6_say_80 (by decide) rfl ?_
        refine v_aload_n C 4 dX6_say_82 rfl ?_
        refine g_X6_14 C (by decide) (show shp 192 = 6 from by decide +kernel) dX6_say_83 ?_
        refine v_iload C 2 dX6_say_86 rfl ?_
        refine n_callVv C hRm [.int (nI 12)] cw_X4_add ml_X6_52 (by decide) (show shp 193 = 4 from by decide +kernel) (by decide) rfl (w_add l G X 193 30 (by decide) (show shp 193 = 4 from by decide +kernel) (show shp (193 + 1) = 1000 + 30 from by decide +kernel) (by decide) σ.1.length hv.2.2.2.2.1 hv.2.2.2.2.2.1 (nI 12)) (by omega) rfl rfl (Nat.le_of_ble_eq_true rfl) dX6_say_88 (fun M1 hP_88 => ?_)
        subst hP_88
        have hvq1 := hv.beg 12
        have heq1 : svF X (rowM X 193 30 σ.1.length (nI 12)) := (svF.rf X).tr (fun a _ h1 h2 => row_ne h1 h2)
        refine v_iload C 2 dX6_say_91 rfl ?_
        refine v_lookup (off := 137) C 230 dX6_say_93 (by decide +kernel) (by decide +kernel) rfl ?_
        refine v_aload_n C 4 dX6_say_230 rfl ?_
        refine v_iconst C (nI 1) dX6_say_231 (by decide) ?_
        refine v_aload_n C 4 dX6_say_232 rfl ?_
        refine g_X6_36 C (by decide) (show shp 192 = 6 from by decide +kernel) dX6_say_233 ?_
        refine v_top (nI κ) (hvq1.2.1) ?_
        refine v_iload_n C 6 dX6_say_236 rfl ?_
        refine v_iload C 0 dX6_say_237 rfl ?_
        refine n_callVi C hRm [.int (nI 1), .int (nI κ), .int x, .int (nI (dep + 1))] cw_X6_say ml_X6_41 (by decide) (show shp 192 = 6 from by decide +kernel) (by decide) rfl (hSV (rowM X 193 30 σ.1.length (nI 12)) κ 1 x (begS σ 12) (dep + 1) hvq1 hκ (by decide) (by have := rk_own κ hκ; omega) (by omega)) (by omega) rfl rfl (Nat.le_of_ble_eq_true rfl) dX6_say_239 (fun Mq2 hP_239 => ?_)
        obtain ⟨hvq2, hfq2⟩ := hP_239
        have heq2 := heq1.tr hfq2
        refine v_aload_n C 4 dX6_say_242 rfl ?_
        refine g_X6_40 C (by decide) (show shp 192 = 6 from by decide +kernel) dX6_say_243 ?_
        refine v_top (m) (hvq2.2.2.1) ?_
        refine v_isub C dX6_say_246 ?_
        exact n_iret C hRt rfl dX6_say_247 (rfl) ⟨hvq2, heq2⟩
      · obtain ⟨h_o, h_a⟩ : o = 0 ∧ a = 3 := by omega
        subst h_o h_a
        rw [show bodN 0 3 = 13 from rfl] at hRt hr
        have hr2 : 0 < fu + 1 := hr
        have hsf : ((begS σ 13).1, false) = begS σ 13 := by
                     have h9 : σ.2 = false := by cases hh : σ.2 <;> simp_all
                     unfold begS; split <;> exact Prod.ext rfl h9.symm
        refine v_getsN C (.ref (gV G 21)) (fun s h => h.2.2.1.1) (show (_, _, "BreakTime", "BODIES", "[I", "BreakTime") ∈ nestF from by decide +kernel) dX6_say_56 ?_
        refine v_iload C 0 dX6_say_59 rfl ?_
        refine v_iconst C (nI 4) dX6_say_61 (by decide) ?_
        refine n_imul C dX6_say_62 ?_
        refine v_iload_n C 2 dX6_say_63 rfl ?_
        refine n_iadd C dX6_say_64 ?_
        refine v_bodies C (by omega) dX6_say_65 ?_
        refine v_top (nI 13) (by decide) ?_
        refine v_istore C [(6, .int (nI 13)), (5, .int (nI 0)), (0, .ref (gb G + 192)), (1, .int (nI 3)), (3, .int x), (4, .int (nI dep))] dX6_say_66 (by decide) rfl ?_
        refine v_getsN C (.ref (gV G 20)) (fun s h => h.2.1.1) (show (_, _, "BreakTime", "ABOVE", "[I", "BreakTime") ∈ nestF from by decide +kernel) dX6_say_68 ?_
        refine v_iload C 1 dX6_say_71 rfl ?_
        refine v_above C (by omega) dX6_say_73 ?_
        refine v_top (nI 0) (by decide) ?_
        refine v_istore C [(7, .int (nI 0)), (6, .int (nI 13)), (5, .int (nI 0)), (0, .ref (gb G + 192)), (1, .int (nI 3)), (3, .int x), (4, .int (nI dep))] dX6_say_74 (by decide) rfl ?_
        refine v_iload C 6 dX6_say_76 rfl ?_
        refine v_iconst C (nI 1) dX6_say_78 (by decide) ?_
        refine n_iadd C dX6_say_79 ?_
        refine v_istore C [(8, .int (nI (dep + 1))), (7, .int (nI 0)), (6, .int (nI 13)), (5, .int (nI 0)), (0, .ref (gb G + 192)), (1, .int (nI 3)), (3, .int x), (4, .int (nI dep))] dX6_say_80 (by decide) rfl ?_
        refine v_aload_n C 4 dX6_say_82 rfl ?_
        refine g_X6_14 C (by decide) (show shp 192 = 6 from by decide +kernel) dX6_say_83 ?_
        refine v_iload C 2 dX6_say_86 rfl ?_
        refine n_callVv C hRm [.int (nI 13)] cw_X4_add ml_X6_52 (by decide) (show shp 193 = 4 from by decide +kernel) (by decide) rfl (w_add l G X 193 30 (by decide) (show shp 193 = 4 from by decide +kernel) (show shp (193 + 1) = 1000 + 30 from by decide +kernel) (by decide) σ.1.length hv.2.2.2.2.1 hv.2.2.2.2.2.1 (nI 13)) (by omega) rfl rfl (Nat.le_of_ble_eq_true rfl) dX6_say_88 (fun M1 hP_88 => ?_)
        subst hP_88
        have hvq1 := hv.beg 13
        have heq1 : svF X (rowM X 193 30 σ.1.length (nI 13)) := (svF.rf X).tr (fun a _ h1 h2 => row_ne h1 h2)
        refine v_iload C 2 dX6_say_91 rfl ?_
        refine v_lookup (off := 155) C 248 dX6_say_93 (by decide +kernel) (by decide +kernel) rfl ?_
        refine v_aload_n C 4 dX6_say_248 rfl ?_
        refine v_iload_n C 6 dX6_say_249 rfl ?_
        refine v_aload_n C 4 dX6_say_250 rfl ?_
        refine g_X6_40 C (by decide) (show shp 192 = 6 from by decide +kernel) dX6_say_251 ?_
        refine v_top (m) (hvq1.2.2.1) ?_
        refine v_aload_n C 4 dX6_say_254 rfl ?_
        refine g_X6_28 C (by decide) (show shp 192 = 6 from by decide +kernel) dX6_say_255 ?_
        refine v_top (nI c) (hvq1.1) ?_
        refine v_isub C dX6_say_258 ?_
        refine n_callVi C hRm [.int x, .int (m - (nI c))] cw_X6_part ml_X6_55 (by decide) (show shp 192 = 6 from by decide +kernel) (by decide) rfl (v_part l G (rowM X 193 30 σ.1.length (nI 13)) x (m - (nI c))) (by omega) rfl rfl (Nat.le_of_ble_eq_true rfl) dX6_say_259 (fun M2 hM2 => ?_)
        by_cases hmc : m = nI c
        · rw [if_pos (show (m - (nI c)) = 0 from by rw [hmc]; exact Int32.sub_self _)] at hM2
          subst hM2
          refine v_top (nI 0) (if_pos (show (m - (nI c)) = 0 from by rw [hmc]; exact Int32.sub_self _)) ?_
          exact n_iret C hRt rfl dX6_say_262 (by show _ = (if m = nI c then _ else _ : Int32 × VS).1; rw [if_pos hmc]) ⟨by show cvR _ c κ m (if m = nI c then _ else _ : Int32 × VS).2; rw [if_pos hmc]; exact hvq1.part, heq1.tr (fun a h1 _ _ => up2_ne _ _ _ h1)⟩
        · rw [if_neg (show ¬ (m - (nI c)) = 0 from sub_ne hmc)] at hM2
          subst hM2
          refine v_top (x / (m - (nI c))) (if_neg (show ¬ (m - (nI c)) = 0 from sub_ne hmc)) ?_
          exact n_iret C hRt rfl dX6_say_262 (by show _ = (if m = nI c then _ else _ : Int32 × VS).1; rw [if_neg hmc]) ⟨by show cvR _ c κ m (if m = nI c then _ else _ : Int32 × VS).2; rw [if_neg hmc]; exact hsf ▸ hvq1, heq1⟩
      · obtain ⟨h_o, h_a⟩ : o = 1 ∧ a = 0 := by omega
        subst h_o h_a
        rw [show bodN 1 0 = 20 from rfl] at hRt hr
        have hr2 : 1 < fu + 1 := hr
        skip
        refine v_getsN C (.ref (gV G 21)) (fun s h => h.2.2.1.1) (show (_, _, "BreakTime", "BODIES", "[I", "BreakTime") ∈ nestF from by decide +kernel) dX6_say_56 ?_
        refine v_iload C 0 dX6_say_59 rfl ?_
        refine v_iconst C (nI 4) dX6_say_61 (by decide) ?_
        refine n_imul C dX6_say_62 ?_
        refine v_iload_n C 2 dX6_say_63 rfl ?_
        refine n_iadd C dX6_say_64 ?_
        refine v_bodies C (by omega) dX6_say_65 ?_
        refine v_top (nI 20) (by decide) ?_
        refine v_istore C [(6, .int (nI 20)), (5, .int (nI 1)), (0, .ref (gb G + 192)), (1, .int (nI 0)), (3, .int x), (4, .int (nI dep))] dX6_say_66 (by decide) rfl ?_
        refine v_getsN C (.ref (gV G 20)) (fun s h => h.2.1.1) (show (_, _, "BreakTime", "ABOVE", "[I", "BreakTime") ∈ nestF from by decide +kernel) dX6_say_68 ?_
        refine v_iload C 1 dX6_say_71 rfl ?_
        refine v_above C (by omega) dX6_say_73 ?_
        refine v_top (nI 0) (by decide) ?_
        refine v_istore C [(7, .int (nI 0)), (6, .int (nI 20)), (5, .int (nI 1)), (0, .ref (gb G + 192)), (1, .int (nI 0)), (3, .int x), (4, .int (nI dep))] dX6_say_74 (by decide) rfl ?_
        refine v_iload C 6 dX6_say_76 rfl ?_
        refine v_iconst C (nI 1) dX6_say_78 (by decide) ?_
        refine n_iadd C dX6_say_79 ?_
        refine v_istore C [(8, .int (nI (dep + 1))), (7, .int (nI 0)), (6, .int (nI 20)), (5, .int (nI 1)), (0, .ref (gb G + 192)), (1, .int (nI 0)), (3, .int x), (4, .int (nI dep))] dX6_say_80 (by decide) rfl ?_
        refine v_aload_n C 4 dX6_say_82 rfl ?_
        refine g_X6_14 C (by decide) (show shp 192 = 6 from by decide +kernel) dX6_say_83 ?_
        refine v_iload C 2 dX6_say_86 rfl ?_
        refine n_callVv C hRm [.int (nI 20)] cw_X4_add ml_X6_52 (by decide) (show shp 193 = 4 from by decide +kernel) (by decide) rfl (w_add l G X 193 30 (by decide) (show shp 193 = 4 from by decide +kernel) (show shp (193 + 1) = 1000 + 30 from by decide +kernel) (by decide) σ.1.length hv.2.2.2.2.1 hv.2.2.2.2.2.1 (nI 20)) (by omega) rfl rfl (Nat.le_of_ble_eq_true rfl) dX6_say_88 (fun M1 hP_88 => ?_)
        subst hP_88
        have hvq1 := hv.beg 20
        have heq1 : svF X (rowM X 193 30 σ.1.length (nI 20)) := (svF.rf X).tr (fun a _ h1 h2 => row_ne h1 h2)
        refine v_iload C 2 dX6_say_91 rfl ?_
        refine v_lookup (off := 170) C 263 dX6_say_93 (by decide +kernel) (by decide +kernel) rfl ?_
        refine v_aload_n C 4 dX6_say_263 rfl ?_
        refine v_iconst C (nI 0) dX6_say_264 (by decide) ?_
        refine v_iload C 1 dX6_say_265 rfl ?_
        refine v_iload_n C 6 dX6_say_267 rfl ?_
        refine v_iload C 0 dX6_say_268 rfl ?_
        refine n_callVi C hRm [.int (nI 0), .int (nI 0), .int x, .int (nI (dep + 1))] cw_X6_say ml_X6_41 (by decide) (show shp 192 = 6 from by decide +kernel) (by decide) rfl (hSV (rowM X 193 30 σ.1.length (nI 20)) 0 0 x (begS σ 20) (dep + 1) hvq1 (by decide) (by decide) (show rkB (bodN (ownN 0 0) 0) < fu from by have h : rkB (bodN (ownN 0 0) 0) = 0 := rfl; omega) (by omega)) (by omega) rfl rfl (Nat.le_of_ble_eq_true rfl) dX6_say_270 (fun Mq2 hP_270 => ?_)
        obtain ⟨hvq2, hfq2⟩ := hP_270
        have heq2 := heq1.tr hfq2
        refine v_bipush C (nI 6) dX6_say_273 (by decide) ?_
        refine v_isub C dX6_say_275 ?_
        exact n_iret C hRt rfl dX6_say_276 (rfl) ⟨hvq2, heq2⟩
      · obtain ⟨h_o, h_a⟩ : o = 1 ∧ a = 3 := by omega
        subst h_o h_a
        rw [show bodN 1 3 = 21 from rfl] at hRt hr
        have hr2 : 6 < fu + 1 := hr
        skip
        refine v_getsN C (.ref (gV G 21)) (fun s h => h.2.2.1.1) (show (_, _, "BreakTime", "BODIES", "[I", "BreakTime") ∈ nestF from by decide +kernel) dX6_say_56 ?_
        refine v_iload C 0 dX6_say_59 rfl ?_
        refine v_iconst C (nI 4) dX6_say_61 (by decide) ?_
        refine n_imul C dX6_say_62 ?_
        refine v_iload_n C 2 dX6_say_63 rfl ?_
        refine n_iadd C dX6_say_64 ?_
        refine v_bodies C (by omega) dX6_say_65 ?_
        refine v_top (nI 21) (by decide) ?_
        refine v_istore C [(6, .int (nI 21)), (5, .int (nI 1)), (0, .ref (gb G + 192)), (1, .int (nI 3)), (3, .int x), (4, .int (nI dep))] dX6_say_66 (by decide) rfl ?_
        refine v_getsN C (.ref (gV G 20)) (fun s h => h.2.1.1) (show (_, _, "BreakTime", "ABOVE", "[I", "BreakTime") ∈ nestF from by decide +kernel) dX6_say_68 ?_
        refine v_iload C 1 dX6_say_71 rfl ?_
        refine v_above C (by omega) dX6_say_73 ?_
        refine v_top (nI 0) (by decide) ?_
        refine v_istore C [(7, .int (nI 0)), (6, .int (nI 21)), (5, .int (nI 1)), (0, .ref (gb G + 192)), (1, .int (nI 3)), (3, .int x), (4, .int (nI dep))] dX6_say_74 (by decide) rfl ?_
        refine v_iload C 6 dX6_say_76 rfl ?_
        refine v_iconst C (nI 1) dX6_say_78 (by decide) ?_
        refine n_iadd C dX6_say_79 ?_
        refine v_istore C [(8, .int (nI (dep + 1))), (7, .int (nI 0)), (6, .int (nI 21)), (5, .int (nI 1)), (0, .ref (gb G + 192)), (1, .int (nI 3)), (3, .int x), (4, .int (nI dep))] dX6_say_80 (by decide) rfl ?_
        refine v_aload_n C 4 dX6_say_82 rfl ?_
        refine g_X6_14 C (by decide) (show shp 192 = 6 from by decide +kernel) dX6_say_83 ?_
        refine v_iload C 2 dX6_say_86 rfl ?_
        refine n_callVv C hRm [.int (nI 21)] cw_X4_add ml_X6_52 (by decide) (show shp 193 = 4 from by decide +kernel) (by decide) rfl (w_add l G X 193 30 (by decide) (show shp 193 = 4 from by decide +kernel) (show shp (193 + 1) = 1000 + 30 from by decide +kernel) (by decide) σ.1.length hv.2.2.2.2.1 hv.2.2.2.2.2.1 (nI 21)) (by omega) rfl rfl (Nat.le_of_ble_eq_true rfl) dX6_say_88 (fun M1 hP_88 => ?_)
        subst hP_88
        have hvq1 := hv.beg 21
        have heq1 : svF X (rowM X 193 30 σ.1.length (nI 21)) := (svF.rf X).tr (fun a _ h1 h2 => row_ne h1 h2)
        refine v_iload C 2 dX6_say_91 rfl ?_
        refine v_lookup (off := 184) C 277 dX6_say_93 (by decide +kernel) (by decide +kernel) rfl ?_
        refine v_aload_n C 4 dX6_say_277 rfl ?_
        refine v_iconst C (nI 3) dX6_say_278 (by decide) ?_
        refine v_iload C 1 dX6_say_279 rfl ?_
        refine v_iload_n C 6 dX6_say_281 rfl ?_
        refine v_iload C 0 dX6_say_282 rfl ?_
        refine n_callVi C hRm [.int (nI 3), .int (nI 0), .int x, .int (nI (dep + 1))] cw_X6_say ml_X6_41 (by decide) (show shp 192 = 6 from by decide +kernel) (by decide) rfl (hSV (rowM X 193 30 σ.1.length (nI 21)) 0 3 x (begS σ 21) (dep + 1) hvq1 (by decide) (by decide) (show rkB (bodN (ownN 0 3) 3) < fu from by have h : rkB (bodN (ownN 0 3) 3) = 0 := rfl; omega) (by omega)) (by omega) rfl rfl (Nat.le_of_ble_eq_true rfl) dX6_say_284 (fun Mq2 hP_284 => ?_)
        obtain ⟨hvq2, hfq2⟩ := hP_284
        have heq2 := heq1.tr hfq2
        refine v_aload_n C 4 dX6_say_287 rfl ?_
        refine v_iconst C (nI 1) dX6_say_288 (by decide) ?_
        refine v_aload_n C 4 dX6_say_289 rfl ?_
        refine g_X6_36 C (by decide) (show shp 192 = 6 from by decide +kernel) dX6_say_290 ?_
        refine v_top (nI κ) (hvq2.2.1) ?_
        refine v_iconst C (nI 1) dX6_say_293 (by decide) ?_
        refine v_iload C 0 dX6_say_294 rfl ?_
        refine n_callVi C hRm [.int (nI 1), .int (nI κ), .int (nI 1), .int (nI (dep + 1))] cw_X6_say ml_X6_41 (by decide) (show shp 192 = 6 from by decide +kernel) (by decide) rfl (hSV Mq2 κ 1 (nI 1) ((vF κ m c fu 0 3 x (begS σ 21)).2) (dep + 1) hvq2 hκ (by decide) (by have := rk_own κ hκ; omega) (by omega)) (by omega) rfl rfl (Nat.le_of_ble_eq_true rfl) dX6_say_296 (fun Mq3 hP_296 => ?_)
        obtain ⟨hvq3, hfq3⟩ := hP_296
        have heq3 := heq2.tr hfq3
        refine v_iadd C dX6_say_299 ?_
        exact n_iret C hRt rfl dX6_say_300 (rfl) ⟨hvq3, heq3⟩
      · obtain ⟨h_o, h_a⟩ : o = 2 ∧ a = 1 := by omega
        subst h_o h_a
        rw [show bodN 2 1 = 30 from rfl] at hRt hr
        have hr2 : 4 < fu + 1 := hr
        skip
        refine v_getsN C (.ref (gV G 21)) (fun s h => h.2.2.1.1) (show (_, _, "BreakTime", "BODIES", "[I", "BreakTime") ∈ nestF from by decide +kernel) dX6_say_56 ?_
        refine v_iload C 0 dX6_say_59 rfl ?_
        refine v_iconst C (nI 4) dX6_say_61 (by decide) ?_
        refine n_imul C dX6_say_62 ?_
        refine v_iload_n C 2 dX6_say_63 rfl ?_
        refine n_iadd C dX6_say_64 ?_
        refine v_bodies C (by omega) dX6_say_65 ?_
        refine v_top (nI 30) (by decide) ?_
        refine v_istore C [(6, .int (nI 30)), (5, .int (nI 2)), (0, .ref (gb G + 192)), (1, .int (nI 1)), (3, .int x), (4, .int (nI dep))] dX6_say_66 (by decide) rfl ?_
        refine v_getsN C (.ref (gV G 20)) (fun s h => h.2.1.1) (show (_, _, "BreakTime", "ABOVE", "[I", "BreakTime") ∈ nestF from by decide +kernel) dX6_say_68 ?_
        refine v_iload C 1 dX6_say_71 rfl ?_
        refine v_above C (by omega) dX6_say_73 ?_
        refine v_top (nI 0) (by decide) ?_
        refine v_istore C [(7, .int (nI 0)), (6, .int (nI 30)), (5, .int (nI 2)), (0, .ref (gb G + 192)), (1, .int (nI 1)), (3, .int x), (4, .int (nI dep))] dX6_say_74 (by decide) rfl ?_
        refine v_iload C 6 dX6_say_76 rfl ?_
        refine v_iconst C (nI 1) dX6_say_78 (by decide) ?_
        refine n_iadd C dX6_say_79 ?_
        refine v_istore C [(8, .int (nI (dep + 1))), (7, .int (nI 0)), (6, .int (nI 30)), (5, .int (nI 2)), (0, .ref (gb G + 192)), (1, .int (nI 1)), (3, .int x), (4, .int (nI dep))] dX6_say_80 (by decide) rfl ?_
        refine v_aload_n C 4 dX6_say_82 rfl ?_
        refine g_X6_14 C (by decide) (show shp 192 = 6 from by decide +kernel) dX6_say_83 ?_
        refine v_iload C 2 dX6_say_86 rfl ?_
        refine n_callVv C hRm [.int (nI 30)] cw_X4_add ml_X6_52 (by decide) (show shp 193 = 4 from by decide +kernel) (by decide) rfl (w_add l G X 193 30 (by decide) (show shp 193 = 4 from by decide +kernel) (show shp (193 + 1) = 1000 + 30 from by decide +kernel) (by decide) σ.1.length hv.2.2.2.2.1 hv.2.2.2.2.2.1 (nI 30)) (by omega) rfl rfl (Nat.le_of_ble_eq_true rfl) dX6_say_88 (fun M1 hP_88 => ?_)
        subst hP_88
        have hvq1 := hv.beg 30
        have heq1 : svF X (rowM X 193 30 σ.1.length (nI 30)) := (svF.rf X).tr (fun a _ h1 h2 => row_ne h1 h2)
        refine v_iload C 2 dX6_say_91 rfl ?_
        refine v_lookup (off := 208) C 301 dX6_say_93 (by decide +kernel) (by decide +kernel) rfl ?_
        refine v_iconst C (nI 0) dX6_say_301 (by decide) ?_
        refine v_aload_n C 4 dX6_say_302 rfl ?_
        refine v_iconst C (nI 1) dX6_say_303 (by decide) ?_
        refine v_iload C 1 dX6_say_304 rfl ?_
        refine v_iload_n C 6 dX6_say_306 rfl ?_
        refine v_iload C 0 dX6_say_307 rfl ?_
        refine n_callVi C hRm [.int (nI 1), .int (nI 0), .int x, .int (nI (dep + 1))] cw_X6_say ml_X6_41 (by decide) (show shp 192 = 6 from by decide +kernel) (by decide) rfl (hSV (rowM X 193 30 σ.1.length (nI 30)) 0 1 x (begS σ 30) (dep + 1) hvq1 (by decide) (by decide) (show rkB (bodN (ownN 0 1) 1) < fu from by have h : rkB (bodN (ownN 0 1) 1) = 3 := rfl; omega) (by omega)) (by omega) rfl rfl (Nat.le_of_ble_eq_true rfl) dX6_say_309 (fun Mq2 hP_309 => ?_)
        obtain ⟨hvq2, hfq2⟩ := hP_309
        have heq2 := heq1.tr hfq2
        refine v_isub C dX6_say_312 ?_
        exact n_iret C hRt rfl dX6_say_313 (Int32.zero_sub _) ⟨hvq2, heq2⟩
      · obtain ⟨h_o, h_a⟩ : o = 3 ∧ a = 2 := by omega
        subst h_o h_a
        rw [show bodN 3 2 = 40 from rfl] at hRt hr
        have hr2 : 7 < fu + 1 := hr
        skip
        refine v_getsN C (.ref (gV G 21)) (fun s h => h.2.2.1.1) (show (_, _, "BreakTime", "BODIES", "[I", "BreakTime") ∈ nestF from by decide +kernel) dX6_say_56 ?_
        refine v_iload C 0 dX6_say_59 rfl ?_
        refine v_iconst C (nI 4) dX6_say_61 (by decide) ?_
        refine n_imul C dX6_say_62 ?_
        refine v_iload_n C 2 dX6_say_63 rfl ?_
        refine n_iadd C dX6_say_64 ?_
        refine v_bodies C (by omega) dX6_say_65 ?_
        refine v_top (nI 40) (by decide) ?_
        refine v_istore C [(6, .int (nI 40)), (5, .int (nI 3)), (0, .ref (gb G + 192)), (1, .int (nI 2)), (3, .int x), (4, .int (nI dep))] dX6_say_66 (by decide) rfl ?_
        refine v_getsN C (.ref (gV G 20)) (fun s h => h.2.1.1) (show (_, _, "BreakTime", "ABOVE", "[I", "BreakTime") ∈ nestF from by decide +kernel) dX6_say_68 ?_
        refine v_iload C 1 dX6_say_71 rfl ?_
        refine v_above C (by omega) dX6_say_73 ?_
        refine v_top (nI 0) (by decide) ?_
        refine v_istore C [(7, .int (nI 0)), (6, .int (nI 40)), (5, .int (nI 3)), (0, .ref (gb G + 192)), (1, .int (nI 2)), (3, .int x), (4, .int (nI dep))] dX6_say_74 (by decide) rfl ?_
        refine v_iload C 6 dX6_say_76 rfl ?_
        refine v_iconst C (nI 1) dX6_say_78 (by decide) ?_
        refine n_iadd C dX6_say_79 ?_
        refine v_istore C [(8, .int (nI (dep + 1))), (7, .int (nI 0)), (6, .int (nI 40)), (5, .int (nI 3)), (0, .ref (gb G + 192)), (1, .int (nI 2)), (3, .int x), (4, .int (nI dep))] dX6_say_80 (by decide) rfl ?_
        refine v_aload_n C 4 dX6_say_82 rfl ?_
        refine g_X6_14 C (by decide) (show shp 192 = 6 from by decide +kernel) dX6_say_83 ?_
        refine v_iload C 2 dX6_say_86 rfl ?_
        refine n_callVv C hRm [.int (nI 40)] cw_X4_add ml_X6_52 (by decide) (show shp 193 = 4 from by decide +kernel) (by decide) rfl (w_add l G X 193 30 (by decide) (show shp 193 = 4 from by decide +kernel) (show shp (193 + 1) = 1000 + 30 from by decide +kernel) (by decide) σ.1.length hv.2.2.2.2.1 hv.2.2.2.2.2.1 (nI 40)) (by omega) rfl rfl (Nat.le_of_ble_eq_true rfl) dX6_say_88 (fun M1 hP_88 => ?_)
        subst hP_88
        have hvq1 := hv.beg 40
        have heq1 : svF X (rowM X 193 30 σ.1.length (nI 40)) := (svF.rf X).tr (fun a _ h1 h2 => row_ne h1 h2)
        refine v_iload C 2 dX6_say_91 rfl ?_
        refine v_lookup (off := 221) C 314 dX6_say_93 (by decide +kernel) (by decide +kernel) rfl ?_
        refine v_aload_n C 4 dX6_say_314 rfl ?_
        refine v_iconst C (nI 2) dX6_say_315 (by decide) ?_
        refine v_iload C 1 dX6_say_316 rfl ?_
        refine v_iload_n C 6 dX6_say_318 rfl ?_
        refine v_iconst C (nI 2) dX6_say_319 (by decide) ?_
        refine v_idiv C dX6_say_320 (by decide) ?_
        refine v_iload C 0 dX6_say_321 rfl ?_
        refine n_callVi C hRm [.int (nI 2), .int (nI 0), .int (x / (nI 2)), .int (nI (dep + 1))] cw_X6_say ml_X6_41 (by decide) (show shp 192 = 6 from by decide +kernel) (by decide) rfl (hSV (rowM X 193 30 σ.1.length (nI 40)) 0 2 (x / (nI 2)) (begS σ 40) (dep + 1) hvq1 (by decide) (by decide) (show rkB (bodN (ownN 0 2) 2) < fu from by have h : rkB (bodN (ownN 0 2) 2) = 6 := rfl; omega) (by omega)) (by omega) rfl rfl (Nat.le_of_ble_eq_true rfl) dX6_say_323 (fun Mq2 hP_323 => ?_)
        obtain ⟨hvq2, hfq2⟩ := hP_323
        have heq2 := heq1.tr hfq2
        exact n_iret C hRt rfl dX6_say_326 (rfl) ⟨hvq2, heq2⟩
      · obtain ⟨h_o, h_a⟩ : o = 4 ∧ a = 0 := by omega
        subst h_o h_a
        rw [show bodN 4 0 = 50 from rfl] at hRt hr
        have hr2 : 2 < fu + 1 := hr
        skip
        refine v_getsN C (.ref (gV G 21)) (fun s h => h.2.2.1.1) (show (_, _, "BreakTime", "BODIES", "[I", "BreakTime") ∈ nestF from by decide +kernel) dX6_say_56 ?_
        refine v_iload C 0 dX6_say_59 rfl ?_
        refine v_iconst C (nI 4) dX6_say_61 (by decide) ?_
        refine n_imul C dX6_say_62 ?_
        refine v_iload_n C 2 dX6_say_63 rfl ?_
        refine n_iadd C dX6_say_64 ?_
        refine v_bodies C (by omega) dX6_say_65 ?_
        refine v_top (nI 50) (by decide) ?_
        refine v_istore C [(6, .int (nI 50)), (5, .int (nI 4)), (0, .ref (gb G + 192)), (1, .int (nI 0)), (3, .int x), (4, .int (nI dep))] dX6_say_66 (by decide) rfl ?_
        refine v_getsN C (.ref (gV G 20)) (fun s h => h.2.1.1) (show (_, _, "BreakTime", "ABOVE", "[I", "BreakTime") ∈ nestF from by decide +kernel) dX6_say_68 ?_
        refine v_iload C 1 dX6_say_71 rfl ?_
        refine v_above C (by omega) dX6_say_73 ?_
        refine v_top (nI 1) (by decide) ?_
        refine v_istore C [(7, .int (nI 1)), (6, .int (nI 50)), (5, .int (nI 4)), (0, .ref (gb G + 192)), (1, .int (nI 0)), (3, .int x), (4, .int (nI dep))] dX6_say_74 (by decide) rfl ?_
        refine v_iload C 6 dX6_say_76 rfl ?_
        refine v_iconst C (nI 1) dX6_say_78 (by decide) ?_
        refine n_iadd C dX6_say_79 ?_
        refine v_istore C [(8, .int (nI (dep + 1))), (7, .int (nI 1)), (6, .int (nI 50)), (5, .int (nI 4)), (0, .ref (gb G + 192)), (1, .int (nI 0)), (3, .int x), (4, .int (nI dep))] dX6_say_80 (by decide) rfl ?_
        refine v_aload_n C 4 dX6_say_82 rfl ?_
        refine g_X6_14 C (by decide) (show shp 192 = 6 from by decide +kernel) dX6_say_83 ?_
        refine v_iload C 2 dX6_say_86 rfl ?_
        refine n_callVv C hRm [.int (nI 50)] cw_X4_add ml_X6_52 (by decide) (show shp 193 = 4 from by decide +kernel) (by decide) rfl (w_add l G X 193 30 (by decide) (show shp 193 = 4 from by decide +kernel) (show shp (193 + 1) = 1000 + 30 from by decide +kernel) (by decide) σ.1.length hv.2.2.2.2.1 hv.2.2.2.2.2.1 (nI 50)) (by omega) rfl rfl (Nat.le_of_ble_eq_true rfl) dX6_say_88 (fun M1 hP_88 => ?_)
        subst hP_88
        have hvq1 := hv.beg 50
        have heq1 : svF X (rowM X 193 30 σ.1.length (nI 50)) := (svF.rf X).tr (fun a _ h1 h2 => row_ne h1 h2)
        refine v_iload C 2 dX6_say_91 rfl ?_
        refine v_lookup (off := 234) C 327 dX6_say_93 (by decide +kernel) (by decide +kernel) rfl ?_
        refine v_aload_n C 4 dX6_say_327 rfl ?_
        refine v_iconst C (nI 0) dX6_say_328 (by decide) ?_
        refine v_iload C 1 dX6_say_329 rfl ?_
        refine v_iload_n C 6 dX6_say_331 rfl ?_
        refine v_iload C 0 dX6_say_332 rfl ?_
        refine n_callVi C hRm [.int (nI 0), .int (nI 1), .int x, .int (nI (dep + 1))] cw_X6_say ml_X6_41 (by decide) (show shp 192 = 6 from by decide +kernel) (by decide) rfl (hSV (rowM X 193 30 σ.1.length (nI 50)) 1 0 x (begS σ 50) (dep + 1) hvq1 (by decide) (by decide) (show rkB (bodN (ownN 1 0) 0) < fu from by have h : rkB (bodN (ownN 1 0) 0) = 1 := rfl; omega) (by omega)) (by omega) rfl rfl (Nat.le_of_ble_eq_true rfl) dX6_say_334 (fun Mq2 hP_334 => ?_)
        obtain ⟨hvq2, hfq2⟩ := hP_334
        have heq2 := heq1.tr hfq2
        refine v_iconst C (nI 3) dX6_say_337 (by decide) ?_
        refine v_imul C dX6_say_338 ?_
        exact n_iret C hRt rfl dX6_say_339 (rfl) ⟨hvq2, heq2⟩
      · obtain ⟨h_o, h_a⟩ : o = 4 ∧ a = 2 := by omega
        subst h_o h_a
        rw [show bodN 4 2 = 51 from rfl] at hRt hr
        have hr2 : 7 < fu + 1 := hr
        skip
        refine v_getsN C (.ref (gV G 21)) (fun s h => h.2.2.1.1) (show (_, _, "BreakTime", "BODIES", "[I", "BreakTime") ∈ nestF from by decide +kernel) dX6_say_56 ?_
        refine v_iload C 0 dX6_say_59 rfl ?_
        refine v_iconst C (nI 4) dX6_say_61 (by decide) ?_
        refine n_imul C dX6_say_62 ?_
        refine v_iload_n C 2 dX6_say_63 rfl ?_
        refine n_iadd C dX6_say_64 ?_
        refine v_bodies C (by omega) dX6_say_65 ?_
        refine v_top (nI 51) (by decide) ?_
        refine v_istore C [(6, .int (nI 51)), (5, .int (nI 4)), (0, .ref (gb G + 192)), (1, .int (nI 2)), (3, .int x), (4, .int (nI dep))] dX6_say_66 (by decide) rfl ?_
        refine v_getsN C (.ref (gV G 20)) (fun s h => h.2.1.1) (show (_, _, "BreakTime", "ABOVE", "[I", "BreakTime") ∈ nestF from by decide +kernel) dX6_say_68 ?_
        refine v_iload C 1 dX6_say_71 rfl ?_
        refine v_above C (by omega) dX6_say_73 ?_
        refine v_top (nI 1) (by decide) ?_
        refine v_istore C [(7, .int (nI 1)), (6, .int (nI 51)), (5, .int (nI 4)), (0, .ref (gb G + 192)), (1, .int (nI 2)), (3, .int x), (4, .int (nI dep))] dX6_say_74 (by decide) rfl ?_
        refine v_iload C 6 dX6_say_76 rfl ?_
        refine v_iconst C (nI 1) dX6_say_78 (by decide) ?_
        refine n_iadd C dX6_say_79 ?_
        refine v_istore C [(8, .int (nI (dep + 1))), (7, .int (nI 1)), (6, .int (nI 51)), (5, .int (nI 4)), (0, .ref (gb G + 192)), (1, .int (nI 2)), (3, .int x), (4, .int (nI dep))] dX6_say_80 (by decide) rfl ?_
        refine v_aload_n C 4 dX6_say_82 rfl ?_
        refine g_X6_14 C (by decide) (show shp 192 = 6 from by decide +kernel) dX6_say_83 ?_
        refine v_iload C 2 dX6_say_86 rfl ?_
        refine n_callVv C hRm [.int (nI 51)] cw_X4_add ml_X6_52 (by decide) (show shp 193 = 4 from by decide +kernel) (by decide) rfl (w_add l G X 193 30 (by decide) (show shp 193 = 4 from by decide +kernel) (show shp (193 + 1) = 1000 + 30 from by decide +kernel) (by decide) σ.1.length hv.2.2.2.2.1 hv.2.2.2.2.2.1 (nI 51)) (by omega) rfl rfl (Nat.le_of_ble_eq_true rfl) dX6_say_88 (fun M1 hP_88 => ?_)
        subst hP_88
        have hvq1 := hv.beg 51
        have heq1 : svF X (rowM X 193 30 σ.1.length (nI 51)) := (svF.rf X).tr (fun a _ h1 h2 => row_ne h1 h2)
        refine v_iload C 2 dX6_say_91 rfl ?_
        refine v_lookup (off := 247) C 340 dX6_say_93 (by decide +kernel) (by decide +kernel) rfl ?_
        refine v_aload_n C 4 dX6_say_340 rfl ?_
        refine v_iconst C (nI 2) dX6_say_341 (by decide) ?_
        refine v_iload C 1 dX6_say_342 rfl ?_
        refine v_iload_n C 6 dX6_say_344 rfl ?_
        refine v_iload C 0 dX6_say_345 rfl ?_
        refine n_callVi C hRm [.int (nI 2), .int (nI 1), .int x, .int (nI (dep + 1))] cw_X6_say ml_X6_41 (by decide) (show shp 192 = 6 from by decide +kernel) (by decide) rfl (hSV (rowM X 193 30 σ.1.length (nI 51)) 1 2 x (begS σ 51) (dep + 1) hvq1 (by decide) (by decide) (show rkB (bodN (ownN 1 2) 2) < fu from by have h : rkB (bodN (ownN 1 2) 2) = 6 := rfl; omega) (by omega)) (by omega) rfl rfl (Nat.le_of_ble_eq_true rfl) dX6_say_347 (fun Mq2 hP_347 => ?_)
        obtain ⟨hvq2, hfq2⟩ := hP_347
        have heq2 := heq1.tr hfq2
        refine v_aload_n C 4 dX6_say_350 rfl ?_
        refine g_X6_28 C (by decide) (show shp 192 = 6 from by decide +kernel) dX6_say_351 ?_
        refine v_top (nI c) (hvq2.1) ?_
        refine v_ixor C dX6_say_354 ?_
        exact n_iret C hRt rfl dX6_say_355 (rfl) ⟨hvq2, heq2⟩
      · obtain ⟨h_o, h_a⟩ : o = 5 ∧ a = 1 := by omega
        subst h_o h_a
        rw [show bodN 5 1 = 60 from rfl] at hRt hr
        have hr2 : 5 < fu + 1 := hr
        skip
        refine v_getsN C (.ref (gV G 21)) (fun s h => h.2.2.1.1) (show (_, _, "BreakTime", "BODIES", "[I", "BreakTime") ∈ nestF from by decide +kernel) dX6_say_56 ?_
        refine v_iload C 0 dX6_say_59 rfl ?_
        refine v_iconst C (nI 4) dX6_say_61 (by decide) ?_
        refine n_imul C dX6_say_62 ?_
        refine v_iload_n C 2 dX6_say_63 rfl ?_
        refine n_iadd C dX6_say_64 ?_
        refine v_bodies C (by omega) dX6_say_65 ?_
        refine v_top (nI 60) (by decide) ?_
        refine v_istore C [(6, .int (nI 60)), (5, .int (nI 5)), (0, .ref (gb G + 192)), (1, .int (nI 1)), (3, .int x), (4, .int (nI dep))] dX6_say_66 (by decide) rfl ?_
        refine v_getsN C (.ref (gV G 20)) (fun s h => h.2.1.1) (show (_, _, "BreakTime", "ABOVE", "[I", "BreakTime") ∈ nestF from by decide +kernel) dX6_say_68 ?_
        refine v_iload C 1 dX6_say_71 rfl ?_
        refine v_above C (by omega) dX6_say_73 ?_
        refine v_top (nI 2) (by decide) ?_
        refine v_istore C [(7, .int (nI 2)), (6, .int (nI 60)), (5, .int (nI 5)), (0, .ref (gb G + 192)), (1, .int (nI 1)), (3, .int x), (4, .int (nI dep))] dX6_say_74 (by decide) rfl ?_
        refine v_iload C 6 dX6_say_76 rfl ?_
        refine v_iconst C (nI 1) dX6_say_78 (by decide) ?_
        refine n_iadd C dX6_say_79 ?_
        refine v_istore C [(8, .int (nI (dep + 1))), (7, .int (nI 2)), (6, .int (nI 60)), (5, .int (nI 5)), (0, .ref (gb G + 192)), (1, .int (nI 1)), (3, .int x), (4, .int (nI dep))] dX6_say_80 (by decide) rfl ?_
        refine v_aload_n C 4 dX6_say_82 rfl ?_
        refine g_X6_14 C (by decide) (show shp 192 = 6 from by decide +kernel) dX6_say_83 ?_
        refine v_iload C 2 dX6_say_86 rfl ?_
        refine n_callVv C hRm [.int (nI 60)] cw_X4_add ml_X6_52 (by decide) (show shp 193 = 4 from by decide +kernel) (by decide) rfl (w_add l G X 193 30 (by decide) (show shp 193 = 4 from by decide +kernel) (show shp (193 + 1) = 1000 + 30 from by decide +kernel) (by decide) σ.1.length hv.2.2.2.2.1 hv.2.2.2.2.2.1 (nI 60)) (by omega) rfl rfl (Nat.le_of_ble_eq_true rfl) dX6_say_88 (fun M1 hP_88 => ?_)
        subst hP_88
        have hvq1 := hv.beg 60
        have heq1 : svF X (rowM X 193 30 σ.1.length (nI 60)) := (svF.rf X).tr (fun a _ h1 h2 => row_ne h1 h2)
        refine v_iload C 2 dX6_say_91 rfl ?_
        refine v_lookup (off := 263) C 356 dX6_say_93 (by decide +kernel) (by decide +kernel) rfl ?_
        refine v_aload_n C 4 dX6_say_356 rfl ?_
        refine v_iconst C (nI 1) dX6_say_357 (by decide) ?_
        refine v_iload C 1 dX6_say_358 rfl ?_
        refine v_iload_n C 6 dX6_say_360 rfl ?_
        refine v_iconst C (nI 1) dX6_say_361 (by decide) ?_
        refine v_iadd C dX6_say_362 ?_
        refine v_iload C 0 dX6_say_363 rfl ?_
        refine n_callVi C hRm [.int (nI 1), .int (nI 2), .int (x + (nI 1)), .int (nI (dep + 1))] cw_X6_say ml_X6_41 (by decide) (show shp 192 = 6 from by decide +kernel) (by decide) rfl (hSV (rowM X 193 30 σ.1.length (nI 60)) 2 1 (x + (nI 1)) (begS σ 60) (dep + 1) hvq1 (by decide) (by decide) (show rkB (bodN (ownN 2 1) 1) < fu from by have h : rkB (bodN (ownN 2 1) 1) = 4 := rfl; omega) (by omega)) (by omega) rfl rfl (Nat.le_of_ble_eq_true rfl) dX6_say_365 (fun Mq2 hP_365 => ?_)
        obtain ⟨hvq2, hfq2⟩ := hP_365
        have heq2 := heq1.tr hfq2
        exact n_iret C hRt rfl dX6_say_368 (rfl) ⟨hvq2, heq2⟩
      · obtain ⟨h_o, h_a⟩ : o = 6 ∧ a = 0 := by omega
        subst h_o h_a
        rw [show bodN 6 0 = 70 from rfl] at hRt hr
        have hr2 : 0 < fu + 1 := hr
        skip
        refine v_getsN C (.ref (gV G 21)) (fun s h => h.2.2.1.1) (show (_, _, "BreakTime", "BODIES", "[I", "BreakTime") ∈ nestF from by decide +kernel) dX6_say_56 ?_
        refine v_iload C 0 dX6_say_59 rfl ?_
        refine v_iconst C (nI 4) dX6_say_61 (by decide) ?_
        refine n_imul C dX6_say_62 ?_
        refine v_iload_n C 2 dX6_say_63 rfl ?_
        refine n_iadd C dX6_say_64 ?_
        refine v_bodies C (by omega) dX6_say_65 ?_
        refine v_top (nI 70) (by decide) ?_
        refine v_istore C [(6, .int (nI 70)), (5, .int (nI 6)), (0, .ref (gb G + 192)), (1, .int (nI 0)), (3, .int x), (4, .int (nI dep))] dX6_say_66 (by decide) rfl ?_
        refine v_getsN C (.ref (gV G 20)) (fun s h => h.2.1.1) (show (_, _, "BreakTime", "ABOVE", "[I", "BreakTime") ∈ nestF from by decide +kernel) dX6_say_68 ?_
        refine v_iload C 1 dX6_say_71 rfl ?_
        refine v_above C (by omega) dX6_say_73 ?_
        refine v_top (nI 0) (by decide) ?_
        refine v_istore C [(7, .int (nI 0)), (6, .int (nI 70)), (5, .int (nI 6)), (0, .ref (gb G + 192)), (1, .int (nI 0)), (3, .int x), (4, .int (nI dep))] dX6_say_74 (by decide) rfl ?_
        refine v_iload C 6 dX6_say_76 rfl ?_
        refine v_iconst C (nI 1) dX6_say_78 (by decide) ?_
        refine n_iadd C dX6_say_79 ?_
        refine v_istore C [(8, .int (nI (dep + 1))), (7, .int (nI 0)), (6, .int (nI 70)), (5, .int (nI 6)), (0, .ref (gb G + 192)), (1, .int (nI 0)), (3, .int x), (4, .int (nI dep))] dX6_say_80 (by decide) rfl ?_
        refine v_aload_n C 4 dX6_say_82 rfl ?_
        refine g_X6_14 C (by decide) (show shp 192 = 6 from by decide +kernel) dX6_say_83 ?_
        refine v_iload C 2 dX6_say_86 rfl ?_
        refine n_callVv C hRm [.int (nI 70)] cw_X4_add ml_X6_52 (by decide) (show shp 193 = 4 from by decide +kernel) (by decide) rfl (w_add l G X 193 30 (by decide) (show shp 193 = 4 from by decide +kernel) (show shp (193 + 1) = 1000 + 30 from by decide +kernel) (by decide) σ.1.length hv.2.2.2.2.1 hv.2.2.2.2.2.1 (nI 70)) (by omega) rfl rfl (Nat.le_of_ble_eq_true rfl) dX6_say_88 (fun M1 hP_88 => ?_)
        subst hP_88
        have hvq1 := hv.beg 70
        have heq1 : svF X (rowM X 193 30 σ.1.length (nI 70)) := (svF.rf X).tr (fun a _ h1 h2 => row_ne h1 h2)
        refine v_iload C 2 dX6_say_91 rfl ?_
        refine v_lookup (off := 276) C 369 dX6_say_93 (by decide +kernel) (by decide +kernel) rfl ?_
        refine v_iconst C (nI 5) dX6_say_369 (by decide) ?_
        exact n_iret C hRt rfl dX6_say_370 (rfl) ⟨hvq1, heq1⟩
      · obtain ⟨h_o, h_a⟩ : o = 6 ∧ a = 1 := by omega
        subst h_o h_a
        rw [show bodN 6 1 = 71 from rfl] at hRt hr
        have hr2 : 4 < fu + 1 := hr
        skip
        refine v_getsN C (.ref (gV G 21)) (fun s h => h.2.2.1.1) (show (_, _, "BreakTime", "BODIES", "[I", "BreakTime") ∈ nestF from by decide +kernel) dX6_say_56 ?_
        refine v_iload C 0 dX6_say_59 rfl ?_
        refine v_iconst C (nI 4) dX6_say_61 (by decide) ?_
        refine n_imul C dX6_say_62 ?_
        refine v_iload_n C 2 dX6_say_63 rfl ?_
        refine n_iadd C dX6_say_64 ?_
        refine v_bodies C (by omega) dX6_say_65 ?_
        refine v_top (nI 71) (by decide) ?_
        refine v_istore C [(6, .int (nI 71)), (5, .int (nI 6)), (0, .ref (gb G + 192)), (1, .int (nI 1)), (3, .int x), (4, .int (nI dep))] dX6_say_66 (by decide) rfl ?_
        refine v_getsN C (.ref (gV G 20)) (fun s h => h.2.1.1) (show (_, _, "BreakTime", "ABOVE", "[I", "BreakTime") ∈ nestF from by decide +kernel) dX6_say_68 ?_
        refine v_iload C 1 dX6_say_71 rfl ?_
        refine v_above C (by omega) dX6_say_73 ?_
        refine v_top (nI 0) (by decide) ?_
        refine v_istore C [(7, .int (nI 0)), (6, .int (nI 71)), (5, .int (nI 6)), (0, .ref (gb G + 192)), (1, .int (nI 1)), (3, .int x), (4, .int (nI dep))] dX6_say_74 (by decide) rfl ?_
        refine v_iload C 6 dX6_say_76 rfl ?_
        refine v_iconst C (nI 1) dX6_say_78 (by decide) ?_
        refine n_iadd C dX6_say_79 ?_
        refine v_istore C [(8, .int (nI (dep + 1))), (7, .int (nI 0)), (6, .int (nI 71)), (5, .int (nI 6)), (0, .ref (gb G + 192)), (1, .int (nI 1)), (3, .int x), (4, .int (nI dep))] dX6_say_80 (by decide) rfl ?_
        refine v_aload_n C 4 dX6_say_82 rfl ?_
        refine g_X6_14 C (by decide) (show shp 192 = 6 from by decide +kernel) dX6_say_83 ?_
        refine v_iload C 2 dX6_say_86 rfl ?_
        refine n_callVv C hRm [.int (nI 71)] cw_X4_add ml_X6_52 (by decide) (show shp 193 = 4 from by decide +kernel) (by decide) rfl (w_add l G X 193 30 (by decide) (show shp 193 = 4 from by decide +kernel) (show shp (193 + 1) = 1000 + 30 from by decide +kernel) (by decide) σ.1.length hv.2.2.2.2.1 hv.2.2.2.2.2.1 (nI 71)) (by omega) rfl rfl (Nat.le_of_ble_eq_true rfl) dX6_say_88 (fun M1 hP_88 => ?_)
        subst hP_88
        have hvq1 := hv.beg 71
        have heq1 : svF X (rowM X 193 30 σ.1.length (nI 71)) := (svF.rf X).tr (fun a _ h1 h2 => row_ne h1 h2)
        refine v_iload C 2 dX6_say_91 rfl ?_
        refine v_lookup (off := 278) C 371 dX6_say_93 (by decide +kernel) (by decide +kernel) rfl ?_
        refine v_aload_n C 4 dX6_say_371 rfl ?_
        refine v_iconst C (nI 1) dX6_say_372 (by decide) ?_
        refine v_iload C 1 dX6_say_373 rfl ?_
        refine v_iload_n C 6 dX6_say_375 rfl ?_
        refine v_iload C 0 dX6_say_376 rfl ?_
        refine n_callVi C hRm [.int (nI 1), .int (nI 0), .int x, .int (nI (dep + 1))] cw_X6_say ml_X6_41 (by decide) (show shp 192 = 6 from by decide +kernel) (by decide) rfl (hSV (rowM X 193 30 σ.1.length (nI 71)) 0 1 x (begS σ 71) (dep + 1) hvq1 (by decide) (by decide) (show rkB (bodN (ownN 0 1) 1) < fu from by have h : rkB (bodN (ownN 0 1) 1) = 3 := rfl; omega) (by omega)) (by omega) rfl rfl (Nat.le_of_ble_eq_true rfl) dX6_say_378 (fun Mq2 hP_378 => ?_)
        obtain ⟨hvq2, hfq2⟩ := hP_378
        have heq2 := heq1.tr hfq2
        refine v_aload_n C 4 dX6_say_381 rfl ?_
        refine g_X6_40 C (by decide) (show shp 192 = 6 from by decide +kernel) dX6_say_382 ?_
        refine v_top (m) (hvq2.2.2.1) ?_
        refine v_iadd C dX6_say_385 ?_
        exact n_iret C hRt rfl dX6_say_386 (rfl) ⟨hvq2, heq2⟩
    have LO : ∀ (kk : Nat) (i : Nat) (j : Nat), 2 - i = kk → j < 7 → i + dz j ≤ 2 → ownN j a = ownN k a → Vc f G NPh X 22 [(6, .int (nI i)), (5, .int (nI j)), (0, .ref (gb G + 192)), (1, .int (nI a)), (2, .int (nI k)), (3, .int x), (4, .int (nI dep))] [] := by
      intro kk
      induction kk using Nat.strongRecOn with
      | _ kk ihLO =>
        intro i j hkk hj7 hd2 ho
        refine v_iload C 0 dX6_say_22 rfl ?_
        refine v_bipush C (nI 7) dX6_say_24 (by decide) ?_
        refine n_icmp_ge C (by omega) (by omega) 56 dX6_say_26 rfl (fun h_26 => ?_) (fun h_26 => ?_)
        · skip
          exact absurd h_26 (by omega)
        · skip
          refine v_getsN C (.ref (gV G 21)) (fun s h => h.2.2.1.1) (show (_, _, "BreakTime", "BODIES", "[I", "BreakTime") ∈ nestF from by decide +kernel) dX6_say_29 ?_
          refine v_iload C 1 dX6_say_32 rfl ?_
          refine v_iconst C (nI 4) dX6_say_34 (by decide) ?_
          refine n_imul C dX6_say_35 ?_
          refine v_iload_n C 3 dX6_say_36 rfl ?_
          refine n_iadd C dX6_say_37 ?_
          refine v_bodies C (by omega) dX6_say_38 ?_
          refine v_if_ne C 56 dX6_say_39 rfl (fun h_39 => ?_) (fun h_39 => ?_)
          · skip
            refine v_sub [1, 2, 3, 5, 6] [(5, .int (nI j)), (0, .ref (gb G + 192)), (1, .int (nI a)), (3, .int x), (4, .int (nI dep))] rfl ?_
            rw [show j = ownN k a from (((own_t j hj7 a ha).2 h_39).symm.trans ho)]
            exact hT
          · skip
            have ot := (own_t j hj7 a ha).1 h_39
            have otd := ot.2.2.2.1
            refine v_getsN C (.ref (gV G 20)) (fun s h => h.2.1.1) (show (_, _, "BreakTime", "ABOVE", "[I", "BreakTime") ∈ nestF from by decide +kernel) dX6_say_42 ?_
            refine v_iload C 1 dX6_say_45 rfl ?_
            refine v_above C (by omega) dX6_say_47 ?_
            refine v_top (nI (aboveN j)) (ot.2.1) ?_
            refine v_istore C [(5, .int (nI (aboveN j))), (6, .int (nI i)), (0, .ref (gb G + 192)), (1, .int (nI a)), (2, .int (nI k)), (3, .int x), (4, .int (nI dep))] dX6_say_48 (by decide) rfl ?_
            refine v_iinc C (nI (i + 1)) 1 [(6, .int (nI (i + 1))), (5, .int (nI (aboveN j))), (0, .ref (gb G + 192)), (1, .int (nI a)), (2, .int (nI k)), (3, .int x), (4, .int (nI dep))] dX6_say_50 rfl (nI_add _ _) (by decide) rfl ?_
            refine v_goto C 22 dX6_say_53 rfl ?_
            refine v_sub [0, 1, 2, 3, 4, 5, 6] [(6, .int (nI (i + 1))), (5, .int (nI (aboveN j))), (0, .ref (gb G + 192)), (1, .int (nI a)), (2, .int (nI k)), (3, .int x), (4, .int (nI dep))] rfl ?_
            exact ihLO _ (by omega) (i + 1) (aboveN j) rfl ot.2.2.1 (by omega) (ot.2.2.2.2.trans ho)
    show Vc f G NPh X 0 [(0, .ref (gb G + 192)), (1, .int (nI a)), (2, .int (nI k)), (3, .int x), (4, .int (nI dep))] []
    refine v_aload_n C 0 dX6_say_0 rfl ?_
    refine g_X6_24 C (by decide) (show shp 192 = 6 from by decide +kernel) dX6_say_1 ?_
    refine v_top (b2i (σ.2 = true)) (hv.2.2.2.1) ?_
    refine nb_if_ne C 14 dX6_say_4 rfl (fun h_4 => ?_) (fun h_4 => ?_)
    · skip
      exact absurd h_4 hσ
    · skip
      refine v_iload C 4 dX6_say_7 rfl ?_
      refine v_bipush C (nI 30) dX6_say_9 (by decide) ?_
      refine n_icmp_le C (by omega) (by omega) 16 dX6_say_11 rfl (fun h_11 => ?_) (fun h_11 => ?_)
      · skip
        refine v_iload_n C 2 dX6_say_16 rfl ?_
        refine v_istore C [(5, .int (nI k)), (0, .ref (gb G + 192)), (1, .int (nI a)), (2, .int (nI k)), (3, .int x), (4, .int (nI dep))] dX6_say_17 (by decide) rfl ?_
        refine v_iconst C (nI 0) dX6_say_19 (by decide) ?_
        refine v_istore C [(6, .int (nI 0)), (5, .int (nI k)), (0, .ref (gb G + 192)), (1, .int (nI a)), (2, .int (nI k)), (3, .int x), (4, .int (nI dep))] dX6_say_20 (by decide) rfl ?_
        refine v_sub [0, 1, 2, 3, 4, 5, 6] [(6, .int (nI 0)), (5, .int (nI k)), (0, .ref (gb G + 192)), (1, .int (nI a)), (2, .int (nI k)), (3, .int x), (4, .int (nI dep))] rfl ?_
        exact LO _ 0 k rfl hk (by have := dz_le k hk; omega) rfl
      · skip
        exact absurd h_11 (by omega)
theorem sv_all (l : Launch) (G : GC) (κ c : Nat) (m : Int32) (hκ : κ < 7) : ∀ fu, SV l G κ c m fu
  | 0 => fun _ _ _ _ _ _ _ _ _ hr _ => absurd hr (Nat.not_lt_zero _)
  | fu + 1 => sv_step l G κ c m hκ fu (sv_all l G κ c m hκ fu)
set_option maxHeartbeats 4000000 in
set_option maxRecDepth 100000 in
theorem v_speak (l : Launch) (G : GC) (M : Mm) (Y : Nat → Int32) (n hN : Nat) (hR : YR M 1 Y n hN) (hY : YOk Y n hN) (c v : Nat) (hc : c < n) (hv4 : v < 4) (x : Int32) : CI l G 11 yX6_speak cX6_speak 5 .int [.ref (gb G + 192), .int (nI c), .ref (gb G + (1 + 20 + 3 * c)), .int (nI v), .int x] M ((voiV Y c v x).1) (fun M' => cvR M' c (kN Y c) (Y (7 + 6 * c + 1)) (voiV Y c v x).2 ∧ svF M M') := by
  refine Con.of (by decide +kernel) (Nat.le_of_ble_eq_true rfl) ?_
  intro f C hRm hRt _
  have hn2 := hY.1.2.1
  obtain ⟨κ, hκ, hκ2⟩ := hY.2.1 c hc
  have hkk : kN Y c = κ := cN_of hκ2 (by omega)
  have hrk := rk_own κ hκ
  have hr8 : rkB (bodN (ownN κ v) v) < 8 := by rcases (show v = 0 ∨ v = 1 ∨ v = 2 ∨ v = 3 by omega) with h | h | h | h <;> subst h <;> omega
  show Vc f G NPh M 0 [(0, .ref (gb G + 192)), (1, .int (nI c)), (2, .ref (gb G + (1 + 20 + 3 * c))), (3, .int (nI v)), (4, .int x)] []
  refine v_aload_n C 0 dX6_speak_0 rfl ?_
  refine g_X6_14 C (by decide) (show shp 192 = 6 from by decide +kernel) dX6_speak_1 ?_
  refine v_iconst C (nI 0) dX6_speak_4 (by decide) ?_
  refine p_X6_20 C (by decide) (show shp 193 = 4 from by decide +kernel) dX6_speak_5 ?_
  refine v_aload_n C 0 dX6_speak_8 rfl ?_
  refine v_iconst C (nI 0) dX6_speak_9 (by decide) ?_
  refine p_X6_24 C (by decide) (show shp 192 = 6 from by decide +kernel) (by decide) dX6_speak_10 ?_
  refine v_aload_n C 0 dX6_speak_13 rfl ?_
  refine v_iload_n C 1 dX6_speak_14 rfl ?_
  refine p_X6_28 C (by decide) (show shp 192 = 6 from by decide +kernel) dX6_speak_15 ?_
  refine v_aload_n C 0 dX6_speak_18 rfl ?_
  refine v_aload_n C 2 dX6_speak_19 rfl ?_
  refine g_X6_31 C (show 1 + 20 + 3 * c < 221 from by omega) (s_ch (by decide) (by omega)) dX6_speak_20 ?_
  refine v_top (nI κ) ((congrFun ((up2_ne _ _ _ (by omega)).trans ((up2_ne _ _ _ (by omega)).trans (up2_ne _ _ _ (by omega)))) 0).trans ((hR.ch (f := 0) (by omega) (by decide) (by decide)).trans hκ2)) ?_
  refine p_X6_36 C (by decide) (show shp 192 = 6 from by decide +kernel) dX6_speak_23 ?_
  refine v_aload_n C 0 dX6_speak_26 rfl ?_
  refine v_aload_n C 2 dX6_speak_27 rfl ?_
  refine g_X6_37 C (show 1 + 20 + 3 * c < 221 from by omega) (s_ch (by decide) (by omega)) dX6_speak_28 ?_
  refine v_top (Y (7 + 6 * c + 1)) ((congrFun ((up2_ne _ _ _ (by omega)).trans ((up2_ne _ _ _ (by omega)).trans ((up2_ne _ _ _ (by omega)).trans (up2_ne _ _ _ (by omega))))) 1).trans (hR.ch (f := 1) (by omega) (by decide) (by decide))) ?_
  refine p_X6_40 C (by decide) (show shp 192 = 6 from by decide +kernel) dX6_speak_31 ?_
  have hvR : cvR (up2 (up2 (up2 (up2 (up2 M 193 1 (nI 0)) 192 4 (nI 0)) 192 1 (nI c)) 192 2 (nI κ)) 192 3 (Y (7 + 6 * c + 1))) c κ (Y (7 + 6 * c + 1)) ([], false) := ⟨by simp [up2_ap], by simp [up2_ap], by simp [up2_ap], by simp [up2_ap, b2i, nI_0], by simp [up2_ap], Nat.zero_le _, fun i hi => absurd hi (Nat.not_lt_zero i)⟩
  have hsv : svF M (up2 (up2 (up2 (up2 (up2 M 193 1 (nI 0)) 192 4 (nI 0)) 192 1 (nI c)) 192 2 (nI κ)) 192 3 (Y (7 + 6 * c + 1))) := fun a h1 h2 _ => by rw [up2_ne _ _ _ h1, up2_ne _ _ _ h1, up2_ne _ _ _ h1, up2_ne _ _ _ h1, up2_ne _ _ _ h2]
  refine v_aload_n C 0 dX6_speak_34 rfl ?_
  refine v_iload_n C 3 dX6_speak_35 rfl ?_
  refine v_aload_n C 0 dX6_speak_36 rfl ?_
  refine g_X6_36 C (by decide) (show shp 192 = 6 from by decide +kernel) dX6_speak_37 ?_
  refine v_top (nI κ) (by simp [up2_ap]) ?_
  refine v_iload C 4 dX6_speak_40 rfl ?_
  refine v_iconst C (nI 0) dX6_speak_42 (by decide) ?_
  refine n_callVi C hRm [.int (nI v), .int (nI κ), .int x, .int (nI 0)] cw_X6_say ml_X6_41 (by decide) (show shp 192 = 6 from by decide +kernel) (by decide) rfl (sv_all l G κ c (Y (7 + 6 * c + 1)) hκ 8 (up2 (up2 (up2 (up2 (up2 M 193 1 (nI 0)) 192 4 (nI 0)) 192 1 (nI c)) 192 2 (nI κ)) 192 3 (Y (7 + 6 * c + 1))) κ v x ([], false) 0 hvR hκ hv4 hr8 (by decide)) (by decide) rfl rfl (Nat.le_of_ble_eq_true rfl) dX6_speak_43 (fun M1 hP_43 => ?_)
  obtain ⟨hv1, hf1⟩ := hP_43
  exact n_iret C hRt rfl dX6_speak_46 (by unfold voiV; rw [hkk]) ⟨by unfold voiV; rw [hkk]; exact hv1, hsv.tr hf1⟩
def trC (X : Mm) (T : List Int32) : Prop := X 193 1 = nI T.length ∧ T.length ≤ 30 ∧ ∀ i, i < T.length → X 194 i = T.getD i 0
def PubW (M : Mm) (Y : Nat → Int32) (n hN : Nat) (child voice x : Int32) : Mm → Prop := fun M' => YR M' 1 Y n hN ∧ M' 196 = errUp (M 196) (voiceS Y child voice x).1 ∧ (∀ a, a ≠ 192 → a ≠ 193 → a ≠ 194 → a ≠ 196 → M' a = M a) ∧ ((voiceS Y child voice x).1 = 1 → M' 193 = M 193 ∧ M' 194 = M 194) ∧ ((voiceS Y child voice x).1 ≠ 1 → trC M' (voiV Y child.toNatClampNeg voice.toNatClampNeg x).2.1)
set_option maxHeartbeats 4000000 in
set_option maxRecDepth 100000 in
theorem x_voice (l : Launch) (G : GC) (M : Mm) (Y : Nat → Int32) (n hN : Nat) (hR : YR M 1 Y n hN) (hY : YOk Y n hN) (hI : yI Y n) (hJ : yJ Y n) (child voice x : Int32) : CI l G 12 yX9_voice cX9_voice 5 .int [.ref (gb G + 0), .int child, .int voice, .int x] M ((voiceS Y child voice x).2.1) (PubW M Y n hN child voice x) := by
  refine Con.of (by decide +kernel) (Nat.le_of_ble_eq_true rfl) ?_
  intro f C hRm hRt _
  have hn2 := hY.1.2.1
  have h5 := hY.1.2.2.2
  show Vc f G NPh M 0 [(0, .ref (gb G + 0)), (1, .int child), (2, .int voice), (3, .int x)] []
  refine v_aload_n C 0 dX9_voice_0 rfl ?_
  refine v_iload_n C 1 dX9_voice_1 rfl ?_
  refine n_callVp C hRm [.int child] cw_X9_noChild ml_X9_84 (by decide) (show shp 0 = 9 from by decide +kernel) (by decide) rfl (c_noChild l G M Y _ _ hR hY child) (by decide) rfl rfl (Nat.le_of_ble_eq_true rfl) dX9_voice_2 ?_
  refine nb_if_ne C 17 dX9_voice_5 rfl (fun h_5 => ?_) (fun h_5 => ?_)
  · skip
    refine v_aload_n C 0 dX9_voice_17 rfl ?_
    refine v_iconst C (nI 1) dX9_voice_18 (by decide) ?_
    refine n_callVi C hRm [.int (nI 1)] cw_X9_error ml_X9_58 (by decide) (show shp 0 = 9 from by decide +kernel) (by decide) rfl (c_error l G M 1 (by decide)) (by decide) rfl rfl (Nat.le_of_ble_eq_true rfl) dX9_voice_19 (fun M5 hP_19 => ?_)
    subst hP_19
    have hQ : voiceS Y child voice x = er 1 Y := by unfold voiceS; rw [if_neg h_5]
    exact n_iret C hRt rfl dX9_voice_22 (by rw [hQ] <;> rfl) ⟨hR.fr (fun a _ _ => up2_ne _ _ _ (by omega)), by rw [hQ, up2_eq]; rfl, fun a _ _ _ h4 => up2_ne _ _ _ h4, fun _ => ⟨up2_ne _ _ _ (by decide), up2_ne _ _ _ (by decide)⟩, fun h => by rw [hQ] at h; exact absurd rfl h⟩
  · skip
    obtain ⟨c, hc, rfl⟩ := is_nat hY.1.1 hY.1.2.1 (Decidable.not_not.mp h_5)
    refine v_iload_n C 2 dX9_voice_8 rfl ?_
    refine v_iconst C (nI 0) dX9_voice_9 (by decide) ?_
    refine v_iconst C (nI 3) dX9_voice_10 (by decide) ?_
    refine n_callSp C hRm [.int voice, .int (nI 0), .int (nI 3)] cw_X9_outside st_X9_outside ml_X9_54 (c_outside l G M voice (nI 0) (nI 3)) (by decide) rfl rfl (Nat.le_of_ble_eq_true rfl) dX9_voice_11 ?_
    refine nb_if_eq C 23 dX9_voice_14 rfl (fun h_14 => ?_) (fun h_14 => ?_)
    · skip
      obtain ⟨v, hv, rfl⟩ := within_nat (by decide) (Decidable.not_not.mp h_14)
      refine v_aload_n C 0 dX9_voice_23 rfl ?_
      refine g_X9_39 C (by decide) (show shp 0 = 9 from by decide +kernel) dX9_voice_24 ?_
      refine v_iload_n C 1 dX9_voice_27 rfl ?_
      refine v_aload_n C 0 dX9_voice_28 rfl ?_
      refine g_X9_10 C (by decide) (show shp 0 = 9 from by decide +kernel) dX9_voice_29 ?_
      refine g_X9_66 C (by decide) (s_y (by decide)) dX9_voice_32 ?_
      refine v_iload_n C 1 dX9_voice_35 rfl ?_
      refine v_aald C rfl (by decide) (show shp 2 = 20 from by decide +kernel) (by decide) (by decide) (show c < 10 from by omega) (by decide) (1 + 20 + 3 * c) (by simp only [aOff] <;> omega) dX9_voice_36 ?_
      refine v_iload_n C 2 dX9_voice_37 rfl ?_
      refine v_iload_n C 3 dX9_voice_38 rfl ?_
      refine n_callVi C hRm [.int (nI c), .ref (gb G + (1 + 20 + 3 * c)), .int (nI v), .int x] cw_X6_speak ml_X9_246 (by decide) (show shp 192 = 6 from by decide +kernel) (by decide) rfl (v_speak l G M Y _ _ hR hY c v hc (by omega) x) (by decide) rfl rfl (Nat.le_of_ble_eq_true rfl) dX9_voice_39 (fun M1 hP_39 => ?_)
      obtain ⟨hv1, hf1⟩ := hP_39
      have hR1 := hR.fr (M' := M1) (fun a h1 h2 => hf1 a (by omega) (by omega) (by omega))
      refine v_istore C [(4, .int ((voiV Y c v x).1)), (0, .ref (gb G + 0)), (1, .int (nI c)), (2, .int (nI v)), (3, .int x)] dX9_voice_42 (by decide) rfl ?_
      refine v_aload_n C 1 dX9_voice_44 rfl ?_
      refine g_X9_39 C (by decide) (show shp 0 = 9 from by decide +kernel) dX9_voice_45 ?_
      refine g_X9_250 C (by decide) (show shp 192 = 6 from by decide +kernel) dX9_voice_48 ?_
      refine v_top (b2i ((voiV Y c v x).2.2 = true)) hv1.2.2.2.1 ?_
      refine nb_if_eq C 63 dX9_voice_51 rfl (fun h_51 => ?_) (fun h_51 => ?_)
      · skip
        refine v_iload C 0 dX9_voice_63 rfl ?_
        have hcv : (nI c).toNatClampNeg = c ∧ (nI v).toNatClampNeg = v := ⟨nI_clamp (by omega), nI_clamp (by omega)⟩
        have hQ : voiceS Y (nI c) (nI v) x = (0, (voiV Y c v x).1, Y) := by unfold voiceS; rw [if_pos (Decidable.not_not.mp h_5), if_pos (Decidable.not_not.mp h_14), hcv.1, hcv.2, if_neg h_51]
        exact n_iret C hRt rfl dX9_voice_65 (by rw [hQ]) ⟨hR1, by rw [hQ, hf1 196 (by decide) (by decide) (by decide)]; rfl, fun a h1 h2 h3 _ => hf1 a h1 h2 h3, fun h => by rw [hQ] at h; exact absurd h (show ¬ (0 : Nat) = 1 by decide), fun _ => by rw [hcv.1, hcv.2]; exact ⟨hv1.2.2.2.2.1, hv1.2.2.2.2.2.1, hv1.2.2.2.2.2.2⟩⟩
      · skip
        refine v_aload_n C 1 dX9_voice_54 rfl ?_
        refine v_bipush C (nI 6) dX9_voice_55 (by decide) ?_
        refine n_callVi C hRm [.int (nI 6)] cw_X9_error ml_X9_58 (by decide) (show shp 0 = 9 from by decide +kernel) (by decide) rfl (c_error l G M1 6 (by decide)) (by decide) rfl rfl (Nat.le_of_ble_eq_true rfl) dX9_voice_57 (fun M5 hP_57 => ?_)
        subst hP_57
        refine v_goto C 65 dX9_voice_60 rfl ?_
        have hcv : (nI c).toNatClampNeg = c ∧ (nI v).toNatClampNeg = v := ⟨nI_clamp (by omega), nI_clamp (by omega)⟩
        have hQ : voiceS Y (nI c) (nI v) x = er 6 Y := by unfold voiceS; rw [if_pos (Decidable.not_not.mp h_5), if_pos (Decidable.not_not.mp h_14), hcv.1, hcv.2, if_pos h_51]
        exact n_iret C hRt rfl dX9_voice_65 (by rw [hQ] <;> rfl) ⟨hR1.fr (fun a _ _ => up2_ne _ _ _ (by omega)), by rw [hQ, up2_eq, hf1 196 (by decide) (by decide) (by decide)]; rfl, fun a h1 h2 h3 h4 => (up2_ne _ _ _ h4).trans (hf1 a h1 h2 h3), fun h => by rw [hQ] at h; exact absurd h (show ¬ (6 : Nat) = 1 by decide), fun _ => by rw [hcv.1, hcv.2]; exact ⟨(congrFun (up2_ne _ _ _ (by decide)) 1).trans hv1.2.2.2.2.1, hv1.2.2.2.2.2.1, fun i hi => (congrFun (up2_ne _ _ _ (by decide)) i).trans (hv1.2.2.2.2.2.2 i hi)⟩⟩
    · skip
      refine v_aload_n C 0 dX9_voice_17 rfl ?_
      refine v_iconst C (nI 1) dX9_voice_18 (by decide) ?_
      refine n_callVi C hRm [.int (nI 1)] cw_X9_error ml_X9_58 (by decide) (show shp 0 = 9 from by decide +kernel) (by decide) rfl (c_error l G M 1 (by decide)) (by decide) rfl rfl (Nat.le_of_ble_eq_true rfl) dX9_voice_19 (fun M5 hP_19 => ?_)
      subst hP_19
      have hQ : voiceS Y (nI c) voice x = er 1 Y := by unfold voiceS; rw [if_pos (Decidable.not_not.mp h_5), if_neg h_14]
      exact n_iret C hRt rfl dX9_voice_22 (by rw [hQ] <;> rfl) ⟨hR.fr (fun a _ _ => up2_ne _ _ _ (by omega)), by rw [hQ, up2_eq]; rfl, fun a _ _ _ h4 => up2_ne _ _ _ h4, fun _ => ⟨up2_ne _ _ _ (by decide), up2_ne _ _ _ (by decide)⟩, fun h => by rw [hQ] at h; exact absurd rfl h⟩
