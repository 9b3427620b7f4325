section RD
variable {f : FC} {G : GC} {M : Mm} {own : String} {cc : ByteArray} {nL pc : Nat} {lv : List (Nat × Value)} {rest : List Value}
theorem nI_nz {x : Nat} (h0 : 0 < x) (h : x < 2 ^ 31) : ¬ nI x = 0 := fun q => absurd ((nI_eq h (by decide)).mp (q.trans nI_0.symm)) (by omega)
theorem gd_names (C : Ctx f G RX3 cc nL) {i : Nat} (hi : i < 10) (hM : M 187 4 = nI (i + 1)) (hd : decode cc pc = .ok (.getfield 24, 3)) (kk : Vc f G NPh M (pc + 3) lv (.ref (gK G i) :: rest)) : Vc f G NPh M pc lv (.ref (gb G + 187) :: rest) :=
  v_get0 C (by decide) (show shp 187 = 3 from by decide +kernel) (by decide) rfl rfl (by decide) inw_X3 fl_X3_24 hd _ (fun _ _ => (sv_s (i := 4) (by rw [hM]; exact nI_nz (by omega) (by omega))).trans (by rw [hM, nI_clamp (by omega), Nat.add_sub_cancel])) kk
theorem gd_bytes (C : Ctx f G RX3 cc nL) (hM : M 187 1 = nI 6) (hd : decode cc pc = .ok (.getfield 18, 3)) (kk : Vc f G NPh M (pc + 3) lv (.ref (gb G + 6) :: rest)) : Vc f G NPh M pc lv (.ref (gb G + 187) :: rest) :=
  v_get0 C (by decide) (show shp 187 = 3 from by decide +kernel) (by decide) rfl rfl (by decide) inw_X3 fl_X3_18 hd _ (fun _ _ => (sv_b (i := 1) (by rw [hM]; exact nI_nz (by decide) (by decide))).trans (by rw [hM]; rfl)) kk
theorem pd_names (C : Ctx f G RX3 cc nL) {i : Nat} (hi : i < 10) (hd : decode cc pc = .ok (.putfield 24, 3)) (kk : Vc f G NPh (up2 M 187 4 (nI (i + 1))) (pc + 3) lv rest) : Vc f G NPh M pc lv (.ref (gK G i) :: .ref (gb G + 187) :: rest) :=
  v_put0 C (by decide) (show shp 187 = 3 from by decide +kernel) (by decide) rfl rfl (by decide) inw_X3 nmX3 tyX3 tyX3_ok rfl fl_X3_24 hd _ _ ((sv_s (i := 4) (by rw [up2_at]; exact nI_nz (by omega) (by omega))).trans (by rw [up2_at, nI_clamp (by omega), Nat.add_sub_cancel])) (fun j hj => up2_at_ne M _ hj) (fun a ha => up2_ne M _ _ ha) (fun h => h.up (Or.inr (Or.inr (nI_nz (by omega) (by omega))))) rfl rfl kk
theorem pd_bytes (C : Ctx f G RX3 cc nL) (hd : decode cc pc = .ok (.putfield 18, 3)) (kk : Vc f G NPh (up2 M 187 1 (nI 6)) (pc + 3) lv rest) : Vc f G NPh M pc lv (.ref (gb G + 6) :: .ref (gb G + 187) :: rest) :=
  v_put0 C (by decide) (show shp 187 = 3 from by decide +kernel) (by decide) rfl rfl (by decide) inw_X3 nmX3 tyX3 tyX3_ok rfl fl_X3_18 hd _ _ ((sv_b (i := 1) (by rw [up2_at]; exact nI_nz (by decide) (by decide))).trans (by rw [up2_at]; rfl)) (fun j hj => up2_at_ne M _ hj) (fun a ha => up2_ne M _ _ ha) (fun h => h.up (Or.inr (Or.inr (nI_nz (by decide) (by decide))))) rfl rfl kk
theorem n_callSr (C : Ctx f G own cc nL) {l : Launch} {D d nLy index nn a : Nat} {y : MethodName} {cy : ByteArray} {rt : FieldType} (hRm : Rm f l D 0 0) {st : List Value} (As : List Value) (cw : CwS y cy nLy (some rt) nn) (hstat : Cond.static y ∈ lw_w) (hlink : Cond.methodLink own index y ∈ lw_w) (hc : Con l G 221 1 d y cy nLy (some rt) As M 0 0 0 (fun v M' => v = some (.ref a) ∧ M' = M)) (hD : d + 1 ≤ D) (hn : As.length = nn) (hst : st = As.reverse ++ rest) (hrest : (rest.map fun v => v.category).sum ≤ 8) (hd : decode cc pc = .ok (.invokestatic index, 3)) (kk : Vc f G NPh M (pc + 3) lv (.ref a :: rest)) : Vc f G NPh M pc lv st := v_callS C hRm cw hstat hlink hc hD ⟨Nat.le_refl _, Nat.le_refl _⟩ hn hst hrest hd (fun v M' h => by obtain ⟨rfl, rfl⟩ := h; exact kk)
end RD
def cRp (X : Mm) (Y : Nat → Int32) (t u : Nat) (S : PS) : Prop := (X 187 1 = nI 6 ∧ X 187 2 = nI t ∧ X 187 3 = nI S.2.1 ∧ X 187 4 = nI (1 + u + 1)) ∧ (∀ k, k < t → X 6 k = Y (237 + k)) ∧ (∃ s, s ≤ 60 ∧ X 188 2 = nI s) ∧ (S.1 = true → X 188 2 = nI S.2.2.length ∧ ∀ k, k < S.2.2.length → X 189 k = nI (cvC (S.2.2.getD k 0)))
def tB (Y : Nat → Int32) (t : Nat) : Prop := ∀ k, k < t → ∃ b, b < 256 ∧ Y (237 + k) = nI b
abbrev rF (M X : Mm) : Prop := ∀ a, a ≠ 187 → a ≠ 188 → a ≠ 189 → X a = M a
theorem rF.tr {A B C : Mm} (h : rF A B) (h2 : rF B C) : rF A C := fun a x y z => (h2 a x y z).trans (h a x y z)
theorem cRp.at {X : Mm} {Y : Nat → Int32} {t u : Nat} {S : PS} (h : cRp X Y t u S) : cRp (up2 X 187 3 (nI (S.2.1 + 1))) Y t u (advS S) := by
  obtain ⟨⟨a1, a2, a3, a4⟩, b, c, d⟩ := h
  refine ⟨⟨(up2_at_ne _ _ (by decide)).trans a1, (up2_at_ne _ _ (by decide)).trans a2, up2_at _ _ _ _, (up2_at_ne _ _ (by decide)).trans a4⟩, fun k hk => (congrFun (up2_ne _ _ _ (by decide)) k).trans (b k hk), ?_, fun hS => ?_⟩
  · obtain ⟨s, hs, hs2⟩ := c
    exact ⟨s, hs, (congrFun (up2_ne _ _ _ (by decide)) 2).trans hs2⟩
  · exact ⟨(congrFun (up2_ne _ _ _ (by decide)) 2).trans (d hS).1, fun k hk => (congrFun (up2_ne _ _ _ (by decide)) k).trans ((d hS).2 k hk)⟩
theorem cRp.bad {X : Mm} {Y : Nat → Int32} {t u : Nat} {S : PS} (h : cRp X Y t u S) : cRp X Y t u (false, S.2) := ⟨h.1, h.2.1, h.2.2.1, fun q => by cases q⟩
theorem cRp.good {X : Mm} {Y : Nat → Int32} {t u : Nat} {S : PS} (h : cRp X Y t u S) (hS : S.1 = true) : cRp X Y t u (true, S.2) := ⟨h.1, h.2.1, h.2.2.1, fun _ => h.2.2.2 hS⟩
theorem txa_lt {M : Mm} {k s : Nat} {v : Int32} (h : s < 60) : txaM M k s v = up2 (up2 M (k + 1) s v) k 2 (nI (s + 1)) := if_pos h
theorem cRp.add {X : Mm} {Y : Nat → Int32} {t u : Nat} {S : PS} (h : cRp X Y t u S) (hS : S.1 = true) (hl : S.2.2.length < 60) (v : Nat) : cRp (txaM X 188 S.2.2.length (nI (cvC v))) Y t u (codS v S) := by
  obtain ⟨⟨a1, a2, a3, a4⟩, b, c, d⟩ := h
  obtain ⟨d1, d2⟩ := d hS
  rw [txa_lt hl]
  unfold codS
  rw [if_pos hS]
  have n1 : ∀ j, (up2 (up2 X (188 + 1) S.2.2.length (nI (cvC v))) 188 2 (nI (S.2.2.length + 1))) 187 j = X 187 j := fun j => (congrFun (up2_ne _ _ _ (by decide)) j).trans (congrFun (up2_ne _ _ _ (by decide)) j)
  refine ⟨⟨(n1 1).trans a1, (n1 2).trans a2, (n1 3).trans a3, (n1 4).trans a4⟩, fun k hk => ((congrFun (up2_ne _ _ _ (by decide)) k).trans (congrFun (up2_ne _ _ _ (by decide)) k)).trans (b k hk), ⟨S.2.2.length + 1, by omega, up2_at _ _ _ _⟩, fun _ => ⟨?_, fun k hk => ?_⟩⟩
  · rw [up2_at]; simp
  · rw [up2_ne _ _ _ (by decide)]
    simp only [List.length_append, List.length_cons, List.length_nil] at hk
    by_cases hq : k = S.2.2.length
    · subst hq; rw [up2_at]; simp [List.getD_eq_getElem?_getD]
    · rw [up2_at_ne _ _ hq, d2 k (by omega)]
      simp [List.getD_eq_getElem?_getD, List.getElem?_append_left (show k < S.2.2.length by omega)]
theorem cRp.addj {X : Mm} {Y : Nat → Int32} {t u s : Nat} {S : PS} (h : cRp X Y t u S) (hS : ¬ S.1 = true) (hs : X 188 2 = nI s) (hs2 : s ≤ 60) (w : Int32) : cRp (txaM X 188 s w) Y t u S := by
  obtain ⟨⟨a1, a2, a3, a4⟩, b, c, d⟩ := h
  unfold txaM
  split
  · have n1 : ∀ j, (up2 (up2 X (188 + 1) s w) 188 2 (nI (s + 1))) 187 j = X 187 j := fun j => (congrFun (up2_ne _ _ _ (by decide)) j).trans (congrFun (up2_ne _ _ _ (by decide)) j)
    exact ⟨⟨(n1 1).trans a1, (n1 2).trans a2, (n1 3).trans a3, (n1 4).trans a4⟩, fun k hk => ((congrFun (up2_ne _ _ _ (by decide)) k).trans (congrFun (up2_ne _ _ _ (by decide)) k)).trans (b k hk), ⟨s + 1, by omega, up2_at _ _ _ _⟩, fun q => absurd q hS⟩
  · exact ⟨⟨a1, a2, a3, a4⟩, b, c, d⟩
theorem txa_F (X : Mm) (s : Nat) (w : Int32) : rF X (txaM X 188 s w) := fun a h1 h2 h3 => by
  unfold txaM
  split
  · rw [up2_ne _ _ _ h2, up2_ne _ _ _ h3]
  · rfl
theorem at_F (X : Mm) (w : Int32) : rF X (up2 X 187 3 w) := fun a h1 _ _ => up2_ne _ _ _ h1
theorem nn_b : ∀ b, b < 256 → ¬ nI b < 0 ∧ 0 ≤ nI b := by decide +kernel
theorem here_b {Y : Nat → Int32} {t : Nat} {S : PS} (hB : tB Y t) (h : ¬ hereS Y t S < 0) : ∃ b, b < 256 ∧ hereS Y t S = nI b := by
  have h1 := here_lt (fun q => h (by rw [q]; decide))
  obtain ⟨b, hb, hb2⟩ := hB S.2.1 h1.2
  exact ⟨b, hb, by unfold hereS; rw [if_pos h1]; exact hb2⟩
def stP (i : Nat) (x : Int32) : Prop := ¬ x < 0 ∧ ¬ idxS i x.toNatClampNeg < 0
noncomputable def stD (i : Nat) (x : Int32) : Decidable (stP i x) := Classical.propDecidable _
theorem i2c_b : ∀ b, b < 256 → (Int32.toUInt32 (nI b) % 65536).toInt32 = nI b := by decide +kernel
theorem stP_n {i b : Nat} (hb : b < 256) : stP i (nI b) ↔ ¬ idxS i b < 0 := by
  unfold stP
  rw [toN (show b < 2 ^ 31 by omega)]
  exact ⟨fun q => q.2, fun q => ⟨(nn_b b hb).1, q⟩⟩
theorem st_lvb : ∀ lv, lv < 5 → ∀ b, b < 256 → (¬ idxS (5 + lv) b < 0 ↔ ¬ sgn lv (nI b) = 0) := by decide +kernel
theorem st_nmb : ∀ u, u < 2 → ∀ b, b < 256 → idxS (1 + u) b = nmS u (nI b) := by decide +kernel
theorem st_3b : ∀ b, b < 256 → (¬ idxS 3 b < 0 ↔ (nI b = nI 33 ∨ nI b = nI 40)) := by decide +kernel
theorem st_4b : ∀ b, b < 256 → (¬ idxS 4 b < 0 ↔ nI b = nI 41) := by decide +kernel
theorem nm_no : ∀ u, u < 2 → ∀ b, b < 256 → ¬ nmS u (nI b) < 0 → ¬ (nI b = nI 33 ∨ nI b = nI 40) := by decide +kernel
theorem sg_cv : ∀ lv, lv < 5 → ∀ b, b < 256 → ¬ sgn lv (nI b) = 0 → nI 20000 + nI b = nI (cvC (sgn lv (nI b))) := by decide +kernel
theorem dg_no : ∀ b, b < 256 → isDg (nI b) → ¬ (nI b = nI 33 ∨ nI b = nI 40) := by decide +kernel
theorem st_lv {Y : Nat → Int32} {t lv : Nat} {S : PS} (hB : tB Y t) (hl : lv < 5) : stP (5 + lv) (hereS Y t S) ↔ ¬ sgn lv (hereS Y t S) = 0 := by
  by_cases h : hereS Y t S < 0
  · refine ⟨fun q => absurd h q.1, fun q => absurd (sgn_0 ?_) q⟩
    exact Classical.byContradiction fun z => by
      have h1 := here_lt z
      obtain ⟨b, hb, hb2⟩ := hB S.2.1 h1.2
      have h2 : hereS Y t S = nI b := by unfold hereS; rw [if_pos h1]; exact hb2
      rw [h2] at h; exact (nn_b b hb).1 h
  · obtain ⟨b, hb, hb2⟩ := here_b hB h
    rw [hb2, stP_n hb]; exact st_lvb lv hl b hb
theorem st_sg {Y : Nat → Int32} {t lv : Nat} {S : PS} (hB : tB Y t) (hl : lv < 5) (h : ¬ sgn lv (hereS Y t S) = 0) : nI 20000 + hereS Y t S = nI (cvC (sgn lv (hereS Y t S))) := by
  have h1 := ((st_lv hB hl).mpr h).1
  obtain ⟨b, hb, hb2⟩ := here_b hB h1
  rw [hb2] at h ⊢
  exact sg_cv lv hl b hb h
set_option maxHeartbeats 4000000 in
set_option maxRecDepth 100000 in
theorem d_next (l : Launch) (G : GC) (X : Mm) (Y : Nat → Int32) (t u : Nat) (ht : t ≤ 60) (hu : u < 2) (hB : tB Y t) (S : PS) (hp : cRp X Y t u S) (ho : okS t S) (hS : S.1 = true) : CP l G 1 yX3_next cX3_next 1 .int [.ref (gb G + 187)] X (hereS Y t S) := by
  refine Con.of (by decide +kernel) (Nat.le_of_ble_eq_true rfl) ?_
  intro f C hRm hRt _
  have h9 := ho.1
  show Vc f G NPh X 0 [(0, .ref (gb G + 187))] []
  refine v_aload_n C 0 dX3_next_0 rfl ?_
  refine g_X3_41 C (by decide) (show shp 187 = 3 from by decide +kernel) dX3_next_1 ?_
  refine v_top (nI (S.2.1)) (hp.1.2.2.1) ?_
  refine v_aload_n C 0 dX3_next_4 rfl ?_
  refine g_X3_38 C (by decide) (show shp 187 = 3 from by decide +kernel) dX3_next_5 ?_
  refine v_top (nI t) (hp.1.2.1) ?_
  refine n_icmp_ge C (by omega) (by omega) 23 dX3_next_8 rfl (fun h_8 => ?_) (fun h_8 => ?_)
  · skip
    refine v_iconst C (-1) dX3_next_23 (by decide) ?_
    exact n_iret C hRt rfl dX3_next_24 (by unfold hereS; rw [if_neg (fun q => absurd q.2 (by omega))]) rfl
  · skip
    refine v_aload_n C 0 dX3_next_11 rfl ?_
    refine gd_bytes C hp.1.1 dX3_next_12 ?_
    refine v_aload_n C 0 dX3_next_15 rfl ?_
    refine g_X3_41 C (by decide) (show shp 187 = 3 from by decide +kernel) dX3_next_16 ?_
    refine v_top (nI (S.2.1)) (hp.1.2.2.1) ?_
    refine v_iald C (by decide) (show shp 6 = 1000 + 60 from by decide +kernel) (by omega) (by decide) dX3_next_19 ?_
    refine v_top (Y (237 + S.2.1)) (hp.2.1 _ (by omega)) ?_
    refine v_goto C 24 dX3_next_20 rfl ?_
    exact n_iret C hRt rfl dX3_next_24 (by unfold hereS; rw [if_pos ⟨hS, h_8⟩]) rfl
noncomputable def stB (i : Nat) (x : Int32) : Int32 := @b2i (stP i x) (stD i x)
set_option maxHeartbeats 4000000 in
set_option maxRecDepth 100000 in
theorem d_stands (l : Launch) (G : GC) (X : Mm) (Y : Nat → Int32) (t u : Nat) (ht : t ≤ 60) (hu : u < 2) (hB : tB Y t) (S : PS) (hp : cRp X Y t u S) (ho : okS t S) (hS : S.1 = true) (i : Nat) (hi : i < 10) : CP l G 5 yX3_stands cX3_stands 3 .boolean [.ref (gb G + 187), .ref (gK G i)] X (stB i (hereS Y t S)) := by
  refine Con.of (by decide +kernel) (Nat.le_of_ble_eq_true rfl) ?_
  intro f C hRm hRt _
  show Vc f G NPh X 0 [(0, .ref (gb G + 187)), (1, .ref (gK G i))] []
  refine v_aload_n C 0 dX3_stands_0 rfl ?_
  refine n_callVp C hRm [] cw_X3_next ml_X3_48 (by decide) (show shp 187 = 3 from by decide +kernel) (by decide) rfl (d_next l G X Y t u ht hu hB S hp ho hS) (by omega) rfl rfl (Nat.le_of_ble_eq_true rfl) dX3_stands_1 ?_
  refine v_istore_n C [(2, .int (hereS Y t S)), (0, .ref (gb G + 187)), (1, .ref (gK G i))] dX3_stands_4 rfl (by decide) rfl ?_
  refine v_iload_n C 0 dX3_stands_5 rfl ?_
  refine v_if_lt C 22 dX3_stands_6 rfl (fun h_6 => ?_) (fun h_6 => ?_)
  · skip
    refine v_iconst C (nI 0) dX3_stands_22 (by decide) ?_
    exact n_iret C hRt rfl dX3_stands_23 ((@b2i_F _ (stD _ _) (by exact fun q => q.1 h_6))) rfl
  · skip
    obtain ⟨b, hb, hb2⟩ := here_b hB h_6
    refine v_aload_n C 2 dX3_stands_9 rfl ?_
    refine v_iload_n C 0 dX3_stands_10 rfl ?_
    refine v_i2c C dX3_stands_11 ?_
    refine v_top (nI b) (by rw [hb2]; exact i2c_b b hb) ?_
    refine n_callTp C hRm [.int (nI b)] cw_J0_indexOf_0f7a4 rfl ml_X3_52 hi (j_indexOf l G X i hi b hb) (by omega) rfl rfl (Nat.le_of_ble_eq_true rfl) dX3_stands_12 ?_
    refine v_if_lt C 22 dX3_stands_15 rfl (fun h_15 => ?_) (fun h_15 => ?_)
    · skip
      refine v_iconst C (nI 0) dX3_stands_22 (by decide) ?_
      exact n_iret C hRt rfl dX3_stands_23 ((@b2i_F _ (stD _ _) (by rw [hb2, stP_n hb]; exact fun q => q h_15))) rfl
    · skip
      refine v_iconst C (nI 1) dX3_stands_18 (by decide) ?_
      refine v_goto C 23 dX3_stands_19 rfl ?_
      exact n_iret C hRt rfl dX3_stands_23 ((@b2i_T _ (stD _ _) (by rw [hb2, stP_n hb]; exact h_15))) rfl
theorem nb_st_eq {f : FC} {G : GC} {ph : Ph} {M : Mm} {own : String} {cc : ByteArray} {nL pc : Nat} {lv : List (Nat × Value)} {rest : List Value} (C : Ctx f G own cc nL) {i : Nat} {x : Int32} {off : Int} (tgt : Nat) (hd : decode cc pc = .ok (.ifCond .eq off, 3)) (ht : (pc : Int) + off = (tgt : Int)) (kt : ¬ stP i x → Vc f G ph M tgt lv rest) (kf : stP i x → Vc f G ph M (pc + 3) lv rest) : Vc f G ph M pc lv (.int (stB i x) :: rest) := @nb_if_eq f G ph M own cc nL pc lv rest C (stP i x) (stD i x) off tgt hd ht kt kf
theorem nb_st_ne {f : FC} {G : GC} {ph : Ph} {M : Mm} {own : String} {cc : ByteArray} {nL pc : Nat} {lv : List (Nat × Value)} {rest : List Value} (C : Ctx f G own cc nL) {i : Nat} {x : Int32} {off : Int} (tgt : Nat) (hd : decode cc pc = .ok (.ifCond .ne off, 3)) (ht : (pc : Int) + off = (tgt : Int)) (kt : stP i x → Vc f G ph M tgt lv rest) (kf : ¬ stP i x → Vc f G ph M (pc + 3) lv rest) : Vc f G ph M pc lv (.int (stB i x) :: rest) := @nb_if_ne f G ph M own cc nL pc lv rest C (stP i x) (stD i x) off tgt hd ht kt kf
set_option maxHeartbeats 4000000 in
set_option maxRecDepth 100000 in
theorem d_isDigit (l : Launch) (G : GC) (X : Mm) (x : Int32) : CP l G 1 yX3_isDigit cX3_isDigit 1 .boolean [.int x] X (b2i (isDg x)) := by
  refine Con.of (by decide +kernel) (Nat.le_of_ble_eq_true rfl) ?_
  intro f C hRm hRt _
  show Vc f G NPh X 0 [(0, .int x)] []
  refine v_iload_n C 0 dX3_isDigit_0 rfl ?_
  refine v_bipush C (nI 48) dX3_isDigit_1 (by decide) ?_
  refine v_icmp_lt C 16 dX3_isDigit_3 rfl (fun h_3 => ?_) (fun h_3 => ?_)
  · skip
    refine v_iconst C (nI 0) dX3_isDigit_16 (by decide) ?_
    exact n_iret C hRt rfl dX3_isDigit_17 (b2i_F (fun q => absurd h_3 (Int32.not_lt.mpr q.1))) rfl
  · skip
    refine v_iload_n C 0 dX3_isDigit_6 rfl ?_
    refine v_bipush C (nI 57) dX3_isDigit_7 (by decide) ?_
    refine v_icmp_gt C 16 dX3_isDigit_9 rfl (fun h_9 => ?_) (fun h_9 => ?_)
    · skip
      refine v_iconst C (nI 0) dX3_isDigit_16 (by decide) ?_
      exact n_iret C hRt rfl dX3_isDigit_17 (b2i_F (fun q => absurd h_9 (Int32.not_lt.mpr q.2))) rfl
    · skip
      refine v_iconst C (nI 1) dX3_isDigit_12 (by decide) ?_
      refine v_goto C 17 dX3_isDigit_13 rfl ?_
      exact n_iret C hRt rfl dX3_isDigit_17 (b2i_T ⟨Int32.not_lt.mp h_3, by first | exact h_9 | exact Int32.not_lt.mp h_9⟩) rfl
theorem dg_b : ∀ b, b < 256 → isDg (nI b) → 48 ≤ b ∧ b ≤ 57 := by decide +kernel
theorem dg_nn {x : Int32} (h : isDg x) : ¬ x < 0 := fun q => absurd (Int32.lt_of_le_of_lt h.1 q) (by decide)
set_option maxHeartbeats 4000000 in
set_option maxRecDepth 100000 in
theorem d_readNumber (l : Launch) (G : GC) (X : Mm) (Y : Nat → Int32) (t u : Nat) (ht : t ≤ 60) (hu : u < 2) (hB : tB Y t) (S : PS) (hp : cRp X Y t u S) (ho : okS t S) (hS : S.1 = true) (hd : isDg (hereS Y t S)) : CV l G 3 yX3_readNumber cX3_readNumber 3 [.ref (gb G + 187)] X (fun M' => cRp M' Y t u (codS (numG Y t 4 S 0).2 (numG Y t 4 S 0).1) ∧ rF X M') := by
  refine Con.of (by decide +kernel) (Nat.le_of_ble_eq_true rfl) ?_
  intro f C hRm hRt _
  have hm4 := num_one hd
  have hv4 := num_v Y t 4 S 0 1 (by decide)
  have hs4 := num_st Y t 4 S 0
  have LN : ∀ (kk : Nat) (i : Nat) (v : Nat) (R : PS) (X1 : Mm), 4 - i = kk → i ≤ 4 → v < 10 ^ i → cRp X1 Y t u R → okS t R → R.1 = true → rF X X1 → numG Y t (4 - i) R v = numG Y t 4 S 0 → Vc f G NPh X1 4 [(2, .int (nI i)), (1, .int (nI v)), (0, .ref (gb G + 187))] [] := by
    intro kk
    induction kk using Nat.strongRecOn with
    | _ kk ihLN =>
      intro i v R X1 hkk hi hv hp1 ho1 hs1 he1 hg
      have hp10 : 10 ^ i ≤ 10 ^ 4 := Nat.pow_le_pow_right (by decide) hi
      have hlen1 : R.2.2.length = S.2.2.length := by
        have a1 := (num_st Y t (4 - i) R v).2; rw [hg] at a1; rw [← a1, hs4.2]
      refine v_iload_n C 0 dX3_readNumber_4 rfl ?_
      refine v_iconst C (nI 4) dX3_readNumber_5 (by decide) ?_
      refine n_icmp_ge C (by omega) (by omega) 48 dX3_readNumber_6 rfl (fun h_6 => ?_) (fun h_6 => ?_)
      · skip
        have hf : numG Y t 4 S 0 = (R, v) := by rw [← hg, show 4 - i = 0 by omega]; rfl
        have hf1 : R = (numG Y t 4 S 0).1 := by rw [hf]
        have hf2 : (numG Y t 4 S 0).2 = v := by rw [hf]
        have hv9 : (numG Y t 4 S 0).2 < 20000 := by omega
        have hf3 : (numG Y t 4 S 0).1.2.2.length < 60 := by have a1 := hs4.2; have a2 := (here_dg hd).2; have a3 := ho.2; rw [a1]; omega
        rw [hf1] at hp1
        refine v_aload_n C 2 dX3_readNumber_48 rfl ?_
        refine g_X3_12 C (by decide) (show shp 187 = 3 from by decide +kernel) dX3_readNumber_49 ?_
        refine v_iload_n C 1 dX3_readNumber_52 rfl ?_
        refine v_top (nI (cvC ((numG Y t 4 S 0).2))) (by rw [cv_lo (by omega), hf2]) ?_
        refine n_callVv C hRm [.int (nI (cvC ((numG Y t 4 S 0).2)))] cw_X7_add ml_X3_70 (by decide) (show shp 188 = 7 from by decide +kernel) (by decide) rfl (t_add l G X1 188 (by decide) (show shp 188 = 7 from by decide +kernel) (show shp (188 + 1) = 1000 + 60 from by decide +kernel) ((numG Y t 4 S 0).1).2.2.length (hp1.2.2.2 (hf1 ▸ hs1)).1 (Nat.le_of_lt hf3) _) (by omega) rfl rfl (Nat.le_of_ble_eq_true rfl) dX3_readNumber_53 (fun M5 hM5 => ?_)
        subst hM5
        have hpq1 := hp1.add (hf1 ▸ hs1) hf3 ((numG Y t 4 S 0).2)
        have heq1 : rF X (txaM X1 188 (((numG Y t 4 S 0).1).2.2.length) (nI (cvC ((numG Y t 4 S 0).2)))) := rF.tr he1 (txa_F _ _ _)
        exact n_ret C hRt dX3_readNumber_56 ⟨hpq1, heq1⟩
      · skip
        refine v_aload_n C 2 dX3_readNumber_9 rfl ?_
        refine n_callVp C hRm [] cw_X3_next ml_X3_48 (by decide) (show shp 187 = 3 from by decide +kernel) (by decide) rfl (d_next l G X1 Y t u ht hu hB R hp1 ho1 hs1) (by omega) rfl rfl (Nat.le_of_ble_eq_true rfl) dX3_readNumber_10 ?_
        refine n_callSp C hRm [.int (hereS Y t R)] cw_X3_isDigit st_X3_isDigit ml_X3_84 (d_isDigit l G X1 (hereS Y t R)) (by omega) rfl rfl (Nat.le_of_ble_eq_true rfl) dX3_readNumber_13 ?_
        refine nb_if_eq C 48 dX3_readNumber_16 rfl (fun h_16 => ?_) (fun h_16 => ?_)
        · skip
          have hf : numG Y t 4 S 0 = (R, v) := by rw [← hg, show 4 - i = (4 - (i + 1)) + 1 by omega]; show (if _ then _ else _) = _; rw [if_neg h_16]
          have hf1 : R = (numG Y t 4 S 0).1 := by rw [hf]
          have hf2 : (numG Y t 4 S 0).2 = v := by rw [hf]
          have hv9 : (numG Y t 4 S 0).2 < 20000 := by omega
          have hf3 : (numG Y t 4 S 0).1.2.2.length < 60 := by have a1 := hs4.2; have a2 := (here_dg hd).2; have a3 := ho.2; rw [a1]; omega
          rw [hf1] at hp1
          refine v_aload_n C 2 dX3_readNumber_48 rfl ?_
          refine g_X3_12 C (by decide) (show shp 187 = 3 from by decide +kernel) dX3_readNumber_49 ?_
          refine v_iload_n C 1 dX3_readNumber_52 rfl ?_
          refine v_top (nI (cvC ((numG Y t 4 S 0).2))) (by rw [cv_lo (by omega), hf2]) ?_
          refine n_callVv C hRm [.int (nI (cvC ((numG Y t 4 S 0).2)))] cw_X7_add ml_X3_70 (by decide) (show shp 188 = 7 from by decide +kernel) (by decide) rfl (t_add l G X1 188 (by decide) (show shp 188 = 7 from by decide +kernel) (show shp (188 + 1) = 1000 + 60 from by decide +kernel) ((numG Y t 4 S 0).1).2.2.length (hp1.2.2.2 (hf1 ▸ hs1)).1 (Nat.le_of_lt hf3) _) (by omega) rfl rfl (Nat.le_of_ble_eq_true rfl) dX3_readNumber_53 (fun M5 hM5 => ?_)
          subst hM5
          have hpq2 := hp1.add (hf1 ▸ hs1) hf3 ((numG Y t 4 S 0).2)
          have heq2 : rF X (txaM X1 188 (((numG Y t 4 S 0).1).2.2.length) (nI (cvC ((numG Y t 4 S 0).2)))) := rF.tr he1 (txa_F _ _ _)
          exact n_ret C hRt dX3_readNumber_56 ⟨hpq2, heq2⟩
        · skip
          obtain ⟨b, hb, hb2⟩ := here_b hB (dg_nn h_16)
          have hbd := dg_b b hb (by rw [← hb2]; exact h_16)
          refine v_iload_n C 1 dX3_readNumber_19 rfl ?_
          refine v_bipush C (nI 10) dX3_readNumber_20 (by decide) ?_
          refine n_imul C dX3_readNumber_22 ?_
          refine v_aload_n C 2 dX3_readNumber_23 rfl ?_
          refine n_callVp C hRm [] cw_X3_next ml_X3_48 (by decide) (show shp 187 = 3 from by decide +kernel) (by decide) rfl (d_next l G X1 Y t u ht hu hB R hp1 ho1 hs1) (by omega) rfl rfl (Nat.le_of_ble_eq_true rfl) dX3_readNumber_24 ?_
          refine v_top (nI b) (hb2) ?_
          refine n_iadd C dX3_readNumber_27 ?_
          refine v_bipush C (nI 48) dX3_readNumber_28 (by decide) ?_
          refine n_isub C (by omega) dX3_readNumber_30 ?_
          refine v_istore_n C [(1, .int (nI (((v * 10) + b) - 48))), (2, .int (nI i)), (0, .ref (gb G + 187))] dX3_readNumber_31 rfl (by decide) rfl ?_
          refine v_aload_n C 2 dX3_readNumber_32 rfl ?_
          refine v_dup C dX3_readNumber_33 rfl ?_
          refine g_X3_41 C (by decide) (show shp 187 = 3 from by decide +kernel) dX3_readNumber_34 ?_
          refine v_top (nI (R.2.1)) (hp1.1.2.2.1) ?_
          refine v_iconst C (nI 1) dX3_readNumber_37 (by decide) ?_
          refine n_iadd C dX3_readNumber_38 ?_
          refine p_X3_41 C (by decide) (show shp 187 = 3 from by decide +kernel) dX3_readNumber_39 ?_
          have hpq3 : cRp (up2 X1 187 3 (nI (R.2.1 + 1))) Y t u (advS R) := hp1.at
          have heq3 : rF X (up2 X1 187 3 (nI (R.2.1 + 1))) := rF.tr he1 (at_F _ _)
          have hlq3 := (here_dg h_16).2
          have hoq3 : okS t (advS R) := ⟨by show R.2.1 + 1 ≤ t; omega, by show R.2.2.length ≤ R.2.1 + 1; have := ho1.2; omega⟩
          refine v_iinc C (nI (i + 1)) 1 [(2, .int (nI (i + 1))), (1, .int (nI (((v * 10) + b) - 48))), (0, .ref (gb G + 187))] dX3_readNumber_42 rfl (nI_add _ _) (by decide) rfl ?_
          refine v_goto C 4 dX3_readNumber_45 rfl ?_
          refine v_sub [0, 1, 2] [(2, .int (nI (i + 1))), (1, .int (nI (((v * 10) + b) - 48))), (0, .ref (gb G + 187))] rfl ?_
          exact ihLN _ (by omega) (i + 1) (((v * 10) + b) - 48) (advS R) (up2 X1 187 3 (nI (R.2.1 + 1))) rfl (by omega) (by rw [Nat.pow_succ]; omega) hpq3 hoq3 hs1 heq3 (by rw [← hg, show 4 - i = (4 - (i + 1)) + 1 by omega]; show _ = (if _ then _ else _); rw [if_pos h_16, hb2, toN (show b < 2 ^ 31 by omega), Nat.mul_comm 10 v])
  show Vc f G NPh X 0 [(0, .ref (gb G + 187))] []
  refine v_iconst C (nI 0) dX3_readNumber_0 (by decide) ?_
  refine v_istore_n C [(1, .int (nI 0)), (0, .ref (gb G + 187))] dX3_readNumber_1 rfl (by decide) rfl ?_
  refine v_iconst C (nI 0) dX3_readNumber_2 (by decide) ?_
  refine v_istore_n C [(2, .int (nI 0)), (1, .int (nI 0)), (0, .ref (gb G + 187))] dX3_readNumber_3 rfl (by decide) rfl ?_
  refine v_sub [0, 1, 2] [(2, .int (nI 0)), (1, .int (nI 0)), (0, .ref (gb G + 187))] rfl ?_
  exact LN _ 0 0 S X rfl (by omega) (by decide) hp ho hS (fun _ _ _ _ => rfl) rfl
set_option maxHeartbeats 4000000 in
set_option maxRecDepth 100000 in
theorem d_signsOf (l : Launch) (G : GC) (X : Mm) (lv : Nat) (hl : lv < 5) : Con l G 221 1 1 yX3_signsOf cX3_signsOf 1 (some (.object "java/lang/String")) [.int (nI lv)] X 0 0 0 (fun v M' => v = some (.ref (gK G (5 + lv))) ∧ M' = X) := by
  refine Con.of (by decide +kernel) (Nat.le_of_ble_eq_true rfl) ?_
  intro f C hRm hRt _
  rcases (show lv = 0 ∨ lv = 1 ∨ lv = 2 ∨ lv = 3 ∨ lv = 4 by omega) with h | h | h | h | h <;> subst h
  · show Vc f G NPh X 0 [(0, .int (nI 0))] []
    refine v_iload_n C 0 dX3_signsOf_0 rfl ?_
    refine v_tableIn (off := 31) C 32 dX3_signsOf_1 (by decide +kernel) (by decide +kernel) (by decide +kernel) rfl ?_
    refine v_ldcS C "|" 5 (by decide +kernel) dX3_signsOf_32 ?_
    exact v_aret C hRt (Or.inl ⟨_, rfl⟩) dX3_signsOf_34 ⟨rfl, rfl⟩
  · show Vc f G NPh X 0 [(0, .int (nI 1))] []
    refine v_iload_n C 0 dX3_signsOf_0 rfl ?_
    refine v_tableIn (off := 34) C 35 dX3_signsOf_1 (by decide +kernel) (by decide +kernel) (by decide +kernel) rfl ?_
    refine v_ldcS C "&" 6 (by decide +kernel) dX3_signsOf_35 ?_
    exact v_aret C hRt (Or.inl ⟨_, rfl⟩) dX3_signsOf_37 ⟨rfl, rfl⟩
  · show Vc f G NPh X 0 [(0, .int (nI 2))] []
    refine v_iload_n C 0 dX3_signsOf_0 rfl ?_
    refine v_tableIn (off := 37) C 38 dX3_signsOf_1 (by decide +kernel) (by decide +kernel) (by decide +kernel) rfl ?_
    refine v_ldcS C "<=>" 7 (by decide +kernel) dX3_signsOf_38 ?_
    exact v_aret C hRt (Or.inl ⟨_, rfl⟩) dX3_signsOf_40 ⟨rfl, rfl⟩
  · show Vc f G NPh X 0 [(0, .int (nI 3))] []
    refine v_iload_n C 0 dX3_signsOf_0 rfl ?_
    refine v_tableIn (off := 40) C 41 dX3_signsOf_1 (by decide +kernel) (by decide +kernel) (by decide +kernel) rfl ?_
    refine v_ldcS C "+-" 8 (by decide +kernel) dX3_signsOf_41 ?_
    exact v_aret C hRt (Or.inl ⟨_, rfl⟩) dX3_signsOf_43 ⟨rfl, rfl⟩
  · show Vc f G NPh X 0 [(0, .int (nI 4))] []
    refine v_iload_n C 0 dX3_signsOf_0 rfl ?_
    refine v_tableOut C 44 dX3_signsOf_1 (by first | exact Or.inr (by decide +kernel) | exact Or.inl (by decide +kernel)) rfl ?_
    refine v_ldcS C "*/%" 9 (by decide +kernel) dX3_signsOf_44 ?_
    exact v_aret C hRt (Or.inl ⟨_, rfl⟩) dX3_signsOf_46 ⟨rfl, rfl⟩
