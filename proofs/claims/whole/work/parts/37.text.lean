def dst (x d : Nat) : Nat := if x < 20000 then d + 1 else if x = 20010 then d else d - 1
def dpl : List Nat → Nat → Nat
  | [], d => d
  | x :: xs, d => dpl xs (dst x d)
def vld : List Nat → Nat → Prop
  | [], _ => True
  | x :: xs, d => opOk d x ∧ vld xs (dst x d)
theorem dpl_app : ∀ (a b : List Nat) (d : Nat), dpl (a ++ b) d = dpl b (dpl a d)
  | [], _, _ => rfl
  | x :: xs, b, d => dpl_app xs b (dst x d)
theorem vld_app : ∀ (a b : List Nat) (d : Nat), vld (a ++ b) d ↔ vld a d ∧ vld b (dpl a d)
  | [], b, d => ⟨fun h => ⟨trivial, h⟩, fun h => h.2⟩
  | x :: xs, b, d => by
    have h := vld_app xs b (dst x d)
    show (opOk d x ∧ vld (xs ++ b) (dst x d)) ↔ (opOk d x ∧ vld xs (dst x d)) ∧ vld b (dpl xs (dst x d))
    rw [h]
    exact ⟨fun q => ⟨⟨q.1, q.2.1⟩, q.2.2⟩, fun q => ⟨q.1.1, q.1.2, q.2⟩⟩
/-- one value more, from every depth -/
def one1 (new : List Nat) : Prop := ∀ d, vld new d ∧ dpl new d = d + 1
def grw (S S' : PS) : Prop := S'.1 = true → S.1 = true ∧ ∃ new, S'.2.2 = S.2.2 ++ new ∧ one1 new
theorem one1.num {v : Nat} (h : v < 10005) : one1 [v] := fun d => ⟨⟨⟨by omega, by omega⟩, trivial⟩, by show dst v d = d + 1; unfold dst; rw [if_pos (by omega)]⟩
theorem one1.not {a : List Nat} (h : one1 a) : one1 (a ++ [20010]) := fun d => by
  have h1 := h d
  refine ⟨(vld_app _ _ _).mpr ⟨h1.1, ?_⟩, ?_⟩
  · rw [h1.2]; exact ⟨⟨by omega, Or.inr (Or.inr (Or.inl ⟨rfl, by omega⟩))⟩, trivial⟩
  · rw [dpl_app, h1.2]; rfl
theorem one1.bin {a b : List Nat} (h : one1 a) (h2 : one1 b) {c : Nat} (hc : 20000 ≤ c ∧ c < 20010) : one1 (a ++ (b ++ [c])) := fun d => by
  have h1 := h d
  have h3 := h2 (d + 1)
  refine ⟨(vld_app _ _ _).mpr ⟨h1.1, ?_⟩, ?_⟩
  · rw [h1.2, vld_app, h3.2]; exact ⟨h3.1, ⟨by omega, Or.inr (Or.inr (Or.inr ⟨hc.1, hc.2, by omega⟩))⟩, trivial⟩
  · rw [dpl_app, dpl_app, h1.2, h3.2]; show dst c (d + 1 + 1) = d + 1; unfold dst; rw [if_neg (by omega), if_neg (by omega)]; rfl
theorem cod_t {v : Nat} {S : PS} (h : (codS v S).1 = true) : S.1 = true ∧ (codS v S).2.2 = S.2.2 ++ [v] := by
  rw [cod_1] at h
  exact ⟨h, by unfold codS; rw [if_pos h]⟩
theorem lp_grw {Y : Nat → Int32} {t lv : Nat} {g : PS → PS} (hg : ∀ S : PS, grw S (g S)) (S0 : PS) : ∀ k S, grw S0 S → grw S0 (lpS Y t g lv k S)
  | 0, S, h => h
  | k + 1, S, h => by
    unfold lpS
    by_cases hs : sgn lv (hereS Y t S) = 0
    · rw [if_pos hs]; exact h
    · rw [if_neg hs]
      refine lp_grw hg S0 k _ (fun q => ?_)
      have h1 := cod_t q
      obtain ⟨h2, nb, h3, h4⟩ := hg (advS S) h1.1
      obtain ⟨h5, na, h6, h7⟩ := h h2
      refine ⟨h5, na ++ (nb ++ [sgn lv (hereS Y t S)]), ?_, h7.bin h4 (by rcases sgn_rg lv (hereS Y t S) with q | q; exact absurd q hs; exact q)⟩
      rw [h1.2, h3, show (advS S).2.2 = S.2.2 from rfl, h6]
      simp
theorem num_v (Y : Nat → Int32) (t : Nat) : ∀ (k : Nat) (S : PS) (v b : Nat), v < b → (numG Y t k S v).2 < b * 10 ^ k
  | 0, S, v, b, h => by show v < b * 1; omega
  | k + 1, S, v, b, h => by
    unfold numG
    by_cases hs : isDg (hereS Y t S)
    · rw [if_pos hs]
      obtain ⟨j, hj, hj2⟩ := within_nat (k := 57) (by decide) (⟨Int32.le_trans (by decide) hs.1, hs.2⟩ : nI 0 ≤ hereS Y t S ∧ hereS Y t S ≤ nI 57)
      have h1 := num_v Y t k (advS S) (10 * v + (hereS Y t S).toNatClampNeg - 48) (10 * b) (by rw [hj2, toN (by omega)]; omega)
      rw [Nat.pow_succ, show b * (10 ^ k * 10) = 10 * b * 10 ^ k by rw [Nat.mul_comm (10 ^ k) 10, ← Nat.mul_assoc, Nat.mul_comm b 10]]
      exact h1
    · rw [if_neg hs]
      exact Nat.lt_of_lt_of_le h (Nat.le_mul_of_pos_right b (Nat.pow_pos (by decide)))
theorem num_st (Y : Nat → Int32) (t : Nat) : ∀ (k : Nat) (S : PS) (v : Nat), (numG Y t k S v).1.1 = S.1 ∧ (numG Y t k S v).1.2.2 = S.2.2
  | 0, _, _ => ⟨rfl, rfl⟩
  | k + 1, S, v => by
    unfold numG
    by_cases hs : isDg (hereS Y t S)
    · rw [if_pos hs]; exact num_st Y t k (advS S) _
    · rw [if_neg hs]; exact ⟨rfl, rfl⟩
theorem pz_grw (Y : Nat → Int32) (t u : Nat) (hu : u < 2) : ∀ f lv op, op ≤ 5 → lv ≤ 5 → 6 * (5 - op) + (5 - lv) < f → ∀ S : PS, grw S (pz Y t u f lv op S)
  | 0, _, _, _, _, h, _ => absurd h (Nat.not_lt_zero _)
  | f + 1, lv, op, ho, hl5, hr, S => by
    unfold pz
    by_cases hl : lv < 5
    · rw [if_pos hl]
      have hg := pz_grw Y t u hu f (lv + 1) op ho (by omega) (by omega)
      exact lp_grw hg S _ _ (hg S)
    · rw [if_neg hl]
      have hl6 : lv = 5 := by omega
      subst hl6
      unfold oneS
      by_cases h1 : hereS Y t S = nI 33 ∨ hereS Y t S = nI 40
      · rw [if_pos h1]
        by_cases h2 : op = 5
        · rw [if_pos h2]; exact fun q => absurd (show false = true from q) (by decide)
        · rw [if_neg h2]
          by_cases h3 : hereS Y t S = nI 33
          · rw [if_pos h3]
            intro q
            have h4 := cod_t q
            obtain ⟨h5, na, h6, h7⟩ := pz_grw Y t u hu f 5 (op + 1) (by omega) (by omega) (by omega) (advS S) h4.1
            exact ⟨h5, na ++ [20010], by rw [h4.2, h6, show (advS S).2.2 = S.2.2 from rfl]; simp, h7.not⟩
          · rw [if_neg h3]
            intro q
            unfold clS at q ⊢
            by_cases h4 : hereS Y t (pz Y t u f 0 (op + 1) (advS S)) = nI 41
            · rw [if_pos h4]
              exact pz_grw Y t u hu f 0 (op + 1) (by omega) (by omega) (by omega) (advS S) (here_k (by decide) h4).1
            · rw [if_neg h4] at q; exact absurd (show false = true from q) (by decide)
      · rw [if_neg h1]
        by_cases h2 : isDg (hereS Y t S)
        · rw [if_pos h2]
          intro q
          have h4 := cod_t q
          refine ⟨(here_dg h2).1, [(numG Y t 4 S 0).2], by rw [h4.2, (num_st Y t 4 S 0).2], one1.num ?_⟩
          have := num_v Y t 4 S 0 1 (by decide)
          omega
        · rw [if_neg h2]
          by_cases h3 : hereS Y t S < 0 ∨ nmS u (hereS Y t S) < 0
          · rw [if_pos h3]; exact fun q => absurd q (by simp)
          · rw [if_neg h3]
            intro q
            have h4 := cod_t (show (codS _ S).1 = true from q)
            obtain ⟨j, hj, hj2⟩ := nm_get hu (fun q => h3 (Or.inr q))
            exact ⟨h4.1, [10000 + (nmS u (hereS Y t S)).toNatClampNeg], h4.2, one1.num (by rw [hj2, toN (by omega)]; omega)⟩
theorem txR_ex (Y : Nat → Int32) (t u : Nat) : ∃ R : PS, R = pz Y t u 36 0 0 (true, 0, []) := ⟨_, rfl⟩
/-- what the parser makes of the tape (chosen, so that nothing unrolls it) -/
noncomputable def txR (Y : Nat → Int32) (t u : Nat) : PS := Classical.choose (txR_ex Y t u)
theorem txR_eq (Y : Nat → Int32) (t u : Nat) : txR Y t u = pz Y t u 36 0 0 (true, 0, []) := Classical.choose_spec (txR_ex Y t u)
def cpY (Z : Nat → Int32) (u : Nat) (cs : List Nat) : Nat → Nat → Int32
  | 0 => Z
  | k + 1 => upd (cpY Z u cs k) (321 + 62 * u + 1 + k) (nI (cs.getD k 0))
noncomputable def textY (Y : Nat → Int32) (t u : Nat) : Nat → Int32 := cpY (upd (upd Y 4 (nI 0)) (321 + 62 * u) (nI (txR Y t u).2.2.length)) u (txR Y t u).2.2 (txR Y t u).2.2.length
noncomputable def textS (Y : Nat → Int32) (t : Nat) (use : Int32) : O3 := if nI 0 ≤ use ∧ use ≤ nI 1 then (if (txR Y t use.toNatClampNeg).1 = true ∧ ¬ (txR Y t use.toNatClampNeg).2.1 < t then (0, nI 1, textY Y t use.toNatClampNeg) else (0, (-10) - nI (txR Y t use.toNatClampNeg).2.1, upd Y 4 (nI 0))) else er 1 Y
theorem cpY_at (Z : Nat → Int32) (u : Nat) (cs : List Nat) : ∀ n k, k < n → cpY Z u cs n (321 + 62 * u + 1 + k) = nI (cs.getD k 0)
  | 0, k, h => absurd h (Nat.not_lt_zero _)
  | n + 1, k, h => by
    unfold cpY
    by_cases hk : k = n
    · subst hk; exact upd_eq _ _ _
    · rw [upd_ne _ _ (by omega)]; exact cpY_at Z u cs n k (by omega)
theorem cpY_ne (Z : Nat → Int32) (u : Nat) (cs : List Nat) (i : Nat) : ∀ n, (∀ k, k < n → i ≠ 321 + 62 * u + 1 + k) → cpY Z u cs n i = Z i
  | 0, _ => rfl
  | n + 1, h => by
    unfold cpY
    rw [upd_ne _ _ (h n (Nat.lt_succ_self n))]
    exact cpY_ne Z u cs i n (fun k hk => h k (by omega))
theorem tx_mono (Y : Nat → Int32) (t u : Nat) : (txR Y t u).2.1 ≤ t ∧ (txR Y t u).2.2.length ≤ (txR Y t u).2.1 := by
  have h : mono t (true, 0, []) (txR Y t u) := by rw [txR_eq]; exact pz_mono Y t u 36 0 0 _ (Nat.zero_le _)
  generalize txR Y t u = R at h ⊢
  obtain ⟨a, b, c⟩ := h
  refine ⟨b, ?_⟩
  have c' : R.2.2.length + 0 ≤ 0 + R.2.1 := c
  omega
theorem tx_grw {Y : Nat → Int32} {t u : Nat} (hu : u < 2) (hw : (txR Y t u).1 = true) : one1 (txR Y t u).2.2 := by
  have h : grw (true, 0, []) (txR Y t u) := by rw [txR_eq]; exact pz_grw Y t u hu 36 0 0 (by omega) (by omega) (by omega) _
  obtain ⟨_, new, h2, h3⟩ := h hw
  rw [h2]
  exact h3
theorem vld_get : ∀ (cs : List Nat) (d k : Nat), vld cs d → k < cs.length → opOk (dpl (cs.take k) d) (cs.getD k 0)
  | [], _, k, _, h => absurd h (Nat.not_lt_zero _)
  | x :: xs, d, 0, h, _ => h.1
  | x :: xs, d, k + 1, h, hk => vld_get xs (dst x d) k h.2 (by simp at hk; omega)
theorem dep_dpl {Y : Nat → Int32} {fr : Nat} {cs : List Nat} (h : ∀ k, k < cs.length → Y (fr + k) = nI (cs.getD k 0)) (hb : ∀ k, k < cs.length → cs.getD k 0 ≤ 20010) : ∀ k, k ≤ cs.length → dep Y fr k = dpl (cs.take k) 0
  | 0, _ => by simp [dep, dpl]
  | k + 1, hk => by
    have h1 := dep_dpl h hb k (by omega)
    have h2 : cN Y (fr + k) = cs.getD k 0 := cN_of (h k (by omega)) (by have := hb k (by omega); omega)
    unfold dep
    have h3 : cs.take (k + 1) = cs.take k ++ [cs.getD k 0] := by
      rw [List.take_succ, List.getD_eq_getElem?_getD, List.getElem?_eq_getElem (show k < cs.length by omega)]
      rfl
    rw [h3, dpl_app, ← h1, h2]
    rfl
theorem yk_text {Y : Nat → Int32} {n hN : Nat} (hY : YOk Y n hN) {t : Nat} (ht : t ≤ 60) {u : Nat} (hu : u < 2) (hw : (txR Y t u).1 = true) : YOk (textY Y t u) n hN := by
  obtain ⟨⟨a1, a2, a3, a4⟩, b, c, d, e, g⟩ := hY
  have hm := tx_mono Y t u
  have hlo : ∀ i, i < 321 → i ≠ 4 → textY Y t u i = Y i := fun i hi h4 => by
    unfold textY
    rw [cpY_ne _ _ _ _ _ (fun k _ => by omega), upd_ne _ _ (by omega), upd_ne _ _ h4]
  refine ⟨⟨(hlo 0 (by omega) (by omega)).trans a1, a2, (hlo 1 (by omega) (by omega)).trans a3, a4⟩, fun q hq => ?_, fun q hq => ?_, fun q hq => ?_, ⟨0, by omega, ?_⟩, ?_⟩
  · rw [hlo _ (by omega) (by omega)]; exact b q hq
  · rw [hlo _ (by omega) (by omega)]; exact c q hq
  · by_cases hqu : q = u
    · subst hqu
      have h5 := tx_grw hu hw 0
      have hat : ∀ k, k < (txR Y t q).2.2.length → textY Y t q (321 + 62 * q + 1 + k) = nI ((txR Y t q).2.2.getD k 0) := fun k hk => cpY_at _ _ _ _ _ hk
      have hop := fun k hk => vld_get (txR Y t q).2.2 0 k h5.1 hk
      have hdd := dep_dpl hat (fun k hk => (hop k hk).1)
      refine ⟨(txR Y t q).2.2.length, by omega, ?_, fun k hk => ⟨_, hat k hk, ?_⟩, fun h0 => ?_⟩
      · rw [show 321 + 62 * q + 1 - 1 = 321 + 62 * q by omega]
        unfold textY
        rw [cpY_ne _ _ _ _ _ (fun k _ => by omega)]
        exact upd_eq _ _ _
      · rw [hdd k (by omega)]; exact hop k hk
      · rw [hdd _ (Nat.le_refl _), List.take_length]; exact h5.2
    · obtain ⟨len, h⟩ := d q hq
      refine ⟨len, ?_⟩
      have hl : ∀ i, 321 + 62 * q ≤ i → i < 321 + 62 * q + 62 → textY Y t u i = Y i := fun i h1 h2 => by
        unfold textY
        rw [cpY_ne _ _ _ _ _ (fun k hk => by rcases (show q = 0 ∨ q = 1 by omega) with z | z <;> rcases (show u = 0 ∨ u = 1 by omega) with y | y <;> subst z <;> subst y <;> omega), upd_ne _ _ (by rcases (show q = 0 ∨ q = 1 by omega) with z | z <;> rcases (show u = 0 ∨ u = 1 by omega) with y | y <;> subst z <;> subst y <;> omega), upd_ne _ _ (by omega)]
      obtain ⟨h1, h2, h3, h4⟩ := h
      have hdd : ∀ k, k ≤ len → dep (textY Y t u) (321 + 62 * q + 1) k = dep Y (321 + 62 * q + 1) k := by
        intro k
        induction k with
        | zero => intro _; rfl
        | succ k ih =>
          intro hk
          have h9 : cN (textY Y t u) (321 + 62 * q + 1 + k) = cN Y (321 + 62 * q + 1 + k) := by unfold cN; rw [hl _ (by omega) (by omega)]
          unfold dep
          rw [h9, ih (by omega)]
      refine ⟨h1, by rw [hl _ (by omega) (by omega)]; exact h2, fun k hk => ?_, fun h0 => by rw [hdd _ (Nat.le_refl _)]; exact h4 h0⟩
      rw [hl _ (by omega) (by omega), hdd k (by omega)]
      exact h3 k hk
  · unfold textY
    rw [cpY_ne _ _ _ _ _ (fun k _ => by omega), upd_ne _ _ (by omega)]
    exact upd_eq _ _ _
  · rw [hlo 5 (by omega) (by omega)]; exact g
theorem yk_tape0 {Y : Nat → Int32} {n hN : Nat} (hY : YOk Y n hN) : YOk (upd Y 4 (nI 0)) n hN := by
  obtain ⟨⟨a1, a2, a3, a4⟩, b, c, d, e, g⟩ := hY
  have hlo : ∀ i, i ≠ 4 → upd Y 4 (nI 0) i = Y i := fun i h4 => upd_ne _ _ h4
  refine ⟨⟨(hlo 0 (by omega)).trans a1, a2, (hlo 1 (by omega)).trans a3, a4⟩, fun q hq => ?_, fun q hq => ?_, fun q hq => ?_, ⟨0, by omega, upd_eq _ _ _⟩, ?_⟩
  · rw [hlo _ (by omega)]; exact b q hq
  · rw [hlo _ (by omega)]; exact c q hq
  · obtain ⟨len, h⟩ := d q hq
    exact ⟨len, h.congr (fun i hi => hlo i (by omega))⟩
  · rw [hlo 5 (by omega)]; exact g
theorem eqM.of205 {M X : Mm} (h : ∀ a, a ≠ 205 → a ≠ 206 → a ≠ 211 → X a = M a) (h3 : X 205 3 = M 205 3) (h17 : X 205 17 = M 205 17) : eqM 0 M X := ⟨fun a x1 x2 _ _ x5 _ _ _ _ _ => h a x1 x2 x5, h3, h17, h 209 (by decide) (by decide) (by decide)⟩
set_option maxHeartbeats 4000000 in
set_option maxRecDepth 100000 in
theorem r_text (l : Launch) (G : GC) (M : Mm) (Y : Nat → Int32) (n hN t : Nat) (hY : YOk Y n hN) (hT : Y 4 = nI t) (ht : t ≤ 60) (hN0 : M 210 0 = nI 2) (hN1 : M 210 1 = nI 3) (use : Int32) : CI l G 60 yX10_text cX10_text 3 .int [.ref (gb G + 205), .int use] (upA M 206 Y) ((textS Y t use).2.1) (PubR M (textS Y t use).2.2 (textS Y t use).1) := by
  refine Con.of (by decide +kernel) (Nat.le_of_ble_eq_true rfl) ?_
  intro f C hRm hRt _
  show Vc f G NPh (upA M 206 Y) 0 [(0, .ref (gb G + 205)), (1, .int use)] []
  refine v_iload_n C 1 dX10_text_0 rfl ?_
  refine v_iconst C (nI 0) dX10_text_1 (by decide) ?_
  refine v_iconst C (nI 1) dX10_text_2 (by decide) ?_
  refine n_callSp C hRm [.int use, .int (nI 0), .int (nI 1)] cw_X10_within st_X10_within ml_X10_72 (r_within l G (upA M 206 Y) use (nI 0) (nI 1)) (by decide) rfl rfl (Nat.le_of_ble_eq_true rfl) dX10_text_3 ?_
  refine nb_if_ne C 16 dX10_text_6 rfl (fun h_6 => ?_) (fun h_6 => ?_)
  · skip
    have hm6 := True.intro
    obtain ⟨u, hu1, rfl⟩ := within_nat (k := 1) (by decide) h_6
    have hu : u < 2 := by omega
    refine v_aload_n C 0 dX10_text_16 rfl ?_
    refine v_iload_n C 1 dX10_text_17 rfl ?_
    refine p_X10_207 C (by decide) sh_205 dX10_text_18 ?_
    refine v_mem (upA (up2 M 205 8 (nI u)) 206 Y) (up2_upA_ne _ _ _ _ (by decide)) ?_
    refine v_aload_n C 0 dX10_text_21 rfl ?_
    refine v_iconst C (nI 0) dX10_text_22 (by decide) ?_
    refine p_X10_174 C (by decide) sh_205 dX10_text_23 ?_
    refine v_mem (upA (up2 (up2 M 205 8 (nI u)) 205 6 (nI 0)) 206 Y) (up2_upA_ne _ _ _ _ (by decide)) ?_
    refine v_aload_n C 0 dX10_text_26 rfl ?_
    refine v_iconst C (nI 0) dX10_text_27 (by decide) ?_
    refine p_X10_217 C (by decide) sh_205 dX10_text_28 ?_
    refine v_mem (upA (up2 (up2 (up2 M 205 8 (nI u)) 205 6 (nI 0)) 205 7 (nI 0)) 206 Y) (up2_upA_ne _ _ _ _ (by decide)) ?_
    refine v_aload_n C 0 dX10_text_31 rfl ?_
    refine v_iconst C (nI 0) dX10_text_32 (by decide) ?_
    refine p_X10_170 C (by decide) sh_205 (by decide) dX10_text_33 ?_
    refine v_mem (upA (up2 (up2 (up2 (up2 M 205 8 (nI u)) 205 6 (nI 0)) 205 7 (nI 0)) 205 9 (nI 0)) 206 Y) (up2_upA_ne _ _ _ _ (by decide)) ?_
    refine v_aload_n C 0 dX10_text_36 rfl ?_
    refine v_iconst C (nI 0) dX10_text_37 (by decide) ?_
    refine p_X10_182 C (by decide) sh_205 dX10_text_38 ?_
    refine v_mem (upA (up2 (up2 (up2 (up2 (up2 M 205 8 (nI u)) 205 6 (nI 0)) 205 7 (nI 0)) 205 9 (nI 0)) 205 11 (nI 0)) 206 Y) (up2_upA_ne _ _ _ _ (by decide)) ?_
    have hp0 : pRep (up2 (up2 (up2 (up2 (up2 M 205 8 (nI u)) 205 6 (nI 0)) 205 7 (nI 0)) 205 9 (nI 0)) 205 11 (nI 0)) 0 u (true, 0, []) := ⟨⟨by (repeat (first | rw [up2_at] | rw [up2_at_ne _ _ (by decide)])), by (repeat (first | rw [up2_at] | rw [up2_at_ne _ _ (by decide)])), by (repeat (first | rw [up2_at] | rw [up2_at_ne _ _ (by decide)])), by (repeat (first | rw [up2_at] | rw [up2_at_ne _ _ (by decide)])); rfl, by (repeat (first | rw [up2_at] | rw [up2_at_ne _ _ (by decide)])); rfl⟩, fun k hk => absurd hk (Nat.not_lt_zero _), by rw [up2_ne _ _ _ (by decide), up2_ne _ _ _ (by decide), up2_ne _ _ _ (by decide), up2_ne _ _ _ (by decide), up2_ne _ _ _ (by decide)]; rcases (show u = 0 ∨ u = 1 by omega) with z | z <;> subst z; exact hN0; exact hN1⟩
    refine v_aload_n C 0 dX10_text_41 rfl ?_
    refine n_callVv C hRm [] cw_X10_either ml_X10_220 (by decide) sh_205 (by decide) rfl ((pb_all l G Y t u ht hT hu 36 0 (by decide)).1 (by decide) (up2 (up2 (up2 (up2 (up2 M 205 8 (nI u)) 205 6 (nI 0)) 205 7 (nI 0)) 205 9 (nI 0)) 205 11 (nI 0)) (true, 0, []) hp0 ⟨Nat.zero_le _, Nat.zero_le _⟩) (by decide) rfl rfl (Nat.le_of_ble_eq_true rfl) dX10_text_42 (fun M5 hP_42 => ?_)
    obtain ⟨X1, rfl, hp1, he1⟩ := hP_42
    have hp1 : pRep X1 0 u (txR Y t u) := by rw [txR_eq]; exact hp1
    have hm := tx_mono Y t u
    refine v_aload_n C 0 dX10_text_45 rfl ?_
    refine v_aload_n C 0 dX10_text_46 rfl ?_
    refine g_X10_170 C (by decide) sh_205 dX10_text_47 ?_
    refine v_top (X1 205 9) (congrFun (upA_ne X1 Y (by decide)) 9) ?_
    refine v_top (b2i ((txR Y t u).1 = false)) (hp1.1.2.2.2.1) ?_
    refine nb_if_ne C 66 dX10_text_50 rfl (fun h_50 => ?_) (fun h_50 => ?_)
    · skip
      refine v_iconst C (nI 1) dX10_text_66 (by decide) ?_
      refine v_goto C 71 dX10_text_67 rfl ?_
      refine p_X10_170 C (by decide) sh_205 (by decide) dX10_text_71 ?_
      refine v_mem (upA (up2 X1 205 9 (nI 1)) 206 Y) (up2_upA_ne _ _ _ _ (by decide)) ?_
      refine v_aload_n C 0 dX10_text_74 rfl ?_
      refine g_X10_9 C (by decide) sh_205 dX10_text_75 ?_
      refine v_iconst C (nI 4) dX10_text_78 (by decide) ?_
      refine v_iconst C (nI 0) dX10_text_79 (by decide) ?_
      refine n_now_st C (by decide) sh_206 (by omega) (by decide) dX10_text_80 ?_
      refine v_aload_n C 0 dX10_text_81 rfl ?_
      refine g_X10_170 C (by decide) sh_205 dX10_text_82 ?_
      refine v_top ((up2 X1 205 9 (nI 1)) 205 9) (congrFun (upA_ne (up2 X1 205 9 (nI 1)) (upd Y 4 (nI 0)) (by decide)) 9) ?_
      refine v_top (nI 1) (up2_at _ _ _ _) ?_
      refine n_if_eq C (by omega) 96 dX10_text_85 rfl (fun h_85 => absurd h_85 (by decide)) (fun _ => ?_)
      refine v_bipush C (-10) dX10_text_88 (by decide) ?_
      refine v_aload_n C 0 dX10_text_90 rfl ?_
      refine g_X10_174 C (by decide) sh_205 dX10_text_91 ?_
      refine v_top ((up2 X1 205 9 (nI 1)) 205 6) (congrFun (upA_ne (up2 X1 205 9 (nI 1)) (upd Y 4 (nI 0)) (by decide)) 6) ?_
      refine v_top (nI ((txR Y t u).2.1)) ((up2_at_ne _ _ (by decide)).trans hp1.1.1) ?_
      refine v_isub C dX10_text_94 ?_
      have hq : ∀ a, a ≠ 205 → a ≠ 206 → a ≠ 211 → X1 a = M a := fun a h1 h2 h3 => (he1.1 a h1 h2 h3).trans (by rw [up2_ne _ _ _ h1, up2_ne _ _ _ h1, up2_ne _ _ _ h1, up2_ne _ _ _ h1, up2_ne _ _ _ h1])
      have hq3 : X1 205 3 = M 205 3 := (he1.2 3 (by decide) (by decide) (by decide) (by decide)).trans (by rw [up2_at_ne _ _ (by decide), up2_at_ne _ _ (by decide), up2_at_ne _ _ (by decide), up2_at_ne _ _ (by decide), up2_at_ne _ _ (by decide)])
      have hq17 : X1 205 17 = M 205 17 := (he1.2 17 (by decide) (by decide) (by decide) (by decide)).trans (by rw [up2_at_ne _ _ (by decide), up2_at_ne _ _ (by decide), up2_at_ne _ _ (by decide), up2_at_ne _ _ (by decide), up2_at_ne _ _ (by decide)])
      have hE : eqM 0 M (up2 X1 205 9 (nI 1)) := eqM.of205 (fun a h1 h2 h3 => (up2_ne _ _ _ h1).trans (hq a h1 h2 h3)) ((up2_at_ne _ _ (by decide)).trans hq3) ((up2_at_ne _ _ (by decide)).trans hq17)
      have hS : textS Y t (nI u) = (0, (-10) - nI (txR Y t u).2.1, upd Y 4 (nI 0)) := by unfold textS; rw [if_pos h_6, toN (by omega), if_neg (fun q => by simp_all)]
      exact n_iret C hRt rfl dX10_text_95 (by rw [hS] <;> rfl) (by rw [hS]; exact ⟨_, rfl, hE⟩)
    · skip
      refine v_aload_n C 0 dX10_text_53 rfl ?_
      refine g_X10_174 C (by decide) sh_205 dX10_text_54 ?_
      refine v_top (X1 205 6) (congrFun (upA_ne X1 Y (by decide)) 6) ?_
      refine v_top (nI ((txR Y t u).2.1)) (hp1.1.1) ?_
      refine v_aload_n C 0 dX10_text_57 rfl ?_
      refine g_X10_9 C (by decide) sh_205 dX10_text_58 ?_
      refine v_iconst C (nI 4) dX10_text_61 (by decide) ?_
      refine n_now_ld C (by decide) sh_206 (by omega) (by decide) dX10_text_62 ?_
      refine v_top (nI t) (hT) ?_
      refine n_icmp_ge C (by omega) (by omega) 70 dX10_text_63 rfl (fun h_63 => ?_) (fun h_63 => ?_)
      · skip
        refine v_iconst C (nI 0) dX10_text_70 (by decide) ?_
        refine p_X10_170 C (by decide) sh_205 (by decide) dX10_text_71 ?_
        refine v_mem (upA (up2 X1 205 9 (nI 0)) 206 Y) (up2_upA_ne _ _ _ _ (by decide)) ?_
        refine v_aload_n C 0 dX10_text_74 rfl ?_
        refine g_X10_9 C (by decide) sh_205 dX10_text_75 ?_
        refine v_iconst C (nI 4) dX10_text_78 (by decide) ?_
        refine v_iconst C (nI 0) dX10_text_79 (by decide) ?_
        refine n_now_st C (by decide) sh_206 (by omega) (by decide) dX10_text_80 ?_
        refine v_aload_n C 0 dX10_text_81 rfl ?_
        refine g_X10_170 C (by decide) sh_205 dX10_text_82 ?_
        refine v_top ((up2 X1 205 9 (nI 0)) 205 9) (congrFun (upA_ne (up2 X1 205 9 (nI 0)) (upd Y 4 (nI 0)) (by decide)) 9) ?_
        refine v_top (nI 0) (up2_at _ _ _ _) ?_
        refine n_if_eq C (by omega) 96 dX10_text_85 rfl (fun _ => ?_) (fun h_85 => absurd h_85 (by decide))
        have hok : (txR Y t u).1 = true := by cases hh : (txR Y t u).1 <;> simp_all
        refine v_aload_n C 0 dX10_text_96 rfl ?_
        refine g_X10_9 C (by decide) sh_205 dX10_text_97 ?_
        refine v_sipush C (nI 321) dX10_text_100 (by decide) ?_
        refine v_bipush C (nI 62) dX10_text_103 (by decide) ?_
        refine v_aload_n C 0 dX10_text_105 rfl ?_
        refine g_X10_207 C (by decide) sh_205 dX10_text_106 ?_
        refine v_top ((up2 X1 205 9 (nI 0)) 205 8) (congrFun (upA_ne (up2 X1 205 9 (nI 0)) (upd Y 4 (nI 0)) (by decide)) 8) ?_
        refine v_top (nI u) ((up2_at_ne _ _ (by decide)).trans hp1.1.2.2.1) ?_
        refine n_imul C dX10_text_109 ?_
        refine n_iadd C dX10_text_110 ?_
        refine v_aload_n C 0 dX10_text_111 rfl ?_
        refine g_X10_182 C (by decide) sh_205 dX10_text_112 ?_
        refine v_top ((up2 X1 205 9 (nI 0)) 205 11) (congrFun (upA_ne (up2 X1 205 9 (nI 0)) (upd Y 4 (nI 0)) (by decide)) 11) ?_
        refine v_top (nI ((txR Y t u).2.2.length)) ((up2_at_ne _ _ (by decide)).trans hp1.1.2.2.2.2) ?_
        refine n_now_st C (by decide) sh_206 (by omega) (by decide) dX10_text_115 ?_
        refine v_iconst C (nI 0) dX10_text_116 (by decide) ?_
        refine v_istore_n C [(2, .int (nI 0)), (0, .ref (gb G + 205)), (1, .int (nI u))] dX10_text_117 rfl (by decide) rfl ?_
        have LT : ∀ (kk : Nat) (k : Nat), (txR Y t u).2.2.length - k = kk → k ≤ (txR Y t u).2.2.length → Vc f G NPh (upA (up2 X1 205 9 (nI 0)) 206 (cpY (upd (upd Y 4 (nI 0)) (321 + 62 * u) (nI (txR Y t u).2.2.length)) u (txR Y t u).2.2 k)) 118 [(2, .int (nI k)), (0, .ref (gb G + 205)), (1, .int (nI u))] [] := by
          intro kk
          induction kk using Nat.strongRecOn with
          | _ kk ihLT =>
            intro k hkk hk1
            refine v_iload_n C 0 dX10_text_118 rfl ?_
            refine v_aload_n C 1 dX10_text_119 rfl ?_
            refine g_X10_182 C (by decide) sh_205 dX10_text_120 ?_
            refine v_top ((up2 X1 205 9 (nI 0)) 205 11) (congrFun (upA_ne (up2 X1 205 9 (nI 0)) (cpY (upd (upd Y 4 (nI 0)) (321 + 62 * u) (nI (txR Y t u).2.2.length)) u (txR Y t u).2.2 k) (by decide)) 11) ?_
            refine v_top (nI ((txR Y t u).2.2.length)) ((up2_at_ne _ _ (by decide)).trans hp1.1.2.2.2.2) ?_
            refine n_icmp_ge C (by omega) (by omega) 158 dX10_text_123 rfl (fun h_123 => ?_) (fun h_123 => ?_)
            · skip
              refine v_iconst C (nI 1) dX10_text_158 (by decide) ?_
              have hk9 : k = (txR Y t u).2.2.length := by omega
              subst hk9
              have hq : ∀ a, a ≠ 205 → a ≠ 206 → a ≠ 211 → X1 a = M a := fun a h1 h2 h3 => (he1.1 a h1 h2 h3).trans (by rw [up2_ne _ _ _ h1, up2_ne _ _ _ h1, up2_ne _ _ _ h1, up2_ne _ _ _ h1, up2_ne _ _ _ h1])
              have hq3 : X1 205 3 = M 205 3 := (he1.2 3 (by decide) (by decide) (by decide) (by decide)).trans (by rw [up2_at_ne _ _ (by decide), up2_at_ne _ _ (by decide), up2_at_ne _ _ (by decide), up2_at_ne _ _ (by decide), up2_at_ne _ _ (by decide)])
              have hq17 : X1 205 17 = M 205 17 := (he1.2 17 (by decide) (by decide) (by decide) (by decide)).trans (by rw [up2_at_ne _ _ (by decide), up2_at_ne _ _ (by decide), up2_at_ne _ _ (by decide), up2_at_ne _ _ (by decide), up2_at_ne _ _ (by decide)])
              have hE : eqM 0 M (up2 X1 205 9 (nI 0)) := eqM.of205 (fun a h1 h2 h3 => (up2_ne _ _ _ h1).trans (hq a h1 h2 h3)) ((up2_at_ne _ _ (by decide)).trans hq3) ((up2_at_ne _ _ (by decide)).trans hq17)
              have hS : textS Y t (nI u) = (0, nI 1, textY Y t u) := by unfold textS; rw [if_pos h_6, toN (by omega), if_pos ⟨hok, Nat.not_lt.mpr h_63⟩]
              exact n_iret C hRt rfl dX10_text_159 (by rw [hS] <;> rfl) (by rw [hS]; exact ⟨_, rfl, hE⟩)
            · skip
              refine v_aload_n C 1 dX10_text_126 rfl ?_
              refine g_X10_9 C (by decide) sh_205 dX10_text_127 ?_
              refine v_sipush C (nI 321) dX10_text_130 (by decide) ?_
              refine v_bipush C (nI 62) dX10_text_133 (by decide) ?_
              refine v_aload_n C 1 dX10_text_135 rfl ?_
              refine g_X10_207 C (by decide) sh_205 dX10_text_136 ?_
              refine v_top ((up2 X1 205 9 (nI 0)) 205 8) (congrFun (upA_ne (up2 X1 205 9 (nI 0)) (cpY (upd (upd Y 4 (nI 0)) (321 + 62 * u) (nI (txR Y t u).2.2.length)) u (txR Y t u).2.2 k) (by decide)) 8) ?_
              refine v_top (nI u) ((up2_at_ne _ _ (by decide)).trans hp1.1.2.2.1) ?_
              refine n_imul C dX10_text_139 ?_
              refine n_iadd C dX10_text_140 ?_
              refine v_iconst C (nI 1) dX10_text_141 (by decide) ?_
              refine n_iadd C dX10_text_142 ?_
              refine v_iload_n C 0 dX10_text_143 rfl ?_
              refine n_iadd C dX10_text_144 ?_
              refine v_aload_n C 1 dX10_text_145 rfl ?_
              refine g_X10_32 C (by decide) sh_205 dX10_text_146 ?_
              refine v_iload_n C 0 dX10_text_149 rfl ?_
              refine v_iald C (by decide) sh_211 (by omega) (by decide) dX10_text_150 ?_
              refine v_top ((up2 X1 205 9 (nI 0)) 211 k) (congrFun (upA_ne (up2 X1 205 9 (nI 0)) (cpY (upd (upd Y 4 (nI 0)) (321 + 62 * u) (nI (txR Y t u).2.2.length)) u (txR Y t u).2.2 k) (by decide)) _) ?_
              refine v_top (nI ((txR Y t u).2.2.getD k 0)) ((congrFun (up2_ne _ _ _ (by decide)) k).trans (hp1.2.1 k (by omega))) ?_
              refine n_now_st C (by decide) sh_206 (by omega) (by decide) dX10_text_151 ?_
              refine v_iinc C (nI (k + 1)) 0 [(2, .int (nI (k + 1))), (0, .ref (gb G + 205)), (1, .int (nI u))] dX10_text_152 rfl (nI_add _ _) (by decide) rfl ?_
              refine v_goto C 118 dX10_text_155 rfl ?_
              refine v_sub [0, 1, 2] [(2, .int (nI (k + 1))), (0, .ref (gb G + 205)), (1, .int (nI u))] rfl ?_
              exact ihLT _ (by omega) (k + 1)  rfl (by omega)
        refine v_sub [0, 1, 2] [(2, .int (nI 0)), (0, .ref (gb G + 205)), (1, .int (nI u))] rfl ?_
        exact LT _ 0  rfl (by omega)
      · skip
        refine v_iconst C (nI 1) dX10_text_66 (by decide) ?_
        refine v_goto C 71 dX10_text_67 rfl ?_
        refine p_X10_170 C (by decide) sh_205 (by decide) dX10_text_71 ?_
        refine v_mem (upA (up2 X1 205 9 (nI 1)) 206 Y) (up2_upA_ne _ _ _ _ (by decide)) ?_
        refine v_aload_n C 0 dX10_text_74 rfl ?_
        refine g_X10_9 C (by decide) sh_205 dX10_text_75 ?_
        refine v_iconst C (nI 4) dX10_text_78 (by decide) ?_
        refine v_iconst C (nI 0) dX10_text_79 (by decide) ?_
        refine n_now_st C (by decide) sh_206 (by omega) (by decide) dX10_text_80 ?_
        refine v_aload_n C 0 dX10_text_81 rfl ?_
        refine g_X10_170 C (by decide) sh_205 dX10_text_82 ?_
        refine v_top ((up2 X1 205 9 (nI 1)) 205 9) (congrFun (upA_ne (up2 X1 205 9 (nI 1)) (upd Y 4 (nI 0)) (by decide)) 9) ?_
        refine v_top (nI 1) (up2_at _ _ _ _) ?_
        refine n_if_eq C (by omega) 96 dX10_text_85 rfl (fun h_85 => absurd h_85 (by decide)) (fun _ => ?_)
        refine v_bipush C (-10) dX10_text_88 (by decide) ?_
        refine v_aload_n C 0 dX10_text_90 rfl ?_
        refine g_X10_174 C (by decide) sh_205 dX10_text_91 ?_
        refine v_top ((up2 X1 205 9 (nI 1)) 205 6) (congrFun (upA_ne (up2 X1 205 9 (nI 1)) (upd Y 4 (nI 0)) (by decide)) 6) ?_
        refine v_top (nI ((txR Y t u).2.1)) ((up2_at_ne _ _ (by decide)).trans hp1.1.1) ?_
        refine v_isub C dX10_text_94 ?_
        have hq : ∀ a, a ≠ 205 → a ≠ 206 → a ≠ 211 → X1 a = M a := fun a h1 h2 h3 => (he1.1 a h1 h2 h3).trans (by rw [up2_ne _ _ _ h1, up2_ne _ _ _ h1, up2_ne _ _ _ h1, up2_ne _ _ _ h1, up2_ne _ _ _ h1])
        have hq3 : X1 205 3 = M 205 3 := (he1.2 3 (by decide) (by decide) (by decide) (by decide)).trans (by rw [up2_at_ne _ _ (by decide), up2_at_ne _ _ (by decide), up2_at_ne _ _ (by decide), up2_at_ne _ _ (by decide), up2_at_ne _ _ (by decide)])
        have hq17 : X1 205 17 = M 205 17 := (he1.2 17 (by decide) (by decide) (by decide) (by decide)).trans (by rw [up2_at_ne _ _ (by decide), up2_at_ne _ _ (by decide), up2_at_ne _ _ (by decide), up2_at_ne _ _ (by decide), up2_at_ne _ _ (by decide)])
        have hE : eqM 0 M (up2 X1 205 9 (nI 1)) := eqM.of205 (fun a h1 h2 h3 => (up2_ne _ _ _ h1).trans (hq a h1 h2 h3)) ((up2_at_ne _ _ (by decide)).trans hq3) ((up2_at_ne _ _ (by decide)).trans hq17)
        have hS : textS Y t (nI u) = (0, (-10) - nI (txR Y t u).2.1, upd Y 4 (nI 0)) := by unfold textS; rw [if_pos h_6, toN (by omega), if_neg (fun q => q.2 h_63)]
        exact n_iret C hRt rfl dX10_text_95 (by rw [hS] <;> rfl) (by rw [hS]; exact ⟨_, rfl, hE⟩)
  · skip
    refine v_aload_n C 0 dX10_text_9 rfl ?_
    refine v_ldc C (-1000001) kc_X10_80 dX10_text_10 ?_
    refine n_callVi C hRm [.int (-1000001)] cw_X10_finding ml_X10_81 (by decide) sh_205 (by decide) rfl (r_finding l G (upA M 206 Y) 1 (by decide) (-1000001) (by decide)) (by decide) rfl rfl (Nat.le_of_ble_eq_true rfl) dX10_text_12 (fun M5 hP_12 => ?_)
    subst hP_12
    refine v_mem (upA (fndM M 1) 206 Y) (fnd_upA _ _ _) ?_
    have hS : textS Y t use = er 1 Y := by unfold textS; rw [if_neg h_6]
    exact n_iret C hRt rfl dX10_text_15 (by rw [hS] <;> rfl) (by rw [hS]; exact ⟨_, rfl, (eqM.rf M).tr (eqM.fnd _ (show (1 : Nat) ≠ 0 by decide))⟩)
