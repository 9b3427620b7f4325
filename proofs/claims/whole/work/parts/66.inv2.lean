theorem okT.cong2 {Y Y' : Nat → Int32} {fr len : Nat} (h : okT Y fr len) (hf : 1 ≤ fr) (hY : ∀ i, fr - 1 ≤ i → i < fr + len → Y' i = Y i) : okT Y' fr len := by
  obtain ⟨h1, h2, h3, h4⟩ := h
  have hdd : ∀ k, k ≤ len → dep Y' fr k = dep Y fr k := by
    intro k
    induction k with
    | zero => intro _; rfl
    | succ k ih =>
      intro hk
      have h9 : cN Y' (fr + k) = cN Y (fr + k) := cN_eq (hY _ (by omega) (by omega))
      unfold dep
      rw [h9, ih (by omega)]
  refine ⟨h1, (hY _ (by omega) (by omega)).trans h2, fun k hk => ?_, fun h0 => by rw [hdd _ (Nat.le_refl _)]; exact h4 h0⟩
  rw [hY _ (by omega) (by omega), hdd k (by omega)]
  exact h3 k hk
theorem yJ.t2 {Y Y' : Nat → Int32} {n : Nat} (h : yJ Y n) (h4 : cN Y 4 ≤ 60) (hm : ∀ c, c < n → Y' (7 + 6 * c + 3) = Y (7 + 6 * c + 3)) (hs : ∀ c, c < 10 → Y' (67 + 10 * c + c) = Y (67 + 10 * c + c)) (ha : ∀ c, n ≤ c → c < 10 → Y' (7 + 6 * c + 5) = Y (7 + 6 * c + 5)) (ht : ∀ i, i = 4 ∨ 237 ≤ i ∧ i < 297 ∨ 321 ≤ i → Y' i = Y i) : yJ Y' n := by
  refine ⟨fun c hc => by rw [hm c hc]; exact h.1 c hc, fun c hc => by rw [hs c hc]; exact h.2.1 c hc, fun c h1 h2 => by rw [ha c h1 h2]; exact h.2.2.1 c h1 h2, fun k hk => ?_, fun k hk => ?_⟩
  · rw [cN_eq (ht 4 (by omega))] at hk
    rw [ht _ (by omega)]; exact h.2.2.2.1 k hk
  · rw [cN_eq (ht _ (by omega))] at hk
    rw [cN_eq (ht _ (by omega))]; exact h.2.2.2.2 k hk
theorem iv_unt {Y : Nat → Int32} {n hN : Nat} (h : yInv Y n hN) {u : Nat} (hu : u < 2) : yInv (upd Y (321 + 62 * u) (nI 0)) n hN := by
  have h10 := h.1.1.2.1
  obtain ⟨⟨⟨a, b, c, d⟩, e, f, t, q4, q5⟩, hI, hJ⟩ := h
  have g : ∀ i, i ≠ 321 + 62 * u → upd Y (321 + 62 * u) (nI 0) i = Y i := fun i hi => upd_ne _ _ hi
  have g0 : upd Y (321 + 62 * u) (nI 0) (321 + 62 * u) = nI 0 := upd_eq _ _ _
  generalize upd Y (321 + 62 * u) (nI 0) = Y' at g g0 ⊢
  refine ⟨⟨⟨(g 0 (by omega)).trans a, b, (g 1 (by omega)).trans c, d⟩, fun q hq => ?_, fun q hq => ?_, fun q hq => ?_, ?_, ?_⟩, hI.t2 (fun d hd => g _ (by omega)) (fun k hk => ⟨g _ (by omega), g _ (by omega)⟩), ⟨fun q hq => ?_, fun q hq => ?_, fun q h1 h2 => ?_, fun k hk => ?_, fun k hk => ?_⟩⟩
  · rw [g _ (by omega)]; exact e q hq
  · rw [g _ (by omega)]; exact f q hq
  · by_cases z : q = u
    · subst z
      exact ⟨0, Nat.zero_le _, g0, fun k hk => absurd hk (Nat.not_lt_zero k), fun hk => absurd hk (Nat.not_lt_zero 0)⟩
    · obtain ⟨len, hok⟩ := t q hq
      have hl := hok.1
      exact ⟨len, hok.cong2 (by omega) (fun i h1 h2 => g i (by omega))⟩
  · rw [g 4 (by omega)]; exact q4
  · rw [g 5 (by omega)]; exact q5
  · rw [g _ (by omega)]; exact hJ.1 q hq
  · rw [g _ (by omega)]; exact hJ.2.1 q hq
  · rw [g _ (by omega)]; exact hJ.2.2.1 q h1 h2
  · rw [cN_eq (g 4 (by omega))] at hk
    rw [g _ (by obtain ⟨tt, ht, ht2⟩ := q4; rw [cN_of ht2 (by omega)] at hk; omega)]; exact hJ.2.2.2.1 k hk
  · by_cases z : u = 1
    · subst z
      rw [cN_of g0 (by decide)] at hk
      exact absurd hk (Nat.not_lt_zero k)
    · rw [cN_eq (g _ (by omega))] at hk
      rw [cN_eq (g _ (by omega))]; exact hJ.2.2.2.2 k hk
theorem i_untell {Y : Nat → Int32} {n hN : Nat} (h : yInv Y n hN) (use : Int32) : yInv (untellS Y use).2.2 n hN := by
  unfold untellS
  by_cases h1 : nI 0 ≤ use ∧ use ≤ nI 1
  · rw [if_pos h1]
    obtain ⟨u, hu, rfl⟩ := within_nat (by decide) h1
    rw [nI_clamp (by omega)]
    split
    · exact iv_unt h (by omega)
    · exact iv_unt h (by omega)
  · rw [if_neg h1]; exact h
theorem and255 (x : Int32) : ∃ b, b < 256 ∧ x &&& nI 255 = nI b := by
  refine ⟨(x &&& nI 255).toBitVec.toNat, ?_, ?_⟩
  · show (x.toBitVec &&& (255#32)).toNat < 256
    rw [BitVec.toNat_and]
    exact Nat.lt_succ_of_le Nat.and_le_right
  · apply Int32.toBitVec_inj.mp
    show _ = BitVec.ofNat 32 _
    rw [BitVec.ofNat_toNat, BitVec.setWidth_eq]
theorem byR_b (x : Int64) {i : Nat} (hi : i < 8) : ∃ b, b < 256 ∧ byR x i = nI b := by
  rw [← bl_eq x i hi]; exact and255 _
theorem fd_at {Y : Nat → Int32} {t : Nat} (x : Int64) : ∀ k, t + k ≤ 60 → ∀ j, j < t + k → fdA Y t x k (237 + j) = if j < t then Y (237 + j) else byR x (j - t)
  | 0, _, j, hj => by rw [if_pos (by omega)]; rfl
  | k + 1, hk, j, hj => by
    unfold fdA
    rw [upd_ne _ _ (by omega)]
    by_cases z : j = t + k
    · subst z
      rw [upd_eq, if_neg (by omega), show t + k - t = k by omega]
    · rw [upd_ne _ _ (by omega)]
      exact fd_at x k (by omega) j (by omega)
theorem i_feed {Y : Nat → Int32} {n hN : Nat} (h : yInv Y n hN) {t : Nat} (ht : Y 4 = nI t) (ht2 : t ≤ 60) (x : Int64) (k : Int32) : yInv (feedS Y t x k).2.2 n hN := by
  have h10 := h.1.1.2.1
  unfold feedS
  by_cases h1 : nI 1 ≤ k ∧ k ≤ nI 8
  · rw [if_pos h1]
    have h1' : nI 0 ≤ k ∧ k ≤ nI 8 := ⟨Int32.le_trans (by decide) h1.1, h1.2⟩
    obtain ⟨j, hj, rfl⟩ := within_nat (by decide) h1'
    rw [nI_clamp (by omega)]
    by_cases h2 : t + j ≤ 60
    · rw [if_pos h2]
      show yInv (fdA Y t x j) n hN
      have g : ∀ i, i ≠ 4 → ¬ (237 ≤ i ∧ i < 297) → fdA Y t x j i = Y i := fun i h1 h2' => fd_hi x j h2 i h1 h2'
      refine ⟨yk_fd h.1 ht x h2, h.2.1.t2 (fun d hd => g _ (by omega) (by omega)) (fun k hk => ⟨g _ (by omega) (by omega), g _ (by omega) (by omega)⟩), ⟨fun q hq => ?_, fun q hq => ?_, fun q h1 h2 => ?_, fun k hk => ?_, fun k hk => ?_⟩⟩
      · rw [g _ (by omega) (by omega)]; exact h.2.2.1 q hq
      · rw [g _ (by omega) (by omega)]; exact h.2.2.2.1 q hq
      · rw [g _ (by omega) (by omega)]; exact h.2.2.2.2.1 q h1 h2
      · rw [cN_of (fd_4 ht x j) (by omega)] at hk
        rw [fd_at x j h2 k hk]
        split
        · exact h.2.2.2.2.2.1 k (by rw [cN_of ht (by omega)]; assumption)
        · exact byR_b x (by omega)
      · rw [cN_eq (g _ (by omega) (by omega))] at hk
        rw [cN_eq (g _ (by omega) (by omega))]; exact h.2.2.2.2.2.2 k hk
    · rw [if_neg h2]; exact h
  · rw [if_neg h1]; exact h
theorem iv_tape0 {Y : Nat → Int32} {n hN : Nat} (h : yInv Y n hN) : yInv (upd Y 4 (nI 0)) n hN := by
  have h10 := h.1.1.2.1
  refine ⟨yk_tape0 h.1, h.2.1.t2 (fun d hd => upd_ne _ _ (by omega)) (fun k hk => ⟨upd_ne _ _ (by omega), upd_ne _ _ (by omega)⟩), ⟨fun q hq => ?_, fun q hq => ?_, fun q h1 h2 => ?_, fun k hk => ?_, fun k hk => ?_⟩⟩
  · rw [upd_ne _ _ (by omega)]; exact h.2.2.1 q hq
  · rw [upd_ne _ _ (by omega)]; exact h.2.2.2.1 q hq
  · rw [upd_ne _ _ (by omega)]; exact h.2.2.2.2.1 q h1 h2
  · rw [cN_of (upd_eq _ _ _) (by decide)] at hk
    exact absurd hk (Nat.not_lt_zero k)
  · rw [cN_eq (upd_ne _ _ (by omega))] at hk
    rw [cN_eq (upd_ne _ _ (by omega))]; exact h.2.2.2.2.2.2 k hk
theorem iv_text {Y : Nat → Int32} {n hN : Nat} (h : yInv Y n hN) {t : Nat} (ht : t ≤ 60) {u : Nat} (hu : u < 2) (hw : (txR Y t u).1 = true) : yInv (textY Y t u) n hN := by
  have h10 := h.1.1.2.1
  have hm := tx_mono Y t u
  have g : ∀ i, i < 321 → i ≠ 4 → textY Y t u i = Y i := fun i hi h4 => by
    unfold textY
    rw [cpY_ne _ _ _ _ _ (fun k _ => by omega), upd_ne _ _ (by omega), upd_ne _ _ h4]
  have g4 : textY Y t u 4 = nI 0 := by
    unfold textY
    rw [cpY_ne _ _ _ _ _ (fun k _ => by omega), upd_ne _ _ (by omega), upd_eq]
  refine ⟨yk_text h.1 ht hu hw, h.2.1.t2 (fun d hd => g _ (by omega) (by omega)) (fun k hk => ⟨g _ (by omega) (by omega), g _ (by omega) (by omega)⟩), ⟨fun q hq => ?_, fun q hq => ?_, fun q h1 h2 => ?_, fun k hk => ?_, fun k hk => ?_⟩⟩
  · rw [g _ (by omega) (by omega)]; exact h.2.2.1 q hq
  · rw [g _ (by omega) (by omega)]; exact h.2.2.2.1 q hq
  · rw [g _ (by omega) (by omega)]; exact h.2.2.2.2.1 q h1 h2
  · rw [cN_of g4 (by decide)] at hk
    exact absurd hk (Nat.not_lt_zero k)
  · by_cases z : u = 1
    · subst z
      have hlen : textY Y t 1 (321 + 62 * 1) = nI (txR Y t 1).2.2.length := by
        unfold textY
        rw [cpY_ne _ _ _ _ _ (fun k _ => by omega)]
        exact upd_eq _ _ _
      rw [cN_of hlen (by omega)] at hk
      have hat : textY Y t 1 (321 + 62 * 1 + 1 + k) = nI ((txR Y t 1).2.2.getD k 0) := cpY_at _ _ _ _ _ hk
      have hb := (vld_get (txR Y t 1).2.2 0 k (tx_grw hu hw 0).1 hk).1
      rw [cN_of hat (by omega)]
      refine tx_n4 Y t _ ?_
      rw [List.getD_eq_getElem?_getD, List.getElem?_eq_getElem hk]
      exact List.getElem_mem hk
    · have hu0 : u = 0 := by omega
      subst hu0
      have g2 : ∀ i, 383 ≤ i → textY Y t 0 i = Y i := fun i hi => by
        unfold textY
        rw [cpY_ne _ _ _ _ _ (fun k _ => by omega), upd_ne _ _ (by omega), upd_ne _ _ (by omega)]
      rw [cN_eq (g2 _ (by omega))] at hk
      rw [cN_eq (g2 _ (by omega))]; exact h.2.2.2.2.2.2 k hk
theorem i_text {Y : Nat → Int32} {n hN : Nat} (h : yInv Y n hN) {t : Nat} (ht2 : t ≤ 60) (use : Int32) : yInv (textS Y t use).2.2 n hN := by
  unfold textS
  by_cases h1 : nI 0 ≤ use ∧ use ≤ nI 1
  · rw [if_pos h1]
    obtain ⟨u, hu, rfl⟩ := within_nat (by decide) h1
    rw [nI_clamp (by omega)]
    by_cases h2 : (txR Y t u).1 = true ∧ ¬ (txR Y t u).2.1 < t
    · rw [if_pos h2]; exact iv_text h ht2 (by omega) h2.1
    · rw [if_neg h2]; exact iv_tape0 h
  · rw [if_neg h1]; exact h
theorem iv_wait {Y Y' : Nat → Int32} {n hN t : Nat} (h : yInv Y n hN) (ht : t ≤ 24) (h5 : Y' 5 = nI t) (g : ∀ i, i ≠ 5 → ¬ (297 ≤ i ∧ i < 321) → Y' i = Y i) : yInv Y' n hN := by
  have h10 := h.1.1.2.1
  exact ⟨yk_wait h.1 ht h5 g, h.2.1.t2 (fun d hd => g _ (by omega) (by omega)) (fun k hk => ⟨g _ (by omega) (by omega), g _ (by omega) (by omega)⟩), h.2.2.t2 h.1.t4 (fun d hd => g _ (by omega) (by omega)) (fun d hd => g _ (by omega) (by omega)) (fun d h1 h2 => g _ (by omega) (by omega)) (fun i hi => g _ (by omega) (by omega))⟩
theorem i_tell {Y : Nat → Int32} {n hN : Nat} (h : yInv Y n hN) {t : Nat} (ht2 : t ≤ 24) (v : Int32) : yInv (tellS Y t v).2.2 n hN := by
  unfold tellS
  by_cases h1 : t = 24
  · rw [if_pos h1]; exact h
  · rw [if_neg h1]
    show yInv (upd (upd Y (297 + t) v) 5 (nI (t + 1))) n hN
    exact iv_wait h (t := t + 1) (by omega) (upd_eq _ _ _) (fun i h1 h2 => by rw [upd_ne _ _ h1, upd_ne _ _ (by omega)])
theorem i_check {Y : Nat → Int32} {n hN : Nat} (h : yInv Y n hN) (t : Nat) (heap : Int32) : yInv (checkS Y n t heap).2.2 n hN := by
  have h0 : yInv (upd Y 5 (nI 0)) n hN := iv_wait h (t := 0) (by omega) (upd_eq _ _ _) (fun i h1 _ => upd_ne _ _ h1)
  unfold checkS
  split
  · exact h0
  · exact h0
theorem iv_like {Y : Nat → Int32} {n hN : Nat} (h : yInv Y n hN) {c o : Nat} (hc : c < 10) (ho : o < 10) {v : Int32} (hv : c = o → v = nI 0) : yInv (upd Y (67 + 10 * c + o) v) n hN := by
  have h10 := h.1.1.2.1
  have g : ∀ i, i ≠ 67 + 10 * c + o → upd Y (67 + 10 * c + o) v i = Y i := fun i hi => upd_ne _ _ hi
  refine ⟨yk_like h.1 hc ho v, h.2.1.t2 (fun d hd => g _ (by omega)) (fun k hk => ⟨g _ (by omega), g _ (by omega)⟩), h.2.2.t2 h.1.t4 (fun d hd => g _ (by omega)) (fun d hd => ?_) (fun d h1 h2 => g _ (by omega)) (fun i hi => g _ (by omega))⟩
  by_cases z : 67 + 10 * d + d = 67 + 10 * c + o
  · rw [z, upd_eq, hv (by omega), ← z]; exact (h.2.2.2.1 d hd).symm
  · exact g _ z
theorem iv_slp {M : Mm} {s c n hN z : Nat} (hn : n ≤ 10) (hc : c < 10) : ∀ (k q : Nat) (Z : Nat → Int32), q + k ≤ n → yInv Z n hN → yInv (slpG M s c n z k q Z).2 n hN
  | 0, _, _, _, h => h
  | k + 1, q, Z, hq, h => by
    unfold slpG
    split
    · exact iv_slp hn hc k (q + 1) _ (by omega) (iv_like h hc (by omega) (fun e => if_pos e.symm))
    · exact h
theorem i_slips {Y : Nat → Int32} {n hN : Nat} (h : yInv Y n hN) (M : Mm) (sheet child : Int32) : yInv (slipsS Y M n sheet child).2.2 n hN := by
  have h10 := h.1.1.2.1
  unfold slipsS
  by_cases h1 : nI 0 ≤ sheet ∧ sheet ≤ nI 3
  · rw [if_pos h1]
    by_cases h2 : nI 0 ≤ child ∧ child ≤ Y 0 - nI 1
    · rw [if_pos h2]
      obtain ⟨c, hc, rfl⟩ := is_natB h.1.1.1 (by omega) h2
      split
      · exact h
      · exact iv_slp h10 (by rw [nI_clamp (by omega)]; omega) n 0 Y (by omega) h
    · rw [if_neg h2]; exact h
  · rw [if_neg h1]; exact h
/-- the sheets alone -/
abbrev shE (A B : Mm) : Prop := A 217 = B 217 ∧ A 218 = B 218 ∧ A 219 = B 219
theorem slp_cg {A B : Mm} (h : shE A B) (s c n z : Nat) : ∀ (k q : Nat) (Z : Nat → Int32), slpG A s c n z k q Z = slpG B s c n z k q Z
  | 0, _, _ => rfl
  | k + 1, q, Z => by
    unfold slpG
    rw [h.2.2]
    split
    · exact slp_cg h s c n z k _ _
    · rfl
theorem flm_cg {A B : Mm} (h : shE A B) (Q : Nat → Int32) (s z : Nat) : ∀ (k c : Nat), flmG A Q s z k c = flmG B Q s z k c
  | 0, _ => rfl
  | k + 1, c => by
    unfold flmG
    rw [h.2.2]
    split
    · exact flm_cg h Q s z k _
    · rfl
theorem slips_cg {A B : Mm} (h : shE A B) (Y : Nat → Int32) (n : Nat) (sheet child : Int32) : slipsS Y A n sheet child = slipsS Y B n sheet child := by
  unfold slipsS zS
  rw [h.1, h.2.1, slp_cg h]
theorem film_cg {A B : Mm} (h : shE A B) (Y : Nat → Int32) (n hN : Nat) (sheet k : Int32) : filmS Y A n hN sheet k = filmS Y B n hN sheet k := by
  unfold filmS zS
  rw [h.1, h.2.1, flm_cg h]
abbrev shG (M : Mm) : Prop := shOk M ∧ wOk M
theorem shG.of {A B : Mm} (h : shG A) (h1 : B 217 = A 217) (h2 : B 218 = A 218) : shG B := ⟨fun s hs => by rw [h2]; exact h.1 s hs, fun s hs => by rw [h1]; exact h.2 s hs⟩
abbrev o4E (p q : O4) : Prop := p.1 = q.1 ∧ p.2.1 = q.2.1 ∧ shE p.2.2 q.2.2
theorem o4E_ite {c : Prop} [Decidable c] {a b a' b' : O4} (h1 : c → o4E a a') (h2 : ¬ c → o4E b b') : o4E (if c then a else b) (if c then a' else b') := by
  by_cases h : c
  · rw [if_pos h, if_pos h]; exact h1 h
  · rw [if_neg h, if_neg h]; exact h2 h
theorem o4E_e4 {A B : Mm} (h : shE A B) (k : Nat) : o4E (e4 k A) (e4 k B) := ⟨rfl, rfl, h⟩
theorem sht_7 (R : Mm) (s : Nat) (b z : Int32) : shtX R s b z 24 217 = upd (R 217) s b := by unfold shtX; rw [upA_ne _ _ (by decide), up2_ne _ _ _ (by decide), up2_eq]
theorem sht_8 (R : Mm) (s : Nat) (b z : Int32) : shtX R s b z 24 218 = upd (R 218) s z := by unfold shtX; rw [upA_ne _ _ (by decide), up2_eq, up2_ne _ _ _ (by decide)]
theorem sht_9 (R : Mm) (s : Nat) (b z : Int32) : shtX R s b z 24 219 = zrN R s 24 := by unfold shtX; rw [upA_eq]
theorem sht_cg {A B : Mm} (h : shE A B) (s : Nat) (b z : Int32) : shE (shtX A s b z 24) (shtX B s b z 24) := ⟨by rw [sht_7, sht_7, h.1], by rw [sht_8, sht_8, h.2.1], by rw [sht_9, sht_9]; funext i; unfold zrN; rw [h.2.2]⟩
theorem sheet_cg {A B : Mm} (h : shE A B) (sheet bits n : Int32) : o4E (sheetS A sheet bits n) (sheetS B sheet bits n) := by
  unfold sheetS
  refine o4E_ite (fun _ => ?_) (fun _ => o4E_e4 h 1)
  refine o4E_ite (fun _ => ⟨rfl, rfl, sht_cg h _ _ _⟩) (fun _ => ?_)
  refine o4E_ite (fun _ => ?_) (fun _ => o4E_e4 h 1)
  refine o4E_ite (fun _ => ?_) (fun _ => o4E_e4 h 3)
  exact o4E_ite (fun _ => ⟨rfl, rfl, sht_cg h _ _ _⟩) (fun _ => o4E_e4 h 1)
theorem up_cg {A B : Mm} (h : shE A B) (i : Nat) (v : Int32) : shE (up2 A 219 i v) (up2 B 219 i v) := ⟨by rw [up2_ne _ _ _ (by decide), up2_ne _ _ _ (by decide)]; exact h.1, by rw [up2_ne _ _ _ (by decide), up2_ne _ _ _ (by decide)]; exact h.2.1, by rw [up2_eq, up2_eq, h.2.2]⟩
theorem upA_cg {A B : Mm} (h : shE A B) {g g' : Nat → Int32} (e : g = g') : shE (upA A 219 g) (upA B 219 g') := ⟨by rw [upA_ne _ _ (by decide), upA_ne _ _ (by decide)]; exact h.1, by rw [upA_ne _ _ (by decide), upA_ne _ _ (by decide)]; exact h.2.1, by rw [upA_eq, upA_eq, e]⟩
theorem g_up {M : Mm} (h : shG M) (i : Nat) (v : Int32) : shG (up2 M 219 i v) := h.of (up2_ne _ _ _ (by decide)) (up2_ne _ _ _ (by decide))
theorem g_upA {M : Mm} (h : shG M) (g : Nat → Int32) : shG (upA M 219 g) := h.of (upA_ne _ _ (by decide)) (upA_ne _ _ (by decide))
theorem put_cg {A B : Mm} (h : shE A B) (sheet i v : Int32) : o4E (putS A sheet i v) (putS B sheet i v) := by
  unfold putS
  rw [h.1, h.2.1]
  refine o4E_ite (fun _ => ?_) (fun _ => o4E_e4 h 1)
  refine o4E_ite (fun _ => o4E_e4 h 2) (fun _ => ?_)
  exact o4E_ite (fun _ => ⟨rfl, rfl, up_cg h _ _⟩) (fun _ => o4E_e4 h 1)
theorem mvF_cg {A B : Mm} (h : shE A B) (s a o b k : Nat) : mvF A s a o b k = mvF B s a o b k := by
  funext i; unfold mvF; rw [h.2.2]
theorem move_cg {A B : Mm} (h : shE A B) (sheet i other j n : Int32) : o4E (moveS A sheet i other j n) (moveS B sheet i other j n) := by
  unfold moveS zS
  rw [h.1, h.2.1]
  refine o4E_ite (fun _ => ?_) (fun _ => o4E_e4 h 1)
  refine o4E_ite (fun _ => ?_) (fun _ => o4E_e4 h 1)
  refine o4E_ite (fun _ => o4E_e4 h 2) (fun _ => ?_)
  refine o4E_ite (fun _ => o4E_e4 h 2) (fun _ => ?_)
  refine o4E_ite (fun _ => ?_) (fun _ => o4E_e4 h 5)
  refine o4E_ite (fun _ => o4E_e4 h 1) (fun _ => ?_)
  refine o4E_ite (fun _ => o4E_e4 h 1) (fun _ => ?_)
  refine o4E_ite (fun _ => o4E_e4 h 1) (fun _ => ?_)
  refine o4E_ite (fun _ => ?_) (fun _ => o4E_e4 h 1)
  exact o4E_ite (fun _ => ⟨rfl, rfl, upA_cg h (mvF_cg h _ _ _ _ _)⟩) (fun _ => o4E_e4 h 1)
theorem g_sht {M : Mm} (h : shG M) {s : Nat} {b z : Int32} (hb : b = 0 ∨ b = nI 8 ∨ b = nI 16 ∨ b = nI 32) (hz : ∃ q, q ≤ 24 ∧ z = nI q) : shG (shtX M s b z 24) := by
  refine ⟨fun q hq => ?_, fun q hq => ?_⟩
  · rw [sht_8]
    by_cases e : q = s
    · subst e; rw [upd_eq]; exact hz
    · rw [upd_ne _ _ e]; exact h.1 q hq
  · rw [sht_7]
    by_cases e : q = s
    · subst e; rw [upd_eq]; exact hb
    · rw [upd_ne _ _ e]; exact h.2 q hq
theorem o4_ite {P : Mm → Prop} {c : Prop} [Decidable c] {a b : O4} (h1 : c → P a.2.2) (h2 : ¬ c → P b.2.2) : P (if c then a else b).2.2 := by
  by_cases h : c
  · rw [if_pos h]; exact h1 h
  · rw [if_neg h]; exact h2 h
theorem g_sheet {M : Mm} (h : shG M) (sheet bits n : Int32) : shG (sheetS M sheet bits n).2.2 := by
  unfold sheetS
  refine o4_ite (P := shG) (fun _ => ?_) (fun _ => h)
  refine o4_ite (P := shG) (fun hb => g_sht h (Or.inl hb) ⟨0, by decide, rfl⟩) (fun _ => ?_)
  refine o4_ite (P := shG) (fun hb => ?_) (fun _ => h)
  refine o4_ite (P := shG) (fun h0 => ?_) (fun _ => h)
  refine o4_ite (P := shG) (fun h1 => ?_) (fun _ => h)
  exact g_sht h (Or.inr hb) (within_nat (by decide) ⟨by rw [nI_0]; exact h0, h1⟩)
theorem g_put {M : Mm} (h : shG M) (sheet i v : Int32) : shG (putS M sheet i v).2.2 := by
  unfold putS
  refine o4_ite (P := shG) (fun _ => ?_) (fun _ => h)
  refine o4_ite (P := shG) (fun _ => h) (fun _ => ?_)
  exact o4_ite (P := shG) (fun _ => g_up h _ _) (fun _ => h)
theorem g_move {M : Mm} (h : shG M) (sheet i other j n : Int32) : shG (moveS M sheet i other j n).2.2 := by
  unfold moveS
  refine o4_ite (P := shG) (fun _ => ?_) (fun _ => h)
  refine o4_ite (P := shG) (fun _ => ?_) (fun _ => h)
  refine o4_ite (P := shG) (fun _ => h) (fun _ => ?_)
  refine o4_ite (P := shG) (fun _ => h) (fun _ => ?_)
  refine o4_ite (P := shG) (fun _ => ?_) (fun _ => h)
  refine o4_ite (P := shG) (fun _ => h) (fun _ => ?_)
  refine o4_ite (P := shG) (fun _ => h) (fun _ => ?_)
  refine o4_ite (P := shG) (fun _ => h) (fun _ => ?_)
  refine o4_ite (P := shG) (fun _ => ?_) (fun _ => h)
  exact o4_ite (P := shG) (fun _ => g_upA h _) (fun _ => h)

