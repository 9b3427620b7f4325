theorem msk_bit2 (Y : Nat → Int32) (x : Int32) (n o : Nat) : ((mskA Y x n).testBit o = true ↔ (o < n ∧ Y (7 + 6 * o + 4) = x)) := by
  by_cases h : o < n
  · rw [msk_bit Y x n o h]; exact ⟨fun q => ⟨h, q⟩, fun q => q.2⟩
  · rw [Nat.testBit_lt_two_pow (Nat.lt_of_lt_of_le (mskA_lt Y x n) (Nat.pow_le_pow_right (by decide) (Nat.not_lt.mp h)))]
    exact ⟨fun q => Bool.noConfusion q, fun q => absurd q.1 h⟩
theorem msk_ext {Y : Nat → Int32} {x : Int32} {n m : Nat} (h : ∀ o, (Nat.testBit m o = true ↔ (o < n ∧ Y (7 + 6 * o + 4) = x))) : mskA Y x n = m := by
  apply Nat.eq_of_testBit_eq
  intro o
  rw [Bool.eq_iff_iff, msk_bit2, h o]
theorem msk_congr {Y Y' : Nat → Int32} {x : Int32} {n : Nat} (h : ∀ c, c < n → Y' (7 + 6 * c + 4) = Y (7 + 6 * c + 4)) : mskA Y' x n = mskA Y x n := by
  apply msk_ext
  intro o
  rw [msk_bit2]
  exact ⟨fun q => ⟨q.1, (h o q.1).trans q.2⟩, fun q => ⟨q.1, (h o q.1).symm.trans q.2⟩⟩
theorem gA_at (Y : Nat → Int32) (c o : Nat) (x : Int32) : gA Y c x (7 + 6 * o + 4) = if o = c then x else Y (7 + 6 * o + 4) := by
  unfold gA upd
  by_cases h : o = c
  · subst h; rw [if_pos rfl, if_pos rfl]
  · rw [if_neg (by omega), if_neg h]
theorem msk_go_same {Y : Nat → Int32} {n c : Nat} {x z : Int32} (h1 : ¬ z = x) (h2 : ¬ Y (7 + 6 * c + 4) = z) : mskA (gA Y c x) z n = mskA Y z n := by
  apply msk_ext
  intro o
  rw [msk_bit2, gA_at]
  by_cases h : o = c
  · subst h; rw [if_pos rfl]; exact ⟨fun q => absurd q.2 h2, fun q => absurd q.2.symm h1⟩
  · rw [if_neg h]
theorem msk_go_in {Y : Nat → Int32} {n c : Nat} {x : Int32} (hc : c < n) : mskA (gA Y c x) x n = mskA Y x n ||| 2 ^ c := by
  apply msk_ext
  intro o
  rw [Nat.testBit_or, Bool.or_eq_true, msk_bit2, gA_at, Nat.testBit_two_pow, decide_eq_true_eq]
  by_cases h : o = c
  · subst h; rw [if_pos rfl]; exact ⟨fun _ => ⟨hc, rfl⟩, fun _ => Or.inr rfl⟩
  · rw [if_neg h]; exact ⟨fun q => q.elim id (fun z => absurd z.symm h), fun q => Or.inl q⟩
theorem bit_1023 : ∀ c, c < 10 → ∀ o, o < 10 → (Nat.testBit (1023 - 2 ^ c) o = decide (o ≠ c)) := by decide +kernel
theorem msk_go_out {Y : Nat → Int32} {n c : Nat} {x z : Int32} (hn : n ≤ 10) (hc : c < n) (h1 : ¬ z = x) : mskA (gA Y c x) z n = mskA Y z n &&& (1023 - 2 ^ c) := by
  apply msk_ext
  intro o
  rw [Nat.testBit_and, Bool.and_eq_true, msk_bit2, gA_at]
  by_cases ho : o < 10
  · rw [bit_1023 c (by omega) o ho, decide_eq_true_eq]
    by_cases h : o = c
    · subst h; rw [if_pos rfl]; exact ⟨fun q => absurd rfl q.2, fun q => absurd q.2.symm h1⟩
    · rw [if_neg h]; exact ⟨fun q => q.1, fun q => ⟨q, h⟩⟩
  · exact ⟨fun q => absurd q.1.1 (by omega), fun q => absurd q.1 (by omega)⟩
theorem fewV_congr {Y Y' : Nat → Int32} {n h : Nat} {v : Int32} (ha : ∀ c, c < n → Y' (7 + 6 * c + 4) = Y (7 + 6 * c + 4)) (hl : Y' (167 + 4 * h + 0) = Y (167 + 4 * h + 0)) : fewV Y' n h v = fewV Y n h v := by
  unfold fewV popA
  rw [msk_congr ha, hl]
theorem gB_ap (Z : Nat → Int32) (c : Nat) (i : Nat) : ∀ k, gB Z c k i = if 187 + 5 * c ≤ i ∧ i < 187 + 5 * c + k then nI 0 else Z i
  | 0 => by rw [if_neg (by omega)]; rfl
  | k + 1 => by
    unfold gB upd
    rw [gB_ap Z c i k]
    by_cases h : i = 187 + 5 * c + k
    · rw [if_pos h, if_pos (by omega)]
    · rw [if_neg h]
      by_cases h2 : 187 + 5 * c ≤ i ∧ i < 187 + 5 * c + k
      · rw [if_pos h2, if_pos (by omega)]
      · rw [if_neg h2, if_neg (by omega)]
theorem gC_ap (n : Nat) (hn : n ≤ 10) (Z : Nat → Int32) : ∀ k i, gC n Z k i = if 167 ≤ i ∧ i < 167 + 4 * k ∧ (i - 167) % 4 = 3 then fewV Z n ((i - 167) / 4) (Z i) else Z i
  | 0, i => by rw [if_neg (by omega)]; rfl
  | k + 1, i => by
    unfold gC upd
    by_cases h : i = 167 + 4 * k + 3
    · rw [if_pos h, if_pos (by omega), gC_ap n hn Z k (167 + 4 * k + 3), if_neg (by omega), h, show (167 + 4 * k + 3 - 167) / 4 = k by omega]
      exact fewV_congr (fun c hc => gC_lo _ _ (by omega) _) (by rw [gC_ap n hn Z k, if_neg (by omega)])
    · rw [if_neg h, gC_ap n hn Z k i]
      by_cases h2 : 167 ≤ i ∧ i < 167 + 4 * k ∧ (i - 167) % 4 = 3
      · rw [if_pos h2, if_pos (by omega)]
      · rw [if_neg h2, if_neg (by omega)]
theorem goes_ap (Y : Nat → Int32) {n hN c : Nat} (x : Int32) (hn : n ≤ 10) (hc : c < 10) (h5 : hN ≤ 5) (i : Nat) : goesS Y n hN c x i = if i = 7 + 6 * c + 4 then x else if 187 + 5 * c ≤ i ∧ i < 187 + 5 * c + 5 then nI 0 else if 167 ≤ i ∧ i < 167 + 4 * hN ∧ (i - 167) % 4 = 3 then fewV (gA Y c x) n ((i - 167) / 4) (Y i) else Y i := by
  unfold goesS
  rw [gC_ap n hn, gB_ap]
  have hA : ∀ j, j ≠ 7 + 6 * c + 4 → gA Y c x j = Y j := fun j hj => upd_ne _ _ hj
  by_cases h1 : i = 7 + 6 * c + 4
  · rw [if_pos h1, if_neg (by omega), if_neg (by omega), h1]; exact upd_eq _ _ _
  · rw [if_neg h1]
    by_cases h2 : 187 + 5 * c ≤ i ∧ i < 187 + 5 * c + 5
    · rw [if_pos h2, if_neg (by omega), if_pos h2]
    · rw [if_neg h2, if_neg h2, hA i h1]
      by_cases h3 : 167 ≤ i ∧ i < 167 + 4 * hN ∧ (i - 167) % 4 = 3
      · rw [if_pos h3, if_pos h3]
        exact fewV_congr (fun c' hc' => gB_lo _ _ (by omega) _) (by rw [gB_ap, if_neg (by omega)])
      · rw [if_neg h3, if_neg h3]
theorem fewV_0 (Z : Nat → Int32) (n h : Nat) : fewV Z n h (nI 0) = nI 0 := by
  unfold fewV
  split <;> rfl
/-- what the class leaves unsaid of Y -/
def few0 (Y : Nat → Int32) (n : Nat) : Prop := ∀ k, k < 5 → ¬ fewP Y n k → Y (167 + 4 * k + 3) = nI 0
theorem msk_0 {Y : Nat → Int32} {n : Nat} {x : Int32} (h : ∀ c, c < n → ¬ Y (7 + 6 * c + 4) = x) : mskA Y x n = 0 := msk_ext fun o => by
  rw [Nat.zero_testBit]; exact ⟨fun q => Bool.noConfusion q, fun q => absurd q.2 (h o q.1)⟩
theorem pop_pos : ∀ m, m < 1024 → (m ≠ 0 ↔ ¬ nI (popN m) ≤ 0) := by decide +kernel
theorem few_0m {Y : Nat → Int32} {n k : Nat} (h : mskA Y (nI k) n = 0) : ¬ fewP Y n k := fun q => q.1 (by
  unfold popA; rw [h]; decide)
theorem nI_inj5 {a b : Nat} (ha : a < 5) (hb : b < 5) (h : nI a = nI b) : a = b := (nI_eq (by omega) (by omega)).mp h
theorem nI_m1 : ∀ k, k < 5 → ¬ nI k = -1 := by decide +kernel
theorem msk_out {Y : Nat → Int32} {n hN k : Nat} (hY : YOk Y n hN) (hk : hN ≤ k) (hk5 : k < 5) : mskA Y (nI k) n = 0 := msk_0 fun c hc q => by
  have h5 := hY.1.2.2.2
  rcases hY.2.2.1 c hc with h | ⟨h, hh, h2⟩
  · exact nI_m1 k hk5 (q.symm.trans h)
  · have := nI_inj5 hk5 (by omega) (q.symm.trans h2); omega
theorem goes_few {Y : Nat → Int32} {n hN c : Nat} {x : Int32} (hY : YOk Y n hN) (hI : few0 Y n) (hc : c < 10) {k : Nat} (hk : k < 5) : goesS Y n hN c x (167 + 4 * k + 3) = fewV (gA Y c x) n k (Y (167 + 4 * k + 3)) := by
  rw [goes_ap Y x hY.1.2.1 hc hY.1.2.2.2, if_neg (by omega), if_neg (by omega)]
  by_cases h : k < hN
  · rw [if_pos (by omega), show (167 + 4 * k + 3 - 167) / 4 = k by omega]
  · rw [if_neg (by omega), hI k hk (few_0m (msk_out hY (by omega) hk)), fewV_0]
theorem chg_ne {M : Mm} {k m a : Nat} (h : a ≠ k) : chgM M k m a = M a := by
  unfold chgM
  split
  · exact up2_ne _ _ _ h
  · rw [up2_ne _ _ _ h, up2_ne _ _ _ h]
theorem chg_3 (M : Mm) (k m : Nat) : chgM M k m k 3 = nI m := by
  unfold chgM
  split
  · exact up2_at _ _ _ _
  · rw [up2_at_ne _ _ (by decide), up2_at]
theorem chg_4 (M : Mm) (k m : Nat) : chgM M k m k 4 = if tooFew M k m then M k 4 else nI 0 := by
  unfold chgM
  by_cases h : tooFew M k m
  · rw [if_pos h, if_pos h, up2_at_ne _ _ (by decide)]
  · rw [if_neg h, if_neg h, up2_at]
theorem chg_o (M : Mm) (k m : Nat) {j : Nat} (h3 : j ≠ 3) (h4 : j ≠ 4) : chgM M k m k j = M k j := by
  unfold chgM
  split
  · exact up2_at_ne _ _ h3
  · rw [up2_at_ne _ _ h4, up2_at_ne _ _ h3]
/-- a heap's cell behind a child's going -/
def hpOk (M M1 : Mm) (y : Nat) (Y Z : Nat → Int32) (n q : Nat) : Prop := (∀ j, j ≠ 3 → j ≠ 4 → M1 (y + 50 + q) j = M (y + 50 + q) j) ∧ M1 (y + 50 + q) 3 = nI (mskA Z (nI q) n) ∧ M1 (y + 50 + q) 4 = fewV Z n q (Y (167 + 4 * q + 3))
theorem hp_same {M M1 : Mm} {y n hN : Nat} {Y Z : Nat → Int32} (hR : YR M y Y n hN) (hI : few0 Y n) {q : Nat} (hq : q < 5) (hm : mskA Z (nI q) n = mskA Y (nI q) n) (hl : Z (167 + 4 * q + 0) = Y (167 + 4 * q + 0)) (h1 : M1 (y + 50 + q) = M (y + 50 + q)) : hpOk M M1 y Y Z n q := by
  refine ⟨fun j _ _ => congrFun h1 j, ?_, ?_⟩
  · rw [h1, hm]; exact hR.ins hq
  · rw [h1, (hR.hp hq).2.2.1]
    unfold fewV popA
    rw [hm, hl]
    by_cases h : fewP Y n q
    · exact (if_pos h).symm
    · exact (hI q hq h).trans (if_neg h).symm
theorem hp_chg {M M0 M1 : Mm} {y n hN : Nat} {Y Z : Nat → Int32} (hR : YR M y Y n hN) (hn : n ≤ 10) {q m : Nat} (hq : q < 5) (hm : mskA Z (nI q) n = m) (hl : Z (167 + 4 * q + 0) = Y (167 + 4 * q + 0)) (h0 : M0 (y + 50 + q) = M (y + 50 + q)) (h1 : M1 (y + 50 + q) = chgM M0 (y + 50 + q) m (y + 50 + q)) : hpOk M M1 y Y Z n q := by
  refine ⟨fun j h3 h4 => ?_, ?_, ?_⟩
  · rw [h1, chg_o _ _ _ h3 h4, h0]
  · rw [h1, chg_3, hm]
  · have e0 : M0 (y + 50 + q) 4 = Y (167 + 4 * q + 3) := (congrFun h0 4).trans (hR.hp hq).2.2.1
    rw [h1, chg_4, e0]
    have e : tooFew M0 (y + 50 + q) m ↔ (¬ nI (popA Z n (nI q)) ≤ 0 ∧ nI (popA Z n (nI q)) < Z (167 + 4 * q + 0)) := by
      unfold tooFew popA
      rw [hm, h0, (hR.hp hq).1, hl, pop_pos m (by rw [← hm]; exact msk_1024 _ _ hn)]
    unfold fewV
    by_cases h : tooFew M0 (y + 50 + q) m
    · rw [if_pos h, if_pos (e.mp h)]
    · rw [if_neg h, if_neg (fun z => h (e.mpr z))]
def goM (M1 : Mm) (y c : Nat) (x : Int32) : Mm := upA (up2 M1 (y + 20 + 3 * c) 4 x) (y + 20 + 3 * c + 2) (fun _ => nI 0)
theorem YR.goes {M M1 : Mm} {y n hN c : Nat} {Y : Nat → Int32} {x : Int32} (hR : YR M y Y n hN) (hY : YOk Y n hN) (hI : few0 Y n) (hc : c < n) (p1 : ∀ a, (a < y + 50 ∨ y + 55 ≤ a) → M1 a = M a) (p4 : ∀ q, q < 5 → hpOk M M1 y Y (gA Y c x) n q) : YP M y (goesS Y n hN c x) n hN (goM M1 y c x) := by
  have hn := hY.1.2.1
  have h5 := hY.1.2.2.2
  have hc1 : c < 10 := by omega
  obtain ⟨t, ht, ht2⟩ := hY.2.2.2.2.1
  obtain ⟨v, hv, hv2⟩ := hY.2.2.2.2.2
  have gp := goes_ap Y x hn hc1 h5
  have g0 : ∀ i, (i < 167 ∧ i ≠ 7 + 6 * c + 4) ∨ 237 ≤ i ∨ (167 ≤ i ∧ i < 187 ∧ (i - 167) % 4 ≠ 3) → goesS Y n hN c x i = Y i := fun i hi => by
    rw [gp, if_neg (by omega), if_neg (by omega), if_neg (by omega)]
  have q1 : ∀ a, a ≠ y + 20 + 3 * c → a ≠ y + 20 + 3 * c + 2 → (a < y + 50 ∨ y + 55 ≤ a) → goM M1 y c x a = M a := fun a h1 h2 h3 => by
    unfold goM; rw [upA_ne _ _ h2, up2_ne _ _ _ h1, p1 a h3]
  have q2 : ∀ j, goM M1 y c x (y + 20 + 3 * c) j = if j = 4 then x else M (y + 20 + 3 * c) j := fun j => by
    unfold goM; rw [upA_ne _ _ (by omega), up2_ap, p1 _ (by omega)]
    by_cases h : j = 4
    · rw [if_pos ⟨rfl, h⟩, if_pos h]
    · rw [if_neg (fun q => h q.2), if_neg h]
  have q3 : ∀ k, k < 5 → goM M1 y c x (y + 50 + k) = M1 (y + 50 + k) := fun k hk => by
    unfold goM; rw [upA_ne _ _ (by omega), up2_ne _ _ _ (by omega)]
  have cn : ∀ i, 237 ≤ i ∨ i = 4 ∨ i = 5 → cN (goesS Y n hN c x) i = cN Y i := fun i hi => by unfold cN; rw [g0 i (by omega)]
  obtain ⟨⟨a1, a2, a3, a4, a5, a6, a7⟩, hb, hcc, hd, he, hf, hg, ⟨hh1, hh2⟩, hi⟩ := hR
  refine ⟨⟨⟨?_, ?_, ?_, ?_, ?_, ?_, ?_⟩, fun d q f q2' q3' => ?_, fun d q => ?_, fun d q o q2' => ?_, fun d q o q2' => ?_, fun k q => ⟨?_, ?_, ?_, ?_⟩, fun k q => ?_, ⟨fun k q => ?_, fun k q => ?_⟩, fun u q => ⟨?_, fun k q2' => ?_⟩⟩, ?_⟩
  · rw [q1 _ (by omega) (by omega) (by omega)]; exact a1
  · rw [q1 _ (by omega) (by omega) (by omega)]; exact a2
  · rw [q1 _ (by omega) (by omega) (by omega), g0 _ (by omega)]; exact a3
  · rw [q1 _ (by omega) (by omega) (by omega), g0 _ (by omega)]; exact a4
  · rw [q1 _ (by omega) (by omega) (by omega), g0 _ (by omega)]; exact a5
  · rw [q1 _ (by omega) (by omega) (by omega), g0 _ (by omega)]; exact a6
  · rw [q1 _ (by omega) (by omega) (by omega), g0 _ (by omega)]; exact a7
  · rw [g0 _ (by omega)]
    by_cases h : d = c
    · subst h; rw [q2, if_neg q3']; exact hb d q f q2' q3'
    · rw [q1 _ (by omega) (by omega) (by omega)]; exact hb d q f q2' q3'
  · by_cases h : d = c
    · subst h; rw [q2, if_pos rfl, if_pos hc, gp, if_pos rfl]
    · rw [q1 _ (by omega) (by omega) (by omega), g0 _ (by omega)]; exact hcc d q
  · rw [q1 _ (by omega) (by omega) (by omega), g0 _ (by omega)]; exact hd d q o q2'
  · by_cases h : d = c
    · subst h; rw [gp, if_neg (by omega), if_pos (by omega)]; unfold goM; rw [upA_eq]
    · rw [q1 _ (by omega) (by omega) (by omega), gp, if_neg (by omega), if_neg (by omega), if_neg (by omega)]; exact he d q o q2'
  · rw [q3 k q, (p4 k q).1 0 (by decide) (by decide), g0 _ (by omega)]; exact (hf k q).1
  · rw [q3 k q, (p4 k q).1 1 (by decide) (by decide), g0 _ (by omega)]; exact (hf k q).2.1
  · rw [q3 k q, (p4 k q).2.2, goes_few hY hI hc1 q]
  · rw [q3 k q, (p4 k q).1 2 (by decide) (by decide), g0 _ (by omega)]; exact (hf k q).2.2.2
  · rw [q3 k q, (p4 k q).2.1]
    congr 1
    refine msk_congr (fun d hd' => ?_)
    rw [gA_at, gp]
    by_cases h : d = c
    · subst h; rw [if_pos rfl, if_pos rfl]
    · rw [if_neg h, if_neg (by omega), if_neg (by omega), if_neg (by omega)]
  · rw [cn _ (by omega), cN_of ht2 (by omega)] at q; rw [q1 _ (by omega) (by omega) (by omega), g0 _ (by omega)]; exact hh1 k (by rw [cN_of ht2 (by omega)]; exact q)
  · rw [cn _ (by omega), cN_of hv2 (by omega)] at q; rw [q1 _ (by omega) (by omega) (by omega), g0 _ (by omega)]; exact hh2 k (by rw [cN_of hv2 (by omega)]; exact q)
  · rw [q1 _ (by omega) (by omega) (by omega), g0 _ (by omega)]; exact (hi u q).1
  · rw [cn _ (by omega)] at q2'; rw [q1 _ (by omega) (by omega) (by omega), cn _ (by omega)]; exact (hi u q).2 k q2'
  · intro a ha
    exact q1 a (by omega) (by omega) (by omega)
theorem or_1024 {m c : Nat} (hc : c < 10) (h : m < 1024) : m ||| 2 ^ c < 1024 := Nat.or_lt_two_pow (n := 10) h (Nat.pow_lt_pow_right (by decide) hc)
theorem or_sh {m c : Nat} (hc : c < 10) : nI m ||| (nI 1 <<< (nI c &&& 31)) = nI (m ||| 2 ^ c) := by
  show nI m ||| sh1 c = _
  rw [sh1_pow c hc, nI_or]
set_option maxHeartbeats 4000000 in
set_option maxRecDepth 100000 in
theorem y_place (l : Launch) (G : GC) (M : Mm) (y : Nat) (hy : yd y) (Y : Nat → Int32) (n hN : Nat) (hR : YR M y Y n hN) (hY : YOk Y n hN) (hI : few0 Y n) (c : Nat) (hc : c < n) (x : Int32) (hx : x = -1 ∨ ∃ k, k < hN ∧ x = nI k) (hne : ¬ Y (7 + 6 * c + 4) = x) : CV l G 5 yX8_place cX8_place 5 [.ref (gb G + y), .int (nI c), .int x] M (YP M y (goesS Y n hN c x) n hN) := by
  refine Con.of (by decide +kernel) (Nat.le_of_ble_eq_true rfl) ?_
  intro f C hRm hRt _
  have hyl : y + 60 < 221 := yd_lt hy (by decide)
  have hn2 := hY.1.2.1
  have h5 := hY.1.2.2.2
  rcases hx with rfl | ⟨k, hk, rfl⟩ <;> rcases hY.2.2.1 c hc with ha | ⟨a, hak, ha⟩
  · exact absurd ha hne
  · show Vc f G NPh M 0 [(0, .ref (gb G + y)), (1, .int (nI c)), (2, .int (-1))] []
    refine v_aload_n C 0 dX8_place_0 rfl ?_
    refine g_X8_11 C (show y < 221 from by omega) (s_y hy) dX8_place_1 ?_
    refine v_iload_n C 1 dX8_place_4 rfl ?_
    refine v_aald C rfl (show y + 1 < 221 from by omega) (s_y1 hy) (by decide) (by decide) (show c < 10 from by omega) (by decide) (y + 20 + 3 * c) (by simp only [aOff] <;> omega) dX8_place_5 ?_
    refine v_astore_n C [(3, .ref (gb G + (y + 20 + 3 * c))), (0, .ref (gb G + y)), (1, .int (nI c)), (2, .int (-1))] dX8_place_6 rfl (by decide) rfl ?_
    refine v_aload_n C 0 dX8_place_7 rfl ?_
    refine g_X8_82 C (show y + 20 + 3 * c < 221 from by omega) (s_ch hy (by omega)) dX8_place_8 ?_
    refine v_top (Y (7 + 6 * c + 4)) (hR.at (by omega) (by omega)) ?_
    refine v_top (nI a) (ha) ?_
    refine v_iconst C (-1) dX8_place_11 (by decide) ?_
    refine v_icmp_eq C 42 dX8_place_12 rfl (fun h_12 => ?_) (fun h_12 => ?_)
    · skip
      exact absurd h_12 (nI_m1 _ (by omega))
    · skip
      refine v_aload_n C 1 dX8_place_15 rfl ?_
      refine g_X8_19 C (show y < 221 from by omega) (s_y hy) dX8_place_16 ?_
      refine v_aload_n C 0 dX8_place_19 rfl ?_
      refine g_X8_82 C (show y + 20 + 3 * c < 221 from by omega) (s_ch hy (by omega)) dX8_place_20 ?_
      refine v_top (Y (7 + 6 * c + 4)) (hR.at (by omega) (by omega)) ?_
      refine v_top (nI a) (ha) ?_
      refine v_aald C rfl (show y + 2 < 221 from by omega) (s_y2 hy) (by decide) (by decide) (show a < 5 from by omega) (by decide) (y + 50 + a) (by simp only [aOff] <;> omega) dX8_place_23 ?_
      refine v_astore C [(4, .ref (gb G + (y + 50 + a))), (3, .ref (gb G + (y + 20 + 3 * c))), (0, .ref (gb G + y)), (1, .int (nI c)), (2, .int (-1))] dX8_place_24 (by decide) rfl ?_
      refine v_aload C 0 dX8_place_26 rfl ?_
      refine v_aload C 0 dX8_place_28 rfl ?_
      refine g_X8_91 C (show y + 50 + a < 221 from by omega) (s_hp hy (by omega)) dX8_place_30 ?_
      refine v_top (nI (mskA Y (nI a) n)) (hR.ins (by omega)) ?_
      refine v_iconst C (nI 1) dX8_place_33 (by decide) ?_
      refine v_iload_n C 3 dX8_place_34 rfl ?_
      refine v_ishl C dX8_place_35 ?_
      refine v_iconst C (-1) dX8_place_36 (by decide) ?_
      refine v_ixor C dX8_place_37 ?_
      refine v_iand C dX8_place_38 ?_
      refine v_top (nI (mskA Y (nI a) n &&& (1023 - 2 ^ c))) (oth_eq c (by omega) _ (msk_1024 _ _ hn2)) ?_
      refine n_callVv C hRm [.int (nI (mskA Y (nI a) n &&& (1023 - 2 ^ c)))] cw_X2_change ml_X8_94 (show y + 50 + a < 221 from by omega) (s_hp hy (by omega)) (by decide) rfl (h_change l G M (y + 50 + a) (show y + 50 + a < 221 from by omega) (s_hp hy (by omega)) (mskA Y (nI a) n &&& (1023 - 2 ^ c)) (by first | exact msk_1024 _ _ hn2 | exact and_1024 (msk_1024 _ _ hn2) | exact or_1024 (by omega) (msk_1024 _ _ hn2))) (by decide) rfl rfl (Nat.le_of_ble_eq_true rfl) dX8_place_39 (fun M1 hP_39 => ?_)
      subst hP_39
      refine v_iload_n C 4 dX8_place_42 rfl ?_
      refine v_iconst C (-1) dX8_place_43 (by decide) ?_
      refine v_icmp_eq C 69 dX8_place_44 rfl (fun h_44 => ?_) (fun h_44 => ?_)
      · skip
        refine v_aload_n C 1 dX8_place_69 rfl ?_
        refine v_iload_n C 4 dX8_place_70 rfl ?_
        refine p_X8_82 C (show y + 20 + 3 * c < 221 from by omega) (s_ch hy (by omega)) dX8_place_71 ?_
        refine v_aload_n C 1 dX8_place_74 rfl ?_
        refine g_X8_97 C (show y + 20 + 3 * c < 221 from by omega) (s_ch hy (by omega)) dX8_place_75 ?_
        refine v_iconst C (nI 0) dX8_place_78 (by decide) ?_
        refine n_callSv C hRm [.ref (gb G + (y + 20 + 3 * c + 2)), .int (nI 0)] cw_J7_fill_53178 st_J7_fill_53178 ml_X8_100 (j_fill l G (up2 (chgM M (y + 50 + a) (mskA Y (nI a) n &&& (1023 - 2 ^ c))) (y + 20 + 3 * c) 4 (-1)) (y + 20 + 3 * c + 2) 5 (show y + 20 + 3 * c + 2 < 221 from by omega) (s_wt hy (by omega)) (by decide)) (by decide) rfl rfl (Nat.le_of_ble_eq_true rfl) dX8_place_79 (fun M5 hP_79 => ?_)
        subst hP_79
        refine n_ret C hRt dX8_place_82 (YR.goes (M1 := chgM M (y + 50 + a) (mskA Y (nI a) n &&& (1023 - 2 ^ c))) hR hY hI hc (fun z hz => by rw [chg_ne (by omega)]) (fun q hq => ?_))
        by_cases hqa : q = a
        · subst hqa; exact hp_chg (M0 := M) hR hn2 hq (msk_go_out hn2 hc (nI_m1 _ hq)) (upd_ne _ _ (by omega)) rfl rfl
        · exact hp_same hR hI hq (msk_go_same (nI_m1 _ hq) (fun z => hqa (nI_inj5 hq (by omega) (z.symm.trans ha)))) (upd_ne _ _ (by omega)) (by rw [chg_ne (by omega)])
      · skip
        exact absurd rfl h_44
  · show Vc f G NPh M 0 [(0, .ref (gb G + y)), (1, .int (nI c)), (2, .int (nI k))] []
    refine v_aload_n C 0 dX8_place_0 rfl ?_
    refine g_X8_11 C (show y < 221 from by omega) (s_y hy) dX8_place_1 ?_
    refine v_iload_n C 1 dX8_place_4 rfl ?_
    refine v_aald C rfl (show y + 1 < 221 from by omega) (s_y1 hy) (by decide) (by decide) (show c < 10 from by omega) (by decide) (y + 20 + 3 * c) (by simp only [aOff] <;> omega) dX8_place_5 ?_
    refine v_astore_n C [(3, .ref (gb G + (y + 20 + 3 * c))), (0, .ref (gb G + y)), (1, .int (nI c)), (2, .int (nI k))] dX8_place_6 rfl (by decide) rfl ?_
    refine v_aload_n C 0 dX8_place_7 rfl ?_
    refine g_X8_82 C (show y + 20 + 3 * c < 221 from by omega) (s_ch hy (by omega)) dX8_place_8 ?_
    refine v_top (Y (7 + 6 * c + 4)) (hR.at (by omega) (by omega)) ?_
    refine v_top ((-1)) (ha) ?_
    refine v_iconst C (-1) dX8_place_11 (by decide) ?_
    refine v_icmp_eq C 42 dX8_place_12 rfl (fun h_12 => ?_) (fun h_12 => ?_)
    · skip
      refine v_iload_n C 3 dX8_place_42 rfl ?_
      refine v_iconst C (-1) dX8_place_43 (by decide) ?_
      refine v_icmp_eq C 69 dX8_place_44 rfl (fun h_44 => ?_) (fun h_44 => ?_)
      · skip
        exact absurd h_44 (nI_m1 _ (by omega))
      · skip
        refine v_aload_n C 1 dX8_place_47 rfl ?_
        refine g_X8_19 C (show y < 221 from by omega) (s_y hy) dX8_place_48 ?_
        refine v_iload_n C 3 dX8_place_51 rfl ?_
        refine v_aald C rfl (show y + 2 < 221 from by omega) (s_y2 hy) (by decide) (by decide) (show k < 5 from by omega) (by decide) (y + 50 + k) (by simp only [aOff] <;> omega) dX8_place_52 ?_
        refine v_aload_n C 1 dX8_place_53 rfl ?_
        refine g_X8_19 C (show y < 221 from by omega) (s_y hy) dX8_place_54 ?_
        refine v_iload_n C 3 dX8_place_57 rfl ?_
        refine v_aald C rfl (show y + 2 < 221 from by omega) (s_y2 hy) (by decide) (by decide) (show k < 5 from by omega) (by decide) (y + 50 + k) (by simp only [aOff] <;> omega) dX8_place_58 ?_
        refine g_X8_91 C (show y + 50 + k < 221 from by omega) (s_hp hy (by omega)) dX8_place_59 ?_
        refine v_top (nI (mskA Y (nI k) n)) (hR.ins (by omega)) ?_
        refine v_iconst C (nI 1) dX8_place_62 (by decide) ?_
        refine v_iload_n C 2 dX8_place_63 rfl ?_
        refine v_ishl C dX8_place_64 ?_
        refine v_ior C dX8_place_65 ?_
        refine v_top (nI (mskA Y (nI k) n ||| 2 ^ c)) (or_sh (by omega)) ?_
        refine n_callVv C hRm [.int (nI (mskA Y (nI k) n ||| 2 ^ c))] cw_X2_change ml_X8_94 (show y + 50 + k < 221 from by omega) (s_hp hy (by omega)) (by decide) rfl (h_change l G M (y + 50 + k) (show y + 50 + k < 221 from by omega) (s_hp hy (by omega)) (mskA Y (nI k) n ||| 2 ^ c) (by first | exact msk_1024 _ _ hn2 | exact and_1024 (msk_1024 _ _ hn2) | exact or_1024 (by omega) (msk_1024 _ _ hn2))) (by decide) rfl rfl (Nat.le_of_ble_eq_true rfl) dX8_place_66 (fun M1 hP_66 => ?_)
        subst hP_66
        refine v_aload_n C 0 dX8_place_69 rfl ?_
        refine v_iload_n C 3 dX8_place_70 rfl ?_
        refine p_X8_82 C (show y + 20 + 3 * c < 221 from by omega) (s_ch hy (by omega)) dX8_place_71 ?_
        refine v_aload_n C 0 dX8_place_74 rfl ?_
        refine g_X8_97 C (show y + 20 + 3 * c < 221 from by omega) (s_ch hy (by omega)) dX8_place_75 ?_
        refine v_iconst C (nI 0) dX8_place_78 (by decide) ?_
        refine n_callSv C hRm [.ref (gb G + (y + 20 + 3 * c + 2)), .int (nI 0)] cw_J7_fill_53178 st_J7_fill_53178 ml_X8_100 (j_fill l G (up2 (chgM M (y + 50 + k) (mskA Y (nI k) n ||| 2 ^ c)) (y + 20 + 3 * c) 4 (nI k)) (y + 20 + 3 * c + 2) 5 (show y + 20 + 3 * c + 2 < 221 from by omega) (s_wt hy (by omega)) (by decide)) (by decide) rfl rfl (Nat.le_of_ble_eq_true rfl) dX8_place_79 (fun M5 hP_79 => ?_)
        subst hP_79
        refine n_ret C hRt dX8_place_82 (YR.goes (M1 := chgM M (y + 50 + k) (mskA Y (nI k) n ||| 2 ^ c)) hR hY hI hc (fun z hz => by rw [chg_ne (by omega)]) (fun q hq => ?_))
        by_cases hqk : q = k
        · subst hqk; exact hp_chg (M0 := M) hR hn2 hq (msk_go_in hc) (upd_ne _ _ (by omega)) rfl rfl
        · exact hp_same hR hI hq (msk_go_same (fun z => hqk (nI_inj5 hq (by omega) z)) (fun z => nI_m1 _ hq (z.symm.trans ha))) (upd_ne _ _ (by omega)) (by rw [chg_ne (by omega)])
    · skip
      exact absurd rfl h_12
  · have hka : ¬ a = k := fun q => hne (by rw [ha, q])
    skip
    show Vc f G NPh M 0 [(0, .ref (gb G + y)), (1, .int (nI c)), (2, .int (nI k))] []
    refine v_aload_n C 0 dX8_place_0 rfl ?_
    refine g_X8_11 C (show y < 221 from by omega) (s_y hy) dX8_place_1 ?_
    refine v_iload_n C 1 dX8_place_4 rfl ?_
    refine v_aald C rfl (show y + 1 < 221 from by omega) (s_y1 hy) (by decide) (by decide) (show c < 10 from by omega) (by decide) (y + 20 + 3 * c) (by simp only [aOff] <;> omega) dX8_place_5 ?_
    refine v_astore_n C [(3, .ref (gb G + (y + 20 + 3 * c))), (0, .ref (gb G + y)), (1, .int (nI c)), (2, .int (nI k))] dX8_place_6 rfl (by decide) rfl ?_
    refine v_aload_n C 0 dX8_place_7 rfl ?_
    refine g_X8_82 C (show y + 20 + 3 * c < 221 from by omega) (s_ch hy (by omega)) dX8_place_8 ?_
    refine v_top (Y (7 + 6 * c + 4)) (hR.at (by omega) (by omega)) ?_
    refine v_top (nI a) (ha) ?_
    refine v_iconst C (-1) dX8_place_11 (by decide) ?_
    refine v_icmp_eq C 42 dX8_place_12 rfl (fun h_12 => ?_) (fun h_12 => ?_)
    · skip
      exact absurd h_12 (nI_m1 _ (by omega))
    · skip
      refine v_aload_n C 1 dX8_place_15 rfl ?_
      refine g_X8_19 C (show y < 221 from by omega) (s_y hy) dX8_place_16 ?_
      refine v_aload_n C 0 dX8_place_19 rfl ?_
      refine g_X8_82 C (show y + 20 + 3 * c < 221 from by omega) (s_ch hy (by omega)) dX8_place_20 ?_
      refine v_top (Y (7 + 6 * c + 4)) (hR.at (by omega) (by omega)) ?_
      refine v_top (nI a) (ha) ?_
      refine v_aald C rfl (show y + 2 < 221 from by omega) (s_y2 hy) (by decide) (by decide) (show a < 5 from by omega) (by decide) (y + 50 + a) (by simp only [aOff] <;> omega) dX8_place_23 ?_
      refine v_astore C [(4, .ref (gb G + (y + 50 + a))), (3, .ref (gb G + (y + 20 + 3 * c))), (0, .ref (gb G + y)), (1, .int (nI c)), (2, .int (nI k))] dX8_place_24 (by decide) rfl ?_
      refine v_aload C 0 dX8_place_26 rfl ?_
      refine v_aload C 0 dX8_place_28 rfl ?_
      refine g_X8_91 C (show y + 50 + a < 221 from by omega) (s_hp hy (by omega)) dX8_place_30 ?_
      refine v_top (nI (mskA Y (nI a) n)) (hR.ins (by omega)) ?_
      refine v_iconst C (nI 1) dX8_place_33 (by decide) ?_
      refine v_iload_n C 3 dX8_place_34 rfl ?_
      refine v_ishl C dX8_place_35 ?_
      refine v_iconst C (-1) dX8_place_36 (by decide) ?_
      refine v_ixor C dX8_place_37 ?_
      refine v_iand C dX8_place_38 ?_
      refine v_top (nI (mskA Y (nI a) n &&& (1023 - 2 ^ c))) (oth_eq c (by omega) _ (msk_1024 _ _ hn2)) ?_
      refine n_callVv C hRm [.int (nI (mskA Y (nI a) n &&& (1023 - 2 ^ c)))] cw_X2_change ml_X8_94 (show y + 50 + a < 221 from by omega) (s_hp hy (by omega)) (by decide) rfl (h_change l G M (y + 50 + a) (show y + 50 + a < 221 from by omega) (s_hp hy (by omega)) (mskA Y (nI a) n &&& (1023 - 2 ^ c)) (by first | exact msk_1024 _ _ hn2 | exact and_1024 (msk_1024 _ _ hn2) | exact or_1024 (by omega) (msk_1024 _ _ hn2))) (by decide) rfl rfl (Nat.le_of_ble_eq_true rfl) dX8_place_39 (fun M1 hP_39 => ?_)
      subst hP_39
      refine v_iload_n C 4 dX8_place_42 rfl ?_
      refine v_iconst C (-1) dX8_place_43 (by decide) ?_
      refine v_icmp_eq C 69 dX8_place_44 rfl (fun h_44 => ?_) (fun h_44 => ?_)
      · skip
        exact absurd h_44 (nI_m1 _ (by omega))
      · skip
        refine v_aload_n C 2 dX8_place_47 rfl ?_
        refine g_X8_19 C (show y < 221 from by omega) (s_y hy) dX8_place_48 ?_
        refine v_iload_n C 4 dX8_place_51 rfl ?_
        refine v_aald C rfl (show y + 2 < 221 from by omega) (s_y2 hy) (by decide) (by decide) (show k < 5 from by omega) (by decide) (y + 50 + k) (by simp only [aOff] <;> omega) dX8_place_52 ?_
        refine v_aload_n C 2 dX8_place_53 rfl ?_
        refine g_X8_19 C (show y < 221 from by omega) (s_y hy) dX8_place_54 ?_
        refine v_iload_n C 4 dX8_place_57 rfl ?_
        refine v_aald C rfl (show y + 2 < 221 from by omega) (s_y2 hy) (by decide) (by decide) (show k < 5 from by omega) (by decide) (y + 50 + k) (by simp only [aOff] <;> omega) dX8_place_58 ?_
        refine g_X8_91 C (show y + 50 + k < 221 from by omega) (s_hp hy (by omega)) dX8_place_59 ?_
        refine v_top (nI (mskA Y (nI k) n)) ((congrFun (chg_ne (by omega)) 3).trans (hR.ins (by omega))) ?_
        refine v_iconst C (nI 1) dX8_place_62 (by decide) ?_
        refine v_iload_n C 3 dX8_place_63 rfl ?_
        refine v_ishl C dX8_place_64 ?_
        refine v_ior C dX8_place_65 ?_
        refine v_top (nI (mskA Y (nI k) n ||| 2 ^ c)) (or_sh (by omega)) ?_
        refine n_callVv C hRm [.int (nI (mskA Y (nI k) n ||| 2 ^ c))] cw_X2_change ml_X8_94 (show y + 50 + k < 221 from by omega) (s_hp hy (by omega)) (by decide) rfl (h_change l G (chgM M (y + 50 + a) (mskA Y (nI a) n &&& (1023 - 2 ^ c))) (y + 50 + k) (show y + 50 + k < 221 from by omega) (s_hp hy (by omega)) (mskA Y (nI k) n ||| 2 ^ c) (by first | exact msk_1024 _ _ hn2 | exact and_1024 (msk_1024 _ _ hn2) | exact or_1024 (by omega) (msk_1024 _ _ hn2))) (by decide) rfl rfl (Nat.le_of_ble_eq_true rfl) dX8_place_66 (fun M1 hP_66 => ?_)
        subst hP_66
        refine v_aload_n C 1 dX8_place_69 rfl ?_
        refine v_iload_n C 4 dX8_place_70 rfl ?_
        refine p_X8_82 C (show y + 20 + 3 * c < 221 from by omega) (s_ch hy (by omega)) dX8_place_71 ?_
        refine v_aload_n C 1 dX8_place_74 rfl ?_
        refine g_X8_97 C (show y + 20 + 3 * c < 221 from by omega) (s_ch hy (by omega)) dX8_place_75 ?_
        refine v_iconst C (nI 0) dX8_place_78 (by decide) ?_
        refine n_callSv C hRm [.ref (gb G + (y + 20 + 3 * c + 2)), .int (nI 0)] cw_J7_fill_53178 st_J7_fill_53178 ml_X8_100 (j_fill l G (up2 (chgM (chgM M (y + 50 + a) (mskA Y (nI a) n &&& (1023 - 2 ^ c))) (y + 50 + k) (mskA Y (nI k) n ||| 2 ^ c)) (y + 20 + 3 * c) 4 (nI k)) (y + 20 + 3 * c + 2) 5 (show y + 20 + 3 * c + 2 < 221 from by omega) (s_wt hy (by omega)) (by decide)) (by decide) rfl rfl (Nat.le_of_ble_eq_true rfl) dX8_place_79 (fun M5 hP_79 => ?_)
        subst hP_79
        refine n_ret C hRt dX8_place_82 (YR.goes (M1 := chgM (chgM M (y + 50 + a) (mskA Y (nI a) n &&& (1023 - 2 ^ c))) (y + 50 + k) (mskA Y (nI k) n ||| 2 ^ c)) hR hY hI hc (fun z hz => by rw [chg_ne (by omega), chg_ne (by omega)]) (fun q hq => ?_))
        by_cases hqk : q = k
        · subst hqk; exact hp_chg hR hn2 hq (msk_go_in hc) (upd_ne _ _ (by omega)) (chg_ne (by omega)) rfl
        · by_cases hqa : q = a
          · subst hqa; exact hp_chg (M0 := M) hR hn2 hq (msk_go_out hn2 hc (fun z => hqk (nI_inj5 hq (by omega) z))) (upd_ne _ _ (by omega)) rfl (chg_ne (by omega))
          · exact hp_same hR hI hq (msk_go_same (fun z => hqk (nI_inj5 hq (by omega) z)) (fun z => hqa (nI_inj5 hq (by omega) (z.symm.trans ha)))) (upd_ne _ _ (by omega)) (by rw [chg_ne (by omega), chg_ne (by omega)])
