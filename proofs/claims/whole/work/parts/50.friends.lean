def bmk (p : Nat → Bool) : Nat → Nat
  | 0 => 0
  | o + 1 => bmk p o + (if p o = true then 2 ^ o else 0)
theorem bmk_lt (p : Nat → Bool) : ∀ n, bmk p n < 2 ^ n
  | 0 => Nat.zero_lt_one
  | c + 1 => by
    have h1 := bmk_lt p c
    have h2 : 2 ^ (c + 1) = 2 ^ c + 2 ^ c := by rw [Nat.pow_succ]; omega
    unfold bmk
    by_cases h3 : p c = true
    · rw [if_pos h3]; omega
    · rw [if_neg h3]; omega
theorem bmk_1024 (p : Nat → Bool) {n : Nat} (hn : n ≤ 10) : bmk p n < 1024 := Nat.lt_of_lt_of_le (bmk_lt p n) (Nat.pow_le_pow_right (by decide) hn)
theorem bmk_in (p : Nat → Bool) : ∀ n o, o < n → ((bmk p n).testBit o = true ↔ p o = true)
  | 0, o, h => absurd h (Nat.not_lt_zero o)
  | n + 1, o, h => by
    have hl := bmk_lt p n
    unfold bmk
    by_cases hc : p n = true
    · rw [if_pos hc, Nat.add_comm]
      by_cases he : o = n
      · subst he
        rw [Nat.testBit_two_pow_add_eq, Nat.testBit_lt_two_pow hl]
        exact ⟨fun _ => hc, fun _ => rfl⟩
      · rw [Nat.testBit_two_pow_add_gt (by omega)]
        exact bmk_in p n o (by omega)
    · rw [if_neg hc, Nat.add_zero]
      by_cases he : o = n
      · subst he
        rw [Nat.testBit_lt_two_pow hl]
        exact ⟨fun q => Bool.noConfusion q, fun q => absurd q hc⟩
      · exact bmk_in p n o (by omega)
theorem bmk_bit (p : Nat → Bool) (n o : Nat) : ((bmk p n).testBit o = true ↔ (o < n ∧ p o = true)) := by
  by_cases h : o < n
  · rw [bmk_in p n o h]; exact ⟨fun q => ⟨h, q⟩, fun q => q.2⟩
  · rw [Nat.testBit_lt_two_pow (Nat.lt_of_lt_of_le (bmk_lt p n) (Nat.pow_le_pow_right (by decide) (Nat.not_lt.mp h)))]
    exact ⟨fun q => Bool.noConfusion q, fun q => absurd q.1 h⟩
theorem bit_eq {a b : Nat} (h : ∀ o, (a.testBit o = true ↔ b.testBit o = true)) : a = b := Nat.eq_of_testBit_eq fun o => by
  rw [Bool.eq_iff_iff]; exact h o
def nmk (Y : Nat → Int32) (n c : Nat) : Nat → Nat := bmk (fun q => (slM Y n q).testBit c)
def mndM (Y : Nat → Int32) : Nat → Nat := bmk (fun q => decide (Y (7 + 6 * q + 3) = nI 1))
def slor (Y : Nat → Int32) (n : Nat) : Nat → Nat
  | 0 => 0
  | i + 1 => slor Y n i ||| slM Y n i
theorem bth_bmk (Y : Nat → Int32) (n c : Nat) : ∀ o, bthA Y n c o = bmk (fun q => (slM Y n c).testBit q && (slM Y n q).testBit c) o
  | 0 => rfl
  | o + 1 => by
    unfold bthA bmk
    rw [bth_bmk Y n c o]
    simp only [Bool.and_eq_true]
theorem both_bit (Y : Nat → Int32) (n c o : Nat) : ((bothM Y n c).testBit o = true ↔ (o < n ∧ (slM Y n c).testBit o = true ∧ (slM Y n o).testBit c = true)) := by
  unfold bothM
  rw [bth_bmk, bmk_bit, Bool.and_eq_true]
theorem both_and (Y : Nat → Int32) (n i : Nat) : slM Y n i &&& nmk Y n i n = bothM Y n i := bit_eq fun o => by
  rw [Nat.testBit_and, Bool.and_eq_true, both_bit]
  unfold nmk
  rw [bmk_bit]
  exact ⟨fun q => ⟨q.2.1, q.1, q.2.2⟩, fun q => ⟨q.2.1, q.1, q.2.2⟩⟩
theorem shl_0 : ∀ o, o < 10 → (0 : Int32) <<< (nI o &&& 31) = 0 := by decide +kernel
theorem bmk_or (p : Nat → Bool) {o : Nat} (ho : o < 10) {P : Prop} [Decidable P] (hP : P ↔ p o = true) : nI (bmk p o) ||| (b2i P <<< (nI o &&& 31)) = nI (bmk p (o + 1)) := by
  show nI (bmk p o) ||| ((if P then (1 : Int32) else 0) <<< (nI o &&& 31)) = nI (bmk p o + (if p o = true then 2 ^ o else 0))
  by_cases h : P
  · rw [if_pos h, if_pos (hP.mp h)]; exact or_bit o ho _ (bmk_lt p o)
  · rw [if_neg h, if_neg (fun q => h (hP.mpr q)), shl_0 o ho]; exact or_nI0 _
theorem pop_add : ∀ o, o < 10 → ∀ m, m < 2 ^ o → popN (m + 2 ^ o) = popN m + 1 := by decide +kernel
theorem pop_nmk (Y : Nat → Int32) (n c : Nat) : ∀ k, k ≤ 10 → popN (nmk Y n c k) = nmA Y n c k
  | 0, _ => by show popN 0 = 0; decide
  | k + 1, hk => by
    have ih := pop_nmk Y n c k (by omega)
    unfold nmk at ih ⊢
    unfold bmk nmA
    by_cases h : (slM Y n k).testBit c = true
    · rw [if_pos h, if_pos h, pop_add k (by omega) _ (bmk_lt _ k), ih]
    · rw [if_neg h, if_neg h]; exact ih
theorem mnd_bit (Y : Nat → Int32) (n o : Nat) : ((mndM Y n).testBit o = true ↔ (o < n ∧ Y (7 + 6 * o + 3) = nI 1)) := by
  unfold mndM
  rw [bmk_bit, decide_eq_true_eq]
/-- what the class's Friends hold of a yard -/
def frRep (M : Mm) (Y : Nat → Int32) (n : Nat) : Prop := M 184 0 = nI n ∧ M 184 1 = nI (mndM Y n) ∧ (∀ i, i < n → M 185 i = nI (slM Y n i)) ∧ ∀ i, i < n → M 186 i = nI (bothM Y n i)
abbrev frF (M M' : Mm) : Prop := ∀ a, a < 184 ∨ 187 ≤ a → M' a = M a
abbrev mind01 (Y : Nat → Int32) (n : Nat) : Prop := ∀ c, c < n → Y (7 + 6 * c + 3) = nI 0 ∨ Y (7 + 6 * c + 3) = nI 1
abbrev self0 (Y : Nat → Int32) : Prop := ∀ c, c < 10 → Y (67 + 10 * c + c) = nI 0
theorem mind_b {Y : Nat → Int32} {n c : Nat} (h : mind01 Y n) (hc : c < n) : Y (7 + 6 * c + 3) = b2i (Y (7 + 6 * c + 3) = nI 1) := by
  unfold b2i
  rcases h c hc with q | q
  · rw [if_neg (by rw [q]; decide), q]; decide
  · rw [if_pos q, q]; decide
def moB (Y : Nat → Int32) (c b : Nat) : Int32 := if b = 10 then nI 0 else Y (67 + 10 * c + b)
theorem sb_new {Y : Nat → Int32} {c m o b : Nat} (hb : b = sbA Y c m o) (hs : Y (67 + 10 * c + c) = nI 0) (hp : b = 10 ∨ ¬ Y (67 + 10 * c + b) ≤ 0) (h1 : ¬ m.testBit o = true) (h2 : ¬ Y (67 + 10 * c + o) ≤ moB Y c b) : sbA Y c m (o + 1) = o ∧ ¬ Y (67 + 10 * c + o) ≤ 0 := by
  have h3 : ¬ Y (67 + 10 * c + o) ≤ 0 := fun z => by
    rcases hp with e | e
    · subst e; exact h2 (by unfold moB; rw [if_pos rfl]; exact z)
    · by_cases e2 : b = 10
      · exact h2 (by unfold moB; rw [if_pos e2]; exact z)
      · exact h2 (by unfold moB; rw [if_neg e2]; exact Int32.le_trans z (Int32.le_of_lt (Int32.not_le.mp e)))
  refine ⟨?_, h3⟩
  unfold sbA
  rw [if_pos]
  refine ⟨⟨fun e => h3 (by rw [e, hs]; decide), h1, h3⟩, ?_⟩
  rw [← hb]
  by_cases e2 : b = 10
  · exact Or.inl e2
  · right
    unfold moB at h2
    rw [if_neg e2] at h2
    exact h2
theorem sb_bit {Y : Nat → Int32} {c m o : Nat} (h1 : m.testBit o = true) : sbA Y c m (o + 1) = sbA Y c m o := by
  show (if _ then _ else _) = _
  exact if_neg (fun q => q.1.2.1 h1)
theorem sb_old {Y : Nat → Int32} {c m o b : Nat} (hb : b = sbA Y c m o) (h2 : Y (67 + 10 * c + o) ≤ moB Y c b) : sbA Y c m (o + 1) = sbA Y c m o := by
  show (if _ then _ else _) = _
  refine if_neg (fun q => ?_)
  rw [← hb] at q
  unfold moB at h2
  by_cases e : b = 10
  · rw [if_pos e] at h2; exact q.1.2.2 h2
  · rw [if_neg e] at h2
    rcases q.2 with z | z
    · exact e z
    · exact z h2
-- the ring
def tI (Y : Nat → Int32) (n m : Nat) : Nat → Nat
  | 0 => m
  | o + 1 => tI Y n m o ||| (if (tI Y n m o).testBit o = true then bothM Y n o else 0)
def clI (Y : Nat → Int32) (n c : Nat) : Nat → Nat
  | 0 => 2 ^ c
  | k + 1 => tI Y n (clI Y n c k) n
theorem both_lt2 (Y : Nat → Int32) (n c : Nat) : bothM Y n c < 2 ^ n := bthA_lt Y n c n
theorem tI_lt {Y : Nat → Int32} {n m : Nat} (hm : m < 2 ^ n) : ∀ o, tI Y n m o < 2 ^ n
  | 0 => hm
  | o + 1 => by
    unfold tI
    refine Nat.or_lt_two_pow (tI_lt hm o) ?_
    split
    · exact both_lt2 Y n o
    · exact Nat.two_pow_pos n
theorem clI_lt {Y : Nat → Int32} {n c : Nat} (hc : c < n) : ∀ k, clI Y n c k < 2 ^ n
  | 0 => Nat.pow_lt_pow_right (by decide) hc
  | k + 1 => tI_lt (clI_lt hc k) n
abbrev sbs (a b : Nat) : Prop := ∀ o, a.testBit o = true → b.testBit o = true
theorem tI_up (Y : Nat → Int32) (n m : Nat) : ∀ o d, sbs (tI Y n m o) (tI Y n m (o + d))
  | _, 0 => fun _ h => h
  | o, d + 1 => fun q h => by
    show (tI Y n m (o + d + 1)).testBit q = true
    unfold tI
    rw [Nat.testBit_or, Bool.or_eq_true]
    exact Or.inl (tI_up Y n m o d q h)
/-- closed under what both name -/
def clo (Y : Nat → Int32) (n r : Nat) : Prop := ∀ o, o < n → r.testBit o = true → sbs (bothM Y n o) r
theorem tI_sub {Y : Nat → Int32} {n m r : Nat} (hr : clo Y n r) (hm : sbs m r) : ∀ o, o ≤ n → sbs (tI Y n m o) r
  | 0, _ => hm
  | o + 1, ho => fun q h => by
    unfold tI at h
    rw [Nat.testBit_or, Bool.or_eq_true] at h
    rcases h with h | h
    · exact tI_sub hr hm o (by omega) q h
    · by_cases e : (tI Y n m o).testBit o = true
      · rw [if_pos e] at h
        exact hr o (by omega) (tI_sub hr hm o (by omega) o e) q h
      · rw [if_neg e, Nat.zero_testBit] at h; cases h
theorem tI_clo {Y : Nat → Int32} {n m : Nat} (h : tI Y n m n = m) : clo Y n m := fun o ho hb q hq => by
  have h1 : (tI Y n m o).testBit o = true := by
    have h2 := tI_up Y n m 0 o o hb
    rwa [Nat.zero_add] at h2
  have h3 : (tI Y n m (o + 1)).testBit q = true := by
    unfold tI
    rw [if_pos h1, Nat.testBit_or, Bool.or_eq_true]
    exact Or.inr hq
  have h4 := tI_up Y n m (o + 1) (n - (o + 1)) q h3
  rwa [show o + 1 + (n - (o + 1)) = n by omega, h] at h4
theorem clI_sub {Y : Nat → Int32} {n c r : Nat} (hr : clo Y n r) (hc : r.testBit c = true) : ∀ k, sbs (clI Y n c k) r
  | 0 => fun q h => by
    unfold clI at h
    rw [Nat.testBit_two_pow, decide_eq_true_eq] at h
    subst h; exact hc
  | k + 1 => tI_sub hr (clI_sub hr hc k) n (Nat.le_refl _)
def cnt (m : Nat) : Nat → Nat
  | 0 => 0
  | o + 1 => cnt m o + (if m.testBit o = true then 1 else 0)
theorem cnt_le (m : Nat) : ∀ n, cnt m n ≤ n
  | 0 => Nat.le_refl _
  | o + 1 => by
    have := cnt_le m o
    unfold cnt
    split <;> omega
theorem cnt_mono {a b : Nat} (h : sbs a b) : ∀ n, cnt a n ≤ cnt b n
  | 0 => Nat.le_refl _
  | o + 1 => by
    have := cnt_mono h o
    unfold cnt
    by_cases e : a.testBit o = true
    · rw [if_pos e, if_pos (h o e)]; omega
    · rw [if_neg e]; split <;> omega
theorem cnt_lt {a b o : Nat} (h : sbs a b) (h1 : ¬ a.testBit o = true) (h2 : b.testBit o = true) : ∀ n, o < n → cnt a n < cnt b n
  | 0, ho => absurd ho (Nat.not_lt_zero o)
  | k + 1, ho => by
    have hm := cnt_mono h k
    unfold cnt
    by_cases e : o = k
    · subst e; rw [if_neg h1, if_pos h2]; omega
    · have ih := cnt_lt h h1 h2 k (by omega)
      by_cases e1 : a.testBit k = true
      · rw [if_pos e1, if_pos (h k e1)]; omega
      · rw [if_neg e1]; split <;> omega
theorem clI_step (Y : Nat → Int32) (n c k : Nat) : sbs (clI Y n c k) (clI Y n c (k + 1)) := fun q h => by
  have h2 := tI_up Y n (clI Y n c k) 0 n q h
  rw [Nat.zero_add] at h2; exact h2
theorem clI_grow {Y : Nat → Int32} {n c : Nat} (hc : c < n) : ∀ k, (∃ j, j < k ∧ clI Y n c (j + 1) = clI Y n c j) ∨ k + 1 ≤ cnt (clI Y n c k) n
  | 0 => Or.inr (by
    have h := cnt_lt (a := 0) (b := clI Y n c 0) (o := c) (fun q h => by rw [Nat.zero_testBit] at h; cases h) (by rw [Nat.zero_testBit]; decide) (by show (2 ^ c).testBit c = true; rw [Nat.testBit_two_pow]; exact decide_eq_true rfl) n hc
    omega)
  | k + 1 => by
    rcases clI_grow hc k with ⟨j, hj, h⟩ | h
    · exact Or.inl ⟨j, by omega, h⟩
    · by_cases e : clI Y n c (k + 1) = clI Y n c k
      · exact Or.inl ⟨k, by omega, e⟩
      · right
        have h3 : ∃ o, ¬ (clI Y n c k).testBit o = true ∧ (clI Y n c (k + 1)).testBit o = true := Classical.byContradiction fun hn => e (bit_eq fun o => ⟨fun q => Classical.byContradiction fun z => hn ⟨o, z, q⟩, clI_step Y n c k o⟩)
        obtain ⟨o, h4, h5⟩ := h3
        have h6 : o < n := by
          rcases Nat.lt_or_ge o n with z | z
          · exact z
          · rw [Nat.testBit_lt_two_pow (Nat.lt_of_lt_of_le (clI_lt hc (k + 1)) (Nat.pow_le_pow_right (by decide) z))] at h5; cases h5
        have h7 := cnt_lt (clI_step Y n c k) h4 h5 n h6
        omega
theorem clI_stay {Y : Nat → Int32} {n c j : Nat} (h : clI Y n c (j + 1) = clI Y n c j) : ∀ d, clI Y n c (j + d) = clI Y n c j
  | 0 => rfl
  | d + 1 => by
    show tI Y n (clI Y n c (j + d)) n = _
    rw [clI_stay h d]; exact h
theorem clI_clo {Y : Nat → Int32} {n c : Nat} (hc : c < n) : clo Y n (clI Y n c n) := by
  rcases clI_grow (Y := Y) hc n with ⟨j, hj, h⟩ | h
  · have h2 := clI_stay h (n - j)
    rw [show j + (n - j) = n by omega] at h2
    rw [h2]
    exact tI_clo h
  · have := cnt_le (clI Y n c n) n
    omega
theorem itR_grow {Y : Nat → Int32} {n c : Nat} : ∀ k, (∃ j, j < k ∧ itR Y n c (j + 1) = itR Y n c j) ∨ k + 1 ≤ itR Y n c k
  | 0 => Or.inr (Nat.one_le_two_pow)
  | k + 1 => by
    rcases itR_grow k with ⟨j, hj, h⟩ | h
    · exact Or.inl ⟨j, by omega, h⟩
    · by_cases e : itR Y n c (k + 1) = itR Y n c k
      · exact Or.inl ⟨k, by omega, e⟩
      · right
        have h3 : itR Y n c k ≤ itR Y n c (k + 1) := rgO_ge Y n _ n
        omega
theorem rgO_up (Y : Nat → Int32) (n m : Nat) : ∀ o d, sbs (rgO Y n m o) (rgO Y n m (o + d))
  | _, 0 => fun _ h => h
  | o, d + 1 => fun q h => by
    show (rgO Y n m (o + d + 1)).testBit q = true
    unfold rgO
    rw [Nat.testBit_or, Bool.or_eq_true]
    exact Or.inl (rgO_up Y n m o d q h)
theorem rgO_clo {Y : Nat → Int32} {n m : Nat} (h : rgS Y n m = m) : clo Y n m := fun o ho hb q hq => by
  have h3 : (rgO Y n m (o + 1)).testBit q = true := by
    unfold rgO
    rw [if_pos hb, Nat.testBit_or, Bool.or_eq_true]
    exact Or.inr hq
  have h4 := rgO_up Y n m (o + 1) (n - (o + 1)) q h3
  rw [show o + 1 + (n - (o + 1)) = n by omega] at h4
  unfold rgS at h
  rwa [h] at h4
theorem rgO_sub {Y : Nat → Int32} {n m r : Nat} (hr : clo Y n r) (hm : sbs m r) : ∀ o, o ≤ n → sbs (rgO Y n m o) r
  | 0, _ => hm
  | o + 1, ho => fun q h => by
    unfold rgO at h
    rw [Nat.testBit_or, Bool.or_eq_true] at h
    rcases h with h | h
    · exact rgO_sub hr hm o (by omega) q h
    · by_cases e : m.testBit o = true
      · rw [if_pos e] at h
        exact hr o (by omega) (hm o e) q h
      · rw [if_neg e, Nat.zero_testBit] at h; cases h
theorem itR_sub {Y : Nat → Int32} {n c r : Nat} (hr : clo Y n r) (hc : r.testBit c = true) : ∀ k, sbs (itR Y n c k) r
  | 0 => fun q h => by
    unfold itR at h
    rw [Nat.testBit_two_pow, decide_eq_true_eq] at h
    subst h; exact hc
  | k + 1 => rgO_sub hr (itR_sub hr hc k) n (Nat.le_refl _)
theorem ring_clo {Y : Nat → Int32} {n c : Nat} (hn : n ≤ 10) (hc : c < n) : clo Y n (ringM Y n c) := by
  rcases itR_grow (Y := Y) (n := n) (c := c) 1024 with ⟨j, hj, h⟩ | h
  · rw [← ring_at (by omega) h]
    exact rgO_clo h
  · have := itR_lt Y hn (show c < 10 by omega) 1024
    omega
theorem itR_bit (Y : Nat → Int32) (n c : Nat) : ∀ k, (itR Y n c k).testBit c = true
  | 0 => by show (2 ^ c).testBit c = true; rw [Nat.testBit_two_pow]; exact decide_eq_true rfl
  | k + 1 => by
    have h2 := rgO_up Y n (itR Y n c k) 0 n c (itR_bit Y n c k)
    rw [Nat.zero_add] at h2; exact h2
theorem clI_bit (Y : Nat → Int32) (n c : Nat) : ∀ k, (clI Y n c k).testBit c = true
  | 0 => by show (2 ^ c).testBit c = true; rw [Nat.testBit_two_pow]; exact decide_eq_true rfl
  | k + 1 => clI_step Y n c k c (clI_bit Y n c k)
theorem cl_ring {Y : Nat → Int32} {n c : Nat} (hn : n ≤ 10) (hc : c < n) : clI Y n c n = ringM Y n c := bit_eq fun o =>
  ⟨clI_sub (ring_clo hn hc) (itR_bit Y n c 1024) n o, itR_sub (clI_clo hc) (clI_bit Y n c n) 1024 o⟩
theorem tz_ring : ∀ c, c < 10 → ∀ m, m < 1024 → Nat.testBit m c = true → (tzN m = c ↔ m &&& (2 ^ c - 1) = 0) := by decide +kernel
theorem nI_xor (a b : Nat) : nI a ^^^ nI b = nI (a ^^^ b) := by
  unfold nI
  apply Int32.toBitVec_inj.mp
  simp [BitVec.ofNat_xor]
theorem nI_andn (m s : Nat) : nI m &&& (nI s ^^^ (-1)) = nI (m &&& (s ^^^ 4294967295)) := by
  rw [show (-1 : Int32) = nI 4294967295 by decide, nI_xor, nI_and]
theorem slor_bit (Y : Nat → Int32) (n o : Nat) : ∀ k, ((slor Y n k).testBit o = true ↔ ∃ q, q < k ∧ (slM Y n q).testBit o = true)
  | 0 => by
    unfold slor
    rw [Nat.zero_testBit]
    exact ⟨fun q => Bool.noConfusion q, fun ⟨q, h, _⟩ => absurd h (Nat.not_lt_zero q)⟩
  | k + 1 => by
    unfold slor
    rw [Nat.testBit_or, Bool.or_eq_true, slor_bit Y n o k]
    constructor
    · rintro (⟨q, h, h2⟩ | h)
      · exact ⟨q, by omega, h2⟩
      · exact ⟨k, by omega, h⟩
    · rintro ⟨q, h, h2⟩
      by_cases e : q = k
      · subst e; exact Or.inr h2
      · exact Or.inl ⟨q, by omega, h2⟩
theorem nmA_0 (Y : Nat → Int32) (n c : Nat) : ∀ k, (nmA Y n c k = 0 ↔ ∀ q, q < k → ¬ (slM Y n q).testBit c = true)
  | 0 => ⟨fun _ q h => absurd h (Nat.not_lt_zero q), fun _ => rfl⟩
  | k + 1 => by
    unfold nmA
    by_cases e : (slM Y n k).testBit c = true
    · rw [if_pos e]
      exact ⟨fun h => absurd h (by omega), fun h => absurd e (h k (Nat.lt_succ_self k))⟩
    · rw [if_neg e, Nat.add_zero, nmA_0 Y n c k]
      exact ⟨fun h q hq => by
        by_cases z : q = k
        · subst z; exact e
        · exact h q (by omega), fun h q hq => h q (by omega)⟩
theorem out_bmk (Y : Nat → Int32) (n : Nat) : ∀ o, outA Y n o = bmk (fun c => decide (nmA Y n c n = 0 ∧ Y (7 + 6 * c + 3) = nI 1)) o
  | 0 => rfl
  | o + 1 => by
    unfold outA bmk
    rw [out_bmk Y n o]
    simp only [decide_eq_true_eq]
theorem bit32 : ∀ o, o < 10 → Nat.testBit 4294967295 o = true := by decide +kernel
theorem out_eq {Y : Nat → Int32} {n : Nat} (hn : n ≤ 10) : mndM Y n &&& (slor Y n n ^^^ 4294967295) = outA Y n n := bit_eq fun o => by
  rw [Nat.testBit_and, Bool.and_eq_true, out_bmk, bmk_bit, decide_eq_true_eq, mnd_bit, nmA_0, Nat.testBit_xor]
  by_cases h : o < n
  · rw [bit32 o (by omega)]
    constructor
    · rintro ⟨h1, h2⟩
      refine ⟨h, fun q hq hz => ?_, h1.2⟩
      rw [(slor_bit Y n o n).mpr ⟨q, hq, hz⟩] at h2
      cases h2
    · rintro ⟨_, h1, h2⟩
      refine ⟨⟨h, h2⟩, ?_⟩
      have h3 : ¬ (slor Y n n).testBit o = true := fun z => by
        obtain ⟨q, hq, hz⟩ := (slor_bit Y n o n).mp z
        exact h1 q hq hz
      rw [Bool.not_eq_true] at h3
      rw [h3]; rfl
  · exact ⟨fun q => absurd q.1.1 h, fun q => absurd q.1 h⟩
theorem cl_has : ∀ n, n ≤ 10 → 2 ≤ n → 2 ^ (n / 2 + 1) - 2 < 2 ^ n ∧ n / 2 ≤ popN (2 ^ (n / 2 + 1) - 2) ∧ n / 2 ≤ n - popN (2 ^ (n / 2 + 1) - 2) ∧ 2 * (2 ^ (n / 2) - 1) = 2 ^ (n / 2 + 1) - 2 ∧ 2 ^ (n / 2) - 1 < 2 ^ n / 2 := by decide +kernel
theorem cl_keep {Y : Nat → Int32} {n : Nat} : ∀ i d, (clA Y n i).1 ≠ 1024 → i + d ≤ 512 → (clA Y n (i + d)).1 ≠ 1024
  | _, 0, h, _ => h
  | i, d + 1, h, hd => by
    have ih := cl_keep i d h (by omega)
    show (clA Y n (i + d + 1)).1 ≠ 1024
    unfold clA
    split
    · show 2 * (i + d) ≠ 1024; omega
    · exact ih
theorem cl_val {Y : Nat → Int32} {n : Nat} : ∀ i, (clA Y n i).1 ≠ 1024 → (clA Y n i).2 = lonA Y n (clA Y n i).1 n
  | 0, h => absurd rfl h
  | i + 1, h => by
    unfold clA at h ⊢
    split
    · rfl
    · rename_i q
      rw [if_neg q] at h
      exact cl_val i h
theorem cl_ex {Y : Nat → Int32} {n : Nat} (hn : n ≤ 10) (h2 : 2 ≤ n) : (clA Y n (2 ^ n / 2)).1 ≠ 1024 := by
  obtain ⟨h3, h4, h5, h6, h7⟩ := cl_has n hn h2
  have hp := pow_n n hn
  have h8 : (clA Y n (2 ^ (n / 2) - 1 + 1)).1 ≠ 1024 := by
    unfold clA
    by_cases e : (clA Y n (2 ^ (n / 2) - 1)).1 = 1024
    · rw [if_pos ⟨⟨by rw [h6]; exact h4, by rw [h6]; exact h5⟩, Or.inl e⟩]
      show 2 * (2 ^ (n / 2) - 1) ≠ 1024
      omega
    · split
      · show 2 * (2 ^ (n / 2) - 1) ≠ 1024
        omega
      · exact e
  have h9 := cl_keep _ (2 ^ n / 2 - (2 ^ (n / 2) - 1 + 1)) h8 (by omega)
  rwa [show 2 ^ (n / 2) - 1 + 1 + (2 ^ n / 2 - (2 ^ (n / 2) - 1 + 1)) = 2 ^ n / 2 by omega] at h9
set_option maxHeartbeats 4000000 in
set_option maxRecDepth 100000 in
theorem f_slipOf (l : Launch) (G : GC) (M : Mm) (a : Nat) (ha : a < 221) (hsa : shp a = 1000 + 10) (Y : Nat → Int32) (n : Nat) (hn2 : n ≤ 10) (h0 : M 184 0 = nI n) (c : Nat) (hc : c < 10) (hl : ∀ o, o < 10 → M a o = Y (67 + 10 * c + o)) (hself : Y (67 + 10 * c + c) = nI 0) : CP l G 1 yX1_slipOf cX1_slipOf 7 .int [.ref (gb G + 184), .ref (gb G + a)] M (nI (slM Y n c)) := by
  refine Con.of (by decide +kernel) (Nat.le_of_ble_eq_true rfl) ?_
  intro f C hRm hRt _
  have LO : ∀ (kk : Nat) (k : Nat) (m : Nat), 3 - k = kk → k ≤ 3 → m = slN Y c n k → Vc f G NPh M 4 [(3, .int (nI k)), (2, .int (nI m)), (0, .ref (gb G + 184)), (1, .ref (gb G + a))] [] := by
    intro kk
    induction kk using Nat.strongRecOn with
    | _ kk ihLO =>
      intro k m hkk hk hm
      have hm9 : m < 1024 := by rw [hm]; exact slN_lt Y c hn2 k
      by_cases hk3 : k < 3
      · skip
        have LI : ∀ (ki : Nat) (o : Nat) (b : Nat), n - o = ki → o ≤ n → b = sbA Y c m o → b = 10 ∨ ¬ Y (67 + 10 * c + b) ≤ 0 → Vc f G NPh M 18 [(6, .int (nI o)), (5, .int (moB Y c b)), (4, .int (bv b)), (3, .int (nI k)), (2, .int (nI m)), (0, .ref (gb G + 184)), (1, .ref (gb G + a))] [] := by
          intro ki
          induction ki using Nat.strongRecOn with
          | _ ki ihLI =>
            intro o b hki ho hb hp
            have hb9 : b ≤ 10 := by rw [hb]; exact sbA_le Y c m o (by omega)
            refine v_iload C 0 dX1_slipOf_18 rfl ?_
            refine v_aload_n C 5 dX1_slipOf_20 rfl ?_
            refine g_X1_24 C (by decide) (show shp 184 = 1 from by decide +kernel) dX1_slipOf_21 ?_
            refine v_top (nI n) (h0) ?_
            refine n_icmp_ge C (by omega) (by omega) 61 dX1_slipOf_24 rfl (fun h_24 => ?_) (fun h_24 => ?_)
            · skip
              refine v_iload C 2 dX1_slipOf_61 rfl ?_
              refine v_if_lt C 73 dX1_slipOf_63 rfl (fun h_63 => ?_) (fun h_63 => ?_)
              · skip
                refine v_iinc C (nI (k + 1)) 3 [(3, .int (nI (k + 1))), (6, .int (nI o)), (5, .int (moB Y c b)), (4, .int (bv b)), (2, .int (nI m)), (0, .ref (gb G + 184)), (1, .ref (gb G + a))] dX1_slipOf_73 rfl (nI_add _ _) (by decide) rfl ?_
                refine v_goto C 4 dX1_slipOf_76 rfl ?_
                refine v_sub [0, 4, 5, 6] [(3, .int (nI (k + 1))), (2, .int (nI m)), (0, .ref (gb G + 184)), (1, .ref (gb G + a))] rfl ?_
                exact ihLO _ (by omega) (k + 1) m rfl (by omega) (by (have h9 : o = n := by omega); subst h9; have hz := bv_neg b hb9 h_63; rw [hm]; show _ = (if _ then _ else _); rw [← hm, if_pos (hb.symm.trans hz)])
              · skip
                have hb8 := bv_nn b hb9 h_63
                refine v_lv [(6, .int (nI o)), (5, .int (moB Y c b)), (4, .int (nI b)), (3, .int (nI k)), (2, .int (nI m)), (0, .ref (gb G + 184)), (1, .ref (gb G + a))] (by rw [bv_lt hb8]) ?_
                refine v_iload_n C 4 dX1_slipOf_66 rfl ?_
                refine v_iconst C (nI 1) dX1_slipOf_67 (by decide) ?_
                refine v_iload C 2 dX1_slipOf_68 rfl ?_
                refine v_ishl C dX1_slipOf_70 ?_
                refine v_ior C dX1_slipOf_71 ?_
                refine v_top (nI (m ||| 2 ^ b)) (or_sh (by omega)) ?_
                refine v_istore_n C [(2, .int (nI (m ||| 2 ^ b))), (6, .int (nI o)), (5, .int (moB Y c b)), (4, .int (nI b)), (3, .int (nI k)), (0, .ref (gb G + 184)), (1, .ref (gb G + a))] dX1_slipOf_72 rfl (by decide) rfl ?_
                refine v_iinc C (nI (k + 1)) 4 [(3, .int (nI (k + 1))), (2, .int (nI (m ||| 2 ^ b))), (6, .int (nI o)), (5, .int (moB Y c b)), (4, .int (nI b)), (0, .ref (gb G + 184)), (1, .ref (gb G + a))] dX1_slipOf_73 rfl (nI_add _ _) (by decide) rfl ?_
                refine v_goto C 4 dX1_slipOf_76 rfl ?_
                refine v_sub [0, 1, 5, 6] [(3, .int (nI (k + 1))), (2, .int (nI (m ||| 2 ^ b))), (0, .ref (gb G + 184)), (1, .ref (gb G + a))] rfl ?_
                exact ihLO _ (by omega) (k + 1) (m ||| 2 ^ b) rfl (by omega) (by (have h9 : o = n := by omega); subst h9; have hz := bv_nn b hb9 h_63; show _ = (if _ then _ else _); rw [← hm, ← hb, if_neg (by omega)])
            · skip
              refine v_iload_n C 4 dX1_slipOf_27 rfl ?_
              refine v_iload C 0 dX1_slipOf_28 rfl ?_
              refine v_ishr C dX1_slipOf_30 ?_
              refine v_iconst C (nI 1) dX1_slipOf_31 (by decide) ?_
              refine v_iand C dX1_slipOf_32 ?_
              refine v_top (b2i (Nat.testBit m o = true)) (bit_and o (by omega) _ hm9) ?_
              refine nb_if_ne C 55 dX1_slipOf_33 rfl (fun h_33 => ?_) (fun h_33 => ?_)
              · skip
                refine v_iinc C (nI (o + 1)) 0 [(6, .int (nI (o + 1))), (5, .int (moB Y c b)), (4, .int (bv b)), (3, .int (nI k)), (2, .int (nI m)), (0, .ref (gb G + 184)), (1, .ref (gb G + a))] dX1_slipOf_55 rfl (nI_add _ _) (by decide) rfl ?_
                refine v_goto C 18 dX1_slipOf_58 rfl ?_
                refine v_sub [0, 1, 2, 3, 4, 5, 6] [(6, .int (nI (o + 1))), (5, .int (moB Y c b)), (4, .int (bv b)), (3, .int (nI k)), (2, .int (nI m)), (0, .ref (gb G + 184)), (1, .ref (gb G + a))] rfl ?_
                exact ihLI _ (by omega) (o + 1) b rfl (by omega) (hb.trans (sb_bit h_33).symm) hp
              · skip
                refine v_aload_n C 6 dX1_slipOf_36 rfl ?_
                refine v_iload C 0 dX1_slipOf_37 rfl ?_
                refine v_iald C ha hsa (by omega) (by decide) dX1_slipOf_39 ?_
                refine v_top (Y (67 + 10 * c + o)) (hl o (by omega)) ?_
                refine v_iload C 1 dX1_slipOf_40 rfl ?_
                refine v_icmp_le C 55 dX1_slipOf_42 rfl (fun h_42 => ?_) (fun h_42 => ?_)
                · skip
                  refine v_iinc C (nI (o + 1)) 0 [(6, .int (nI (o + 1))), (5, .int (moB Y c b)), (4, .int (bv b)), (3, .int (nI k)), (2, .int (nI m)), (0, .ref (gb G + 184)), (1, .ref (gb G + a))] dX1_slipOf_55 rfl (nI_add _ _) (by decide) rfl ?_
                  refine v_goto C 18 dX1_slipOf_58 rfl ?_
                  refine v_sub [0, 1, 2, 3, 4, 5, 6] [(6, .int (nI (o + 1))), (5, .int (moB Y c b)), (4, .int (bv b)), (3, .int (nI k)), (2, .int (nI m)), (0, .ref (gb G + 184)), (1, .ref (gb G + a))] rfl ?_
                  exact ihLI _ (by omega) (o + 1) b rfl (by omega) (hb.trans (sb_old hb h_42).symm) hp
                · skip
                  have sb := sb_new hb hself hp h_33 h_42
                  refine v_iload C 0 dX1_slipOf_45 rfl ?_
                  refine v_istore C [(4, .int (nI o)), (6, .int (nI o)), (5, .int (moB Y c b)), (3, .int (nI k)), (2, .int (nI m)), (0, .ref (gb G + 184)), (1, .ref (gb G + a))] dX1_slipOf_47 (by decide) rfl ?_
                  refine v_aload_n C 6 dX1_slipOf_49 rfl ?_
                  refine v_iload C 1 dX1_slipOf_50 rfl ?_
                  refine v_iald C ha hsa (by omega) (by decide) dX1_slipOf_52 ?_
                  refine v_top (Y (67 + 10 * c + o)) (hl o (by omega)) ?_
                  refine v_istore C [(5, .int (Y (67 + 10 * c + o))), (4, .int (nI o)), (6, .int (nI o)), (3, .int (nI k)), (2, .int (nI m)), (0, .ref (gb G + 184)), (1, .ref (gb G + a))] dX1_slipOf_53 (by decide) rfl ?_
                  refine v_iinc C (nI (o + 1)) 2 [(6, .int (nI (o + 1))), (5, .int (Y (67 + 10 * c + o))), (4, .int (nI o)), (3, .int (nI k)), (2, .int (nI m)), (0, .ref (gb G + 184)), (1, .ref (gb G + a))] dX1_slipOf_55 rfl (nI_add _ _) (by decide) rfl ?_
                  refine v_goto C 18 dX1_slipOf_58 rfl ?_
                  refine v_lv [(6, .int (nI (o + 1))), (5, .int (moB Y c o)), (4, .int (bv o)), (3, .int (nI k)), (2, .int (nI m)), (0, .ref (gb G + 184)), (1, .ref (gb G + a))] (by rw [bv_lt (show o < 10 by omega), show moB Y c o = Y (67 + 10 * c + o) from if_neg (by omega)]) ?_
                  refine v_sub [0, 1, 2, 3, 4, 5, 6] [(6, .int (nI (o + 1))), (5, .int (moB Y c o)), (4, .int (bv o)), (3, .int (nI k)), (2, .int (nI m)), (0, .ref (gb G + 184)), (1, .ref (gb G + a))] rfl ?_
                  exact ihLI _ (by omega) (o + 1) o rfl (by omega) sb.1.symm (Or.inr sb.2)
        refine v_iload_n C 0 dX1_slipOf_4 rfl ?_
        refine v_iconst C (nI 3) dX1_slipOf_5 (by decide) ?_
        refine n_icmp_ge C (by omega) (by omega) 79 dX1_slipOf_6 rfl (fun h_6 => ?_) (fun h_6 => ?_)
        · skip
          exact absurd hk3 (by omega)
        · skip
          refine v_iconst C (-1) dX1_slipOf_9 (by decide) ?_
          refine v_istore C [(4, .int (-1)), (3, .int (nI k)), (2, .int (nI m)), (0, .ref (gb G + 184)), (1, .ref (gb G + a))] dX1_slipOf_10 (by decide) rfl ?_
          refine v_iconst C (nI 0) dX1_slipOf_12 (by decide) ?_
          refine v_istore C [(5, .int (nI 0)), (4, .int (-1)), (3, .int (nI k)), (2, .int (nI m)), (0, .ref (gb G + 184)), (1, .ref (gb G + a))] dX1_slipOf_13 (by decide) rfl ?_
          refine v_iconst C (nI 0) dX1_slipOf_15 (by decide) ?_
          refine v_istore C [(6, .int (nI 0)), (5, .int (nI 0)), (4, .int (-1)), (3, .int (nI k)), (2, .int (nI m)), (0, .ref (gb G + 184)), (1, .ref (gb G + a))] dX1_slipOf_16 (by decide) rfl ?_
          refine v_lv [(6, .int (nI 0)), (5, .int (moB Y c 10)), (4, .int (bv 10)), (3, .int (nI k)), (2, .int (nI m)), (0, .ref (gb G + 184)), (1, .ref (gb G + a))] rfl ?_
          refine v_sub [0, 1, 2, 3, 4, 5, 6] [(6, .int (nI 0)), (5, .int (moB Y c 10)), (4, .int (bv 10)), (3, .int (nI k)), (2, .int (nI m)), (0, .ref (gb G + 184)), (1, .ref (gb G + a))] rfl ?_
          exact LI _ 0 10 rfl (by omega) rfl (Or.inl rfl)
      · have h9 : k = 3 := by omega
        subst h9
        refine v_iload_n C 0 dX1_slipOf_4 rfl ?_
        refine v_iconst C (nI 3) dX1_slipOf_5 (by decide) ?_
        refine n_icmp_ge C (by omega) (by omega) 79 dX1_slipOf_6 rfl (fun _ => ?_) (fun h_6 => absurd h_6 (by decide))
        refine v_iload_n C 1 dX1_slipOf_79 rfl ?_
        exact n_iret C hRt rfl dX1_slipOf_80 (by rw [hm]; rfl) rfl
  show Vc f G NPh M 0 [(0, .ref (gb G + 184)), (1, .ref (gb G + a))] []
  refine v_iconst C (nI 0) dX1_slipOf_0 (by decide) ?_
  refine v_istore_n C [(2, .int (nI 0)), (0, .ref (gb G + 184)), (1, .ref (gb G + a))] dX1_slipOf_1 rfl (by decide) rfl ?_
  refine v_iconst C (nI 0) dX1_slipOf_2 (by decide) ?_
  refine v_istore_n C [(3, .int (nI 0)), (2, .int (nI 0)), (0, .ref (gb G + 184)), (1, .ref (gb G + a))] dX1_slipOf_3 rfl (by decide) rfl ?_
  refine v_sub [0, 1, 2, 3] [(3, .int (nI 0)), (2, .int (nI 0)), (0, .ref (gb G + 184)), (1, .ref (gb G + a))] rfl ?_
  exact LO _ 0 0 rfl (by omega) rfl
set_option maxHeartbeats 4000000 in
set_option maxRecDepth 100000 in
theorem f_naming (l : Launch) (G : GC) (M : Mm) (Y : Nat → Int32) (n : Nat) (hn2 : n ≤ 10) (h0 : M 184 0 = nI n) (hs : ∀ i, i < n → M 185 i = nI (slM Y n i)) (c : Nat) (hc : c < 10) : CP l G 1 yX1_naming cX1_naming 4 .int [.ref (gb G + 184), .int (nI c)] M (nI (nmk Y n c n)) := by
  refine Con.of (by decide +kernel) (Nat.le_of_ble_eq_true rfl) ?_
  intro f C hRm hRt _
  have LN : ∀ (kk : Nat) (i : Nat), n - i = kk → i ≤ n → Vc f G NPh M 4 [(3, .int (nI i)), (2, .int (nI (nmk Y n c i))), (0, .ref (gb G + 184)), (1, .int (nI c))] [] := by
    intro kk
    induction kk using Nat.strongRecOn with
    | _ kk ihLN =>
      intro i hkk hi
      refine v_iload_n C 0 dX1_naming_4 rfl ?_
      refine v_aload_n C 2 dX1_naming_5 rfl ?_
      refine g_X1_24 C (by decide) (show shp 184 = 1 from by decide +kernel) dX1_naming_6 ?_
      refine v_top (nI n) (h0) ?_
      refine n_icmp_ge C (by omega) (by omega) 33 dX1_naming_9 rfl (fun h_9 => ?_) (fun h_9 => ?_)
      · skip
        refine v_iload_n C 1 dX1_naming_33 rfl ?_
        exact n_iret C hRt rfl dX1_naming_34 (by (have h9 : i = n := by omega); subst h9; rfl) rfl
      · skip
        refine v_iload_n C 1 dX1_naming_12 rfl ?_
        refine v_aload_n C 2 dX1_naming_13 rfl ?_
        refine g_X1_9 C (by decide) (show shp 184 = 1 from by decide +kernel) dX1_naming_14 ?_
        refine v_iload_n C 0 dX1_naming_17 rfl ?_
        refine v_iald C (by decide) (show shp 185 = 1000 + 10 from by decide +kernel) (by omega) (by decide) dX1_naming_18 ?_
        refine v_top (nI (slM Y n i)) (hs i (by omega)) ?_
        refine v_iload_n C 3 dX1_naming_19 rfl ?_
        refine v_ishr C dX1_naming_20 ?_
        refine v_iconst C (nI 1) dX1_naming_21 (by decide) ?_
        refine v_iand C dX1_naming_22 ?_
        refine v_top (b2i (Nat.testBit (slM Y n i) c = true)) (bit_and c hc _ (slM_lt Y i hn2)) ?_
        refine v_iload_n C 0 dX1_naming_23 rfl ?_
        refine v_ishl C dX1_naming_24 ?_
        refine v_ior C dX1_naming_25 ?_
        refine v_top (nI (nmk Y n c (i + 1))) (bmk_or (fun q => (slM Y n q).testBit c) (by omega) Iff.rfl) ?_
        refine v_istore_n C [(2, .int (nI (nmk Y n c (i + 1)))), (3, .int (nI i)), (0, .ref (gb G + 184)), (1, .int (nI c))] dX1_naming_26 rfl (by decide) rfl ?_
        refine v_iinc C (nI (i + 1)) 1 [(3, .int (nI (i + 1))), (2, .int (nI (nmk Y n c (i + 1)))), (0, .ref (gb G + 184)), (1, .int (nI c))] dX1_naming_27 rfl (nI_add _ _) (by decide) rfl ?_
        refine v_goto C 4 dX1_naming_30 rfl ?_
        refine v_sub [0, 1, 2, 3] [(3, .int (nI (i + 1))), (2, .int (nI (nmk Y n c (i + 1)))), (0, .ref (gb G + 184)), (1, .int (nI c))] rfl ?_
        exact ihLN _ (by omega) (i + 1) rfl (by omega)
  show Vc f G NPh M 0 [(0, .ref (gb G + 184)), (1, .int (nI c))] []
  refine v_iconst C (nI 0) dX1_naming_0 (by decide) ?_
  refine v_istore_n C [(2, .int (nI 0)), (0, .ref (gb G + 184)), (1, .int (nI c))] dX1_naming_1 rfl (by decide) rfl ?_
  refine v_iconst C (nI 0) dX1_naming_2 (by decide) ?_
  refine v_istore_n C [(3, .int (nI 0)), (2, .int (nI 0)), (0, .ref (gb G + 184)), (1, .int (nI c))] dX1_naming_3 rfl (by decide) rfl ?_
  refine v_sub [0, 1, 2, 3] [(3, .int (nI 0)), (2, .int (nI 0)), (0, .ref (gb G + 184)), (1, .int (nI c))] rfl ?_
  exact LN _ 0 rfl (by omega)
set_option maxHeartbeats 4000000 in
set_option maxRecDepth 100000 in
theorem f_countNaming (l : Launch) (G : GC) (M : Mm) (Y : Nat → Int32) (n : Nat) (hn2 : n ≤ 10) (hF : frRep M Y n) (c : Nat) (hc : c < 10) : CP l G 2 yX1_countNaming cX1_countNaming 2 .int [.ref (gb G + 184), .int (nI c)] M (nI (nmA Y n c n)) := by
  refine Con.of (by decide +kernel) (Nat.le_of_ble_eq_true rfl) ?_
  intro f C hRm hRt _
  have hb9 : nmk Y n c n < 1024 := bmk_1024 _ hn2
  show Vc f G NPh M 0 [(0, .ref (gb G + 184)), (1, .int (nI c))] []
  refine v_aload_n C 0 dX1_countNaming_0 rfl ?_
  refine v_iload_n C 1 dX1_countNaming_1 rfl ?_
  refine n_callVp C hRm [.int (nI c)] cw_X1_naming ml_X1_46 (by decide) (show shp 184 = 1 from by decide +kernel) (by decide) rfl (f_naming l G M Y n hn2 hF.1 hF.2.2.1 c (by omega)) (by decide) rfl rfl (Nat.le_of_ble_eq_true rfl) dX1_countNaming_2 ?_
  refine n_callSp C hRm [.int (nI (nmk Y n c n))] cw_J6_bitCount_0f7a4 st_J6_bitCount_0f7a4 ml_X1_50 (j_bitCount l G M (nmk Y n c n) (by omega)) (by decide) rfl rfl (Nat.le_of_ble_eq_true rfl) dX1_countNaming_5 ?_
  exact n_iret C hRt rfl dX1_countNaming_8 (by rw [pop_nmk Y n c n hn2]) rfl
set_option maxHeartbeats 4000000 in
set_option maxRecDepth 100000 in
theorem f_ringOf (l : Launch) (G : GC) (M : Mm) (Y : Nat → Int32) (n : Nat) (hn2 : n ≤ 10) (hF : frRep M Y n) (c : Nat) (hc : c < n) : CP l G 1 yX1_ringOf cX1_ringOf 5 .int [.ref (gb G + 184), .int (nI c)] M (nI (ringM Y n c)) := by
  refine Con.of (by decide +kernel) (Nat.le_of_ble_eq_true rfl) ?_
  intro f C hRm hRt _
  have LO : ∀ (kk : Nat) (k : Nat) (m : Nat), n - k = kk → k ≤ n → m = clI Y n c k → Vc f G NPh M 6 [(3, .int (nI k)), (2, .int (nI m)), (0, .ref (gb G + 184)), (1, .int (nI c))] [] := by
    intro kk
    induction kk using Nat.strongRecOn with
    | _ kk ihLO =>
      intro k m hkk hk hm
      have hm8 : m < 2 ^ n := by rw [hm]; exact clI_lt hc k
      by_cases hkn : k < n
      · skip
        have LI : ∀ (ki : Nat) (o : Nat) (a : Nat), n - o = ki → o ≤ n → a = tI Y n m o → Vc f G NPh M 17 [(4, .int (nI o)), (3, .int (nI k)), (2, .int (nI a)), (0, .ref (gb G + 184)), (1, .int (nI c))] [] := by
          intro ki
          induction ki using Nat.strongRecOn with
          | _ ki ihLI =>
            intro o a hki ho ha
            have ha9 : a < 1024 := Nat.lt_of_lt_of_le (by rw [ha]; exact tI_lt hm8 o) (pow_n n hn2)
            refine v_iload C 0 dX1_ringOf_17 rfl ?_
            refine v_aload_n C 3 dX1_ringOf_19 rfl ?_
            refine g_X1_24 C (by decide) (show shp 184 = 1 from by decide +kernel) dX1_ringOf_20 ?_
            refine v_top (nI n) (hF.1) ?_
            refine n_icmp_ge C (by omega) (by omega) 51 dX1_ringOf_23 rfl (fun h_23 => ?_) (fun h_23 => ?_)
            · skip
              refine v_iinc C (nI (k + 1)) 1 [(3, .int (nI (k + 1))), (4, .int (nI o)), (2, .int (nI a)), (0, .ref (gb G + 184)), (1, .int (nI c))] dX1_ringOf_51 rfl (nI_add _ _) (by decide) rfl ?_
              refine v_goto C 6 dX1_ringOf_54 rfl ?_
              refine v_sub [0, 2, 3, 4] [(3, .int (nI (k + 1))), (2, .int (nI a)), (0, .ref (gb G + 184)), (1, .int (nI c))] rfl ?_
              exact ihLO _ (by omega) (k + 1) a rfl (by omega) (by (have h9 : o = n := by omega); subst h9; rw [ha, hm]; rfl)
            · skip
              refine v_iload_n C 2 dX1_ringOf_26 rfl ?_
              refine v_iload C 0 dX1_ringOf_27 rfl ?_
              refine v_ishr C dX1_ringOf_29 ?_
              refine v_iconst C (nI 1) dX1_ringOf_30 (by decide) ?_
              refine v_iand C dX1_ringOf_31 ?_
              refine v_top (b2i (Nat.testBit a o = true)) (bit_and o (by omega) _ ha9) ?_
              refine nb_if_eq C 45 dX1_ringOf_32 rfl (fun h_32 => ?_) (fun h_32 => ?_)
              · skip
                refine v_iinc C (nI (o + 1)) 0 [(4, .int (nI (o + 1))), (3, .int (nI k)), (2, .int (nI a)), (0, .ref (gb G + 184)), (1, .int (nI c))] dX1_ringOf_45 rfl (nI_add _ _) (by decide) rfl ?_
                refine v_goto C 17 dX1_ringOf_48 rfl ?_
                refine v_sub [0, 1, 2, 3, 4] [(4, .int (nI (o + 1))), (3, .int (nI k)), (2, .int (nI a)), (0, .ref (gb G + 184)), (1, .int (nI c))] rfl ?_
                exact ihLI _ (by omega) (o + 1) a rfl (by omega) (by show _ = _ ||| (if _ then _ else _); rw [← ha, if_neg h_32, Nat.or_zero])
              · skip
                refine v_iload_n C 2 dX1_ringOf_35 rfl ?_
                refine v_aload_n C 3 dX1_ringOf_36 rfl ?_
                refine g_X1_15 C (by decide) (show shp 184 = 1 from by decide +kernel) dX1_ringOf_37 ?_
                refine v_iload C 0 dX1_ringOf_40 rfl ?_
                refine v_iald C (by decide) (show shp 186 = 1000 + 10 from by decide +kernel) (by omega) (by decide) dX1_ringOf_42 ?_
                refine v_top (nI (bothM Y n o)) (hF.2.2.2 o (by omega)) ?_
                refine v_ior C dX1_ringOf_43 ?_
                refine v_top (nI (a ||| bothM Y n o)) (nI_or _ _) ?_
                refine v_istore_n C [(2, .int (nI (a ||| bothM Y n o))), (4, .int (nI o)), (3, .int (nI k)), (0, .ref (gb G + 184)), (1, .int (nI c))] dX1_ringOf_44 rfl (by decide) rfl ?_
                refine v_iinc C (nI (o + 1)) 1 [(4, .int (nI (o + 1))), (2, .int (nI (a ||| bothM Y n o))), (3, .int (nI k)), (0, .ref (gb G + 184)), (1, .int (nI c))] dX1_ringOf_45 rfl (nI_add _ _) (by decide) rfl ?_
                refine v_goto C 17 dX1_ringOf_48 rfl ?_
                refine v_sub [0, 2, 1, 3, 4] [(4, .int (nI (o + 1))), (3, .int (nI k)), (2, .int (nI (a ||| bothM Y n o))), (0, .ref (gb G + 184)), (1, .int (nI c))] rfl ?_
                exact ihLI _ (by omega) (o + 1) (a ||| bothM Y n o) rfl (by omega) (by show _ = _ ||| (if _ then _ else _); rw [← ha, if_pos h_32])
        refine v_iload_n C 0 dX1_ringOf_6 rfl ?_
        refine v_aload_n C 2 dX1_ringOf_7 rfl ?_
        refine g_X1_24 C (by decide) (show shp 184 = 1 from by decide +kernel) dX1_ringOf_8 ?_
        refine v_top (nI n) (hF.1) ?_
        refine n_icmp_ge C (by omega) (by omega) 57 dX1_ringOf_11 rfl (fun h_11 => ?_) (fun h_11 => ?_)
        · skip
          exact absurd hkn (by omega)
        · skip
          refine v_iconst C (nI 0) dX1_ringOf_14 (by decide) ?_
          refine v_istore C [(4, .int (nI 0)), (3, .int (nI k)), (2, .int (nI m)), (0, .ref (gb G + 184)), (1, .int (nI c))] dX1_ringOf_15 (by decide) rfl ?_
          refine v_sub [0, 1, 2, 3, 4] [(4, .int (nI 0)), (3, .int (nI k)), (2, .int (nI m)), (0, .ref (gb G + 184)), (1, .int (nI c))] rfl ?_
          exact LI _ 0 m rfl (by omega) rfl
      · have h9 : k = n := by omega
        refine v_iload_n C 0 dX1_ringOf_6 rfl ?_
        refine v_aload_n C 2 dX1_ringOf_7 rfl ?_
        refine g_X1_24 C (by decide) (show shp 184 = 1 from by decide +kernel) dX1_ringOf_8 ?_
        refine v_top (nI n) (hF.1) ?_
        refine n_icmp_ge C (by omega) (by omega) 57 dX1_ringOf_11 rfl (fun h_11 => ?_) (fun h_11 => ?_)
        · skip
          refine v_iload_n C 1 dX1_ringOf_57 rfl ?_
          exact n_iret C hRt rfl dX1_ringOf_58 (by rw [hm, h9, cl_ring hn2 hc]) rfl
        · skip
          exact absurd h_11 (by omega)
  show Vc f G NPh M 0 [(0, .ref (gb G + 184)), (1, .int (nI c))] []
  refine v_iconst C (nI 1) dX1_ringOf_0 (by decide) ?_
  refine v_iload_n C 1 dX1_ringOf_1 rfl ?_
  refine v_ishl C dX1_ringOf_2 ?_
  refine v_istore_n C [(2, .int ((nI 1) <<< ((nI c) &&& 31))), (0, .ref (gb G + 184)), (1, .int (nI c))] dX1_ringOf_3 rfl (by decide) rfl ?_
  refine v_iconst C (nI 0) dX1_ringOf_4 (by decide) ?_
  refine v_istore_n C [(3, .int (nI 0)), (2, .int ((nI 1) <<< ((nI c) &&& 31))), (0, .ref (gb G + 184)), (1, .int (nI c))] dX1_ringOf_5 rfl (by decide) rfl ?_
  refine v_lv [(3, .int (nI 0)), (2, .int (nI (2 ^ c))), (0, .ref (gb G + 184)), (1, .int (nI c))] (by rw [show nI 1 <<< (nI c &&& 31) = nI (2 ^ c) from sh1_pow c (by omega)]) ?_
  refine v_sub [0, 1, 2, 3] [(3, .int (nI 0)), (2, .int (nI (2 ^ c))), (0, .ref (gb G + 184)), (1, .int (nI c))] rfl ?_
  exact LO _ 0 (2 ^ c) rfl (by omega) rfl
set_option maxHeartbeats 4000000 in
set_option maxRecDepth 100000 in
theorem f_countRings (l : Launch) (G : GC) (M : Mm) (Y : Nat → Int32) (n : Nat) (hn2 : n ≤ 10) (hF : frRep M Y n) : CP l G 2 yX1_countRings cX1_countRings 3 .int [.ref (gb G + 184)] M (nI (rngA Y n n)) := by
  refine Con.of (by decide +kernel) (Nat.le_of_ble_eq_true rfl) ?_
  intro f C hRm hRt _
  have LR : ∀ (kk : Nat) (i : Nat) (a : Nat), n - i = kk → i ≤ n → a = rngA Y n i → Vc f G NPh M 4 [(2, .int (nI i)), (1, .int (nI a)), (0, .ref (gb G + 184))] [] := by
    intro kk
    induction kk using Nat.strongRecOn with
    | _ kk ihLR =>
      intro i a hkk hi ha
      have hr9 : ringM Y n i < 1024 ∨ n ≤ i := (Nat.lt_or_ge i n).imp (fun h => ringM_lt Y hn2 (by omega)) id
      have hrb : (ringM Y n i).testBit i = true := itR_bit Y n i 1024
      refine v_iload_n C 0 dX1_countRings_4 rfl ?_
      refine v_aload_n C 2 dX1_countRings_5 rfl ?_
      refine g_X1_24 C (by decide) (show shp 184 = 1 from by decide +kernel) dX1_countRings_6 ?_
      refine v_top (nI n) (hF.1) ?_
      refine n_icmp_ge C (by omega) (by omega) 33 dX1_countRings_9 rfl (fun h_9 => ?_) (fun h_9 => ?_)
      · skip
        refine v_iload_n C 1 dX1_countRings_33 rfl ?_
        exact n_iret C hRt rfl dX1_countRings_34 (by (have h9 : i = n := by omega); subst h9; rw [ha]) rfl
      · skip
        have hr9 : ringM Y n i < 1024 := ringM_lt Y hn2 (by omega)
        have hr0 : ringM Y n i ≠ 0 := fun z => by rw [z, Nat.zero_testBit] at hrb; cases hrb
        have htz := (tz_ex _ hr9 hr0).1
        refine v_aload_n C 2 dX1_countRings_12 rfl ?_
        refine v_iload_n C 0 dX1_countRings_13 rfl ?_
        refine n_callVp C hRm [.int (nI i)] cw_X1_ringOf ml_X1_55 (by decide) (show shp 184 = 1 from by decide +kernel) (by decide) rfl (f_ringOf l G M Y n hn2 hF i (by omega)) (by decide) rfl rfl (Nat.le_of_ble_eq_true rfl) dX1_countRings_14 ?_
        refine n_callSp C hRm [.int (nI (ringM Y n i))] cw_J6_numberOfTrailingZeros_0f7a4 st_J6_numberOfTrailingZeros_0f7a4 ml_X1_58 (j_tz l G M (ringM Y n i) hr9 hr0) (by decide) rfl rfl (Nat.le_of_ble_eq_true rfl) dX1_countRings_17 ?_
        refine v_iload_n C 0 dX1_countRings_20 rfl ?_
        refine n_icmp_ne C (by omega) (by omega) 27 dX1_countRings_21 rfl (fun h_21 => ?_) (fun h_21 => ?_)
        · skip
          refine v_iinc C (nI (i + 1)) 0 [(2, .int (nI (i + 1))), (1, .int (nI a)), (0, .ref (gb G + 184))] dX1_countRings_27 rfl (nI_add _ _) (by decide) rfl ?_
          refine v_goto C 4 dX1_countRings_30 rfl ?_
          refine v_sub [0, 1, 2] [(2, .int (nI (i + 1))), (1, .int (nI a)), (0, .ref (gb G + 184))] rfl ?_
          exact ihLR _ (by omega) (i + 1) a rfl (by omega) (by show _ = _ + (if _ then 1 else 0); rw [← ha, if_neg (fun q => h_21 ((tz_ring i (by omega) _ hr9 hrb).mpr q)), Nat.add_zero])
        · skip
          refine v_iinc C (nI (a + 1)) 1 [(1, .int (nI (a + 1))), (2, .int (nI i)), (0, .ref (gb G + 184))] dX1_countRings_24 rfl (nI_add _ _) (by decide) rfl ?_
          refine v_iinc C (nI (i + 1)) 1 [(2, .int (nI (i + 1))), (1, .int (nI (a + 1))), (0, .ref (gb G + 184))] dX1_countRings_27 rfl (nI_add _ _) (by decide) rfl ?_
          refine v_goto C 4 dX1_countRings_30 rfl ?_
          refine v_sub [0, 1, 2] [(2, .int (nI (i + 1))), (1, .int (nI (a + 1))), (0, .ref (gb G + 184))] rfl ?_
          exact ihLR _ (by omega) (i + 1) (a + 1) rfl (by omega) (by show _ = _ + (if _ then 1 else 0); rw [← ha, if_pos ((tz_ring i (by omega) _ hr9 hrb).mp h_21)])
  show Vc f G NPh M 0 [(0, .ref (gb G + 184))] []
  refine v_iconst C (nI 0) dX1_countRings_0 (by decide) ?_
  refine v_istore_n C [(1, .int (nI 0)), (0, .ref (gb G + 184))] dX1_countRings_1 rfl (by decide) rfl ?_
  refine v_iconst C (nI 0) dX1_countRings_2 (by decide) ?_
  refine v_istore_n C [(2, .int (nI 0)), (1, .int (nI 0)), (0, .ref (gb G + 184))] dX1_countRings_3 rfl (by decide) rfl ?_
  refine v_sub [0, 1, 2] [(2, .int (nI 0)), (1, .int (nI 0)), (0, .ref (gb G + 184))] rfl ?_
  exact LR _ 0 0 rfl (by omega) rfl
set_option maxHeartbeats 4000000 in
set_option maxRecDepth 100000 in
theorem f_countPairs (l : Launch) (G : GC) (M : Mm) (Y : Nat → Int32) (n : Nat) (hn2 : n ≤ 10) (hF : frRep M Y n) : CP l G 2 yX1_countPairs cX1_countPairs 3 .int [.ref (gb G + 184)] M (nI (parA Y n n) / nI 2) := by
  refine Con.of (by decide +kernel) (Nat.le_of_ble_eq_true rfl) ?_
  intro f C hRm hRt _
  have LP : ∀ (kk : Nat) (i : Nat) (a : Nat), n - i = kk → i ≤ n → a = parA Y n i → Vc f G NPh M 4 [(2, .int (nI i)), (1, .int (nI a)), (0, .ref (gb G + 184))] [] := by
    intro kk
    induction kk using Nat.strongRecOn with
    | _ kk ihLP =>
      intro i a hkk hi ha
      refine v_iload_n C 0 dX1_countPairs_4 rfl ?_
      refine v_aload_n C 2 dX1_countPairs_5 rfl ?_
      refine g_X1_24 C (by decide) (show shp 184 = 1 from by decide +kernel) dX1_countPairs_6 ?_
      refine v_top (nI n) (hF.1) ?_
      refine n_icmp_ge C (by omega) (by omega) 30 dX1_countPairs_9 rfl (fun h_9 => ?_) (fun h_9 => ?_)
      · skip
        refine v_iload_n C 1 dX1_countPairs_30 rfl ?_
        refine v_iconst C (nI 2) dX1_countPairs_31 (by decide) ?_
        refine v_idiv C dX1_countPairs_32 (by decide) ?_
        exact n_iret C hRt rfl dX1_countPairs_33 (by (have h9 : i = n := by omega); subst h9; rw [ha]) rfl
      · skip
        refine v_iload_n C 1 dX1_countPairs_12 rfl ?_
        refine v_aload_n C 2 dX1_countPairs_13 rfl ?_
        refine g_X1_15 C (by decide) (show shp 184 = 1 from by decide +kernel) dX1_countPairs_14 ?_
        refine v_iload_n C 0 dX1_countPairs_17 rfl ?_
        refine v_iald C (by decide) (show shp 186 = 1000 + 10 from by decide +kernel) (by omega) (by decide) dX1_countPairs_18 ?_
        refine v_top (nI (bothM Y n i)) (hF.2.2.2 i (by omega)) ?_
        have hb9 := bothM_lt Y i hn2
        refine n_callSp C hRm [.int (nI (bothM Y n i))] cw_J6_bitCount_0f7a4 st_J6_bitCount_0f7a4 ml_X1_50 (j_bitCount l G M (bothM Y n i) (by omega)) (by decide) rfl rfl (Nat.le_of_ble_eq_true rfl) dX1_countPairs_19 ?_
        refine n_iadd C dX1_countPairs_22 ?_
        refine v_istore_n C [(1, .int (nI (a + (popN (bothM Y n i))))), (2, .int (nI i)), (0, .ref (gb G + 184))] dX1_countPairs_23 rfl (by decide) rfl ?_
        refine v_iinc C (nI (i + 1)) 1 [(2, .int (nI (i + 1))), (1, .int (nI (a + (popN (bothM Y n i))))), (0, .ref (gb G + 184))] dX1_countPairs_24 rfl (nI_add _ _) (by decide) rfl ?_
        refine v_goto C 4 dX1_countPairs_27 rfl ?_
        refine v_sub [0, 1, 2] [(2, .int (nI (i + 1))), (1, .int (nI (a + (popN (bothM Y n i))))), (0, .ref (gb G + 184))] rfl ?_
        exact ihLP _ (by omega) (i + 1) (a + (popN (bothM Y n i))) rfl (by omega) (by show _ = _ + _; rw [← ha])
  show Vc f G NPh M 0 [(0, .ref (gb G + 184))] []
  refine v_iconst C (nI 0) dX1_countPairs_0 (by decide) ?_
  refine v_istore_n C [(1, .int (nI 0)), (0, .ref (gb G + 184))] dX1_countPairs_1 rfl (by decide) rfl ?_
  refine v_iconst C (nI 0) dX1_countPairs_2 (by decide) ?_
  refine v_istore_n C [(2, .int (nI 0)), (1, .int (nI 0)), (0, .ref (gb G + 184))] dX1_countPairs_3 rfl (by decide) rfl ?_
  refine v_sub [0, 1, 2] [(2, .int (nI 0)), (1, .int (nI 0)), (0, .ref (gb G + 184))] rfl ?_
  exact LP _ 0 0 rfl (by omega) rfl
set_option maxHeartbeats 4000000 in
set_option maxRecDepth 100000 in
theorem f_mostNamed (l : Launch) (G : GC) (M : Mm) (Y : Nat → Int32) (n : Nat) (hn2 : n ≤ 10) (hF : frRep M Y n) : CP l G 3 yX1_mostNamed cX1_mostNamed 3 .int [.ref (gb G + 184)] M (mosA Y n n) := by
  refine Con.of (by decide +kernel) (Nat.le_of_ble_eq_true rfl) ?_
  intro f C hRm hRt _
  have LM : ∀ (kk : Nat) (i : Nat) (a : Int32), n - i = kk → i ≤ n → a = mosA Y n i → Vc f G NPh M 4 [(2, .int (nI i)), (1, .int a), (0, .ref (gb G + 184))] [] := by
    intro kk
    induction kk using Nat.strongRecOn with
    | _ kk ihLM =>
      intro i a hkk hi ha
      refine v_iload_n C 0 dX1_mostNamed_4 rfl ?_
      refine v_aload_n C 2 dX1_mostNamed_5 rfl ?_
      refine g_X1_24 C (by decide) (show shp 184 = 1 from by decide +kernel) dX1_mostNamed_6 ?_
      refine v_top (nI n) (hF.1) ?_
      refine n_icmp_ge C (by omega) (by omega) 28 dX1_mostNamed_9 rfl (fun h_9 => ?_) (fun h_9 => ?_)
      · skip
        refine v_iload_n C 1 dX1_mostNamed_28 rfl ?_
        exact n_iret C hRt rfl dX1_mostNamed_29 (by (have h9 : i = n := by omega); subst h9; exact ha) rfl
      · skip
        refine v_iload_n C 1 dX1_mostNamed_12 rfl ?_
        refine v_aload_n C 2 dX1_mostNamed_13 rfl ?_
        refine v_iload_n C 0 dX1_mostNamed_14 rfl ?_
        refine n_callVp C hRm [.int (nI i)] cw_X1_countNaming ml_X1_61 (by decide) (show shp 184 = 1 from by decide +kernel) (by decide) rfl (f_countNaming l G M Y n hn2 hF i (by omega)) (by decide) rfl rfl (Nat.le_of_ble_eq_true rfl) dX1_mostNamed_15 ?_
        refine v_mmax C hRm (by decide) ml_X1_64 (Nat.le_of_ble_eq_true rfl) dX1_mostNamed_18 ?_
        refine v_top (maxS a (nI (nmA Y n i n))) rfl ?_
        refine v_istore_n C [(1, .int (maxS a (nI (nmA Y n i n)))), (2, .int (nI i)), (0, .ref (gb G + 184))] dX1_mostNamed_21 rfl (by decide) rfl ?_
        refine v_iinc C (nI (i + 1)) 1 [(2, .int (nI (i + 1))), (1, .int (maxS a (nI (nmA Y n i n)))), (0, .ref (gb G + 184))] dX1_mostNamed_22 rfl (nI_add _ _) (by decide) rfl ?_
        refine v_goto C 4 dX1_mostNamed_25 rfl ?_
        refine v_sub [0, 1, 2] [(2, .int (nI (i + 1))), (1, .int (maxS a (nI (nmA Y n i n)))), (0, .ref (gb G + 184))] rfl ?_
        exact ihLM _ (by omega) (i + 1) (maxS a (nI (nmA Y n i n))) rfl (by omega) (by subst ha; rfl)
  show Vc f G NPh M 0 [(0, .ref (gb G + 184))] []
  refine v_iconst C (nI 0) dX1_mostNamed_0 (by decide) ?_
  refine v_istore_n C [(1, .int (nI 0)), (0, .ref (gb G + 184))] dX1_mostNamed_1 rfl (by decide) rfl ?_
  refine v_iconst C (nI 0) dX1_mostNamed_2 (by decide) ?_
  refine v_istore_n C [(2, .int (nI 0)), (1, .int (nI 0)), (0, .ref (gb G + 184))] dX1_mostNamed_3 rfl (by decide) rfl ?_
  refine v_sub [0, 1, 2] [(2, .int (nI 0)), (1, .int (nI 0)), (0, .ref (gb G + 184))] rfl ?_
  exact LM _ 0 (nI 0) rfl (by omega) rfl
set_option maxHeartbeats 4000000 in
set_option maxRecDepth 100000 in
theorem f_leftOut (l : Launch) (G : GC) (M : Mm) (Y : Nat → Int32) (n : Nat) (hn2 : n ≤ 10) (hF : frRep M Y n) : CP l G 1 yX1_leftOut cX1_leftOut 3 .int [.ref (gb G + 184)] M (nI (outA Y n n)) := by
  refine Con.of (by decide +kernel) (Nat.le_of_ble_eq_true rfl) ?_
  intro f C hRm hRt _
  have LL : ∀ (kk : Nat) (i : Nat), n - i = kk → i ≤ n → Vc f G NPh M 4 [(2, .int (nI i)), (1, .int (nI (slor Y n i))), (0, .ref (gb G + 184))] [] := by
    intro kk
    induction kk using Nat.strongRecOn with
    | _ kk ihLL =>
      intro i hkk hi
      refine v_iload_n C 0 dX1_leftOut_4 rfl ?_
      refine v_aload_n C 2 dX1_leftOut_5 rfl ?_
      refine g_X1_24 C (by decide) (show shp 184 = 1 from by decide +kernel) dX1_leftOut_6 ?_
      refine v_top (nI n) (hF.1) ?_
      refine n_icmp_ge C (by omega) (by omega) 27 dX1_leftOut_9 rfl (fun h_9 => ?_) (fun h_9 => ?_)
      · skip
        refine v_aload_n C 2 dX1_leftOut_27 rfl ?_
        refine g_X1_27 C (by decide) (show shp 184 = 1 from by decide +kernel) dX1_leftOut_28 ?_
        refine v_top (nI (mndM Y n)) (hF.2.1) ?_
        refine v_iload_n C 1 dX1_leftOut_31 rfl ?_
        refine v_iconst C (-1) dX1_leftOut_32 (by decide) ?_
        refine v_ixor C dX1_leftOut_33 ?_
        refine v_iand C dX1_leftOut_34 ?_
        exact n_iret C hRt rfl dX1_leftOut_35 (by (have h9 : i = n := by omega); subst h9; rw [nI_andn, out_eq hn2]) rfl
      · skip
        refine v_iload_n C 1 dX1_leftOut_12 rfl ?_
        refine v_aload_n C 2 dX1_leftOut_13 rfl ?_
        refine g_X1_9 C (by decide) (show shp 184 = 1 from by decide +kernel) dX1_leftOut_14 ?_
        refine v_iload_n C 0 dX1_leftOut_17 rfl ?_
        refine v_iald C (by decide) (show shp 185 = 1000 + 10 from by decide +kernel) (by omega) (by decide) dX1_leftOut_18 ?_
        refine v_top (nI (slM Y n i)) (hF.2.2.1 i (by omega)) ?_
        refine v_ior C dX1_leftOut_19 ?_
        refine v_top (nI (slor Y n (i + 1))) (nI_or _ _) ?_
        refine v_istore_n C [(1, .int (nI (slor Y n (i + 1)))), (2, .int (nI i)), (0, .ref (gb G + 184))] dX1_leftOut_20 rfl (by decide) rfl ?_
        refine v_iinc C (nI (i + 1)) 1 [(2, .int (nI (i + 1))), (1, .int (nI (slor Y n (i + 1)))), (0, .ref (gb G + 184))] dX1_leftOut_21 rfl (nI_add _ _) (by decide) rfl ?_
        refine v_goto C 4 dX1_leftOut_24 rfl ?_
        refine v_sub [0, 1, 2] [(2, .int (nI (i + 1))), (1, .int (nI (slor Y n (i + 1)))), (0, .ref (gb G + 184))] rfl ?_
        exact ihLL _ (by omega) (i + 1) rfl (by omega)
  show Vc f G NPh M 0 [(0, .ref (gb G + 184))] []
  refine v_iconst C (nI 0) dX1_leftOut_0 (by decide) ?_
  refine v_istore_n C [(1, .int (nI 0)), (0, .ref (gb G + 184))] dX1_leftOut_1 rfl (by decide) rfl ?_
  refine v_iconst C (nI 0) dX1_leftOut_2 (by decide) ?_
  refine v_istore_n C [(2, .int (nI 0)), (1, .int (nI 0)), (0, .ref (gb G + 184))] dX1_leftOut_3 rfl (by decide) rfl ?_
  refine v_sub [0, 1, 2] [(2, .int (nI 0)), (1, .int (nI 0)), (0, .ref (gb G + 184))] rfl ?_
  exact LL _ 0 rfl (by omega)
set_option maxHeartbeats 4000000 in
set_option maxRecDepth 100000 in
theorem f_countLonely (l : Launch) (G : GC) (M : Mm) (Y : Nat → Int32) (n : Nat) (hn2 : n ≤ 10) (hF : frRep M Y n) (s : Nat) (hs : s < 1024) : CP l G 1 yX1_countLonely cX1_countLonely 5 .int [.ref (gb G + 184), .int (nI s)] M (nI (lonA Y n s n)) := by
  refine Con.of (by decide +kernel) (Nat.le_of_ble_eq_true rfl) ?_
  intro f C hRm hRt _
  have LL : ∀ (kk : Nat) (i : Nat) (a : Nat), n - i = kk → i ≤ n → a = lonA Y n s i → Vc f G NPh M 4 [(3, .int (nI i)), (2, .int (nI a)), (0, .ref (gb G + 184)), (1, .int (nI s))] [] := by
    intro kk
    induction kk using Nat.strongRecOn with
    | _ kk ihLL =>
      intro i a hkk hi ha
      refine v_iload_n C 0 dX1_countLonely_4 rfl ?_
      refine v_aload_n C 2 dX1_countLonely_5 rfl ?_
      refine g_X1_24 C (by decide) (show shp 184 = 1 from by decide +kernel) dX1_countLonely_6 ?_
      refine v_top (nI n) (hF.1) ?_
      refine n_icmp_ge C (by omega) (by omega) 61 dX1_countLonely_9 rfl (fun h_9 => ?_) (fun h_9 => ?_)
      · skip
        refine v_iload_n C 1 dX1_countLonely_61 rfl ?_
        exact n_iret C hRt rfl dX1_countLonely_62 (by (have h9 : i = n := by omega); subst h9; rw [ha]) rfl
      · skip
        refine v_iload_n C 3 dX1_countLonely_12 rfl ?_
        refine v_iload_n C 0 dX1_countLonely_13 rfl ?_
        refine v_ishr C dX1_countLonely_14 ?_
        refine v_iconst C (nI 1) dX1_countLonely_15 (by decide) ?_
        refine v_iand C dX1_countLonely_16 ?_
        refine v_top (b2i (Nat.testBit s i = true)) (bit_and i (by omega) _ hs) ?_
        refine nb_if_eq C 24 dX1_countLonely_17 rfl (fun h_17 => ?_) (fun h_17 => ?_)
        · skip
          refine v_iload_n C 3 dX1_countLonely_24 rfl ?_
          refine v_iconst C (-1) dX1_countLonely_25 (by decide) ?_
          refine v_ixor C dX1_countLonely_26 ?_
          refine v_top (ownB s i) (by unfold ownB; rw [if_neg h_17]) ?_
          refine v_istore C [(4, .int (ownB s i)), (3, .int (nI i)), (2, .int (nI a)), (0, .ref (gb G + 184)), (1, .int (nI s))] dX1_countLonely_27 (by decide) rfl ?_
          refine v_aload_n C 3 dX1_countLonely_29 rfl ?_
          refine g_X1_27 C (by decide) (show shp 184 = 1 from by decide +kernel) dX1_countLonely_30 ?_
          refine v_top (nI (mndM Y n)) (hF.2.1) ?_
          refine v_iload_n C 1 dX1_countLonely_33 rfl ?_
          refine v_ishr C dX1_countLonely_34 ?_
          refine v_iconst C (nI 1) dX1_countLonely_35 (by decide) ?_
          refine v_iand C dX1_countLonely_36 ?_
          refine v_top (b2i (Nat.testBit (mndM Y n) i = true)) (bit_and i (by omega) _ (bmk_1024 _ hn2)) ?_
          refine nb_if_eq C 55 dX1_countLonely_37 rfl (fun h_37 => ?_) (fun h_37 => ?_)
          · skip
            refine v_iinc C (nI (i + 1)) 1 [(3, .int (nI (i + 1))), (4, .int (ownB s i)), (2, .int (nI a)), (0, .ref (gb G + 184)), (1, .int (nI s))] dX1_countLonely_55 rfl (nI_add _ _) (by decide) rfl ?_
            refine v_goto C 4 dX1_countLonely_58 rfl ?_
            refine v_sub [0, 2, 3, 4] [(3, .int (nI (i + 1))), (2, .int (nI a)), (0, .ref (gb G + 184)), (1, .int (nI s))] rfl ?_
            exact ihLL _ (by omega) (i + 1) a rfl (by omega) (by show _ = _ + (if _ then 1 else 0); rw [← ha, if_neg (fun q => h_37 ((mnd_bit Y n i).mpr ⟨by omega, q.1⟩)), Nat.add_zero])
          · skip
            refine v_aload_n C 3 dX1_countLonely_40 rfl ?_
            refine g_X1_15 C (by decide) (show shp 184 = 1 from by decide +kernel) dX1_countLonely_41 ?_
            refine v_iload_n C 1 dX1_countLonely_44 rfl ?_
            refine v_iald C (by decide) (show shp 186 = 1000 + 10 from by decide +kernel) (by omega) (by decide) dX1_countLonely_45 ?_
            refine v_top (nI (bothM Y n i)) (hF.2.2.2 i (by omega)) ?_
            refine v_iload C 0 dX1_countLonely_46 rfl ?_
            refine v_iand C dX1_countLonely_48 ?_
            refine v_if_ne C 55 dX1_countLonely_49 rfl (fun h_49 => ?_) (fun h_49 => ?_)
            · skip
              refine v_iinc C (nI (i + 1)) 1 [(3, .int (nI (i + 1))), (4, .int (ownB s i)), (2, .int (nI a)), (0, .ref (gb G + 184)), (1, .int (nI s))] dX1_countLonely_55 rfl (nI_add _ _) (by decide) rfl ?_
              refine v_goto C 4 dX1_countLonely_58 rfl ?_
              refine v_sub [0, 2, 3, 4] [(3, .int (nI (i + 1))), (2, .int (nI a)), (0, .ref (gb G + 184)), (1, .int (nI s))] rfl ?_
              exact ihLL _ (by omega) (i + 1) a rfl (by omega) (by show _ = _ + (if _ then 1 else 0); rw [← ha, if_neg (fun q => h_49 q.2), Nat.add_zero])
            · skip
              refine v_iinc C (nI (a + 1)) 2 [(2, .int (nI (a + 1))), (4, .int (ownB s i)), (3, .int (nI i)), (0, .ref (gb G + 184)), (1, .int (nI s))] dX1_countLonely_52 rfl (nI_add _ _) (by decide) rfl ?_
              refine v_iinc C (nI (i + 1)) 2 [(3, .int (nI (i + 1))), (2, .int (nI (a + 1))), (4, .int (ownB s i)), (0, .ref (gb G + 184)), (1, .int (nI s))] dX1_countLonely_55 rfl (nI_add _ _) (by decide) rfl ?_
              refine v_goto C 4 dX1_countLonely_58 rfl ?_
              refine v_sub [0, 1, 3, 4] [(3, .int (nI (i + 1))), (2, .int (nI (a + 1))), (0, .ref (gb G + 184)), (1, .int (nI s))] rfl ?_
              exact ihLL _ (by omega) (i + 1) (a + 1) rfl (by omega) (by show _ = _ + (if _ then 1 else 0); rw [← ha, if_pos ⟨((mnd_bit Y n i).mp h_37).2, h_49⟩])
        · skip
          refine v_iload_n C 3 dX1_countLonely_20 rfl ?_
          refine v_goto C 27 dX1_countLonely_21 rfl ?_
          refine v_top (ownB s i) (by unfold ownB; rw [if_pos h_17]) ?_
          refine v_istore C [(4, .int (ownB s i)), (3, .int (nI i)), (2, .int (nI a)), (0, .ref (gb G + 184)), (1, .int (nI s))] dX1_countLonely_27 (by decide) rfl ?_
          refine v_aload_n C 3 dX1_countLonely_29 rfl ?_
          refine g_X1_27 C (by decide) (show shp 184 = 1 from by decide +kernel) dX1_countLonely_30 ?_
          refine v_top (nI (mndM Y n)) (hF.2.1) ?_
          refine v_iload_n C 1 dX1_countLonely_33 rfl ?_
          refine v_ishr C dX1_countLonely_34 ?_
          refine v_iconst C (nI 1) dX1_countLonely_35 (by decide) ?_
          refine v_iand C dX1_countLonely_36 ?_
          refine v_top (b2i (Nat.testBit (mndM Y n) i = true)) (bit_and i (by omega) _ (bmk_1024 _ hn2)) ?_
          refine nb_if_eq C 55 dX1_countLonely_37 rfl (fun h_37 => ?_) (fun h_37 => ?_)
          · skip
            refine v_iinc C (nI (i + 1)) 1 [(3, .int (nI (i + 1))), (4, .int (ownB s i)), (2, .int (nI a)), (0, .ref (gb G + 184)), (1, .int (nI s))] dX1_countLonely_55 rfl (nI_add _ _) (by decide) rfl ?_
            refine v_goto C 4 dX1_countLonely_58 rfl ?_
            refine v_sub [0, 2, 3, 4] [(3, .int (nI (i + 1))), (2, .int (nI a)), (0, .ref (gb G + 184)), (1, .int (nI s))] rfl ?_
            exact ihLL _ (by omega) (i + 1) a rfl (by omega) (by show _ = _ + (if _ then 1 else 0); rw [← ha, if_neg (fun q => h_37 ((mnd_bit Y n i).mpr ⟨by omega, q.1⟩)), Nat.add_zero])
          · skip
            refine v_aload_n C 3 dX1_countLonely_40 rfl ?_
            refine g_X1_15 C (by decide) (show shp 184 = 1 from by decide +kernel) dX1_countLonely_41 ?_
            refine v_iload_n C 1 dX1_countLonely_44 rfl ?_
            refine v_iald C (by decide) (show shp 186 = 1000 + 10 from by decide +kernel) (by omega) (by decide) dX1_countLonely_45 ?_
            refine v_top (nI (bothM Y n i)) (hF.2.2.2 i (by omega)) ?_
            refine v_iload C 0 dX1_countLonely_46 rfl ?_
            refine v_iand C dX1_countLonely_48 ?_
            refine v_if_ne C 55 dX1_countLonely_49 rfl (fun h_49 => ?_) (fun h_49 => ?_)
            · skip
              refine v_iinc C (nI (i + 1)) 1 [(3, .int (nI (i + 1))), (4, .int (ownB s i)), (2, .int (nI a)), (0, .ref (gb G + 184)), (1, .int (nI s))] dX1_countLonely_55 rfl (nI_add _ _) (by decide) rfl ?_
              refine v_goto C 4 dX1_countLonely_58 rfl ?_
              refine v_sub [0, 2, 3, 4] [(3, .int (nI (i + 1))), (2, .int (nI a)), (0, .ref (gb G + 184)), (1, .int (nI s))] rfl ?_
              exact ihLL _ (by omega) (i + 1) a rfl (by omega) (by show _ = _ + (if _ then 1 else 0); rw [← ha, if_neg (fun q => h_49 q.2), Nat.add_zero])
            · skip
              refine v_iinc C (nI (a + 1)) 2 [(2, .int (nI (a + 1))), (4, .int (ownB s i)), (3, .int (nI i)), (0, .ref (gb G + 184)), (1, .int (nI s))] dX1_countLonely_52 rfl (nI_add _ _) (by decide) rfl ?_
              refine v_iinc C (nI (i + 1)) 2 [(3, .int (nI (i + 1))), (2, .int (nI (a + 1))), (4, .int (ownB s i)), (0, .ref (gb G + 184)), (1, .int (nI s))] dX1_countLonely_55 rfl (nI_add _ _) (by decide) rfl ?_
              refine v_goto C 4 dX1_countLonely_58 rfl ?_
              refine v_sub [0, 1, 3, 4] [(3, .int (nI (i + 1))), (2, .int (nI (a + 1))), (0, .ref (gb G + 184)), (1, .int (nI s))] rfl ?_
              exact ihLL _ (by omega) (i + 1) (a + 1) rfl (by omega) (by show _ = _ + (if _ then 1 else 0); rw [← ha, if_pos ⟨((mnd_bit Y n i).mp h_37).2, h_49⟩])
  show Vc f G NPh M 0 [(0, .ref (gb G + 184)), (1, .int (nI s))] []
  refine v_iconst C (nI 0) dX1_countLonely_0 (by decide) ?_
  refine v_istore_n C [(2, .int (nI 0)), (0, .ref (gb G + 184)), (1, .int (nI s))] dX1_countLonely_1 rfl (by decide) rfl ?_
  refine v_iconst C (nI 0) dX1_countLonely_2 (by decide) ?_
  refine v_istore_n C [(3, .int (nI 0)), (2, .int (nI 0)), (0, .ref (gb G + 184)), (1, .int (nI s))] dX1_countLonely_3 rfl (by decide) rfl ?_
  refine v_sub [0, 1, 2, 3] [(3, .int (nI 0)), (2, .int (nI 0)), (0, .ref (gb G + 184)), (1, .int (nI s))] rfl ?_
  exact LL _ 0 0 rfl (by omega) rfl
set_option maxHeartbeats 4000000 in
set_option maxRecDepth 100000 in
theorem f_secondClass (l : Launch) (G : GC) (M : Mm) (Y : Nat → Int32) (n : Nat) (hn2 : n ≤ 10) (hF : frRep M Y n) (h2 : 2 ≤ n) : CP l G 2 yX1_secondClass cX1_secondClass 6 .int [.ref (gb G + 184)] M (cv (clA Y n (2 ^ n / 2)).1) := by
  refine Con.of (by decide +kernel) (Nat.le_of_ble_eq_true rfl) ?_
  intro f C hRm hRt _
  have LS : ∀ (kk : Nat) (i : Nat) (b : Nat) (le : Nat), 2 ^ n - 2 * i = kk → 2 * i ≤ 2 ^ n → b = (clA Y n i).1 → le = (clA Y n i).2 → Vc f G NPh M 6 [(3, .int (nI (2 * i))), (2, .int (nI le)), (1, .int (cv b)), (0, .ref (gb G + 184))] [] := by
    intro kk
    induction kk using Nat.strongRecOn with
    | _ kk ihLS =>
      intro i b le hkk hi hb hl
      have hp10 := pow_n n hn2
      have hpe := pow_e n hn2 h2
      have hb9 : b ≤ 1024 := by rw [hb]; exact (clA_le Y n i (by omega)).1
      have hl9 : le ≤ n := by rw [hl]; exact (clA_le Y n i (by omega)).2
      refine v_iload_n C 0 dX1_secondClass_6 rfl ?_
      refine v_iconst C (nI 1) dX1_secondClass_7 (by decide) ?_
      refine v_aload_n C 3 dX1_secondClass_8 rfl ?_
      refine g_X1_24 C (by decide) (show shp 184 = 1 from by decide +kernel) dX1_secondClass_9 ?_
      refine v_top (nI n) (hF.1) ?_
      refine v_ishl C dX1_secondClass_12 ?_
      refine v_top (nI (2 ^ n)) (sh1_10 n hn2) ?_
      refine n_icmp_ge C (by omega) (by omega) 77 dX1_secondClass_13 rfl (fun h_13 => ?_) (fun h_13 => ?_)
      · skip
        refine v_iload_n C 2 dX1_secondClass_77 rfl ?_
        exact n_iret C hRt rfl dX1_secondClass_78 (by (have h9 : i = 2 ^ n / 2 := by have := pow_e n hn2 h2; omega); rw [← h9, ← hb]) rfl
      · skip
        have hpn := pop_n n hn2 (2 * i) h_13
        have hln := lonA_le Y n (2 * i) n
        have h1024 : 2 * i < 1024 := by omega
        refine v_iload_n C 0 dX1_secondClass_16 rfl ?_
        refine n_callSp C hRm [.int (nI (2 * i))] cw_J6_bitCount_0f7a4 st_J6_bitCount_0f7a4 ml_X1_50 (j_bitCount l G M (2 * i) (by omega)) (by decide) rfl rfl (Nat.le_of_ble_eq_true rfl) dX1_secondClass_17 ?_
        refine v_istore C [(4, .int (nI (popN (2 * i)))), (3, .int (nI (2 * i))), (2, .int (nI le)), (1, .int (cv b)), (0, .ref (gb G + 184))] dX1_secondClass_20 (by decide) rfl ?_
        refine v_iload C 0 dX1_secondClass_22 rfl ?_
        refine v_aload_n C 4 dX1_secondClass_24 rfl ?_
        refine g_X1_24 C (by decide) (show shp 184 = 1 from by decide +kernel) dX1_secondClass_25 ?_
        refine v_top (nI n) (hF.1) ?_
        refine v_iconst C (nI 2) dX1_secondClass_28 (by decide) ?_
        refine v_idiv C dX1_secondClass_29 (by decide) ?_
        refine v_top (nI (n / 2)) (half_n n hn2) ?_
        refine n_icmp_lt C (by omega) (by omega) 71 dX1_secondClass_30 rfl (fun h_30 => ?_) (fun h_30 => ?_)
        · skip
          refine v_iinc C (nI (2 * i + 2)) 1 [(3, .int (nI (2 * i + 2))), (4, .int (nI (popN (2 * i)))), (2, .int (nI le)), (1, .int (cv b)), (0, .ref (gb G + 184))] dX1_secondClass_71 rfl (nI_add _ _) (by decide) rfl ?_
          refine v_goto C 6 dX1_secondClass_74 rfl ?_
          refine v_lv [(3, .int (nI (2 * (i + 1)))), (4, .int (nI (popN (2 * i)))), (2, .int (nI le)), (1, .int (cv b)), (0, .ref (gb G + 184))] (by rw [show 2 * i + 2 = 2 * (i + 1) from rfl]) ?_
          refine v_sub [0, 2, 3, 4] [(3, .int (nI (2 * (i + 1)))), (2, .int (nI le)), (1, .int (cv b)), (0, .ref (gb G + 184))] rfl ?_
          exact ihLS _ (by omega) (i + 1) b le rfl (by omega) (by show _ = (if _ then _ else clA Y n i).1; rw [if_neg (fun q => absurd q.1.1 (by omega))]; exact hb) (by show _ = (if _ then _ else clA Y n i).2; rw [if_neg (fun q => absurd q.1.1 (by omega))]; exact hl)
        · skip
          refine v_aload_n C 4 dX1_secondClass_33 rfl ?_
          refine g_X1_24 C (by decide) (show shp 184 = 1 from by decide +kernel) dX1_secondClass_34 ?_
          refine v_top (nI n) (hF.1) ?_
          refine v_iload C 0 dX1_secondClass_37 rfl ?_
          refine n_isub C (by omega) dX1_secondClass_39 ?_
          refine v_aload_n C 4 dX1_secondClass_40 rfl ?_
          refine g_X1_24 C (by decide) (show shp 184 = 1 from by decide +kernel) dX1_secondClass_41 ?_
          refine v_top (nI n) (hF.1) ?_
          refine v_iconst C (nI 2) dX1_secondClass_44 (by decide) ?_
          refine v_idiv C dX1_secondClass_45 (by decide) ?_
          refine v_top (nI (n / 2)) (half_n n hn2) ?_
          refine n_icmp_lt C (by omega) (by omega) 71 dX1_secondClass_46 rfl (fun h_46 => ?_) (fun h_46 => ?_)
          · skip
            refine v_iinc C (nI (2 * i + 2)) 1 [(3, .int (nI (2 * i + 2))), (4, .int (nI (popN (2 * i)))), (2, .int (nI le)), (1, .int (cv b)), (0, .ref (gb G + 184))] dX1_secondClass_71 rfl (nI_add _ _) (by decide) rfl ?_
            refine v_goto C 6 dX1_secondClass_74 rfl ?_
            refine v_lv [(3, .int (nI (2 * (i + 1)))), (4, .int (nI (popN (2 * i)))), (2, .int (nI le)), (1, .int (cv b)), (0, .ref (gb G + 184))] (by rw [show 2 * i + 2 = 2 * (i + 1) from rfl]) ?_
            refine v_sub [0, 2, 3, 4] [(3, .int (nI (2 * (i + 1)))), (2, .int (nI le)), (1, .int (cv b)), (0, .ref (gb G + 184))] rfl ?_
            exact ihLS _ (by omega) (i + 1) b le rfl (by omega) (by show _ = (if _ then _ else clA Y n i).1; rw [if_neg (fun q => absurd q.1.2 (by omega))]; exact hb) (by show _ = (if _ then _ else clA Y n i).2; rw [if_neg (fun q => absurd q.1.2 (by omega))]; exact hl)
          · skip
            refine v_aload_n C 4 dX1_secondClass_49 rfl ?_
            refine v_iload_n C 1 dX1_secondClass_50 rfl ?_
            refine n_callVp C hRm [.int (nI (2 * i))] cw_X1_countLonely ml_X1_70 (by decide) (show shp 184 = 1 from by decide +kernel) (by decide) rfl (f_countLonely l G M Y n hn2 hF (2 * i) (by omega)) (by decide) rfl rfl (Nat.le_of_ble_eq_true rfl) dX1_secondClass_51 ?_
            refine v_istore C [(5, .int (nI (lonA Y n (2 * i) n))), (4, .int (nI (popN (2 * i)))), (3, .int (nI (2 * i))), (2, .int (nI le)), (1, .int (cv b)), (0, .ref (gb G + 184))] dX1_secondClass_54 (by decide) rfl ?_
            refine v_iload_n C 4 dX1_secondClass_56 rfl ?_
            refine v_if_lt C 66 dX1_secondClass_57 rfl (fun h_57 => ?_) (fun h_57 => ?_)
            · skip
              refine v_iload_n C 2 dX1_secondClass_66 rfl ?_
              refine v_istore_n C [(1, .int (nI (2 * i))), (5, .int (nI (lonA Y n (2 * i) n))), (4, .int (nI (popN (2 * i)))), (3, .int (nI (2 * i))), (2, .int (nI le)), (0, .ref (gb G + 184))] dX1_secondClass_67 rfl (by decide) rfl ?_
              refine v_iload C 1 dX1_secondClass_68 rfl ?_
              refine v_istore_n C [(2, .int (nI (lonA Y n (2 * i) n))), (1, .int (nI (2 * i))), (5, .int (nI (lonA Y n (2 * i) n))), (4, .int (nI (popN (2 * i)))), (3, .int (nI (2 * i))), (0, .ref (gb G + 184))] dX1_secondClass_70 rfl (by decide) rfl ?_
              refine v_iinc C (nI (2 * i + 2)) 4 [(3, .int (nI (2 * i + 2))), (2, .int (nI (lonA Y n (2 * i) n))), (1, .int (nI (2 * i))), (5, .int (nI (lonA Y n (2 * i) n))), (4, .int (nI (popN (2 * i)))), (0, .ref (gb G + 184))] dX1_secondClass_71 rfl (nI_add _ _) (by decide) rfl ?_
              refine v_goto C 6 dX1_secondClass_74 rfl ?_
              refine v_lv [(3, .int (nI (2 * (i + 1)))), (2, .int (nI (lonA Y n (2 * i) n))), (1, .int (cv (2 * i))), (5, .int (nI (lonA Y n (2 * i) n))), (4, .int (nI (popN (2 * i)))), (0, .ref (gb G + 184))] (by rw [show 2 * i + 2 = 2 * (i + 1) from rfl, cv_lt (show 2 * i < 1024 by omega)]) ?_
              refine v_sub [0, 1, 2, 5] [(3, .int (nI (2 * (i + 1)))), (2, .int (nI (lonA Y n (2 * i) n))), (1, .int (cv (2 * i))), (0, .ref (gb G + 184))] rfl ?_
              exact ihLS _ (by omega) (i + 1) (2 * i) (lonA Y n (2 * i) n) rfl (by omega) (by show _ = (if _ then _ else clA Y n i).1; rw [if_pos ⟨⟨h_30, h_46⟩, Or.inl (hb.symm.trans (cv_neg hb9 h_57))⟩]) (by show _ = (if _ then _ else clA Y n i).2; rw [if_pos ⟨⟨h_30, h_46⟩, Or.inl (hb.symm.trans (cv_neg hb9 h_57))⟩])
            · skip
              refine v_iload C 0 dX1_secondClass_60 rfl ?_
              refine v_iload_n C 3 dX1_secondClass_62 rfl ?_
              refine n_icmp_ge C (by omega) (by omega) 71 dX1_secondClass_63 rfl (fun h_63 => ?_) (fun h_63 => ?_)
              · skip
                refine v_iinc C (nI (2 * i + 2)) 2 [(3, .int (nI (2 * i + 2))), (5, .int (nI (lonA Y n (2 * i) n))), (4, .int (nI (popN (2 * i)))), (2, .int (nI le)), (1, .int (cv b)), (0, .ref (gb G + 184))] dX1_secondClass_71 rfl (nI_add _ _) (by decide) rfl ?_
                refine v_goto C 6 dX1_secondClass_74 rfl ?_
                refine v_lv [(3, .int (nI (2 * (i + 1)))), (5, .int (nI (lonA Y n (2 * i) n))), (4, .int (nI (popN (2 * i)))), (2, .int (nI le)), (1, .int (cv b)), (0, .ref (gb G + 184))] (by rw [show 2 * i + 2 = 2 * (i + 1) from rfl]) ?_
                refine v_sub [0, 3, 4, 5] [(3, .int (nI (2 * (i + 1)))), (2, .int (nI le)), (1, .int (cv b)), (0, .ref (gb G + 184))] rfl ?_
                exact ihLS _ (by omega) (i + 1) b le rfl (by omega) (by show _ = (if _ then _ else clA Y n i).1; rw [if_neg (fun q => q.2.elim (fun z => absurd (hb.trans z) (by have := cv_nn hb9 h_57; omega)) (fun z => absurd (hl ▸ z) (by omega)))]; exact hb) (by show _ = (if _ then _ else clA Y n i).2; rw [if_neg (fun q => q.2.elim (fun z => absurd (hb.trans z) (by have := cv_nn hb9 h_57; omega)) (fun z => absurd (hl ▸ z) (by omega)))]; exact hl)
              · skip
                refine v_iload_n C 2 dX1_secondClass_66 rfl ?_
                refine v_istore_n C [(1, .int (nI (2 * i))), (5, .int (nI (lonA Y n (2 * i) n))), (4, .int (nI (popN (2 * i)))), (3, .int (nI (2 * i))), (2, .int (nI le)), (0, .ref (gb G + 184))] dX1_secondClass_67 rfl (by decide) rfl ?_
                refine v_iload C 1 dX1_secondClass_68 rfl ?_
                refine v_istore_n C [(2, .int (nI (lonA Y n (2 * i) n))), (1, .int (nI (2 * i))), (5, .int (nI (lonA Y n (2 * i) n))), (4, .int (nI (popN (2 * i)))), (3, .int (nI (2 * i))), (0, .ref (gb G + 184))] dX1_secondClass_70 rfl (by decide) rfl ?_
                refine v_iinc C (nI (2 * i + 2)) 4 [(3, .int (nI (2 * i + 2))), (2, .int (nI (lonA Y n (2 * i) n))), (1, .int (nI (2 * i))), (5, .int (nI (lonA Y n (2 * i) n))), (4, .int (nI (popN (2 * i)))), (0, .ref (gb G + 184))] dX1_secondClass_71 rfl (nI_add _ _) (by decide) rfl ?_
                refine v_goto C 6 dX1_secondClass_74 rfl ?_
                refine v_lv [(3, .int (nI (2 * (i + 1)))), (2, .int (nI (lonA Y n (2 * i) n))), (1, .int (cv (2 * i))), (5, .int (nI (lonA Y n (2 * i) n))), (4, .int (nI (popN (2 * i)))), (0, .ref (gb G + 184))] (by rw [show 2 * i + 2 = 2 * (i + 1) from rfl, cv_lt (show 2 * i < 1024 by omega)]) ?_
                refine v_sub [0, 1, 2, 5] [(3, .int (nI (2 * (i + 1)))), (2, .int (nI (lonA Y n (2 * i) n))), (1, .int (cv (2 * i))), (0, .ref (gb G + 184))] rfl ?_
                exact ihLS _ (by omega) (i + 1) (2 * i) (lonA Y n (2 * i) n) rfl (by omega) (by show _ = (if _ then _ else clA Y n i).1; rw [if_pos ⟨⟨h_30, h_46⟩, Or.inr (hl ▸ h_63)⟩]) (by show _ = (if _ then _ else clA Y n i).2; rw [if_pos ⟨⟨h_30, h_46⟩, Or.inr (hl ▸ h_63)⟩])
  show Vc f G NPh M 0 [(0, .ref (gb G + 184))] []
  refine v_iconst C (-1) dX1_secondClass_0 (by decide) ?_
  refine v_istore_n C [(1, .int (-1)), (0, .ref (gb G + 184))] dX1_secondClass_1 rfl (by decide) rfl ?_
  refine v_iconst C (nI 0) dX1_secondClass_2 (by decide) ?_
  refine v_istore_n C [(2, .int (nI 0)), (1, .int (-1)), (0, .ref (gb G + 184))] dX1_secondClass_3 rfl (by decide) rfl ?_
  refine v_iconst C (nI 0) dX1_secondClass_4 (by decide) ?_
  refine v_istore_n C [(3, .int (nI 0)), (2, .int (nI 0)), (1, .int (-1)), (0, .ref (gb G + 184))] dX1_secondClass_5 rfl (by decide) rfl ?_
  refine v_lv [(3, .int (nI (2 * 0))), (2, .int (nI 0)), (1, .int (cv 1024)), (0, .ref (gb G + 184))] rfl ?_
  exact LS _ 0 1024 0 rfl (Nat.zero_le _) rfl rfl
