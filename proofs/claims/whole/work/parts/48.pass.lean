theorem YOk.t4 {Y : Nat → Int32} {n hN : Nat} (h : YOk Y n hN) : cN Y 4 ≤ 60 := by
  obtain ⟨t, ht, ht2⟩ := h.2.2.2.2.1
  rw [cN_of ht2 (by omega)]; exact ht
theorem YOk.t5 {Y : Nat → Int32} {n hN : Nat} (h : YOk Y n hN) : cN Y 5 ≤ 24 := by
  obtain ⟨t, ht, ht2⟩ := h.2.2.2.2.2
  rw [cN_of ht2 (by omega)]; exact ht
theorem fewV_t {Z : Nat → Int32} {n k : Nat} {v : Int32} (h : fewP Z n k) : fewV Z n k v = v := if_pos h
theorem fewV_f {Z : Nat → Int32} {n k : Nat} {v : Int32} (h : ¬ fewP Z n k) : fewV Z n k v = nI 0 := if_neg h
theorem minS_comm (x y : Int32) : minS x y = minS y x := by
  unfold minS
  by_cases h1 : y < x
  · rw [if_pos h1, if_neg (Int32.not_lt.mpr (Int32.le_of_lt h1))]
  · rw [if_neg h1]
    by_cases h2 : x < y
    · rw [if_pos h2]
    · rw [if_neg h2]; exact Int32.le_antisymm (Int32.not_lt.mp h1) (Int32.not_lt.mp h2)
-- what does not read the draw
theorem z_msk {Y Y' : Nat → Int32} (H : ∀ i, i ≠ 6 → Y' i = Y i) (x : Int32) (n : Nat) : mskA Y' x n = mskA Y x n := msk_congr fun c _ => H _ (by omega)
theorem z_sum {Y Y' : Nat → Int32} (H : ∀ i, i ≠ 6 → Y' i = Y i) (b c : Nat) : ∀ o, sumW Y' b c o = sumW Y b c o
  | 0 => rfl
  | o + 1 => by unfold sumW; rw [z_sum H b c o, H _ (by omega)]
theorem z_fon {Y Y' : Nat → Int32} (H : ∀ i, i ≠ 6 → Y' i = Y i) (h c : Nat) : ∀ o, fonA Y' h c o = fonA Y h c o
  | 0 => rfl
  | o + 1 => by unfold fonA; rw [z_fon H h c o, H (7 + 6 * o + 4) (by omega), H (67 + 10 * o + c) (by omega)]
theorem z_nob {Y Y' : Nat → Int32} (H : ∀ i, i ≠ 6 → Y' i = Y i) (h c : Nat) : ∀ o, nobA Y' h c o = nobA Y h c o
  | 0 => rfl
  | o + 1 => by unfold nobA; rw [z_nob H h c o, H (7 + 6 * o + 4) (by omega), H (67 + 10 * c + o) (by omega)]
theorem z_age {Y Y' : Nat → Int32} (H : ∀ i, i ≠ 6 → Y' i = Y i) (h c : Nat) : ∀ k o, ageG Y' h c k o = ageG Y h c k o
  | 0, _ => rfl
  | k + 1, o => by unfold ageG; rw [z_age H h c k (o + 1), H (7 + 6 * o + 4) (by omega), H (7 + 6 * o + 2) (by omega), H (7 + 6 * c + 2) (by omega)]
theorem z_ev {Y Y' : Nat → Int32} (H : ∀ i, i ≠ 6 → Y' i = Y i) (nm : Nat → Int32) (fr : Nat) (hf : 7 ≤ fr) : ∀ k, evT nm Y' fr k = evT nm Y fr k
  | 0 => rfl
  | k + 1 => by unfold evT cN; rw [z_ev H nm fr hf k, H (fr + k) (by omega)]
theorem z_warm {Y Y' : Nat → Int32} (H : ∀ i, i ≠ 6 → Y' i = Y i) (n h c : Nat) : warmS Y' n h c = warmS Y n h c := by unfold warmS othM; rw [z_msk H, z_sum H]
theorem z_val {Y Y' : Nat → Int32} (H : ∀ i, i ≠ 6 → Y' i = Y i) (u : Nat) (nm : Nat → Int32) : valT Y' u nm = valT Y u nm := by unfold valT cN; rw [z_ev H nm _ (by omega), H (321 + 62 * u) (by omega)]
theorem z_plain {Y Y' : Nat → Int32} (H : ∀ i, i ≠ 6 → Y' i = Y i) (n h c κ : Nat) : plainS Y' n h c κ = plainS Y n h c κ := by
  unfold plainS popA
  simp only [z_warm H, z_fon H, z_nob H, z_msk H, H (167 + 4 * h + 2) (by omega), H (167 + 4 * h + 0) (by omega), H (167 + 4 * h + 1) (by omega), H (7 + 6 * c + 1) (by omega), H (187 + 5 * c + h) (by omega)]
theorem z_ch {Y Y' : Nat → Int32} (H : ∀ i, i ≠ 6 → Y' i = Y i) (n h c : Nat) : chS Y' n h c = chS Y n h c := by
  unfold chS letsS kN cN popA
  simp only [z_warm H, z_plain H, z_age H, z_val H, z_msk H, H (167 + 4 * h + 2) (by omega), H (167 + 4 * h + 1) (by omega), H (7 + 6 * c + 0) (by omega), H (187 + 5 * c + h) (by omega), H (321 + 62 * 0) (by omega)]
def lY1 (Y : Nat → Int32) (c h : Nat) : Nat → Int32 := upd Y (187 + 5 * c + h) (minS (nI 99) (Y (187 + 5 * c + h) + nI 1))
def lY2 (Y : Nat → Int32) (c h : Nat) : Nat → Int32 := upd (lY1 Y c h) 6 (zN (lY1 Y c h))
noncomputable def tryS (Y : Nat → Int32) (n hN c : Nat) : Nat → Int32 := if (letR Y n hN c).1 = true then (letR Y n hN c).2 else upd (letR Y n hN c).2 (7 + 6 * c + 5) (minS (99999) ((letR Y n hN c).2 (7 + 6 * c + 5) + nI 1))
theorem try_w {Y : Nat → Int32} {n hN c : Nat} (hb : (bstA Y n c hN).1 = -1) : tryS Y n hN c = upd Y (7 + 6 * c + 5) (minS (99999) (Y (7 + 6 * c + 5) + nI 1)) := by
  unfold tryS letR letB
  rw [hb, if_neg (show ¬ (0 : Int32) ≤ -1 by decide)]
  rfl
theorem nn_nI : ∀ k, k < 5 → (0 : Int32) ≤ nI k := by decide +kernel
theorem try_let {Y : Nat → Int32} {n hN c h : Nat} (h5 : h < 5) (hb : (bstA Y n c hN).1 = nI h) : letR Y n hN c = if remS (ush8 (zN (lY1 Y c h))) (nI 100) < chS (lY1 Y c h) n h c then (true, goesS (lY2 Y c h) n hN c (nI h)) else (false, lY2 Y c h) := by
  unfold letR letB
  rw [hb, if_pos (nn_nI h h5), toN (show h < 2 ^ 31 by omega)]
  rw [show chS (lY1 Y c h) n h c = chS (lY2 Y c h) n h c from (z_ch (fun i hi => upd_ne _ _ hi) n h c).symm]
  rfl
theorem try_in {Y : Nat → Int32} {n hN c h : Nat} (h5 : h < 5) (hb : (bstA Y n c hN).1 = nI h) (hc : remS (ush8 (zN (lY1 Y c h))) (nI 100) < chS (lY1 Y c h) n h c) : tryS Y n hN c = goesS (lY2 Y c h) n hN c (nI h) := by
  unfold tryS
  rw [try_let h5 hb, if_pos hc]
  rfl
theorem try_no {Y : Nat → Int32} {n hN c h : Nat} (h5 : h < 5) (hb : (bstA Y n c hN).1 = nI h) (hc : ¬ remS (ush8 (zN (lY1 Y c h))) (nI 100) < chS (lY1 Y c h) n h c) : tryS Y n hN c = upd (lY2 Y c h) (7 + 6 * c + 5) (minS (99999) (lY2 Y c h (7 + 6 * c + 5) + nI 1)) := by
  unfold tryS
  rw [try_let h5 hb, if_neg hc]
  rfl
theorem yk_l1 {Y : Nat → Int32} {n hN c h : Nat} (hY : YOk Y n hN) (hc : c < n) (hh : h < hN) : YOk (lY1 Y c h) n hN := by
  have h10 := hY.1.2.1
  have h5 := hY.1.2.2.2
  exact yk_upd hY _ (by omega) (fun _ _ => by omega) (fun _ _ => by omega)
theorem yk_l2 {Y : Nat → Int32} {n hN c h : Nat} (hY : YOk Y n hN) (hc : c < n) (hh : h < hN) : YOk (lY2 Y c h) n hN := yk_upd (yk_l1 hY hc hh) _ (by omega) (fun _ _ => by omega) (fun _ _ => by omega)
theorem l2_ap (Y : Nat → Int32) (c h : Nat) {i : Nat} (h1 : i ≠ 6) (h2 : i ≠ 187 + 5 * c + h) : lY2 Y c h i = Y i := by
  unfold lY2 lY1; rw [upd_ne _ _ h1, upd_ne _ _ h2]
def few5 (Y : Nat → Int32) : Prop := ∀ k, k < 5 → ∃ f, f < 5 ∧ Y (167 + 4 * k + 3) = nI f
abbrev yI (Y : Nat → Int32) (n : Nat) : Prop := few0 Y n ∧ few5 Y
theorem fewP_congr {Y Y' : Nat → Int32} {n k : Nat} (ha : ∀ c, c < n → Y' (7 + 6 * c + 4) = Y (7 + 6 * c + 4)) (hl : Y' (167 + 4 * k + 0) = Y (167 + 4 * k + 0)) : fewP Y' n k ↔ fewP Y n k := by
  unfold fewP popA
  rw [msk_congr ha, hl]
theorem yI.to {Y Y' : Nat → Int32} {n : Nat} (h : yI Y n) (ha : ∀ c, c < n → Y' (7 + 6 * c + 4) = Y (7 + 6 * c + 4)) (hl : ∀ k, k < 5 → Y' (167 + 4 * k + 0) = Y (167 + 4 * k + 0)) (hf : ∀ k, k < 5 → Y' (167 + 4 * k + 3) = Y (167 + 4 * k + 3)) : yI Y' n :=
  ⟨fun k hk q => (hf k hk).trans (h.1 k hk (fun z => q ((fewP_congr ha (hl k hk)).mpr z))), fun k hk => by rw [hf k hk]; exact h.2 k hk⟩
theorem yi_goes {Y : Nat → Int32} {n hN c : Nat} {x : Int32} (hY : YOk Y n hN) (h : yI Y n) (hc : c < n) : yI (goesS Y n hN c x) n := by
  have hn := hY.1.2.1
  have h5 := hY.1.2.2.2
  have gp := goes_ap Y x hn (show c < 10 by omega) h5
  have hm : ∀ k, k < 5 → (fewP (goesS Y n hN c x) n k ↔ fewP (gA Y c x) n k) := fun k hk => fewP_congr (fun d hd => by
    rw [gA_at, gp]
    by_cases e : d = c
    · subst e; rw [if_pos rfl, if_pos rfl]
    · rw [if_neg e, if_neg (by omega), if_neg (by omega), if_neg (by omega)]) (by rw [gp, if_neg (by omega), if_neg (by omega), if_neg (by omega)]; exact (upd_ne _ _ (by omega)).symm)
  refine ⟨fun k hk q => ?_, fun k hk => ?_⟩
  · rw [goes_few hY h.1 (by omega) hk]
    exact fewV_f (fun z => q ((hm k hk).mpr z))
  · rw [goes_few hY h.1 (by omega) hk]
    unfold fewV
    split
    · exact h.2 k hk
    · exact ⟨0, by decide, rfl⟩
theorem yi_try {Y : Nat → Int32} {n hN c : Nat} (hY : YOk Y n hN) (h : yI Y n) (hc : c < n) : yI (tryS Y n hN c) n := by
  have hn := hY.1.2.1
  have h5 := hY.1.2.2.2
  have u5 : ∀ (Z : Nat → Int32) (v : Int32), yI Z n → yI (upd Z (7 + 6 * c + 5) v) n := fun Z v hz => hz.to (fun d _ => upd_ne _ _ (by omega)) (fun k _ => upd_ne _ _ (by omega)) (fun k _ => upd_ne _ _ (by omega))
  rcases bst_cases Y n c hN with hb | ⟨k, hk, hb⟩
  · rw [try_w hb]; exact u5 _ _ h
  · have h2 : yI (lY2 Y c k) n := h.to (fun d _ => l2_ap _ _ _ (by omega) (by omega)) (fun k _ => l2_ap _ _ _ (by omega) (by omega)) (fun k _ => l2_ap _ _ _ (by omega) (by omega))
    by_cases hq : remS (ush8 (zN (lY1 Y c k))) (nI 100) < chS (lY1 Y c k) n k c
    · rw [try_in (by omega) hb hq]; exact yi_goes (yk_l2 hY hc hk) h2 hc
    · rw [try_no (by omega) hb hq]; exact u5 _ _ h2
theorem minC_try (Y : Nat → Int32) (n hN c : Nat) : minC Y n hN (c + 1) = if 0 ≤ minC Y n hN c (7 + 6 * c + 4) then minC Y n hN c else tryS (minC Y n hN c) n hN c := rfl
theorem yi_minC {Y : Nat → Int32} {n hN : Nat} (hY : YOk Y n hN) (h : yI Y n) : ∀ c, c ≤ n → yI (minC Y n hN c) n
  | 0, _ => h
  | c + 1, hc => by
    rw [minC_try]
    split
    · exact yi_minC hY h c (by omega)
    · exact yi_try (yk_minC hY c (by omega)) (yi_minC hY h c (by omega)) (by omega)
-- a heap that falls apart
noncomputable def wearS (Z : Nat → Int32) (n hN h : Nat) : Nat → Int32 := if fewN Z n h (167 + 4 * h + 3) = nI 5 then fallS (fewN Z n h) n hN h else fewN Z n h
theorem minH_wear (Z : Nat → Int32) (n hN h : Nat) : minH Z n hN (h + 1) = wearS (minH Z n hN h) n hN h := rfl
theorem upd_self (Y : Nat → Int32) {i : Nat} {v : Int32} (h : Y i = v) : upd Y i v = Y := by
  funext j
  by_cases hj : j = i
  · subst hj; rw [upd_eq, h]
  · rw [upd_ne _ _ hj]
theorem fewP_iff {Y : Nat → Int32} {n k : Nat} (hn : n ≤ 10) : fewP Y n k ↔ (mskA Y (nI k) n ≠ 0 ∧ nI (popA Y n (nI k)) < Y (167 + 4 * k + 0)) := by
  rw [pop_pos _ (msk_1024 Y (nI k) hn)]; exact Iff.rfl
theorem fewN_t {Z : Nat → Int32} {n h : Nat} (hf : fewP Z n h) : fewN Z n h = upd Z (167 + 4 * h + 3) (Z (167 + 4 * h + 3) + nI 1) := by
  unfold fewN
  rw [fewV_t hf]
theorem wear_no {Z : Nat → Int32} {n hN h : Nat} (hI : few0 Z n) (h5 : h < 5) (hf : ¬ fewP Z n h) : wearS Z n hN h = Z := by
  have e : fewN Z n h = Z := by
    unfold fewN
    rw [fewV_f hf]
    exact upd_self Z (hI h h5 hf)
  unfold wearS
  rw [e, if_neg]
  rw [hI h h5 hf]; decide
theorem falC_at (Z : Nat → Int32) {n hN : Nat} (hn : n ≤ 10) (h5 : hN ≤ 5) (m : Nat) : ∀ c, c ≤ n → ∀ d, d < 10 → falC Z n hN m c (7 + 6 * d + 4) = if d < c ∧ m.testBit d = true then -1 else Z (7 + 6 * d + 4)
  | 0, _, d, _ => by rw [if_neg (by omega)]; rfl
  | c + 1, hc, d, hd => by
    unfold falC
    have ih := falC_at Z hn h5 m c (by omega) d hd
    by_cases hm : m.testBit c = true
    · rw [if_pos hm, goes_ap _ _ hn (by omega) h5]
      by_cases e : d = c
      · subst e; rw [if_pos rfl, if_pos ⟨by omega, hm⟩]
      · rw [if_neg (by omega), if_neg (by omega), if_neg (by omega), ih]
        by_cases q : d < c ∧ m.testBit d = true
        · rw [if_pos q, if_pos ⟨by omega, q.2⟩]
        · rw [if_neg q, if_neg (fun z => q ⟨by omega, z.2⟩)]
    · rw [if_neg hm, ih]
      by_cases q : d < c ∧ m.testBit d = true
      · rw [if_pos q, if_pos ⟨by omega, q.2⟩]
      · rw [if_neg q, if_neg (fun z => q ⟨by
          by_cases e : d = c
          · subst e; exact absurd z.2 hm
          · omega, z.2⟩)]
theorem fi_falC {Z : Nat → Int32} {n hN : Nat} (hY : YOk Z n hN) (hI : few0 Z n) (m : Nat) : ∀ c, c ≤ n → few0 (falC Z n hN m c) n
  | 0, _ => hI
  | c + 1, hc => by
    unfold falC
    split
    · have hk := yk_falC hY m c (by omega)
      have hn := hk.1.2.1
      have h5 := hk.1.2.2.2
      have ih := fi_falC hY hI m c (by omega)
      intro k hk5 q
      rw [goes_few hk ih (by omega) hk5]
      unfold fewV
      refine if_neg (fun z => q ?_)
      have gp := goes_ap (falC Z n hN m c) (-1) hn (show c < 10 by omega) h5
      refine (fewP_congr (Y := gA (falC Z n hN m c) c (-1)) (fun d hd => ?_) ?_).mpr z
      · rw [gA_at, gp]
        by_cases e : d = c
        · subst e; rw [if_pos rfl, if_pos rfl]
        · rw [if_neg e, if_neg (by omega), if_neg (by omega), if_neg (by omega)]
      · rw [gp, if_neg (by omega), if_neg (by omega), if_neg (by omega)]; exact (upd_ne _ _ (by omega)).symm
    · exact fi_falC hY hI m c (by omega)
theorem yk_fewN {Z : Nat → Int32} {n hN h : Nat} (hY : YOk Z n hN) (hh : h < hN) : YOk (fewN Z n h) n hN := by
  have h5 := hY.1.2.2.2
  exact yk_upd hY _ (by omega) (fun c hc => by have := hY.1.2.1; omega) (fun c hc => by have := hY.1.2.1; omega)
theorem fi_fewN {Z : Nat → Int32} {n hN h : Nat} (hY : YOk Z n hN) (hI : few0 Z n) : few0 (fewN Z n h) n := by
  have hn := hY.1.2.1
  intro k hk q
  have e : fewP (fewN Z n h) n k ↔ fewP Z n k := fewP_congr (fun c hc => upd_ne _ _ (by omega)) (upd_ne _ _ (by omega))
  by_cases hh : k = h
  · subst hh
    unfold fewN
    rw [upd_eq]
    unfold fewV
    exact if_neg (fun z => q (e.mpr z))
  · exact (upd_ne _ _ (by omega)).trans (hI k hk (fun z => q (e.mpr z)))
theorem fall_eq {Z : Nat → Int32} {n hN h : Nat} (hY : YOk Z n hN) (hI : few0 Z n) (hh : h < 5) : fallS Z n hN h = falC Z n hN (mskA Z (nI h) n) n := by
  have hn := hY.1.2.1
  have h5 := hY.1.2.2.2
  unfold fallS
  refine upd_self _ (fi_falC hY hI _ n (Nat.le_refl _) h hh (few_0m (msk_0 fun c hc q => ?_)))
  rw [falC_at Z hn h5 _ n (Nat.le_refl _) c (by omega)] at q
  by_cases e : c < n ∧ (mskA Z (nI h) n).testBit c = true
  · rw [if_pos e] at q; exact nI_m1 h hh q.symm
  · rw [if_neg e] at q; exact e ⟨hc, (msk_bit2 Z (nI h) n c).mpr ⟨hc, q⟩⟩
theorem falC_few {Z : Nat → Int32} {n hN : Nat} (hY : YOk Z n hN) (hI : few0 Z n) (m : Nat) {k : Nat} (hk : k < 5) : ∀ c, c ≤ n → falC Z n hN m c (167 + 4 * k + 3) = Z (167 + 4 * k + 3) ∨ falC Z n hN m c (167 + 4 * k + 3) = nI 0
  | 0, _ => Or.inl rfl
  | c + 1, hc => by
    unfold falC
    have ih := falC_few hY hI m hk c (by omega)
    split
    · have hy := yk_falC hY m c (by omega)
      have hn := hy.1.2.1
      rw [goes_few hy (fi_falC hY hI m c (by omega)) (by omega) hk]
      unfold fewV
      split
      · exact ih
      · exact Or.inr rfl
    · exact ih
theorem yi_wear {Z : Nat → Int32} {n hN h : Nat} (hY : YOk Z n hN) (hI : yI Z n) (hh : h < hN) : yI (wearS Z n hN h) n := by
  have hn := hY.1.2.1
  have h5 := hY.1.2.2.2
  by_cases hf : fewP Z n h
  · obtain ⟨q, hq, hq2⟩ := hI.2 h (by omega)
    have hk := yk_fewN hY hh
    have hi := fi_fewN (h := h) hY hI.1
    have e1 : fewN Z n h (167 + 4 * h + 3) = nI (q + 1) := by rw [fewN_t hf, upd_eq, hq2, nI_add]
    have e2 : ∀ k, k ≠ h → fewN Z n h (167 + 4 * k + 3) = Z (167 + 4 * k + 3) := fun k hk => by rw [fewN_t hf, upd_ne _ _ (by omega)]
    unfold wearS
    by_cases h5q : fewN Z n h (167 + 4 * h + 3) = nI 5
    · rw [if_pos h5q, fall_eq hk hi (by omega)]
      refine ⟨fi_falC hk hi _ n (Nat.le_refl _), fun k hk5 => ?_⟩
      by_cases e : k = h
      · subst e
        refine ⟨0, by decide, ?_⟩
        refine fi_falC hk hi _ n (Nat.le_refl _) k hk5 (few_0m (msk_0 fun c hc z => ?_))
        rw [falC_at _ hn h5 _ n (Nat.le_refl _) c (by omega)] at z
        by_cases e : c < n ∧ (mskA (fewN Z n k) (nI k) n).testBit c = true
        · rw [if_pos e] at z; exact nI_m1 k hk5 z.symm
        · rw [if_neg e] at z; exact e ⟨hc, (msk_bit2 _ (nI k) n c).mpr ⟨hc, z⟩⟩
      · rcases falC_few hk hi (mskA (fewN Z n h) (nI h) n) hk5 n (Nat.le_refl _) with z | z
        · rw [z, e2 k e]; exact hI.2 k hk5
        · exact ⟨0, by decide, z⟩
    · rw [if_neg h5q]
      refine ⟨hi, fun k hk5 => ?_⟩
      by_cases e : k = h
      · subst e
        refine ⟨q + 1, ?_, e1⟩
        by_cases e5 : q + 1 = 5
        · exact absurd (by rw [e1, e5]) h5q
        · omega
      · rw [e2 k e]; exact hI.2 k hk5
  · rw [wear_no hI.1 (by omega) hf]; exact hI
theorem yi_minH {Y : Nat → Int32} {n hN : Nat} (hY : YOk Y n hN) (h : yI Y n) : ∀ k, k ≤ hN → yI (minH Y n hN k) n
  | 0, _ => h
  | k + 1, hk => by
    rw [minH_wear]
    exact yi_wear (yk_minH hY k (by omega)) (yi_minH hY h k (by omega)) (by omega)
theorem yi_minute {Y : Nat → Int32} {n hN : Nat} (hY : YOk Y n hN) (h : yI Y n) : yI (minuteS Y n hN) n :=
  (yi_minH (yk_minC hY n (Nat.le_refl _)) (yi_minC hY h n (Nat.le_refl _)) hN (Nat.le_refl _)).to (fun _ _ => upd_ne _ _ (by omega)) (fun _ _ => upd_ne _ _ (by omega)) (fun _ _ => upd_ne _ _ (by omega))
theorem yi_pass {Y : Nat → Int32} {n hN : Nat} (hY : YOk Y n hN) (h : yI Y n) : ∀ k, yI (passS Y n hN k) n
  | 0 => h
  | k + 1 => yi_minute (yk_pass hY k) (yi_pass hY h k)
set_option maxHeartbeats 4000000 in
set_option maxRecDepth 100000 in
theorem y_tryHeap (l : Launch) (G : GC) (M : Mm) (y : Nat) (hy : yd y) (Y : Nat → Int32) (n hN : Nat) (hR : YR M y Y n hN) (hY : YOk Y n hN) (hI : yI Y n) (c : Nat) (hc : c < n) (hw : Y (7 + 6 * c + 4) = -1) : CV l G 6 yX8_tryHeap cX8_tryHeap 5 [.ref (gb G + y), .int (nI c)] M (YP M y (tryS Y n hN c) n hN) := by
  refine Con.of (by decide +kernel) (Nat.le_of_ble_eq_true rfl) ?_
  intro f C hRm hRt _
  have hyl : y + 60 < 221 := yd_lt hy (by decide)
  have hn2 := hY.1.2.1
  have h5 := hY.1.2.2.2
  rcases bst_cases Y n c hN with hb | ⟨h, hh, hb⟩
  · show Vc f G NPh M 0 [(0, .ref (gb G + y)), (1, .int (nI c))] []
    refine v_aload_n C 0 dX8_tryHeap_0 rfl ?_
    refine g_X8_11 C (show y < 221 from by omega) (s_y hy) dX8_tryHeap_1 ?_
    refine v_iload_n C 1 dX8_tryHeap_4 rfl ?_
    refine v_aald C rfl (show y + 1 < 221 from by omega) (s_y1 hy) (by decide) (by decide) (show c < 10 from by omega) (by decide) (y + 20 + 3 * c) (by simp only [aOff] <;> omega) dX8_tryHeap_5 ?_
    refine v_astore_n C [(2, .ref (gb G + (y + 20 + 3 * c))), (0, .ref (gb G + y)), (1, .int (nI c))] dX8_tryHeap_6 rfl (by decide) rfl ?_
    refine v_aload_n C 1 dX8_tryHeap_7 rfl ?_
    refine v_iload_n C 2 dX8_tryHeap_8 rfl ?_
    refine n_callVi C hRm [.int (nI c)] cw_X8_bestHeap ml_X8_186 (show y < 221 from by omega) (s_y hy) (by decide) rfl (y_bestHeap l G M y hy Y _ _ hR hY c (by omega)) (by decide) rfl rfl (Nat.le_of_ble_eq_true rfl) dX8_tryHeap_9 (fun Mq1 hP_9 => ?_)
    obtain ⟨hRq1, hFq1⟩ := hP_9
    refine v_top ((-1)) (hb) ?_
    refine v_istore_n C [(3, .int (-1)), (2, .ref (gb G + (y + 20 + 3 * c))), (0, .ref (gb G + y)), (1, .int (nI c))] dX8_tryHeap_12 rfl (by decide) rfl ?_
    refine v_iload_n C 0 dX8_tryHeap_13 rfl ?_
    refine v_iconst C (-1) dX8_tryHeap_14 (by decide) ?_
    refine v_icmp_eq C 82 dX8_tryHeap_15 rfl (fun h_15 => ?_) (fun h_15 => ?_)
    · skip
      refine v_aload_n C 1 dX8_tryHeap_82 rfl ?_
      refine v_aload_n C 1 dX8_tryHeap_83 rfl ?_
      refine g_X8_88 C (show y + 20 + 3 * c < 221 from by omega) (s_ch hy (by omega)) dX8_tryHeap_84 ?_
      refine v_top (Y (7 + 6 * c + 5)) (hRq1.ch (by omega) (by omega) (by omega)) ?_
      refine v_iconst C (nI 1) dX8_tryHeap_87 (by decide) ?_
      refine v_iadd C dX8_tryHeap_88 ?_
      refine v_ldc C (99999) kc_X8_197 dX8_tryHeap_89 ?_
      refine v_mmin C hRm (by decide) ml_X8_189 (Nat.le_of_ble_eq_true rfl) dX8_tryHeap_91 ?_
      refine v_top (minS ((Y (7 + 6 * c + 5)) + (nI 1)) (99999)) rfl ?_
      refine v_top (minS (99999) (Y (7 + 6 * c + 5) + nI 1)) (minS_comm _ _) ?_
      refine p_X8_88 C (show y + 20 + 3 * c < 221 from by omega) (s_ch hy (by omega)) dX8_tryHeap_94 ?_
      have hRq2 : YR (up2 Mq1 (y + 20 + 3 * c) 5 (minS (99999) (Y (7 + 6 * c + 5) + nI 1))) y (upd Y (7 + 6 * c + 5) (minS (99999) (Y (7 + 6 * c + 5) + nI 1))) n hN := hRq1.wch (c := c) (f := 5) (by omega) (by omega) (by omega) (by omega) (YOk.t4 hY) (YOk.t5 hY) _
      have hFq2 : Fr y M (up2 Mq1 (y + 20 + 3 * c) 5 (minS (99999) (Y (7 + 6 * c + 5) + nI 1))) := hFq1.tr (Fr.up (y := y) _ (by omega))
      have hKq2 : YOk (upd Y (7 + 6 * c + 5) (minS (99999) (Y (7 + 6 * c + 5) + nI 1))) n hN := yk_upd hY _ (by omega) (fun _ _ => by omega) (fun _ _ => by omega)
      exact n_ret C hRt dX8_tryHeap_97 ⟨by rw [try_w hb]; exact hRq2, hFq2⟩
    · skip
      exact absurd rfl h_15
  · show Vc f G NPh M 0 [(0, .ref (gb G + y)), (1, .int (nI c))] []
    refine v_aload_n C 0 dX8_tryHeap_0 rfl ?_
    refine g_X8_11 C (show y < 221 from by omega) (s_y hy) dX8_tryHeap_1 ?_
    refine v_iload_n C 1 dX8_tryHeap_4 rfl ?_
    refine v_aald C rfl (show y + 1 < 221 from by omega) (s_y1 hy) (by decide) (by decide) (show c < 10 from by omega) (by decide) (y + 20 + 3 * c) (by simp only [aOff] <;> omega) dX8_tryHeap_5 ?_
    refine v_astore_n C [(2, .ref (gb G + (y + 20 + 3 * c))), (0, .ref (gb G + y)), (1, .int (nI c))] dX8_tryHeap_6 rfl (by decide) rfl ?_
    refine v_aload_n C 1 dX8_tryHeap_7 rfl ?_
    refine v_iload_n C 2 dX8_tryHeap_8 rfl ?_
    refine n_callVi C hRm [.int (nI c)] cw_X8_bestHeap ml_X8_186 (show y < 221 from by omega) (s_y hy) (by decide) rfl (y_bestHeap l G M y hy Y _ _ hR hY c (by omega)) (by decide) rfl rfl (Nat.le_of_ble_eq_true rfl) dX8_tryHeap_9 (fun Mq1 hP_9 => ?_)
    obtain ⟨hRq1, hFq1⟩ := hP_9
    refine v_top (nI h) (hb) ?_
    refine v_istore_n C [(3, .int (nI h)), (2, .ref (gb G + (y + 20 + 3 * c))), (0, .ref (gb G + y)), (1, .int (nI c))] dX8_tryHeap_12 rfl (by decide) rfl ?_
    refine v_iload_n C 0 dX8_tryHeap_13 rfl ?_
    refine v_iconst C (-1) dX8_tryHeap_14 (by decide) ?_
    refine v_icmp_eq C 82 dX8_tryHeap_15 rfl (fun h_15 => ?_) (fun h_15 => ?_)
    · skip
      exact absurd h_15 (nI_m1 _ (by omega))
    · skip
      refine v_aload_n C 1 dX8_tryHeap_18 rfl ?_
      refine g_X8_97 C (show y + 20 + 3 * c < 221 from by omega) (s_ch hy (by omega)) dX8_tryHeap_19 ?_
      refine v_iload_n C 0 dX8_tryHeap_22 rfl ?_
      refine v_aload_n C 1 dX8_tryHeap_23 rfl ?_
      refine g_X8_97 C (show y + 20 + 3 * c < 221 from by omega) (s_ch hy (by omega)) dX8_tryHeap_24 ?_
      refine v_iload_n C 0 dX8_tryHeap_27 rfl ?_
      refine v_iald C (show y + 20 + 3 * c + 2 < 221 from by omega) (s_wt hy (by omega)) (by omega) (by decide) dX8_tryHeap_28 ?_
      refine v_top (Y (187 + 5 * c + h)) (hRq1.wt (by omega) (by omega)) ?_
      refine v_iconst C (nI 1) dX8_tryHeap_29 (by decide) ?_
      refine v_iadd C dX8_tryHeap_30 ?_
      refine v_bipush C (nI 99) dX8_tryHeap_31 (by decide) ?_
      refine v_mmin C hRm (by decide) ml_X8_189 (Nat.le_of_ble_eq_true rfl) dX8_tryHeap_33 ?_
      refine v_top (minS ((Y (187 + 5 * c + h)) + (nI 1)) (nI 99)) rfl ?_
      refine v_top (minS (nI 99) (Y (187 + 5 * c + h) + nI 1)) (minS_comm _ _) ?_
      refine v_iast C (show y + 20 + 3 * c + 2 < 221 from by omega) (s_wt hy (by omega)) (by omega) (by decide) dX8_tryHeap_36 ?_
      have hRq2 : YR (up2 Mq1 (y + 20 + 3 * c + 2) h (minS (nI 99) (Y (187 + 5 * c + h) + nI 1))) y (upd Y (187 + 5 * c + h) (minS (nI 99) (Y (187 + 5 * c + h) + nI 1))) n hN := hRq1.wwt (c := c) (o := h) (by omega) (by omega) (by omega) (YOk.t4 hY) (YOk.t5 hY) _
      have hFq2 : Fr y M (up2 Mq1 (y + 20 + 3 * c + 2) h (minS (nI 99) (Y (187 + 5 * c + h) + nI 1))) := hFq1.tr (Fr.up (y := y) _ (by omega))
      rw [show (upd Y (187 + 5 * c + h) (minS (nI 99) (Y (187 + 5 * c + h) + nI 1))) = lY1 Y c h from rfl] at hRq2
      refine v_aload_n C 2 dX8_tryHeap_37 rfl ?_
      refine v_iload_n C 3 dX8_tryHeap_38 rfl ?_
      refine v_iload_n C 0 dX8_tryHeap_39 rfl ?_
      refine n_callVi C hRm [.int (nI c), .int (nI h)] cw_X8_chance ml_X8_177 (show y < 221 from by omega) (s_y hy) (by decide) rfl (y_chance l G (up2 Mq1 (y + 20 + 3 * c + 2) h (minS (nI 99) (Y (187 + 5 * c + h) + nI 1))) y hy (lY1 Y c h) _ _ hRq2 (yk_l1 hY hc hh) c h (by omega) (by omega)) (by decide) rfl rfl (Nat.le_of_ble_eq_true rfl) dX8_tryHeap_40 (fun Mq3 hP_40 => ?_)
      obtain ⟨hRq3, hFq3⟩ := hP_40
      have hGq3 := hFq2.tr hFq3
      refine v_istore C [(4, .int (chS (lY1 Y c h) n h c)), (3, .int (nI h)), (2, .ref (gb G + (y + 20 + 3 * c))), (0, .ref (gb G + y)), (1, .int (nI c))] dX8_tryHeap_43 (by decide) rfl ?_
      refine v_aload_n C 3 dX8_tryHeap_45 rfl ?_
      refine v_aload_n C 3 dX8_tryHeap_46 rfl ?_
      refine g_X8_41 C (show y < 221 from by omega) (s_y hy) dX8_tryHeap_47 ?_
      refine v_top ((lY1 Y c h) 6) (hRq3.1.2.2.2.2.1) ?_
      refine v_ldc C (1103515245) kc_X8_192 dX8_tryHeap_50 ?_
      refine v_imul C dX8_tryHeap_52 ?_
      refine v_sipush C (nI 12345) dX8_tryHeap_53 (by decide) ?_
      refine v_iadd C dX8_tryHeap_56 ?_
      refine v_top (zN (lY1 Y c h)) (rfl) ?_
      refine p_X8_41 C (show y < 221 from by omega) (s_y hy) dX8_tryHeap_57 ?_
      have hRq4 : YR (up2 Mq3 y 9 (zN (lY1 Y c h))) y (upd (lY1 Y c h) (6) (zN (lY1 Y c h))) n hN := hRq3.wz (by omega) (YOk.t4 (yk_l1 hY hc hh)) (YOk.t5 (yk_l1 hY hc hh)) _
      have hFq4 : Fr y M (up2 Mq3 y 9 (zN (lY1 Y c h))) := hGq3.tr (Fr.up (y := y) _ (by omega))
      rw [show (upd (lY1 Y c h) (6) (zN (lY1 Y c h))) = lY2 Y c h from rfl] at hRq4
      refine v_aload_n C 3 dX8_tryHeap_60 rfl ?_
      refine g_X8_41 C (show y < 221 from by omega) (s_y hy) dX8_tryHeap_61 ?_
      refine v_top ((lY2 Y c h) 6) (hRq4.1.2.2.2.2.1) ?_
      refine v_top (zN (lY1 Y c h)) (upd_eq _ _ _) ?_
      refine v_bipush C (nI 8) dX8_tryHeap_64 (by decide) ?_
      refine v_iushr C dX8_tryHeap_66 ?_
      refine v_bipush C (nI 100) dX8_tryHeap_67 (by decide) ?_
      refine v_irem C dX8_tryHeap_69 (by decide) ?_
      refine v_top (remS (ush8 (zN (lY1 Y c h))) (nI 100)) (rfl) ?_
      refine v_iload C 0 dX8_tryHeap_70 rfl ?_
      refine v_icmp_ge C 82 dX8_tryHeap_72 rfl (fun h_72 => ?_) (fun h_72 => ?_)
      · skip
        refine v_aload_n C 2 dX8_tryHeap_82 rfl ?_
        refine v_aload_n C 2 dX8_tryHeap_83 rfl ?_
        refine g_X8_88 C (show y + 20 + 3 * c < 221 from by omega) (s_ch hy (by omega)) dX8_tryHeap_84 ?_
        refine v_top ((lY2 Y c h) (7 + 6 * c + 5)) (hRq4.ch (by omega) (by omega) (by omega)) ?_
        refine v_iconst C (nI 1) dX8_tryHeap_87 (by decide) ?_
        refine v_iadd C dX8_tryHeap_88 ?_
        refine v_ldc C (99999) kc_X8_197 dX8_tryHeap_89 ?_
        refine v_mmin C hRm (by decide) ml_X8_189 (Nat.le_of_ble_eq_true rfl) dX8_tryHeap_91 ?_
        refine v_top (minS (((lY2 Y c h) (7 + 6 * c + 5)) + (nI 1)) (99999)) rfl ?_
        refine v_top (minS (99999) ((lY2 Y c h) (7 + 6 * c + 5) + nI 1)) (minS_comm _ _) ?_
        refine p_X8_88 C (show y + 20 + 3 * c < 221 from by omega) (s_ch hy (by omega)) dX8_tryHeap_94 ?_
        have hRq5 : YR (up2 (up2 Mq3 y 9 (zN (lY1 Y c h))) (y + 20 + 3 * c) 5 (minS (99999) ((lY2 Y c h) (7 + 6 * c + 5) + nI 1))) y (upd (lY2 Y c h) (7 + 6 * c + 5) (minS (99999) ((lY2 Y c h) (7 + 6 * c + 5) + nI 1))) n hN := hRq4.wch (c := c) (f := 5) (by omega) (by omega) (by omega) (by omega) (YOk.t4 (yk_l2 hY hc hh)) (YOk.t5 (yk_l2 hY hc hh)) _
        have hFq5 : Fr y M (up2 (up2 Mq3 y 9 (zN (lY1 Y c h))) (y + 20 + 3 * c) 5 (minS (99999) ((lY2 Y c h) (7 + 6 * c + 5) + nI 1))) := hFq4.tr (Fr.up (y := y) _ (by omega))
        have hKq5 : YOk (upd (lY2 Y c h) (7 + 6 * c + 5) (minS (99999) ((lY2 Y c h) (7 + 6 * c + 5) + nI 1))) n hN := yk_upd (yk_l2 hY hc hh) _ (by omega) (fun _ _ => by omega) (fun _ _ => by omega)
        exact n_ret C hRt dX8_tryHeap_97 ⟨by rw [try_no (by omega) hb (Int32.not_lt.mpr h_72)]; exact hRq5, hFq5⟩
      · skip
        refine v_aload_n C 3 dX8_tryHeap_75 rfl ?_
        refine v_iload_n C 4 dX8_tryHeap_76 rfl ?_
        refine v_iload_n C 1 dX8_tryHeap_77 rfl ?_
        refine n_callVv C hRm [.int (nI c), .int (nI h)] cw_X8_place ml_X8_193 (show y < 221 from by omega) (s_y hy) (by decide) rfl (y_place l G (up2 Mq3 y 9 (zN (lY1 Y c h))) y hy (lY2 Y c h) _ _ hRq4 (yk_l2 hY hc hh) ((hI.to (Y' := lY2 Y c h) (fun d _ => l2_ap _ _ _ (by omega) (by omega)) (fun k _ => l2_ap _ _ _ (by omega) (by omega)) (fun k _ => l2_ap _ _ _ (by omega) (by omega))).1) c hc (nI h) (Or.inr ⟨h, hh, rfl⟩) (by rw [l2_ap _ _ _ (by omega) (by omega), hw]; exact fun z => nI_m1 h (by omega) z.symm)) (by decide) rfl rfl (Nat.le_of_ble_eq_true rfl) dX8_tryHeap_78 (fun Mq6 hP_78 => ?_)
        obtain ⟨hRq6, hFq6⟩ := hP_78
        have hGq6 := hFq4.tr hFq6
        exact n_ret C hRt dX8_tryHeap_81 ⟨by rw [try_in (by omega) hb (Int32.not_le.mp h_72)]; exact hRq6, hGq6⟩
set_option maxHeartbeats 4000000 in
set_option maxRecDepth 100000 in
theorem y_wearOut (l : Launch) (G : GC) (M : Mm) (y : Nat) (hy : yd y) (Y : Nat → Int32) (n hN : Nat) (hR : YR M y Y n hN) (hY : YOk Y n hN) (hI : yI Y n) (h : Nat) (hh : h < hN) : CV l G 6 yX8_wearOut cX8_wearOut 4 [.ref (gb G + y), .int (nI h)] M (YP M y (wearS Y n hN h) n hN) := by
  refine Con.of (by decide +kernel) (Nat.le_of_ble_eq_true rfl) ?_
  intro f C hRm hRt _
  have hyl : y + 60 < 221 := yd_lt hy (by decide)
  have hn2 := hY.1.2.1
  have h5 := hY.1.2.2.2
  have LW : ∀ (kk : Nat) (i : Nat) (X : Mm), n - i = kk → i ≤ n → fewP Y n h → YR X y (falC (fewN Y n h) n hN (mskA (fewN Y n h) (nI h) n) i) n hN → Fr y M X → fewN Y n h (167 + 4 * h + 3) = nI 5 → Vc f G NPh X 36 [(3, .int (nI i)), (0, .ref (gb G + y)), (1, .int (nI h)), (2, .ref (gb G + (y + 50 + h)))] [] := by
    intro kk
    induction kk using Nat.strongRecOn with
    | _ kk ihLW =>
      intro i X hkk hi hf hRX hFX h5q
      have hkN := yk_fewN (h := h) hY hh
      have hiN := fi_fewN (h := h) hY hI.1
      have hkX := yk_falC hkN (mskA (fewN Y n h) (nI h) n) i hi
      have hiX := fi_falC hkN hiN (mskA (fewN Y n h) (nI h) n) i hi
      refine v_iload_n C 0 dX8_wearOut_36 rfl ?_
      refine v_aload_n C 1 dX8_wearOut_37 rfl ?_
      refine g_X8_70 C (show y < 221 from by omega) (s_y hy) dX8_wearOut_38 ?_
      refine v_top (nI n) (hRX.n) ?_
      refine n_icmp_ge C (by omega) (by omega) 69 dX8_wearOut_41 rfl (fun h_41 => ?_) (fun h_41 => ?_)
      · skip
        have h9 : i = n := by omega
        subst h9
        exact n_ret C hRt dX8_wearOut_69 ⟨by unfold wearS; rw [if_pos h5q, fall_eq hkN hiN (by omega)]; exact hRX, hFX⟩
      · skip
        refine v_aload_n C 1 dX8_wearOut_44 rfl ?_
        refine g_X8_11 C (show y < 221 from by omega) (s_y hy) dX8_wearOut_45 ?_
        refine v_iload_n C 0 dX8_wearOut_48 rfl ?_
        refine v_aald C rfl (show y + 1 < 221 from by omega) (s_y1 hy) (by decide) (by decide) (show i < 10 from by omega) (by decide) (y + 20 + 3 * i) (by simp only [aOff] <;> omega) dX8_wearOut_49 ?_
        refine g_X8_82 C (show y + 20 + 3 * i < 221 from by omega) (s_ch hy (by omega)) dX8_wearOut_50 ?_
        refine v_top ((falC (fewN Y n h) n hN (mskA (fewN Y n h) (nI h) n) i) (7 + 6 * i + 4)) (hRX.at (by omega) (by omega)) ?_
        refine v_iload_n C 2 dX8_wearOut_53 rfl ?_
        refine v_icmp_ne C 63 dX8_wearOut_54 rfl (fun h_54 => ?_) (fun h_54 => ?_)
        · skip
          have hat : falC (fewN Y n h) n hN (mskA (fewN Y n h) (nI h) n) i (7 + 6 * i + 4) = fewN Y n h (7 + 6 * i + 4) := by rw [falC_at _ hn2 h5 _ i (by omega) i (by omega), if_neg (by omega)]
          have hbt : ¬ (mskA (fewN Y n h) (nI h) n).testBit i = true := fun z => h_54 (hat.trans ((msk_bit2 _ (nI h) n i).mp z).2)
          refine v_iinc C (nI (i + 1)) 0 [(3, .int (nI (i + 1))), (0, .ref (gb G + y)), (1, .int (nI h)), (2, .ref (gb G + (y + 50 + h)))] dX8_wearOut_63 rfl (nI_add _ _) (by decide) rfl ?_
          refine v_goto C 36 dX8_wearOut_66 rfl ?_
          refine v_sub [0, 1, 2, 3] [(3, .int (nI (i + 1))), (0, .ref (gb G + y)), (1, .int (nI h)), (2, .ref (gb G + (y + 50 + h)))] rfl ?_
          exact ihLW _ (by omega) (i + 1) X rfl (by omega) hf (by unfold falC; rw [if_neg hbt]; exact hRX) hFX h5q
        · skip
          have hat : falC (fewN Y n h) n hN (mskA (fewN Y n h) (nI h) n) i (7 + 6 * i + 4) = fewN Y n h (7 + 6 * i + 4) := by rw [falC_at _ hn2 h5 _ i (by omega) i (by omega), if_neg (by omega)]
          have hbt : (mskA (fewN Y n h) (nI h) n).testBit i = true := (msk_bit2 _ (nI h) n i).mpr ⟨by omega, hat.symm.trans h_54⟩
          refine v_aload_n C 1 dX8_wearOut_57 rfl ?_
          refine v_iload_n C 0 dX8_wearOut_58 rfl ?_
          refine v_iconst C (-1) dX8_wearOut_59 (by decide) ?_
          refine n_callVv C hRm [.int (nI i), .int (-1)] cw_X8_place ml_X8_193 (show y < 221 from by omega) (s_y hy) (by decide) rfl (y_place l G X y hy (falC (fewN Y n h) n hN (mskA (fewN Y n h) (nI h) n) i) _ _ hRX hkX hiX i (by omega) (-1) (Or.inl rfl) (fun z => nI_m1 h (by omega) (h_54.symm.trans z))) (by decide) rfl rfl (Nat.le_of_ble_eq_true rfl) dX8_wearOut_60 (fun Mq1 hP_60 => ?_)
          obtain ⟨hRq1, hFq1⟩ := hP_60
          have hGq1 := hFX.tr hFq1
          refine v_iinc C (nI (i + 1)) 0 [(3, .int (nI (i + 1))), (0, .ref (gb G + y)), (1, .int (nI h)), (2, .ref (gb G + (y + 50 + h)))] dX8_wearOut_63 rfl (nI_add _ _) (by decide) rfl ?_
          refine v_goto C 36 dX8_wearOut_66 rfl ?_
          refine v_sub [0, 1, 2, 3] [(3, .int (nI (i + 1))), (0, .ref (gb G + y)), (1, .int (nI h)), (2, .ref (gb G + (y + 50 + h)))] rfl ?_
          exact ihLW _ (by omega) (i + 1) Mq1 rfl (by omega) hf (by unfold falC; rw [if_pos hbt]; exact hRq1) hGq1 h5q
  show Vc f G NPh M 0 [(0, .ref (gb G + y)), (1, .int (nI h))] []
  refine v_aload_n C 0 dX8_wearOut_0 rfl ?_
  refine g_X8_19 C (show y < 221 from by omega) (s_y hy) dX8_wearOut_1 ?_
  refine v_iload_n C 1 dX8_wearOut_4 rfl ?_
  refine v_aald C rfl (show y + 2 < 221 from by omega) (s_y2 hy) (by decide) (by decide) (show h < 5 from by omega) (by decide) (y + 50 + h) (by simp only [aOff] <;> omega) dX8_wearOut_5 ?_
  refine v_astore_n C [(2, .ref (gb G + (y + 50 + h))), (0, .ref (gb G + y)), (1, .int (nI h))] dX8_wearOut_6 rfl (by decide) rfl ?_
  refine v_aload_n C 0 dX8_wearOut_7 rfl ?_
  refine n_callVp C hRm [] cw_X2_hasTooFew ml_X8_198 (show y + 50 + h < 221 from by omega) (s_hp hy (by omega)) (by decide) rfl (y_few l G M y hy Y _ _ hR hn2 h (by omega)) (by decide) rfl rfl (Nat.le_of_ble_eq_true rfl) dX8_wearOut_8 ?_
  refine nb_if_ne C 15 dX8_wearOut_11 rfl (fun h_11 => ?_) (fun h_11 => ?_)
  · skip
    have hf : fewP Y n h := (fewP_iff hn2).mpr h_11
    obtain ⟨f1, hf5, hf2⟩ := hI.2 h (by omega)
    have hf1 : fewN Y n h (167 + 4 * h + 3) = nI (f1 + 1) := by rw [fewN_t hf, upd_eq, hf2, nI_add]
    refine v_aload_n C 0 dX8_wearOut_15 rfl ?_
    refine v_dup C dX8_wearOut_16 rfl ?_
    refine g_X8_201 C (show y + 50 + h < 221 from by omega) (s_hp hy (by omega)) dX8_wearOut_17 ?_
    refine v_top (Y (167 + 4 * h + 3)) ((hR.hp (by omega)).2.2.1) ?_
    refine v_iconst C (nI 1) dX8_wearOut_20 (by decide) ?_
    refine v_iadd C dX8_wearOut_21 ?_
    refine p_X8_201 C (show y + 50 + h < 221 from by omega) (s_hp hy (by omega)) dX8_wearOut_22 ?_
    have hRq1 : YR (up2 M (y + 50 + h) 4 ((Y (167 + 4 * h + 3)) + (nI 1))) y (upd Y (167 + 4 * h + 3) ((Y (167 + 4 * h + 3)) + (nI 1))) n hN := hR.wfe (k := h) (by omega) (by omega) (YOk.t4 hY) (YOk.t5 hY) _
    have hFq1 : Fr y M (up2 M (y + 50 + h) 4 ((Y (167 + 4 * h + 3)) + (nI 1))) := Fr.up (y := y) _ (by omega)
    rw [show (upd Y (167 + 4 * h + 3) ((Y (167 + 4 * h + 3)) + (nI 1))) = fewN Y n h from (fewN_t hf).symm] at hRq1
    refine v_aload_n C 0 dX8_wearOut_25 rfl ?_
    refine g_X8_201 C (show y + 50 + h < 221 from by omega) (s_hp hy (by omega)) dX8_wearOut_26 ?_
    refine v_top ((fewN Y n h) (167 + 4 * h + 3)) ((hRq1.hp (by omega)).2.2.1) ?_
    refine v_top (nI (f1 + 1)) (hf1) ?_
    refine v_iconst C (nI 5) dX8_wearOut_29 (by decide) ?_
    refine n_icmp_ge C (by omega) (by omega) 34 dX8_wearOut_30 rfl (fun h_30 => ?_) (fun h_30 => ?_)
    · skip
      refine v_iconst C (nI 0) dX8_wearOut_34 (by decide) ?_
      refine v_istore_n C [(3, .int (nI 0)), (2, .ref (gb G + (y + 50 + h))), (0, .ref (gb G + y)), (1, .int (nI h))] dX8_wearOut_35 rfl (by decide) rfl ?_
      refine v_sub [0, 2, 3, 1] [(3, .int (nI 0)), (0, .ref (gb G + y)), (1, .int (nI h)), (2, .ref (gb G + (y + 50 + h)))] rfl ?_
      exact LW _ 0 (up2 M (y + 50 + h) 4 ((Y (167 + 4 * h + 3)) + (nI 1))) rfl (by omega) hf hRq1 hFq1 (by rw [hf1, show f1 + 1 = 5 by omega])
    · skip
      exact n_ret C hRt dX8_wearOut_33 ⟨by unfold wearS; rw [if_neg (by rw [hf1]; exact fun z => absurd ((nI_eq (by omega) (by decide)).mp z) (by omega))]; exact hRq1, hFq1⟩
  · skip
    exact n_ret C hRt dX8_wearOut_14 ⟨by rw [wear_no hI.1 (by omega) (fun z => h_11 ((fewP_iff hn2).mp z))]; exact hR, Fr.rf y M⟩
set_option maxHeartbeats 4000000 in
set_option maxRecDepth 100000 in
theorem y_pass (l : Launch) (G : GC) (M : Mm) (y : Nat) (hy : yd y) (Y : Nat → Int32) (n hN : Nat) (hR : YR M y Y n hN) (hY : YOk Y n hN) (hI : yI Y n) (t : Nat) (ht : t ≤ 60) : CV l G 7 yX8_pass cX8_pass 4 [.ref (gb G + y), .int (nI t)] M (YP M y (passS Y n hN t) n hN) := by
  refine Con.of (by decide +kernel) (Nat.le_of_ble_eq_true rfl) ?_
  intro f C hRm hRt _
  have hyl : y + 60 < 221 := yd_lt hy (by decide)
  have hn2 := hY.1.2.1
  have h5 := hY.1.2.2.2
  have LK : ∀ (kk : Nat) (k : Nat) (X : Mm), t - k = kk → k ≤ t → YR X y (passS Y n hN k) n hN → Fr y M X → Vc f G NPh X 2 [(2, .int (nI k)), (0, .ref (gb G + y)), (1, .int (nI t))] [] := by
    intro kk
    induction kk using Nat.strongRecOn with
    | _ kk ihLK =>
      intro k X hkk hk hRX hFX
      have hkY := yk_pass hY k
      have hiY := yi_pass hY hI k
      have hm2 : n ≤ 10 := hn2
      have hkt : k < t → True := fun _ => trivial
      by_cases hkt2 : k < t
      · have hkC := yk_minC hkY n (Nat.le_refl _)
        have hiC := yi_minC hkY hiY n (Nat.le_refl _)
        have LH : ∀ (kh : Nat) (h : Nat) (X1 : Mm), hN - h = kh → h ≤ hN → YR X1 y (minH (minC (passS Y n hN k) n hN n) n hN h) n hN → Fr y M X1 → Vc f G NPh X1 43 [(3, .int (nI h)), (2, .int (nI k)), (0, .ref (gb G + y)), (1, .int (nI t))] [] := by
          intro kh
          induction kh using Nat.strongRecOn with
          | _ kh ihLH =>
            intro h X1 hkh hh hR1 hF1
            have hkH := yk_minH hkC h hh
            have hiH := yi_minH hkC hiC h hh
            refine v_iload_n C 0 dX8_pass_43 rfl ?_
            refine v_aload_n C 2 dX8_pass_44 rfl ?_
            refine g_X8_73 C (show y < 221 from by omega) (s_y hy) dX8_pass_45 ?_
            refine v_top (nI hN) (hR1.hN) ?_
            refine n_icmp_ge C (by omega) (by omega) 62 dX8_pass_48 rfl (fun h_48 => ?_) (fun h_48 => ?_)
            · skip
              refine v_aload_n C 2 dX8_pass_62 rfl ?_
              refine v_dup C dX8_pass_63 rfl ?_
              refine g_X8_76 C (show y < 221 from by omega) (s_y hy) dX8_pass_64 ?_
              refine v_top ((minH (minC (passS Y n hN k) n hN n) n hN h) 2) (hR1.1.2.2.1) ?_
              refine v_iconst C (nI 1) dX8_pass_67 (by decide) ?_
              refine v_iadd C dX8_pass_68 ?_
              refine p_X8_76 C (show y < 221 from by omega) (s_y hy) dX8_pass_69 ?_
              have hRq1 : YR (up2 X1 y 7 (((minH (minC (passS Y n hN k) n hN n) n hN h) 2) + (nI 1))) y (upd (minH (minC (passS Y n hN k) n hN n) n hN h) (2) (((minH (minC (passS Y n hN k) n hN n) n hN h) 2) + (nI 1))) n hN := hR1.wmi (by omega) (YOk.t4 hkH) (YOk.t5 hkH) _
              have hFq1 : Fr y M (up2 X1 y 7 (((minH (minC (passS Y n hN k) n hN n) n hN h) 2) + (nI 1))) := hF1.tr (Fr.up (y := y) _ (by omega))
              rw [show (upd (minH (minC (passS Y n hN k) n hN n) n hN h) (2) (((minH (minC (passS Y n hN k) n hN n) n hN h) 2) + (nI 1))) = passS Y n hN (k + 1) from (by have h9 : h = hN := (by omega); subst h9; rfl)] at hRq1
              refine v_iinc C (nI (k + 1)) 1 [(2, .int (nI (k + 1))), (3, .int (nI h)), (0, .ref (gb G + y)), (1, .int (nI t))] dX8_pass_72 rfl (nI_add _ _) (by decide) rfl ?_
              refine v_goto C 2 dX8_pass_75 rfl ?_
              refine v_sub [0, 2, 3] [(2, .int (nI (k + 1))), (0, .ref (gb G + y)), (1, .int (nI t))] rfl ?_
              exact ihLK _ (by omega) (k + 1) (up2 X1 y 7 (((minH (minC (passS Y n hN k) n hN n) n hN h) 2) + (nI 1))) rfl (by omega) (by exact hRq1) hFq1
            · skip
              refine v_aload_n C 2 dX8_pass_51 rfl ?_
              refine v_iload_n C 0 dX8_pass_52 rfl ?_
              refine n_callVv C hRm [.int (nI h)] cw_X8_wearOut ml_X8_183 (show y < 221 from by omega) (s_y hy) (by decide) rfl (y_wearOut l G X1 y hy (minH (minC (passS Y n hN k) n hN n) n hN h) _ _ hR1 hkH hiH h (by omega)) (by decide) rfl rfl (Nat.le_of_ble_eq_true rfl) dX8_pass_53 (fun Mq2 hP_53 => ?_)
              obtain ⟨hRq2, hFq2⟩ := hP_53
              have hGq2 := hF1.tr hFq2
              refine v_iinc C (nI (h + 1)) 0 [(3, .int (nI (h + 1))), (2, .int (nI k)), (0, .ref (gb G + y)), (1, .int (nI t))] dX8_pass_56 rfl (nI_add _ _) (by decide) rfl ?_
              refine v_goto C 43 dX8_pass_59 rfl ?_
              refine v_sub [0, 1, 2, 3] [(3, .int (nI (h + 1))), (2, .int (nI k)), (0, .ref (gb G + y)), (1, .int (nI t))] rfl ?_
              exact ihLH _ (by omega) (h + 1) Mq2 rfl (by omega) (by rw [minH_wear]; exact hRq2) hGq2
        have LC : ∀ (kc : Nat) (c : Nat) (X2 : Mm), n - c = kc → c ≤ n → YR X2 y (minC (passS Y n hN k) n hN c) n hN → Fr y M X2 → Vc f G NPh X2 9 [(3, .int (nI c)), (2, .int (nI k)), (0, .ref (gb G + y)), (1, .int (nI t))] [] := by
          intro kc
          induction kc using Nat.strongRecOn with
          | _ kc ihLC =>
            intro c X2 hkc hc hR2 hF2
            have hkM := yk_minC hkY c hc
            have hiM := yi_minC hkY hiY c hc
            refine v_iload_n C 0 dX8_pass_9 rfl ?_
            refine v_aload_n C 2 dX8_pass_10 rfl ?_
            refine g_X8_70 C (show y < 221 from by omega) (s_y hy) dX8_pass_11 ?_
            refine v_top (nI n) (hR2.n) ?_
            refine n_icmp_ge C (by omega) (by omega) 41 dX8_pass_14 rfl (fun h_14 => ?_) (fun h_14 => ?_)
            · skip
              refine v_iconst C (nI 0) dX8_pass_41 (by decide) ?_
              refine v_istore_n C [(3, .int (nI 0)), (2, .int (nI k)), (0, .ref (gb G + y)), (1, .int (nI t))] dX8_pass_42 rfl (by decide) rfl ?_
              have hi_eq : YR X2 y (minH (minC (passS Y n hN k) n hN n) n hN 0) n hN := by (have h9 : c = n := (by omega)); subst h9; exact hR2
              refine v_sub [0, 1, 2, 3] [(3, .int (nI 0)), (2, .int (nI k)), (0, .ref (gb G + y)), (1, .int (nI t))] rfl ?_
              exact LH _ 0 X2 rfl (by omega) hi_eq hF2
            · skip
              refine v_aload_n C 2 dX8_pass_17 rfl ?_
              refine g_X8_11 C (show y < 221 from by omega) (s_y hy) dX8_pass_18 ?_
              refine v_iload_n C 0 dX8_pass_21 rfl ?_
              refine v_aald C rfl (show y + 1 < 221 from by omega) (s_y1 hy) (by decide) (by decide) (show c < 10 from by omega) (by decide) (y + 20 + 3 * c) (by simp only [aOff] <;> omega) dX8_pass_22 ?_
              refine g_X8_82 C (show y + 20 + 3 * c < 221 from by omega) (s_ch hy (by omega)) dX8_pass_23 ?_
              refine v_top ((minC (passS Y n hN k) n hN c) (7 + 6 * c + 4)) (hR2.at (by omega) (by omega)) ?_
              refine v_iconst C (-1) dX8_pass_26 (by decide) ?_
              refine v_icmp_ne C 35 dX8_pass_27 rfl (fun h_27 => ?_) (fun h_27 => ?_)
              · skip
                have hat3 := hkM.2.2.1 c (by omega)
                have hat0 : ¬ minC (passS Y n hN k) n hN c (7 + 6 * c + 4) = -1 → 0 ≤ minC (passS Y n hN k) n hN c (7 + 6 * c + 4) := fun z => hat3.elim (fun q => absurd q z) (fun q => by obtain ⟨a, ha, hb⟩ := q; rw [hb]; exact nn_nI a (by omega))
                refine v_iinc C (nI (c + 1)) 0 [(3, .int (nI (c + 1))), (2, .int (nI k)), (0, .ref (gb G + y)), (1, .int (nI t))] dX8_pass_35 rfl (nI_add _ _) (by decide) rfl ?_
                refine v_goto C 9 dX8_pass_38 rfl ?_
                refine v_sub [0, 1, 2, 3] [(3, .int (nI (c + 1))), (2, .int (nI k)), (0, .ref (gb G + y)), (1, .int (nI t))] rfl ?_
                exact ihLC _ (by omega) (c + 1) X2 rfl (by omega) (by rw [minC_try, if_pos (hat0 h_27)]; exact hR2) hF2
              · skip
                have hat3 := hkM.2.2.1 c (by omega)
                have hatn : minC (passS Y n hN k) n hN c (7 + 6 * c + 4) = -1 → ¬ 0 ≤ minC (passS Y n hN k) n hN c (7 + 6 * c + 4) := fun z => by rw [z]; decide
                refine v_aload_n C 2 dX8_pass_30 rfl ?_
                refine v_iload_n C 0 dX8_pass_31 rfl ?_
                refine n_callVv C hRm [.int (nI c)] cw_X8_tryHeap ml_X8_180 (show y < 221 from by omega) (s_y hy) (by decide) rfl (y_tryHeap l G X2 y hy (minC (passS Y n hN k) n hN c) _ _ hR2 hkM hiM c (by omega) h_27) (by decide) rfl rfl (Nat.le_of_ble_eq_true rfl) dX8_pass_32 (fun Mq1 hP_32 => ?_)
                obtain ⟨hRq1, hFq1⟩ := hP_32
                have hGq1 := hF2.tr hFq1
                refine v_iinc C (nI (c + 1)) 0 [(3, .int (nI (c + 1))), (2, .int (nI k)), (0, .ref (gb G + y)), (1, .int (nI t))] dX8_pass_35 rfl (nI_add _ _) (by decide) rfl ?_
                refine v_goto C 9 dX8_pass_38 rfl ?_
                refine v_sub [0, 1, 2, 3] [(3, .int (nI (c + 1))), (2, .int (nI k)), (0, .ref (gb G + y)), (1, .int (nI t))] rfl ?_
                exact ihLC _ (by omega) (c + 1) Mq1 rfl (by omega) (by rw [minC_try, if_neg (hatn h_27)]; exact hRq1) hGq1
        refine v_iload_n C 0 dX8_pass_2 rfl ?_
        refine v_iload_n C 2 dX8_pass_3 rfl ?_
        refine n_icmp_ge C (by omega) (by omega) 78 dX8_pass_4 rfl (fun h_4 => ?_) (fun h_4 => ?_)
        · skip
          exact absurd hkt2 (by omega)
        · skip
          refine v_iconst C (nI 0) dX8_pass_7 (by decide) ?_
          refine v_istore_n C [(3, .int (nI 0)), (2, .int (nI k)), (0, .ref (gb G + y)), (1, .int (nI t))] dX8_pass_8 rfl (by decide) rfl ?_
          refine v_sub [0, 1, 2, 3] [(3, .int (nI 0)), (2, .int (nI k)), (0, .ref (gb G + y)), (1, .int (nI t))] rfl ?_
          exact LC _ 0 X rfl (by omega) hRX hFX
      · have h9 : k = t := by omega
        subst h9
        refine v_iload_n C 0 dX8_pass_2 rfl ?_
        refine v_iload_n C 2 dX8_pass_3 rfl ?_
        refine n_icmp_ge C (by omega) (by omega) 78 dX8_pass_4 rfl (fun h_4 => ?_) (fun h_4 => ?_)
        · skip
          exact n_ret C hRt dX8_pass_78 ⟨hRX, hFX⟩
        · skip
          exact absurd h_4 (by omega)
  show Vc f G NPh M 0 [(0, .ref (gb G + y)), (1, .int (nI t))] []
  refine v_iconst C (nI 0) dX8_pass_0 (by decide) ?_
  refine v_istore_n C [(2, .int (nI 0)), (0, .ref (gb G + y)), (1, .int (nI t))] dX8_pass_1 rfl (by decide) rfl ?_
  refine v_sub [0, 1, 2] [(2, .int (nI 0)), (0, .ref (gb G + y)), (1, .int (nI t))] rfl ?_
  exact LK _ 0 M rfl (by omega) hR (Fr.rf y M)
