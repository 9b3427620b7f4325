/-! A yard at y (1, 62, 123) of the class represents Y, the reference's row of numbers. -/
abbrev yd (y : Nat) : Prop := y = 1 ∨ y = 62 ∨ y = 123
theorem s_y {y : Nat} (hy : yd y) : shp y = 8 := by rcases hy with h | h | h <;> subst h <;> decide +kernel
theorem s_y1 {y : Nat} (hy : yd y) : shp (y + 1) = 20 := by rcases hy with h | h | h <;> subst h <;> decide +kernel
theorem s_y2 {y : Nat} (hy : yd y) : shp (y + 2) = 21 := by rcases hy with h | h | h <;> subst h <;> decide +kernel
theorem s_y3 {y : Nat} (hy : yd y) : shp (y + 3) = 22 := by rcases hy with h | h | h <;> subst h <;> decide +kernel
theorem s_y4 {y : Nat} (hy : yd y) : shp (y + 4) = 4 := by rcases hy with h | h | h <;> subst h <;> decide +kernel
theorem s_y41 {y : Nat} (hy : yd y) : shp (y + 4 + 1) = 1000 + 60 := by rcases hy with h | h | h <;> subst h <;> decide +kernel
theorem s_y6 {y : Nat} (hy : yd y) : shp (y + 6) = 4 := by rcases hy with h | h | h <;> subst h <;> decide +kernel
theorem s_y61 {y : Nat} (hy : yd y) : shp (y + 6 + 1) = 1000 + 24 := by rcases hy with h | h | h <;> subst h <;> decide +kernel
theorem s_y8 {y : Nat} (hy : yd y) : shp (y + 8) = 1000 + 5 := by rcases hy with h | h | h <;> subst h <;> decide +kernel
theorem s_y9 {y : Nat} (hy : yd y) : shp (y + 9) = 24 := by rcases hy with h | h | h <;> subst h <;> decide +kernel
theorem s_mv {y c : Nat} (hy : yd y) (hc : c < 10) : shp (y + 10 + c) = 1000 + 10 := by rcases hy with h | h | h <;> subst h <;> revert c <;> decide +kernel
theorem s_ch {y c : Nat} (hy : yd y) (hc : c < 10) : shp (y + 20 + 3 * c) = 0 := by rcases hy with h | h | h <;> subst h <;> revert c <;> decide +kernel
theorem s_lk {y c : Nat} (hy : yd y) (hc : c < 10) : shp (y + 20 + 3 * c + 1) = 1000 + 10 := by rcases hy with h | h | h <;> subst h <;> revert c <;> decide +kernel
theorem s_wt {y c : Nat} (hy : yd y) (hc : c < 10) : shp (y + 20 + 3 * c + 2) = 1000 + 5 := by rcases hy with h | h | h <;> subst h <;> revert c <;> decide +kernel
theorem s_hp {y h : Nat} (hy : yd y) (hh : h < 5) : shp (y + 50 + h) = 2 := by rcases hy with q | q | q <;> subst q <;> revert h <;> decide +kernel
theorem s_tx {y u : Nat} (hy : yd y) (hu : u < 2) : shp (y + 55 + 3 * u) = 7 := by rcases hy with q | q | q <;> subst q <;> revert u <;> decide +kernel
theorem s_ts {y u : Nat} (hy : yd y) (hu : u < 2) : shp (y + 55 + 3 * u + 1) = 1000 + 60 := by rcases hy with q | q | q <;> subst q <;> revert u <;> decide +kernel
theorem s_tl {y u : Nat} (hy : yd y) (hu : u < 2) : shp (y + 55 + 3 * u + 2) = 1000 + 60 := by rcases hy with q | q | q <;> subst q <;> revert u <;> decide +kernel
theorem yd_lt {y : Nat} (hy : yd y) {k : Nat} (hk : k < 61) : y + k < 221 := by rcases hy with q | q | q <;> subst q <;> omega
/-- the class's step of a code of the reference -/
def sgC (i : Nat) : Nat := match i with
  | 0 => 124
  | 1 => 38
  | 2 => 60
  | 3 => 61
  | 4 => 62
  | 5 => 43
  | 6 => 45
  | 7 => 42
  | 8 => 47
  | 9 => 37
  | _ => 33
def cvC (x : Nat) : Nat := if x < 20000 then x else 20000 + sgC (x - 20000)
def yrA (M : Mm) (y : Nat) (Y : Nat → Int32) (n hN : Nat) : Prop := M y 5 = nI n ∧ M y 6 = nI hN ∧ M y 7 = Y 2 ∧ M y 8 = Y 3 ∧ M y 9 = Y 6 ∧ M (y + 4) 1 = Y 4 ∧ M (y + 6) 1 = Y 5
def yrB (M : Mm) (y : Nat) (Y : Nat → Int32) : Prop := ∀ c, c < 10 → ∀ f, f < 6 → f ≠ 4 → M (y + 20 + 3 * c) f = Y (7 + 6 * c + f)
def yrC (M : Mm) (y : Nat) (Y : Nat → Int32) (n : Nat) : Prop := ∀ c, c < 10 → M (y + 20 + 3 * c) 4 = if c < n then Y (7 + 6 * c + 4) else -1
def yrD (M : Mm) (y : Nat) (Y : Nat → Int32) : Prop := ∀ c, c < 10 → ∀ o, o < 10 → M (y + 20 + 3 * c + 1) o = Y (67 + 10 * c + o)
def yrE (M : Mm) (y : Nat) (Y : Nat → Int32) : Prop := ∀ c, c < 10 → ∀ h, h < 5 → M (y + 20 + 3 * c + 2) h = Y (187 + 5 * c + h)
def yrF (M : Mm) (y : Nat) (Y : Nat → Int32) (hN : Nat) : Prop := ∀ h, h < 5 → M (y + 50 + h) 0 = Y (167 + 4 * h + 0) ∧ M (y + 50 + h) 1 = Y (167 + 4 * h + 1) ∧ M (y + 50 + h) 4 = Y (167 + 4 * h + 3) ∧ M (y + 50 + h) 2 = if h < hN then Y (167 + 4 * h + 2) else nI 30
def yrG (M : Mm) (y : Nat) (Y : Nat → Int32) (n : Nat) : Prop := ∀ h, h < 5 → M (y + 50 + h) 3 = nI (mskA Y (nI h) n)
def yrH (M : Mm) (y : Nat) (Y : Nat → Int32) : Prop := (∀ k, k < cN Y 4 → M (y + 4 + 1) k = Y (237 + k)) ∧ ∀ k, k < cN Y 5 → M (y + 6 + 1) k = Y (297 + k)
def yrI (M : Mm) (y : Nat) (Y : Nat → Int32) : Prop := ∀ u, u < 2 → M (y + 55 + 3 * u) 2 = Y (321 + 62 * u) ∧ ∀ k, k < cN Y (321 + 62 * u) → M (y + 55 + 3 * u + 1) k = nI (cvC (cN Y (321 + 62 * u + 1 + k)))
def YR (M : Mm) (y : Nat) (Y : Nat → Int32) (n hN : Nat) : Prop := yrA M y Y n hN ∧ yrB M y Y ∧ yrC M y Y n ∧ yrD M y Y ∧ yrE M y Y ∧ yrF M y Y hN ∧ yrG M y Y n ∧ yrH M y Y ∧ yrI M y Y
/-- what lies outside the yard is as it was -/
def Fr (y : Nat) (M M' : Mm) : Prop := ∀ a, a < y ∨ y + 61 ≤ a → M' a = M a
theorem Fr.rf (y : Nat) (M : Mm) : Fr y M M := fun _ _ => rfl
theorem Fr.tr {y : Nat} {A B C : Mm} (h : Fr y A B) (h2 : Fr y B C) : Fr y A C := fun a q => (h2 a q).trans (h a q)
theorem Fr.up {y : Nat} (M : Mm) {k i : Nat} {v : Int32} (h : y ≤ k ∧ k < y + 61) : Fr y M (up2 M k i v) := fun a q => up2_ne M _ _ (by omega)
theorem Fr.upA {y : Nat} (M : Mm) {k : Nat} {g : Nat → Int32} (h : y ≤ k ∧ k < y + 61) : Fr y M (upA M k g) := fun a q => upA_ne M _ (by omega)
abbrev YP (M : Mm) (y : Nat) (Y : Nat → Int32) (n hN : Nat) : Mm → Prop := fun M' => YR M' y Y n hN ∧ Fr y M M'
theorem YR.n {M : Mm} {y : Nat} {Y : Nat → Int32} {n hN : Nat} (h : YR M y Y n hN) : M y 5 = nI n := h.1.1
theorem YR.hN {M : Mm} {y : Nat} {Y : Nat → Int32} {n hN : Nat} (h : YR M y Y n hN) : M y 6 = nI hN := h.1.2.1
theorem YR.ch {M : Mm} {y : Nat} {Y : Nat → Int32} {n hN : Nat} (h : YR M y Y n hN) {c : Nat} (hc : c < 10) {f : Nat} (hf : f < 6) (h4 : f ≠ 4) : M (y + 20 + 3 * c) f = Y (7 + 6 * c + f) := h.2.1 c hc f hf h4
theorem YR.at {M : Mm} {y : Nat} {Y : Nat → Int32} {n hN : Nat} (h : YR M y Y n hN) {c : Nat} (hc : c < n) (h10 : c < 10) : M (y + 20 + 3 * c) 4 = Y (7 + 6 * c + 4) := (h.2.2.1 c h10).trans (if_pos hc)
theorem YR.lk {M : Mm} {y : Nat} {Y : Nat → Int32} {n hN : Nat} (h : YR M y Y n hN) {c o : Nat} (hc : c < 10) (ho : o < 10) : M (y + 20 + 3 * c + 1) o = Y (67 + 10 * c + o) := h.2.2.2.1 c hc o ho
theorem YR.wt {M : Mm} {y : Nat} {Y : Nat → Int32} {n hN : Nat} (h : YR M y Y n hN) {c o : Nat} (hc : c < 10) (ho : o < 5) : M (y + 20 + 3 * c + 2) o = Y (187 + 5 * c + o) := h.2.2.2.2.1 c hc o ho
theorem YR.hp {M : Mm} {y : Nat} {Y : Nat → Int32} {n hN : Nat} (h : YR M y Y n hN) {k : Nat} (hk : k < 5) : M (y + 50 + k) 0 = Y (167 + 4 * k + 0) ∧ M (y + 50 + k) 1 = Y (167 + 4 * k + 1) ∧ M (y + 50 + k) 4 = Y (167 + 4 * k + 3) ∧ M (y + 50 + k) 2 = if k < hN then Y (167 + 4 * k + 2) else nI 30 := h.2.2.2.2.2.1 k hk
theorem YR.ins {M : Mm} {y : Nat} {Y : Nat → Int32} {n hN : Nat} (h : YR M y Y n hN) {k : Nat} (hk : k < 5) : M (y + 50 + k) 3 = nI (mskA Y (nI k) n) := h.2.2.2.2.2.2.1 k hk
theorem YR.tp {M : Mm} {y : Nat} {Y : Nat → Int32} {n hN : Nat} (h : YR M y Y n hN) : yrH M y Y := h.2.2.2.2.2.2.2.1
theorem YR.tx {M : Mm} {y : Nat} {Y : Nat → Int32} {n hN : Nat} (h : YR M y Y n hN) : yrI M y Y := h.2.2.2.2.2.2.2.2
theorem msk_upd (Y : Nat → Int32) (i : Nat) (v h : Int32) : ∀ n, (∀ c, c < n → i ≠ 7 + 6 * c + 4) → mskA (upd Y i v) h n = mskA Y h n
  | 0, _ => rfl
  | c + 1, hi => by
    unfold mskA
    rw [msk_upd Y i v h c (fun q hq => hi q (by omega)), upd_ne _ _ (fun q => hi c (Nat.lt_succ_self c) q.symm)]
theorem cN_upd (Y : Nat → Int32) {i j : Nat} (v : Int32) (h : j ≠ i) : cN (upd Y i v) j = cN Y j := by unfold cN; rw [upd_ne _ _ h]
/-- scratch: a cell that represents nothing -/
theorem YR.scr {M : Mm} {y : Nat} {Y : Nat → Int32} {n hN : Nat} (h : YR M y Y n hN) {M' : Mm} {k : Nat} (hM : ∀ a, a ≠ k → M' a = M a) (hk : (y + 8 ≤ k ∧ k < y + 20) ∨ k = y + 57 ∨ k = y + 60 ∨ k < y ∨ y + 61 ≤ k) : YR M' y Y n hN := by
  obtain ⟨⟨a1, a2, a3, a4, a5, a6, a7⟩, hb, hc, hd, he, hf, hg, ⟨hh1, hh2⟩, hi⟩ := h
  refine ⟨⟨?_, ?_, ?_, ?_, ?_, ?_, ?_⟩, fun c q f q2 q3 => ?_, fun c q => ?_, fun c q o q2 => ?_, fun c q o q2 => ?_, fun x q => ?_, fun x q => ?_, ⟨fun x q => ?_, fun x q => ?_⟩, fun x q => ⟨?_, fun z q2 => ?_⟩⟩
  · rw [hM _ (by omega)]; exact a1
  · rw [hM _ (by omega)]; exact a2
  · rw [hM _ (by omega)]; exact a3
  · rw [hM _ (by omega)]; exact a4
  · rw [hM _ (by omega)]; exact a5
  · rw [hM _ (by omega)]; exact a6
  · rw [hM _ (by omega)]; exact a7
  · rw [hM _ (by omega)]; exact hb c q f q2 q3
  · rw [hM _ (by omega)]; exact hc c q
  · rw [hM _ (by omega)]; exact hd c q o q2
  · rw [hM _ (by omega)]; exact he c q o q2
  · rw [hM _ (by omega)]; exact hf x q
  · rw [hM _ (by omega)]; exact hg x q
  · rw [hM _ (by omega)]; exact hh1 x q
  · rw [hM _ (by omega)]; exact hh2 x q
  · rw [hM _ (by omega)]; exact (hi x q).1
  · rw [hM _ (by omega)]; exact (hi x q).2 z q2
theorem YR.fr {M M' : Mm} {y : Nat} {Y : Nat → Int32} {n hN : Nat} (h : YR M y Y n hN) (hM : ∀ a, y ≤ a → a < y + 61 → M' a = M a) : YR M' y Y n hN := by
  obtain ⟨⟨a1, a2, a3, a4, a5, a6, a7⟩, hb, hc, hd, he, hf, hg, ⟨hh1, hh2⟩, hi⟩ := h
  refine ⟨⟨?_, ?_, ?_, ?_, ?_, ?_, ?_⟩, fun c q f q2 q3 => ?_, fun c q => ?_, fun c q o q2 => ?_, fun c q o q2 => ?_, fun x q => ?_, fun x q => ?_, ⟨fun x q => ?_, fun x q => ?_⟩, fun x q => ⟨?_, fun z q2 => ?_⟩⟩
  · rw [hM _ (by omega) (by omega)]; exact a1
  · rw [hM _ (by omega) (by omega)]; exact a2
  · rw [hM _ (by omega) (by omega)]; exact a3
  · rw [hM _ (by omega) (by omega)]; exact a4
  · rw [hM _ (by omega) (by omega)]; exact a5
  · rw [hM _ (by omega) (by omega)]; exact a6
  · rw [hM _ (by omega) (by omega)]; exact a7
  · rw [hM _ (by omega) (by omega)]; exact hb c q f q2 q3
  · rw [hM _ (by omega) (by omega)]; exact hc c q
  · rw [hM _ (by omega) (by omega)]; exact hd c q o q2
  · rw [hM _ (by omega) (by omega)]; exact he c q o q2
  · rw [hM _ (by omega) (by omega)]; exact hf x q
  · rw [hM _ (by omega) (by omega)]; exact hg x q
  · rw [hM _ (by omega) (by omega)]; exact hh1 x q
  · rw [hM _ (by omega) (by omega)]; exact hh2 x q
  · rw [hM _ (by omega) (by omega)]; exact (hi x q).1
  · rw [hM _ (by omega) (by omega)]; exact (hi x q).2 z q2
set_option maxHeartbeats 4000000 in
set_option maxRecDepth 100000 in
theorem YR.wch {M : Mm} {y : Nat} {Y : Nat → Int32} {n hN : Nat} (h : YR M y Y n hN) {c f : Nat} (hc1 : c < 10) (hf1 : f < 6) (h4 : f ≠ 4) (hn10 : n ≤ 10) (ht : cN Y 4 ≤ 60) (hw : cN Y 5 ≤ 24) (v : Int32) : YR (up2 M (y + 20 + 3 * c) f v) y (upd Y (7 + 6 * c + f) v) n hN := by
  obtain ⟨⟨a1, a2, a3, a4, a5, a6, a7⟩, hb, hc, hd, he, hf, hg, ⟨hh1, hh2⟩, hi⟩ := h
  refine ⟨⟨?_, ?_, ?_, ?_, ?_, ?_, ?_⟩, fun c' q f' q2 q3 => ?_, fun c' q => ?_, fun c' q o' q2 => ?_, fun c' q o' q2 => ?_, fun x' q => ⟨?_, ?_, ?_, ?_⟩, fun x' q => ?_, ⟨fun x' q => ?_, fun x' q => ?_⟩, fun x' q => ⟨?_, fun z' q2 => ?_⟩⟩
  · rw [up2_ap]; (try unfold upd); split <;> (try split) <;> first | rfl | exact a1 | (exfalso; omega)
  · rw [up2_ap]; (try unfold upd); split <;> (try split) <;> first | rfl | exact a2 | (exfalso; omega)
  · rw [up2_ap]; (try unfold upd); split <;> (try split) <;> first | rfl | exact a3 | (exfalso; omega)
  · rw [up2_ap]; (try unfold upd); split <;> (try split) <;> first | rfl | exact a4 | (exfalso; omega)
  · rw [up2_ap]; (try unfold upd); split <;> (try split) <;> first | rfl | exact a5 | (exfalso; omega)
  · rw [up2_ap]; (try unfold upd); split <;> (try split) <;> first | rfl | exact a6 | (exfalso; omega)
  · rw [up2_ap]; (try unfold upd); split <;> (try split) <;> first | rfl | exact a7 | (exfalso; omega)
  · rw [up2_ap]; (try unfold upd); split <;> (try split) <;> first | rfl | exact hb c' q f' q2 q3 | (exfalso; omega)
  · rw [up2_ap, upd_ne _ _ (by omega), if_neg (by omega)]; exact hc c' q
  · rw [up2_ap]; (try unfold upd); split <;> (try split) <;> first | rfl | exact hd c' q o' q2 | (exfalso; omega)
  · rw [up2_ap]; (try unfold upd); split <;> (try split) <;> first | rfl | exact he c' q o' q2 | (exfalso; omega)
  · rw [up2_ap]; (try unfold upd); split <;> (try split) <;> first | rfl | exact (hf x' q).1 | (exfalso; omega)
  · rw [up2_ap]; (try unfold upd); split <;> (try split) <;> first | rfl | exact (hf x' q).2.1 | (exfalso; omega)
  · rw [up2_ap]; (try unfold upd); split <;> (try split) <;> first | rfl | exact (hf x' q).2.2.1 | (exfalso; omega)
  · rw [up2_ap]; unfold upd; split <;> (try split) <;> (try split) <;> first | rfl | (exfalso; omega) | (have h9 := (hf x' q).2.2.2; first | (rw [if_pos (by assumption)] at h9; exact h9) | (rw [if_neg (by assumption)] at h9; exact h9))
  · rw [up2_ap, msk_upd _ _ _ _ _ (fun _ _ => by omega), if_neg (by omega)]; exact hg x' q
  · rw [cN_upd _ _ (by omega)] at q; rw [up2_ap, upd_ne _ _ (by omega), if_neg (by omega)]; exact hh1 x' q
  · rw [cN_upd _ _ (by omega)] at q; rw [up2_ap, upd_ne _ _ (by omega), if_neg (by omega)]; exact hh2 x' q
  · rw [up2_ap, upd_ne _ _ (by omega), if_neg (by omega)]; exact (hi x' q).1
  · rw [cN_upd _ _ (by omega)] at q2; rw [cN_upd _ _ (by omega), up2_ap, if_neg (by omega)]; exact (hi x' q).2 z' q2
set_option maxHeartbeats 4000000 in
set_option maxRecDepth 100000 in
theorem YR.wlk {M : Mm} {y : Nat} {Y : Nat → Int32} {n hN : Nat} (h : YR M y Y n hN) {c o : Nat} (hc1 : c < 10) (ho1 : o < 10) (hn10 : n ≤ 10) (ht : cN Y 4 ≤ 60) (hw : cN Y 5 ≤ 24) (v : Int32) : YR (up2 M (y + 20 + 3 * c + 1) o v) y (upd Y (67 + 10 * c + o) v) n hN := by
  obtain ⟨⟨a1, a2, a3, a4, a5, a6, a7⟩, hb, hc, hd, he, hf, hg, ⟨hh1, hh2⟩, hi⟩ := h
  refine ⟨⟨?_, ?_, ?_, ?_, ?_, ?_, ?_⟩, fun c' q f' q2 q3 => ?_, fun c' q => ?_, fun c' q o' q2 => ?_, fun c' q o' q2 => ?_, fun x' q => ⟨?_, ?_, ?_, ?_⟩, fun x' q => ?_, ⟨fun x' q => ?_, fun x' q => ?_⟩, fun x' q => ⟨?_, fun z' q2 => ?_⟩⟩
  · rw [up2_ap]; (try unfold upd); split <;> (try split) <;> first | rfl | exact a1 | (exfalso; omega)
  · rw [up2_ap]; (try unfold upd); split <;> (try split) <;> first | rfl | exact a2 | (exfalso; omega)
  · rw [up2_ap]; (try unfold upd); split <;> (try split) <;> first | rfl | exact a3 | (exfalso; omega)
  · rw [up2_ap]; (try unfold upd); split <;> (try split) <;> first | rfl | exact a4 | (exfalso; omega)
  · rw [up2_ap]; (try unfold upd); split <;> (try split) <;> first | rfl | exact a5 | (exfalso; omega)
  · rw [up2_ap]; (try unfold upd); split <;> (try split) <;> first | rfl | exact a6 | (exfalso; omega)
  · rw [up2_ap]; (try unfold upd); split <;> (try split) <;> first | rfl | exact a7 | (exfalso; omega)
  · rw [up2_ap]; (try unfold upd); split <;> (try split) <;> first | rfl | exact hb c' q f' q2 q3 | (exfalso; omega)
  · rw [up2_ap, upd_ne _ _ (by omega), if_neg (by omega)]; exact hc c' q
  · rw [up2_ap]; (try unfold upd); split <;> (try split) <;> first | rfl | exact hd c' q o' q2 | (exfalso; omega)
  · rw [up2_ap]; (try unfold upd); split <;> (try split) <;> first | rfl | exact he c' q o' q2 | (exfalso; omega)
  · rw [up2_ap]; (try unfold upd); split <;> (try split) <;> first | rfl | exact (hf x' q).1 | (exfalso; omega)
  · rw [up2_ap]; (try unfold upd); split <;> (try split) <;> first | rfl | exact (hf x' q).2.1 | (exfalso; omega)
  · rw [up2_ap]; (try unfold upd); split <;> (try split) <;> first | rfl | exact (hf x' q).2.2.1 | (exfalso; omega)
  · rw [up2_ap]; unfold upd; split <;> (try split) <;> (try split) <;> first | rfl | (exfalso; omega) | (have h9 := (hf x' q).2.2.2; first | (rw [if_pos (by assumption)] at h9; exact h9) | (rw [if_neg (by assumption)] at h9; exact h9))
  · rw [up2_ap, msk_upd _ _ _ _ _ (fun _ _ => by omega), if_neg (by omega)]; exact hg x' q
  · rw [cN_upd _ _ (by omega)] at q; rw [up2_ap, upd_ne _ _ (by omega), if_neg (by omega)]; exact hh1 x' q
  · rw [cN_upd _ _ (by omega)] at q; rw [up2_ap, upd_ne _ _ (by omega), if_neg (by omega)]; exact hh2 x' q
  · rw [up2_ap, upd_ne _ _ (by omega), if_neg (by omega)]; exact (hi x' q).1
  · rw [cN_upd _ _ (by omega)] at q2; rw [cN_upd _ _ (by omega), up2_ap, if_neg (by omega)]; exact (hi x' q).2 z' q2
set_option maxHeartbeats 4000000 in
set_option maxRecDepth 100000 in
theorem YR.wwt {M : Mm} {y : Nat} {Y : Nat → Int32} {n hN : Nat} (h : YR M y Y n hN) {c o : Nat} (hc1 : c < 10) (ho1 : o < 5) (hn10 : n ≤ 10) (ht : cN Y 4 ≤ 60) (hw : cN Y 5 ≤ 24) (v : Int32) : YR (up2 M (y + 20 + 3 * c + 2) o v) y (upd Y (187 + 5 * c + o) v) n hN := by
  obtain ⟨⟨a1, a2, a3, a4, a5, a6, a7⟩, hb, hc, hd, he, hf, hg, ⟨hh1, hh2⟩, hi⟩ := h
  refine ⟨⟨?_, ?_, ?_, ?_, ?_, ?_, ?_⟩, fun c' q f' q2 q3 => ?_, fun c' q => ?_, fun c' q o' q2 => ?_, fun c' q o' q2 => ?_, fun x' q => ⟨?_, ?_, ?_, ?_⟩, fun x' q => ?_, ⟨fun x' q => ?_, fun x' q => ?_⟩, fun x' q => ⟨?_, fun z' q2 => ?_⟩⟩
  · rw [up2_ap]; (try unfold upd); split <;> (try split) <;> first | rfl | exact a1 | (exfalso; omega)
  · rw [up2_ap]; (try unfold upd); split <;> (try split) <;> first | rfl | exact a2 | (exfalso; omega)
  · rw [up2_ap]; (try unfold upd); split <;> (try split) <;> first | rfl | exact a3 | (exfalso; omega)
  · rw [up2_ap]; (try unfold upd); split <;> (try split) <;> first | rfl | exact a4 | (exfalso; omega)
  · rw [up2_ap]; (try unfold upd); split <;> (try split) <;> first | rfl | exact a5 | (exfalso; omega)
  · rw [up2_ap]; (try unfold upd); split <;> (try split) <;> first | rfl | exact a6 | (exfalso; omega)
  · rw [up2_ap]; (try unfold upd); split <;> (try split) <;> first | rfl | exact a7 | (exfalso; omega)
  · rw [up2_ap]; (try unfold upd); split <;> (try split) <;> first | rfl | exact hb c' q f' q2 q3 | (exfalso; omega)
  · rw [up2_ap, upd_ne _ _ (by omega), if_neg (by omega)]; exact hc c' q
  · rw [up2_ap]; (try unfold upd); split <;> (try split) <;> first | rfl | exact hd c' q o' q2 | (exfalso; omega)
  · rw [up2_ap]; (try unfold upd); split <;> (try split) <;> first | rfl | exact he c' q o' q2 | (exfalso; omega)
  · rw [up2_ap]; (try unfold upd); split <;> (try split) <;> first | rfl | exact (hf x' q).1 | (exfalso; omega)
  · rw [up2_ap]; (try unfold upd); split <;> (try split) <;> first | rfl | exact (hf x' q).2.1 | (exfalso; omega)
  · rw [up2_ap]; (try unfold upd); split <;> (try split) <;> first | rfl | exact (hf x' q).2.2.1 | (exfalso; omega)
  · rw [up2_ap]; unfold upd; split <;> (try split) <;> (try split) <;> first | rfl | (exfalso; omega) | (have h9 := (hf x' q).2.2.2; first | (rw [if_pos (by assumption)] at h9; exact h9) | (rw [if_neg (by assumption)] at h9; exact h9))
  · rw [up2_ap, msk_upd _ _ _ _ _ (fun _ _ => by omega), if_neg (by omega)]; exact hg x' q
  · rw [cN_upd _ _ (by omega)] at q; rw [up2_ap, upd_ne _ _ (by omega), if_neg (by omega)]; exact hh1 x' q
  · rw [cN_upd _ _ (by omega)] at q; rw [up2_ap, upd_ne _ _ (by omega), if_neg (by omega)]; exact hh2 x' q
  · rw [up2_ap, upd_ne _ _ (by omega), if_neg (by omega)]; exact (hi x' q).1
  · rw [cN_upd _ _ (by omega)] at q2; rw [cN_upd _ _ (by omega), up2_ap, if_neg (by omega)]; exact (hi x' q).2 z' q2
set_option maxHeartbeats 4000000 in
set_option maxRecDepth 100000 in
theorem YR.wle {M : Mm} {y : Nat} {Y : Nat → Int32} {n hN : Nat} (h : YR M y Y n hN) {k : Nat} (hk1 : k < 5) (hn10 : n ≤ 10) (ht : cN Y 4 ≤ 60) (hw : cN Y 5 ≤ 24) (v : Int32) : YR (up2 M (y + 50 + k) 0 v) y (upd Y (167 + 4 * k + 0) v) n hN := by
  obtain ⟨⟨a1, a2, a3, a4, a5, a6, a7⟩, hb, hc, hd, he, hf, hg, ⟨hh1, hh2⟩, hi⟩ := h
  refine ⟨⟨?_, ?_, ?_, ?_, ?_, ?_, ?_⟩, fun c' q f' q2 q3 => ?_, fun c' q => ?_, fun c' q o' q2 => ?_, fun c' q o' q2 => ?_, fun x' q => ⟨?_, ?_, ?_, ?_⟩, fun x' q => ?_, ⟨fun x' q => ?_, fun x' q => ?_⟩, fun x' q => ⟨?_, fun z' q2 => ?_⟩⟩
  · rw [up2_ap]; (try unfold upd); split <;> (try split) <;> first | rfl | exact a1 | (exfalso; omega)
  · rw [up2_ap]; (try unfold upd); split <;> (try split) <;> first | rfl | exact a2 | (exfalso; omega)
  · rw [up2_ap]; (try unfold upd); split <;> (try split) <;> first | rfl | exact a3 | (exfalso; omega)
  · rw [up2_ap]; (try unfold upd); split <;> (try split) <;> first | rfl | exact a4 | (exfalso; omega)
  · rw [up2_ap]; (try unfold upd); split <;> (try split) <;> first | rfl | exact a5 | (exfalso; omega)
  · rw [up2_ap]; (try unfold upd); split <;> (try split) <;> first | rfl | exact a6 | (exfalso; omega)
  · rw [up2_ap]; (try unfold upd); split <;> (try split) <;> first | rfl | exact a7 | (exfalso; omega)
  · rw [up2_ap]; (try unfold upd); split <;> (try split) <;> first | rfl | exact hb c' q f' q2 q3 | (exfalso; omega)
  · rw [up2_ap, upd_ne _ _ (by omega), if_neg (by omega)]; exact hc c' q
  · rw [up2_ap]; (try unfold upd); split <;> (try split) <;> first | rfl | exact hd c' q o' q2 | (exfalso; omega)
  · rw [up2_ap]; (try unfold upd); split <;> (try split) <;> first | rfl | exact he c' q o' q2 | (exfalso; omega)
  · rw [up2_ap]; (try unfold upd); split <;> (try split) <;> first | rfl | exact (hf x' q).1 | (exfalso; omega)
  · rw [up2_ap]; (try unfold upd); split <;> (try split) <;> first | rfl | exact (hf x' q).2.1 | (exfalso; omega)
  · rw [up2_ap]; (try unfold upd); split <;> (try split) <;> first | rfl | exact (hf x' q).2.2.1 | (exfalso; omega)
  · rw [up2_ap]; unfold upd; split <;> (try split) <;> (try split) <;> first | rfl | (exfalso; omega) | (have h9 := (hf x' q).2.2.2; first | (rw [if_pos (by assumption)] at h9; exact h9) | (rw [if_neg (by assumption)] at h9; exact h9))
  · rw [up2_ap, msk_upd _ _ _ _ _ (fun _ _ => by omega), if_neg (by omega)]; exact hg x' q
  · rw [cN_upd _ _ (by omega)] at q; rw [up2_ap, upd_ne _ _ (by omega), if_neg (by omega)]; exact hh1 x' q
  · rw [cN_upd _ _ (by omega)] at q; rw [up2_ap, upd_ne _ _ (by omega), if_neg (by omega)]; exact hh2 x' q
  · rw [up2_ap, upd_ne _ _ (by omega), if_neg (by omega)]; exact (hi x' q).1
  · rw [cN_upd _ _ (by omega)] at q2; rw [cN_upd _ _ (by omega), up2_ap, if_neg (by omega)]; exact (hi x' q).2 z' q2
set_option maxHeartbeats 4000000 in
set_option maxRecDepth 100000 in
theorem YR.wmo {M : Mm} {y : Nat} {Y : Nat → Int32} {n hN : Nat} (h : YR M y Y n hN) {k : Nat} (hk1 : k < 5) (hn10 : n ≤ 10) (ht : cN Y 4 ≤ 60) (hw : cN Y 5 ≤ 24) (v : Int32) : YR (up2 M (y + 50 + k) 1 v) y (upd Y (167 + 4 * k + 1) v) n hN := by
  obtain ⟨⟨a1, a2, a3, a4, a5, a6, a7⟩, hb, hc, hd, he, hf, hg, ⟨hh1, hh2⟩, hi⟩ := h
  refine ⟨⟨?_, ?_, ?_, ?_, ?_, ?_, ?_⟩, fun c' q f' q2 q3 => ?_, fun c' q => ?_, fun c' q o' q2 => ?_, fun c' q o' q2 => ?_, fun x' q => ⟨?_, ?_, ?_, ?_⟩, fun x' q => ?_, ⟨fun x' q => ?_, fun x' q => ?_⟩, fun x' q => ⟨?_, fun z' q2 => ?_⟩⟩
  · rw [up2_ap]; (try unfold upd); split <;> (try split) <;> first | rfl | exact a1 | (exfalso; omega)
  · rw [up2_ap]; (try unfold upd); split <;> (try split) <;> first | rfl | exact a2 | (exfalso; omega)
  · rw [up2_ap]; (try unfold upd); split <;> (try split) <;> first | rfl | exact a3 | (exfalso; omega)
  · rw [up2_ap]; (try unfold upd); split <;> (try split) <;> first | rfl | exact a4 | (exfalso; omega)
  · rw [up2_ap]; (try unfold upd); split <;> (try split) <;> first | rfl | exact a5 | (exfalso; omega)
  · rw [up2_ap]; (try unfold upd); split <;> (try split) <;> first | rfl | exact a6 | (exfalso; omega)
  · rw [up2_ap]; (try unfold upd); split <;> (try split) <;> first | rfl | exact a7 | (exfalso; omega)
  · rw [up2_ap]; (try unfold upd); split <;> (try split) <;> first | rfl | exact hb c' q f' q2 q3 | (exfalso; omega)
  · rw [up2_ap, upd_ne _ _ (by omega), if_neg (by omega)]; exact hc c' q
  · rw [up2_ap]; (try unfold upd); split <;> (try split) <;> first | rfl | exact hd c' q o' q2 | (exfalso; omega)
  · rw [up2_ap]; (try unfold upd); split <;> (try split) <;> first | rfl | exact he c' q o' q2 | (exfalso; omega)
  · rw [up2_ap]; (try unfold upd); split <;> (try split) <;> first | rfl | exact (hf x' q).1 | (exfalso; omega)
  · rw [up2_ap]; (try unfold upd); split <;> (try split) <;> first | rfl | exact (hf x' q).2.1 | (exfalso; omega)
  · rw [up2_ap]; (try unfold upd); split <;> (try split) <;> first | rfl | exact (hf x' q).2.2.1 | (exfalso; omega)
  · rw [up2_ap]; unfold upd; split <;> (try split) <;> (try split) <;> first | rfl | (exfalso; omega) | (have h9 := (hf x' q).2.2.2; first | (rw [if_pos (by assumption)] at h9; exact h9) | (rw [if_neg (by assumption)] at h9; exact h9))
  · rw [up2_ap, msk_upd _ _ _ _ _ (fun _ _ => by omega), if_neg (by omega)]; exact hg x' q
  · rw [cN_upd _ _ (by omega)] at q; rw [up2_ap, upd_ne _ _ (by omega), if_neg (by omega)]; exact hh1 x' q
  · rw [cN_upd _ _ (by omega)] at q; rw [up2_ap, upd_ne _ _ (by omega), if_neg (by omega)]; exact hh2 x' q
  · rw [up2_ap, upd_ne _ _ (by omega), if_neg (by omega)]; exact (hi x' q).1
  · rw [cN_upd _ _ (by omega)] at q2; rw [cN_upd _ _ (by omega), up2_ap, if_neg (by omega)]; exact (hi x' q).2 z' q2
set_option maxHeartbeats 4000000 in
set_option maxRecDepth 100000 in
theorem YR.wru {M : Mm} {y : Nat} {Y : Nat → Int32} {n hN : Nat} (h : YR M y Y n hN) {k : Nat} (hk1 : k < 5) (hkh : k < hN) (hn10 : n ≤ 10) (ht : cN Y 4 ≤ 60) (hw : cN Y 5 ≤ 24) (v : Int32) : YR (up2 M (y + 50 + k) 2 v) y (upd Y (167 + 4 * k + 2) v) n hN := by
  obtain ⟨⟨a1, a2, a3, a4, a5, a6, a7⟩, hb, hc, hd, he, hf, hg, ⟨hh1, hh2⟩, hi⟩ := h
  refine ⟨⟨?_, ?_, ?_, ?_, ?_, ?_, ?_⟩, fun c' q f' q2 q3 => ?_, fun c' q => ?_, fun c' q o' q2 => ?_, fun c' q o' q2 => ?_, fun x' q => ⟨?_, ?_, ?_, ?_⟩, fun x' q => ?_, ⟨fun x' q => ?_, fun x' q => ?_⟩, fun x' q => ⟨?_, fun z' q2 => ?_⟩⟩
  · rw [up2_ap]; (try unfold upd); split <;> (try split) <;> first | rfl | exact a1 | (exfalso; omega)
  · rw [up2_ap]; (try unfold upd); split <;> (try split) <;> first | rfl | exact a2 | (exfalso; omega)
  · rw [up2_ap]; (try unfold upd); split <;> (try split) <;> first | rfl | exact a3 | (exfalso; omega)
  · rw [up2_ap]; (try unfold upd); split <;> (try split) <;> first | rfl | exact a4 | (exfalso; omega)
  · rw [up2_ap]; (try unfold upd); split <;> (try split) <;> first | rfl | exact a5 | (exfalso; omega)
  · rw [up2_ap]; (try unfold upd); split <;> (try split) <;> first | rfl | exact a6 | (exfalso; omega)
  · rw [up2_ap]; (try unfold upd); split <;> (try split) <;> first | rfl | exact a7 | (exfalso; omega)
  · rw [up2_ap]; (try unfold upd); split <;> (try split) <;> first | rfl | exact hb c' q f' q2 q3 | (exfalso; omega)
  · rw [up2_ap, upd_ne _ _ (by omega), if_neg (by omega)]; exact hc c' q
  · rw [up2_ap]; (try unfold upd); split <;> (try split) <;> first | rfl | exact hd c' q o' q2 | (exfalso; omega)
  · rw [up2_ap]; (try unfold upd); split <;> (try split) <;> first | rfl | exact he c' q o' q2 | (exfalso; omega)
  · rw [up2_ap]; (try unfold upd); split <;> (try split) <;> first | rfl | exact (hf x' q).1 | (exfalso; omega)
  · rw [up2_ap]; (try unfold upd); split <;> (try split) <;> first | rfl | exact (hf x' q).2.1 | (exfalso; omega)
  · rw [up2_ap]; (try unfold upd); split <;> (try split) <;> first | rfl | exact (hf x' q).2.2.1 | (exfalso; omega)
  · rw [up2_ap]; unfold upd; split <;> (try split) <;> (try split) <;> first | rfl | (exfalso; omega) | (have h9 := (hf x' q).2.2.2; first | (rw [if_pos (by assumption)] at h9; exact h9) | (rw [if_neg (by assumption)] at h9; exact h9))
  · rw [up2_ap, msk_upd _ _ _ _ _ (fun _ _ => by omega), if_neg (by omega)]; exact hg x' q
  · rw [cN_upd _ _ (by omega)] at q; rw [up2_ap, upd_ne _ _ (by omega), if_neg (by omega)]; exact hh1 x' q
  · rw [cN_upd _ _ (by omega)] at q; rw [up2_ap, upd_ne _ _ (by omega), if_neg (by omega)]; exact hh2 x' q
  · rw [up2_ap, upd_ne _ _ (by omega), if_neg (by omega)]; exact (hi x' q).1
  · rw [cN_upd _ _ (by omega)] at q2; rw [cN_upd _ _ (by omega), up2_ap, if_neg (by omega)]; exact (hi x' q).2 z' q2
set_option maxHeartbeats 4000000 in
set_option maxRecDepth 100000 in
theorem YR.wfe {M : Mm} {y : Nat} {Y : Nat → Int32} {n hN : Nat} (h : YR M y Y n hN) {k : Nat} (hk1 : k < 5) (hn10 : n ≤ 10) (ht : cN Y 4 ≤ 60) (hw : cN Y 5 ≤ 24) (v : Int32) : YR (up2 M (y + 50 + k) 4 v) y (upd Y (167 + 4 * k + 3) v) n hN := by
  obtain ⟨⟨a1, a2, a3, a4, a5, a6, a7⟩, hb, hc, hd, he, hf, hg, ⟨hh1, hh2⟩, hi⟩ := h
  refine ⟨⟨?_, ?_, ?_, ?_, ?_, ?_, ?_⟩, fun c' q f' q2 q3 => ?_, fun c' q => ?_, fun c' q o' q2 => ?_, fun c' q o' q2 => ?_, fun x' q => ⟨?_, ?_, ?_, ?_⟩, fun x' q => ?_, ⟨fun x' q => ?_, fun x' q => ?_⟩, fun x' q => ⟨?_, fun z' q2 => ?_⟩⟩
  · rw [up2_ap]; (try unfold upd); split <;> (try split) <;> first | rfl | exact a1 | (exfalso; omega)
  · rw [up2_ap]; (try unfold upd); split <;> (try split) <;> first | rfl | exact a2 | (exfalso; omega)
  · rw [up2_ap]; (try unfold upd); split <;> (try split) <;> first | rfl | exact a3 | (exfalso; omega)
  · rw [up2_ap]; (try unfold upd); split <;> (try split) <;> first | rfl | exact a4 | (exfalso; omega)
  · rw [up2_ap]; (try unfold upd); split <;> (try split) <;> first | rfl | exact a5 | (exfalso; omega)
  · rw [up2_ap]; (try unfold upd); split <;> (try split) <;> first | rfl | exact a6 | (exfalso; omega)
  · rw [up2_ap]; (try unfold upd); split <;> (try split) <;> first | rfl | exact a7 | (exfalso; omega)
  · rw [up2_ap]; (try unfold upd); split <;> (try split) <;> first | rfl | exact hb c' q f' q2 q3 | (exfalso; omega)
  · rw [up2_ap, upd_ne _ _ (by omega), if_neg (by omega)]; exact hc c' q
  · rw [up2_ap]; (try unfold upd); split <;> (try split) <;> first | rfl | exact hd c' q o' q2 | (exfalso; omega)
  · rw [up2_ap]; (try unfold upd); split <;> (try split) <;> first | rfl | exact he c' q o' q2 | (exfalso; omega)
  · rw [up2_ap]; (try unfold upd); split <;> (try split) <;> first | rfl | exact (hf x' q).1 | (exfalso; omega)
  · rw [up2_ap]; (try unfold upd); split <;> (try split) <;> first | rfl | exact (hf x' q).2.1 | (exfalso; omega)
  · rw [up2_ap]; (try unfold upd); split <;> (try split) <;> first | rfl | exact (hf x' q).2.2.1 | (exfalso; omega)
  · rw [up2_ap]; unfold upd; split <;> (try split) <;> (try split) <;> first | rfl | (exfalso; omega) | (have h9 := (hf x' q).2.2.2; first | (rw [if_pos (by assumption)] at h9; exact h9) | (rw [if_neg (by assumption)] at h9; exact h9))
  · rw [up2_ap, msk_upd _ _ _ _ _ (fun _ _ => by omega), if_neg (by omega)]; exact hg x' q
  · rw [cN_upd _ _ (by omega)] at q; rw [up2_ap, upd_ne _ _ (by omega), if_neg (by omega)]; exact hh1 x' q
  · rw [cN_upd _ _ (by omega)] at q; rw [up2_ap, upd_ne _ _ (by omega), if_neg (by omega)]; exact hh2 x' q
  · rw [up2_ap, upd_ne _ _ (by omega), if_neg (by omega)]; exact (hi x' q).1
  · rw [cN_upd _ _ (by omega)] at q2; rw [cN_upd _ _ (by omega), up2_ap, if_neg (by omega)]; exact (hi x' q).2 z' q2
set_option maxHeartbeats 4000000 in
set_option maxRecDepth 100000 in
theorem YR.wmi {M : Mm} {y : Nat} {Y : Nat → Int32} {n hN : Nat} (h : YR M y Y n hN) (hn10 : n ≤ 10) (ht : cN Y 4 ≤ 60) (hw : cN Y 5 ≤ 24) (v : Int32) : YR (up2 M (y) 7 v) y (upd Y (2) v) n hN := by
  obtain ⟨⟨a1, a2, a3, a4, a5, a6, a7⟩, hb, hc, hd, he, hf, hg, ⟨hh1, hh2⟩, hi⟩ := h
  refine ⟨⟨?_, ?_, ?_, ?_, ?_, ?_, ?_⟩, fun c' q f' q2 q3 => ?_, fun c' q => ?_, fun c' q o' q2 => ?_, fun c' q o' q2 => ?_, fun x' q => ⟨?_, ?_, ?_, ?_⟩, fun x' q => ?_, ⟨fun x' q => ?_, fun x' q => ?_⟩, fun x' q => ⟨?_, fun z' q2 => ?_⟩⟩
  · rw [up2_ap]; (try unfold upd); split <;> (try split) <;> first | rfl | exact a1 | (exfalso; omega)
  · rw [up2_ap]; (try unfold upd); split <;> (try split) <;> first | rfl | exact a2 | (exfalso; omega)
  · rw [up2_ap]; (try unfold upd); split <;> (try split) <;> first | rfl | exact a3 | (exfalso; omega)
  · rw [up2_ap]; (try unfold upd); split <;> (try split) <;> first | rfl | exact a4 | (exfalso; omega)
  · rw [up2_ap]; (try unfold upd); split <;> (try split) <;> first | rfl | exact a5 | (exfalso; omega)
  · rw [up2_ap]; (try unfold upd); split <;> (try split) <;> first | rfl | exact a6 | (exfalso; omega)
  · rw [up2_ap]; (try unfold upd); split <;> (try split) <;> first | rfl | exact a7 | (exfalso; omega)
  · rw [up2_ap]; (try unfold upd); split <;> (try split) <;> first | rfl | exact hb c' q f' q2 q3 | (exfalso; omega)
  · rw [up2_ap, upd_ne _ _ (by omega), if_neg (by omega)]; exact hc c' q
  · rw [up2_ap]; (try unfold upd); split <;> (try split) <;> first | rfl | exact hd c' q o' q2 | (exfalso; omega)
  · rw [up2_ap]; (try unfold upd); split <;> (try split) <;> first | rfl | exact he c' q o' q2 | (exfalso; omega)
  · rw [up2_ap]; (try unfold upd); split <;> (try split) <;> first | rfl | exact (hf x' q).1 | (exfalso; omega)
  · rw [up2_ap]; (try unfold upd); split <;> (try split) <;> first | rfl | exact (hf x' q).2.1 | (exfalso; omega)
  · rw [up2_ap]; (try unfold upd); split <;> (try split) <;> first | rfl | exact (hf x' q).2.2.1 | (exfalso; omega)
  · rw [up2_ap]; unfold upd; split <;> (try split) <;> (try split) <;> first | rfl | (exfalso; omega) | (have h9 := (hf x' q).2.2.2; first | (rw [if_pos (by assumption)] at h9; exact h9) | (rw [if_neg (by assumption)] at h9; exact h9))
  · rw [up2_ap, msk_upd _ _ _ _ _ (fun _ _ => by omega), if_neg (by omega)]; exact hg x' q
  · rw [cN_upd _ _ (by omega)] at q; rw [up2_ap, upd_ne _ _ (by omega), if_neg (by omega)]; exact hh1 x' q
  · rw [cN_upd _ _ (by omega)] at q; rw [up2_ap, upd_ne _ _ (by omega), if_neg (by omega)]; exact hh2 x' q
  · rw [up2_ap, upd_ne _ _ (by omega), if_neg (by omega)]; exact (hi x' q).1
  · rw [cN_upd _ _ (by omega)] at q2; rw [cN_upd _ _ (by omega), up2_ap, if_neg (by omega)]; exact (hi x' q).2 z' q2
set_option maxHeartbeats 4000000 in
set_option maxRecDepth 100000 in
theorem YR.wte {M : Mm} {y : Nat} {Y : Nat → Int32} {n hN : Nat} (h : YR M y Y n hN) (hn10 : n ≤ 10) (ht : cN Y 4 ≤ 60) (hw : cN Y 5 ≤ 24) (v : Int32) : YR (up2 M (y) 8 v) y (upd Y (3) v) n hN := by
  obtain ⟨⟨a1, a2, a3, a4, a5, a6, a7⟩, hb, hc, hd, he, hf, hg, ⟨hh1, hh2⟩, hi⟩ := h
  refine ⟨⟨?_, ?_, ?_, ?_, ?_, ?_, ?_⟩, fun c' q f' q2 q3 => ?_, fun c' q => ?_, fun c' q o' q2 => ?_, fun c' q o' q2 => ?_, fun x' q => ⟨?_, ?_, ?_, ?_⟩, fun x' q => ?_, ⟨fun x' q => ?_, fun x' q => ?_⟩, fun x' q => ⟨?_, fun z' q2 => ?_⟩⟩
  · rw [up2_ap]; (try unfold upd); split <;> (try split) <;> first | rfl | exact a1 | (exfalso; omega)
  · rw [up2_ap]; (try unfold upd); split <;> (try split) <;> first | rfl | exact a2 | (exfalso; omega)
  · rw [up2_ap]; (try unfold upd); split <;> (try split) <;> first | rfl | exact a3 | (exfalso; omega)
  · rw [up2_ap]; (try unfold upd); split <;> (try split) <;> first | rfl | exact a4 | (exfalso; omega)
  · rw [up2_ap]; (try unfold upd); split <;> (try split) <;> first | rfl | exact a5 | (exfalso; omega)
  · rw [up2_ap]; (try unfold upd); split <;> (try split) <;> first | rfl | exact a6 | (exfalso; omega)
  · rw [up2_ap]; (try unfold upd); split <;> (try split) <;> first | rfl | exact a7 | (exfalso; omega)
  · rw [up2_ap]; (try unfold upd); split <;> (try split) <;> first | rfl | exact hb c' q f' q2 q3 | (exfalso; omega)
  · rw [up2_ap, upd_ne _ _ (by omega), if_neg (by omega)]; exact hc c' q
  · rw [up2_ap]; (try unfold upd); split <;> (try split) <;> first | rfl | exact hd c' q o' q2 | (exfalso; omega)
  · rw [up2_ap]; (try unfold upd); split <;> (try split) <;> first | rfl | exact he c' q o' q2 | (exfalso; omega)
  · rw [up2_ap]; (try unfold upd); split <;> (try split) <;> first | rfl | exact (hf x' q).1 | (exfalso; omega)
  · rw [up2_ap]; (try unfold upd); split <;> (try split) <;> first | rfl | exact (hf x' q).2.1 | (exfalso; omega)
  · rw [up2_ap]; (try unfold upd); split <;> (try split) <;> first | rfl | exact (hf x' q).2.2.1 | (exfalso; omega)
  · rw [up2_ap]; unfold upd; split <;> (try split) <;> (try split) <;> first | rfl | (exfalso; omega) | (have h9 := (hf x' q).2.2.2; first | (rw [if_pos (by assumption)] at h9; exact h9) | (rw [if_neg (by assumption)] at h9; exact h9))
  · rw [up2_ap, msk_upd _ _ _ _ _ (fun _ _ => by omega), if_neg (by omega)]; exact hg x' q
  · rw [cN_upd _ _ (by omega)] at q; rw [up2_ap, upd_ne _ _ (by omega), if_neg (by omega)]; exact hh1 x' q
  · rw [cN_upd _ _ (by omega)] at q; rw [up2_ap, upd_ne _ _ (by omega), if_neg (by omega)]; exact hh2 x' q
  · rw [up2_ap, upd_ne _ _ (by omega), if_neg (by omega)]; exact (hi x' q).1
  · rw [cN_upd _ _ (by omega)] at q2; rw [cN_upd _ _ (by omega), up2_ap, if_neg (by omega)]; exact (hi x' q).2 z' q2
set_option maxHeartbeats 4000000 in
set_option maxRecDepth 100000 in
theorem YR.wz {M : Mm} {y : Nat} {Y : Nat → Int32} {n hN : Nat} (h : YR M y Y n hN) (hn10 : n ≤ 10) (ht : cN Y 4 ≤ 60) (hw : cN Y 5 ≤ 24) (v : Int32) : YR (up2 M (y) 9 v) y (upd Y (6) v) n hN := by
  obtain ⟨⟨a1, a2, a3, a4, a5, a6, a7⟩, hb, hc, hd, he, hf, hg, ⟨hh1, hh2⟩, hi⟩ := h
  refine ⟨⟨?_, ?_, ?_, ?_, ?_, ?_, ?_⟩, fun c' q f' q2 q3 => ?_, fun c' q => ?_, fun c' q o' q2 => ?_, fun c' q o' q2 => ?_, fun x' q => ⟨?_, ?_, ?_, ?_⟩, fun x' q => ?_, ⟨fun x' q => ?_, fun x' q => ?_⟩, fun x' q => ⟨?_, fun z' q2 => ?_⟩⟩
  · rw [up2_ap]; (try unfold upd); split <;> (try split) <;> first | rfl | exact a1 | (exfalso; omega)
  · rw [up2_ap]; (try unfold upd); split <;> (try split) <;> first | rfl | exact a2 | (exfalso; omega)
  · rw [up2_ap]; (try unfold upd); split <;> (try split) <;> first | rfl | exact a3 | (exfalso; omega)
  · rw [up2_ap]; (try unfold upd); split <;> (try split) <;> first | rfl | exact a4 | (exfalso; omega)
  · rw [up2_ap]; (try unfold upd); split <;> (try split) <;> first | rfl | exact a5 | (exfalso; omega)
  · rw [up2_ap]; (try unfold upd); split <;> (try split) <;> first | rfl | exact a6 | (exfalso; omega)
  · rw [up2_ap]; (try unfold upd); split <;> (try split) <;> first | rfl | exact a7 | (exfalso; omega)
  · rw [up2_ap]; (try unfold upd); split <;> (try split) <;> first | rfl | exact hb c' q f' q2 q3 | (exfalso; omega)
  · rw [up2_ap, upd_ne _ _ (by omega), if_neg (by omega)]; exact hc c' q
  · rw [up2_ap]; (try unfold upd); split <;> (try split) <;> first | rfl | exact hd c' q o' q2 | (exfalso; omega)
  · rw [up2_ap]; (try unfold upd); split <;> (try split) <;> first | rfl | exact he c' q o' q2 | (exfalso; omega)
  · rw [up2_ap]; (try unfold upd); split <;> (try split) <;> first | rfl | exact (hf x' q).1 | (exfalso; omega)
  · rw [up2_ap]; (try unfold upd); split <;> (try split) <;> first | rfl | exact (hf x' q).2.1 | (exfalso; omega)
  · rw [up2_ap]; (try unfold upd); split <;> (try split) <;> first | rfl | exact (hf x' q).2.2.1 | (exfalso; omega)
  · rw [up2_ap]; unfold upd; split <;> (try split) <;> (try split) <;> first | rfl | (exfalso; omega) | (have h9 := (hf x' q).2.2.2; first | (rw [if_pos (by assumption)] at h9; exact h9) | (rw [if_neg (by assumption)] at h9; exact h9))
  · rw [up2_ap, msk_upd _ _ _ _ _ (fun _ _ => by omega), if_neg (by omega)]; exact hg x' q
  · rw [cN_upd _ _ (by omega)] at q; rw [up2_ap, upd_ne _ _ (by omega), if_neg (by omega)]; exact hh1 x' q
  · rw [cN_upd _ _ (by omega)] at q; rw [up2_ap, upd_ne _ _ (by omega), if_neg (by omega)]; exact hh2 x' q
  · rw [up2_ap, upd_ne _ _ (by omega), if_neg (by omega)]; exact (hi x' q).1
  · rw [cN_upd _ _ (by omega)] at q2; rw [cN_upd _ _ (by omega), up2_ap, if_neg (by omega)]; exact (hi x' q).2 z' q2
