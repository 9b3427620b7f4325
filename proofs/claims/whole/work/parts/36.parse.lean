/-! The reference's parser: a state is (nothing wrong, where it reads, the codes so far). -/
theorem v_aldS {f : FC} {G : GC} {ph : Ph} {M : Mm} {own : String} {cc : ByteArray} {nL pc : Nat} {lv : List (Nat × Value)} {rest : List Value} (C : Ctx f G own cc nL) {k j i : Nat} (hk : k < ph.2.2.1) (hs : shp k = 25) (hj : j < 2) (hM : M k j = nI (i + 1)) (hi : i < 2 ^ 31 - 1) (hd : decode cc pc = .ok (.aaload, 1)) (kk : Vc f G ph M (pc + 1) lv (.ref (gK G i) :: rest)) : Vc f G ph M pc lv (.int (nI j) :: .ref (gb G + k) :: rest) := by
  obtain ⟨p, l, e, R, s, m, args, below, meth, c, Q⟩ := f
  obtain ⟨hx, hb, hml, ho, hts, hlk, hvk, hbs, hlow⟩ := C
  intro H locs ls hW hS hl
  have hin : ¬ (nI j < 0 ∨ aLen 25 ≤ (nI j).toNatClampNeg) := nI_in hj (by decide)
  have hne : M k j ≠ 0 := by rw [hM]; exact fun q => absurd ((nI_eq (show i + 1 < 2 ^ 31 by omega) (by decide)).mp (q.trans nI_0.symm)) (by omega)
  refine W.aald (v := .ref (gK G i)) (ty := .object "java/lang/String") hx hb (hW.arr hk hs (by omega) (by omega)) ((hvk.1.2 6 _ rfl).1 (aLen 25) (fun j => va_rf (ae G M k 25 j))) rfl (fun q => by cases q) (by rw [arrV_size]; exact hin) ?_ rfl rfl hd (kk H locs ls hW hS hl)
  rw [nI_clamp (by omega), arrV_read _ _ (show j < aLen 25 from hj)]
  unfold ae
  rw [if_neg hne, if_pos rfl, hM, nI_clamp (by omega), Nat.add_sub_cancel]
  rfl
abbrev PS : Type := Bool × Nat × List Nat
def hereS (Y : Nat → Int32) (t : Nat) (S : PS) : Int32 := if S.1 = true ∧ S.2.1 < t then Y (237 + S.2.1) else -1
def advS (S : PS) : PS := (S.1, S.2.1 + 1, S.2.2)
def codS (v : Nat) (S : PS) : PS := if S.1 = true then (S.1, S.2.1, S.2.2 ++ [v]) else S
def tkS (Y : Nat → Int32) (t : Nat) (c : Int32) (S : PS) : PS := if hereS Y t S = c then advS S else S
def sgn (lv : Nat) (b : Int32) : Nat := match lv with
  | 0 => if b = nI 124 then 20000 else 0
  | 1 => if b = nI 38 then 20001 else 0
  | 2 => if b = nI 60 then 20002 else if b = nI 61 then 20003 else if b = nI 62 then 20004 else 0
  | 3 => if b = nI 43 then 20005 else if b = nI 45 then 20006 else 0
  | _ => if b = nI 42 then 20007 else if b = nI 47 then 20008 else if b = nI 37 then 20009 else 0
def lpS (Y : Nat → Int32) (t : Nat) (g : PS → PS) (lv : Nat) : Nat → PS → PS
  | 0, S => S
  | k + 1, S => if sgn lv (hereS Y t S) = 0 then S else lpS Y t g lv k (codS (sgn lv (hereS Y t S)) (g (advS S)))
abbrev isDg (b : Int32) : Prop := nI 48 ≤ b ∧ b ≤ nI 57
def numG (Y : Nat → Int32) (t : Nat) : Nat → PS → Nat → PS × Nat
  | 0, S, v => (S, v)
  | k + 1, S, v => if isDg (hereS Y t S) then numG Y t k (advS S) (10 * v + (hereS Y t S).toNatClampNeg - 48) else (S, v)
def nmP (u : Nat) (c : Int32) : Nat → Int32
  | 0 => -1
  | k + 1 => if bytS (1 + u) k = c then nI k else nmP u c k
def nmS (u : Nat) (c : Int32) : Int32 := nmP u c (lenS (1 + u))
def clS (Y : Nat → Int32) (t : Nat) (S : PS) : PS := if hereS Y t S = nI 41 then (true, S.2.1 + 1, S.2.2) else (false, S.2)
def oneS (Y : Nat → Int32) (t u : Nat) (r1 r0 : PS → PS) (op : Nat) (S : PS) : PS :=
  if hereS Y t S = nI 33 ∨ hereS Y t S = nI 40 then
    if op = 5 then (false, S.2) else if hereS Y t S = nI 33 then codS 20010 (r1 (advS S)) else clS Y t (r0 (advS S))
  else if isDg (hereS Y t S) then codS (numG Y t 4 S 0).2 (numG Y t 4 S 0).1
  else if hereS Y t S < 0 ∨ nmS u (hereS Y t S) < 0 then (false, S.2) else advS (codS (10000 + (nmS u (hereS Y t S)).toNatClampNeg) S)
def jn (lv : Nat) : Nat := if lv = 2 then 1 else 60
def pz (Y : Nat → Int32) (t u : Nat) : Nat → Nat → Nat → PS → PS
  | 0, _, _, S => S
  | f + 1, lv, op, S => if lv < 5 then lpS Y t (pz Y t u f (lv + 1) op) lv (jn lv) (pz Y t u f (lv + 1) op S) else oneS Y t u (pz Y t u f 5 (op + 1)) (pz Y t u f 0 (op + 1)) op S
/-- what lies in memory of a state -/
def pRep (X : Mm) (op u : Nat) (S : PS) : Prop := (X 205 6 = nI S.2.1 ∧ X 205 7 = nI op ∧ X 205 8 = nI u ∧ X 205 9 = b2i (S.1 = false) ∧ X 205 11 = nI S.2.2.length) ∧ (∀ k, k < S.2.2.length → X 211 k = nI (S.2.2.getD k 0)) ∧ X 210 u = nI (1 + u + 1)
def okS (t : Nat) (S : PS) : Prop := S.2.1 ≤ t ∧ S.2.2.length ≤ S.2.1
def exP (M X : Mm) : Prop := (∀ a, a ≠ 205 → a ≠ 206 → a ≠ 211 → X a = M a) ∧ ∀ j, j ≠ 6 → j ≠ 7 → j ≠ 9 → j ≠ 11 → X 205 j = M 205 j
theorem exP.rf (M : Mm) : exP M M := ⟨fun _ _ _ _ => rfl, fun _ _ _ _ _ => rfl⟩
theorem exP.tr {A B C : Mm} (h : exP A B) (h2 : exP B C) : exP A C := ⟨fun a x y z => (h2.1 a x y z).trans (h.1 a x y z), fun j x y z q => (h2.2 j x y z q).trans (h.2 j x y z q)⟩
theorem exP.s (M : Mm) (j : Nat) (v : Int32) (hj : j = 6 ∨ j = 7 ∨ j = 9 ∨ j = 11) : exP M (up2 M 205 j v) := ⟨fun a h _ _ => up2_ne M _ _ h, fun q h1 h2 h3 h4 => up2_at_ne M _ (by omega)⟩
theorem exP.c (M : Mm) (j : Nat) (v : Int32) : exP M (up2 M 211 j v) := ⟨fun a _ _ h => up2_ne M _ _ h, fun q _ _ _ _ => congrFun (up2_ne M _ _ (by decide)) q⟩
theorem pRep.up {X : Mm} {op u : Nat} {S : PS} (h : pRep X op u S) (j : Nat) (v : Int32) : (∀ k, k < S.2.2.length → (up2 X 205 j v) 211 k = nI (S.2.2.getD k 0)) ∧ (up2 X 205 j v) 210 u = nI (1 + u + 1) := ⟨fun k hk => (congrFun (up2_ne X _ _ (by decide)) k).trans (h.2.1 k hk), (congrFun (up2_ne X _ _ (by decide)) u).trans h.2.2⟩
theorem pRep.at {X : Mm} {op u : Nat} {S : PS} (h : pRep X op u S) (a : Nat) : pRep (up2 X 205 6 (nI a)) op u (S.1, a, S.2.2) :=
  ⟨⟨up2_at _ _ _ _, (up2_at_ne _ _ (by decide)).trans h.1.2.1, (up2_at_ne _ _ (by decide)).trans h.1.2.2.1, (up2_at_ne _ _ (by decide)).trans h.1.2.2.2.1, (up2_at_ne _ _ (by decide)).trans h.1.2.2.2.2⟩, h.up 6 _⟩
theorem pRep.op {X : Mm} {op u : Nat} {S : PS} (h : pRep X op u S) (o : Nat) : pRep (up2 X 205 7 (nI o)) o u S :=
  ⟨⟨(up2_at_ne _ _ (by decide)).trans h.1.1, up2_at _ _ _ _, (up2_at_ne _ _ (by decide)).trans h.1.2.2.1, (up2_at_ne _ _ (by decide)).trans h.1.2.2.2.1, (up2_at_ne _ _ (by decide)).trans h.1.2.2.2.2⟩, h.up 7 _⟩
theorem pRep.wr {X : Mm} {op u : Nat} {S : PS} (h : pRep X op u S) (b : Bool) : pRep (up2 X 205 9 (b2i (b = false))) op u (b, S.2) :=
  ⟨⟨(up2_at_ne _ _ (by decide)).trans h.1.1, (up2_at_ne _ _ (by decide)).trans h.1.2.1, (up2_at_ne _ _ (by decide)).trans h.1.2.2.1, up2_at _ _ _ _, (up2_at_ne _ _ (by decide)).trans h.1.2.2.2.2⟩, h.up 9 _⟩
theorem pRep.cod {X : Mm} {op u : Nat} {S : PS} (h : pRep X op u S) (v : Nat) (hS : S.1 = true) : pRep (up2 (up2 X 211 S.2.2.length (nI v)) 205 11 (nI (S.2.2.length + 1))) op u (codS v S) := by
  unfold codS
  rw [if_pos hS]
  have hn : ∀ j, (up2 X 211 S.2.2.length (nI v)) 205 j = X 205 j := fun j => congrFun (up2_ne X _ _ (by decide)) j
  refine ⟨⟨(up2_at_ne _ _ (by decide)).trans ((hn _).trans h.1.1), (up2_at_ne _ _ (by decide)).trans ((hn _).trans h.1.2.1), (up2_at_ne _ _ (by decide)).trans ((hn _).trans h.1.2.2.1), (up2_at_ne _ _ (by decide)).trans ((hn _).trans h.1.2.2.2.1), by rw [up2_at]; simp⟩, fun k hk => ?_, ?_⟩
  · rw [up2_ne _ _ _ (by decide)]
    simp only [List.length_append, List.length_cons, List.length_nil] at hk
    by_cases hq : k = S.2.2.length
    · subst hq; rw [up2_at]; simp [List.getD_eq_getElem?_getD]
    · rw [up2_at_ne _ _ hq, h.2.1 k (by omega)]
      simp [List.getD_eq_getElem?_getD, List.getElem?_append_left (show k < S.2.2.length by omega)]
  · rw [up2_ne _ _ _ (by decide), up2_ne _ _ _ (by decide)]; exact h.2.2
theorem cod_1 (v : Nat) (S : PS) : (codS v S).1 = S.1 := by unfold codS; split <;> rfl
theorem cod_at (v : Nat) (S : PS) : (codS v S).2.1 = S.2.1 := by unfold codS; split <;> rfl
theorem cod_len (v : Nat) (S : PS) : (codS v S).2.2.length ≤ S.2.2.length + 1 := by unfold codS; split <;> simp
theorem here_lt {Y : Nat → Int32} {t : Nat} {S : PS} (h : ¬ hereS Y t S = -1) : S.1 = true ∧ S.2.1 < t := by
  unfold hereS at h
  exact Decidable.byContradiction fun q => h (if_neg q)
theorem here_k {Y : Nat → Int32} {t : Nat} {S : PS} {k : Nat} (hk : k < 2 ^ 31) (h : hereS Y t S = nI k) : S.1 = true ∧ S.2.1 < t := here_lt (fun q => nI_pos hk (by rw [← h, q]; decide))
theorem here_dg {Y : Nat → Int32} {t : Nat} {S : PS} (h : isDg (hereS Y t S)) : S.1 = true ∧ S.2.1 < t := here_lt (fun q => by rw [q] at h; revert h; decide)
theorem sgn_0 {lv : Nat} {b : Int32} (h : b = -1) : sgn lv b = 0 := by subst h; unfold sgn; split <;> rfl
theorem sgn_lt {Y : Nat → Int32} {t lv : Nat} {S : PS} (h : ¬ sgn lv (hereS Y t S) = 0) : S.1 = true ∧ S.2.1 < t := here_lt (fun q => h (sgn_0 q))
theorem sgn_rg (lv : Nat) (b : Int32) : sgn lv b = 0 ∨ (20000 ≤ sgn lv b ∧ sgn lv b < 20010) := by
  unfold sgn
  split <;> (repeat' split) <;> first | exact Or.inl rfl | exact Or.inr ⟨by decide, by decide⟩
/-- how far a reading goes, and how many codes it lays -/
def mono (t : Nat) (S S' : PS) : Prop := S.2.1 ≤ S'.2.1 ∧ S'.2.1 ≤ t ∧ S'.2.2.length + S.2.1 ≤ S.2.2.length + S'.2.1
def moG (t : Nat) (g : PS → PS) : Prop := ∀ S : PS, S.2.1 ≤ t → mono t S (g S)
theorem mono.rf {t : Nat} {S : PS} (h : S.2.1 ≤ t) : mono t S S := ⟨Nat.le_refl _, h, Nat.le_refl _⟩
theorem mono.ok {t : Nat} {S S' : PS} (h : mono t S S') (ho : okS t S) : okS t S' := ⟨h.2.1, by have h1 := h.2.2; have h2 := h.1; have h3 := ho.2; omega⟩
theorem mono.ok1 {t : Nat} {S S' : PS} (h : mono t (advS S) S') (ho : okS t S) : S'.2.2.length < S'.2.1 := by
  have h1 : S'.2.2.length + (S.2.1 + 1) ≤ S.2.2.length + S'.2.1 := h.2.2
  have h2 : S.2.1 + 1 ≤ S'.2.1 := h.1
  have h3 := ho.2; omega
theorem mono.cod {t v : Nat} {S S' : PS} (h : mono t (advS S) S') : mono t S (codS v S') := by
  have h1 : S'.2.2.length + (S.2.1 + 1) ≤ S.2.2.length + S'.2.1 := h.2.2
  have h2 : S.2.1 + 1 ≤ S'.2.1 := h.1
  have h3 := cod_len v S'
  have h4 := h.2.1
  refine ⟨?_, ?_, ?_⟩ <;> rw [cod_at] <;> omega
theorem mono.tr {t : Nat} {A B C : PS} (h : mono t A B) (h2 : mono t B C) : mono t A C := by
  obtain ⟨a, b, c⟩ := h
  obtain ⟨x, y, z⟩ := h2
  exact ⟨by omega, by omega, by omega⟩
theorem lp_mono {Y : Nat → Int32} {t lv : Nat} {g : PS → PS} (hg : moG t g) : ∀ k, moG t (lpS Y t g lv k)
  | 0, S, h => mono.rf h
  | k + 1, S, h => by
    unfold lpS
    by_cases hs : sgn lv (hereS Y t S) = 0
    · rw [if_pos hs]; exact mono.rf h
    · rw [if_neg hs]
      have h1 := sgn_lt hs
      have h2 := (hg (advS S) (by show S.2.1 + 1 ≤ t; omega)).cod (v := sgn lv (hereS Y t S))
      exact h2.tr (lp_mono hg k _ h2.2.1)
theorem num_mono (Y : Nat → Int32) (t : Nat) : ∀ (k : Nat) (S : PS) (v : Nat), S.2.1 ≤ t → S.2.1 ≤ (numG Y t k S v).1.2.1 ∧ (numG Y t k S v).1.2.1 ≤ t ∧ (numG Y t k S v).1.2.2 = S.2.2 ∧ (numG Y t k S v).1.1 = S.1
  | 0, S, v, h => ⟨Nat.le_refl _, h, rfl, rfl⟩
  | k + 1, S, v, h => by
    unfold numG
    by_cases hs : isDg (hereS Y t S)
    · rw [if_pos hs]
      have h1 := here_dg hs
      have h2 := num_mono Y t k (advS S) (10 * v + (hereS Y t S).toNatClampNeg - 48) (show S.2.1 + 1 ≤ t by omega)
      have h3 : S.2.1 + 1 ≤ (numG Y t k (advS S) (10 * v + (hereS Y t S).toNatClampNeg - 48)).1.2.1 := h2.1
      exact ⟨by omega, h2.2.1, h2.2.2.1, h2.2.2.2⟩
    · rw [if_neg hs]; exact ⟨Nat.le_refl _, h, rfl, rfl⟩
theorem num_one {Y : Nat → Int32} {t : Nat} {S : PS} (hs : isDg (hereS Y t S)) : mono t (advS S) (numG Y t 4 S 0).1 := by
  have h1 := here_dg hs
  rw [show numG Y t 4 S 0 = numG Y t 3 (advS S) (10 * 0 + (hereS Y t S).toNatClampNeg - 48) by rw [numG, if_pos hs]]
  have h2 := num_mono Y t 3 (advS S) (10 * 0 + (hereS Y t S).toNatClampNeg - 48) (show S.2.1 + 1 ≤ t by omega)
  refine ⟨h2.1, h2.2.1, ?_⟩
  rw [h2.2.2.1]
  have h3 := h2.1
  omega
theorem pz_mono (Y : Nat → Int32) (t u : Nat) : ∀ f lv op, moG t (pz Y t u f lv op)
  | 0, _, _, S, h => mono.rf h
  | f + 1, lv, op, S, h => by
    unfold pz
    by_cases hl : lv < 5
    · rw [if_pos hl]
      have h1 := pz_mono Y t u f (lv + 1) op S h
      exact h1.tr (lp_mono (pz_mono Y t u f (lv + 1) op) _ _ h1.2.1)
    · rw [if_neg hl]
      unfold oneS
      by_cases h1 : hereS Y t S = nI 33 ∨ hereS Y t S = nI 40
      · have hlt : S.1 = true ∧ S.2.1 < t := by rcases h1 with q | q <;> exact here_k (by decide) q
        have hA : (advS S).2.1 ≤ t := by show S.2.1 + 1 ≤ t; omega
        rw [if_pos h1]
        by_cases h2 : op = 5
        · rw [if_pos h2]; exact ⟨Nat.le_refl _, h, Nat.le_refl _⟩
        · rw [if_neg h2]
          by_cases h3 : hereS Y t S = nI 33
          · rw [if_pos h3]; exact (pz_mono Y t u f 5 (op + 1) (advS S) hA).cod
          · rw [if_neg h3]
            obtain ⟨a, b, c⟩ := pz_mono Y t u f 0 (op + 1) (advS S) hA
            have a' : S.2.1 + 1 ≤ (pz Y t u f 0 (op + 1) (advS S)).2.1 := a
            have c' : (pz Y t u f 0 (op + 1) (advS S)).2.2.length + (S.2.1 + 1) ≤ S.2.2.length + (pz Y t u f 0 (op + 1) (advS S)).2.1 := c
            unfold clS
            by_cases h4 : hereS Y t (pz Y t u f 0 (op + 1) (advS S)) = nI 41
            · rw [if_pos h4]
              have h5 := here_k (by decide) h4
              exact ⟨by show S.2.1 ≤ (pz Y t u f 0 (op + 1) (advS S)).2.1 + 1; omega, by show (pz Y t u f 0 (op + 1) (advS S)).2.1 + 1 ≤ t; omega, by show (pz Y t u f 0 (op + 1) (advS S)).2.2.length + S.2.1 ≤ S.2.2.length + ((pz Y t u f 0 (op + 1) (advS S)).2.1 + 1); omega⟩
            · rw [if_neg h4]
              exact ⟨by show S.2.1 ≤ (pz Y t u f 0 (op + 1) (advS S)).2.1; omega, b, by show (pz Y t u f 0 (op + 1) (advS S)).2.2.length + S.2.1 ≤ S.2.2.length + (pz Y t u f 0 (op + 1) (advS S)).2.1; omega⟩
      · rw [if_neg h1]
        by_cases h2 : isDg (hereS Y t S)
        · rw [if_pos h2]; exact (num_one h2).cod
        · rw [if_neg h2]
          by_cases h3 : hereS Y t S < 0 ∨ nmS u (hereS Y t S) < 0
          · rw [if_pos h3]; exact ⟨Nat.le_refl _, h, Nat.le_refl _⟩
          · rw [if_neg h3]
            have h5 := here_lt (fun q => h3 (Or.inl (by rw [q]; decide)))
            have h6 := cod_len (10000 + (nmS u (hereS Y t S)).toNatClampNeg) S
            refine ⟨?_, ?_, ?_⟩ <;> (try show _ ≤ (codS _ S).2.1 + 1) <;> (try show (codS _ S).2.1 + 1 ≤ t) <;> (try show (codS _ S).2.2.length + _ ≤ _ + ((codS _ S).2.1 + 1)) <;> rw [cod_at] <;> omega
theorem nm_rg (u : Nat) (c : Int32) : ∀ k, nmP u c k = -1 ∨ ∃ j, j < k ∧ nmP u c k = nI j
  | 0 => Or.inl rfl
  | k + 1 => by
    unfold nmP
    by_cases h : bytS (1 + u) k = c
    · rw [if_pos h]; exact Or.inr ⟨k, Nat.lt_succ_self k, rfl⟩
    · rw [if_neg h]
      rcases nm_rg u c k with h1 | ⟨j, h1, h2⟩
      · exact Or.inl h1
      · exact Or.inr ⟨j, by omega, h2⟩
def pcon (l : Launch) (G : GC) (y : MethodName) (cy : ByteArray) (nLy d : Nat) (Y : Nat → Int32) (t u op : Nat) (g : PS → PS) : Prop := ∀ (X : Mm) (S : PS), pRep X op u S → okS t S → CV l G d y cy nLy [.ref (gb G + 205)] (upA X 206 Y) (fun M' => ∃ X', M' = upA X' 206 Y ∧ pRep X' op u (g S) ∧ exP X X')
def PB (l : Launch) (G : GC) (Y : Nat → Int32) (t u f : Nat) : Prop := ∀ op, op ≤ 5 → (6 * (5 - op) + 5 < f → pcon l G yX10_either cX10_either 1 (8 + f) Y t u op (pz Y t u f 0 op)) ∧ (6 * (5 - op) + 4 < f → pcon l G yX10_both cX10_both 1 (8 + f) Y t u op (pz Y t u f 1 op)) ∧ (6 * (5 - op) + 3 < f → pcon l G yX10_compared cX10_compared 2 (8 + f) Y t u op (pz Y t u f 2 op)) ∧ (6 * (5 - op) + 2 < f → pcon l G yX10_sum cX10_sum 2 (8 + f) Y t u op (pz Y t u f 3 op)) ∧ (6 * (5 - op) + 1 < f → pcon l G yX10_product cX10_product 2 (8 + f) Y t u op (pz Y t u f 4 op)) ∧ (6 * (5 - op) + 0 < f → pcon l G yX10_one cX10_one 4 (8 + f) Y t u op (pz Y t u f 5 op))
set_option maxHeartbeats 4000000 in
set_option maxRecDepth 100000 in
theorem r_here (l : Launch) (G : GC) (X : Mm) (Y : Nat → Int32) (t u op : Nat) (ht : t ≤ 60) (hT : Y 4 = nI t) (hu : u < 2) (S : PS) (hp : pRep X op u S) (ho : okS t S) : CP l G 1 yX10_here cX10_here 1 .int [.ref (gb G + 205)] (upA X 206 Y) (hereS Y t S) := by
  refine Con.of (by decide +kernel) (Nat.le_of_ble_eq_true rfl) ?_
  intro f C hRm hRt _
  show Vc f G NPh (upA X 206 Y) 0 [(0, .ref (gb G + 205))] []
  have h1 := ho.1
  refine v_aload_n C 0 dX10_here_0 rfl ?_
  refine g_X10_170 C (by decide) sh_205 dX10_here_1 ?_
  refine v_top (X 205 9) (congrFun (upA_ne X Y (by decide)) 9) ?_
  refine v_top (b2i (S.1 = false)) (hp.1.2.2.2.1) ?_
  refine nb_if_ne C 36 dX10_here_4 rfl (fun h_4 => ?_) (fun h_4 => ?_)
  · skip
    refine v_iconst C (-1) dX10_here_36 (by decide) ?_
    exact n_iret C hRt rfl dX10_here_37 ((if_neg (fun q => by simp_all)).symm) rfl
  · skip
    refine v_aload_n C 0 dX10_here_7 rfl ?_
    refine g_X10_174 C (by decide) sh_205 dX10_here_8 ?_
    refine v_top (X 205 6) (congrFun (upA_ne X Y (by decide)) 6) ?_
    refine v_top (nI S.2.1) (hp.1.1) ?_
    refine v_aload_n C 0 dX10_here_11 rfl ?_
    refine g_X10_9 C (by decide) sh_205 dX10_here_12 ?_
    refine v_iconst C (nI 4) dX10_here_15 (by decide) ?_
    refine n_now_ld C (by decide) sh_206 (by omega) (by decide) dX10_here_16 ?_
    refine v_top (nI t) (hT) ?_
    refine n_icmp_ge C (by omega) (by omega) 36 dX10_here_17 rfl (fun h_17 => ?_) (fun h_17 => ?_)
    · skip
      refine v_iconst C (-1) dX10_here_36 (by decide) ?_
      exact n_iret C hRt rfl dX10_here_37 ((if_neg (fun q => absurd q.2 (by omega))).symm) rfl
    · skip
      refine v_aload_n C 0 dX10_here_20 rfl ?_
      refine g_X10_9 C (by decide) sh_205 dX10_here_21 ?_
      refine v_sipush C (nI 237) dX10_here_24 (by decide) ?_
      refine v_aload_n C 0 dX10_here_27 rfl ?_
      refine g_X10_174 C (by decide) sh_205 dX10_here_28 ?_
      refine v_top (X 205 6) (congrFun (upA_ne X Y (by decide)) 6) ?_
      refine v_top (nI S.2.1) (hp.1.1) ?_
      refine n_iadd C dX10_here_31 ?_
      refine n_now_ld C (by decide) sh_206 (by omega) (by decide) dX10_here_32 ?_
      refine v_goto C 37 dX10_here_33 rfl ?_
      exact n_iret C hRt rfl dX10_here_37 ((if_pos ⟨(by cases hh : S.1 <;> simp_all), h_17⟩).symm) rfl
set_option maxHeartbeats 4000000 in
set_option maxRecDepth 100000 in
theorem r_takes (l : Launch) (G : GC) (X : Mm) (Y : Nat → Int32) (t u op : Nat) (ht : t ≤ 60) (hT : Y 4 = nI t) (hu : u < 2) (S : PS) (hp : pRep X op u S) (ho : okS t S) (c : Int32) : CI l G 2 yX10_takes cX10_takes 3 .boolean [.ref (gb G + 205), .int c] (upA X 206 Y) (b2i (hereS Y t S = c)) (fun M' => ∃ X', M' = upA X' 206 Y ∧ pRep X' op u (tkS Y t c S) ∧ exP X X') := by
  refine Con.of (by decide +kernel) (Nat.le_of_ble_eq_true rfl) ?_
  intro f C hRm hRt _
  show Vc f G NPh (upA X 206 Y) 0 [(0, .ref (gb G + 205)), (1, .int c)] []
  refine v_aload_n C 0 dX10_takes_0 rfl ?_
  refine n_callVp C hRm [] cw_X10_here ml_X10_178 (by decide) sh_205 (by decide) rfl (r_here l G X Y t u op ht hT hu S hp ho) (by omega) rfl rfl (Nat.le_of_ble_eq_true rfl) dX10_takes_1 ?_
  refine v_iload_n C 1 dX10_takes_4 rfl ?_
  refine v_icmp_ne C 12 dX10_takes_5 rfl (fun h_5 => ?_) (fun h_5 => ?_)
  · skip
    refine v_iconst C (nI 0) dX10_takes_12 (by decide) ?_
    refine v_istore_n C [(2, .int (nI 0)), (0, .ref (gb G + 205)), (1, .int c)] dX10_takes_13 rfl (by decide) rfl ?_
    refine v_aload_n C 1 dX10_takes_14 rfl ?_
    refine v_dup C dX10_takes_15 rfl ?_
    refine g_X10_174 C (by decide) sh_205 dX10_takes_16 ?_
    refine v_top (X 205 6) (congrFun (upA_ne X Y (by decide)) 6) ?_
    refine v_top (nI S.2.1) (hp.1.1) ?_
    refine v_iload_n C 0 dX10_takes_19 rfl ?_
    refine n_if_eq C (by omega) 27 dX10_takes_20 rfl (fun _ => ?_) (fun h_20 => absurd h_20 (by decide))
    refine v_iconst C (nI 0) dX10_takes_27 (by decide) ?_
    refine n_iadd C dX10_takes_28 ?_
    refine p_X10_174 C (by decide) sh_205 dX10_takes_29 ?_
    refine v_mem (upA (up2 X 205 6 (nI (S.2.1 + 0))) 206 Y) (up2_upA_ne _ _ _ _ (by decide)) ?_
    refine v_iload_n C 0 dX10_takes_32 rfl ?_
    exact n_iret C hRt rfl dX10_takes_33 (b2i_F h_5) ⟨_, rfl, by unfold tkS; rw [if_neg h_5]; exact hp.at (S.2.1 + 0), exP.s _ _ _ (by decide)⟩
  · skip
    refine v_iconst C (nI 1) dX10_takes_8 (by decide) ?_
    refine v_goto C 13 dX10_takes_9 rfl ?_
    refine v_istore_n C [(2, .int (nI 1)), (0, .ref (gb G + 205)), (1, .int c)] dX10_takes_13 rfl (by decide) rfl ?_
    refine v_aload_n C 1 dX10_takes_14 rfl ?_
    refine v_dup C dX10_takes_15 rfl ?_
    refine g_X10_174 C (by decide) sh_205 dX10_takes_16 ?_
    refine v_top (X 205 6) (congrFun (upA_ne X Y (by decide)) 6) ?_
    refine v_top (nI S.2.1) (hp.1.1) ?_
    refine v_iload_n C 0 dX10_takes_19 rfl ?_
    refine n_if_eq C (by omega) 27 dX10_takes_20 rfl (fun h_20 => absurd h_20 (by decide)) (fun _ => ?_)
    refine v_iconst C (nI 1) dX10_takes_23 (by decide) ?_
    refine v_goto C 28 dX10_takes_24 rfl ?_
    refine n_iadd C dX10_takes_28 ?_
    refine p_X10_174 C (by decide) sh_205 dX10_takes_29 ?_
    refine v_mem (upA (up2 X 205 6 (nI (S.2.1 + 1))) 206 Y) (up2_upA_ne _ _ _ _ (by decide)) ?_
    refine v_iload_n C 0 dX10_takes_32 rfl ?_
    exact n_iret C hRt rfl dX10_takes_33 (b2i_T h_5) ⟨_, rfl, by unfold tkS; rw [if_pos h_5]; exact hp.at (S.2.1 + 1), exP.s _ _ _ (by decide)⟩
set_option maxHeartbeats 4000000 in
set_option maxRecDepth 100000 in
theorem r_codes (l : Launch) (G : GC) (X : Mm) (Y : Nat → Int32) (t u op : Nat) (ht : t ≤ 60) (hT : Y 4 = nI t) (hu : u < 2) (S : PS) (hp : pRep X op u S) (ho : okS t S) (v : Nat) (hlen : S.2.2.length < 60) : CV l G 1 yX10_codes cX10_codes 2 [.ref (gb G + 205), .int (nI v)] (upA X 206 Y) (fun M' => ∃ X', M' = upA X' 206 Y ∧ pRep X' op u (codS v S) ∧ exP X X') := by
  refine Con.of (by decide +kernel) (Nat.le_of_ble_eq_true rfl) ?_
  intro f C hRm hRt _
  show Vc f G NPh (upA X 206 Y) 0 [(0, .ref (gb G + 205)), (1, .int (nI v))] []
  refine v_aload_n C 0 dX10_codes_0 rfl ?_
  refine g_X10_170 C (by decide) sh_205 dX10_codes_1 ?_
  refine v_top (X 205 9) (congrFun (upA_ne X Y (by decide)) 9) ?_
  refine v_top (b2i (S.1 = false)) (hp.1.2.2.2.1) ?_
  refine nb_if_ne C 27 dX10_codes_4 rfl (fun h_4 => ?_) (fun h_4 => ?_)
  · skip
    exact n_ret C hRt dX10_codes_27 ⟨X, rfl, by unfold codS; rw [if_neg (by simp [h_4])]; exact hp, exP.rf X⟩
  · skip
    refine v_aload_n C 0 dX10_codes_7 rfl ?_
    refine g_X10_32 C (by decide) sh_205 dX10_codes_8 ?_
    refine v_aload_n C 0 dX10_codes_11 rfl ?_
    refine g_X10_182 C (by decide) sh_205 dX10_codes_12 ?_
    refine v_top (X 205 11) (congrFun (upA_ne X Y (by decide)) 11) ?_
    refine v_top (nI S.2.2.length) (hp.1.2.2.2.2) ?_
    refine v_iload_n C 1 dX10_codes_15 rfl ?_
    refine v_iast C (by decide) sh_211 (by omega) (by decide) dX10_codes_16 ?_
    refine v_mem (upA (up2 X 211 S.2.2.length (nI v)) 206 Y) (up2_upA_ne _ _ _ _ (by decide)) ?_
    refine v_aload_n C 0 dX10_codes_17 rfl ?_
    refine v_dup C dX10_codes_18 rfl ?_
    refine g_X10_182 C (by decide) sh_205 dX10_codes_19 ?_
    refine v_top ((up2 X 211 S.2.2.length (nI v)) 205 11) (congrFun (upA_ne (up2 X 211 S.2.2.length (nI v)) Y (by decide)) 11) ?_
    refine v_top (nI S.2.2.length) ((congrFun (up2_ne X _ _ (by decide)) 11).trans hp.1.2.2.2.2) ?_
    refine v_iconst C (nI 1) dX10_codes_22 (by decide) ?_
    refine n_iadd C dX10_codes_23 ?_
    refine p_X10_182 C (by decide) sh_205 dX10_codes_24 ?_
    refine v_mem (upA (up2 (up2 X 211 S.2.2.length (nI v)) 205 11 (nI (S.2.2.length + 1))) 206 Y) (up2_upA_ne _ _ _ _ (by decide)) ?_
    exact n_ret C hRt dX10_codes_27 ⟨_, rfl, hp.cod v (by cases hh : S.1 <;> simp_all), (exP.c _ _ _).tr (exP.s _ _ _ (by decide))⟩
set_option maxHeartbeats 4000000 in
set_option maxRecDepth 100000 in
theorem r_nameOf (l : Launch) (G : GC) (M : Mm) (u : Nat) (hu : u < 2) (h8 : M 205 8 = nI u) (hN : M 210 u = nI (1 + u + 1)) (c : Int32) : CP l G 5 yX10_nameOf cX10_nameOf 4 .int [.ref (gb G + 205), .int c] M (nmS u c) := by
  refine Con.of (by decide +kernel) (Nat.le_of_ble_eq_true rfl) ?_
  intro f C hRm hRt _
  have h5 := lenS_le (1 + u) (by omega)
  have LN : ∀ (kk : Nat) (k : Nat) (v : Int32), lenS (1 + u) - k = kk → k ≤ lenS (1 + u) → v = nmP u c k → Vc f G NPh M 4 [(3, .int (nI k)), (2, .int v), (0, .ref (gb G + 205)), (1, .int c)] [] := by
    intro kk
    induction kk using Nat.strongRecOn with
    | _ kk ihLN =>
      intro k v hkk hk1 hv
      refine v_iload_n C 0 dX10_nameOf_4 rfl ?_
      refine v_aload_n C 2 dX10_nameOf_5 rfl ?_
      refine g_X10_28 C (by decide) sh_205 dX10_nameOf_6 ?_
      refine v_aload_n C 2 dX10_nameOf_9 rfl ?_
      refine g_X10_207 C (by decide) sh_205 dX10_nameOf_10 ?_
      refine v_top (nI u) h8 ?_
      refine v_aldS C (i := 1 + u) (by decide) sh_210 hu hN (by omega) dX10_nameOf_13 ?_
      refine n_callTp C hRm [] cw_J0_length_8abf5 rfl ml_X10_210 (by omega) (j_length l G M (1 + u) (by omega)) (by decide) rfl rfl (Nat.le_of_ble_eq_true rfl) dX10_nameOf_14 ?_
      refine n_icmp_ge C (by omega) (by omega) 49 dX10_nameOf_17 rfl (fun h_17 => ?_) (fun h_17 => ?_)
      · skip
        refine v_iload_n C 1 dX10_nameOf_49 rfl ?_
        have hz : k = lenS (1 + u) := by omega
        subst hz
        exact n_iret C hRt rfl dX10_nameOf_50 hv rfl
      · skip
        refine v_aload_n C 2 dX10_nameOf_20 rfl ?_
        refine g_X10_28 C (by decide) sh_205 dX10_nameOf_21 ?_
        refine v_aload_n C 2 dX10_nameOf_24 rfl ?_
        refine g_X10_207 C (by decide) sh_205 dX10_nameOf_25 ?_
        refine v_top (nI u) h8 ?_
        refine v_aldS C (i := 1 + u) (by decide) sh_210 hu hN (by omega) dX10_nameOf_28 ?_
        refine v_iload_n C 0 dX10_nameOf_29 rfl ?_
        refine n_callTp C hRm [.int (nI k)] cw_J0_charAt_5068e rfl ml_X10_213 (by omega) (j_charAt l G M (1 + u) (by omega) k (by omega)) (by decide) rfl rfl (Nat.le_of_ble_eq_true rfl) dX10_nameOf_30 ?_
        refine v_iload_n C 3 dX10_nameOf_33 rfl ?_
        refine v_icmp_ne C 41 dX10_nameOf_34 rfl (fun h_34 => ?_) (fun h_34 => ?_)
        · skip
          refine v_iload_n C 1 dX10_nameOf_41 rfl ?_
          refine v_istore_n C [(2, .int v), (3, .int (nI k)), (0, .ref (gb G + 205)), (1, .int c)] dX10_nameOf_42 rfl (by decide) rfl ?_
          refine v_iinc C (nI (k + 1)) 1 [(3, .int (nI (k + 1))), (2, .int v), (0, .ref (gb G + 205)), (1, .int c)] dX10_nameOf_43 rfl (nI_add _ _) (by decide) rfl ?_
          refine v_goto C 4 dX10_nameOf_46 rfl ?_
          refine v_sub [0, 1, 2, 3] [(3, .int (nI (k + 1))), (2, .int v), (0, .ref (gb G + 205)), (1, .int c)] rfl ?_
          exact ihLN _ (by omega) (k + 1) v  rfl (by omega) (by simp only [nmP]; first | rw [if_pos h_34] | (rw [if_neg h_34]; exact hv))
        · skip
          refine v_iload_n C 0 dX10_nameOf_37 rfl ?_
          refine v_goto C 42 dX10_nameOf_38 rfl ?_
          refine v_istore_n C [(2, .int (nI k)), (3, .int (nI k)), (0, .ref (gb G + 205)), (1, .int c)] dX10_nameOf_42 rfl (by decide) rfl ?_
          refine v_iinc C (nI (k + 1)) 1 [(3, .int (nI (k + 1))), (2, .int (nI k)), (0, .ref (gb G + 205)), (1, .int c)] dX10_nameOf_43 rfl (nI_add _ _) (by decide) rfl ?_
          refine v_goto C 4 dX10_nameOf_46 rfl ?_
          refine v_sub [0, 1, 2, 3] [(3, .int (nI (k + 1))), (2, .int (nI k)), (0, .ref (gb G + 205)), (1, .int c)] rfl ?_
          exact ihLN _ (by omega) (k + 1) (nI k)  rfl (by omega) (by simp only [nmP]; first | rw [if_pos h_34] | (rw [if_neg h_34]; exact hv))
  show Vc f G NPh M 0 [(0, .ref (gb G + 205)), (1, .int c)] []
  refine v_iconst C (-1) dX10_nameOf_0 (by decide) ?_
  refine v_istore_n C [(2, .int (-1)), (0, .ref (gb G + 205)), (1, .int c)] dX10_nameOf_1 rfl (by decide) rfl ?_
  refine v_iconst C (nI 0) dX10_nameOf_2 (by decide) ?_
  refine v_istore_n C [(3, .int (nI 0)), (2, .int (-1)), (0, .ref (gb G + 205)), (1, .int c)] dX10_nameOf_3 rfl (by decide) rfl ?_
  refine v_sub [0, 1, 2, 3] [(3, .int (nI 0)), (2, .int (-1)), (0, .ref (gb G + 205)), (1, .int c)] rfl ?_
  exact LN _ 0 (-1)  rfl (by omega) rfl
set_option maxHeartbeats 4000000 in
set_option maxRecDepth 100000 in
theorem pr_either (l : Launch) (G : GC) (Y : Nat → Int32) (t u op : Nat) (ht : t ≤ 60) (hT : Y 4 = nI t) (hu : u < 2) (f : Nat) (hB : PB l G Y t u f) (hop : op ≤ 5) (hr : 6 * (5 - op) + 5 < f + 1) : pcon l G yX10_either cX10_either 1 (8 + (f + 1)) Y t u op (pz Y t u (f + 1) 0 op) := by
  intro X0 S0 hp0 ho0
  refine Con.of (by decide +kernel) (Nat.le_of_ble_eq_true rfl) ?_
  intro fr C hRm hRt _
  have hF0 : pz Y t u (f + 1) 0 op S0 = lpS Y t (pz Y t u f 1 op) 0 60 (pz Y t u f 1 op S0) := rfl
  have LP : ∀ (k : Nat) (S : PS) (X : Mm), pRep X op u S → okS t S → t ≤ S.2.1 + k → exP X0 X → lpS Y t (pz Y t u f 1 op) 0 k S = lpS Y t (pz Y t u f 1 op) 0 60 (pz Y t u f 1 op S0) → Vc fr G NPh (upA X 206 Y) 4 [(0, .ref (gb G + 205))] [] := by
    intro k
    induction k with
    | zero =>
      intro S X hp ho hk he hF
      refine v_aload_n C 0 dX10_either_4 rfl ?_
      refine v_bipush C (nI 124) dX10_either_5 (by decide) ?_
      refine n_callVi C hRm [.int (nI 124)] cw_X10_takes ml_X10_188 (by decide) sh_205 (by decide) rfl (r_takes l G X Y t u op ht hT hu S hp ho (nI 124)) (by omega) rfl rfl (Nat.le_of_ble_eq_true rfl) dX10_either_7 (fun M5 hP_7 => ?_)
      obtain ⟨X1, rfl, hp1, he1⟩ := hP_7
      have hE1 := (he).tr he1
      refine nb_if_eq C 27 dX10_either_10 rfl (fun h_10 => ?_) (fun h_10 => ?_)
      · skip
        have hp2 : pRep X1 op u S := by have h9 := hp1; unfold tkS at h9; rw [if_neg h_10] at h9; exact h9
        have hFF : S = pz Y t u (f + 1) 0 op S0 := hF.trans hF0.symm
        exact n_ret C hRt dX10_either_27 ⟨_, rfl, hFF ▸ hp2, hE1⟩
      · skip
        exact absurd (here_k (by decide) h_10).2 (by omega)
    | succ k ih =>
      intro S X hp ho hk he hF
      refine v_aload_n C 0 dX10_either_4 rfl ?_
      refine v_bipush C (nI 124) dX10_either_5 (by decide) ?_
      refine n_callVi C hRm [.int (nI 124)] cw_X10_takes ml_X10_188 (by decide) sh_205 (by decide) rfl (r_takes l G X Y t u op ht hT hu S hp ho (nI 124)) (by omega) rfl rfl (Nat.le_of_ble_eq_true rfl) dX10_either_7 (fun M5 hP_7 => ?_)
      obtain ⟨X3, rfl, hp3, he3⟩ := hP_7
      have hE3 := (he).tr he3
      refine nb_if_eq C 27 dX10_either_10 rfl (fun h_10 => ?_) (fun h_10 => ?_)
      · skip
        have hp4 : pRep X3 op u S := by have h9 := hp3; unfold tkS at h9; rw [if_neg h_10] at h9; exact h9
        have hz : sgn 0 (hereS Y t S) = 0 := by unfold sgn; exact if_neg h_10
        have hFF : S = pz Y t u (f + 1) 0 op S0 := by rw [hF0, ← hF]; unfold lpS; rw [if_pos hz]
        exact n_ret C hRt dX10_either_27 ⟨_, rfl, hFF ▸ hp4, hE3⟩
      · skip
        have hp5 : pRep X3 op u (advS S) := by have h9 := hp3; unfold tkS at h9; rw [if_pos h_10] at h9; exact h9
        have hl5 := here_k (by decide) h_10
        have ho5 : okS t (advS S) := ⟨by show S.2.1 + 1 ≤ t; omega, by show S.2.2.length ≤ S.2.1 + 1; have := ho.2; omega⟩
        refine v_aload_n C 0 dX10_either_13 rfl ?_
        refine n_callVv C hRm [] cw_X10_both ml_X10_185 (by decide) sh_205 (by decide) rfl ((hB op hop).2.1 (by omega) X3 (advS S) hp5 ho5) (by omega) rfl rfl (Nat.le_of_ble_eq_true rfl) dX10_either_14 (fun M5 hP_14 => ?_)
        obtain ⟨X6, rfl, hp6, he6⟩ := hP_14
        have hE6 := (hE3).tr he6
        have hm6 := pz_mono Y t u f 1 op (advS S) ho5.1
        have ho6 := hm6.ok ho5
        refine v_aload_n C 0 dX10_either_17 rfl ?_
        refine v_sipush C (nI 20000) dX10_either_18 (by decide) ?_
        refine n_callVv C hRm [.int (nI 20000)] cw_X10_codes ml_X10_191 (by decide) sh_205 (by decide) rfl (r_codes l G X6 Y t u op ht hT hu (pz Y t u f 1 op (advS S)) hp6 ho6 20000 (by have h90 := (hm6).ok1 ho; have h92 := ho6.1; omega)) (by omega) rfl rfl (Nat.le_of_ble_eq_true rfl) dX10_either_21 (fun M5 hP_21 => ?_)
        obtain ⟨X7, rfl, hp7, he7⟩ := hP_21
        have hE7 := (hE6).tr he7
        refine v_goto C 4 dX10_either_24 rfl ?_
        have hz : sgn 0 (hereS Y t S) = 20000 := by unfold sgn; exact if_pos h_10
        have hmm := (hm6).cod (v := 20000)
        have h91 : S.2.1 + 1 ≤ (pz Y t u f 1 op (advS S)).2.1 := (hm6).1
        exact ih _ _ hp7 (hmm.ok ho) (by rw [cod_at]; omega) (hE7) (by rw [← hF]; exact ((congrFun rfl S : lpS Y t (pz Y t u f 1 op) 0 (k + 1) S = lpS Y t (pz Y t u f 1 op) 0 (k + 1) S).trans (by rw [lpS, hz]; rfl)).symm)
  show Vc fr G NPh (upA X0 206 Y) 0 [(0, .ref (gb G + 205))] []
  refine v_aload_n C 0 dX10_either_0 rfl ?_
  refine n_callVv C hRm [] cw_X10_both ml_X10_185 (by decide) sh_205 (by decide) rfl ((hB op hop).2.1 (by omega) X0 S0 hp0 ho0) (by omega) rfl rfl (Nat.le_of_ble_eq_true rfl) dX10_either_1 (fun M5 hP_1 => ?_)
  obtain ⟨X8, rfl, hp8, he8⟩ := hP_1
  have hE8 := (exP.rf X0).tr he8
  have hm8 := pz_mono Y t u f 1 op S0 ho0.1
  have ho8 := hm8.ok ho0
  exact LP 60 _ _ hp8 ho8 (by have := ho0.1; omega) (hE8) rfl
set_option maxHeartbeats 4000000 in
set_option maxRecDepth 100000 in
theorem pr_both (l : Launch) (G : GC) (Y : Nat → Int32) (t u op : Nat) (ht : t ≤ 60) (hT : Y 4 = nI t) (hu : u < 2) (f : Nat) (hB : PB l G Y t u f) (hop : op ≤ 5) (hr : 6 * (5 - op) + 4 < f + 1) : pcon l G yX10_both cX10_both 1 (8 + (f + 1)) Y t u op (pz Y t u (f + 1) 1 op) := by
  intro X0 S0 hp0 ho0
  refine Con.of (by decide +kernel) (Nat.le_of_ble_eq_true rfl) ?_
  intro fr C hRm hRt _
  have hF0 : pz Y t u (f + 1) 1 op S0 = lpS Y t (pz Y t u f 2 op) 1 60 (pz Y t u f 2 op S0) := rfl
  have LP : ∀ (k : Nat) (S : PS) (X : Mm), pRep X op u S → okS t S → t ≤ S.2.1 + k → exP X0 X → lpS Y t (pz Y t u f 2 op) 1 k S = lpS Y t (pz Y t u f 2 op) 1 60 (pz Y t u f 2 op S0) → Vc fr G NPh (upA X 206 Y) 4 [(0, .ref (gb G + 205))] [] := by
    intro k
    induction k with
    | zero =>
      intro S X hp ho hk he hF
      refine v_aload_n C 0 dX10_both_4 rfl ?_
      refine v_bipush C (nI 38) dX10_both_5 (by decide) ?_
      refine n_callVi C hRm [.int (nI 38)] cw_X10_takes ml_X10_188 (by decide) sh_205 (by decide) rfl (r_takes l G X Y t u op ht hT hu S hp ho (nI 38)) (by omega) rfl rfl (Nat.le_of_ble_eq_true rfl) dX10_both_7 (fun M5 hP_7 => ?_)
      obtain ⟨X9, rfl, hp9, he9⟩ := hP_7
      have hE9 := (he).tr he9
      refine nb_if_eq C 27 dX10_both_10 rfl (fun h_10 => ?_) (fun h_10 => ?_)
      · skip
        have hp10 : pRep X9 op u S := by have h9 := hp9; unfold tkS at h9; rw [if_neg h_10] at h9; exact h9
        have hFF : S = pz Y t u (f + 1) 1 op S0 := hF.trans hF0.symm
        exact n_ret C hRt dX10_both_27 ⟨_, rfl, hFF ▸ hp10, hE9⟩
      · skip
        exact absurd (here_k (by decide) h_10).2 (by omega)
    | succ k ih =>
      intro S X hp ho hk he hF
      refine v_aload_n C 0 dX10_both_4 rfl ?_
      refine v_bipush C (nI 38) dX10_both_5 (by decide) ?_
      refine n_callVi C hRm [.int (nI 38)] cw_X10_takes ml_X10_188 (by decide) sh_205 (by decide) rfl (r_takes l G X Y t u op ht hT hu S hp ho (nI 38)) (by omega) rfl rfl (Nat.le_of_ble_eq_true rfl) dX10_both_7 (fun M5 hP_7 => ?_)
      obtain ⟨X11, rfl, hp11, he11⟩ := hP_7
      have hE11 := (he).tr he11
      refine nb_if_eq C 27 dX10_both_10 rfl (fun h_10 => ?_) (fun h_10 => ?_)
      · skip
        have hp12 : pRep X11 op u S := by have h9 := hp11; unfold tkS at h9; rw [if_neg h_10] at h9; exact h9
        have hz : sgn 1 (hereS Y t S) = 0 := by unfold sgn; exact if_neg h_10
        have hFF : S = pz Y t u (f + 1) 1 op S0 := by rw [hF0, ← hF]; unfold lpS; rw [if_pos hz]
        exact n_ret C hRt dX10_both_27 ⟨_, rfl, hFF ▸ hp12, hE11⟩
      · skip
        have hp13 : pRep X11 op u (advS S) := by have h9 := hp11; unfold tkS at h9; rw [if_pos h_10] at h9; exact h9
        have hl13 := here_k (by decide) h_10
        have ho13 : okS t (advS S) := ⟨by show S.2.1 + 1 ≤ t; omega, by show S.2.2.length ≤ S.2.1 + 1; have := ho.2; omega⟩
        refine v_aload_n C 0 dX10_both_13 rfl ?_
        refine n_callVv C hRm [] cw_X10_compared ml_X10_195 (by decide) sh_205 (by decide) rfl ((hB op hop).2.2.1 (by omega) X11 (advS S) hp13 ho13) (by omega) rfl rfl (Nat.le_of_ble_eq_true rfl) dX10_both_14 (fun M5 hP_14 => ?_)
        obtain ⟨X14, rfl, hp14, he14⟩ := hP_14
        have hE14 := (hE11).tr he14
        have hm14 := pz_mono Y t u f 2 op (advS S) ho13.1
        have ho14 := hm14.ok ho13
        refine v_aload_n C 0 dX10_both_17 rfl ?_
        refine v_sipush C (nI 20001) dX10_both_18 (by decide) ?_
        refine n_callVv C hRm [.int (nI 20001)] cw_X10_codes ml_X10_191 (by decide) sh_205 (by decide) rfl (r_codes l G X14 Y t u op ht hT hu (pz Y t u f 2 op (advS S)) hp14 ho14 20001 (by have h90 := (hm14).ok1 ho; have h92 := ho14.1; omega)) (by omega) rfl rfl (Nat.le_of_ble_eq_true rfl) dX10_both_21 (fun M5 hP_21 => ?_)
        obtain ⟨X15, rfl, hp15, he15⟩ := hP_21
        have hE15 := (hE14).tr he15
        refine v_goto C 4 dX10_both_24 rfl ?_
        have hz : sgn 1 (hereS Y t S) = 20001 := by unfold sgn; exact if_pos h_10
        have hmm := (hm14).cod (v := 20001)
        have h91 : S.2.1 + 1 ≤ (pz Y t u f 2 op (advS S)).2.1 := (hm14).1
        exact ih _ _ hp15 (hmm.ok ho) (by rw [cod_at]; omega) (hE15) (by rw [← hF]; exact ((congrFun rfl S : lpS Y t (pz Y t u f 2 op) 1 (k + 1) S = lpS Y t (pz Y t u f 2 op) 1 (k + 1) S).trans (by rw [lpS, hz]; rfl)).symm)
  show Vc fr G NPh (upA X0 206 Y) 0 [(0, .ref (gb G + 205))] []
  refine v_aload_n C 0 dX10_both_0 rfl ?_
  refine n_callVv C hRm [] cw_X10_compared ml_X10_195 (by decide) sh_205 (by decide) rfl ((hB op hop).2.2.1 (by omega) X0 S0 hp0 ho0) (by omega) rfl rfl (Nat.le_of_ble_eq_true rfl) dX10_both_1 (fun M5 hP_1 => ?_)
  obtain ⟨X16, rfl, hp16, he16⟩ := hP_1
  have hE16 := (exP.rf X0).tr he16
  have hm16 := pz_mono Y t u f 2 op S0 ho0.1
  have ho16 := hm16.ok ho0
  exact LP 60 _ _ hp16 ho16 (by have := ho0.1; omega) (hE16) rfl
set_option maxHeartbeats 4000000 in
set_option maxRecDepth 100000 in
theorem pr_compared (l : Launch) (G : GC) (Y : Nat → Int32) (t u op : Nat) (ht : t ≤ 60) (hT : Y 4 = nI t) (hu : u < 2) (f : Nat) (hB : PB l G Y t u f) (hop : op ≤ 5) (hr : 6 * (5 - op) + 3 < f + 1) : pcon l G yX10_compared cX10_compared 2 (8 + (f + 1)) Y t u op (pz Y t u (f + 1) 2 op) := by
  intro X0 S0 hp0 ho0
  refine Con.of (by decide +kernel) (Nat.le_of_ble_eq_true rfl) ?_
  intro fr C hRm hRt _
  have hF0 : pz Y t u (f + 1) 2 op S0 = lpS Y t (pz Y t u f 3 op) 2 1 (pz Y t u f 3 op S0) := rfl
  show Vc fr G NPh (upA X0 206 Y) 0 [(0, .ref (gb G + 205))] []
  refine v_aload_n C 0 dX10_compared_0 rfl ?_
  refine n_callVv C hRm [] cw_X10_sum ml_X10_198 (by decide) sh_205 (by decide) rfl ((hB op hop).2.2.2.1 (by omega) X0 S0 hp0 ho0) (by omega) rfl rfl (Nat.le_of_ble_eq_true rfl) dX10_compared_1 (fun M5 hP_1 => ?_)
  obtain ⟨X17, rfl, hp17, he17⟩ := hP_1
  have hE17 := (exP.rf X0).tr he17
  have hm17 := pz_mono Y t u f 3 op S0 ho0.1
  have ho17 := hm17.ok ho0
  refine v_aload_n C 0 dX10_compared_4 rfl ?_
  refine v_bipush C (nI 60) dX10_compared_5 (by decide) ?_
  refine n_callVi C hRm [.int (nI 60)] cw_X10_takes ml_X10_188 (by decide) sh_205 (by decide) rfl (r_takes l G X17 Y t u op ht hT hu (pz Y t u f 3 op S0) hp17 ho17 (nI 60)) (by omega) rfl rfl (Nat.le_of_ble_eq_true rfl) dX10_compared_7 (fun M5 hP_7 => ?_)
  obtain ⟨X18, rfl, hp18, he18⟩ := hP_7
  have hE18 := (hE17).tr he18
  refine nb_if_eq C 19 dX10_compared_10 rfl (fun h_10 => ?_) (fun h_10 => ?_)
  · skip
    have hp19 : pRep X18 op u (pz Y t u f 3 op S0) := by have h9 := hp18; unfold tkS at h9; rw [if_neg h_10] at h9; exact h9
    refine v_aload_n C 0 dX10_compared_19 rfl ?_
    refine v_bipush C (nI 61) dX10_compared_20 (by decide) ?_
    refine n_callVi C hRm [.int (nI 61)] cw_X10_takes ml_X10_188 (by decide) sh_205 (by decide) rfl (r_takes l G X18 Y t u op ht hT hu (pz Y t u f 3 op S0) hp19 ho17 (nI 61)) (by omega) rfl rfl (Nat.le_of_ble_eq_true rfl) dX10_compared_22 (fun M5 hP_22 => ?_)
    obtain ⟨X20, rfl, hp20, he20⟩ := hP_22
    have hE20 := (hE18).tr he20
    refine nb_if_eq C 34 dX10_compared_25 rfl (fun h_25 => ?_) (fun h_25 => ?_)
    · skip
      have hp21 : pRep X20 op u (pz Y t u f 3 op S0) := by have h9 := hp20; unfold tkS at h9; rw [if_neg h_25] at h9; exact h9
      refine v_aload_n C 0 dX10_compared_34 rfl ?_
      refine v_bipush C (nI 62) dX10_compared_35 (by decide) ?_
      refine n_callVi C hRm [.int (nI 62)] cw_X10_takes ml_X10_188 (by decide) sh_205 (by decide) rfl (r_takes l G X20 Y t u op ht hT hu (pz Y t u f 3 op S0) hp21 ho17 (nI 62)) (by omega) rfl rfl (Nat.le_of_ble_eq_true rfl) dX10_compared_37 (fun M5 hP_37 => ?_)
      obtain ⟨X22, rfl, hp22, he22⟩ := hP_37
      have hE22 := (hE20).tr he22
      refine nb_if_eq C 49 dX10_compared_40 rfl (fun h_40 => ?_) (fun h_40 => ?_)
      · skip
        have hp23 : pRep X22 op u (pz Y t u f 3 op S0) := by have h9 := hp22; unfold tkS at h9; rw [if_neg h_40] at h9; exact h9
        refine v_iconst C (nI 0) dX10_compared_49 (by decide) ?_
        refine v_istore_n C [(1, .int (nI 0)), (0, .ref (gb G + 205))] dX10_compared_50 rfl (by decide) rfl ?_
        refine v_iload_n C 0 dX10_compared_51 rfl ?_
        refine v_if_le C 64 dX10_compared_52 rfl (fun _ => ?_) (fun h_52 => absurd h_52 (by decide +kernel))
        have hz : sgn 2 (hereS Y t (pz Y t u f 3 op S0)) = 0 := by unfold sgn; show (if _ then _ else _) = _; rw [if_neg h_10, if_neg h_25, if_neg h_40]
        have hFF : (pz Y t u f 3 op S0) = pz Y t u (f + 1) 2 op S0 := by rw [hF0]; unfold lpS; rw [if_pos hz]
        exact n_ret C hRt dX10_compared_64 ⟨_, rfl, hFF ▸ hp23, hE22⟩
      · skip
        have hp24 : pRep X22 op u (advS (pz Y t u f 3 op S0)) := by have h9 := hp22; unfold tkS at h9; rw [if_pos h_40] at h9; exact h9
        have hl24 := here_k (by decide) h_40
        have ho24 : okS t (advS (pz Y t u f 3 op S0)) := ⟨by show (pz Y t u f 3 op S0).2.1 + 1 ≤ t; omega, by show (pz Y t u f 3 op S0).2.2.length ≤ (pz Y t u f 3 op S0).2.1 + 1; have := ho17.2; omega⟩
        refine v_sipush C (nI 20004) dX10_compared_43 (by decide) ?_
        refine v_goto C 50 dX10_compared_46 rfl ?_
        refine v_istore_n C [(1, .int (nI 20004)), (0, .ref (gb G + 205))] dX10_compared_50 rfl (by decide) rfl ?_
        refine v_iload_n C 0 dX10_compared_51 rfl ?_
        refine v_if_le C 64 dX10_compared_52 rfl (fun h_52 => absurd h_52 (by decide +kernel)) (fun _ => ?_)
        refine v_aload_n C 1 dX10_compared_55 rfl ?_
        refine n_callVv C hRm [] cw_X10_sum ml_X10_198 (by decide) sh_205 (by decide) rfl ((hB op hop).2.2.2.1 (by omega) X22 (advS (pz Y t u f 3 op S0)) hp24 ho24) (by omega) rfl rfl (Nat.le_of_ble_eq_true rfl) dX10_compared_56 (fun M5 hP_56 => ?_)
        obtain ⟨X25, rfl, hp25, he25⟩ := hP_56
        have hE25 := (hE22).tr he25
        have hm25 := pz_mono Y t u f 3 op (advS (pz Y t u f 3 op S0)) ho24.1
        have ho25 := hm25.ok ho24
        refine v_aload_n C 1 dX10_compared_59 rfl ?_
        refine v_iload_n C 0 dX10_compared_60 rfl ?_
        refine n_callVv C hRm [.int (nI 20004)] cw_X10_codes ml_X10_191 (by decide) sh_205 (by decide) rfl (r_codes l G X25 Y t u op ht hT hu (pz Y t u f 3 op (advS (pz Y t u f 3 op S0))) hp25 ho25 20004 (by have h90 := (hm25).ok1 ho17; have h92 := ho25.1; omega)) (by omega) rfl rfl (Nat.le_of_ble_eq_true rfl) dX10_compared_61 (fun M5 hP_61 => ?_)
        obtain ⟨X26, rfl, hp26, he26⟩ := hP_61
        have hE26 := (hE25).tr he26
        have hz : sgn 2 (hereS Y t (pz Y t u f 3 op S0)) = 20004 := by unfold sgn; show (if _ then _ else _) = _; rw [if_neg h_10, if_neg h_25, if_pos h_40]
        have hFF : codS 20004 (pz Y t u f 3 op (advS (pz Y t u f 3 op S0))) = pz Y t u (f + 1) 2 op S0 := by rw [hF0, lpS, hz]; rfl
        exact n_ret C hRt dX10_compared_64 ⟨_, rfl, hFF ▸ hp26, hE26⟩
    · skip
      have hp27 : pRep X20 op u (advS (pz Y t u f 3 op S0)) := by have h9 := hp20; unfold tkS at h9; rw [if_pos h_25] at h9; exact h9
      have hl27 := here_k (by decide) h_25
      have ho27 : okS t (advS (pz Y t u f 3 op S0)) := ⟨by show (pz Y t u f 3 op S0).2.1 + 1 ≤ t; omega, by show (pz Y t u f 3 op S0).2.2.length ≤ (pz Y t u f 3 op S0).2.1 + 1; have := ho17.2; omega⟩
      refine v_sipush C (nI 20003) dX10_compared_28 (by decide) ?_
      refine v_goto C 50 dX10_compared_31 rfl ?_
      refine v_istore_n C [(1, .int (nI 20003)), (0, .ref (gb G + 205))] dX10_compared_50 rfl (by decide) rfl ?_
      refine v_iload_n C 0 dX10_compared_51 rfl ?_
      refine v_if_le C 64 dX10_compared_52 rfl (fun h_52 => absurd h_52 (by decide +kernel)) (fun _ => ?_)
      refine v_aload_n C 1 dX10_compared_55 rfl ?_
      refine n_callVv C hRm [] cw_X10_sum ml_X10_198 (by decide) sh_205 (by decide) rfl ((hB op hop).2.2.2.1 (by omega) X20 (advS (pz Y t u f 3 op S0)) hp27 ho27) (by omega) rfl rfl (Nat.le_of_ble_eq_true rfl) dX10_compared_56 (fun M5 hP_56 => ?_)
      obtain ⟨X28, rfl, hp28, he28⟩ := hP_56
      have hE28 := (hE20).tr he28
      have hm28 := pz_mono Y t u f 3 op (advS (pz Y t u f 3 op S0)) ho27.1
      have ho28 := hm28.ok ho27
      refine v_aload_n C 1 dX10_compared_59 rfl ?_
      refine v_iload_n C 0 dX10_compared_60 rfl ?_
      refine n_callVv C hRm [.int (nI 20003)] cw_X10_codes ml_X10_191 (by decide) sh_205 (by decide) rfl (r_codes l G X28 Y t u op ht hT hu (pz Y t u f 3 op (advS (pz Y t u f 3 op S0))) hp28 ho28 20003 (by have h90 := (hm28).ok1 ho17; have h92 := ho28.1; omega)) (by omega) rfl rfl (Nat.le_of_ble_eq_true rfl) dX10_compared_61 (fun M5 hP_61 => ?_)
      obtain ⟨X29, rfl, hp29, he29⟩ := hP_61
      have hE29 := (hE28).tr he29
      have hz : sgn 2 (hereS Y t (pz Y t u f 3 op S0)) = 20003 := by unfold sgn; show (if _ then _ else _) = _; rw [if_neg h_10, if_pos h_25]
      have hFF : codS 20003 (pz Y t u f 3 op (advS (pz Y t u f 3 op S0))) = pz Y t u (f + 1) 2 op S0 := by rw [hF0, lpS, hz]; rfl
      exact n_ret C hRt dX10_compared_64 ⟨_, rfl, hFF ▸ hp29, hE29⟩
  · skip
    have hp30 : pRep X18 op u (advS (pz Y t u f 3 op S0)) := by have h9 := hp18; unfold tkS at h9; rw [if_pos h_10] at h9; exact h9
    have hl30 := here_k (by decide) h_10
    have ho30 : okS t (advS (pz Y t u f 3 op S0)) := ⟨by show (pz Y t u f 3 op S0).2.1 + 1 ≤ t; omega, by show (pz Y t u f 3 op S0).2.2.length ≤ (pz Y t u f 3 op S0).2.1 + 1; have := ho17.2; omega⟩
    refine v_sipush C (nI 20002) dX10_compared_13 (by decide) ?_
    refine v_goto C 50 dX10_compared_16 rfl ?_
    refine v_istore_n C [(1, .int (nI 20002)), (0, .ref (gb G + 205))] dX10_compared_50 rfl (by decide) rfl ?_
    refine v_iload_n C 0 dX10_compared_51 rfl ?_
    refine v_if_le C 64 dX10_compared_52 rfl (fun h_52 => absurd h_52 (by decide +kernel)) (fun _ => ?_)
    refine v_aload_n C 1 dX10_compared_55 rfl ?_
    refine n_callVv C hRm [] cw_X10_sum ml_X10_198 (by decide) sh_205 (by decide) rfl ((hB op hop).2.2.2.1 (by omega) X18 (advS (pz Y t u f 3 op S0)) hp30 ho30) (by omega) rfl rfl (Nat.le_of_ble_eq_true rfl) dX10_compared_56 (fun M5 hP_56 => ?_)
    obtain ⟨X31, rfl, hp31, he31⟩ := hP_56
    have hE31 := (hE18).tr he31
    have hm31 := pz_mono Y t u f 3 op (advS (pz Y t u f 3 op S0)) ho30.1
    have ho31 := hm31.ok ho30
    refine v_aload_n C 1 dX10_compared_59 rfl ?_
    refine v_iload_n C 0 dX10_compared_60 rfl ?_
    refine n_callVv C hRm [.int (nI 20002)] cw_X10_codes ml_X10_191 (by decide) sh_205 (by decide) rfl (r_codes l G X31 Y t u op ht hT hu (pz Y t u f 3 op (advS (pz Y t u f 3 op S0))) hp31 ho31 20002 (by have h90 := (hm31).ok1 ho17; have h92 := ho31.1; omega)) (by omega) rfl rfl (Nat.le_of_ble_eq_true rfl) dX10_compared_61 (fun M5 hP_61 => ?_)
    obtain ⟨X32, rfl, hp32, he32⟩ := hP_61
    have hE32 := (hE31).tr he32
    have hz : sgn 2 (hereS Y t (pz Y t u f 3 op S0)) = 20002 := by unfold sgn; show (if _ then _ else _) = _; rw [if_pos h_10]
    have hFF : codS 20002 (pz Y t u f 3 op (advS (pz Y t u f 3 op S0))) = pz Y t u (f + 1) 2 op S0 := by rw [hF0, lpS, hz]; rfl
    exact n_ret C hRt dX10_compared_64 ⟨_, rfl, hFF ▸ hp32, hE32⟩
