/-! The reference's parser: a state is (nothing wrong, where it reads, the codes so far). -/
theorem v_aldS {f : FC} {G : GC} {ph : Ph} {M : Mm} {own : String} {cc : ByteArray} {nL pc : Nat} {lv : List (Nat × Value)} {rest : List Value} (C : Ctx f G own cc nL) {k j i : Nat} (hk : k < ph.2.2.1) (hs : shp k = 25) (hj : j < 2) (hM : M k j = nI (i + 1)) (hi : i < 2 ^ 31 - 1) (hd : decode cc pc = .ok (.aaload, 1)) (kk : Vc f G ph M (pc + 1) lv (.ref (gK G i) :: rest)) : Vc f G ph M pc lv (.int (nI j) :: .ref (gb G + k) :: rest) := by
  obtain ⟨p, l, e, R, s, m, args, below, meth, c, Q⟩ := f
  obtain ⟨hx, hb, hml, ho, hts, hlk, hvk, hbs, hlow⟩ := C
  intro H locs ls hW hS hl
  have hin : ¬ (nI j < 0 ∨ aLen 25 ≤ (nI j).toNatClampNeg) := nI_in hj (by decide)
  have hne : M k j ≠ 0 := by rw [hM]; exact fun q => absurd ((nI_eq (show i + 1 < 2 ^ 31 by omega) (by decide)).mp (q.trans nI_0.symm)) (by omega)
  refine W.aald (v := .ref (gK G i)) (ty := .object "java/lang/String") hx hb (hW.arr hk hs (by omega) (by omega)) ((hvk.1.2 6 _ rfl).1 (aLen 25) (fun j => va_rf (ae G M k 25 j))) rfl (fun q => by cases q) (by rw [arrV_size]; exact hin) ?_ rfl rfl hd (kk H locs ls hW hS hl)
  rw [nI_clamp (by omega), arrV_read _ _ (show j < aLen 25 from hj)]
  unfold ae
  rw [if_neg hne, if_pos rfl, hM, nI_clamp (by omega), Nat.add_sub_cancel]
  rfl
abbrev PS : Type := Bool × Nat × List Nat
def hereS (Y : Nat → Int32) (t : Nat) (S : PS) : Int32 := if S.1 = true ∧ S.2.1 < t then Y (237 + S.2.1) else -1
def advS (S : PS) : PS := (S.1, S.2.1 + 1, S.2.2)
def codS (v : Nat) (S : PS) : PS := if S.1 = true then (S.1, S.2.1, S.2.2 ++ [v]) else S
def tkS (Y : Nat → Int32) (t : Nat) (c : Int32) (S : PS) : PS := if hereS Y t S = c then advS S else S
def sgn (lv : Nat) (b : Int32) : Nat := match lv with
  | 0 => if b = nI 124 then 20000 else 0
  | 1 => if b = nI 38 then 20001 else 0
  | 2 => if b = nI 60 then 20002 else if b = nI 61 then 20003 else if b = nI 62 then 20004 else 0
  | 3 => if b = nI 43 then 20005 else if b = nI 45 then 20006 else 0
  | _ => if b = nI 42 then 20007 else if b = nI 47 then 20008 else if b = nI 37 then 20009 else 0
def lpS (Y : Nat → Int32) (t : Nat) (g : PS → PS) (lv : Nat) : Nat → PS → PS
  | 0, S => S
  | k + 1, S => if sgn lv (hereS Y t S) = 0 then S else lpS Y t g lv k (codS (sgn lv (hereS Y t S)) (g (advS S)))
abbrev isDg (b : Int32) : Prop := nI 48 ≤ b ∧ b ≤ nI 57
def numG (Y : Nat → Int32) (t : Nat) : Nat → PS → Nat → PS × Nat
  | 0, S, v => (S, v)
  | k + 1, S, v => if isDg (hereS Y t S) then numG Y t k (advS S) (10 * v + (hereS Y t S).toNatClampNeg - 48) else (S, v)
def nmP (u : Nat) (c : Int32) : Nat → Int32
  | 0 => -1
  | k + 1 => if bytS (1 + u) k = c then nI k else nmP u c k
def nmS (u : Nat) (c : Int32) : Int32 := nmP u c (lenS (1 + u))
def clS (Y : Nat → Int32) (t : Nat) (S : PS) : PS := if hereS Y t S = nI 41 then (true, S.2.1 + 1, S.2.2) else (false, S.2)
def oneS (Y : Nat → Int32) (t u : Nat) (r1 r0 : PS → PS) (op : Nat) (S : PS) : PS :=
  if hereS Y t S = nI 33 ∨ hereS Y t S = nI 40 then
    if op = 5 then (false, S.2) else if hereS Y t S = nI 33 then codS 20010 (r1 (advS S)) else clS Y t (r0 (advS S))
  else if isDg (hereS Y t S) then codS (numG Y t 4 S 0).2 (numG Y t 4 S 0).1
  else if hereS Y t S < 0 ∨ nmS u (hereS Y t S) < 0 then (false, S.2) else advS (codS (10000 + (nmS u (hereS Y t S)).toNatClampNeg) S)
def jn (lv : Nat) : Nat := if lv = 2 then 1 else 60
def pz (Y : Nat → Int32) (t u : Nat) : Nat → Nat → Nat → PS → PS
  | 0, _, _, S => S
  | f + 1, lv, op, S => if lv < 5 then lpS Y t (pz Y t u f (lv + 1) op) lv (jn lv) (pz Y t u f (lv + 1) op S) else oneS Y t u (pz Y t u f 5 (op + 1)) (pz Y t u f 0 (op + 1)) op S
/-- what lies in memory of a state -/
def pRep (X : Mm) (op u : Nat) (S : PS) : Prop := (X 205 6 = nI S.2.1 ∧ X 205 7 = nI op ∧ X 205 8 = nI u ∧ X 205 9 = b2i (S.1 = false) ∧ X 205 11 = nI S.2.2.length) ∧ (∀ k, k < S.2.2.length → X 211 k = nI (S.2.2.getD k 0)) ∧ X 210 u = nI (1 + u + 1)
def okS (t : Nat) (S : PS) : Prop := S.2.1 ≤ t ∧ S.2.2.length ≤ S.2.1
def exP (M X : Mm) : Prop := (∀ a, a ≠ 205 → a ≠ 206 → a ≠ 211 → X a = M a) ∧ ∀ j, j ≠ 6 → j ≠ 7 → j ≠ 9 → j ≠ 11 → X 205 j = M 205 j
theorem exP.rf (M : Mm) : exP M M := ⟨fun _ _ _ _ => rfl, fun _ _ _ _ _ => rfl⟩
theorem exP.tr {A B C : Mm} (h : exP A B) (h2 : exP B C) : exP A C := ⟨fun a x y z => (h2.1 a x y z).trans (h.1 a x y z), fun j x y z q => (h2.2 j x y z q).trans (h.2 j x y z q)⟩
theorem exP.s (M : Mm) (j : Nat) (v : Int32) (hj : j = 6 ∨ j = 7 ∨ j = 9 ∨ j = 11) : exP M (up2 M 205 j v) := ⟨fun a h _ _ => up2_ne M _ _ h, fun q h1 h2 h3 h4 => up2_at_ne M _ (by omega)⟩
theorem exP.c (M : Mm) (j : Nat) (v : Int32) : exP M (up2 M 211 j v) := ⟨fun a _ _ h => up2_ne M _ _ h, fun q _ _ _ _ => congrFun (up2_ne M _ _ (by decide)) q⟩
theorem pRep.up {X : Mm} {op u : Nat} {S : PS} (h : pRep X op u S) (j : Nat) (v : Int32) : (∀ k, k < S.2.2.length → (up2 X 205 j v) 211 k = nI (S.2.2.getD k 0)) ∧ (up2 X 205 j v) 210 u = nI (1 + u + 1) := ⟨fun k hk => (congrFun (up2_ne X _ _ (by decide)) k).trans (h.2.1 k hk), (congrFun (up2_ne X _ _ (by decide)) u).trans h.2.2⟩
theorem pRep.at {X : Mm} {op u : Nat} {S : PS} (h : pRep X op u S) (a : Nat) : pRep (up2 X 205 6 (nI a)) op u (S.1, a, S.2.2) :=
  ⟨⟨up2_at _ _ _ _, (up2_at_ne _ _ (by decide)).trans h.1.2.1, (up2_at_ne _ _ (by decide)).trans h.1.2.2.1, (up2_at_ne _ _ (by decide)).trans h.1.2.2.2.1, (up2_at_ne _ _ (by decide)).trans h.1.2.2.2.2⟩, h.up 6 _⟩
theorem pRep.op {X : Mm} {op u : Nat} {S : PS} (h : pRep X op u S) (o : Nat) : pRep (up2 X 205 7 (nI o)) o u S :=
  ⟨⟨(up2_at_ne _ _ (by decide)).trans h.1.1, up2_at _ _ _ _, (up2_at_ne _ _ (by decide)).trans h.1.2.2.1, (up2_at_ne _ _ (by decide)).trans h.1.2.2.2.1, (up2_at_ne _ _ (by decide)).trans h.1.2.2.2.2⟩, h.up 7 _⟩
theorem pRep.wr {X : Mm} {op u : Nat} {S : PS} (h : pRep X op u S) (b : Bool) : pRep (up2 X 205 9 (b2i (b = false))) op u (b, S.2) :=
  ⟨⟨(up2_at_ne _ _ (by decide)).trans h.1.1, (up2_at_ne _ _ (by decide)).trans h.1.2.1, (up2_at_ne _ _ (by decide)).trans h.1.2.2.1, up2_at _ _ _ _, (up2_at_ne _ _ (by decide)).trans h.1.2.2.2.2⟩, h.up 9 _⟩
theorem pRep.cod {X : Mm} {op u : Nat} {S : PS} (h : pRep X op u S) (v : Nat) (hS : S.1 = true) : pRep (up2 (up2 X 211 S.2.2.length (nI v)) 205 11 (nI (S.2.2.length + 1))) op u (codS v S) := by
  unfold codS
  rw [if_pos hS]
  have hn : ∀ j, (up2 X 211 S.2.2.length (nI v)) 205 j = X 205 j := fun j => congrFun (up2_ne X _ _ (by decide)) j
  refine ⟨⟨(up2_at_ne _ _ (by decide)).trans ((hn _).trans h.1.1), (up2_at_ne _ _ (by decide)).trans ((hn _).trans h.1.2.1), (up2_at_ne _ _ (by decide)).trans ((hn _).trans h.1.2.2.1), (up2_at_ne _ _ (by decide)).trans ((hn _).trans h.1.2.2.2.1), by rw [up2_at]; simp⟩, fun k hk => ?_, ?_⟩
  · rw [up2_ne _ _ _ (by decide)]
    simp only [List.length_append, List.length_cons, List.length_nil] at hk
    by_cases hq : k = S.2.2.length
    · subst hq; rw [up2_at]; simp [List.getD_eq_getElem?_getD]
    · rw [up2_at_ne _ _ hq, h.2.1 k (by omega)]
      simp [List.getD_eq_getElem?_getD, List.getElem?_append_left (show k < S.2.2.length by omega)]
  · rw [up2_ne _ _ _ (by decide), up2_ne _ _ _ (by decide)]; exact h.2.2
theorem cod_1 (v : Nat) (S : PS) : (codS v S).1 = S.1 := by unfold codS; split <;> rfl
theorem cod_at (v : Nat) (S : PS) : (codS v S).2.1 = S.2.1 := by unfold codS; split <;> rfl
theorem cod_len (v : Nat) (S : PS) : (codS v S).2.2.length ≤ S.2.2.length + 1 := by unfold codS; split <;> simp
theorem here_lt {Y : Nat → Int32} {t : Nat} {S : PS} (h : ¬ hereS Y t S = -1) : S.1 = true ∧ S.2.1 < t := by
  unfold hereS at h
  exact Decidable.byContradiction fun q => h (if_neg q)
theorem here_k {Y : Nat → Int32} {t : Nat} {S : PS} {k : Nat} (hk : k < 2 ^ 31) (h : hereS Y t S = nI k) : S.1 = true ∧ S.2.1 < t := here_lt (fun q => nI_pos hk (by rw [← h, q]; decide))
theorem here_dg {Y : Nat → Int32} {t : Nat} {S : PS} (h : isDg (hereS Y t S)) : S.1 = true ∧ S.2.1 < t := here_lt (fun q => by rw [q] at h; revert h; decide)
theorem sgn_0 {lv : Nat} {b : Int32} (h : b = -1) : sgn lv b = 0 := by subst h; unfold sgn; split <;> rfl
theorem sgn_lt {Y : Nat → Int32} {t lv : Nat} {S : PS} (h : ¬ sgn lv (hereS Y t S) = 0) : S.1 = true ∧ S.2.1 < t := here_lt (fun q => h (sgn_0 q))
theorem sgn_rg (lv : Nat) (b : Int32) : sgn lv b = 0 ∨ (20000 ≤ sgn lv b ∧ sgn lv b < 20010) := by
  unfold sgn
  split <;> (repeat' split) <;> first | exact Or.inl rfl | exact Or.inr ⟨by decide, by decide⟩
/-- how far a reading goes, and how many codes it lays -/
def mono (t : Nat) (S S' : PS) : Prop := S.2.1 ≤ S'.2.1 ∧ S'.2.1 ≤ t ∧ S'.2.2.length + S.2.1 ≤ S.2.2.length + S'.2.1
def moG (t : Nat) (g : PS → PS) : Prop := ∀ S : PS, S.2.1 ≤ t → mono t S (g S)
theorem mono.rf {t : Nat} {S : PS} (h : S.2.1 ≤ t) : mono t S S := ⟨Nat.le_refl _, h, Nat.le_refl _⟩
theorem mono.ok {t : Nat} {S S' : PS} (h : mono t S S') (ho : okS t S) : okS t S' := ⟨h.2.1, by have h1 := h.2.2; have h2 := h.1; have h3 := ho.2; omega⟩
theorem mono.ok1 {t : Nat} {S S' : PS} (h : mono t (advS S) S') (ho : okS t S) : S'.2.2.length < S'.2.1 := by
  have h1 : S'.2.2.length + (S.2.1 + 1) ≤ S.2.2.length + S'.2.1 := h.2.2
  have h2 : S.2.1 + 1 ≤ S'.2.1 := h.1
  have h3 := ho.2; omega
theorem mono.cod {t v : Nat} {S S' : PS} (h : mono t (advS S) S') : mono t S (codS v S') := by
  have h1 : S'.2.2.length + (S.2.1 + 1) ≤ S.2.2.length + S'.2.1 := h.2.2
  have h2 : S.2.1 + 1 ≤ S'.2.1 := h.1
  have h3 := cod_len v S'
  have h4 := h.2.1
  refine ⟨?_, ?_, ?_⟩ <;> rw [cod_at] <;> omega
theorem mono.tr {t : Nat} {A B C : PS} (h : mono t A B) (h2 : mono t B C) : mono t A C := by
  obtain ⟨a, b, c⟩ := h
  obtain ⟨x, y, z⟩ := h2
  exact ⟨by omega, by omega, by omega⟩
theorem lp_mono {Y : Nat → Int32} {t lv : Nat} {g : PS → PS} (hg : moG t g) : ∀ k, moG t (lpS Y t g lv k)
  | 0, S, h => mono.rf h
  | k + 1, S, h => by
    unfold lpS
    by_cases hs : sgn lv (hereS Y t S) = 0
    · rw [if_pos hs]; exact mono.rf h
    · rw [if_neg hs]
      have h1 := sgn_lt hs
      have h2 := (hg (advS S) (by show S.2.1 + 1 ≤ t; omega)).cod (v := sgn lv (hereS Y t S))
      exact h2.tr (lp_mono hg k _ h2.2.1)
theorem num_mono (Y : Nat → Int32) (t : Nat) : ∀ (k : Nat) (S : PS) (v : Nat), S.2.1 ≤ t → S.2.1 ≤ (numG Y t k S v).1.2.1 ∧ (numG Y t k S v).1.2.1 ≤ t ∧ (numG Y t k S v).1.2.2 = S.2.2 ∧ (numG Y t k S v).1.1 = S.1
  | 0, S, v, h => ⟨Nat.le_refl _, h, rfl, rfl⟩
  | k + 1, S, v, h => by
    unfold numG
    by_cases hs : isDg (hereS Y t S)
    · rw [if_pos hs]
      have h1 := here_dg hs
      have h2 := num_mono Y t k (advS S) (10 * v + (hereS Y t S).toNatClampNeg - 48) (show S.2.1 + 1 ≤ t by omega)
      have h3 : S.2.1 + 1 ≤ (numG Y t k (advS S) (10 * v + (hereS Y t S).toNatClampNeg - 48)).1.2.1 := h2.1
      exact ⟨by omega, h2.2.1, h2.2.2.1, h2.2.2.2⟩
    · rw [if_neg hs]; exact ⟨Nat.le_refl _, h, rfl, rfl⟩
theorem num_one {Y : Nat → Int32} {t : Nat} {S : PS} (hs : isDg (hereS Y t S)) : mono t (advS S) (numG Y t 4 S 0).1 := by
  have h1 := here_dg hs
  rw [show numG Y t 4 S 0 = numG Y t 3 (advS S) (10 * 0 + (hereS Y t S).toNatClampNeg - 48) by rw [numG, if_pos hs]]
  have h2 := num_mono Y t 3 (advS S) (10 * 0 + (hereS Y t S).toNatClampNeg - 48) (show S.2.1 + 1 ≤ t by omega)
  refine ⟨h2.1, h2.2.1, ?_⟩
  rw [h2.2.2.1]
  have h3 := h2.1
  omega
theorem pz_mono (Y : Nat → Int32) (t u : Nat) : ∀ f lv op, moG t (pz Y t u f lv op)
  | 0, _, _, S, h => mono.rf h
  | f + 1, lv, op, S, h => by
    unfold pz
    by_cases hl : lv < 5
    · rw [if_pos hl]
      have h1 := pz_mono Y t u f (lv + 1) op S h
      exact h1.tr (lp_mono (pz_mono Y t u f (lv + 1) op) _ _ h1.2.1)
    · rw [if_neg hl]
      unfold oneS
      by_cases h1 : hereS Y t S = nI 33 ∨ hereS Y t S = nI 40
      · have hlt : S.1 = true ∧ S.2.1 < t := by rcases h1 with q | q <;> exact here_k (by decide) q
        have hA : (advS S).2.1 ≤ t := by show S.2.1 + 1 ≤ t; omega
        rw [if_pos h1]
        by_cases h2 : op = 5
        · rw [if_pos h2]; exact ⟨Nat.le_refl _, h, Nat.le_refl _⟩
        · rw [if_neg h2]
          by_cases h3 : hereS Y t S = nI 33
          · rw [if_pos h3]; exact (pz_mono Y t u f 5 (op + 1) (advS S) hA).cod
          · rw [if_neg h3]
            obtain ⟨a, b, c⟩ := pz_mono Y t u f 0 (op + 1) (advS S) hA
            have a' : S.2.1 + 1 ≤ (pz Y t u f 0 (op + 1) (advS S)).2.1 := a
            have c' : (pz Y t u f 0 (op + 1) (advS S)).2.2.length + (S.2.1 + 1) ≤ S.2.2.length + (pz Y t u f 0 (op + 1) (advS S)).2.1 := c
            unfold clS
            by_cases h4 : hereS Y t (pz Y t u f 0 (op + 1) (advS S)) = nI 41
            · rw [if_pos h4]
              have h5 := here_k (by decide) h4
              exact ⟨by show S.2.1 ≤ (pz Y t u f 0 (op + 1) (advS S)).2.1 + 1; omega, by show (pz Y t u f 0 (op + 1) (advS S)).2.1 + 1 ≤ t; omega, by show (pz Y t u f 0 (op + 1) (advS S)).2.2.length + S.2.1 ≤ S.2.2.length + ((pz Y t u f 0 (op + 1) (advS S)).2.1 + 1); omega⟩
            · rw [if_neg h4]
              exact ⟨by show S.2.1 ≤ (pz Y t u f 0 (op + 1) (advS S)).2.1; omega, b, by show (pz Y t u f 0 (op + 1) (advS S)).2.2.length + S.2.1 ≤ S.2.2.length + (pz Y t u f 0 (op + 1) (advS S)).2.1; omega⟩
      · rw [if_neg h1]
        by_cases h2 : isDg (hereS Y t S)
        · rw [if_pos h2]; exact (num_one h2).cod
        · rw [if_neg h2]
          by_cases h3 : hereS Y t S < 0 ∨ nmS u (hereS Y t S) < 0
          · rw [if_pos h3]; exact ⟨Nat.le_refl _, h, Nat.le_refl _⟩
          · rw [if_neg h3]
            have h5 := here_lt (fun q => h3 (Or.inl (by rw [q]; decide)))
            have h6 := cod_len (10000 + (nmS u (hereS Y t S)).toNatClampNeg) S
            refine ⟨?_, ?_, ?_⟩ <;> (try show _ ≤ (codS _ S).2.1 + 1) <;> (try show (codS _ S).2.1 + 1 ≤ t) <;> (try show (codS _ S).2.2.length + _ ≤ _ + ((codS _ S).2.1 + 1)) <;> rw [cod_at] <;> omega
theorem nm_rg (u : Nat) (c : Int32) : ∀ k, nmP u c k = -1 ∨ ∃ j, j < k ∧ nmP u c k = nI j
  | 0 => Or.inl rfl
  | k + 1 => by
    unfold nmP
    by_cases h : bytS (1 + u) k = c
    · rw [if_pos h]; exact Or.inr ⟨k, Nat.lt_succ_self k, rfl⟩
    · rw [if_neg h]
      rcases nm_rg u c k with h1 | ⟨j, h1, h2⟩
      · exact Or.inl h1
      · exact Or.inr ⟨j, by omega, h2⟩
def pcon (l : Launch) (G : GC) (y : MethodName) (cy : ByteArray) (nLy d : Nat) (Y : Nat → Int32) (t u op : Nat) (g : PS → PS) : Prop := ∀ (X : Mm) (S : PS), pRep X op u S → okS t S → CV l G d y cy nLy [.ref (gb G + 205)] (upA X 206 Y) (fun M' => ∃ X', M' = upA X' 206 Y ∧ pRep X' op u (g S) ∧ exP X X')
def PB (l : Launch) (G : GC) (Y : Nat → Int32) (t u f : Nat) : Prop := ∀ op, op ≤ 5 → (6 * (5 - op) + 5 < f → pcon l G yX10_either cX10_either 1 (8 + f) Y t u op (pz Y t u f 0 op)) ∧ (6 * (5 - op) + 4 < f → pcon l G yX10_both cX10_both 1 (8 + f) Y t u op (pz Y t u f 1 op)) ∧ (6 * (5 - op) + 3 < f → pcon l G yX10_compared cX10_compared 2 (8 + f) Y t u op (pz Y t u f 2 op)) ∧ (6 * (5 - op) + 2 < f → pcon l G yX10_sum cX10_sum 2 (8 + f) Y t u op (pz Y t u f 3 op)) ∧ (6 * (5 - op) + 1 < f → pcon l G yX10_product cX10_product 2 (8 + f) Y t u op (pz Y t u f 4 op)) ∧ (6 * (5 - op) + 0 < f → pcon l G yX10_one cX10_one 4 (8 + f) Y t u op (pz Y t u f 5 op))
set_option maxHeartbeats 4000000 in
set_option maxRecDepth 100000 in
theorem r_here (l : Launch) (G : GC) (X : Mm) (Y : Nat → Int32) (t u op : Nat) (ht : t ≤ 60) (hT : Y 4 = nI t) (hu : u < 2) (S : PS) (hp : pRep X op u S) (ho : okS t S) : CP l G 1 yX10_here cX10_here 1 .int [.ref (gb G + 205)] (upA X 206 Y) (hereS Y t S) := by
  refine Con.of (by decide +kernel) (Nat.le_of_ble_eq_true rfl) ?_
  intro f C hRm hRt _
  show Vc f G NPh (upA X 206 Y) 0 [(0, .ref (gb G + 205))] []
  have h1 := ho.1
  refine v_aload_n C 0 dX10_here_0 rfl ?_
  refine g_X10_170 C (by decide) sh_205 dX10_here_1 ?_
  refine v_top (X 205 9) (congrFun (upA_ne X Y (by decide)) 9) ?_
  refine v_top (b2i (S.1 = false)) (hp.1.2.2.2.1) ?_
  refine nb_if_ne C 36 dX10_here_4 rfl (fun h_4 => ?_) (fun h_4 => ?_)
  · skip
    refine v_iconst C (-1) dX10_here_36 (by decide) ?_
    exact n_iret C hRt rfl dX10_here_37 ((if_neg (fun q => by simp_all)).symm) rfl
  · skip
    refine v_aload_n C 0 dX10_here_7 rfl ?_
    refine g_X10_174 C (by decide) sh_205 dX10_here_8 ?_
    refine v_top (X 205 6) (congrFun (upA_ne X Y (by decide)) 6) ?_
    refine v_top (nI S.2.1) (hp.1.1) ?_
    refine v_aload_n C 0 dX10_here_11 rfl ?_
    refine g_X10_9 C (by decide) sh_205 dX10_here_12 ?_
    refine v_iconst C (nI 4) dX10_here_15 (by decide) ?_
    refine n_now_ld C (by decide) sh_206 (by omega) (by decide) dX10_here_16 ?_
    refine v_top (nI t) (hT) ?_
    refine n_icmp_ge C (by omega) (by omega) 36 dX10_here_17 rfl (fun h_17 => ?_) (fun h_17 => ?_)
    · skip
      refine v_iconst C (-1) dX10_here_36 (by decide) ?_
      exact n_iret C hRt rfl dX10_here_37 ((if_neg (fun q => absurd q.2 (by omega))).symm) rfl
    · skip
      refine v_aload_n C 0 dX10_here_20 rfl ?_
      refine g_X10_9 C (by decide) sh_205 dX10_here_21 ?_
      refine v_sipush C (nI 237) dX10_here_24 (by decide) ?_
      refine v_aload_n C 0 dX10_here_27 rfl ?_
      refine g_X10_174 C (by decide) sh_205 dX10_here_28 ?_
      refine v_top (X 205 6) (congrFun (upA_ne X Y (by decide)) 6) ?_
      refine v_top (nI S.2.1) (hp.1.1) ?_
      refine n_iadd C dX10_here_31 ?_
      refine n_now_ld C (by decide) sh_206 (by omega) (by decide) dX10_here_32 ?_
      refine v_goto C 37 dX10_here_33 rfl ?_
      exact n_iret C hRt rfl dX10_here_37 ((if_pos ⟨(by cases hh : S.1 <;> simp_all), h_17⟩).symm) rfl
set_option maxHeartbeats 4000000 in
set_option maxRecDepth 100000 in
theorem r_takes (l : Launch) (G : GC) (X : Mm) (Y : Nat → Int32) (t u op : Nat) (ht : t ≤ 60) (hT : Y 4 = nI t) (hu : u < 2) (S : PS) (hp : pRep X op u S) (ho : okS t S) (c : Int32) : CI l G 2 yX10_takes cX10_takes 3 .boolean [.ref (gb G + 205), .int c] (upA X 206 Y) (b2i (hereS Y t S = c)) (fun M' => ∃ X', M' = upA X' 206 Y ∧ pRep X' op u (tkS Y t c S) ∧ exP X X') := by
  refine Con.of (by decide +kernel) (Nat.le_of_ble_eq_true rfl) ?_
  intro f C hRm hRt _
  show Vc f G NPh (upA X 206 Y) 0 [(0, .ref (gb G + 205)), (1, .int c)] []
  refine v_aload_n C 0 dX10_takes_0 rfl ?_
  refine n_callVp C hRm [] cw_X10_here ml_X10_178 (by decide) sh_205 (by decide) rfl (r_here l G X Y t u op ht hT hu S hp ho) (by omega) rfl rfl (Nat.le_of_ble_eq_true rfl) dX10_takes_1 ?_
  refine v_iload_n C 1 dX10_takes_4 rfl ?_
  refine v_icmp_ne C 12 dX10_takes_5 rfl (fun h_5 => ?_) (fun h_5 => ?_)
  · skip
    refine v_iconst C (nI 0) dX10_takes_12 (by decide) ?_
    refine v_istore_n C [(2, .int (nI 0)), (0, .ref (gb G + 205)), (1, .int c)] dX10_takes_13 rfl (by decide) rfl ?_
    refine v_aload_n C 1 dX10_takes_14 rfl ?_
    refine v_dup C dX10_takes_15 rfl ?_
    refine g_X10_174 C (by decide) sh_205 dX10_takes_16 ?_
    refine v_top (X 205 6) (congrFun (upA_ne X Y (by decide)) 6) ?_
    refine v_top (nI S.2.1) (hp.1.1) ?_
    refine v_iload_n C 0 dX10_takes_19 rfl ?_
    refine n_if_eq C (by omega) 27 dX10_takes_20 rfl (fun _ => ?_) (fun h_20 => absurd h_20 (by decide))
    refine v_iconst C (nI 0) dX10_takes_27 (by decide) ?_
    refine n_iadd C dX10_takes_28 ?_
    refine p_X10_174 C (by decide) sh_205 dX10_takes_29 ?_
    refine v_mem (upA (up2 X 205 6 (nI (S.2.1 + 0))) 206 Y) (up2_upA_ne _ _ _ _ (by decide)) ?_
    refine v_iload_n C 0 dX10_takes_32 rfl ?_
    exact n_iret C hRt rfl dX10_takes_33 (b2i_F h_5) ⟨_, rfl, by unfold tkS; rw [if_neg h_5]; exact hp.at (S.2.1 + 0), exP.s _ _ _ (by decide)⟩
  · skip
    refine v_iconst C (nI 1) dX10_takes_8 (by decide) ?_
    refine v_goto C 13 dX10_takes_9 rfl ?_
    refine v_istore_n C [(2, .int (nI 1)), (0, .ref (gb G + 205)), (1, .int c)] dX10_takes_13 rfl (by decide) rfl ?_
    refine v_aload_n C 1 dX10_takes_14 rfl ?_
    refine v_dup C dX10_takes_15 rfl ?_
    refine g_X10_174 C (by decide) sh_205 dX10_takes_16 ?_
    refine v_top (X 205 6) (congrFun (upA_ne X Y (by decide)) 6) ?_
    refine v_top (nI S.2.1) (hp.1.1) ?_
    refine v_iload_n C 0 dX10_takes_19 rfl ?_
    refine n_if_eq C (by omega) 27 dX10_takes_20 rfl (fun h_20 => absurd h_20 (by decide)) (fun _ => ?_)
    refine v_iconst C (nI 1) dX10_takes_23 (by decide) ?_
    refine v_goto C 28 dX10_takes_24 rfl ?_
    refine n_iadd C dX10_takes_28 ?_
    refine p_X10_174 C (by decide) sh_205 dX10_takes_29 ?_
    refine v_mem (upA (up2 X 205 6 (nI (S.2.1 + 1))) 206 Y) (up2_upA_ne _ _ _ _ (by decide)) ?_
    refine v_iload_n C 0 dX10_takes_32 rfl ?_
    exact n_iret C hRt rfl dX10_takes_33 (b2i_T h_5) ⟨_, rfl, by unfold tkS; rw [if_pos h_5]; exact hp.at (S.2.1 + 1), exP.s _ _ _ (by decide)⟩
set_option maxHeartbeats 4000000 in
set_option maxRecDepth 100000 in
theorem r_codes (l : Launch) (G : GC) (X : Mm) (Y : Nat → Int32) (t u op : Nat) (ht : t ≤ 60) (hT : Y 4 = nI t) (hu : u < 2) (S : PS) (hp : pRep X op u S) (ho : okS t S) (v : Nat) (hlen : S.2.2.length < 60) : CV l G 1 yX10_codes cX10_codes 2 [.ref (gb G + 205), .int (nI v)] (upA X 206 Y) (fun M' => ∃ X', M' = upA X' 206 Y ∧ pRep X' op u (codS v S) ∧ exP X X') := by
  refine Con.of (by decide +kernel) (Nat.le_of_ble_eq_true rfl) ?_
  intro f C hRm hRt _
  show Vc f G NPh (upA X 206 Y) 0 [(0, .ref (gb G + 205)), (1, .int (nI v))] []
  refine v_aload_n C 0 dX10_codes_0 rfl ?_
  refine g_X10_170 C (by decide) sh_205 dX10_codes_1 ?_
  refine v_top (X 205 9) (congrFun (upA_ne X Y (by decide)) 9) ?_
  refine v_top (b2i (S.1 = false)) (hp.1.2.2.2.1) ?_
  refine nb_if_ne C 27 dX10_codes_4 rfl (fun h_4 => ?_) (fun h_4 => ?_)
  · skip
    exact n_ret C hRt dX10_codes_27 ⟨X, rfl, by unfold codS; rw [if_neg (by simp [h_4])]; exact hp, exP.rf X⟩
  · skip
    refine v_aload_n C 0 dX10_codes_7 rfl ?_
    refine g_X10_32 C (by decide) sh_205 dX10_codes_8 ?_
    refine v_aload_n C 0 dX10_codes_11 rfl ?_
    refine g_X10_182 C (by decide) sh_205 dX10_codes_12 ?_
    refine v_top (X 205 11) (congrFun (upA_ne X Y (by decide)) 11) ?_
    refine v_top (nI S.2.2.length) (hp.1.2.2.2.2) ?_
    refine v_iload_n C 1 dX10_codes_15 rfl ?_
    refine v_iast C (by decide) sh_211 (by omega) (by decide) dX10_codes_16 ?_
    refine v_mem (upA (up2 X 211 S.2.2.length (nI v)) 206 Y) (up2_upA_ne _ _ _ _ (by decide)) ?_
    refine v_aload_n C 0 dX10_codes_17 rfl ?_
    refine v_dup C dX10_codes_18 rfl ?_
    refine g_X10_182 C (by decide) sh_205 dX10_codes_19 ?_
    refine v_top ((up2 X 211 S.2.2.length (nI v)) 205 11) (congrFun (upA_ne (up2 X 211 S.2.2.length (nI v)) Y (by decide)) 11) ?_
    refine v_top (nI S.2.2.length) ((congrFun (up2_ne X _ _ (by decide)) 11).trans hp.1.2.2.2.2) ?_
    refine v_iconst C (nI 1) dX10_codes_22 (by decide) ?_
    refine n_iadd C dX10_codes_23 ?_
    refine p_X10_182 C (by decide) sh_205 dX10_codes_24 ?_
    refine v_mem (upA (up2 (up2 X 211 S.2.2.length (nI v)) 205 11 (nI (S.2.2.length + 1))) 206 Y) (up2_upA_ne _ _ _ _ (by decide)) ?_
    exact n_ret C hRt dX10_codes_27 ⟨_, rfl, hp.cod v (by cases hh : S.1 <;> simp_all), (exP.c _ _ _).tr (exP.s _ _ _ (by decide))⟩
set_option maxHeartbeats 4000000 in
set_option maxRecDepth 100000 in
theorem r_nameOf (l : Launch) (G : GC) (M : Mm) (u : Nat) (hu : u < 2) (h8 : M 205 8 = nI u) (hN : M 210 u = nI (1 + u + 1)) (c : Int32) : CP l G 5 yX10_nameOf cX10_nameOf 4 .int [.ref (gb G + 205), .int c] M (nmS u c) := by
  refine Con.of (by decide +kernel) (Nat.le_of_ble_eq_true rfl) ?_
  intro f C hRm hRt _
  have h5 := lenS_le (1 + u) (by omega)
  have LN : ∀ (kk : Nat) (k : Nat) (v : Int32), lenS (1 + u) - k = kk → k ≤ lenS (1 + u) → v = nmP u c k → Vc f G NPh M 4 [(3, .int (nI k)), (2, .int v), (0, .ref (gb G + 205)), (1, .int c)] [] := by
    intro kk
    induction kk using Nat.strongRecOn with
    | _ kk ihLN =>
      intro k v hkk hk1 hv
      refine v_iload_n C 0 dX10_nameOf_4 rfl ?_
      refine v_aload_n C 2 dX10_nameOf_5 rfl ?_
      refine g_X10_28 C (by decide) sh_205 dX10_nameOf_6 ?_
      refine v_aload_n C 2 dX10_nameOf_9 rfl ?_
      refine g_X10_207 C (by decide) sh_205 dX10_nameOf_10 ?_
      refine v_top (nI u) h8 ?_
      refine v_aldS C (i := 1 + u) (by decide) sh_210 hu hN (by omega) dX10_nameOf_13 ?_
      refine n_callTp C hRm [] cw_J0_length_8abf5 rfl ml_X10_210 (by omega) (j_length l G M (1 + u) (by omega)) (by decide) rfl rfl (Nat.le_of_ble_eq_true rfl) dX10_nameOf_14 ?_
      refine n_icmp_ge C (by omega) (by omega) 49 dX10_nameOf_17 rfl (fun h_17 => ?_) (fun h_17 => ?_)
      · skip
        refine v_iload_n C 1 dX10_nameOf_49 rfl ?_
        have hz : k = lenS (1 + u) := by omega
        subst hz
        exact n_iret C hRt rfl dX10_nameOf_50 hv rfl
      · skip
        refine v_aload_n C 2 dX10_nameOf_20 rfl ?_
        refine g_X10_28 C (by decide) sh_205 dX10_nameOf_21 ?_
        refine v_aload_n C 2 dX10_nameOf_24 rfl ?_
        refine g_X10_207 C (by decide) sh_205 dX10_nameOf_25 ?_
        refine v_top (nI u) h8 ?_
        refine v_aldS C (i := 1 + u) (by decide) sh_210 hu hN (by omega) dX10_nameOf_28 ?_
        refine v_iload_n C 0 dX10_nameOf_29 rfl ?_
        refine n_callTp C hRm [.int (nI k)] cw_J0_charAt_5068e rfl ml_X10_213 (by omega) (j_charAt l G M (1 + u) (by omega) k (by omega)) (by decide) rfl rfl (Nat.le_of_ble_eq_true rfl) dX10_nameOf_30 ?_
        refine v_iload_n C 3 dX10_nameOf_33 rfl ?_
        refine v_icmp_ne C 41 dX10_nameOf_34 rfl (fun h_34 => ?_) (fun h_34 => ?_)
        · skip
          refine v_iload_n C 1 dX10_nameOf_41 rfl ?_
          refine v_istore_n C [(2, .int v), (3, .int (nI k)), (0, .ref (gb G + 205)), (1, .int c)] dX10_nameOf_42 rfl (by decide) rfl ?_
          refine v_iinc C (nI (k + 1)) 1 [(3, .int (nI (k + 1))), (2, .int v), (0, .ref (gb G + 205)), (1, .int c)] dX10_nameOf_43 rfl (nI_add _ _) (by decide) rfl ?_
          refine v_goto C 4 dX10_nameOf_46 rfl ?_
          refine v_sub [0, 1, 2, 3] [(3, .int (nI (k + 1))), (2, .int v), (0, .ref (gb G + 205)), (1, .int c)] rfl ?_
          exact ihLN _ (by omega) (k + 1) v  rfl (by omega) (by simp only [nmP]; first | rw [if_pos h_34] | (rw [if_neg h_34]; exact hv))
        · skip
          refine v_iload_n C 0 dX10_nameOf_37 rfl ?_
          refine v_goto C 42 dX10_nameOf_38 rfl ?_
          refine v_istore_n C [(2, .int (nI k)), (3, .int (nI k)), (0, .ref (gb G + 205)), (1, .int c)] dX10_nameOf_42 rfl (by decide) rfl ?_
          refine v_iinc C (nI (k + 1)) 1 [(3, .int (nI (k + 1))), (2, .int (nI k)), (0, .ref (gb G + 205)), (1, .int c)] dX10_nameOf_43 rfl (nI_add _ _) (by decide) rfl ?_
          refine v_goto C 4 dX10_nameOf_46 rfl ?_
          refine v_sub [0, 1, 2, 3] [(3, .int (nI (k + 1))), (2, .int (nI k)), (0, .ref (gb G + 205)), (1, .int c)] rfl ?_
          exact ihLN _ (by omega) (k + 1) (nI k)  rfl (by omega) (by simp only [nmP]; first | rw [if_pos h_34] | (rw [if_neg h_34]; exact hv))
  show Vc f G NPh M 0 [(0, .ref (gb G + 205)), (1, .int c)] []
  refine v_iconst C (-1) dX10_nameOf_0 (by decide) ?_
  refine v_istore_n C [(2, .int (-1)), (0, .ref (gb G + 205)), (1, .int c)] dX10_nameOf_1 rfl (by decide) rfl ?_
  refine v_iconst C (nI 0) dX10_nameOf_2 (by decide) ?_
  refine v_istore_n C [(3, .int (nI 0)), (2, .int (-1)), (0, .ref (gb G + 205)), (1, .int c)] dX10_nameOf_3 rfl (by decide) rfl ?_
  refine v_sub [0, 1, 2, 3] [(3, .int (nI 0)), (2, .int (-1)), (0, .ref (gb G + 205)), (1, .int c)] rfl ?_
  exact LN _ 0 (-1)  rfl (by omega) rfl
set_option maxHeartbeats 4000000 in
set_option maxRecDepth 100000 in
theorem pr_either (l : Launch) (G : GC) (Y : Nat → Int32) (t u op : Nat) (ht : t ≤ 60) (hT : Y 4 = nI t) (hu : u < 2) (f : Nat) (hB : PB l G Y t u f) (hop : op ≤ 5) (hr : 6 * (5 - op) + 5 < f + 1) : pcon l G yX10_either cX10_either 1 (8 + (f + 1)) Y t u op (pz Y t u (f + 1) 0 op) := by
  intro X0 S0 hp0 ho0
  refine Con.of (by decide +kernel) (Nat.le_of_ble_eq_true rfl) ?_
  intro fr C hRm hRt _
  have hF0 : pz Y t u (f + 1) 0 op S0 = lpS Y t (pz Y t u f 1 op) 0 60 (pz Y t u f 1 op S0) := rfl
  have LP : ∀ (k : Nat) (S : PS) (X : Mm), pRep X op u S → okS t S → t ≤ S.2.1 + k → exP X0 X → lpS Y t (pz Y t u f 1 op) 0 k S = lpS Y t (pz Y t u f 1 op) 0 60 (pz Y t u f 1 op S0) → Vc fr G NPh (upA X 206 Y) 4 [(0, .ref (gb G + 205))] [] := by
    intro k
    induction k with
    | zero =>
      intro S X hp ho hk he hF
      refine v_aload_n C 0 dX10_either_4 rfl ?_
      refine v_bipush C (nI 124) dX10_either_5 (by decide) ?_
      refine n_callVi C hRm [.int (nI 124)] cw_X10_takes ml_X10_188 (by decide) sh_205 (by decide) rfl (r_takes l G X Y t u op ht hT hu S hp ho (nI 124)) (by omega) rfl rfl (Nat.le_of_ble_eq_true rfl) dX10_either_7 (fun M5 hP_7 => ?_)
      obtain ⟨X1, rfl, hp1, he1⟩ := hP_7
      have hE1 := (he).tr he1
      refine nb_if_eq C 27 dX10_either_10 rfl (fun h_10 => ?_) (fun h_10 => ?_)
      · skip
        have hp2 : pRep X1 op u S := by have h9 := hp1; unfold tkS at h9; rw [if_neg h_10] at h9; exact h9
        have hFF : S = pz Y t u (f + 1) 0 op S0 := hF.trans hF0.symm
        exact n_ret C hRt dX10_either_27 ⟨_, rfl, hFF ▸ hp2, hE1⟩
      · skip
        exact absurd (here_k (by decide) h_10).2 (by omega)
    | succ k ih =>
      intro S X hp ho hk he hF
      refine v_aload_n C 0 dX10_either_4 rfl ?_
      refine v_bipush C (nI 124) dX10_either_5 (by decide) ?_
      refine n_callVi C hRm [.int (nI 124)] cw_X10_takes ml_X10_188 (by decide) sh_205 (by decide) rfl (r_takes l G X Y t u op ht hT hu S hp ho (nI 124)) (by omega) rfl rfl (Nat.le_of_ble_eq_true rfl) dX10_either_7 (fun M5 hP_7 => ?_)
      obtain ⟨X3, rfl, hp3, he3⟩ := hP_7
      have hE3 := (he).tr he3
      refine nb_if_eq C 27 dX10_either_10 rfl (fun h_10 => ?_) (fun h_10 => ?_)
      · skip
        have hp4 : pRep X3 op u S := by have h9 := hp3; unfold tkS at h9; rw [if_neg h_10] at h9; exact h9
        have hz : sgn 0 (hereS Y t S) = 0 := by unfold sgn; exact if_neg h_10
        have hFF : S = pz Y t u (f + 1) 0 op S0 := by rw [hF0, ← hF]; unfold lpS; rw [if_pos hz]
        exact n_ret C hRt dX10_either_27 ⟨_, rfl, hFF ▸ hp4, hE3⟩
      · skip
        have hp5 : pRep X3 op u (advS S) := by have h9 := hp3; unfold tkS at h9; rw [if_pos h_10] at h9; exact h9
        have hl5 := here_k (by decide) h_10
        have ho5 : okS t (advS S) := ⟨by show S.2.1 + 1 ≤ t; omega, by show S.2.2.length ≤ S.2.1 + 1; have := ho.2; omega⟩
        refine v_aload_n C 0 dX10_either_13 rfl ?_
        refine n_callVv C hRm [] cw_X10_both ml_X10_185 (by decide) sh_205 (by decide) rfl ((hB op hop).2.1 (by omega) X3 (advS S) hp5 ho5) (by omega) rfl rfl (Nat.le_of_ble_eq_true rfl) dX10_either_14 (fun M5 hP_14 => ?_)
        obtain ⟨X6, rfl, hp6, he6⟩ := hP_14
        have hE6 := (hE3).tr he6
        have hm6 := pz_mono Y t u f 1 op (advS S) ho5.1
        have ho6 := hm6.ok ho5
        refine v_aload_n C 0 dX10_either_17 rfl ?_
        refine v_sipush C (nI 20000) dX10_either_18 (by decide) ?_
        refine n_callVv C hRm [.int (nI 20000)] cw_X10_codes ml_X10_191 (by decide) sh_205 (by decide) rfl (r_codes l G X6 Y t u op ht hT hu (pz Y t u f 1 op (advS S)) hp6 ho6 20000 (by have h90 := (hm6).ok1 ho; have h92 := ho6.1; omega)) (by omega) rfl rfl (Nat.le_of_ble_eq_true rfl) dX10_either_21 (fun M5 hP_21 => ?_)
        obtain ⟨X7, rfl, hp7, he7⟩ := hP_21
        have hE7 := (hE6).tr he7
        refine v_goto C 4 dX10_either_24 rfl ?_
        have hz : sgn 0 (hereS Y t S) = 20000 := by unfold sgn; exact if_pos h_10
        have hmm := (hm6).cod (v := 20000)
        have h91 : S.2.1 + 1 ≤ (pz Y t u f 1 op (advS S)).2.1 := (hm6).1
        exact ih _ _ hp7 (hmm.ok ho) (by rw [cod_at]; omega) (hE7) (by rw [← hF]; exact ((congrFun rfl S : lpS Y t (pz Y t u f 1 op) 0 (k + 1) S = lpS Y t (pz Y t u f 1 op) 0 (k + 1) S).trans (by rw [lpS, hz]; rfl)).symm)
  show Vc fr G NPh (upA X0 206 Y) 0 [(0, .ref (gb G + 205))] []
  refine v_aload_n C 0 dX10_either_0 rfl ?_
  refine n_callVv C hRm [] cw_X10_both ml_X10_185 (by decide) sh_205 (by decide) rfl ((hB op hop).2.1 (by omega) X0 S0 hp0 ho0) (by omega) rfl rfl (Nat.le_of_ble_eq_true rfl) dX10_either_1 (fun M5 hP_1 => ?_)
  obtain ⟨X8, rfl, hp8, he8⟩ := hP_1
  have hE8 := (exP.rf X0).tr he8
  have hm8 := pz_mono Y t u f 1 op S0 ho0.1
  have ho8 := hm8.ok ho0
  exact LP 60 _ _ hp8 ho8 (by have := ho0.1; omega) (hE8) rfl
set_option maxHeartbeats 4000000 in
set_option maxRecDepth 100000 in
theorem pr_both (l : Launch) (G : GC) (Y : Nat → Int32) (t u op : Nat) (ht : t ≤ 60) (hT : Y 4 = nI t) (hu : u < 2) (f : Nat) (hB : PB l G Y t u f) (hop : op ≤ 5) (hr : 6 * (5 - op) + 4 < f + 1) : pcon l G yX10_both cX10_both 1 (8 + (f + 1)) Y t u op (pz Y t u (f + 1) 1 op) := by
  intro X0 S0 hp0 ho0
  refine Con.of (by decide +kernel) (Nat.le_of_ble_eq_true rfl) ?_
  intro fr C hRm hRt _
  have hF0 : pz Y t u (f + 1) 1 op S0 = lpS Y t (pz Y t u f 2 op) 1 60 (pz Y t u f 2 op S0) := rfl
  have LP : ∀ (k : Nat) (S : PS) (X : Mm), pRep X op u S → okS t S → t ≤ S.2.1 + k → exP X0 X → lpS Y t (pz Y t u f 2 op) 1 k S = lpS Y t (pz Y t u f 2 op) 1 60 (pz Y t u f 2 op S0) → Vc fr G NPh (upA X 206 Y) 4 [(0, .ref (gb G + 205))] [] := by
    intro k
    induction k with
    | zero =>
      intro S X hp ho hk he hF
      refine v_aload_n C 0 dX10_both_4 rfl ?_
      refine v_bipush C (nI 38) dX10_both_5 (by decide) ?_
      refine n_callVi C hRm [.int (nI 38)] cw_X10_takes ml_X10_188 (by decide) sh_205 (by decide) rfl (r_takes l G X Y t u op ht hT hu S hp ho (nI 38)) (by omega) rfl rfl (Nat.le_of_ble_eq_true rfl) dX10_both_7 (fun M5 hP_7 => ?_)
      obtain ⟨X9, rfl, hp9, he9⟩ := hP_7
      have hE9 := (he).tr he9
      refine nb_if_eq C 27 dX10_both_10 rfl (fun h_10 => ?_) (fun h_10 => ?_)
      · skip
        have hp10 : pRep X9 op u S := by have h9 := hp9; unfold tkS at h9; rw [if_neg h_10] at h9; exact h9
        have hFF : S = pz Y t u (f + 1) 1 op S0 := hF.trans hF0.symm
        exact n_ret C hRt dX10_both_27 ⟨_, rfl, hFF ▸ hp10, hE9⟩
      · skip
        exact absurd (here_k (by decide) h_10).2 (by omega)
    | succ k ih =>
      intro S X hp ho hk he hF
      refine v_aload_n C 0 dX10_both_4 rfl ?_
      refine v_bipush C (nI 38) dX10_both_5 (by decide) ?_
      refine n_callVi C hRm [.int (nI 38)] cw_X10_takes ml_X10_188 (by decide) sh_205 (by decide) rfl (r_takes l G X Y t u op ht hT hu S hp ho (nI 38)) (by omega) rfl rfl (Nat.le_of_ble_eq_true rfl) dX10_both_7 (fun M5 hP_7 => ?_)
      obtain ⟨X11, rfl, hp11, he11⟩ := hP_7
      have hE11 := (he).tr he11
      refine nb_if_eq C 27 dX10_both_10 rfl (fun h_10 => ?_) (fun h_10 => ?_)
      · skip
        have hp12 : pRep X11 op u S := by have h9 := hp11; unfold tkS at h9; rw [if_neg h_10] at h9; exact h9
        have hz : sgn 1 (hereS Y t S) = 0 := by unfold sgn; exact if_neg h_10
        have hFF : S = pz Y t u (f + 1) 1 op S0 := by rw [hF0, ← hF]; unfold lpS; rw [if_pos hz]
        exact n_ret C hRt dX10_both_27 ⟨_, rfl, hFF ▸ hp12, hE11⟩
      · skip
        have hp13 : pRep X11 op u (advS S) := by have h9 := hp11; unfold tkS at h9; rw [if_pos h_10] at h9; exact h9
        have hl13 := here_k (by decide) h_10
        have ho13 : okS t (advS S) := ⟨by show S.2.1 + 1 ≤ t; omega, by show S.2.2.length ≤ S.2.1 + 1; have := ho.2; omega⟩
        refine v_aload_n C 0 dX10_both_13 rfl ?_
        refine n_callVv C hRm [] cw_X10_compared ml_X10_195 (by decide) sh_205 (by decide) rfl ((hB op hop).2.2.1 (by omega) X11 (advS S) hp13 ho13) (by omega) rfl rfl (Nat.le_of_ble_eq_true rfl) dX10_both_14 (fun M5 hP_14 => ?_)
        obtain ⟨X14, rfl, hp14, he14⟩ := hP_14
        have hE14 := (hE11).tr he14
        have hm14 := pz_mono Y t u f 2 op (advS S) ho13.1
        have ho14 := hm14.ok ho13
        refine v_aload_n C 0 dX10_both_17 rfl ?_
        refine v_sipush C (nI 20001) dX10_both_18 (by decide) ?_
        refine n_callVv C hRm [.int (nI 20001)] cw_X10_codes ml_X10_191 (by decide) sh_205 (by decide) rfl (r_codes l G X14 Y t u op ht hT hu (pz Y t u f 2 op (advS S)) hp14 ho14 20001 (by have h90 := (hm14).ok1 ho; have h92 := ho14.1; omega)) (by omega) rfl rfl (Nat.le_of_ble_eq_true rfl) dX10_both_21 (fun M5 hP_21 => ?_)
        obtain ⟨X15, rfl, hp15, he15⟩ := hP_21
        have hE15 := (hE14).tr he15
        refine v_goto C 4 dX10_both_24 rfl ?_
        have hz : sgn 1 (hereS Y t S) = 20001 := by unfold sgn; exact if_pos h_10
        have hmm := (hm14).cod (v := 20001)
        have h91 : S.2.1 + 1 ≤ (pz Y t u f 2 op (advS S)).2.1 := (hm14).1
        exact ih _ _ hp15 (hmm.ok ho) (by rw [cod_at]; omega) (hE15) (by rw [← hF]; exact ((congrFun rfl S : lpS Y t (pz Y t u f 2 op) 1 (k + 1) S = lpS Y t (pz Y t u f 2 op) 1 (k + 1) S).trans (by rw [lpS, hz]; rfl)).symm)
  show Vc fr G NPh (upA X0 206 Y) 0 [(0, .ref (gb G + 205))] []
  refine v_aload_n C 0 dX10_both_0 rfl ?_
  refine n_callVv C hRm [] cw_X10_compared ml_X10_195 (by decide) sh_205 (by decide) rfl ((hB op hop).2.2.1 (by omega) X0 S0 hp0 ho0) (by omega) rfl rfl (Nat.le_of_ble_eq_true rfl) dX10_both_1 (fun M5 hP_1 => ?_)
  obtain ⟨X16, rfl, hp16, he16⟩ := hP_1
  have hE16 := (exP.rf X0).tr he16
  have hm16 := pz_mono Y t u f 2 op S0 ho0.1
  have ho16 := hm16.ok ho0
  exact LP 60 _ _ hp16 ho16 (by have := ho0.1; omega) (hE16) rfl
set_option maxHeartbeats 4000000 in
set_option maxRecDepth 100000 in
theorem pr_compared (l : Launch) (G : GC) (Y : Nat → Int32) (t u op : Nat) (ht : t ≤ 60) (hT : Y 4 = nI t) (hu : u < 2) (f : Nat) (hB : PB l G Y t u f) (hop : op ≤ 5) (hr : 6 * (5 - op) + 3 < f + 1) : pcon l G yX10_compared cX10_compared 2 (8 + (f + 1)) Y t u op (pz Y t u (f + 1) 2 op) := by
  intro X0 S0 hp0 ho0
  refine Con.of (by decide +kernel) (Nat.le_of_ble_eq_true rfl) ?_
  intro fr C hRm hRt _
  have hF0 : pz Y t u (f + 1) 2 op S0 = lpS Y t (pz Y t u f 3 op) 2 1 (pz Y t u f 3 op S0) := rfl
  show Vc fr G NPh (upA X0 206 Y) 0 [(0, .ref (gb G + 205))] []
  refine v_aload_n C 0 dX10_compared_0 rfl ?_
  refine n_callVv C hRm [] cw_X10_sum ml_X10_198 (by decide) sh_205 (by decide) rfl ((hB op hop).2.2.2.1 (by omega) X0 S0 hp0 ho0) (by omega) rfl rfl (Nat.le_of_ble_eq_true rfl) dX10_compared_1 (fun M5 hP_1 => ?_)
  obtain ⟨X17, rfl, hp17, he17⟩ := hP_1
  have hE17 := (exP.rf X0).tr he17
  have hm17 := pz_mono Y t u f 3 op S0 ho0.1
  have ho17 := hm17.ok ho0
  refine v_aload_n C 0 dX10_compared_4 rfl ?_
  refine v_bipush C (nI 60) dX10_compared_5 (by decide) ?_
  refine n_callVi C hRm [.int (nI 60)] cw_X10_takes ml_X10_188 (by decide) sh_205 (by decide) rfl (r_takes l G X17 Y t u op ht hT hu (pz Y t u f 3 op S0) hp17 ho17 (nI 60)) (by omega) rfl rfl (Nat.le_of_ble_eq_true rfl) dX10_compared_7 (fun M5 hP_7 => ?_)
  obtain ⟨X18, rfl, hp18, he18⟩ := hP_7
  have hE18 := (hE17).tr he18
  refine nb_if_eq C 19 dX10_compared_10 rfl (fun h_10 => ?_) (fun h_10 => ?_)
  · skip
    have hp19 : pRep X18 op u (pz Y t u f 3 op S0) := by have h9 := hp18; unfold tkS at h9; rw [if_neg h_10] at h9; exact h9
    refine v_aload_n C 0 dX10_compared_19 rfl ?_
    refine v_bipush C (nI 61) dX10_compared_20 (by decide) ?_
    refine n_callVi C hRm [.int (nI 61)] cw_X10_takes ml_X10_188 (by decide) sh_205 (by decide) rfl (r_takes l G X18 Y t u op ht hT hu (pz Y t u f 3 op S0) hp19 ho17 (nI 61)) (by omega) rfl rfl (Nat.le_of_ble_eq_true rfl) dX10_compared_22 (fun M5 hP_22 => ?_)
    obtain ⟨X20, rfl, hp20, he20⟩ := hP_22
    have hE20 := (hE18).tr he20
    refine nb_if_eq C 34 dX10_compared_25 rfl (fun h_25 => ?_) (fun h_25 => ?_)
    · skip
      have hp21 : pRep X20 op u (pz Y t u f 3 op S0) := by have h9 := hp20; unfold tkS at h9; rw [if_neg h_25] at h9; exact h9
      refine v_aload_n C 0 dX10_compared_34 rfl ?_
      refine v_bipush C (nI 62) dX10_compared_35 (by decide) ?_
      refine n_callVi C hRm [.int (nI 62)] cw_X10_takes ml_X10_188 (by decide) sh_205 (by decide) rfl (r_takes l G X20 Y t u op ht hT hu (pz Y t u f 3 op S0) hp21 ho17 (nI 62)) (by omega) rfl rfl (Nat.le_of_ble_eq_true rfl) dX10_compared_37 (fun M5 hP_37 => ?_)
      obtain ⟨X22, rfl, hp22, he22⟩ := hP_37
      have hE22 := (hE20).tr he22
      refine nb_if_eq C 49 dX10_compared_40 rfl (fun h_40 => ?_) (fun h_40 => ?_)
      · skip
        have hp23 : pRep X22 op u (pz Y t u f 3 op S0) := by have h9 := hp22; unfold tkS at h9; rw [if_neg h_40] at h9; exact h9
        refine v_iconst C (nI 0) dX10_compared_49 (by decide) ?_
        refine v_istore_n C [(1, .int (nI 0)), (0, .ref (gb G + 205))] dX10_compared_50 rfl (by decide) rfl ?_
        refine v_iload_n C 0 dX10_compared_51 rfl ?_
        refine v_if_le C 64 dX10_compared_52 rfl (fun _ => ?_) (fun h_52 => absurd h_52 (by decide +kernel))
        have hz : sgn 2 (hereS Y t (pz Y t u f 3 op S0)) = 0 := by unfold sgn; show (if _ then _ else _) = _; rw [if_neg h_10, if_neg h_25, if_neg h_40]
        have hFF : (pz Y t u f 3 op S0) = pz Y t u (f + 1) 2 op S0 := by rw [hF0]; unfold lpS; rw [if_pos hz]
        exact n_ret C hRt dX10_compared_64 ⟨_, rfl, hFF ▸ hp23, hE22⟩
      · skip
        have hp24 : pRep X22 op u (advS (pz Y t u f 3 op S0)) := by have h9 := hp22; unfold tkS at h9; rw [if_pos h_40] at h9; exact h9
        have hl24 := here_k (by decide) h_40
        have ho24 : okS t (advS (pz Y t u f 3 op S0)) := ⟨by show (pz Y t u f 3 op S0).2.1 + 1 ≤ t; omega, by show (pz Y t u f 3 op S0).2.2.length ≤ (pz Y t u f 3 op S0).2.1 + 1; have := ho17.2; omega⟩
        refine v_sipush C (nI 20004) dX10_compared_43 (by decide) ?_
        refine v_goto C 50 dX10_compared_46 rfl ?_
        refine v_istore_n C [(1, .int (nI 20004)), (0, .ref (gb G + 205))] dX10_compared_50 rfl (by decide) rfl ?_
        refine v_iload_n C 0 dX10_compared_51 rfl ?_
        refine v_if_le C 64 dX10_compared_52 rfl (fun h_52 => absurd h_52 (by decide +kernel)) (fun _ => ?_)
        refine v_aload_n C 1 dX10_compared_55 rfl ?_
        refine n_callVv C hRm [] cw_X10_sum ml_X10_198 (by decide) sh_205 (by decide) rfl ((hB op hop).2.2.2.1 (by omega) X22 (advS (pz Y t u f 3 op S0)) hp24 ho24) (by omega) rfl rfl (Nat.le_of_ble_eq_true rfl) dX10_compared_56 (fun M5 hP_56 => ?_)
        obtain ⟨X25, rfl, hp25, he25⟩ := hP_56
        have hE25 := (hE22).tr he25
        have hm25 := pz_mono Y t u f 3 op (advS (pz Y t u f 3 op S0)) ho24.1
        have ho25 := hm25.ok ho24
        refine v_aload_n C 1 dX10_compared_59 rfl ?_
        refine v_iload_n C 0 dX10_compared_60 rfl ?_
        refine n_callVv C hRm [.int (nI 20004)] cw_X10_codes ml_X10_191 (by decide) sh_205 (by decide) rfl (r_codes l G X25 Y t u op ht hT hu (pz Y t u f 3 op (advS (pz Y t u f 3 op S0))) hp25 ho25 20004 (by have h90 := (hm25).ok1 ho17; have h92 := ho25.1; omega)) (by omega) rfl rfl (Nat.le_of_ble_eq_true rfl) dX10_compared_61 (fun M5 hP_61 => ?_)
        obtain ⟨X26, rfl, hp26, he26⟩ := hP_61
        have hE26 := (hE25).tr he26
        have hz : sgn 2 (hereS Y t (pz Y t u f 3 op S0)) = 20004 := by unfold sgn; show (if _ then _ else _) = _; rw [if_neg h_10, if_neg h_25, if_pos h_40]
        have hFF : codS 20004 (pz Y t u f 3 op (advS (pz Y t u f 3 op S0))) = pz Y t u (f + 1) 2 op S0 := by rw [hF0, lpS, hz]; rfl
        exact n_ret C hRt dX10_compared_64 ⟨_, rfl, hFF ▸ hp26, hE26⟩
    · skip
      have hp27 : pRep X20 op u (advS (pz Y t u f 3 op S0)) := by have h9 := hp20; unfold tkS at h9; rw [if_pos h_25] at h9; exact h9
      have hl27 := here_k (by decide) h_25
      have ho27 : okS t (advS (pz Y t u f 3 op S0)) := ⟨by show (pz Y t u f 3 op S0).2.1 + 1 ≤ t; omega, by show (pz Y t u f 3 op S0).2.2.length ≤ (pz Y t u f 3 op S0).2.1 + 1; have := ho17.2; omega⟩
      refine v_sipush C (nI 20003) dX10_compared_28 (by decide) ?_
      refine v_goto C 50 dX10_compared_31 rfl ?_
      refine v_istore_n C [(1, .int (nI 20003)), (0, .ref (gb G + 205))] dX10_compared_50 rfl (by decide) rfl ?_
      refine v_iload_n C 0 dX10_compared_51 rfl ?_
      refine v_if_le C 64 dX10_compared_52 rfl (fun h_52 => absurd h_52 (by decide +kernel)) (fun _ => ?_)
      refine v_aload_n C 1 dX10_compared_55 rfl ?_
      refine n_callVv C hRm [] cw_X10_sum ml_X10_198 (by decide) sh_205 (by decide) rfl ((hB op hop).2.2.2.1 (by omega) X20 (advS (pz Y t u f 3 op S0)) hp27 ho27) (by omega) rfl rfl (Nat.le_of_ble_eq_true rfl) dX10_compared_56 (fun M5 hP_56 => ?_)
      obtain ⟨X28, rfl, hp28, he28⟩ := hP_56
      have hE28 := (hE20).tr he28
      have hm28 := pz_mono Y t u f 3 op (advS (pz Y t u f 3 op S0)) ho27.1
      have ho28 := hm28.ok ho27
      refine v_aload_n C 1 dX10_compared_59 rfl ?_
      refine v_iload_n C 0 dX10_compared_60 rfl ?_
      refine n_callVv C hRm [.int (nI 20003)] cw_X10_codes ml_X10_191 (by decide) sh_205 (by decide) rfl (r_codes l G X28 Y t u op ht hT hu (pz Y t u f 3 op (advS (pz Y t u f 3 op S0))) hp28 ho28 20003 (by have h90 := (hm28).ok1 ho17; have h92 := ho28.1; omega)) (by omega) rfl rfl (Nat.le_of_ble_eq_true rfl) dX10_compared_61 (fun M5 hP_61 => ?_)
      obtain ⟨X29, rfl, hp29, he29⟩ := hP_61
      have hE29 := (hE28).tr he29
      have hz : sgn 2 (hereS Y t (pz Y t u f 3 op S0)) = 20003 := by unfold sgn; show (if _ then _ else _) = _; rw [if_neg h_10, if_pos h_25]
      have hFF : codS 20003 (pz Y t u f 3 op (advS (pz Y t u f 3 op S0))) = pz Y t u (f + 1) 2 op S0 := by rw [hF0, lpS, hz]; rfl
      exact n_ret C hRt dX10_compared_64 ⟨_, rfl, hFF ▸ hp29, hE29⟩
  · skip
    have hp30 : pRep X18 op u (advS (pz Y t u f 3 op S0)) := by have h9 := hp18; unfold tkS at h9; rw [if_pos h_10] at h9; exact h9
    have hl30 := here_k (by decide) h_10
    have ho30 : okS t (advS (pz Y t u f 3 op S0)) := ⟨by show (pz Y t u f 3 op S0).2.1 + 1 ≤ t; omega, by show (pz Y t u f 3 op S0).2.2.length ≤ (pz Y t u f 3 op S0).2.1 + 1; have := ho17.2; omega⟩
    refine v_sipush C (nI 20002) dX10_compared_13 (by decide) ?_
    refine v_goto C 50 dX10_compared_16 rfl ?_
    refine v_istore_n C [(1, .int (nI 20002)), (0, .ref (gb G + 205))] dX10_compared_50 rfl (by decide) rfl ?_
    refine v_iload_n C 0 dX10_compared_51 rfl ?_
    refine v_if_le C 64 dX10_compared_52 rfl (fun h_52 => absurd h_52 (by decide +kernel)) (fun _ => ?_)
    refine v_aload_n C 1 dX10_compared_55 rfl ?_
    refine n_callVv C hRm [] cw_X10_sum ml_X10_198 (by decide) sh_205 (by decide) rfl ((hB op hop).2.2.2.1 (by omega) X18 (advS (pz Y t u f 3 op S0)) hp30 ho30) (by omega) rfl rfl (Nat.le_of_ble_eq_true rfl) dX10_compared_56 (fun M5 hP_56 => ?_)
    obtain ⟨X31, rfl, hp31, he31⟩ := hP_56
    have hE31 := (hE18).tr he31
    have hm31 := pz_mono Y t u f 3 op (advS (pz Y t u f 3 op S0)) ho30.1
    have ho31 := hm31.ok ho30
    refine v_aload_n C 1 dX10_compared_59 rfl ?_
    refine v_iload_n C 0 dX10_compared_60 rfl ?_
    refine n_callVv C hRm [.int (nI 20002)] cw_X10_codes ml_X10_191 (by decide) sh_205 (by decide) rfl (r_codes l G X31 Y t u op ht hT hu (pz Y t u f 3 op (advS (pz Y t u f 3 op S0))) hp31 ho31 20002 (by have h90 := (hm31).ok1 ho17; have h92 := ho31.1; omega)) (by omega) rfl rfl (Nat.le_of_ble_eq_true rfl) dX10_compared_61 (fun M5 hP_61 => ?_)
    obtain ⟨X32, rfl, hp32, he32⟩ := hP_61
    have hE32 := (hE31).tr he32
    have hz : sgn 2 (hereS Y t (pz Y t u f 3 op S0)) = 20002 := by unfold sgn; show (if _ then _ else _) = _; rw [if_pos h_10]
    have hFF : codS 20002 (pz Y t u f 3 op (advS (pz Y t u f 3 op S0))) = pz Y t u (f + 1) 2 op S0 := by rw [hF0, lpS, hz]; rfl
    exact n_ret C hRt dX10_compared_64 ⟨_, rfl, hFF ▸ hp32, hE32⟩
theorem lp_stop {Y : Nat → Int32} {t lv : Nat} {g : PS → PS} {S : PS} (h : sgn lv (hereS Y t S) = 0) : ∀ k, lpS Y t g lv k S = S
  | 0 => rfl
  | k + 1 => by unfold lpS; rw [if_pos h]
set_option maxHeartbeats 4000000 in
set_option maxRecDepth 100000 in
theorem pr_sum (l : Launch) (G : GC) (Y : Nat → Int32) (t u op : Nat) (ht : t ≤ 60) (hT : Y 4 = nI t) (hu : u < 2) (f : Nat) (hB : PB l G Y t u f) (hop : op ≤ 5) (hr : 6 * (5 - op) + 2 < f + 1) : pcon l G yX10_sum cX10_sum 2 (8 + (f + 1)) Y t u op (pz Y t u (f + 1) 3 op) := by
  intro X0 S0 hp0 ho0
  refine Con.of (by decide +kernel) (Nat.le_of_ble_eq_true rfl) ?_
  intro fr C hRm hRt _
  have hF0 : pz Y t u (f + 1) 3 op S0 = lpS Y t (pz Y t u f 4 op) 3 60 (pz Y t u f 4 op S0) := rfl
  have LP : ∀ (k : Nat) (S Sc : PS) (X : Mm) (i : Nat), i = sgn 3 (hereS Y t S) → (i = 0 → Sc = S) → (i ≠ 0 → Sc = advS S) → okS t S → pRep X op u Sc → okS t Sc → t ≤ S.2.1 + k → exP X0 X → lpS Y t (pz Y t u f 4 op) 3 k S = lpS Y t (pz Y t u f 4 op) 3 60 (pz Y t u f 4 op S0) → Vc fr G NPh (upA X 206 Y) 36 [(1, .int (nI i)), (0, .ref (gb G + 205))] [] := by
    intro k
    induction k with
    | zero =>
      intro S Sc X i hi hs0 hs1 hoS hp ho hk he hF
      by_cases h0 : i = 0
      · skip
        subst h0
        have hSc := hs0 rfl
        subst hSc
        have hFF : Sc = pz Y t u (f + 1) 3 op S0 := by rw [hF0, ← hF]; exact (lp_stop hi.symm _).symm
        refine v_iload_n C 0 dX10_sum_36 rfl ?_
        refine v_if_le C 84 dX10_sum_37 rfl (fun _ => ?_) (fun h_37 => absurd h_37 (by decide +kernel))
        exact n_ret C hRt dX10_sum_84 ⟨_, rfl, hFF ▸ hp, he⟩
      · exact absurd (sgn_lt (fun q => h0 (hi.trans q))).2 (by omega)
    | succ k ih =>
      intro S Sc X i hi hs0 hs1 hoS hp ho hk he hF
      by_cases h0 : i = 0
      · skip
        subst h0
        have hSc := hs0 rfl
        subst hSc
        have hFF : Sc = pz Y t u (f + 1) 3 op S0 := by rw [hF0, ← hF]; exact (lp_stop hi.symm _).symm
        refine v_iload_n C 0 dX10_sum_36 rfl ?_
        refine v_if_le C 84 dX10_sum_37 rfl (fun _ => ?_) (fun h_37 => absurd h_37 (by decide +kernel))
        exact n_ret C hRt dX10_sum_84 ⟨_, rfl, hFF ▸ hp, he⟩
      · have hSc := hs1 h0
        subst hSc
        have hi9 := sgn_rg 3 (hereS Y t S)
        rw [← hi] at hi9
        refine v_iload_n C 0 dX10_sum_36 rfl ?_
        refine v_if_le C 84 dX10_sum_37 rfl (fun h => absurd ((nI_leI (show i < 2 ^ 31 by omega) (show 0 < 2 ^ 31 by decide)).mp h) (by omega)) (fun _ => ?_)
        refine v_aload_n C 1 dX10_sum_40 rfl ?_
        refine n_callVv C hRm [] cw_X10_product ml_X10_201 (by decide) sh_205 (by decide) rfl ((hB op hop).2.2.2.2.1 (by omega) X (advS S) hp ho) (by omega) rfl rfl (Nat.le_of_ble_eq_true rfl) dX10_sum_41 (fun M5 hP_41 => ?_)
        obtain ⟨X33, rfl, hp33, he33⟩ := hP_41
        have hE33 := (he).tr he33
        have hm33 := pz_mono Y t u f 4 op (advS S) ho.1
        have ho33 := hm33.ok ho
        refine v_aload_n C 1 dX10_sum_44 rfl ?_
        refine v_iload_n C 0 dX10_sum_45 rfl ?_
        refine n_callVv C hRm [.int (nI i)] cw_X10_codes ml_X10_191 (by decide) sh_205 (by decide) rfl (r_codes l G X33 Y t u op ht hT hu (pz Y t u f 4 op (advS S)) hp33 ho33 i (by have h90 := (hm33).ok1 hoS; have h92 := ho33.1; omega)) (by omega) rfl rfl (Nat.le_of_ble_eq_true rfl) dX10_sum_46 (fun M5 hP_46 => ?_)
        obtain ⟨X34, rfl, hp34, he34⟩ := hP_46
        have hE34 := (hE33).tr he34
        have hoC : okS t (codS i (pz Y t u f 4 op (advS S))) := ((hm33).cod (v := i)).ok hoS
        refine v_aload_n C 1 dX10_sum_49 rfl ?_
        refine v_bipush C (nI 43) dX10_sum_50 (by decide) ?_
        refine n_callVi C hRm [.int (nI 43)] cw_X10_takes ml_X10_188 (by decide) sh_205 (by decide) rfl (r_takes l G X34 Y t u op ht hT hu (codS i (pz Y t u f 4 op (advS S))) hp34 hoC (nI 43)) (by omega) rfl rfl (Nat.le_of_ble_eq_true rfl) dX10_sum_52 (fun M5 hP_52 => ?_)
        obtain ⟨X35, rfl, hp35, he35⟩ := hP_52
        have hE35 := (hE34).tr he35
        refine nb_if_eq C 64 dX10_sum_55 rfl (fun h_55 => ?_) (fun h_55 => ?_)
        · skip
          have hp36 : pRep X35 op u (codS i (pz Y t u f 4 op (advS S))) := by have h9 := hp35; unfold tkS at h9; rw [if_neg h_55] at h9; exact h9
          refine v_aload_n C 1 dX10_sum_64 rfl ?_
          refine v_bipush C (nI 45) dX10_sum_65 (by decide) ?_
          refine n_callVi C hRm [.int (nI 45)] cw_X10_takes ml_X10_188 (by decide) sh_205 (by decide) rfl (r_takes l G X35 Y t u op ht hT hu (codS i (pz Y t u f 4 op (advS S))) hp36 hoC (nI 45)) (by omega) rfl rfl (Nat.le_of_ble_eq_true rfl) dX10_sum_67 (fun M5 hP_67 => ?_)
          obtain ⟨X37, rfl, hp37, he37⟩ := hP_67
          have hE37 := (hE35).tr he37
          refine nb_if_eq C 79 dX10_sum_70 rfl (fun h_70 => ?_) (fun h_70 => ?_)
          · skip
            have hp38 : pRep X37 op u (codS i (pz Y t u f 4 op (advS S))) := by have h9 := hp37; unfold tkS at h9; rw [if_neg h_70] at h9; exact h9
            refine v_iconst C (nI 0) dX10_sum_79 (by decide) ?_
            refine v_istore_n C [(1, .int (nI 0)), (0, .ref (gb G + 205))] dX10_sum_80 rfl (by decide) rfl ?_
            refine v_goto C 36 dX10_sum_81 rfl ?_
            have hz : 0 = sgn 3 (hereS Y t (codS i (pz Y t u f 4 op (advS S)))) := Eq.symm (by unfold sgn; show (if _ then _ else _) = _; rw [if_neg h_55, if_neg h_70])
            have hmm := (hm33).cod (v := i)
            have h91 : S.2.1 + 1 ≤ (pz Y t u f 4 op (advS S)).2.1 := (hm33).1
            refine v_sub [0, 1] [(1, .int (nI 0)), (0, .ref (gb G + 205))] rfl ?_
            exact ih _ _ _ 0 hz (fun _ => rfl) (fun q => absurd rfl q) (hmm.ok hoS) hp38 hoC (by rw [cod_at]; omega) (hE37) (by rw [← hF]; exact ((show lpS Y t (pz Y t u f 4 op) 3 (k + 1) S = lpS Y t (pz Y t u f 4 op) 3 (k + 1) S from rfl).trans (by rw [lpS, ← hi, if_neg h0])).symm)
          · skip
            have hp39 : pRep X37 op u (advS (codS i (pz Y t u f 4 op (advS S)))) := by have h9 := hp37; unfold tkS at h9; rw [if_pos h_70] at h9; exact h9
            have hl39 := here_k (by decide) h_70
            have ho39 : okS t (advS (codS i (pz Y t u f 4 op (advS S)))) := ⟨by show (codS i (pz Y t u f 4 op (advS S))).2.1 + 1 ≤ t; omega, by show (codS i (pz Y t u f 4 op (advS S))).2.2.length ≤ (codS i (pz Y t u f 4 op (advS S))).2.1 + 1; have := hoC.2; omega⟩
            refine v_sipush C (nI 20006) dX10_sum_73 (by decide) ?_
            refine v_goto C 80 dX10_sum_76 rfl ?_
            refine v_istore_n C [(1, .int (nI 20006)), (0, .ref (gb G + 205))] dX10_sum_80 rfl (by decide) rfl ?_
            refine v_goto C 36 dX10_sum_81 rfl ?_
            have hz : 20006 = sgn 3 (hereS Y t (codS i (pz Y t u f 4 op (advS S)))) := Eq.symm (by unfold sgn; show (if _ then _ else _) = _; rw [if_neg h_55, if_pos h_70])
            have hmm := (hm33).cod (v := i)
            have h91 : S.2.1 + 1 ≤ (pz Y t u f 4 op (advS S)).2.1 := (hm33).1
            refine v_sub [0, 1] [(1, .int (nI 20006)), (0, .ref (gb G + 205))] rfl ?_
            exact ih _ _ _ 20006 hz (fun q => absurd q (by decide)) (fun _ => rfl) (hmm.ok hoS) hp39 ho39 (by rw [cod_at]; omega) (hE37) (by rw [← hF]; exact ((show lpS Y t (pz Y t u f 4 op) 3 (k + 1) S = lpS Y t (pz Y t u f 4 op) 3 (k + 1) S from rfl).trans (by rw [lpS, ← hi, if_neg h0])).symm)
        · skip
          have hp40 : pRep X35 op u (advS (codS i (pz Y t u f 4 op (advS S)))) := by have h9 := hp35; unfold tkS at h9; rw [if_pos h_55] at h9; exact h9
          have hl40 := here_k (by decide) h_55
          have ho40 : okS t (advS (codS i (pz Y t u f 4 op (advS S)))) := ⟨by show (codS i (pz Y t u f 4 op (advS S))).2.1 + 1 ≤ t; omega, by show (codS i (pz Y t u f 4 op (advS S))).2.2.length ≤ (codS i (pz Y t u f 4 op (advS S))).2.1 + 1; have := hoC.2; omega⟩
          refine v_sipush C (nI 20005) dX10_sum_58 (by decide) ?_
          refine v_goto C 80 dX10_sum_61 rfl ?_
          refine v_istore_n C [(1, .int (nI 20005)), (0, .ref (gb G + 205))] dX10_sum_80 rfl (by decide) rfl ?_
          refine v_goto C 36 dX10_sum_81 rfl ?_
          have hz : 20005 = sgn 3 (hereS Y t (codS i (pz Y t u f 4 op (advS S)))) := Eq.symm (by unfold sgn; show (if _ then _ else _) = _; rw [if_pos h_55])
          have hmm := (hm33).cod (v := i)
          have h91 : S.2.1 + 1 ≤ (pz Y t u f 4 op (advS S)).2.1 := (hm33).1
          refine v_sub [0, 1] [(1, .int (nI 20005)), (0, .ref (gb G + 205))] rfl ?_
          exact ih _ _ _ 20005 hz (fun q => absurd q (by decide)) (fun _ => rfl) (hmm.ok hoS) hp40 ho40 (by rw [cod_at]; omega) (hE35) (by rw [← hF]; exact ((show lpS Y t (pz Y t u f 4 op) 3 (k + 1) S = lpS Y t (pz Y t u f 4 op) 3 (k + 1) S from rfl).trans (by rw [lpS, ← hi, if_neg h0])).symm)
  show Vc fr G NPh (upA X0 206 Y) 0 [(0, .ref (gb G + 205))] []
  refine v_aload_n C 0 dX10_sum_0 rfl ?_
  refine n_callVv C hRm [] cw_X10_product ml_X10_201 (by decide) sh_205 (by decide) rfl ((hB op hop).2.2.2.2.1 (by omega) X0 S0 hp0 ho0) (by omega) rfl rfl (Nat.le_of_ble_eq_true rfl) dX10_sum_1 (fun M5 hP_1 => ?_)
  obtain ⟨X41, rfl, hp41, he41⟩ := hP_1
  have hE41 := (exP.rf X0).tr he41
  have hm41 := pz_mono Y t u f 4 op S0 ho0.1
  have ho41 := hm41.ok ho0
  refine v_aload_n C 0 dX10_sum_4 rfl ?_
  refine v_bipush C (nI 43) dX10_sum_5 (by decide) ?_
  refine n_callVi C hRm [.int (nI 43)] cw_X10_takes ml_X10_188 (by decide) sh_205 (by decide) rfl (r_takes l G X41 Y t u op ht hT hu (pz Y t u f 4 op S0) hp41 ho41 (nI 43)) (by omega) rfl rfl (Nat.le_of_ble_eq_true rfl) dX10_sum_7 (fun M5 hP_7 => ?_)
  obtain ⟨X42, rfl, hp42, he42⟩ := hP_7
  have hE42 := (hE41).tr he42
  refine nb_if_eq C 19 dX10_sum_10 rfl (fun h_10 => ?_) (fun h_10 => ?_)
  · skip
    have hp43 : pRep X42 op u (pz Y t u f 4 op S0) := by have h9 := hp42; unfold tkS at h9; rw [if_neg h_10] at h9; exact h9
    refine v_aload_n C 0 dX10_sum_19 rfl ?_
    refine v_bipush C (nI 45) dX10_sum_20 (by decide) ?_
    refine n_callVi C hRm [.int (nI 45)] cw_X10_takes ml_X10_188 (by decide) sh_205 (by decide) rfl (r_takes l G X42 Y t u op ht hT hu (pz Y t u f 4 op S0) hp43 ho41 (nI 45)) (by omega) rfl rfl (Nat.le_of_ble_eq_true rfl) dX10_sum_22 (fun M5 hP_22 => ?_)
    obtain ⟨X44, rfl, hp44, he44⟩ := hP_22
    have hE44 := (hE42).tr he44
    refine nb_if_eq C 34 dX10_sum_25 rfl (fun h_25 => ?_) (fun h_25 => ?_)
    · skip
      have hp45 : pRep X44 op u (pz Y t u f 4 op S0) := by have h9 := hp44; unfold tkS at h9; rw [if_neg h_25] at h9; exact h9
      refine v_iconst C (nI 0) dX10_sum_34 (by decide) ?_
      refine v_istore_n C [(1, .int (nI 0)), (0, .ref (gb G + 205))] dX10_sum_35 rfl (by decide) rfl ?_
      have hz : 0 = sgn 3 (hereS Y t (pz Y t u f 4 op S0)) := Eq.symm (by unfold sgn; show (if _ then _ else _) = _; rw [if_neg h_10, if_neg h_25])
      refine v_sub [0, 1] [(1, .int (nI 0)), (0, .ref (gb G + 205))] rfl ?_
      exact LP 60 _ _ _ 0 hz (fun _ => rfl) (fun q => absurd rfl q) (ho41) hp45 ho41 (by have := ho0.1; omega) (hE44) rfl
    · skip
      have hp46 : pRep X44 op u (advS (pz Y t u f 4 op S0)) := by have h9 := hp44; unfold tkS at h9; rw [if_pos h_25] at h9; exact h9
      have hl46 := here_k (by decide) h_25
      have ho46 : okS t (advS (pz Y t u f 4 op S0)) := ⟨by show (pz Y t u f 4 op S0).2.1 + 1 ≤ t; omega, by show (pz Y t u f 4 op S0).2.2.length ≤ (pz Y t u f 4 op S0).2.1 + 1; have := ho41.2; omega⟩
      refine v_sipush C (nI 20006) dX10_sum_28 (by decide) ?_
      refine v_goto C 35 dX10_sum_31 rfl ?_
      refine v_istore_n C [(1, .int (nI 20006)), (0, .ref (gb G + 205))] dX10_sum_35 rfl (by decide) rfl ?_
      have hz : 20006 = sgn 3 (hereS Y t (pz Y t u f 4 op S0)) := Eq.symm (by unfold sgn; show (if _ then _ else _) = _; rw [if_neg h_10, if_pos h_25])
      refine v_sub [0, 1] [(1, .int (nI 20006)), (0, .ref (gb G + 205))] rfl ?_
      exact LP 60 _ _ _ 20006 hz (fun q => absurd q (by decide)) (fun _ => rfl) (ho41) hp46 ho46 (by have := ho0.1; omega) (hE44) rfl
  · skip
    have hp47 : pRep X42 op u (advS (pz Y t u f 4 op S0)) := by have h9 := hp42; unfold tkS at h9; rw [if_pos h_10] at h9; exact h9
    have hl47 := here_k (by decide) h_10
    have ho47 : okS t (advS (pz Y t u f 4 op S0)) := ⟨by show (pz Y t u f 4 op S0).2.1 + 1 ≤ t; omega, by show (pz Y t u f 4 op S0).2.2.length ≤ (pz Y t u f 4 op S0).2.1 + 1; have := ho41.2; omega⟩
    refine v_sipush C (nI 20005) dX10_sum_13 (by decide) ?_
    refine v_goto C 35 dX10_sum_16 rfl ?_
    refine v_istore_n C [(1, .int (nI 20005)), (0, .ref (gb G + 205))] dX10_sum_35 rfl (by decide) rfl ?_
    have hz : 20005 = sgn 3 (hereS Y t (pz Y t u f 4 op S0)) := Eq.symm (by unfold sgn; show (if _ then _ else _) = _; rw [if_pos h_10])
    refine v_sub [0, 1] [(1, .int (nI 20005)), (0, .ref (gb G + 205))] rfl ?_
    exact LP 60 _ _ _ 20005 hz (fun q => absurd q (by decide)) (fun _ => rfl) (ho41) hp47 ho47 (by have := ho0.1; omega) (hE42) rfl
set_option maxHeartbeats 4000000 in
set_option maxRecDepth 100000 in
theorem pr_product (l : Launch) (G : GC) (Y : Nat → Int32) (t u op : Nat) (ht : t ≤ 60) (hT : Y 4 = nI t) (hu : u < 2) (f : Nat) (hB : PB l G Y t u f) (hop : op ≤ 5) (hr : 6 * (5 - op) + 1 < f + 1) : pcon l G yX10_product cX10_product 2 (8 + (f + 1)) Y t u op (pz Y t u (f + 1) 4 op) := by
  intro X0 S0 hp0 ho0
  refine Con.of (by decide +kernel) (Nat.le_of_ble_eq_true rfl) ?_
  intro fr C hRm hRt _
  have hF0 : pz Y t u (f + 1) 4 op S0 = lpS Y t (pz Y t u f 5 op) 4 60 (pz Y t u f 5 op S0) := rfl
  have LP : ∀ (k : Nat) (S Sc : PS) (X : Mm) (i : Nat), i = sgn 4 (hereS Y t S) → (i = 0 → Sc = S) → (i ≠ 0 → Sc = advS S) → okS t S → pRep X op u Sc → okS t Sc → t ≤ S.2.1 + k → exP X0 X → lpS Y t (pz Y t u f 5 op) 4 k S = lpS Y t (pz Y t u f 5 op) 4 60 (pz Y t u f 5 op S0) → Vc fr G NPh (upA X 206 Y) 51 [(1, .int (nI i)), (0, .ref (gb G + 205))] [] := by
    intro k
    induction k with
    | zero =>
      intro S Sc X i hi hs0 hs1 hoS hp ho hk he hF
      by_cases h0 : i = 0
      · skip
        subst h0
        have hSc := hs0 rfl
        subst hSc
        have hFF : Sc = pz Y t u (f + 1) 4 op S0 := by rw [hF0, ← hF]; exact (lp_stop hi.symm _).symm
        refine v_iload_n C 0 dX10_product_51 rfl ?_
        refine v_if_le C 114 dX10_product_52 rfl (fun _ => ?_) (fun h_52 => absurd h_52 (by decide +kernel))
        exact n_ret C hRt dX10_product_114 ⟨_, rfl, hFF ▸ hp, he⟩
      · exact absurd (sgn_lt (fun q => h0 (hi.trans q))).2 (by omega)
    | succ k ih =>
      intro S Sc X i hi hs0 hs1 hoS hp ho hk he hF
      by_cases h0 : i = 0
      · skip
        subst h0
        have hSc := hs0 rfl
        subst hSc
        have hFF : Sc = pz Y t u (f + 1) 4 op S0 := by rw [hF0, ← hF]; exact (lp_stop hi.symm _).symm
        refine v_iload_n C 0 dX10_product_51 rfl ?_
        refine v_if_le C 114 dX10_product_52 rfl (fun _ => ?_) (fun h_52 => absurd h_52 (by decide +kernel))
        exact n_ret C hRt dX10_product_114 ⟨_, rfl, hFF ▸ hp, he⟩
      · have hSc := hs1 h0
        subst hSc
        have hi9 := sgn_rg 4 (hereS Y t S)
        rw [← hi] at hi9
        refine v_iload_n C 0 dX10_product_51 rfl ?_
        refine v_if_le C 114 dX10_product_52 rfl (fun h => absurd ((nI_leI (show i < 2 ^ 31 by omega) (show 0 < 2 ^ 31 by decide)).mp h) (by omega)) (fun _ => ?_)
        refine v_aload_n C 1 dX10_product_55 rfl ?_
        refine n_callVv C hRm [] cw_X10_one ml_X10_204 (by decide) sh_205 (by decide) rfl ((hB op hop).2.2.2.2.2 (by omega) X (advS S) hp ho) (by omega) rfl rfl (Nat.le_of_ble_eq_true rfl) dX10_product_56 (fun M5 hP_56 => ?_)
        obtain ⟨X48, rfl, hp48, he48⟩ := hP_56
        have hE48 := (he).tr he48
        have hm48 := pz_mono Y t u f 5 op (advS S) ho.1
        have ho48 := hm48.ok ho
        refine v_aload_n C 1 dX10_product_59 rfl ?_
        refine v_iload_n C 0 dX10_product_60 rfl ?_
        refine n_callVv C hRm [.int (nI i)] cw_X10_codes ml_X10_191 (by decide) sh_205 (by decide) rfl (r_codes l G X48 Y t u op ht hT hu (pz Y t u f 5 op (advS S)) hp48 ho48 i (by have h90 := (hm48).ok1 hoS; have h92 := ho48.1; omega)) (by omega) rfl rfl (Nat.le_of_ble_eq_true rfl) dX10_product_61 (fun M5 hP_61 => ?_)
        obtain ⟨X49, rfl, hp49, he49⟩ := hP_61
        have hE49 := (hE48).tr he49
        have hoC : okS t (codS i (pz Y t u f 5 op (advS S))) := ((hm48).cod (v := i)).ok hoS
        refine v_aload_n C 1 dX10_product_64 rfl ?_
        refine v_bipush C (nI 42) dX10_product_65 (by decide) ?_
        refine n_callVi C hRm [.int (nI 42)] cw_X10_takes ml_X10_188 (by decide) sh_205 (by decide) rfl (r_takes l G X49 Y t u op ht hT hu (codS i (pz Y t u f 5 op (advS S))) hp49 hoC (nI 42)) (by omega) rfl rfl (Nat.le_of_ble_eq_true rfl) dX10_product_67 (fun M5 hP_67 => ?_)
        obtain ⟨X50, rfl, hp50, he50⟩ := hP_67
        have hE50 := (hE49).tr he50
        refine nb_if_eq C 79 dX10_product_70 rfl (fun h_70 => ?_) (fun h_70 => ?_)
        · skip
          have hp51 : pRep X50 op u (codS i (pz Y t u f 5 op (advS S))) := by have h9 := hp50; unfold tkS at h9; rw [if_neg h_70] at h9; exact h9
          refine v_aload_n C 1 dX10_product_79 rfl ?_
          refine v_bipush C (nI 47) dX10_product_80 (by decide) ?_
          refine n_callVi C hRm [.int (nI 47)] cw_X10_takes ml_X10_188 (by decide) sh_205 (by decide) rfl (r_takes l G X50 Y t u op ht hT hu (codS i (pz Y t u f 5 op (advS S))) hp51 hoC (nI 47)) (by omega) rfl rfl (Nat.le_of_ble_eq_true rfl) dX10_product_82 (fun M5 hP_82 => ?_)
          obtain ⟨X52, rfl, hp52, he52⟩ := hP_82
          have hE52 := (hE50).tr he52
          refine nb_if_eq C 94 dX10_product_85 rfl (fun h_85 => ?_) (fun h_85 => ?_)
          · skip
            have hp53 : pRep X52 op u (codS i (pz Y t u f 5 op (advS S))) := by have h9 := hp52; unfold tkS at h9; rw [if_neg h_85] at h9; exact h9
            refine v_aload_n C 1 dX10_product_94 rfl ?_
            refine v_bipush C (nI 37) dX10_product_95 (by decide) ?_
            refine n_callVi C hRm [.int (nI 37)] cw_X10_takes ml_X10_188 (by decide) sh_205 (by decide) rfl (r_takes l G X52 Y t u op ht hT hu (codS i (pz Y t u f 5 op (advS S))) hp53 hoC (nI 37)) (by omega) rfl rfl (Nat.le_of_ble_eq_true rfl) dX10_product_97 (fun M5 hP_97 => ?_)
            obtain ⟨X54, rfl, hp54, he54⟩ := hP_97
            have hE54 := (hE52).tr he54
            refine nb_if_eq C 109 dX10_product_100 rfl (fun h_100 => ?_) (fun h_100 => ?_)
            · skip
              have hp55 : pRep X54 op u (codS i (pz Y t u f 5 op (advS S))) := by have h9 := hp54; unfold tkS at h9; rw [if_neg h_100] at h9; exact h9
              refine v_iconst C (nI 0) dX10_product_109 (by decide) ?_
              refine v_istore_n C [(1, .int (nI 0)), (0, .ref (gb G + 205))] dX10_product_110 rfl (by decide) rfl ?_
              refine v_goto C 51 dX10_product_111 rfl ?_
              have hz : 0 = sgn 4 (hereS Y t (codS i (pz Y t u f 5 op (advS S)))) := Eq.symm (by unfold sgn; show (if _ then _ else _) = _; rw [if_neg h_70, if_neg h_85, if_neg h_100])
              have hmm := (hm48).cod (v := i)
              have h91 : S.2.1 + 1 ≤ (pz Y t u f 5 op (advS S)).2.1 := (hm48).1
              refine v_sub [0, 1] [(1, .int (nI 0)), (0, .ref (gb G + 205))] rfl ?_
              exact ih _ _ _ 0 hz (fun _ => rfl) (fun q => absurd rfl q) (hmm.ok hoS) hp55 hoC (by rw [cod_at]; omega) (hE54) (by rw [← hF]; exact ((show lpS Y t (pz Y t u f 5 op) 4 (k + 1) S = lpS Y t (pz Y t u f 5 op) 4 (k + 1) S from rfl).trans (by rw [lpS, ← hi, if_neg h0])).symm)
            · skip
              have hp56 : pRep X54 op u (advS (codS i (pz Y t u f 5 op (advS S)))) := by have h9 := hp54; unfold tkS at h9; rw [if_pos h_100] at h9; exact h9
              have hl56 := here_k (by decide) h_100
              have ho56 : okS t (advS (codS i (pz Y t u f 5 op (advS S)))) := ⟨by show (codS i (pz Y t u f 5 op (advS S))).2.1 + 1 ≤ t; omega, by show (codS i (pz Y t u f 5 op (advS S))).2.2.length ≤ (codS i (pz Y t u f 5 op (advS S))).2.1 + 1; have := hoC.2; omega⟩
              refine v_sipush C (nI 20009) dX10_product_103 (by decide) ?_
              refine v_goto C 110 dX10_product_106 rfl ?_
              refine v_istore_n C [(1, .int (nI 20009)), (0, .ref (gb G + 205))] dX10_product_110 rfl (by decide) rfl ?_
              refine v_goto C 51 dX10_product_111 rfl ?_
              have hz : 20009 = sgn 4 (hereS Y t (codS i (pz Y t u f 5 op (advS S)))) := Eq.symm (by unfold sgn; show (if _ then _ else _) = _; rw [if_neg h_70, if_neg h_85, if_pos h_100])
              have hmm := (hm48).cod (v := i)
              have h91 : S.2.1 + 1 ≤ (pz Y t u f 5 op (advS S)).2.1 := (hm48).1
              refine v_sub [0, 1] [(1, .int (nI 20009)), (0, .ref (gb G + 205))] rfl ?_
              exact ih _ _ _ 20009 hz (fun q => absurd q (by decide)) (fun _ => rfl) (hmm.ok hoS) hp56 ho56 (by rw [cod_at]; omega) (hE54) (by rw [← hF]; exact ((show lpS Y t (pz Y t u f 5 op) 4 (k + 1) S = lpS Y t (pz Y t u f 5 op) 4 (k + 1) S from rfl).trans (by rw [lpS, ← hi, if_neg h0])).symm)
          · skip
            have hp57 : pRep X52 op u (advS (codS i (pz Y t u f 5 op (advS S)))) := by have h9 := hp52; unfold tkS at h9; rw [if_pos h_85] at h9; exact h9
            have hl57 := here_k (by decide) h_85
            have ho57 : okS t (advS (codS i (pz Y t u f 5 op (advS S)))) := ⟨by show (codS i (pz Y t u f 5 op (advS S))).2.1 + 1 ≤ t; omega, by show (codS i (pz Y t u f 5 op (advS S))).2.2.length ≤ (codS i (pz Y t u f 5 op (advS S))).2.1 + 1; have := hoC.2; omega⟩
            refine v_sipush C (nI 20008) dX10_product_88 (by decide) ?_
            refine v_goto C 110 dX10_product_91 rfl ?_
            refine v_istore_n C [(1, .int (nI 20008)), (0, .ref (gb G + 205))] dX10_product_110 rfl (by decide) rfl ?_
            refine v_goto C 51 dX10_product_111 rfl ?_
            have hz : 20008 = sgn 4 (hereS Y t (codS i (pz Y t u f 5 op (advS S)))) := Eq.symm (by unfold sgn; show (if _ then _ else _) = _; rw [if_neg h_70, if_pos h_85])
            have hmm := (hm48).cod (v := i)
            have h91 : S.2.1 + 1 ≤ (pz Y t u f 5 op (advS S)).2.1 := (hm48).1
            refine v_sub [0, 1] [(1, .int (nI 20008)), (0, .ref (gb G + 205))] rfl ?_
            exact ih _ _ _ 20008 hz (fun q => absurd q (by decide)) (fun _ => rfl) (hmm.ok hoS) hp57 ho57 (by rw [cod_at]; omega) (hE52) (by rw [← hF]; exact ((show lpS Y t (pz Y t u f 5 op) 4 (k + 1) S = lpS Y t (pz Y t u f 5 op) 4 (k + 1) S from rfl).trans (by rw [lpS, ← hi, if_neg h0])).symm)
        · skip
          have hp58 : pRep X50 op u (advS (codS i (pz Y t u f 5 op (advS S)))) := by have h9 := hp50; unfold tkS at h9; rw [if_pos h_70] at h9; exact h9
          have hl58 := here_k (by decide) h_70
          have ho58 : okS t (advS (codS i (pz Y t u f 5 op (advS S)))) := ⟨by show (codS i (pz Y t u f 5 op (advS S))).2.1 + 1 ≤ t; omega, by show (codS i (pz Y t u f 5 op (advS S))).2.2.length ≤ (codS i (pz Y t u f 5 op (advS S))).2.1 + 1; have := hoC.2; omega⟩
          refine v_sipush C (nI 20007) dX10_product_73 (by decide) ?_
          refine v_goto C 110 dX10_product_76 rfl ?_
          refine v_istore_n C [(1, .int (nI 20007)), (0, .ref (gb G + 205))] dX10_product_110 rfl (by decide) rfl ?_
          refine v_goto C 51 dX10_product_111 rfl ?_
          have hz : 20007 = sgn 4 (hereS Y t (codS i (pz Y t u f 5 op (advS S)))) := Eq.symm (by unfold sgn; show (if _ then _ else _) = _; rw [if_pos h_70])
          have hmm := (hm48).cod (v := i)
          have h91 : S.2.1 + 1 ≤ (pz Y t u f 5 op (advS S)).2.1 := (hm48).1
          refine v_sub [0, 1] [(1, .int (nI 20007)), (0, .ref (gb G + 205))] rfl ?_
          exact ih _ _ _ 20007 hz (fun q => absurd q (by decide)) (fun _ => rfl) (hmm.ok hoS) hp58 ho58 (by rw [cod_at]; omega) (hE50) (by rw [← hF]; exact ((show lpS Y t (pz Y t u f 5 op) 4 (k + 1) S = lpS Y t (pz Y t u f 5 op) 4 (k + 1) S from rfl).trans (by rw [lpS, ← hi, if_neg h0])).symm)
  show Vc fr G NPh (upA X0 206 Y) 0 [(0, .ref (gb G + 205))] []
  refine v_aload_n C 0 dX10_product_0 rfl ?_
  refine n_callVv C hRm [] cw_X10_one ml_X10_204 (by decide) sh_205 (by decide) rfl ((hB op hop).2.2.2.2.2 (by omega) X0 S0 hp0 ho0) (by omega) rfl rfl (Nat.le_of_ble_eq_true rfl) dX10_product_1 (fun M5 hP_1 => ?_)
  obtain ⟨X59, rfl, hp59, he59⟩ := hP_1
  have hE59 := (exP.rf X0).tr he59
  have hm59 := pz_mono Y t u f 5 op S0 ho0.1
  have ho59 := hm59.ok ho0
  refine v_aload_n C 0 dX10_product_4 rfl ?_
  refine v_bipush C (nI 42) dX10_product_5 (by decide) ?_
  refine n_callVi C hRm [.int (nI 42)] cw_X10_takes ml_X10_188 (by decide) sh_205 (by decide) rfl (r_takes l G X59 Y t u op ht hT hu (pz Y t u f 5 op S0) hp59 ho59 (nI 42)) (by omega) rfl rfl (Nat.le_of_ble_eq_true rfl) dX10_product_7 (fun M5 hP_7 => ?_)
  obtain ⟨X60, rfl, hp60, he60⟩ := hP_7
  have hE60 := (hE59).tr he60
  refine nb_if_eq C 19 dX10_product_10 rfl (fun h_10 => ?_) (fun h_10 => ?_)
  · skip
    have hp61 : pRep X60 op u (pz Y t u f 5 op S0) := by have h9 := hp60; unfold tkS at h9; rw [if_neg h_10] at h9; exact h9
    refine v_aload_n C 0 dX10_product_19 rfl ?_
    refine v_bipush C (nI 47) dX10_product_20 (by decide) ?_
    refine n_callVi C hRm [.int (nI 47)] cw_X10_takes ml_X10_188 (by decide) sh_205 (by decide) rfl (r_takes l G X60 Y t u op ht hT hu (pz Y t u f 5 op S0) hp61 ho59 (nI 47)) (by omega) rfl rfl (Nat.le_of_ble_eq_true rfl) dX10_product_22 (fun M5 hP_22 => ?_)
    obtain ⟨X62, rfl, hp62, he62⟩ := hP_22
    have hE62 := (hE60).tr he62
    refine nb_if_eq C 34 dX10_product_25 rfl (fun h_25 => ?_) (fun h_25 => ?_)
    · skip
      have hp63 : pRep X62 op u (pz Y t u f 5 op S0) := by have h9 := hp62; unfold tkS at h9; rw [if_neg h_25] at h9; exact h9
      refine v_aload_n C 0 dX10_product_34 rfl ?_
      refine v_bipush C (nI 37) dX10_product_35 (by decide) ?_
      refine n_callVi C hRm [.int (nI 37)] cw_X10_takes ml_X10_188 (by decide) sh_205 (by decide) rfl (r_takes l G X62 Y t u op ht hT hu (pz Y t u f 5 op S0) hp63 ho59 (nI 37)) (by omega) rfl rfl (Nat.le_of_ble_eq_true rfl) dX10_product_37 (fun M5 hP_37 => ?_)
      obtain ⟨X64, rfl, hp64, he64⟩ := hP_37
      have hE64 := (hE62).tr he64
      refine nb_if_eq C 49 dX10_product_40 rfl (fun h_40 => ?_) (fun h_40 => ?_)
      · skip
        have hp65 : pRep X64 op u (pz Y t u f 5 op S0) := by have h9 := hp64; unfold tkS at h9; rw [if_neg h_40] at h9; exact h9
        refine v_iconst C (nI 0) dX10_product_49 (by decide) ?_
        refine v_istore_n C [(1, .int (nI 0)), (0, .ref (gb G + 205))] dX10_product_50 rfl (by decide) rfl ?_
        have hz : 0 = sgn 4 (hereS Y t (pz Y t u f 5 op S0)) := Eq.symm (by unfold sgn; show (if _ then _ else _) = _; rw [if_neg h_10, if_neg h_25, if_neg h_40])
        refine v_sub [0, 1] [(1, .int (nI 0)), (0, .ref (gb G + 205))] rfl ?_
        exact LP 60 _ _ _ 0 hz (fun _ => rfl) (fun q => absurd rfl q) (ho59) hp65 ho59 (by have := ho0.1; omega) (hE64) rfl
      · skip
        have hp66 : pRep X64 op u (advS (pz Y t u f 5 op S0)) := by have h9 := hp64; unfold tkS at h9; rw [if_pos h_40] at h9; exact h9
        have hl66 := here_k (by decide) h_40
        have ho66 : okS t (advS (pz Y t u f 5 op S0)) := ⟨by show (pz Y t u f 5 op S0).2.1 + 1 ≤ t; omega, by show (pz Y t u f 5 op S0).2.2.length ≤ (pz Y t u f 5 op S0).2.1 + 1; have := ho59.2; omega⟩
        refine v_sipush C (nI 20009) dX10_product_43 (by decide) ?_
        refine v_goto C 50 dX10_product_46 rfl ?_
        refine v_istore_n C [(1, .int (nI 20009)), (0, .ref (gb G + 205))] dX10_product_50 rfl (by decide) rfl ?_
        have hz : 20009 = sgn 4 (hereS Y t (pz Y t u f 5 op S0)) := Eq.symm (by unfold sgn; show (if _ then _ else _) = _; rw [if_neg h_10, if_neg h_25, if_pos h_40])
        refine v_sub [0, 1] [(1, .int (nI 20009)), (0, .ref (gb G + 205))] rfl ?_
        exact LP 60 _ _ _ 20009 hz (fun q => absurd q (by decide)) (fun _ => rfl) (ho59) hp66 ho66 (by have := ho0.1; omega) (hE64) rfl
    · skip
      have hp67 : pRep X62 op u (advS (pz Y t u f 5 op S0)) := by have h9 := hp62; unfold tkS at h9; rw [if_pos h_25] at h9; exact h9
      have hl67 := here_k (by decide) h_25
      have ho67 : okS t (advS (pz Y t u f 5 op S0)) := ⟨by show (pz Y t u f 5 op S0).2.1 + 1 ≤ t; omega, by show (pz Y t u f 5 op S0).2.2.length ≤ (pz Y t u f 5 op S0).2.1 + 1; have := ho59.2; omega⟩
      refine v_sipush C (nI 20008) dX10_product_28 (by decide) ?_
      refine v_goto C 50 dX10_product_31 rfl ?_
      refine v_istore_n C [(1, .int (nI 20008)), (0, .ref (gb G + 205))] dX10_product_50 rfl (by decide) rfl ?_
      have hz : 20008 = sgn 4 (hereS Y t (pz Y t u f 5 op S0)) := Eq.symm (by unfold sgn; show (if _ then _ else _) = _; rw [if_neg h_10, if_pos h_25])
      refine v_sub [0, 1] [(1, .int (nI 20008)), (0, .ref (gb G + 205))] rfl ?_
      exact LP 60 _ _ _ 20008 hz (fun q => absurd q (by decide)) (fun _ => rfl) (ho59) hp67 ho67 (by have := ho0.1; omega) (hE62) rfl
  · skip
    have hp68 : pRep X60 op u (advS (pz Y t u f 5 op S0)) := by have h9 := hp60; unfold tkS at h9; rw [if_pos h_10] at h9; exact h9
    have hl68 := here_k (by decide) h_10
    have ho68 : okS t (advS (pz Y t u f 5 op S0)) := ⟨by show (pz Y t u f 5 op S0).2.1 + 1 ≤ t; omega, by show (pz Y t u f 5 op S0).2.2.length ≤ (pz Y t u f 5 op S0).2.1 + 1; have := ho59.2; omega⟩
    refine v_sipush C (nI 20007) dX10_product_13 (by decide) ?_
    refine v_goto C 50 dX10_product_16 rfl ?_
    refine v_istore_n C [(1, .int (nI 20007)), (0, .ref (gb G + 205))] dX10_product_50 rfl (by decide) rfl ?_
    have hz : 20007 = sgn 4 (hereS Y t (pz Y t u f 5 op S0)) := Eq.symm (by unfold sgn; show (if _ then _ else _) = _; rw [if_pos h_10])
    refine v_sub [0, 1] [(1, .int (nI 20007)), (0, .ref (gb G + 205))] rfl ?_
    exact LP 60 _ _ _ 20007 hz (fun q => absurd q (by decide)) (fun _ => rfl) (ho59) hp68 ho68 (by have := ho0.1; omega) (hE60) rfl
theorem nm_get {u : Nat} (hu : u < 2) {c : Int32} (h : ¬ nmS u c < 0) : ∃ j, j < 5 ∧ nmS u c = nI j := by
  rcases nm_rg u c (lenS (1 + u)) with h1 | ⟨j, h1, h2⟩
  · exact absurd (by unfold nmS; rw [h1]; decide) h
  · exact ⟨j, Nat.lt_of_lt_of_le h1 (lenS_le _ (by omega)), h2⟩
set_option maxHeartbeats 4000000 in
set_option maxRecDepth 100000 in
theorem pr_one (l : Launch) (G : GC) (Y : Nat → Int32) (t u op : Nat) (ht : t ≤ 60) (hT : Y 4 = nI t) (hu : u < 2) (f : Nat) (hB : PB l G Y t u f) (hop : op ≤ 5) (hr : 6 * (5 - op) < f + 1) : pcon l G yX10_one cX10_one 4 (8 + (f + 1)) Y t u op (pz Y t u (f + 1) 5 op) := by
  intro X S hp ho
  refine Con.of (by decide +kernel) (Nat.le_of_ble_eq_true rfl) ?_
  intro fr C hRm hRt _
  have h1 := ho.1
  have h2 := ho.2
  have hF0 : pz Y t u (f + 1) 5 op S = oneS Y t u (pz Y t u f 5 (op + 1)) (pz Y t u f 0 (op + 1)) op S := rfl
  show Vc fr G NPh (upA X 206 Y) 0 [(0, .ref (gb G + 205))] []
  refine v_aload_n C 0 dX10_one_0 rfl ?_
  refine n_callVp C hRm [] cw_X10_here ml_X10_178 (by decide) sh_205 (by decide) rfl (r_here l G X Y t u op ht hT hu S hp ho) (by omega) rfl rfl (Nat.le_of_ble_eq_true rfl) dX10_one_1 ?_
  refine v_istore_n C [(1, .int (hereS Y t S)), (0, .ref (gb G + 205))] dX10_one_4 rfl (by decide) rfl ?_
  refine v_iload_n C 0 dX10_one_5 rfl ?_
  refine v_bipush C (nI 33) dX10_one_6 (by decide) ?_
  refine v_icmp_eq C 17 dX10_one_8 rfl (fun h_8 => ?_) (fun h_8 => ?_)
  · skip
    refine v_aload_n C 1 dX10_one_17 rfl ?_
    refine v_aload_n C 1 dX10_one_18 rfl ?_
    refine g_X10_217 C (by decide) sh_205 dX10_one_19 ?_
    refine v_top (X 205 7) (congrFun (upA_ne X Y (by decide)) 7) ?_
    refine v_top (nI (op)) (hp.1.2.1) ?_
    refine v_iconst C (nI 5) dX10_one_22 (by decide) ?_
    refine n_icmp_ne C (by omega) (by omega) 30 dX10_one_23 rfl (fun h_23 => ?_) (fun h_23 => ?_)
    · skip
      refine v_iconst C (nI 0) dX10_one_30 (by decide) ?_
      refine p_X10_170 C (by decide) sh_205 (by decide) dX10_one_31 ?_
      refine v_mem (upA (up2 X 205 9 (nI 0)) 206 Y) (up2_upA_ne _ _ _ _ (by decide)) ?_
      refine v_aload_n C 1 dX10_one_34 rfl ?_
      refine g_X10_170 C (by decide) sh_205 dX10_one_35 ?_
      refine v_top ((up2 X 205 9 (nI 0)) 205 9) (congrFun (upA_ne (up2 X 205 9 (nI 0)) Y (by decide)) 9) ?_
      refine v_top (nI 0) (up2_at _ _ _ _) ?_
      refine n_if_ne C (by omega) 247 dX10_one_38 rfl (fun h_38 => absurd h_38 (by decide)) (fun _ => ?_)
      have hlt := here_k (by decide) h_8
      have hpW : pRep (up2 X 205 9 (nI 0)) op u S := by have h9 := hp.wr true; rw [show (true, S.2) = S by rw [← hlt.1]] at h9; exact h9
      refine v_aload_n C 1 dX10_one_41 rfl ?_
      refine v_dup C dX10_one_42 rfl ?_
      refine g_X10_217 C (by decide) sh_205 dX10_one_43 ?_
      refine v_top ((up2 X 205 9 (nI 0)) 205 7) (congrFun (upA_ne (up2 X 205 9 (nI 0)) Y (by decide)) 7) ?_
      refine v_top (nI (op)) (hpW.1.2.1) ?_
      refine v_iconst C (nI 1) dX10_one_46 (by decide) ?_
      refine n_iadd C dX10_one_47 ?_
      refine p_X10_217 C (by decide) sh_205 dX10_one_48 ?_
      refine v_mem (upA (up2 (up2 X 205 9 (nI 0)) 205 7 (nI (op + 1))) 206 Y) (up2_upA_ne _ _ _ _ (by decide)) ?_
      refine v_aload_n C 1 dX10_one_51 rfl ?_
      refine v_dup C dX10_one_52 rfl ?_
      refine g_X10_174 C (by decide) sh_205 dX10_one_53 ?_
      refine v_top ((up2 (up2 X 205 9 (nI 0)) 205 7 (nI (op + 1))) 205 6) (congrFun (upA_ne (up2 (up2 X 205 9 (nI 0)) 205 7 (nI (op + 1))) Y (by decide)) 6) ?_
      refine v_top (nI (S.2.1)) ((hpW.op (op + 1)).1.1) ?_
      refine v_iconst C (nI 1) dX10_one_56 (by decide) ?_
      refine n_iadd C dX10_one_57 ?_
      refine p_X10_174 C (by decide) sh_205 dX10_one_58 ?_
      refine v_mem (upA (up2 (up2 (up2 X 205 9 (nI 0)) 205 7 (nI (op + 1))) 205 6 (nI (S.2.1 + 1))) 206 Y) (up2_upA_ne _ _ _ _ (by decide)) ?_
      have hpA : pRep (up2 (up2 (up2 X 205 9 (nI 0)) 205 7 (nI (op + 1))) 205 6 (nI (S.2.1 + 1))) (op + 1) u (advS S) := (hpW.op (op + 1)).at (S.2.1 + 1)
      have hoA : okS t (advS S) := ⟨by show S.2.1 + 1 ≤ t; omega, by show S.2.2.length ≤ S.2.1 + 1; omega⟩
      refine v_iload_n C 0 dX10_one_61 rfl ?_
      refine v_bipush C (nI 33) dX10_one_62 (by decide) ?_
      refine v_icmp_ne C 81 dX10_one_64 rfl (fun h_64 => ?_) (fun h_64 => ?_)
      · skip
        exact absurd h_8 h_64
      · skip
        refine v_aload_n C 1 dX10_one_67 rfl ?_
        refine n_callVv C hRm [] cw_X10_one ml_X10_204 (by decide) sh_205 (by decide) rfl ((hB (op + 1) (by omega)).2.2.2.2.2 (by omega) (up2 (up2 (up2 X 205 9 (nI 0)) 205 7 (nI (op + 1))) 205 6 (nI (S.2.1 + 1))) (advS S) hpA hoA) (by omega) rfl rfl (Nat.le_of_ble_eq_true rfl) dX10_one_68 (fun M5 hP_68 => ?_)
        obtain ⟨X69, rfl, hp69, he69⟩ := hP_68
        have hE69 := ((((exP.s X 9 _ (by decide)).tr (exP.s _ 7 _ (by decide))).tr (exP.s _ 6 _ (by decide)))).tr he69
        have hm69 := pz_mono Y t u f 5 (op + 1) (advS S) hoA.1
        have ho69 := hm69.ok hoA
        refine v_aload_n C 1 dX10_one_71 rfl ?_
        refine v_sipush C (nI 20010) dX10_one_72 (by decide) ?_
        refine n_callVv C hRm [.int (nI 20010)] cw_X10_codes ml_X10_191 (by decide) sh_205 (by decide) rfl (r_codes l G X69 Y t u (op + 1) ht hT hu (pz Y t u f 5 (op + 1) (advS S)) hp69 ho69 20010 (by have h90 := (hm69).ok1 ho; have h92 := ho69.1; omega)) (by omega) rfl rfl (Nat.le_of_ble_eq_true rfl) dX10_one_75 (fun M5 hP_75 => ?_)
        obtain ⟨X70, rfl, hp70, he70⟩ := hP_75
        have hE70 := (hE69).tr he70
        refine v_goto C 103 dX10_one_78 rfl ?_
        refine v_aload_n C 1 dX10_one_103 rfl ?_
        refine v_dup C dX10_one_104 rfl ?_
        refine g_X10_217 C (by decide) sh_205 dX10_one_105 ?_
        refine v_top (X70 205 7) (congrFun (upA_ne X70 Y (by decide)) 7) ?_
        refine v_top (nI (op + 1)) (hp70.1.2.1) ?_
        refine v_iconst C (nI 1) dX10_one_108 (by decide) ?_
        refine n_isub C (by omega) dX10_one_109 ?_
        refine p_X10_217 C (by decide) sh_205 dX10_one_110 ?_
        refine v_mem (upA (up2 X70 205 7 (nI ((op + 1) - 1))) 206 Y) (up2_upA_ne _ _ _ _ (by decide)) ?_
        refine v_goto C 247 dX10_one_113 rfl ?_
        have hFF : codS 20010 (pz Y t u f 5 (op + 1) (advS S)) = pz Y t u (f + 1) 5 op S := by rw [hF0]; unfold oneS; rw [if_pos (Or.inl h_8), if_neg h_23, if_pos h_8]
        exact n_ret C hRt dX10_one_247 ⟨_, rfl, hFF ▸ hp70.op (op + 1 - 1), (hE70.tr (exP.s _ 7 _ (by decide)))⟩
    · skip
      refine v_iconst C (nI 1) dX10_one_26 (by decide) ?_
      refine v_goto C 31 dX10_one_27 rfl ?_
      refine p_X10_170 C (by decide) sh_205 (by decide) dX10_one_31 ?_
      refine v_mem (upA (up2 X 205 9 (nI 1)) 206 Y) (up2_upA_ne _ _ _ _ (by decide)) ?_
      refine v_aload_n C 1 dX10_one_34 rfl ?_
      refine g_X10_170 C (by decide) sh_205 dX10_one_35 ?_
      refine v_top ((up2 X 205 9 (nI 1)) 205 9) (congrFun (upA_ne (up2 X 205 9 (nI 1)) Y (by decide)) 9) ?_
      refine v_top (nI 1) (up2_at _ _ _ _) ?_
      refine n_if_ne C (by omega) 247 dX10_one_38 rfl (fun _ => ?_) (fun h_38 => absurd h_38 (by decide))
      have hFF : (false, S.2) = pz Y t u (f + 1) 5 op S := by rw [hF0]; unfold oneS; rw [if_pos (Or.inl h_8), if_pos h_23]
      exact n_ret C hRt dX10_one_247 ⟨_, rfl, hFF ▸ hp.wr false, exP.s X 9 _ (by decide)⟩
  · skip
    refine v_iload_n C 0 dX10_one_11 rfl ?_
    refine v_bipush C (nI 40) dX10_one_12 (by decide) ?_
    refine v_icmp_ne C 116 dX10_one_14 rfl (fun h_14 => ?_) (fun h_14 => ?_)
    · skip
      refine v_iload_n C 0 dX10_one_116 rfl ?_
      refine v_bipush C (nI 48) dX10_one_117 (by decide) ?_
      refine v_bipush C (nI 57) dX10_one_119 (by decide) ?_
      refine n_callSp C hRm [.int (hereS Y t S), .int (nI 48), .int (nI 57)] cw_X10_within st_X10_within ml_X10_72 (r_within l G (upA X 206 Y) (hereS Y t S) (nI 48) (nI 57)) (by omega) rfl rfl (Nat.le_of_ble_eq_true rfl) dX10_one_121 ?_
      refine nb_if_eq C 187 dX10_one_124 rfl (fun h_124 => ?_) (fun h_124 => ?_)
      · skip
        refine v_iload_n C 0 dX10_one_187 rfl ?_
        refine v_if_ge C 195 dX10_one_188 rfl (fun h_188 => ?_) (fun h_188 => ?_)
        · skip
          refine v_aload_n C 1 dX10_one_195 rfl ?_
          refine v_iload_n C 0 dX10_one_196 rfl ?_
          refine n_callVp C hRm [.int (hereS Y t S)] cw_X10_nameOf ml_X10_223 (by decide) sh_205 (by decide) rfl (r_nameOf l G (upA X 206 Y) u hu ((congrFun (upA_ne X Y (by decide)) 8).trans hp.1.2.2.1) ((congrFun (upA_ne X Y (by decide)) u).trans hp.2.2) (hereS Y t S)) (by omega) rfl rfl (Nat.le_of_ble_eq_true rfl) dX10_one_197 ?_
          refine v_istore_n C [(2, .int (nmS u (hereS Y t S))), (1, .int (hereS Y t S)), (0, .ref (gb G + 205))] dX10_one_200 rfl (by decide) rfl ?_
          refine v_aload_n C 2 dX10_one_201 rfl ?_
          refine v_aload_n C 2 dX10_one_202 rfl ?_
          refine g_X10_170 C (by decide) sh_205 dX10_one_203 ?_
          refine v_top (X 205 9) (congrFun (upA_ne X Y (by decide)) 9) ?_
          refine v_top (b2i (S.1 = false)) (hp.1.2.2.2.1) ?_
          refine nb_if_ne C 213 dX10_one_206 rfl (fun h_206 => ?_) (fun h_206 => ?_)
          · skip
            refine v_iconst C (nI 1) dX10_one_213 (by decide) ?_
            refine v_goto C 218 dX10_one_214 rfl ?_
            refine p_X10_170 C (by decide) sh_205 (by decide) dX10_one_218 ?_
            refine v_mem (upA (up2 X 205 9 (nI 1)) 206 Y) (up2_upA_ne _ _ _ _ (by decide)) ?_
            refine v_aload_n C 2 dX10_one_221 rfl ?_
            refine g_X10_170 C (by decide) sh_205 dX10_one_222 ?_
            refine v_top ((up2 X 205 9 (nI 1)) 205 9) (congrFun (upA_ne (up2 X 205 9 (nI 1)) Y (by decide)) 9) ?_
            refine v_top (nI 1) (up2_at _ _ _ _) ?_
            refine n_if_ne C (by omega) 247 dX10_one_225 rfl (fun _ => ?_) (fun h_225 => absurd h_225 (by decide))
            have hFF : (false, S.2) = pz Y t u (f + 1) 5 op S := by rw [hF0]; unfold oneS; rw [if_neg (fun q => q.elim h_8 h_14), if_neg h_124, if_pos (Or.inl (by unfold hereS; rw [if_neg (fun q => by simp_all)]; decide))]
            exact n_ret C hRt dX10_one_247 ⟨_, rfl, hFF ▸ hp.wr false, exP.s X 9 _ (by decide)⟩
          · skip
            refine v_iload_n C 0 dX10_one_209 rfl ?_
            refine v_if_ge C 217 dX10_one_210 rfl (fun h_210 => ?_) (fun h_210 => ?_)
            · skip
              refine v_iconst C (nI 0) dX10_one_217 (by decide) ?_
              refine p_X10_170 C (by decide) sh_205 (by decide) dX10_one_218 ?_
              refine v_mem (upA (up2 X 205 9 (nI 0)) 206 Y) (up2_upA_ne _ _ _ _ (by decide)) ?_
              refine v_aload_n C 2 dX10_one_221 rfl ?_
              refine g_X10_170 C (by decide) sh_205 dX10_one_222 ?_
              refine v_top ((up2 X 205 9 (nI 0)) 205 9) (congrFun (upA_ne (up2 X 205 9 (nI 0)) Y (by decide)) 9) ?_
              refine v_top (nI 0) (up2_at _ _ _ _) ?_
              refine n_if_ne C (by omega) 247 dX10_one_225 rfl (fun h_225 => absurd h_225 (by decide)) (fun _ => ?_)
              have hS1 : S.1 = true := by cases hh : S.1 <;> simp_all
              obtain ⟨j, hj, hj2⟩ := nm_get hu (show ¬ nmS u (hereS Y t S) < 0 from by first | exact h_210 | exact Int32.not_lt.mpr h_210)
              have hlt := here_lt (fun q => absurd (by rw [q]; decide) (show ¬ hereS Y t S < 0 from by first | exact h_188 | exact Int32.not_lt.mpr h_188))
              have hpW : pRep (up2 X 205 9 (nI 0)) op u S := by have h9 := hp.wr true; rw [show (true, S.2) = S by rw [← hS1]] at h9; exact h9
              refine v_aload_n C 2 dX10_one_228 rfl ?_
              refine v_sipush C (nI 10000) dX10_one_229 (by decide) ?_
              refine v_iload_n C 0 dX10_one_232 rfl ?_
              refine v_top (nI j) hj2 ?_
              refine n_iadd C dX10_one_233 ?_
              refine n_callVv C hRm [.int (nI (10000 + j))] cw_X10_codes ml_X10_191 (by decide) sh_205 (by decide) rfl (r_codes l G (up2 X 205 9 (nI 0)) Y t u op ht hT hu S hpW ho (10000 + j) (by omega)) (by omega) rfl rfl (Nat.le_of_ble_eq_true rfl) dX10_one_234 (fun M5 hP_234 => ?_)
              obtain ⟨X71, rfl, hp71, he71⟩ := hP_234
              have hE71 := ((exP.s X 9 _ (by decide))).tr he71
              refine v_aload_n C 2 dX10_one_237 rfl ?_
              refine v_dup C dX10_one_238 rfl ?_
              refine g_X10_174 C (by decide) sh_205 dX10_one_239 ?_
              refine v_top (X71 205 6) (congrFun (upA_ne X71 Y (by decide)) 6) ?_
              refine v_top (nI (codS (10000 + j) S).2.1) hp71.1.1 ?_
              refine v_iconst C (nI 1) dX10_one_242 (by decide) ?_
              refine n_iadd C dX10_one_243 ?_
              refine p_X10_174 C (by decide) sh_205 dX10_one_244 ?_
              refine v_mem (upA (up2 X71 205 6 (nI (((codS (10000 + j) S).2.1) + 1))) 206 Y) (up2_upA_ne _ _ _ _ (by decide)) ?_
              have hFF : advS (codS (10000 + j) S) = pz Y t u (f + 1) 5 op S := by rw [hF0]; unfold oneS; rw [if_neg (fun q => q.elim h_8 h_14), if_neg h_124, if_neg (fun q => q.elim (by first | exact h_188 | exact Int32.not_lt.mpr h_188) (by first | exact h_210 | exact Int32.not_lt.mpr h_210)), hj2, toN (by omega)]
              exact n_ret C hRt dX10_one_247 ⟨_, rfl, hFF ▸ (show pRep _ op u (advS (codS (10000 + j) S)) from hp71.at ((codS (10000 + j) S).2.1 + 1)), hE71.tr (exP.s _ 6 _ (by decide))⟩
            · skip
              refine v_iconst C (nI 1) dX10_one_213 (by decide) ?_
              refine v_goto C 218 dX10_one_214 rfl ?_
              refine p_X10_170 C (by decide) sh_205 (by decide) dX10_one_218 ?_
              refine v_mem (upA (up2 X 205 9 (nI 1)) 206 Y) (up2_upA_ne _ _ _ _ (by decide)) ?_
              refine v_aload_n C 2 dX10_one_221 rfl ?_
              refine g_X10_170 C (by decide) sh_205 dX10_one_222 ?_
              refine v_top ((up2 X 205 9 (nI 1)) 205 9) (congrFun (upA_ne (up2 X 205 9 (nI 1)) Y (by decide)) 9) ?_
              refine v_top (nI 1) (up2_at _ _ _ _) ?_
              refine n_if_ne C (by omega) 247 dX10_one_225 rfl (fun _ => ?_) (fun h_225 => absurd h_225 (by decide))
              have hFF : (false, S.2) = pz Y t u (f + 1) 5 op S := by rw [hF0]; unfold oneS; rw [if_neg (fun q => q.elim h_8 h_14), if_neg h_124, if_pos (Or.inr (show nmS u (hereS Y t S) < 0 from by first | exact h_210 | exact Int32.not_le.mp h_210))]
              exact n_ret C hRt dX10_one_247 ⟨_, rfl, hFF ▸ hp.wr false, exP.s X 9 _ (by decide)⟩
        · skip
          refine v_iconst C (-1) dX10_one_191 (by decide) ?_
          refine v_goto C 200 dX10_one_192 rfl ?_
          refine v_istore_n C [(2, .int (-1)), (1, .int (hereS Y t S)), (0, .ref (gb G + 205))] dX10_one_200 rfl (by decide) rfl ?_
          refine v_aload_n C 2 dX10_one_201 rfl ?_
          refine v_aload_n C 2 dX10_one_202 rfl ?_
          refine g_X10_170 C (by decide) sh_205 dX10_one_203 ?_
          refine v_top (X 205 9) (congrFun (upA_ne X Y (by decide)) 9) ?_
          refine v_top (b2i (S.1 = false)) (hp.1.2.2.2.1) ?_
          refine nb_if_ne C 213 dX10_one_206 rfl (fun h_206 => ?_) (fun h_206 => ?_)
          · skip
            refine v_iconst C (nI 1) dX10_one_213 (by decide) ?_
            refine v_goto C 218 dX10_one_214 rfl ?_
            refine p_X10_170 C (by decide) sh_205 (by decide) dX10_one_218 ?_
            refine v_mem (upA (up2 X 205 9 (nI 1)) 206 Y) (up2_upA_ne _ _ _ _ (by decide)) ?_
            refine v_aload_n C 2 dX10_one_221 rfl ?_
            refine g_X10_170 C (by decide) sh_205 dX10_one_222 ?_
            refine v_top ((up2 X 205 9 (nI 1)) 205 9) (congrFun (upA_ne (up2 X 205 9 (nI 1)) Y (by decide)) 9) ?_
            refine v_top (nI 1) (up2_at _ _ _ _) ?_
            refine n_if_ne C (by omega) 247 dX10_one_225 rfl (fun _ => ?_) (fun h_225 => absurd h_225 (by decide))
            have hFF : (false, S.2) = pz Y t u (f + 1) 5 op S := by rw [hF0]; unfold oneS; rw [if_neg (fun q => q.elim h_8 h_14), if_neg h_124, if_pos (Or.inl (show hereS Y t S < 0 from by first | exact h_188 | exact Int32.not_le.mp h_188))]
            exact n_ret C hRt dX10_one_247 ⟨_, rfl, hFF ▸ hp.wr false, exP.s X 9 _ (by decide)⟩
          · skip
            refine v_iload_n C 0 dX10_one_209 rfl ?_
            refine v_if_ge C 217 dX10_one_210 rfl (fun h_210 => ?_) (fun h_210 => ?_)
            · skip
              exact absurd h_210 (by decide)
            · skip
              refine v_iconst C (nI 1) dX10_one_213 (by decide) ?_
              refine v_goto C 218 dX10_one_214 rfl ?_
              refine p_X10_170 C (by decide) sh_205 (by decide) dX10_one_218 ?_
              refine v_mem (upA (up2 X 205 9 (nI 1)) 206 Y) (up2_upA_ne _ _ _ _ (by decide)) ?_
              refine v_aload_n C 2 dX10_one_221 rfl ?_
              refine g_X10_170 C (by decide) sh_205 dX10_one_222 ?_
              refine v_top ((up2 X 205 9 (nI 1)) 205 9) (congrFun (upA_ne (up2 X 205 9 (nI 1)) Y (by decide)) 9) ?_
              refine v_top (nI 1) (up2_at _ _ _ _) ?_
              refine n_if_ne C (by omega) 247 dX10_one_225 rfl (fun _ => ?_) (fun h_225 => absurd h_225 (by decide))
              have hFF : (false, S.2) = pz Y t u (f + 1) 5 op S := by rw [hF0]; unfold oneS; rw [if_neg (fun q => q.elim h_8 h_14), if_neg h_124, if_pos (Or.inl (show hereS Y t S < 0 from by first | exact h_188 | exact Int32.not_le.mp h_188))]
              exact n_ret C hRt dX10_one_247 ⟨_, rfl, hFF ▸ hp.wr false, exP.s X 9 _ (by decide)⟩
      · skip
        refine v_iconst C (nI 0) dX10_one_127 (by decide) ?_
        refine v_istore_n C [(2, .int (nI 0)), (1, .int (hereS Y t S)), (0, .ref (gb G + 205))] dX10_one_128 rfl (by decide) rfl ?_
        refine v_iconst C (nI 0) dX10_one_129 (by decide) ?_
        refine v_istore_n C [(3, .int (nI 0)), (2, .int (nI 0)), (1, .int (hereS Y t S)), (0, .ref (gb G + 205))] dX10_one_130 rfl (by decide) rfl ?_
        have LP : ∀ (q k v : Nat) (S2 : PS) (X2 : Mm), 4 - k = q → k ≤ 4 → pRep X2 op u S2 → okS t S2 → exP X X2 → numG Y t (4 - k) S2 v = numG Y t 4 S 0 → Vc fr G NPh (upA X2 206 Y) 131 [(3, .int (nI k)), (2, .int (nI v)), (0, .ref (gb G + 205)), (1, .int (hereS Y t S))] [] := by
          intro q
          induction q using Nat.strongRecOn with
          | _ q ih =>
            intro k v S2 X2 hq hk hp2 ho2 he2 hR
            refine v_iload_n C 0 dX10_one_131 rfl ?_
            refine v_iconst C (nI 4) dX10_one_132 (by decide) ?_
            refine n_icmp_ge C (by omega) (by omega) 179 dX10_one_133 rfl (fun h_133 => ?_) (fun h_133 => ?_)
            · skip
              have hR9 : numG Y t (4 - k) S2 v = (S2, v) := by rw [show 4 - k = 0 by omega]; rfl
              rw [hR9] at hR
              have hn1 := num_one h_124
              rw [← hR] at hn1
              have hn2 : S2.2.2.length < S2.2.1 := hn1.ok1 ho
              refine v_aload_n C 2 dX10_one_179 rfl ?_
              refine v_iload_n C 1 dX10_one_180 rfl ?_
              refine n_callVv C hRm [.int (nI v)] cw_X10_codes ml_X10_191 (by decide) sh_205 (by decide) rfl (r_codes l G X2 Y t u op ht hT hu S2 hp2 ho2 v (by have := ho2.1; omega)) (by omega) rfl rfl (Nat.le_of_ble_eq_true rfl) dX10_one_181 (fun M5 hP_181 => ?_)
              obtain ⟨X72, rfl, hp72, he72⟩ := hP_181
              have hE72 := (he2).tr he72
              refine v_goto C 247 dX10_one_184 rfl ?_
              have hFF : codS v S2 = pz Y t u (f + 1) 5 op S := by rw [hF0]; unfold oneS; rw [if_neg (fun q => q.elim h_8 h_14), if_pos h_124, ← hR]
              exact n_ret C hRt dX10_one_247 ⟨_, rfl, hFF ▸ hp72, hE72⟩
            · skip
              refine v_aload_n C 2 dX10_one_136 rfl ?_
              refine n_callVp C hRm [] cw_X10_here ml_X10_178 (by decide) sh_205 (by decide) rfl (r_here l G X2 Y t u op ht hT hu S2 hp2 ho2) (by omega) rfl rfl (Nat.le_of_ble_eq_true rfl) dX10_one_137 ?_
              refine v_bipush C (nI 48) dX10_one_140 (by decide) ?_
              refine v_bipush C (nI 57) dX10_one_142 (by decide) ?_
              refine n_callSp C hRm [.int (hereS Y t S2), .int (nI 48), .int (nI 57)] cw_X10_within st_X10_within ml_X10_72 (r_within l G (upA X2 206 Y) (hereS Y t S2) (nI 48) (nI 57)) (by omega) rfl rfl (Nat.le_of_ble_eq_true rfl) dX10_one_144 ?_
              refine nb_if_eq C 179 dX10_one_147 rfl (fun h_147 => ?_) (fun h_147 => ?_)
              · skip
                have hR9 : numG Y t (4 - k) S2 v = (S2, v) := by rw [show 4 - k = (3 - k) + 1 by omega, numG, if_neg h_147]
                rw [hR9] at hR
                have hn1 := num_one h_124
                rw [← hR] at hn1
                have hn2 : S2.2.2.length < S2.2.1 := hn1.ok1 ho
                refine v_aload_n C 2 dX10_one_179 rfl ?_
                refine v_iload_n C 1 dX10_one_180 rfl ?_
                refine n_callVv C hRm [.int (nI v)] cw_X10_codes ml_X10_191 (by decide) sh_205 (by decide) rfl (r_codes l G X2 Y t u op ht hT hu S2 hp2 ho2 v (by have := ho2.1; omega)) (by omega) rfl rfl (Nat.le_of_ble_eq_true rfl) dX10_one_181 (fun M5 hP_181 => ?_)
                obtain ⟨X73, rfl, hp73, he73⟩ := hP_181
                have hE73 := (he2).tr he73
                refine v_goto C 247 dX10_one_184 rfl ?_
                have hFF : codS v S2 = pz Y t u (f + 1) 5 op S := by rw [hF0]; unfold oneS; rw [if_neg (fun q => q.elim h_8 h_14), if_pos h_124, ← hR]
                exact n_ret C hRt dX10_one_247 ⟨_, rfl, hFF ▸ hp73, hE73⟩
              · skip
                obtain ⟨b, hb0, hb⟩ := within_nat (k := 57) (by decide) (⟨Int32.le_trans (by decide) h_147.1, h_147.2⟩ : nI 0 ≤ hereS Y t S2 ∧ hereS Y t S2 ≤ nI 57)
                have hb1 : 48 ≤ b := (nI_leI (by omega) (by omega)).mp (hb ▸ h_147.1)
                refine v_bipush C (nI 10) dX10_one_150 (by decide) ?_
                refine v_iload_n C 1 dX10_one_152 rfl ?_
                refine n_imul C dX10_one_153 ?_
                refine v_aload_n C 2 dX10_one_154 rfl ?_
                refine n_callVp C hRm [] cw_X10_here ml_X10_178 (by decide) sh_205 (by decide) rfl (r_here l G X2 Y t u op ht hT hu S2 hp2 ho2) (by omega) rfl rfl (Nat.le_of_ble_eq_true rfl) dX10_one_155 ?_
                refine v_top (nI b) hb ?_
                refine n_iadd C dX10_one_158 ?_
                refine v_bipush C (nI 48) dX10_one_159 (by decide) ?_
                refine n_isub C (by omega) dX10_one_161 ?_
                refine v_istore_n C [(2, .int (nI (((10 * v) + b) - 48))), (3, .int (nI k)), (0, .ref (gb G + 205)), (1, .int (hereS Y t S))] dX10_one_162 rfl (by decide) rfl ?_
                refine v_aload_n C 2 dX10_one_163 rfl ?_
                refine v_dup C dX10_one_164 rfl ?_
                refine g_X10_174 C (by decide) sh_205 dX10_one_165 ?_
                refine v_top (X2 205 6) (congrFun (upA_ne X2 Y (by decide)) 6) ?_
                refine v_top (nI S2.2.1) (hp2.1.1) ?_
                refine v_iconst C (nI 1) dX10_one_168 (by decide) ?_
                refine n_iadd C dX10_one_169 ?_
                refine p_X10_174 C (by decide) sh_205 dX10_one_170 ?_
                refine v_mem (upA (up2 X2 205 6 (nI (S2.2.1 + 1))) 206 Y) (up2_upA_ne _ _ _ _ (by decide)) ?_
                refine v_iinc C (nI (k + 1)) 1 [(3, .int (nI (k + 1))), (2, .int (nI (((10 * v) + b) - 48))), (0, .ref (gb G + 205)), (1, .int (hereS Y t S))] dX10_one_173 rfl (nI_add _ _) (by decide) rfl ?_
                refine v_goto C 131 dX10_one_176 rfl ?_
                have hz : numG Y t (4 - (k + 1)) (advS S2) (10 * v + b - 48) = numG Y t 4 S 0 := by rw [← hR, show 4 - k = (4 - (k + 1)) + 1 by omega, numG, if_pos h_147, hb, toN (by omega)]
                have hl := here_dg h_147
                refine v_sub [0, 1, 2, 3] [(3, .int (nI (k + 1))), (2, .int (nI (((10 * v) + b) - 48))), (0, .ref (gb G + 205)), (1, .int (hereS Y t S))] rfl ?_
                exact ih _ (by omega) (k + 1) _ (advS S2) _ rfl (by omega) (hp2.at (S2.2.1 + 1)) ⟨by show S2.2.1 + 1 ≤ t; omega, by show S2.2.2.length ≤ S2.2.1 + 1; have := ho2.2; omega⟩ (he2.tr (exP.s _ 6 _ (by decide))) hz
        refine v_sub [0, 1, 3, 2] [(3, .int (nI 0)), (2, .int (nI 0)), (0, .ref (gb G + 205)), (1, .int (hereS Y t S))] rfl ?_
        exact LP _ 0 0 S X rfl (by omega) hp ho (exP.rf X) rfl
    · skip
      refine v_aload_n C 1 dX10_one_17 rfl ?_
      refine v_aload_n C 1 dX10_one_18 rfl ?_
      refine g_X10_217 C (by decide) sh_205 dX10_one_19 ?_
      refine v_top (X 205 7) (congrFun (upA_ne X Y (by decide)) 7) ?_
      refine v_top (nI (op)) (hp.1.2.1) ?_
      refine v_iconst C (nI 5) dX10_one_22 (by decide) ?_
      refine n_icmp_ne C (by omega) (by omega) 30 dX10_one_23 rfl (fun h_23 => ?_) (fun h_23 => ?_)
      · skip
        refine v_iconst C (nI 0) dX10_one_30 (by decide) ?_
        refine p_X10_170 C (by decide) sh_205 (by decide) dX10_one_31 ?_
        refine v_mem (upA (up2 X 205 9 (nI 0)) 206 Y) (up2_upA_ne _ _ _ _ (by decide)) ?_
        refine v_aload_n C 1 dX10_one_34 rfl ?_
        refine g_X10_170 C (by decide) sh_205 dX10_one_35 ?_
        refine v_top ((up2 X 205 9 (nI 0)) 205 9) (congrFun (upA_ne (up2 X 205 9 (nI 0)) Y (by decide)) 9) ?_
        refine v_top (nI 0) (up2_at _ _ _ _) ?_
        refine n_if_ne C (by omega) 247 dX10_one_38 rfl (fun h_38 => absurd h_38 (by decide)) (fun _ => ?_)
        have hlt := here_k (by decide) h_14
        have hpW : pRep (up2 X 205 9 (nI 0)) op u S := by have h9 := hp.wr true; rw [show (true, S.2) = S by rw [← hlt.1]] at h9; exact h9
        refine v_aload_n C 1 dX10_one_41 rfl ?_
        refine v_dup C dX10_one_42 rfl ?_
        refine g_X10_217 C (by decide) sh_205 dX10_one_43 ?_
        refine v_top ((up2 X 205 9 (nI 0)) 205 7) (congrFun (upA_ne (up2 X 205 9 (nI 0)) Y (by decide)) 7) ?_
        refine v_top (nI (op)) (hpW.1.2.1) ?_
        refine v_iconst C (nI 1) dX10_one_46 (by decide) ?_
        refine n_iadd C dX10_one_47 ?_
        refine p_X10_217 C (by decide) sh_205 dX10_one_48 ?_
        refine v_mem (upA (up2 (up2 X 205 9 (nI 0)) 205 7 (nI (op + 1))) 206 Y) (up2_upA_ne _ _ _ _ (by decide)) ?_
        refine v_aload_n C 1 dX10_one_51 rfl ?_
        refine v_dup C dX10_one_52 rfl ?_
        refine g_X10_174 C (by decide) sh_205 dX10_one_53 ?_
        refine v_top ((up2 (up2 X 205 9 (nI 0)) 205 7 (nI (op + 1))) 205 6) (congrFun (upA_ne (up2 (up2 X 205 9 (nI 0)) 205 7 (nI (op + 1))) Y (by decide)) 6) ?_
        refine v_top (nI (S.2.1)) ((hpW.op (op + 1)).1.1) ?_
        refine v_iconst C (nI 1) dX10_one_56 (by decide) ?_
        refine n_iadd C dX10_one_57 ?_
        refine p_X10_174 C (by decide) sh_205 dX10_one_58 ?_
        refine v_mem (upA (up2 (up2 (up2 X 205 9 (nI 0)) 205 7 (nI (op + 1))) 205 6 (nI (S.2.1 + 1))) 206 Y) (up2_upA_ne _ _ _ _ (by decide)) ?_
        have hpA : pRep (up2 (up2 (up2 X 205 9 (nI 0)) 205 7 (nI (op + 1))) 205 6 (nI (S.2.1 + 1))) (op + 1) u (advS S) := (hpW.op (op + 1)).at (S.2.1 + 1)
        have hoA : okS t (advS S) := ⟨by show S.2.1 + 1 ≤ t; omega, by show S.2.2.length ≤ S.2.1 + 1; omega⟩
        refine v_iload_n C 0 dX10_one_61 rfl ?_
        refine v_bipush C (nI 33) dX10_one_62 (by decide) ?_
        refine v_icmp_ne C 81 dX10_one_64 rfl (fun h_64 => ?_) (fun h_64 => ?_)
        · skip
          refine v_aload_n C 1 dX10_one_81 rfl ?_
          refine n_callVv C hRm [] cw_X10_either ml_X10_220 (by decide) sh_205 (by decide) rfl ((hB (op + 1) (by omega)).1 (by omega) (up2 (up2 (up2 X 205 9 (nI 0)) 205 7 (nI (op + 1))) 205 6 (nI (S.2.1 + 1))) (advS S) hpA hoA) (by omega) rfl rfl (Nat.le_of_ble_eq_true rfl) dX10_one_82 (fun M5 hP_82 => ?_)
          obtain ⟨X74, rfl, hp74, he74⟩ := hP_82
          have hE74 := ((((exP.s X 9 _ (by decide)).tr (exP.s _ 7 _ (by decide))).tr (exP.s _ 6 _ (by decide)))).tr he74
          have hm74 := pz_mono Y t u f 0 (op + 1) (advS S) hoA.1
          have ho74 := hm74.ok hoA
          refine v_aload_n C 1 dX10_one_85 rfl ?_
          refine v_aload_n C 1 dX10_one_86 rfl ?_
          refine v_bipush C (nI 41) dX10_one_87 (by decide) ?_
          refine n_callVi C hRm [.int (nI 41)] cw_X10_takes ml_X10_188 (by decide) sh_205 (by decide) rfl (r_takes l G X74 Y t u (op + 1) ht hT hu (pz Y t u f 0 (op + 1) (advS S)) hp74 ho74 (nI 41)) (by omega) rfl rfl (Nat.le_of_ble_eq_true rfl) dX10_one_89 (fun M5 hP_89 => ?_)
          obtain ⟨X75, rfl, hp75, he75⟩ := hP_89
          have hE75 := (hE74).tr he75
          refine nb_if_ne C 99 dX10_one_92 rfl (fun h_92 => ?_) (fun h_92 => ?_)
          · skip
            have hp76 : pRep X75 (op + 1) u (advS (pz Y t u f 0 (op + 1) (advS S))) := by have h9 := hp75; unfold tkS at h9; rw [if_pos h_92] at h9; exact h9
            have hl76 := here_k (by decide) h_92
            have ho76 : okS t (advS (pz Y t u f 0 (op + 1) (advS S))) := ⟨by show (pz Y t u f 0 (op + 1) (advS S)).2.1 + 1 ≤ t; omega, by show (pz Y t u f 0 (op + 1) (advS S)).2.2.length ≤ (pz Y t u f 0 (op + 1) (advS S)).2.1 + 1; have := ho74.2; omega⟩
            refine v_iconst C (nI 0) dX10_one_99 (by decide) ?_
            refine p_X10_170 C (by decide) sh_205 (by decide) dX10_one_100 ?_
            refine v_mem (upA (up2 X75 205 9 (nI 0)) 206 Y) (up2_upA_ne _ _ _ _ (by decide)) ?_
            have hpC : pRep (up2 X75 205 9 (nI 0)) (op + 1) u (true, (pz Y t u f 0 (op + 1) (advS S)).2.1 + 1, (pz Y t u f 0 (op + 1) (advS S)).2.2) := hp76.wr true
            refine v_aload_n C 1 dX10_one_103 rfl ?_
            refine v_dup C dX10_one_104 rfl ?_
            refine g_X10_217 C (by decide) sh_205 dX10_one_105 ?_
            refine v_top ((up2 X75 205 9 (nI 0)) 205 7) (congrFun (upA_ne (up2 X75 205 9 (nI 0)) Y (by decide)) 7) ?_
            refine v_top (nI (op + 1)) (hpC.1.2.1) ?_
            refine v_iconst C (nI 1) dX10_one_108 (by decide) ?_
            refine n_isub C (by omega) dX10_one_109 ?_
            refine p_X10_217 C (by decide) sh_205 dX10_one_110 ?_
            refine v_mem (upA (up2 (up2 X75 205 9 (nI 0)) 205 7 (nI ((op + 1) - 1))) 206 Y) (up2_upA_ne _ _ _ _ (by decide)) ?_
            refine v_goto C 247 dX10_one_113 rfl ?_
            have hFF : (true, (pz Y t u f 0 (op + 1) (advS S)).2.1 + 1, (pz Y t u f 0 (op + 1) (advS S)).2.2) = pz Y t u (f + 1) 5 op S := by rw [hF0]; unfold oneS; rw [if_pos (Or.inr h_14), if_neg h_23, if_neg h_8]; unfold clS; rw [if_pos h_92]
            exact n_ret C hRt dX10_one_247 ⟨_, rfl, hFF ▸ hpC.op (op + 1 - 1), ((hE75.tr (exP.s _ 9 _ (by decide))).tr (exP.s _ 7 _ (by decide)))⟩
          · skip
            have hp77 : pRep X75 (op + 1) u (pz Y t u f 0 (op + 1) (advS S)) := by have h9 := hp75; unfold tkS at h9; rw [if_neg h_92] at h9; exact h9
            refine v_iconst C (nI 1) dX10_one_95 (by decide) ?_
            refine v_goto C 100 dX10_one_96 rfl ?_
            refine p_X10_170 C (by decide) sh_205 (by decide) dX10_one_100 ?_
            refine v_mem (upA (up2 X75 205 9 (nI 1)) 206 Y) (up2_upA_ne _ _ _ _ (by decide)) ?_
            have hpC : pRep (up2 X75 205 9 (nI 1)) (op + 1) u (false, (pz Y t u f 0 (op + 1) (advS S)).2) := hp77.wr false
            refine v_aload_n C 1 dX10_one_103 rfl ?_
            refine v_dup C dX10_one_104 rfl ?_
            refine g_X10_217 C (by decide) sh_205 dX10_one_105 ?_
            refine v_top ((up2 X75 205 9 (nI 1)) 205 7) (congrFun (upA_ne (up2 X75 205 9 (nI 1)) Y (by decide)) 7) ?_
            refine v_top (nI (op + 1)) (hpC.1.2.1) ?_
            refine v_iconst C (nI 1) dX10_one_108 (by decide) ?_
            refine n_isub C (by omega) dX10_one_109 ?_
            refine p_X10_217 C (by decide) sh_205 dX10_one_110 ?_
            refine v_mem (upA (up2 (up2 X75 205 9 (nI 1)) 205 7 (nI ((op + 1) - 1))) 206 Y) (up2_upA_ne _ _ _ _ (by decide)) ?_
            refine v_goto C 247 dX10_one_113 rfl ?_
            have hFF : (false, (pz Y t u f 0 (op + 1) (advS S)).2) = pz Y t u (f + 1) 5 op S := by rw [hF0]; unfold oneS; rw [if_pos (Or.inr h_14), if_neg h_23, if_neg h_8]; unfold clS; rw [if_neg h_92]
            exact n_ret C hRt dX10_one_247 ⟨_, rfl, hFF ▸ hpC.op (op + 1 - 1), ((hE75.tr (exP.s _ 9 _ (by decide))).tr (exP.s _ 7 _ (by decide)))⟩
        · skip
          exact absurd h_64 h_8
      · skip
        refine v_iconst C (nI 1) dX10_one_26 (by decide) ?_
        refine v_goto C 31 dX10_one_27 rfl ?_
        refine p_X10_170 C (by decide) sh_205 (by decide) dX10_one_31 ?_
        refine v_mem (upA (up2 X 205 9 (nI 1)) 206 Y) (up2_upA_ne _ _ _ _ (by decide)) ?_
        refine v_aload_n C 1 dX10_one_34 rfl ?_
        refine g_X10_170 C (by decide) sh_205 dX10_one_35 ?_
        refine v_top ((up2 X 205 9 (nI 1)) 205 9) (congrFun (upA_ne (up2 X 205 9 (nI 1)) Y (by decide)) 9) ?_
        refine v_top (nI 1) (up2_at _ _ _ _) ?_
        refine n_if_ne C (by omega) 247 dX10_one_38 rfl (fun _ => ?_) (fun h_38 => absurd h_38 (by decide))
        have hFF : (false, S.2) = pz Y t u (f + 1) 5 op S := by rw [hF0]; unfold oneS; rw [if_pos (Or.inr h_14), if_pos h_23]
        exact n_ret C hRt dX10_one_247 ⟨_, rfl, hFF ▸ hp.wr false, exP.s X 9 _ (by decide)⟩
theorem pb_all (l : Launch) (G : GC) (Y : Nat → Int32) (t u : Nat) (ht : t ≤ 60) (hT : Y 4 = nI t) (hu : u < 2) : ∀ f, PB l G Y t u f
  | 0 => fun op _ => ⟨fun h => absurd h (Nat.not_lt_zero _), fun h => absurd h (Nat.not_lt_zero _), fun h => absurd h (Nat.not_lt_zero _), fun h => absurd h (Nat.not_lt_zero _), fun h => absurd h (Nat.not_lt_zero _), fun h => absurd h (Nat.not_lt_zero _)⟩
  | f + 1 => fun op hop => ⟨pr_either l G Y t u op ht hT hu f (pb_all l G Y t u ht hT hu f) hop, pr_both l G Y t u op ht hT hu f (pb_all l G Y t u ht hT hu f) hop, pr_compared l G Y t u op ht hT hu f (pb_all l G Y t u ht hT hu f) hop, pr_sum l G Y t u op ht hT hu f (pb_all l G Y t u ht hT hu f) hop, pr_product l G Y t u op ht hT hu f (pb_all l G Y t u ht hT hu f) hop, pr_one l G Y t u op ht hT hu f (pb_all l G Y t u ht hT hu f) hop⟩
