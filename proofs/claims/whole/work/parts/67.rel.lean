def relA (M : Mm) (n hN : Nat) : Prop := YR M 1 (M 206) n hN ∧ yInv (M 206) n hN
def relB (M : Mm) (n' hN' : Nat) : Prop := M 0 8 = M 205 3 ∧ (¬ M 0 8 = 0 → YR M 123 (M 207) n' hN' ∧ yInv (M 207) n' hN')
def relE (M : Mm) : Prop := ∀ k, 1 ≤ k → k ≤ 6 → M 196 k = M 209 k
def relT (M : Mm) : Prop := ∃ tr, tr ≤ 30 ∧ M 193 1 = nI tr ∧ M 205 17 = nI tr ∧ ∀ i, i < tr → M 194 i = M 216 i
def relS (M : Mm) : Prop := shR M (M 217) (M 218) (M 219) ∧ shG M
def relN (M : Mm) : Prop := M 210 0 = nI 2 ∧ M 210 1 = nI 3
/-- the class and the reference stand at the same -/
def Rel (M : Mm) (n hN n' hN' : Nat) : Prop := relA M n hN ∧ relB M n' hN' ∧ relE M ∧ relT M ∧ relS M ∧ relN M
theorem relE.up {E E' : Nat → Int32} (h : ∀ k, 1 ≤ k → k ≤ 6 → E k = E' k) (q : Nat) : ∀ k, 1 ≤ k → k ≤ 6 → errUp E q k = errUp E' q k := fun k h1 h2 => by
  unfold errUp
  split
  · exact h k h1 h2
  · unfold upd
    split
    · rename_i e; subst e; rw [h k h1 h2]
    · exact h k h1 h2
theorem relB.fr {M M' : Mm} {n' hN' : Nat} (h : relB M n' hN') (h0 : M' 0 8 = M 0 8) (h5 : M' 205 3 = M 205 3) (hK : M' 207 = M 207) (hY : ∀ a, 123 ≤ a → a < 184 → M' a = M a) : relB M' n' hN' :=
  ⟨by rw [h0, h5]; exact h.1, fun z => by rw [h0] at z; obtain ⟨h1, h2⟩ := h.2 z; rw [hK]; exact ⟨h1.fr (fun a ha hb => hY a ha (by omega)), h2⟩⟩
theorem shR.fr {M M' : Mm} {W Z NB : Nat → Int32} (h : shR M W Z NB) (hM : ∀ a, 197 ≤ a → a < 205 → M' a = M a) : shR M' W Z NB := fun s hs => by
  rw [hM (197 + 2 * s) (by omega) (by omega), hM (197 + 2 * s + 1) (by omega) (by omega)]
  exact h s hs
theorem rel_pub {M M1 M2 : Mm} {n hN n' hN' n1 h1 k : Nat} {Y' : Nat → Int32} (h : Rel M n hN n' hN') (hC : PubC M Y' n1 h1 k M1) (hR : PubR M1 Y' k M2) (hi : yInv Y' n1 h1) : Rel M2 n1 h1 n' hN' := by
  obtain ⟨hA, hB, hE, ⟨tr, t1, t2, t3, t4⟩, ⟨s1, s2⟩, hN1, hN2⟩ := h
  obtain ⟨c1, c2, c3⟩ := hC
  obtain ⟨X, rfl, ⟨x1, x2, x3, x4⟩⟩ := hR
  have lo : ∀ a, a < 205 → upA X 206 Y' a = M1 a := fun a ha => (upA_ne _ _ (by omega)).trans (x1 a (by omega) (by omega) (by omega) (by omega) (by omega) (by omega) (by omega) (by omega) (by omega) (by omega))
  have hi' : ∀ a, (a = 207 ∨ a = 210 ∨ a = 216 ∨ a = 217 ∨ a = 218 ∨ a = 219) → upA X 206 Y' a = M a := fun a ha => ((upA_ne _ _ (by omega)).trans (x1 a (by omega) (by omega) (by omega) (by omega) (by omega) (by omega) (by omega) (by omega) (by omega) (by omega))).trans (c3 a (by omega))
  have m5 : M1 205 = M 205 := c3 205 (by omega)
  have e5 : upA X 206 Y' 205 = X 205 := upA_ne _ _ (by decide)
  refine ⟨⟨?_, ?_⟩, hB.fr ?_ ?_ (hi' 207 (by omega)) (fun a ha hb => ?_), ?_, ⟨tr, t1, ?_, ?_, fun i hi2 => ?_⟩, ⟨?_, ?_⟩, ?_, ?_⟩
  · rw [upA_eq]; exact c1.fr (fun a ha hb => lo a (by omega))
  · rw [upA_eq]; exact hi
  · rw [lo 0 (by decide), c3 0 (by omega)]
  · rw [e5, x2, m5]
  · rw [lo a (by omega), c3 a (by omega)]
  · intro q h1 h2
    rw [lo 196 (by decide), c2, upA_ne _ _ (by decide), x4, c3 209 (by omega)]
    exact relE.up hE k q h1 h2
  · rw [lo 193 (by decide), c3 193 (by omega)]; exact t2
  · rw [e5, x3, m5]; exact t3
  · rw [lo 194 (by decide), c3 194 (by omega), hi' 216 (by omega)]; exact t4 i hi2
  · rw [hi' 217 (by omega), hi' 218 (by omega), hi' 219 (by omega)]
    exact s1.fr (fun a ha hb => by rw [lo a (by omega), c3 a (by omega)])
  · exact s2.of (hi' 217 (by omega)) (hi' 218 (by omega))
  · rw [hi' 210 (by omega)]; exact hN1
  · rw [hi' 210 (by omega)]; exact hN2
theorem rel_img {M M1 : Mm} {n hN n' hN' : Nat} (h : Rel M n hN n' hN') (h1 : YR M1 123 (M 206) n hN) (h2 : YR M1 1 (M 206) n hN) (h3 : M1 0 8 = M 0 8 + nI 1) (h4 : ∀ a, a ≠ 0 → (a < 123 ∨ 184 ≤ a) → M1 a = M a) : Rel (upA (imgM M1 (M 206)) 206 (M 206)) n hN n hN := by
  obtain ⟨hA, hB, hE, ⟨tr, t1, t2, t3, t4⟩, ⟨s1, s2⟩, hN1, hN2⟩ := h
  have g : ∀ a, a ≠ 205 → a ≠ 206 → a ≠ 207 → upA (imgM M1 (M 206)) 206 (M 206) a = M1 a := fun a e1 e2 e3 => by
    unfold imgM; rw [upA_ne _ _ e2, up2_ne _ _ _ e1, upA_ne _ _ e3]
  have g6 : upA (imgM M1 (M 206)) 206 (M 206) 206 = M 206 := upA_eq _ _ _
  have g7 : upA (imgM M1 (M 206)) 206 (M 206) 207 = M 206 := by
    unfold imgM; rw [upA_ne _ _ (by decide), up2_ne _ _ _ (by decide), upA_eq]
  have g53 : upA (imgM M1 (M 206)) 206 (M 206) 205 3 = M 205 3 + nI 1 := by
    unfold imgM; rw [upA_ne _ _ (by decide), up2_at, h4 205 (by decide) (by decide)]
  have g5 : ∀ j, j ≠ 3 → upA (imgM M1 (M 206)) 206 (M 206) 205 j = M 205 j := fun j hj => by
    unfold imgM; rw [upA_ne _ _ (by decide), up2_at_ne _ _ hj, upA_ne _ _ (by decide), h4 205 (by decide) (by decide)]
  generalize upA (imgM M1 (M 206)) 206 (M 206) = M2 at g g6 g7 g53 g5 ⊢
  have hi : ∀ a, 184 ≤ a → a ≠ 205 → a ≠ 206 → a ≠ 207 → M2 a = M a := fun a e0 e1 e2 e3 => (g a e1 e2 e3).trans (h4 a (by omega) (by omega))
  refine ⟨⟨?_, ?_⟩, ⟨?_, fun _ => ⟨?_, ?_⟩⟩, fun q a b => ?_, ⟨tr, t1, ?_, ?_, fun i hi2 => ?_⟩, ⟨?_, ?_⟩, ?_, ?_⟩
  · rw [g6]; exact h2.fr (fun a ha hb => g a (by omega) (by omega) (by omega))
  · rw [g6]; exact hA.2
  · rw [g 0 (by decide) (by decide) (by decide), h3, g53, hB.1]
  · rw [g7]; exact h1.fr (fun a ha hb => g a (by omega) (by omega) (by omega))
  · rw [g7]; exact hA.2
  · rw [hi 196 (by decide) (by decide) (by decide) (by decide), hi 209 (by decide) (by decide) (by decide) (by decide)]; exact hE q a b
  · rw [hi 193 (by decide) (by decide) (by decide) (by decide)]; exact t2
  · rw [g5 17 (by decide)]; exact t3
  · rw [hi 194 (by decide) (by decide) (by decide) (by decide), hi 216 (by decide) (by decide) (by decide) (by decide)]; exact t4 i hi2
  · rw [hi 217 (by decide) (by decide) (by decide) (by decide), hi 218 (by decide) (by decide) (by decide) (by decide), hi 219 (by decide) (by decide) (by decide) (by decide)]
    exact s1.fr (fun a ha hb => hi a (by omega) (by omega) (by omega) (by omega))
  · exact s2.of (hi 217 (by decide) (by decide) (by decide) (by decide)) (hi 218 (by decide) (by decide) (by decide) (by decide))
  · rw [hi 210 (by decide) (by decide) (by decide) (by decide)]; exact hN1
  · rw [hi 210 (by decide) (by decide) (by decide) (by decide)]; exact hN2
abbrev shF (A B : Mm) : Prop := ∀ a, a ≠ 217 → a ≠ 218 → a ≠ 219 → B a = A a
theorem f_sht (M : Mm) (s : Nat) (b z : Int32) (k : Nat) : shF M (shtX M s b z k) := fun a h1 h2 h3 => by
  unfold shtX; rw [upA_ne _ _ h3, up2_ne _ _ _ h2, up2_ne _ _ _ h1]
theorem f_sheet (M : Mm) (sheet bits n : Int32) : shF M (sheetS M sheet bits n).2.2 := by
  unfold sheetS
  refine o4_ite (P := shF M) (fun _ => ?_) (fun _ _ _ _ _ => rfl)
  refine o4_ite (P := shF M) (fun hb => f_sht _ _ _ _ _) (fun _ => ?_)
  refine o4_ite (P := shF M) (fun hb => ?_) (fun _ _ _ _ _ => rfl)
  refine o4_ite (P := shF M) (fun h0 => ?_) (fun _ _ _ _ _ => rfl)
  exact o4_ite (P := shF M) (fun hb => f_sht _ _ _ _ _) (fun _ _ _ _ _ => rfl)
theorem f_put (M : Mm) (sheet i v : Int32) : shF M (putS M sheet i v).2.2 := by
  unfold putS
  refine o4_ite (P := shF M) (fun _ => ?_) (fun _ _ _ _ _ => rfl)
  refine o4_ite (P := shF M) (fun _ _ _ _ _ => rfl) (fun _ => ?_)
  exact o4_ite (P := shF M) (fun _ a _ _ h3 => up2_ne _ _ _ h3) (fun _ _ _ _ _ => rfl)
theorem f_move (M : Mm) (sheet i other j n : Int32) : shF M (moveS M sheet i other j n).2.2 := by
  unfold moveS
  refine o4_ite (P := shF M) (fun _ => ?_) (fun _ _ _ _ _ => rfl)
  refine o4_ite (P := shF M) (fun _ => ?_) (fun _ _ _ _ _ => rfl)
  refine o4_ite (P := shF M) (fun _ _ _ _ _ => rfl) (fun _ => ?_)
  refine o4_ite (P := shF M) (fun _ _ _ _ _ => rfl) (fun _ => ?_)
  refine o4_ite (P := shF M) (fun _ => ?_) (fun _ _ _ _ _ => rfl)
  refine o4_ite (P := shF M) (fun _ _ _ _ _ => rfl) (fun _ => ?_)
  refine o4_ite (P := shF M) (fun _ _ _ _ _ => rfl) (fun _ => ?_)
  refine o4_ite (P := shF M) (fun _ _ _ _ _ => rfl) (fun _ => ?_)
  refine o4_ite (P := shF M) (fun _ => ?_) (fun _ _ _ _ _ => rfl)
  exact o4_ite (P := shF M) (fun _ a _ _ h3 => upA_ne _ _ h3) (fun _ _ _ _ _ => rfl)
theorem rel_sh {M M1 M2 : Mm} {n hN n' hN' : Nat} {q1 q2 : O4} (h : Rel M n hN n' hN') (hC : PubS M q1.2.2 q1.1 M1) (hq : o4E q2 q1) (hR : PubX q2.2.2 (M 206) q2.1 M2) (hF : shF M1 q2.2.2) (hi : shG q1.2.2) : Rel M2 n hN n' hN' := by
  obtain ⟨hA, hB, hE, ⟨tr, t1, t2, t3, t4⟩, ⟨s1, s2⟩, hN1, hN2⟩ := h
  obtain ⟨c1, c2, c3⟩ := hC
  obtain ⟨e1, -, e7, e8, e9⟩ := hq
  obtain ⟨X, rfl, ⟨x1, x2, x3, x4⟩⟩ := hR
  have all : ∀ a, a ≠ 205 → a ≠ 206 → a ≠ 208 → a ≠ 209 → a ≠ 211 → a ≠ 212 → a ≠ 213 → a ≠ 214 → a ≠ 215 → a ≠ 220 → upA X 206 (M 206) a = q2.2.2 a := fun a b1 b2 b3 b4 b5 b6 b7 b8 b9 b10 => (upA_ne _ _ b2).trans (x1 a b1 b2 b3 b4 b5 b6 b7 b8 b9 b10)
  have lo1 : ∀ a, a < 205 → upA X 206 (M 206) a = M1 a := fun a ha => (all a (by omega) (by omega) (by omega) (by omega) (by omega) (by omega) (by omega) (by omega) (by omega) (by omega)).trans (hF a (by omega) (by omega) (by omega))
  have lo : ∀ a, a < 196 → upA X 206 (M 206) a = M a := fun a ha => (lo1 a (by omega)).trans (c3 a (by omega))
  have hi' : ∀ a, (a = 207 ∨ a = 210 ∨ a = 216) → upA X 206 (M 206) a = M a := fun a ha => ((all a (by omega) (by omega) (by omega) (by omega) (by omega) (by omega) (by omega) (by omega) (by omega) (by omega)).trans (hF a (by omega) (by omega) (by omega))).trans (c3 a (by omega))
  have m5 : q2.2.2 205 = M 205 := (hF 205 (by decide) (by decide) (by decide)).trans (c3 205 (by decide))
  have e5 : upA X 206 (M 206) 205 = X 205 := upA_ne _ _ (by decide)
  have g7 : upA X 206 (M 206) 217 = q1.2.2 217 := (all 217 (by decide) (by decide) (by decide) (by decide) (by decide) (by decide) (by decide) (by decide) (by decide) (by decide)).trans e7
  have g8 : upA X 206 (M 206) 218 = q1.2.2 218 := (all 218 (by decide) (by decide) (by decide) (by decide) (by decide) (by decide) (by decide) (by decide) (by decide) (by decide)).trans e8
  have g9 : upA X 206 (M 206) 219 = q1.2.2 219 := (all 219 (by decide) (by decide) (by decide) (by decide) (by decide) (by decide) (by decide) (by decide) (by decide) (by decide)).trans e9
  refine ⟨⟨?_, ?_⟩, hB.fr (by rw [lo 0 (by decide)]) (by rw [e5, x2, m5]) (hi' 207 (by omega)) (fun a ha hb => lo a (by omega)), fun q a b => ?_, ⟨tr, t1, ?_, ?_, fun i hi2 => ?_⟩, ⟨?_, ?_⟩, ?_, ?_⟩
  · rw [upA_eq]; exact hA.1.fr (fun a ha hb => lo a (by omega))
  · rw [upA_eq]; exact hA.2
  · rw [lo1 196 (by decide), c2, upA_ne _ _ (by decide), x4, hF 209 (by decide) (by decide) (by decide), c3 209 (by decide), e1]
    exact relE.up hE _ q a b
  · rw [lo 193 (by decide)]; exact t2
  · rw [e5, x3, m5]; exact t3
  · rw [lo 194 (by decide), hi' 216 (by omega)]; exact t4 i hi2
  · rw [g7, g8, g9]; exact c1.fr (fun a ha hb => lo1 a (by omega))
  · exact hi.of g7 g8
  · rw [hi' 210 (by omega)]; exact hN1
  · rw [hi' 210 (by omega)]; exact hN2
theorem rel_voi {M M1 M2 : Mm} {n hN n' hN' : Nat} {child voice x : Int32} (h : Rel M n hN n' hN') (hC : PubW M (M 206) n hN child voice x M1) (hR : PubV M1 (M 206) child voice x M2) : Rel M2 n hN n' hN' := by
  obtain ⟨hA, hB, hE, ⟨tr, t1, t2, t3, t4⟩, ⟨s1, s2⟩, hN1, hN2⟩ := h
  obtain ⟨c1, c2, c3, c4, c5⟩ := hC
  obtain ⟨X, rfl, r1, r2⟩ := hR
  have cc : ∀ a, 195 ≤ a → a ≠ 196 → M1 a = M a := fun a h1 h2 => c3 a (by omega) (by omega) (by omega) h2
  have key : (∀ a, a ≠ 205 → a ≠ 206 → a ≠ 208 → a ≠ 209 → a ≠ 211 → a ≠ 212 → a ≠ 213 → a ≠ 214 → a ≠ 215 → a ≠ 216 → a ≠ 220 → X a = M1 a) ∧ X 205 3 = M1 205 3 ∧ X 209 = errUp (M1 209) (voiceS (M 206) child voice x).1 ∧ ∃ tr, tr ≤ 30 ∧ M1 193 1 = nI tr ∧ X 205 17 = nI tr ∧ ∀ i, i < tr → M1 194 i = X 216 i := by
    by_cases e : (voiceS (M 206) child voice x).1 = 1
    · obtain ⟨x1, x2, x3, x4⟩ := r1 e
      obtain ⟨z1, z2⟩ := c4 e
      refine ⟨fun a b1 b2 b3 b4 b5 b6 b7 b8 b9 _ b10 => x1 a b1 b2 b3 b4 b5 b6 b7 b8 b9 b10, x2, by rw [e]; exact x4, tr, t1, by rw [z1]; exact t2, by rw [x3, cc 205 (by decide) (by decide)]; exact t3, fun i hi => ?_⟩
      rw [z2, x1 216 (by decide) (by decide) (by decide) (by decide) (by decide) (by decide) (by decide) (by decide) (by decide) (by decide), cc 216 (by decide) (by decide)]
      exact t4 i hi
    · obtain ⟨⟨x1, x2, x4⟩, ⟨y1, y2, y3⟩⟩ := r2 e
      obtain ⟨z1, z2, z3⟩ := c5 e
      exact ⟨x1, x2, x4, _, z2, z1, y1, fun i hi => (z3 i hi).trans (y3 i hi).symm⟩
  obtain ⟨x1, x2, x4, tr', u1, u2, u3, u4⟩ := key
  have lo1 : ∀ a, a < 205 → upA X 206 (M 206) a = M1 a := fun a ha => (upA_ne _ _ (by omega)).trans (x1 a (by omega) (by omega) (by omega) (by omega) (by omega) (by omega) (by omega) (by omega) (by omega) (by omega) (by omega))
  have hi' : ∀ a, (a = 207 ∨ a = 210 ∨ a = 217 ∨ a = 218 ∨ a = 219) → upA X 206 (M 206) a = M a := fun a ha => ((upA_ne _ _ (by omega)).trans (x1 a (by omega) (by omega) (by omega) (by omega) (by omega) (by omega) (by omega) (by omega) (by omega) (by omega) (by omega))).trans (cc a (by omega) (by omega))
  have e5 : upA X 206 (M 206) 205 = X 205 := upA_ne _ _ (by decide)
  refine ⟨⟨?_, ?_⟩, hB.fr (by rw [lo1 0 (by decide), c3 0 (by decide) (by decide) (by decide) (by decide)]) (by rw [e5, x2, cc 205 (by decide) (by decide)]) (hi' 207 (by omega)) (fun a ha hb => by rw [lo1 a (by omega), c3 a (by omega) (by omega) (by omega) (by omega)]), fun q a b => ?_, ⟨tr', u1, ?_, ?_, fun i hi2 => ?_⟩, ⟨?_, ?_⟩, ?_, ?_⟩
  · rw [upA_eq]; exact c1.fr (fun a ha hb => lo1 a (by omega))
  · rw [upA_eq]; exact hA.2
  · rw [lo1 196 (by decide), c2, upA_ne _ _ (by decide), x4, cc 209 (by decide) (by decide)]
    exact relE.up hE _ q a b
  · rw [lo1 193 (by decide)]; exact u2
  · rw [e5]; exact u3
  · rw [lo1 194 (by decide), upA_ne _ _ (by decide)]; exact u4 i hi2
  · rw [hi' 217 (by omega), hi' 218 (by omega), hi' 219 (by omega)]
    exact s1.fr (fun a ha hb => by rw [lo1 a (by omega), cc a (by omega) (by omega)])
  · exact s2.of (hi' 217 (by omega)) (hi' 218 (by omega))
  · rw [hi' 210 (by omega)]; exact hN1
  · rw [hi' 210 (by omega)]; exact hN2

