def RelX (M : Mm) : Prop := ∃ n hN n' hN', Rel M n hN n' hN'
/-- one call on the class, the same on the reference: one answer, and they stand at the same again -/
def Duo (l : Launch) (G : GC) (d1 : Nat) (y1 : MethodName) (c1 : ByteArray) (k1 d2 : Nat) (y2 : MethodName) (c2 : ByteArray) (k2 : Nat) (as : List Value) (M : Mm) : Prop := ∃ v P1, CI l G d1 y1 c1 k1 .int (.ref (gb G + 0) :: as) M v P1 ∧ ∀ M1, P1 M1 → ∃ P2, CI l G d2 y2 c2 k2 .int (.ref (gb G + 205) :: as) M1 v P2 ∧ ∀ M2, P2 M2 → RelX M2
theorem duo_pub {l : Launch} {G : GC} {d1 : Nat} {y1 : MethodName} {c1 : ByteArray} {k1 d2 : Nat} {y2 : MethodName} {c2 : ByteArray} {k2 : Nat} {as : List Value} {M : Mm} {n hN n' hN' n1 h1 : Nat} (h : Rel M n hN n' hN') (S : O3) (hc : CI l G d1 y1 c1 k1 .int (.ref (gb G + 0) :: as) M S.2.1 (PubC M S.2.2 n1 h1 S.1)) (hr : ∀ M1 : Mm, (∀ a, 192 ≤ a ∧ a ≠ 196 → M1 a = M a) → CI l G d2 y2 c2 k2 .int (.ref (gb G + 205) :: as) (upA M1 206 (M 206)) S.2.1 (PubR M1 S.2.2 S.1)) (hi : yInv S.2.2 n1 h1) : Duo l G d1 y1 c1 k1 d2 y2 c2 k2 as M := by
  refine ⟨S.2.1, _, hc, fun M1 hM1 => ⟨_, ?_, fun M2 hM2 => ⟨_, _, _, _, rel_pub h hM1 hM2 hi⟩⟩⟩
  have h2 := hr M1 (fun a ha => hM1.2.2 a (Or.inr (Or.inr ha)))
  rw [← hM1.2.2 206 (by decide), upA_self] at h2
  rw [← hM1.2.2 206 (by decide)] at *
  exact h2

theorem u_child (l : Launch) (G : GC) {M : Mm} {n hN n' hN' : Nat} (h : Rel M n hN n' hN') (km age mind : Int32) : Duo l G 3 yX9_child cX9_child 5 2 yX10_child cX10_child 6 [.int km, .int age, .int mind] M :=
  duo_pub h (childS (M 206) n km age mind) (x_child l G M (M 206) n hN h.1.1 h.1.2.1 h.1.2.2.1 h.1.2.2.2 km age mind) (fun M1 _ => r_child l G M1 (M 206) n hN h.1.2.1 km age mind) (i_child h.1.2 km age mind)
theorem i_childIs {Y : Nat → Int32} {n hN : Nat} (h : yInv Y n hN) (child what : Int32) : yInv (childIsS Y n child what).2.2 n hN := by
  unfold childIsS
  (repeat' split) <;> exact h
theorem u_childIs (l : Launch) (G : GC) {M : Mm} {n hN n' hN' : Nat} (h : Rel M n hN n' hN') (child what : Int32) : Duo l G 4 yX9_childIs cX9_childIs 3 5 yX10_childIs cX10_childIs 3 [.int child, .int what] M :=
  duo_pub h (childIsS (M 206) n child what) (x_childIs l G M (M 206) n hN h.1.1 h.1.2.1 h.1.2.2.1 h.1.2.2.2 child what) (fun M1 _ => r_childIs l G M1 (M 206) n hN h.1.2.1 child what) (i_childIs h.1.2 child what)
theorem i_as {Y : Nat → Int32} {n hN : Nat} (h : yInv Y n hN) (child kind : Int32) : yInv (asS Y child kind).2.2 n hN := by
  unfold asS
  (repeat' split) <;> exact h
theorem u_as (l : Launch) (G : GC) {M : Mm} {n hN n' hN' : Nat} (h : Rel M n hN n' hN') (child kind : Int32) : Duo l G 3 yX9_as cX9_as 6 3 yX10_as cX10_as 4 [.int child, .int kind] M :=
  duo_pub h (asS (M 206) child kind) (x_as l G M (M 206) n hN h.1.1 h.1.2.1 h.1.2.2.1 h.1.2.2.2 child kind) (fun M1 _ => r_as l G M1 (M 206) n hN h.1.2.1 child kind) (i_as h.1.2 child kind)
theorem u_set (l : Launch) (G : GC) {M : Mm} {n hN n' hN' : Nat} (h : Rel M n hN n' hN') (child what v : Int32) : Duo l G 5 yX9_set cX9_set 6 3 yX10_set cX10_set 5 [.int child, .int what, .int v] M :=
  duo_pub h (setS (M 206) child what v) (x_set l G M (M 206) n hN h.1.1 h.1.2.1 h.1.2.2.1 h.1.2.2.2 child what v) (fun M1 _ => r_set l G M1 (M 206) n hN h.1.2.1 child what v) (i_set h.1.2 child what v)
theorem u_likes (l : Launch) (G : GC) {M : Mm} {n hN n' hN' : Nat} (h : Rel M n hN n' hN') (one other v : Int32) : Duo l G 3 yX9_likes cX9_likes 5 3 yX10_likes cX10_likes 5 [.int one, .int other, .int v] M :=
  duo_pub h (likesS (M 206) one other v) (x_likes l G M (M 206) n hN h.1.1 h.1.2.1 h.1.2.2.1 h.1.2.2.2 one other v) (fun M1 _ => r_likes l G M1 (M 206) n hN h.1.2.1 one other v) (i_likes h.1.2 one other v)
theorem u_heap (l : Launch) (G : GC) {M : Mm} {n hN n' hN' : Nat} (h : Rel M n hN n' hN') (least most : Int32) : Duo l G 3 yX9_heap cX9_heap 4 2 yX10_heap cX10_heap 4 [.int least, .int most] M :=
  duo_pub h (heapS (M 206) hN least most) (x_heap l G M (M 206) n hN h.1.1 h.1.2.1 h.1.2.2.1 h.1.2.2.2 least most) (fun M1 _ => r_heap l G M1 (M 206) n hN h.1.2.1 least most) (i_heap h.1.2 least most)
theorem i_heapIs {Y : Nat → Int32} {n hN : Nat} (h : yInv Y n hN) (heap what : Int32) : yInv (heapIsS Y n heap what).2.2 n hN := by
  unfold heapIsS
  (repeat' split) <;> exact h
theorem u_heapIs (l : Launch) (G : GC) {M : Mm} {n hN n' hN' : Nat} (h : Rel M n hN n' hN') (heap what : Int32) : Duo l G 3 yX9_heapIs cX9_heapIs 4 3 yX10_heapIs cX10_heapIs 3 [.int heap, .int what] M :=
  duo_pub h (heapIsS (M 206) n heap what) (x_heapIs l G M (M 206) n hN h.1.1 h.1.2.1 h.1.2.2.1 h.1.2.2.2 heap what) (fun M1 _ => r_heapIs l G M1 (M 206) n hN h.1.2.1 heap what) (i_heapIs h.1.2 heap what)
theorem u_rule (l : Launch) (G : GC) {M : Mm} {n hN n' hN' : Nat} (h : Rel M n hN n' hN') (heap v : Int32) : Duo l G 3 yX9_rule cX9_rule 4 3 yX10_rule cX10_rule 3 [.int heap, .int v] M :=
  duo_pub h (ruleS (M 206) heap v) (x_rule l G M (M 206) n hN h.1.1 h.1.2.1 h.1.2.2.1 h.1.2.2.2 heap v) (fun M1 _ => r_rule l G M1 (M 206) n hN h.1.2.1 heap v) (i_rule h.1.2 heap v)
theorem u_join (l : Launch) (G : GC) {M : Mm} {n hN n' hN' : Nat} (h : Rel M n hN n' hN') (child heap : Int32) : Duo l G 6 yX9_join cX9_join 3 5 yX10_join cX10_join 3 [.int child, .int heap] M :=
  duo_pub h (joinS (M 206) n hN child heap) (x_join l G M (M 206) n hN h.1.1 h.1.2.1 h.1.2.2.1 h.1.2.2.2 child heap) (fun M1 _ => r_join l G M1 (M 206) n hN h.1.2.1 child heap) (i_join h.1.2 child heap)
theorem u_leave (l : Launch) (G : GC) {M : Mm} {n hN n' hN' : Nat} (h : Rel M n hN n' hN') (child : Int32) : Duo l G 6 yX9_leave cX9_leave 3 5 yX10_leave cX10_leave 3 [.int child] M :=
  duo_pub h (leaveS (M 206) n hN child) (x_leave l G M (M 206) n hN h.1.1 h.1.2.1 h.1.2.2.1 h.1.2.2.2 child) (fun M1 _ => r_leave l G M1 (M 206) n hN h.1.2.1 child) (i_leave h.1.2 child)
theorem i_between {Y : Nat → Int32} {n hN : Nat} (h : yInv Y n hN) (child heap what : Int32) : yInv (betweenS Y n child heap what).2.2 n hN := by
  unfold betweenS
  (repeat' split) <;> exact h
theorem u_between (l : Launch) (G : GC) {M : Mm} {n hN n' hN' : Nat} (h : Rel M n hN n' hN') (child heap what : Int32) : Duo l G 6 yX9_between cX9_between 4 6 yX10_between cX10_between 4 [.int child, .int heap, .int what] M :=
  duo_pub h (betweenS (M 206) n child heap what) (x_between l G M (M 206) n hN h.1.1 h.1.2.1 h.1.2.2.1 h.1.2.2.2 child heap what) (fun M1 _ => r_between l G M1 (M 206) n hN h.1.2.1 child heap what) (i_between h.1.2 child heap what)
theorem u_feed (l : Launch) (G : GC) {M : Mm} {n hN n' hN' : Nat} (h : Rel M n hN n' hN') (x : Int64) (k : Int32) : Duo l G 3 yX9_feed cX9_feed 5 3 yX10_feed cX10_feed 5 [.long x, .int k] M := by
  obtain ⟨t, ht, ht2⟩ := h.1.2.1.2.2.2.2.1
  exact duo_pub h (feedS (M 206) t x k) (x_feed l G M (M 206) n hN h.1.1 h.1.2.1 h.1.2.2.1 h.1.2.2.2 t ht2 ht x k) (fun M1 _ => r_feed l G M1 (M 206) n hN h.1.2.1 t ht2 ht x k) (i_feed h.1.2 ht2 ht x k)
theorem u_text (l : Launch) (G : GC) {M : Mm} {n hN n' hN' : Nat} (h : Rel M n hN n' hN') (use : Int32) : Duo l G 91 yX9_text cX9_text 3 60 yX10_text cX10_text 3 [.int use] M := by
  obtain ⟨t, ht, ht2⟩ := h.1.2.1.2.2.2.2.1
  exact duo_pub h (textS (M 206) t use) (x_text l G M (M 206) n hN h.1.1 h.1.2.1 h.1.2.2.1 h.1.2.2.2 t ht2 ht use) (fun M1 g => r_text l G M1 (M 206) n hN t h.1.2.1 ht2 ht (by rw [g 210 (by decide)]; exact h.2.2.2.2.2.1) (by rw [g 210 (by decide)]; exact h.2.2.2.2.2.2) use) (i_text h.1.2 ht use)
theorem u_untell (l : Launch) (G : GC) {M : Mm} {n hN n' hN' : Nat} (h : Rel M n hN n' hN') (use : Int32) : Duo l G 2 yX9_untell cX9_untell 3 2 yX10_untell cX10_untell 2 [.int use] M :=
  duo_pub h (untellS (M 206) use) (x_untell l G M (M 206) n hN h.1.1 h.1.2.1 h.1.2.2.1 h.1.2.2.2 use) (fun M1 _ => r_untell l G M1 (M 206) n hN h.1.2.1 use) (i_untell h.1.2 use)
theorem u_minutes (l : Launch) (G : GC) {M : Mm} {n hN n' hN' : Nat} (h : Rel M n hN n' hN') (k : Int32) : Duo l G 8 yX9_minutes cX9_minutes 2 10 yX10_minutes cX10_minutes 2 [.int k] M :=
  duo_pub h (minutesS (M 206) n hN k) (x_minutes l G M (M 206) n hN h.1.1 h.1.2.1 h.1.2.2.1 h.1.2.2.2 k) (fun M1 _ => r_minutes l G M1 (M 206) n hN h.1.2.1 k) (i_minutes h.1.2 k)
theorem u_terms (l : Launch) (G : GC) {M : Mm} {n hN n' hN' : Nat} (h : Rel M n hN n' hN') (k : Int32) : Duo l G 5 yX9_terms cX9_terms 3 7 yX10_terms cX10_terms 3 [.int k] M :=
  duo_pub h (termsS (M 206) n k) (x_terms l G M (M 206) n hN h.1.1 h.1.2.1 h.1.2.2.1 h.1.2.2.2 k) (fun M1 _ => r_terms l G M1 (M 206) n hN h.1.2.1 k) (i_terms h.1.2 k)
theorem u_seed (l : Launch) (G : GC) {M : Mm} {n hN n' hN' : Nat} (h : Rel M n hN n' hN') (v : Int32) : Duo l G 2 yX9_seed cX9_seed 3 2 yX10_seed cX10_seed 2 [.int v] M :=
  duo_pub h (seedS (M 206) v) (x_seed l G M (M 206) n hN h.1.1 h.1.2.1 h.1.2.2.1 h.1.2.2.2 v) (fun M1 _ => r_seed l G M1 (M 206) n hN h.1.2.1 v) (i_seed h.1.2 v)
theorem i_both {Y : Nat → Int32} {n hN : Nat} (h : yInv Y n hN) (child : Int32) : yInv (bothS Y n child).2.2 n hN := by
  unfold bothS
  (repeat' split) <;> exact h
theorem u_both (l : Launch) (G : GC) {M : Mm} {n hN n' hN' : Nat} (h : Rel M n hN n' hN') (child : Int32) : Duo l G 3 yX9_both cX9_both 2 4 yX10_both_ cX10_both_ 2 [.int child] M :=
  duo_pub h (bothS (M 206) n child) (x_both l G M (M 206) n hN h.1.1 h.1.2.1 h.1.2.2.1 h.1.2.2.2 child) (fun M1 _ => r_both l G M1 (M 206) n hN h.1.2.1 child) (i_both h.1.2 child)
theorem i_ring {Y : Nat → Int32} {n hN : Nat} (h : yInv Y n hN) (child : Int32) : yInv (ringS Y n child).2.2 n hN := by
  unfold ringS
  (repeat' split) <;> exact h
theorem u_ring (l : Launch) (G : GC) {M : Mm} {n hN n' hN' : Nat} (h : Rel M n hN n' hN') (child : Int32) : Duo l G 3 yX9_ring cX9_ring 2 4 yX10_ring cX10_ring 2 [.int child] M :=
  duo_pub h (ringS (M 206) n child) (x_ring l G M (M 206) n hN h.1.1 h.1.2.1 h.1.2.2.1 h.1.2.2.2 child) (fun M1 _ => r_ring l G M1 (M 206) n hN h.1.2.1 child) (i_ring h.1.2 child)
theorem i_net {Y : Nat → Int32} {n hN : Nat} (h : yInv Y n hN) (what : Int32) : yInv (netS Y n what).2.2 n hN := by
  unfold netS
  (repeat' split) <;> exact h
theorem u_net (l : Launch) (G : GC) {M : Mm} {n hN n' hN' : Nat} (h : Rel M n hN n' hN') (what : Int32) : Duo l G 4 yX9_net cX9_net 2 4 yX10_net cX10_net 8 [.int what] M :=
  duo_pub h (netS (M 206) n what) (x_net l G M (M 206) n hN h.1.1 h.1.2.1 h.1.2.2.1 h.1.2.2.2 what) (fun M1 _ => r_net l G M1 (M 206) n hN h.1.2.1 what) (i_net h.1.2 what)
theorem i_then {Y : Nat → Int32} {n hN : Nat} (h : yInv Y n hN) (k child what : Int32) : yInv (thenS Y n hN k child what).2.2 n hN := by
  unfold thenS
  (repeat' split) <;> exact h
theorem u_then (l : Launch) (G : GC) {M : Mm} {n hN n' hN' : Nat} (h : Rel M n hN n' hN') (k child what : Int32) : Duo l G 8 yX9_then cX9_then 4 10 yX10_then cX10_then 4 [.int k, .int child, .int what] M :=
  duo_pub h (thenS (M 206) n hN k child what) (x_then l G M (M 206) n hN h.1.1 h.1.2.1 h.1.2.2.1 h.1.2.2.2 k child what) (fun M1 _ => r_then l G M1 (M 206) n hN h.1.2.1 k child what) (i_then h.1.2 k child what)
theorem i_sorrow {Y : Nat → Int32} {n hN : Nat} (h : yInv Y n hN) (k : Int32) : yInv (sorrowS Y n hN k).2.2 n hN := by
  unfold sorrowS
  (repeat' split) <;> exact h
theorem u_sorrow (l : Launch) (G : GC) {M : Mm} {n hN n' hN' : Nat} (h : Rel M n hN n' hN') (k : Int32) : Duo l G 8 yX9_sorrow cX9_sorrow 2 10 yX10_sorrow cX10_sorrow 2 [.int k] M :=
  duo_pub h (sorrowS (M 206) n hN k) (x_sorrow l G M (M 206) n hN h.1.1 h.1.2.1 h.1.2.2.1 h.1.2.2.2 k) (fun M1 _ => r_sorrow l G M1 (M 206) n hN h.1.2.1 k) (i_sorrow h.1.2 k)
theorem i_word {Y : Nat → Int32} {n hN : Nat} (h : yInv Y n hN) (child k : Int32) : yInv (wordS Y n hN child k).2.2 n hN := by
  unfold wordS
  (repeat' split) <;> exact h
theorem u_word (l : Launch) (G : GC) {M : Mm} {n hN n' hN' : Nat} (h : Rel M n hN n' hN') (child k : Int32) : Duo l G 8 yX9_word cX9_word 9 10 yX10_word cX10_word 8 [.int child, .int k] M :=
  duo_pub h (wordS (M 206) n hN child k) (x_word l G M (M 206) n hN h.1.1 h.1.2.1 h.1.2.2.1 h.1.2.2.2 child k) (fun M1 _ => r_word l G M1 (M 206) n hN h.1.2.1 child k) (i_word h.1.2 child k)
theorem i_teach {Y : Nat → Int32} {n hN : Nat} (h : yInv Y n hN) (child k : Int32) : yInv (teachS Y n hN child k).2.2 n hN := by
  unfold teachS
  (repeat' split) <;> exact h
theorem u_teach (l : Launch) (G : GC) {M : Mm} {n hN n' hN' : Nat} (h : Rel M n hN n' hN') (child k : Int32) : Duo l G 8 yX9_teach cX9_teach 7 10 yX10_teach cX10_teach 7 [.int child, .int k] M :=
  duo_pub h (teachS (M 206) n hN child k) (x_teach l G M (M 206) n hN h.1.1 h.1.2.1 h.1.2.2.1 h.1.2.2.2 child k) (fun M1 _ => r_teach l G M1 (M 206) n hN h.1.2.1 child k) (i_teach h.1.2 child k)
theorem i_classes {Y : Nat → Int32} {n hN : Nat} (h : yInv Y n hN) (what : Int32) : yInv (classesS Y n what).2.2 n hN := by
  unfold classesS
  (repeat' split) <;> exact h
theorem u_classes (l : Launch) (G : GC) {M : Mm} {n hN n' hN' : Nat} (h : Rel M n hN n' hN') (what : Int32) : Duo l G 3 yX9_classes cX9_classes 3 4 yX10_classes cX10_classes 9 [.int what] M :=
  duo_pub h (classesS (M 206) n what) (x_classes l G M (M 206) n hN h.1.1 h.1.2.1 h.1.2.2.1 h.1.2.2.2 what) (fun M1 _ => r_classes l G M1 (M 206) n hN h.1.2.1 what) (i_classes h.1.2 what)
theorem i_best {Y : Nat → Int32} {n hN : Nat} (h : yInv Y n hN) (child : Int32) : yInv (bestS Y n hN child).2.2 n hN := by
  unfold bestS
  (repeat' split) <;> exact h
theorem u_best (l : Launch) (G : GC) {M : Mm} {n hN n' hN' : Nat} (h : Rel M n hN n' hN') (child : Int32) : Duo l G 6 yX9_best cX9_best 2 7 yX10_best cX10_best 3 [.int child] M :=
  duo_pub h (bestS (M 206) n hN child) (x_best l G M (M 206) n hN h.1.1 h.1.2.1 h.1.2.2.1 h.1.2.2.2 child) (fun M1 _ => r_best l G M1 (M 206) n hN h.1.2.1 child) (i_best h.1.2 child)
theorem u_voice (l : Launch) (G : GC) {M : Mm} {n hN n' hN' : Nat} (h : Rel M n hN n' hN') (child voice x : Int32) : Duo l G 12 yX9_voice cX9_voice 5 40 yX10_voice cX10_voice 5 [.int child, .int voice, .int x] M := by
  refine ⟨(voiceS (M 206) child voice x).2.1, _, x_voice l G M (M 206) n hN h.1.1 h.1.2.1 h.1.2.2.1 h.1.2.2.2 child voice x, fun M1 hM1 => ?_⟩
  have g : M1 206 = M 206 := hM1.2.2.1 206 (by decide) (by decide) (by decide) (by decide)
  have h2 := r_voice l G M1 (M1 206) n hN (by rw [g]; exact h.1.2.1) child voice x
  rw [upA_self, g] at h2
  exact ⟨_, h2, fun M2 hM2 => ⟨n, hN, n', hN', rel_voi h hM1 hM2⟩⟩
theorem i_body {Y TR : Nat → Int32} {n hN : Nat} (h : yInv Y n hN) (T i : Int32) : yInv (bodyS Y TR T i).2.2 n hN := by
  unfold bodyS
  (repeat' split) <;> exact h
theorem u_body (l : Launch) (G : GC) {M : Mm} {n hN n' hN' : Nat} (h : Rel M n hN n' hN') (i : Int32) : Duo l G 2 yX9_body cX9_body 2 2 yX10_body_ cX10_body_ 2 [.int i] M := by
  obtain ⟨tr, t1, t2, t3, t4⟩ := h.2.2.2.1
  refine duo_pub h (bodyS (M 206) (M 216) (M 205 17) i) (x_body l G M (M 206) n hN h.1.1 h.1.2.1 h.1.2.2.1 h.1.2.2.2 (M 216) (M 205 17) tr (t2.trans t3.symm) t3 t1 t4 i) (fun M1 g => ?_) (i_body h.1.2 _ i)
  rw [← congrFun (g 205 (by decide)) 17, ← g 216 (by decide)]
  exact r_body l G M1 (M 206) n hN h.1.2.1 tr (by rw [g 205 (by decide)]; exact t3) t1 i
theorem u_sheet (l : Launch) (G : GC) {M : Mm} {n hN n' hN' : Nat} (h : Rel M n hN n' hN') (sheet bits n0 : Int32) : Duo l G 3 yX9_sheet cX9_sheet 4 3 yX10_sheet cX10_sheet 5 [.int sheet, .int bits, .int n0] M := by
  refine ⟨(sheetS M sheet bits n0).2.1, _, x_sheet l G M M h.2.2.2.2.1.1 h.2.2.2.2.1.2.1 h.2.2.2.2.1.2.2 sheet bits n0, fun M1 hM1 => ?_⟩
  have g : ∀ a, 205 ≤ a → M1 a = M a := fun a ha => hM1.2.2 a (Or.inr ha)
  have cg := sheet_cg (A := M1) (B := M) ⟨g 217 (by decide), g 218 (by decide), g 219 (by decide)⟩ sheet bits n0
  have h2 := r_sheet l G M1 (M1 206) sheet bits n0
  rw [upA_self, cg.2.1] at h2
  refine ⟨_, h2, fun M2 hM2 => ⟨n, hN, n', hN', ?_⟩⟩
  rw [g 206 (by decide)] at hM2
  exact rel_sh h hM1 cg hM2 (f_sheet M1 sheet bits n0) (g_sheet h.2.2.2.2.1.2 sheet bits n0)
theorem u_put (l : Launch) (G : GC) {M : Mm} {n hN n' hN' : Nat} (h : Rel M n hN n' hN') (sheet i v : Int32) : Duo l G 3 yX9_put cX9_put 5 3 yX10_put cX10_put 4 [.int sheet, .int i, .int v] M := by
  refine ⟨(putS M sheet i v).2.1, _, x_put l G M M h.2.2.2.2.1.1 h.2.2.2.2.1.2.1 h.2.2.2.2.1.2.2 sheet i v, fun M1 hM1 => ?_⟩
  have g : ∀ a, 205 ≤ a → M1 a = M a := fun a ha => hM1.2.2 a (Or.inr ha)
  have cg := put_cg (A := M1) (B := M) ⟨g 217 (by decide), g 218 (by decide), g 219 (by decide)⟩ sheet i v
  have h2 := r_put l G M1 (M1 206) (h.2.2.2.2.1.2.of (g 217 (by decide)) (g 218 (by decide))).1 sheet i v
  rw [upA_self, cg.2.1] at h2
  refine ⟨_, h2, fun M2 hM2 => ⟨n, hN, n', hN', ?_⟩⟩
  rw [g 206 (by decide)] at hM2
  exact rel_sh h hM1 cg hM2 (f_put M1 sheet i v) (g_put h.2.2.2.2.1.2 sheet i v)
theorem u_move (l : Launch) (G : GC) {M : Mm} {n hN n' hN' : Nat} (h : Rel M n hN n' hN') (sheet i other j n0 : Int32) : Duo l G 3 yX9_move cX9_move 8 3 yX10_move cX10_move 7 [.int sheet, .int i, .int other, .int j, .int n0] M := by
  refine ⟨(moveS M sheet i other j n0).2.1, _, x_move l G M M h.2.2.2.2.1.1 h.2.2.2.2.1.2.1 h.2.2.2.2.1.2.2 sheet i other j n0, fun M1 hM1 => ?_⟩
  have g : ∀ a, 205 ≤ a → M1 a = M a := fun a ha => hM1.2.2 a (Or.inr ha)
  have cg := move_cg (A := M1) (B := M) ⟨g 217 (by decide), g 218 (by decide), g 219 (by decide)⟩ sheet i other j n0
  have h2 := r_move l G M1 (M1 206) (h.2.2.2.2.1.2.of (g 217 (by decide)) (g 218 (by decide))).1 sheet i other j n0
  rw [upA_self, cg.2.1] at h2
  refine ⟨_, h2, fun M2 hM2 => ⟨n, hN, n', hN', ?_⟩⟩
  rw [g 206 (by decide)] at hM2
  exact rel_sh h hM1 cg hM2 (f_move M1 sheet i other j n0) (g_move h.2.2.2.2.1.2 sheet i other j n0)
theorem u_slips (l : Launch) (G : GC) {M : Mm} {n hN n' hN' : Nat} (h : Rel M n hN n' hN') (sheet child : Int32) : Duo l G 3 yX9_slips cX9_slips 7 3 yX10_slips cX10_slips 4 [.int sheet, .int child] M := by
  refine duo_pub h (slipsS (M 206) M n sheet child) (x_slips l G M (M 206) n hN h.1.1 h.1.2.1 h.1.2.2.1 h.1.2.2.2 M h.2.2.2.2.1.1 h.2.2.2.2.1.2.1 sheet child) (fun M1 g => ?_) (i_slips h.1.2 M sheet child)
  rw [← slips_cg (A := M1) (B := M) ⟨g 217 (by decide), g 218 (by decide), g 219 (by decide)⟩]
  exact r_slips l G M1 (M 206) n hN h.1.2.1 (h.2.2.2.2.1.2.of (g 217 (by decide)) (g 218 (by decide))).1 sheet child
theorem i_film {Y : Nat → Int32} {n hN : Nat} (h : yInv Y n hN) (M : Mm) (sheet k : Int32) : yInv (filmS Y M n hN sheet k).2.2 n hN := by
  unfold filmS
  (repeat' split) <;> exact h
theorem u_film (l : Launch) (G : GC) {M : Mm} {n hN n' hN' : Nat} (h : Rel M n hN n' hN') (sheet k : Int32) : Duo l G 8 yX9_film cX9_film 6 10 yX10_film cX10_film 4 [.int sheet, .int k] M := by
  refine duo_pub h (filmS (M 206) M n hN sheet k) (x_film l G M (M 206) n hN h.1.1 h.1.2.1 h.1.2.2.1 h.1.2.2.2 M h.2.2.2.2.1.1 h.2.2.2.2.1.2.1 sheet k) (fun M1 g => ?_) (i_film h.1.2 M sheet k)
  rw [← film_cg (A := M1) (B := M) ⟨g 217 (by decide), g 218 (by decide), g 219 (by decide)⟩]
  exact r_film l G M1 (M 206) n hN h.1.2.1 (h.2.2.2.2.1.2.of (g 217 (by decide)) (g 218 (by decide))).1 sheet k
theorem u_image (l : Launch) (G : GC) {M : Mm} {n hN n' hN' : Nat} (h : Rel M n hN n' hN') : Duo l G 4 yX9_image cX9_image 1 2 yX10_image cX10_image 1 [] M := by
  refine ⟨M 0 8 + nI 1, _, x_image l G M (M 206) n hN h.1.1 h.1.2.1 h.1.2.2.1 h.1.2.2.2, fun M1 hM1 => ?_⟩
  obtain ⟨h1, h2, h3, h4⟩ := hM1
  have g : M1 206 = M 206 := h4 206 (by decide) (by decide)
  have h5 := r_image l G M1 (M1 206)
  rw [upA_self, g, h4 205 (by decide) (by decide), ← h.2.1.1] at h5
  exact ⟨_, h5, fun M2 hM2 => ⟨n, hN, n, hN, by rw [hM2]; exact rel_img h h1 h2 h3 h4⟩⟩
theorem i_restore {Y K : Nat → Int32} {n hN n' hN' : Nat} {im : Int32} (h : yInv Y n hN) (hK : ¬ im = 0 → yInv K n' hN') : yInv (restoreS Y K im).2.2 (if im = 0 then n else n') (if im = 0 then hN else hN') := by
  unfold restoreS
  by_cases e : im = 0
  · rw [if_pos e, if_pos e, if_pos e]; exact h
  · rw [if_neg e, if_neg e, if_neg e]; exact hK e
theorem u_restore (l : Launch) (G : GC) {M : Mm} {n hN n' hN' : Nat} (h : Rel M n hN n' hN') : Duo l G 4 yX9_restore cX9_restore 1 2 yX10_restore cX10_restore 1 [] M := by
  refine duo_pub h (restoreS (M 206) (M 207) (M 0 8)) (x_restore l G M (M 206) n hN h.1.1 h.1.2.1 h.1.2.2.1 h.1.2.2.2 (M 207) n' hN' (M 0 8) rfl (fun z => ⟨(h.2.1.2 z).1, (h.2.1.2 z).2.1⟩)) (fun M1 g => ?_) (i_restore h.1.2 (fun z => (h.2.1.2 z).2))
  rw [h.2.1.1, ← congrFun (g 205 (by decide)) 3, ← g 207 (by decide)]
  exact r_restore l G M1 (M 206) n hN h.1.2.1
theorem u_tell (l : Launch) (G : GC) {M : Mm} {n hN n' hN' : Nat} (h : Rel M n hN n' hN') (v : Int32) : Duo l G 3 yX9_tell cX9_tell 2 2 yX10_tell cX10_tell 2 [.int v] M := by
  obtain ⟨t, ht, ht2⟩ := h.1.2.1.2.2.2.2.2
  exact duo_pub h (tellS (M 206) t v) (x_tell l G M (M 206) n hN h.1.1 h.1.2.1 h.1.2.2.1 h.1.2.2.2 t ht2 ht v) (fun M1 _ => r_tell l G M1 (M 206) n hN h.1.2.1 t ht2 ht v) (i_tell h.1.2 ht v)
theorem u_check (l : Launch) (G : GC) {M : Mm} {n hN n' hN' : Nat} (h : Rel M n hN n' hN') (heap : Int32) : Duo l G 4 yX9_check cX9_check 6 3 yX10_check cX10_check 5 [.int heap] M := by
  obtain ⟨t, ht, ht2⟩ := h.1.2.1.2.2.2.2.2
  exact duo_pub h (checkS (M 206) n t heap) (x_check l G M (M 206) n hN h.1.1 h.1.2.1 h.1.2.2.1 h.1.2.2.2 t ht2 ht heap) (fun M1 _ => r_check l G M1 (M 206) n hN h.1.2.1 t ht2 ht heap) (i_check h.1.2 t heap)
theorem i_count {Y : Nat → Int32} {n hN : Nat} (h : yInv Y n hN) (T what : Int32) : yInv (countS Y n T what).2.2 n hN := by
  unfold countS
  (repeat' split) <;> exact h
theorem u_count (l : Launch) (G : GC) {M : Mm} {n hN n' hN' : Nat} (h : Rel M n hN n' hN') (what : Int32) : Duo l G 3 yX9_count cX9_count 2 3 yX10_count cX10_count 2 [.int what] M := by
  obtain ⟨tr, t1, t2, t3, t4⟩ := h.2.2.2.1
  refine duo_pub h (countS (M 206) n (M 205 17) what) (x_count l G M (M 206) n hN h.1.1 h.1.2.1 h.1.2.2.1 h.1.2.2.2 (M 205 17) (t2.trans t3.symm) what) (fun M1 g => ?_) (i_count h.1.2 _ what)
  rw [← congrFun (g 205 (by decide)) 17]
  exact r_count l G M1 (M 206) n hN h.1.2.1 what
theorem told_cg {E E' : Nat → Int32} (h : ∀ k, 1 ≤ k → k ≤ 6 → E k = E' k) (Y : Nat → Int32) (k : Int32) : toldE E Y k = toldE E' Y k := by
  unfold toldE
  by_cases h1 : nI 1 ≤ k ∧ k ≤ nI 6
  · rw [if_pos h1, if_pos h1]
    obtain ⟨j, hj, rfl⟩ := within_nat (k := 6) (by decide) ⟨Int32.le_trans (by decide) h1.1, h1.2⟩
    have h0 : 1 ≤ j := by
      rcases Nat.eq_zero_or_pos j with z | z
      · subst z; exact absurd h1.1 (by decide)
      · exact z
    rw [nI_clamp (by omega), h j h0 hj]
  · rw [if_neg h1, if_neg h1]
theorem i_told {E Y : Nat → Int32} {n hN : Nat} (h : yInv Y n hN) (k : Int32) : yInv (toldE E Y k).2.2 n hN := by
  unfold toldE
  (repeat' split) <;> exact h
theorem u_told (l : Launch) (G : GC) {M : Mm} {n hN n' hN' : Nat} (h : Rel M n hN n' hN') (k : Int32) : Duo l G 2 yX9_told cX9_told 2 2 yX10_told cX10_told 2 [.int k] M := by
  refine duo_pub h (toldE (M 196) (M 206) k) (x_told l G M (M 206) n hN h.1.1 h.1.2.1 h.1.2.2.1 h.1.2.2.2 k) (fun M1 g => ?_) (i_told h.1.2 k)
  rw [told_cg h.2.2.1, ← g 209 (by decide)]
  exact r_told l G M1 (M 206) n hN h.1.2.1 k
