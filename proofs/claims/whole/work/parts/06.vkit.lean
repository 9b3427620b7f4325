/-! One region of cells b + k holds the class and the reference; a frame over it; the rows of the machine over that frame. -/
def shpL : List Nat := [9, 8, 20, 21, 22, 4, 1060, 4, 1024, 1005, 24, 1010, 1010, 1010, 1010, 1010, 1010, 1010, 1010, 1010, 1010, 0, 1010, 1005, 0, 1010, 1005, 0, 1010, 1005, 0, 1010, 1005, 0, 1010, 1005, 0, 1010, 1005, 0, 1010, 1005, 0, 1010, 1005, 0, 1010, 1005, 0, 1010, 1005, 2, 2, 2, 2, 2, 7, 1060, 1060, 7, 1060, 1060, 8, 20, 21, 22, 4, 1060, 4, 1024, 1005, 24, 1010, 1010, 1010, 1010, 1010, 1010, 1010, 1010, 1010, 1010, 0, 1010, 1005, 0, 1010, 1005, 0, 1010, 1005, 0, 1010, 1005, 0, 1010, 1005, 0, 1010, 1005, 0, 1010, 1005, 0, 1010, 1005, 0, 1010, 1005, 0, 1010, 1005, 2, 2, 2, 2, 2, 7, 1060, 1060, 7, 1060, 1060, 8, 20, 21, 22, 4, 1060, 4, 1024, 1005, 24, 1010, 1010, 1010, 1010, 1010, 1010, 1010, 1010, 1010, 1010, 0, 1010, 1005, 0, 1010, 1005, 0, 1010, 1005, 0, 1010, 1005, 0, 1010, 1005, 0, 1010, 1005, 0, 1010, 1005, 0, 1010, 1005, 0, 1010, 1005, 0, 1010, 1005, 2, 2, 2, 2, 2, 7, 1060, 1060, 7, 1060, 1060, 1, 1010, 1010, 3, 7, 1060, 1060, 1000, 6, 4, 1030, 23, 1007, 5, 1024, 5, 1024, 5, 1024, 5, 1024, 10, 1445, 1445, 1445, 1007, 25, 1060, 1005, 1060, 1100, 1010, 1030, 1004, 1004, 1096, 1024]
def shp (k : Nat) : Nat := shpL.getD k 9999
def nSl (c : Nat) : Nat := match c with
  | 0 => 8
  | 1 => 4
  | 2 => 5
  | 3 => 5
  | 4 => 2
  | 5 => 3
  | 6 => 5
  | 7 => 3
  | 8 => 12
  | 9 => 9
  | 10 => 24
  | _ => 0
def rfs (c i : Nat) : Nat := match c, i with
  | 0, 6 => 1
  | 0, 7 => 2
  | 1, 2 => 1
  | 1, 3 => 2
  | 3, 0 => 1
  | 3, 1 => 5000
  | 3, 4 => 5001
  | 4, 0 => 1
  | 5, 2 => 1
  | 6, 0 => 1
  | 7, 0 => 1
  | 7, 1 => 2
  | 8, 0 => 1
  | 8, 1 => 2
  | 8, 2 => 3
  | 8, 3 => 4
  | 8, 4 => 6
  | 8, 10 => 8
  | 8, 11 => 9
  | 9, 0 => 1
  | 9, 1 => 62
  | 9, 2 => 123
  | 9, 3 => 184
  | 9, 4 => 187
  | 9, 5 => 192
  | 9, 6 => 195
  | 9, 7 => 196
  | 10, 0 => 1
  | 10, 1 => 2
  | 10, 2 => 3
  | 10, 4 => 4
  | 10, 5 => 5
  | 10, 10 => 6
  | 10, 12 => 7
  | 10, 13 => 8
  | 10, 14 => 9
  | 10, 15 => 10
  | 10, 16 => 11
  | 10, 20 => 12
  | 10, 21 => 13
  | 10, 22 => 14
  | 10, 23 => 15
  | _, _ => 0
def aLen (s : Nat) : Nat := match s with
  | 20 => 10
  | 21 => 5
  | 22 => 2
  | 23 => 4
  | 24 => 10
  | 25 => 2
  | _ => 0
def aOff (s i : Nat) : Nat := match s with
  | 20 => 19 + 3 * i
  | 21 => 48 + 1 * i
  | 22 => 52 + 3 * i
  | 23 => 2 + 2 * i
  | 24 => 1 + 1 * i
  | 25 => 5001 + 0 * i
  | _ => 0
/-- the words that a call hands on -/
def lw_w : List Cond := lw_tbl.filter goodWord
theorem lw_in {w : Cond} (h : w ∈ lw_tbl) (hg : goodWord w = true) : w ∈ lw_w := List.mem_filter.mpr ⟨h, hg⟩
/-- links between nest mates, and arrays over classes: words that a call does not hand on -/
def nestM : List (String × Nat × MethodName × String) := [("BreakTime$Yard", 54, yX0_init, "BreakTime"), ("BreakTime$Yard", 55, yX2_init, "BreakTime"), ("BreakTime$Yard", 56, yX7_init, "BreakTime"), ("BreakTime", 24, yX1_init, "BreakTime"), ("BreakTime", 31, yX3_init, "BreakTime"), ("BreakTime$Reader", 11, yX7_init, "BreakTime"), ("BreakTime", 38, yX6_init, "BreakTime"), ("BreakTime", 53, yX5_init, "BreakTime"), ("BreakTime$Yard", 141, yX9_held, "BreakTime")]
def nestF : List (String × Nat × String × String × String × String) := [("BreakTime$Speaker", 45, "BreakTime", "BODIES", "[I", "BreakTime"), ("BreakTime$Speaker", 49, "BreakTime", "ABOVE", "[I", "BreakTime")]
def overC : List String := ["BreakTime$Child", "BreakTime$Heap", "BreakTime$Text", "BreakTime$Sheet", "java/lang/String"]
abbrev Mm : Type := Nat → Nat → Int32
def up2 (M : Mm) (k i : Nat) (v : Int32) : Mm := fun a => if a = k then upd (M k) i v else M a
theorem up2_eq (M : Mm) (k i : Nat) (v : Int32) : up2 M k i v k = upd (M k) i v := if_pos rfl
theorem up2_ne (M : Mm) {k a : Nat} (i : Nat) (v : Int32) (h : a ≠ k) : up2 M k i v a = M a := if_neg h
theorem up2_at (M : Mm) (k i : Nat) (v : Int32) : up2 M k i v k i = v := by rw [up2_eq]; exact if_pos rfl
theorem up2_at_ne (M : Mm) {k i j : Nat} (v : Int32) (h : j ≠ i) : up2 M k i v k j = M k j := by rw [up2_eq]; exact if_neg h
theorem up2_ap (M : Mm) (k i : Nat) (v : Int32) (a j : Nat) : up2 M k i v a j = if a = k ∧ j = i then v else M a j := by
  by_cases h : a = k
  · subst h
    by_cases h2 : j = i
    · subst h2; rw [up2_at, if_pos ⟨rfl, rfl⟩]
    · rw [up2_at_ne M v h2, if_neg (fun q => h2 q.2)]
  · rw [up2_ne M i v h, if_neg (fun q => h q.1)]
def upA (M : Mm) (k : Nat) (g : Nat → Int32) : Mm := fun a => if a = k then g else M a
theorem upA_eq (M : Mm) (k : Nat) (g : Nat → Int32) : upA M k g k = g := if_pos rfl
theorem upA_ne (M : Mm) {k a : Nat} (g : Nat → Int32) (h : a ≠ k) : upA M k g a = M a := if_neg h
/-- the region: where the classes' fields lie, the classes of arrays, the first address, what lies below it, addresses of constants -/
abbrev GC : Type := va_G × (Nat → ClassId) × Nat × Heap × (Nat → Nat) × (Nat → Nat)
abbrev gD (G : GC) : va_G := G.1
abbrev gt (G : GC) : Nat → ClassId := G.2.1
abbrev gb (G : GC) : Nat := G.2.2.1
abbrev gH (G : GC) : Heap := G.2.2.2.1
abbrev gK (G : GC) : Nat → Nat := G.2.2.2.2.1
abbrev gV (G : GC) : Nat → Nat := G.2.2.2.2.2
def Ab (G : GC) : Nat → Prop := fun q => gb G ≤ q
def tysOf (G : GC) : List (ClassId × FieldType) := [(gt G 0, .int), (gt G 1, .object "BreakTime$Child"), (gt G 2, .object "BreakTime$Heap"), (gt G 3, .object "BreakTime$Text"), (gt G 4, .object "BreakTime$Sheet"), (gt G 5, .array .int), (gt G 6, .object "java/lang/String")]
def sv (G : GC) (M : Mm) (k i r : Nat) : Value := if r = 0 then .int (M k i) else if M k i = 0 then .null else if r = 5000 then .ref (gb G + (M k i).toNatClampNeg) else if r = 5001 then .ref (gK G ((M k i).toNatClampNeg - 1)) else .ref (gb G + (k + r))
def ae (G : GC) (M : Mm) (k s i : Nat) : Option Nat := if M k i = 0 then none else if s = 25 then some (gK G ((M k i).toNatClampNeg - 1)) else some (gb G + (k + aOff s i))
def En (G : GC) (M : Mm) (k : Nat) : va_E := if 1000 ≤ shp k then .inl (gt G 0, shp k - 1000, .inl (M k)) else if 20 ≤ shp k then .inl (gt G (shp k - 19), aLen (shp k), .inr (.inr (.inr (.inr (ae G M k (shp k)))))) else .inr (shp k, (List.range (nSl (shp k))).map (fun i => sv G M k i (rfs (shp k) i)))
theorem En_congr {G : GC} {M M' : Mm} {k : Nat} (h : M' k = M k) : En G M' k = En G M k := by
  have h1 : ae G M' k (shp k) = ae G M k (shp k) := by funext i; unfold ae; rw [h]
  have h2 : (fun i => sv G M' k i (rfs (shp k) i)) = (fun i => sv G M k i (rfs (shp k) i)) := by funext i; unfold sv; rw [h]
  unfold En
  rw [h, h1, h2]
theorem En_obj {G : GC} {M : Mm} {k ci : Nat} (hs : shp k = ci) (hc : ci < 20) : En G M k = .inr (ci, (List.range (nSl ci)).map (fun i => sv G M k i (rfs ci i))) := by
  subst hs
  unfold En
  rw [if_neg (by omega), if_neg (by omega)]
theorem En_int {G : GC} {M : Mm} {k L : Nat} (hs : shp k = 1000 + L) : En G M k = .inl (gt G 0, L, .inl (M k)) := by
  unfold En
  rw [if_pos (by omega), hs, Nat.add_sub_cancel_left]
theorem En_arr {G : GC} {M : Mm} {k s : Nat} (hs : shp k = s) (h1 : 20 ≤ s) (h2 : s < 1000) : En G M k = .inl (gt G (s - 19), aLen s, .inr (.inr (.inr (.inr (ae G M k s))))) := by
  subst hs
  unfold En
  rw [if_neg (by omega), if_pos h1]
/-- a reference's flag is set: the phase behind the constructors -/
def RefsOk (M : Mm) : Prop := ∀ k i, k < 221 → (shp k < 20 ∧ rfs (shp k) i ≠ 0 ∨ 20 ≤ shp k ∧ shp k < 1000 ∧ i < aLen (shp k)) → M k i ≠ 0
/-- beyond an array's length all is 0 -/
def Can (M : Mm) : Prop := ∀ k i, 1000 ≤ shp k → shp k - 1000 ≤ i → M k i = 0
/-- phase: cells made, slots made, how many cells of the region stand, 1 behind the constructors -/
abbrev Ph : Type := Nat × Nat × Nat × Nat
def Wd (G : GC) (ph : Ph) (M : Mm) (H : Heap) : Prop := (∀ k, k < ph.2.2.1 → va_at (gD G) vwCl (gb G + k, En G M k) H) ∧ (gb G + ph.2.2.1 ≤ H.size ∧ (ph.2.2.2 ≠ 1 → H.size = gb G + ph.2.2.1)) ∧ (∀ q, q < gb G → H[q]? = (gH G)[q]?) ∧ ((∀ k, ph.2.2.1 ≤ k → M k = fun _ => 0) ∧ Can M) ∧ (ph.2.2.2 = 1 → ph.2.2.1 = 221 ∧ RefsOk M)
def aboveT : List Int32 := [0, 0, 0, 0, 1, 2, 0]
def bodiesT : List Int32 := [10, 11, 12, 13, 20, 0, 0, 21, 0, 30, 0, 0, 0, 0, 40, 0, 50, 0, 51, 0, 0, 60, 0, 0, 70, 71, 0, 0]
def strT : List (List Int32) := [[], [119, 114, 110, 120, 97], [108, 111, 102, 104], [33, 40], [41], [124], [38], [60, 61, 62], [43, 45], [42, 47, 37]]
def strAt (G : GC) (i : Nat) (s : State) : Prop := va_O "java/lang/String" (gK G i) (Ab G) s (gH G) ∧ va_OF "java/lang/String" "coder" "B" (.int 0) (gK G i) (Ab G) s (gH G) ∧ va_OF "java/lang/String" "value" "[B" (.ref (gV G i)) (gK G i) (Ab G) s (gH G) ∧ va_T .byte (gV G i) ((strT.getD i []).length) (fun j => .int ((strT.getD i []).getD j 0)) (Ab G) s (gH G)
def strIdx : List (String × Nat × String × Nat) := [("BreakTime$Reader", 22, "", 0), ("BreakTime", 161, "wrnxa", 1), ("BreakTime", 163, "lofh", 2), ("BreakTime$Reader", 90, "!(", 3), ("BreakTime$Reader", 92, ")", 4), ("BreakTime$Reader", 74, "|", 5), ("BreakTime$Reader", 76, "&", 6), ("BreakTime$Reader", 78, "<=>", 7), ("BreakTime$Reader", 80, "+-", 8), ("BreakTime$Reader", 82, "*/%", 9), ("BreakTimeModel", 24, "wrnxa", 1), ("BreakTimeModel", 26, "lofh", 2)]
/-- arrays over rows of ints -/
def va_AI (s : State) : Prop := (Cond.arrayOver (.array .int)).before #[] s = true
theorem va_AI.use {A : Array Value} {U : State} (h : va_AI U) : (Cond.arrayOver (.array .int)).before A U = true := h
theorem va_AI.moved {u U : State} (hvm : u.vm.Alike U.vm) (h : va_AI u) : va_AI U := Jvm.Stand.arrayOver_alikeB hvm h
def Sx (G : GC) (s : State) : Prop :=
  (va_Z "BreakTime" "ABOVE" "[I" (.ref (gV G 20)) (Ab G) s (gH G) ∧ va_T .int (gV G 20) 7 (fun j => .int (aboveT.getD j 0)) (Ab G) s (gH G)) ∧
  (va_Z "BreakTime" "BODIES" "[I" (.ref (gV G 21)) (Ab G) s (gH G) ∧ va_T .int (gV G 21) 28 (fun j => .int (bodiesT.getD j 0)) (Ab G) s (gH G)) ∧
  (va_Z "java/lang/String" "COMPACT_STRINGS" "Z" (.int 1) (Ab G) s (gH G) ∧ va_Zq "jdk/internal/util/Preconditions" "SIOOBE_FORMATTER" "Ljava/util/function/BiFunction;" (Ab G) s (gH G)) ∧ (∀ i, i < 10 → strAt G i s) ∧ (∀ q ∈ strIdx, vk_R q.1 q.2.1 q.2.2.1 (gK G q.2.2.2) s) ∧
  (∀ q ∈ nestM, va_Nw (.methodLinkNest q.1 q.2.1 q.2.2.1 q.2.2.2) s) ∧ (∀ q ∈ nestF, va_Nw (.fieldLinkNest q.1 q.2.1 q.2.2.1 q.2.2.2.1 q.2.2.2.2.1 q.2.2.2.2.2) s) ∧ (∀ q ∈ overC, va_AO q s) ∧ va_AI s
def VmOk (G : GC) (s : State) : Prop := va_K (gD G) vwCl (tysOf G) s ∧ Sx G s
theorem strAt.moved {G : GC} {i : Nat} {u U : State} (hvm : u.vm.Alike U.vm) (h : strAt G i u) : strAt G i U := ⟨h.1.moved hvm, h.2.1.moved hvm, h.2.2.1.moved hvm, h.2.2.2.moved hvm⟩
theorem VmOk.warm {G : GC} {u U : State} (hw : u.WarmedH U.vm) (h : VmOk G u) : VmOk G U :=
  ⟨h.1.moved hw.alike, ⟨h.2.1.1.moved hw.alike, h.2.1.2.moved hw.alike⟩, ⟨h.2.2.1.1.moved hw.alike, h.2.2.1.2.moved hw.alike⟩, ⟨h.2.2.2.1.1.moved hw.alike, h.2.2.2.1.2.moved hw.alike⟩, fun i hi => (h.2.2.2.2.1 i hi).moved hw.alike, fun q hq => (h.2.2.2.2.2.1 q hq).warm hw, fun q hq => (h.2.2.2.2.2.2.1 q hq).warmM hw, fun q hq => (h.2.2.2.2.2.2.2.1 q hq).warmF hw, fun q hq => (h.2.2.2.2.2.2.2.2.1 q hq).moved hw.alike, h.2.2.2.2.2.2.2.2.2.moved hw.alike⟩
theorem VmOk.same {G : GC} {u U : State} (hv : U.vm = u.vm) (h : VmOk G u) : VmOk G U := by
  have ha : u.vm.Alike U.vm := by rw [hv]; exact Vm.Alike.refl _
  exact ⟨h.1.moved ha, ⟨h.2.1.1.moved ha, h.2.1.2.moved ha⟩, ⟨h.2.2.1.1.moved ha, h.2.2.1.2.moved ha⟩, ⟨h.2.2.2.1.1.moved ha, h.2.2.2.1.2.moved ha⟩, fun i hi => (h.2.2.2.2.1 i hi).moved ha, fun q hq => (h.2.2.2.2.2.1 q hq).same hv, fun q hq => (h.2.2.2.2.2.2.1 q hq).same rfl hv.symm, fun q hq => (h.2.2.2.2.2.2.2.1 q hq).same rfl hv.symm, fun q hq => (h.2.2.2.2.2.2.2.2.1 q hq).moved ha, h.2.2.2.2.2.2.2.2.2.moved ha⟩
/-- a frame -/
abbrev FC : Type := Program × Launch × Env × Room × State × MethodId × Array Value × List Frame × Method × Code × (State → Prop)
def Ctx (f : FC) (G : GC) (own : String) (cc : ByteArray) (nL : Nat) : Prop := match f with
  | (p, _, _, _, s, m, args, _, meth, c, _) => p.tables.exec = Jvm.exec ∧ c.code = cc ∧ c.maxLocals = nL ∧ s.vm.findClass own = some m.cls ∧ (∀ w ∈ lw_w, w.before args s = true) ∧ meth.locks = false ∧ VmOk G s ∧ gb G ≤ s.heap.size ∧ (∀ q, q < gb G → s.heap[q]? = (gH G)[q]?)
def Vc (f : FC) (G : GC) (ph : Ph) (M : Mm) (pc : Nat) (lv : List (Nat × Value)) (st : List Value) : Prop := match f with
  | (p, l, e, R, s, m, args, below, meth, c, Q) => ∀ (H : Heap) (locs : List Loc) (ls : Array Slot), Wd G ph M H → va_S (Ab G) s.heap H locs → lv_has ls c.maxLocals lv → W p l e R s m args below meth c H locs ph.1 ph.2.1 Q (F0 m pc ls st)

section VC
variable {f : FC} {G : GC} {ph : Ph} {M : Mm} {own : String} {cc : ByteArray} {nL pc : Nat} {lv : List (Nat × Value)} {rest : List Value}
theorem v_iconst (C : Ctx f G own cc nL) {n : Int} (v : Int32) (hd : decode cc pc = .ok (.iconst n, 1)) (hv : Int32.ofInt n = v) (k : Vc f G ph M (pc + 1) lv (.int v :: rest)) : Vc f G ph M pc lv (rest) := by
  obtain ⟨p, l, e, R, s, m, args, below, meth, c, Q⟩ := f
  obtain ⟨hx, hb, hml, ho, hts, hlk, hvk, hbs, hlow⟩ := C
  intro H locs ls hW hS hl
  exact lv_iconst hx hb hd hv (k H locs ls hW hS hl)
theorem v_bipush (C : Ctx f G own cc nL) {n : Int} (v : Int32) (hd : decode cc pc = .ok (.bipush n, 2)) (hv : (Int8.ofInt n).toInt32 = v) (k : Vc f G ph M (pc + 2) lv (.int v :: rest)) : Vc f G ph M pc lv (rest) := by
  obtain ⟨p, l, e, R, s, m, args, below, meth, c, Q⟩ := f
  obtain ⟨hx, hb, hml, ho, hts, hlk, hvk, hbs, hlow⟩ := C
  intro H locs ls hW hS hl
  exact lv_bipush hx hb hd hv (k H locs ls hW hS hl)
theorem v_sipush (C : Ctx f G own cc nL) {n : Int} (v : Int32) (hd : decode cc pc = .ok (.sipush n, 3)) (hv : (Int16.ofInt n).toInt32 = v) (k : Vc f G ph M (pc + 3) lv (.int v :: rest)) : Vc f G ph M pc lv (rest) := by
  obtain ⟨p, l, e, R, s, m, args, below, meth, c, Q⟩ := f
  obtain ⟨hx, hb, hml, ho, hts, hlk, hvk, hbs, hlow⟩ := C
  intro H locs ls hW hS hl
  exact lv_sipush hx hb hd hv (k H locs ls hW hS hl)
theorem v_iload_n (C : Ctx f G own cc nL) {k : Fin 4} {x : Int32} (j : Nat) (hd : decode cc pc = .ok (.iload_n k, 1)) (hj : lv[j]? = some ((k : Nat), .int x)) (k : Vc f G ph M (pc + 1) lv (.int x :: rest)) : Vc f G ph M pc lv (rest) := by
  obtain ⟨p, l, e, R, s, m, args, below, meth, c, Q⟩ := f
  obtain ⟨hx, hb, hml, ho, hts, hlk, hvk, hbs, hlow⟩ := C
  intro H locs ls hW hS hl
  exact lv_iload_n hx hb hd rfl (lv_at hl j hj) (k H locs ls hW hS hl)
theorem v_iload (C : Ctx f G own cc nL) {k : Nat} {x : Int32} (j : Nat) (hd : decode cc pc = .ok (.iload k, 2)) (hj : lv[j]? = some (k, .int x)) (k : Vc f G ph M (pc + 2) lv (.int x :: rest)) : Vc f G ph M pc lv (rest) := by
  obtain ⟨p, l, e, R, s, m, args, below, meth, c, Q⟩ := f
  obtain ⟨hx, hb, hml, ho, hts, hlk, hvk, hbs, hlow⟩ := C
  intro H locs ls hW hS hl
  exact lv_iload hx hb hd (lv_at hl j hj) (k H locs ls hW hS hl)
theorem v_lload_n (C : Ctx f G own cc nL) {k : Fin 4} {x : Int64} (j : Nat) (hd : decode cc pc = .ok (.lload_n k, 1)) (hj : lv[j]? = some ((k : Nat), .long x)) (k : Vc f G ph M (pc + 1) lv (.long x :: rest)) : Vc f G ph M pc lv (rest) := by
  obtain ⟨p, l, e, R, s, m, args, below, meth, c, Q⟩ := f
  obtain ⟨hx, hb, hml, ho, hts, hlk, hvk, hbs, hlow⟩ := C
  intro H locs ls hW hS hl
  exact lv_lload_n hx hb hd rfl (lv_at hl j hj) (k H locs ls hW hS hl)
theorem v_lload (C : Ctx f G own cc nL) {k : Nat} {x : Int64} (j : Nat) (hd : decode cc pc = .ok (.lload k, 2)) (hj : lv[j]? = some (k, .long x)) (k : Vc f G ph M (pc + 2) lv (.long x :: rest)) : Vc f G ph M pc lv (rest) := by
  obtain ⟨p, l, e, R, s, m, args, below, meth, c, Q⟩ := f
  obtain ⟨hx, hb, hml, ho, hts, hlk, hvk, hbs, hlow⟩ := C
  intro H locs ls hW hS hl
  exact lv_lload hx hb hd (lv_at hl j hj) (k H locs ls hW hS hl)
theorem v_aload_n (C : Ctx f G own cc nL) {k : Fin 4} {x : Nat} (j : Nat) (hd : decode cc pc = .ok (.aload_n k, 1)) (hj : lv[j]? = some ((k : Nat), .ref x)) (k : Vc f G ph M (pc + 1) lv (.ref x :: rest)) : Vc f G ph M pc lv (rest) := by
  obtain ⟨p, l, e, R, s, m, args, below, meth, c, Q⟩ := f
  obtain ⟨hx, hb, hml, ho, hts, hlk, hvk, hbs, hlow⟩ := C
  intro H locs ls hW hS hl
  exact lv_aload_n hx hb hd rfl (lv_at hl j hj) (k H locs ls hW hS hl)
theorem v_aload (C : Ctx f G own cc nL) {k : Nat} {x : Nat} (j : Nat) (hd : decode cc pc = .ok (.aload k, 2)) (hj : lv[j]? = some (k, .ref x)) (k : Vc f G ph M (pc + 2) lv (.ref x :: rest)) : Vc f G ph M pc lv (rest) := by
  obtain ⟨p, l, e, R, s, m, args, below, meth, c, Q⟩ := f
  obtain ⟨hx, hb, hml, ho, hts, hlk, hvk, hbs, hlow⟩ := C
  intro H locs ls hW hS hl
  exact lv_aload hx hb hd (lv_at hl j hj) (k H locs ls hW hS hl)
theorem v_iadd (C : Ctx f G own cc nL) {x y : Int32} (hd : decode cc pc = .ok (.iadd, 1))  (k : Vc f G ph M (pc + 1) lv (.int (x + y) :: rest)) : Vc f G ph M pc lv (.int y :: .int x :: rest) := by
  obtain ⟨p, l, e, R, s, m, args, below, meth, c, Q⟩ := f
  obtain ⟨hx, hb, hml, ho, hts, hlk, hvk, hbs, hlow⟩ := C
  intro H locs ls hW hS hl
  exact lv_iadd hx hb hd (k H locs ls hW hS hl)
theorem v_isub (C : Ctx f G own cc nL) {x y : Int32} (hd : decode cc pc = .ok (.isub, 1))  (k : Vc f G ph M (pc + 1) lv (.int (x - y) :: rest)) : Vc f G ph M pc lv (.int y :: .int x :: rest) := by
  obtain ⟨p, l, e, R, s, m, args, below, meth, c, Q⟩ := f
  obtain ⟨hx, hb, hml, ho, hts, hlk, hvk, hbs, hlow⟩ := C
  intro H locs ls hW hS hl
  exact lv_isub hx hb hd (k H locs ls hW hS hl)
theorem v_imul (C : Ctx f G own cc nL) {x y : Int32} (hd : decode cc pc = .ok (.imul, 1))  (k : Vc f G ph M (pc + 1) lv (.int (x * y) :: rest)) : Vc f G ph M pc lv (.int y :: .int x :: rest) := by
  obtain ⟨p, l, e, R, s, m, args, below, meth, c, Q⟩ := f
  obtain ⟨hx, hb, hml, ho, hts, hlk, hvk, hbs, hlow⟩ := C
  intro H locs ls hW hS hl
  exact lv_imul hx hb hd (k H locs ls hW hS hl)
theorem v_iand (C : Ctx f G own cc nL) {x y : Int32} (hd : decode cc pc = .ok (.iand, 1))  (k : Vc f G ph M (pc + 1) lv (.int (x &&& y) :: rest)) : Vc f G ph M pc lv (.int y :: .int x :: rest) := by
  obtain ⟨p, l, e, R, s, m, args, below, meth, c, Q⟩ := f
  obtain ⟨hx, hb, hml, ho, hts, hlk, hvk, hbs, hlow⟩ := C
  intro H locs ls hW hS hl
  exact lv_iand hx hb hd (k H locs ls hW hS hl)
theorem v_ior (C : Ctx f G own cc nL) {x y : Int32} (hd : decode cc pc = .ok (.ior, 1))  (k : Vc f G ph M (pc + 1) lv (.int (x ||| y) :: rest)) : Vc f G ph M pc lv (.int y :: .int x :: rest) := by
  obtain ⟨p, l, e, R, s, m, args, below, meth, c, Q⟩ := f
  obtain ⟨hx, hb, hml, ho, hts, hlk, hvk, hbs, hlow⟩ := C
  intro H locs ls hW hS hl
  exact lv_ior hx hb hd (k H locs ls hW hS hl)
theorem v_ixor (C : Ctx f G own cc nL) {x y : Int32} (hd : decode cc pc = .ok (.ixor, 1))  (k : Vc f G ph M (pc + 1) lv (.int (x ^^^ y) :: rest)) : Vc f G ph M pc lv (.int y :: .int x :: rest) := by
  obtain ⟨p, l, e, R, s, m, args, below, meth, c, Q⟩ := f
  obtain ⟨hx, hb, hml, ho, hts, hlk, hvk, hbs, hlow⟩ := C
  intro H locs ls hW hS hl
  exact lv_ixor hx hb hd (k H locs ls hW hS hl)
theorem v_ladd (C : Ctx f G own cc nL) {x y : Int64} (hd : decode cc pc = .ok (.ladd, 1))  (k : Vc f G ph M (pc + 1) lv (.long (x + y) :: rest)) : Vc f G ph M pc lv (.long y :: .long x :: rest) := by
  obtain ⟨p, l, e, R, s, m, args, below, meth, c, Q⟩ := f
  obtain ⟨hx, hb, hml, ho, hts, hlk, hvk, hbs, hlow⟩ := C
  intro H locs ls hW hS hl
  exact lv_ladd hx hb hd (k H locs ls hW hS hl)
theorem v_land (C : Ctx f G own cc nL) {x y : Int64} (hd : decode cc pc = .ok (.land, 1))  (k : Vc f G ph M (pc + 1) lv (.long (x &&& y) :: rest)) : Vc f G ph M pc lv (.long y :: .long x :: rest) := by
  obtain ⟨p, l, e, R, s, m, args, below, meth, c, Q⟩ := f
  obtain ⟨hx, hb, hml, ho, hts, hlk, hvk, hbs, hlow⟩ := C
  intro H locs ls hW hS hl
  exact lv_land hx hb hd (k H locs ls hW hS hl)
theorem v_lor (C : Ctx f G own cc nL) {x y : Int64} (hd : decode cc pc = .ok (.lor, 1))  (k : Vc f G ph M (pc + 1) lv (.long (x ||| y) :: rest)) : Vc f G ph M pc lv (.long y :: .long x :: rest) := by
  obtain ⟨p, l, e, R, s, m, args, below, meth, c, Q⟩ := f
  obtain ⟨hx, hb, hml, ho, hts, hlk, hvk, hbs, hlow⟩ := C
  intro H locs ls hW hS hl
  exact lv_lor hx hb hd (k H locs ls hW hS hl)
theorem v_idiv (C : Ctx f G own cc nL) {x y : Int32} (hd : decode cc pc = .ok (.idiv, 1)) (hne : ¬ y = 0) (k : Vc f G ph M (pc + 1) lv (.int (x / y) :: rest)) : Vc f G ph M pc lv (.int y :: .int x :: rest) := by
  obtain ⟨p, l, e, R, s, m, args, below, meth, c, Q⟩ := f
  obtain ⟨hx, hb, hml, ho, hts, hlk, hvk, hbs, hlow⟩ := C
  intro H locs ls hW hS hl
  exact lv_idiv hx hb hd hne (k H locs ls hW hS hl)
theorem v_irem (C : Ctx f G own cc nL) {x y : Int32} (hd : decode cc pc = .ok (.irem, 1)) (hne : ¬ y = 0) (k : Vc f G ph M (pc + 1) lv (.int (x - x / y * y) :: rest)) : Vc f G ph M pc lv (.int y :: .int x :: rest) := by
  obtain ⟨p, l, e, R, s, m, args, below, meth, c, Q⟩ := f
  obtain ⟨hx, hb, hml, ho, hts, hlk, hvk, hbs, hlow⟩ := C
  intro H locs ls hW hS hl
  exact lv_irem hx hb hd hne (k H locs ls hW hS hl)
theorem v_ineg (C : Ctx f G own cc nL) {x : Int32} (hd : decode cc pc = .ok (.ineg, 1))  (k : Vc f G ph M (pc + 1) lv (.int (-x) :: rest)) : Vc f G ph M pc lv (.int x :: rest) := by
  obtain ⟨p, l, e, R, s, m, args, below, meth, c, Q⟩ := f
  obtain ⟨hx, hb, hml, ho, hts, hlk, hvk, hbs, hlow⟩ := C
  intro H locs ls hW hS hl
  exact lv_ineg hx hb hd (k H locs ls hW hS hl)
theorem v_ishl (C : Ctx f G own cc nL) {x y : Int32} (hd : decode cc pc = .ok (.ishl, 1))  (k : Vc f G ph M (pc + 1) lv (.int (x <<< (y &&& 31)) :: rest)) : Vc f G ph M pc lv (.int y :: .int x :: rest) := by
  obtain ⟨p, l, e, R, s, m, args, below, meth, c, Q⟩ := f
  obtain ⟨hx, hb, hml, ho, hts, hlk, hvk, hbs, hlow⟩ := C
  intro H locs ls hW hS hl
  exact lv_ishl hx hb hd (k H locs ls hW hS hl)
theorem v_ishr (C : Ctx f G own cc nL) {x y : Int32} (hd : decode cc pc = .ok (.ishr, 1))  (k : Vc f G ph M (pc + 1) lv (.int (x >>> (y &&& 31)) :: rest)) : Vc f G ph M pc lv (.int y :: .int x :: rest) := by
  obtain ⟨p, l, e, R, s, m, args, below, meth, c, Q⟩ := f
  obtain ⟨hx, hb, hml, ho, hts, hlk, hvk, hbs, hlow⟩ := C
  intro H locs ls hW hS hl
  exact lv_ishr hx hb hd (k H locs ls hW hS hl)
theorem v_iushr (C : Ctx f G own cc nL) {x y : Int32} (hd : decode cc pc = .ok (.iushr, 1))  (k : Vc f G ph M (pc + 1) lv (.int ((x.toUInt32 >>> (y.toUInt32 &&& Int32.toUInt32 31)).toInt32) :: rest)) : Vc f G ph M pc lv (.int y :: .int x :: rest) := by
  obtain ⟨p, l, e, R, s, m, args, below, meth, c, Q⟩ := f
  obtain ⟨hx, hb, hml, ho, hts, hlk, hvk, hbs, hlow⟩ := C
  intro H locs ls hW hS hl
  exact lv_iushr hx hb hd rfl (k H locs ls hW hS hl)
theorem v_lshl (C : Ctx f G own cc nL) {x : Int64} {y : Int32} (hd : decode cc pc = .ok (.lshl, 1))  (k : Vc f G ph M (pc + 1) lv (.long (x <<< (y.toInt64 &&& 63)) :: rest)) : Vc f G ph M pc lv (.int y :: .long x :: rest) := by
  obtain ⟨p, l, e, R, s, m, args, below, meth, c, Q⟩ := f
  obtain ⟨hx, hb, hml, ho, hts, hlk, hvk, hbs, hlow⟩ := C
  intro H locs ls hW hS hl
  exact lv_lshl hx hb hd rfl (k H locs ls hW hS hl)
theorem v_lshr (C : Ctx f G own cc nL) {x : Int64} {y : Int32} (hd : decode cc pc = .ok (.lshr, 1))  (k : Vc f G ph M (pc + 1) lv (.long (x >>> (y.toInt64 &&& 63)) :: rest)) : Vc f G ph M pc lv (.int y :: .long x :: rest) := by
  obtain ⟨p, l, e, R, s, m, args, below, meth, c, Q⟩ := f
  obtain ⟨hx, hb, hml, ho, hts, hlk, hvk, hbs, hlow⟩ := C
  intro H locs ls hW hS hl
  exact lv_lshr hx hb hd rfl (k H locs ls hW hS hl)
theorem v_i2l (C : Ctx f G own cc nL) {x : Int32} (hd : decode cc pc = .ok (.i2l, 1))  (k : Vc f G ph M (pc + 1) lv (.long x.toInt64 :: rest)) : Vc f G ph M pc lv (.int x :: rest) := by
  obtain ⟨p, l, e, R, s, m, args, below, meth, c, Q⟩ := f
  obtain ⟨hx, hb, hml, ho, hts, hlk, hvk, hbs, hlow⟩ := C
  intro H locs ls hW hS hl
  exact lv_i2l hx hb hd rfl (k H locs ls hW hS hl)
theorem v_l2i (C : Ctx f G own cc nL) {x : Int64} (hd : decode cc pc = .ok (.l2i, 1))  (k : Vc f G ph M (pc + 1) lv (.int x.toInt32 :: rest)) : Vc f G ph M pc lv (.long x :: rest) := by
  obtain ⟨p, l, e, R, s, m, args, below, meth, c, Q⟩ := f
  obtain ⟨hx, hb, hml, ho, hts, hlk, hvk, hbs, hlow⟩ := C
  intro H locs ls hW hS hl
  exact lv_l2i hx hb hd rfl (k H locs ls hW hS hl)
theorem v_i2b (C : Ctx f G own cc nL) {x : Int32} (hd : decode cc pc = .ok (.i2b, 1))  (k : Vc f G ph M (pc + 1) lv (.int x.toInt8.toInt32 :: rest)) : Vc f G ph M pc lv (.int x :: rest) := by
  obtain ⟨p, l, e, R, s, m, args, below, meth, c, Q⟩ := f
  obtain ⟨hx, hb, hml, ho, hts, hlk, hvk, hbs, hlow⟩ := C
  intro H locs ls hW hS hl
  exact lv_i2b hx hb hd rfl (k H locs ls hW hS hl)
theorem v_i2s (C : Ctx f G own cc nL) {x : Int32} (hd : decode cc pc = .ok (.i2s, 1))  (k : Vc f G ph M (pc + 1) lv (.int x.toInt16.toInt32 :: rest)) : Vc f G ph M pc lv (.int x :: rest) := by
  obtain ⟨p, l, e, R, s, m, args, below, meth, c, Q⟩ := f
  obtain ⟨hx, hb, hml, ho, hts, hlk, hvk, hbs, hlow⟩ := C
  intro H locs ls hW hS hl
  exact lv_i2s hx hb hd rfl (k H locs ls hW hS hl)
theorem v_i2c (C : Ctx f G own cc nL) {x : Int32} (hd : decode cc pc = .ok (.i2c, 1))  (k : Vc f G ph M (pc + 1) lv (.int ((x.toUInt32 % 65536).toInt32) :: rest)) : Vc f G ph M pc lv (.int x :: rest) := by
  obtain ⟨p, l, e, R, s, m, args, below, meth, c, Q⟩ := f
  obtain ⟨hx, hb, hml, ho, hts, hlk, hvk, hbs, hlow⟩ := C
  intro H locs ls hW hS hl
  exact lv_i2c hx hb hd rfl (k H locs ls hW hS hl)
theorem v_dup (C : Ctx f G own cc nL) {va : Value} (hd : decode cc pc = .ok (.dup, 1)) (hva : va.category = 1) (k : Vc f G ph M (pc + 1) lv (va :: va :: rest)) : Vc f G ph M pc lv (va :: rest) := by
  obtain ⟨p, l, e, R, s, m, args, below, meth, c, Q⟩ := f
  obtain ⟨hx, hb, hml, ho, hts, hlk, hvk, hbs, hlow⟩ := C
  intro H locs ls hW hS hl
  exact lv_dup hx hb hd hva (k H locs ls hW hS hl)
theorem v_pop (C : Ctx f G own cc nL) {va : Value} (hd : decode cc pc = .ok (.pop, 1)) (hva : va.category = 1) (k : Vc f G ph M (pc + 1) lv (rest)) : Vc f G ph M pc lv (va :: rest) := by
  obtain ⟨p, l, e, R, s, m, args, below, meth, c, Q⟩ := f
  obtain ⟨hx, hb, hml, ho, hts, hlk, hvk, hbs, hlow⟩ := C
  intro H locs ls hW hS hl
  exact lv_pop hx hb hd hva (k H locs ls hW hS hl)
theorem v_dup2 (C : Ctx f G own cc nL) {va vb : Value} (hd : decode cc pc = .ok (.dup2, 1)) (hva : va.category = 1) (hvb : vb.category = 1) (k : Vc f G ph M (pc + 1) lv (va :: vb :: va :: vb :: rest)) : Vc f G ph M pc lv (va :: vb :: rest) := by
  obtain ⟨p, l, e, R, s, m, args, below, meth, c, Q⟩ := f
  obtain ⟨hx, hb, hml, ho, hts, hlk, hvk, hbs, hlow⟩ := C
  intro H locs ls hW hS hl
  exact lv_dup2_11 hx hb hd hva hvb (k H locs ls hW hS hl)
theorem v_lcmp (C : Ctx f G own cc nL) {x y : Int64} (hd : decode cc pc = .ok (.lcmp, 1))  (k : Vc f G ph M (pc + 1) lv (.int (lg_cmp x y) :: rest)) : Vc f G ph M pc lv (.long y :: .long x :: rest) := by
  obtain ⟨p, l, e, R, s, m, args, below, meth, c, Q⟩ := f
  obtain ⟨hx, hb, hml, ho, hts, hlk, hvk, hbs, hlow⟩ := C
  intro H locs ls hW hS hl
  exact W.lcmp hx hb hd (k H locs ls hW hS hl)
theorem v_istore_n (C : Ctx f G own cc nL) {k : Fin 4} {i : Nat} {x : Int32} (lv' : List (Nat × Value)) (hd : decode cc pc = .ok (.istore_n k, 1)) (hi : (k : Nat) = i) (hn : i < nL) (hlv : (i, Value.int x) :: lv.filter (fun q => !(q.1 == i) && !(q.1 + 1 == i && q.2.category == 2)) = lv') (k : Vc f G ph M (pc + 1) lv' rest) : Vc f G ph M pc lv (.int x :: rest) := by
  obtain ⟨p, l, e, R, s, m, args, below, meth, c, Q⟩ := f
  obtain ⟨hx, hb, hml, ho, hts, hlk, hvk, hbs, hlow⟩ := C
  intro H locs ls hW hS hl
  subst hml
  exact lv_istore_n hx hb hd hi hl hn hlv (fun ls' hl' => k H locs ls' hW hS hl')
theorem v_istore (C : Ctx f G own cc nL) {i : Nat} {x : Int32} (lv' : List (Nat × Value)) (hd : decode cc pc = .ok (.istore i, 2)) (hn : i < nL) (hlv : (i, Value.int x) :: lv.filter (fun q => !(q.1 == i) && !(q.1 + 1 == i && q.2.category == 2)) = lv') (k : Vc f G ph M (pc + 2) lv' rest) : Vc f G ph M pc lv (.int x :: rest) := by
  obtain ⟨p, l, e, R, s, m, args, below, meth, c, Q⟩ := f
  obtain ⟨hx, hb, hml, ho, hts, hlk, hvk, hbs, hlow⟩ := C
  intro H locs ls hW hS hl
  subst hml
  exact lv_istore hx hb hd hl hn hlv (fun ls' hl' => k H locs ls' hW hS hl')
theorem v_astore_n (C : Ctx f G own cc nL) {k : Fin 4} {i : Nat} {x : Nat} (lv' : List (Nat × Value)) (hd : decode cc pc = .ok (.astore_n k, 1)) (hi : (k : Nat) = i) (hn : i < nL) (hlv : (i, Value.ref x) :: lv.filter (fun q => !(q.1 == i) && !(q.1 + 1 == i && q.2.category == 2)) = lv') (k : Vc f G ph M (pc + 1) lv' rest) : Vc f G ph M pc lv (.ref x :: rest) := by
  obtain ⟨p, l, e, R, s, m, args, below, meth, c, Q⟩ := f
  obtain ⟨hx, hb, hml, ho, hts, hlk, hvk, hbs, hlow⟩ := C
  intro H locs ls hW hS hl
  subst hml
  exact lv_astore_n hx hb hd hi hl hn hlv (fun ls' hl' => k H locs ls' hW hS hl')
theorem v_astore (C : Ctx f G own cc nL) {i : Nat} {x : Nat} (lv' : List (Nat × Value)) (hd : decode cc pc = .ok (.astore i, 2)) (hn : i < nL) (hlv : (i, Value.ref x) :: lv.filter (fun q => !(q.1 == i) && !(q.1 + 1 == i && q.2.category == 2)) = lv') (k : Vc f G ph M (pc + 2) lv' rest) : Vc f G ph M pc lv (.ref x :: rest) := by
  obtain ⟨p, l, e, R, s, m, args, below, meth, c, Q⟩ := f
  obtain ⟨hx, hb, hml, ho, hts, hlk, hvk, hbs, hlow⟩ := C
  intro H locs ls hW hS hl
  subst hml
  exact lv_astore hx hb hd hl hn hlv (fun ls' hl' => k H locs ls' hW hS hl')
theorem v_iinc (C : Ctx f G own cc nL) {i : Nat} {n : Int} {x : Int32} (v : Int32) (j : Nat) (lv' : List (Nat × Value)) (hd : decode cc pc = .ok (.iinc i n, 3)) (hj : lv[j]? = some (i, .int x)) (hv : x + Int32.ofInt n = v) (hn : i < nL) (hlv : (i, Value.int v) :: lv.filter (fun q => !(q.1 == i) && !(q.1 + 1 == i && q.2.category == 2)) = lv') (k : Vc f G ph M (pc + 3) lv' rest) : Vc f G ph M pc lv rest := by
  obtain ⟨p, l, e, R, s, m, args, below, meth, c, Q⟩ := f
  obtain ⟨hx, hb, hml, ho, hts, hlk, hvk, hbs, hlow⟩ := C
  intro H locs ls hW hS hl
  subst hml
  exact lv_iinc hx hb hd hl hj hv hn hlv (fun ls' hl' => k H locs ls' hW hS hl')
theorem v_if_eq (C : Ctx f G own cc nL) {x : Int32} {off : Int} (tgt : Nat) (hd : decode cc pc = .ok (.ifCond .eq off, 3)) (ht : (pc : Int) + off = (tgt : Int)) (kt : x = 0 → Vc f G ph M tgt lv rest) (kf : ¬ x = 0 → Vc f G ph M (pc + 3) lv rest) : Vc f G ph M pc lv (.int x :: rest) := by
  obtain ⟨p, l, e, R, s, m, args, below, meth, c, Q⟩ := f
  obtain ⟨hx, hb, hml, ho, hts, hlk, hvk, hbs, hlow⟩ := C
  intro H locs ls hW hS hl
  exact lv_if_eq hx hb hd ht (fun q => kt q H locs ls hW hS hl) (fun q => kf q H locs ls hW hS hl)
theorem v_icmp_eq (C : Ctx f G own cc nL) {x y : Int32} {off : Int} (tgt : Nat) (hd : decode cc pc = .ok (.if_icmp .eq off, 3)) (ht : (pc : Int) + off = (tgt : Int)) (kt : x = y → Vc f G ph M tgt lv rest) (kf : ¬ x = y → Vc f G ph M (pc + 3) lv rest) : Vc f G ph M pc lv (.int y :: .int x :: rest) := by
  obtain ⟨p, l, e, R, s, m, args, below, meth, c, Q⟩ := f
  obtain ⟨hx, hb, hml, ho, hts, hlk, hvk, hbs, hlow⟩ := C
  intro H locs ls hW hS hl
  exact lv_icmp_eq hx hb hd ht (fun q => kt q H locs ls hW hS hl) (fun q => kf q H locs ls hW hS hl)
theorem v_if_ne (C : Ctx f G own cc nL) {x : Int32} {off : Int} (tgt : Nat) (hd : decode cc pc = .ok (.ifCond .ne off, 3)) (ht : (pc : Int) + off = (tgt : Int)) (kt : ¬ x = 0 → Vc f G ph M tgt lv rest) (kf : x = 0 → Vc f G ph M (pc + 3) lv rest) : Vc f G ph M pc lv (.int x :: rest) := by
  obtain ⟨p, l, e, R, s, m, args, below, meth, c, Q⟩ := f
  obtain ⟨hx, hb, hml, ho, hts, hlk, hvk, hbs, hlow⟩ := C
  intro H locs ls hW hS hl
  exact lv_if_ne hx hb hd ht (fun q => kt q H locs ls hW hS hl) (fun q => kf q H locs ls hW hS hl)
theorem v_icmp_ne (C : Ctx f G own cc nL) {x y : Int32} {off : Int} (tgt : Nat) (hd : decode cc pc = .ok (.if_icmp .ne off, 3)) (ht : (pc : Int) + off = (tgt : Int)) (kt : ¬ x = y → Vc f G ph M tgt lv rest) (kf : x = y → Vc f G ph M (pc + 3) lv rest) : Vc f G ph M pc lv (.int y :: .int x :: rest) := by
  obtain ⟨p, l, e, R, s, m, args, below, meth, c, Q⟩ := f
  obtain ⟨hx, hb, hml, ho, hts, hlk, hvk, hbs, hlow⟩ := C
  intro H locs ls hW hS hl
  exact lv_icmp_ne hx hb hd ht (fun q => kt q H locs ls hW hS hl) (fun q => kf q H locs ls hW hS hl)
theorem v_if_lt (C : Ctx f G own cc nL) {x : Int32} {off : Int} (tgt : Nat) (hd : decode cc pc = .ok (.ifCond .lt off, 3)) (ht : (pc : Int) + off = (tgt : Int)) (kt : x < 0 → Vc f G ph M tgt lv rest) (kf : ¬ x < 0 → Vc f G ph M (pc + 3) lv rest) : Vc f G ph M pc lv (.int x :: rest) := by
  obtain ⟨p, l, e, R, s, m, args, below, meth, c, Q⟩ := f
  obtain ⟨hx, hb, hml, ho, hts, hlk, hvk, hbs, hlow⟩ := C
  intro H locs ls hW hS hl
  exact lv_if_lt hx hb hd ht (fun q => kt q H locs ls hW hS hl) (fun q => kf q H locs ls hW hS hl)
theorem v_icmp_lt (C : Ctx f G own cc nL) {x y : Int32} {off : Int} (tgt : Nat) (hd : decode cc pc = .ok (.if_icmp .lt off, 3)) (ht : (pc : Int) + off = (tgt : Int)) (kt : x < y → Vc f G ph M tgt lv rest) (kf : ¬ x < y → Vc f G ph M (pc + 3) lv rest) : Vc f G ph M pc lv (.int y :: .int x :: rest) := by
  obtain ⟨p, l, e, R, s, m, args, below, meth, c, Q⟩ := f
  obtain ⟨hx, hb, hml, ho, hts, hlk, hvk, hbs, hlow⟩ := C
  intro H locs ls hW hS hl
  exact lv_icmp_lt hx hb hd ht (fun q => kt q H locs ls hW hS hl) (fun q => kf q H locs ls hW hS hl)
theorem v_if_ge (C : Ctx f G own cc nL) {x : Int32} {off : Int} (tgt : Nat) (hd : decode cc pc = .ok (.ifCond .ge off, 3)) (ht : (pc : Int) + off = (tgt : Int)) (kt : 0 ≤ x → Vc f G ph M tgt lv rest) (kf : ¬ 0 ≤ x → Vc f G ph M (pc + 3) lv rest) : Vc f G ph M pc lv (.int x :: rest) := by
  obtain ⟨p, l, e, R, s, m, args, below, meth, c, Q⟩ := f
  obtain ⟨hx, hb, hml, ho, hts, hlk, hvk, hbs, hlow⟩ := C
  intro H locs ls hW hS hl
  exact lv_if_ge hx hb hd ht (fun q => kt q H locs ls hW hS hl) (fun q => kf q H locs ls hW hS hl)
theorem v_icmp_ge (C : Ctx f G own cc nL) {x y : Int32} {off : Int} (tgt : Nat) (hd : decode cc pc = .ok (.if_icmp .ge off, 3)) (ht : (pc : Int) + off = (tgt : Int)) (kt : y ≤ x → Vc f G ph M tgt lv rest) (kf : ¬ y ≤ x → Vc f G ph M (pc + 3) lv rest) : Vc f G ph M pc lv (.int y :: .int x :: rest) := by
  obtain ⟨p, l, e, R, s, m, args, below, meth, c, Q⟩ := f
  obtain ⟨hx, hb, hml, ho, hts, hlk, hvk, hbs, hlow⟩ := C
  intro H locs ls hW hS hl
  exact lv_icmp_ge hx hb hd ht (fun q => kt q H locs ls hW hS hl) (fun q => kf q H locs ls hW hS hl)
theorem v_if_gt (C : Ctx f G own cc nL) {x : Int32} {off : Int} (tgt : Nat) (hd : decode cc pc = .ok (.ifCond .gt off, 3)) (ht : (pc : Int) + off = (tgt : Int)) (kt : 0 < x → Vc f G ph M tgt lv rest) (kf : ¬ 0 < x → Vc f G ph M (pc + 3) lv rest) : Vc f G ph M pc lv (.int x :: rest) := by
  obtain ⟨p, l, e, R, s, m, args, below, meth, c, Q⟩ := f
  obtain ⟨hx, hb, hml, ho, hts, hlk, hvk, hbs, hlow⟩ := C
  intro H locs ls hW hS hl
  exact lv_if_gt hx hb hd ht (fun q => kt q H locs ls hW hS hl) (fun q => kf q H locs ls hW hS hl)
theorem v_icmp_gt (C : Ctx f G own cc nL) {x y : Int32} {off : Int} (tgt : Nat) (hd : decode cc pc = .ok (.if_icmp .gt off, 3)) (ht : (pc : Int) + off = (tgt : Int)) (kt : y < x → Vc f G ph M tgt lv rest) (kf : ¬ y < x → Vc f G ph M (pc + 3) lv rest) : Vc f G ph M pc lv (.int y :: .int x :: rest) := by
  obtain ⟨p, l, e, R, s, m, args, below, meth, c, Q⟩ := f
  obtain ⟨hx, hb, hml, ho, hts, hlk, hvk, hbs, hlow⟩ := C
  intro H locs ls hW hS hl
  exact lv_icmp_gt hx hb hd ht (fun q => kt q H locs ls hW hS hl) (fun q => kf q H locs ls hW hS hl)
theorem v_if_le (C : Ctx f G own cc nL) {x : Int32} {off : Int} (tgt : Nat) (hd : decode cc pc = .ok (.ifCond .le off, 3)) (ht : (pc : Int) + off = (tgt : Int)) (kt : x ≤ 0 → Vc f G ph M tgt lv rest) (kf : ¬ x ≤ 0 → Vc f G ph M (pc + 3) lv rest) : Vc f G ph M pc lv (.int x :: rest) := by
  obtain ⟨p, l, e, R, s, m, args, below, meth, c, Q⟩ := f
  obtain ⟨hx, hb, hml, ho, hts, hlk, hvk, hbs, hlow⟩ := C
  intro H locs ls hW hS hl
  exact lv_if_le hx hb hd ht (fun q => kt q H locs ls hW hS hl) (fun q => kf q H locs ls hW hS hl)
theorem v_icmp_le (C : Ctx f G own cc nL) {x y : Int32} {off : Int} (tgt : Nat) (hd : decode cc pc = .ok (.if_icmp .le off, 3)) (ht : (pc : Int) + off = (tgt : Int)) (kt : x ≤ y → Vc f G ph M tgt lv rest) (kf : ¬ x ≤ y → Vc f G ph M (pc + 3) lv rest) : Vc f G ph M pc lv (.int y :: .int x :: rest) := by
  obtain ⟨p, l, e, R, s, m, args, below, meth, c, Q⟩ := f
  obtain ⟨hx, hb, hml, ho, hts, hlk, hvk, hbs, hlow⟩ := C
  intro H locs ls hW hS hl
  exact lv_icmp_le hx hb hd ht (fun q => kt q H locs ls hW hS hl) (fun q => kf q H locs ls hW hS hl)
theorem v_goto (C : Ctx f G own cc nL) {off : Int} (tgt : Nat) (hd : decode cc pc = .ok (.goto off, 3)) (ht : (pc : Int) + off = (tgt : Int)) (k : Vc f G ph M tgt lv rest) : Vc f G ph M pc lv rest := by
  obtain ⟨p, l, e, R, s, m, args, below, meth, c, Q⟩ := f
  obtain ⟨hx, hb, hml, ho, hts, hlk, hvk, hbs, hlow⟩ := C
  intro H locs ls hW hS hl
  exact lv_goto hx hb hd ht (k H locs ls hW hS hl)
theorem v_tableIn (C : Ctx f G own cc nL) {dflt lo hi : Int} {offs : Array Int} {len : Nat} {x : Int32} {off : Int} (tgt : Nat) (hd : decode cc pc = .ok (.tableswitch dflt lo hi offs, len)) (h1 : ¬ x.toInt < lo) (h2 : ¬ hi < x.toInt) (hof : offs[(x.toInt - lo).toNat]? = some off) (ht : (pc : Int) + off = (tgt : Int)) (k : Vc f G ph M tgt lv rest) : Vc f G ph M pc lv (.int x :: rest) := by
  obtain ⟨p, l, e, R, s, m, args, below, meth, c, Q⟩ := f
  obtain ⟨hx, hb, hml, ho, hts, hlk, hvk, hbs, hlow⟩ := C
  intro H locs ls hW hS hl
  exact lv_tableIn hx hb hd h1 h2 hof ht (k H locs ls hW hS hl)
theorem v_tableOut (C : Ctx f G own cc nL) {dflt lo hi : Int} {offs : Array Int} {len : Nat} {x : Int32} (tgt : Nat) (hd : decode cc pc = .ok (.tableswitch dflt lo hi offs, len)) (h : x.toInt < lo ∨ hi < x.toInt) (ht : (pc : Int) + dflt = (tgt : Int)) (k : Vc f G ph M tgt lv rest) : Vc f G ph M pc lv (.int x :: rest) := by
  obtain ⟨p, l, e, R, s, m, args, below, meth, c, Q⟩ := f
  obtain ⟨hx, hb, hml, ho, hts, hlk, hvk, hbs, hlow⟩ := C
  intro H locs ls hW hS hl
  exact lv_tableOut hx hb hd h ht (k H locs ls hW hS hl)
theorem v_lookup (C : Ctx f G own cc nL) {dflt : Int} {ps : Array (Int × Int)} {len : Nat} {x : Int32} {off : Int} (tgt : Nat) (hd : decode cc pc = .ok (.lookupswitch dflt ps, len)) (hp : (ps.toList.zip (ps.toList.drop 1)).all (fun (a, next) => a.1 < next.1) = true) (hof : Op.lookupswitch.offset ps.toList dflt x.toInt = off) (ht : (pc : Int) + off = (tgt : Int)) (k : Vc f G ph M tgt lv rest) : Vc f G ph M pc lv (.int x :: rest) := by
  obtain ⟨p, l, e, R, s, m, args, below, meth, c, Q⟩ := f
  obtain ⟨hx, hb, hml, ho, hts, hlk, hvk, hbs, hlow⟩ := C
  intro H locs ls hW hS hl
  exact lv_lookup hx hb hd hp hof ht (k H locs ls hW hS hl)
theorem v_ldc (C : Ctx f G own cc nL) {index : Nat} (v : Int32) (hc : Jvm.Cond.constant own index v ∈ lw_w) (hd : decode cc pc = .ok (.ldc index, 2)) (k : Vc f G ph M (pc + 2) lv (.int v :: rest)) : Vc f G ph M pc lv rest := by
  obtain ⟨p, l, e, R, s, m, args, below, meth, c, Q⟩ := f
  obtain ⟨hx, hb, hml, ho, hts, hlk, hvk, hbs, hlow⟩ := C
  intro H locs ls hW hS hl
  exact lv_ldc hx hb ho (hts _ hc) hd (k H locs ls hW hS hl)
theorem v_ldcw (C : Ctx f G own cc nL) {index : Nat} (v : Int32) (hc : Jvm.Cond.constant own index v ∈ lw_w) (hd : decode cc pc = .ok (.ldc_w index, 3)) (k : Vc f G ph M (pc + 3) lv (.int v :: rest)) : Vc f G ph M pc lv rest := by
  obtain ⟨p, l, e, R, s, m, args, below, meth, c, Q⟩ := f
  obtain ⟨hx, hb, hml, ho, hts, hlk, hvk, hbs, hlow⟩ := C
  intro H locs ls hW hS hl
  exact lv_ldcw hx hb ho (hts _ hc) hd (k H locs ls hW hS hl)
theorem v_ldc2 (C : Ctx f G own cc nL) {index : Nat} (v : Int64) (hc : Jvm.Cond.constantLong own index v ∈ lw_w) (hd : decode cc pc = .ok (.ldc2_w index, 3)) (k : Vc f G ph M (pc + 3) lv (.long v :: rest)) : Vc f G ph M pc lv rest := by
  obtain ⟨p, l, e, R, s, m, args, below, meth, c, Q⟩ := f
  obtain ⟨hx, hb, hml, ho, hts, hlk, hvk, hbs, hlow⟩ := C
  intro H locs ls hW hS hl
  exact lv_ldc2 hx hb ho (hts _ hc) hd (k H locs ls hW hS hl)
theorem v_ldcS (C : Ctx f G own cc nL) {index : Nat} (tx : String) (i : Nat) (hc : (own, index, tx, i) ∈ strIdx) (hd : decode cc pc = .ok (.ldc index, 2)) (k : Vc f G ph M (pc + 2) lv (.ref (gK G i) :: rest)) : Vc f G ph M pc lv rest := by
  obtain ⟨p, l, e, R, s, m, args, below, meth, c, Q⟩ := f
  obtain ⟨hx, hb, hml, ho, hts, hlk, hvk, hbs, hlow⟩ := C
  intro H locs ls hW hS hl
  exact va_ldcS hx hb ho (hvk.2.2.2.2.2.1 _ hc) hd (k H locs ls hW hS hl)
theorem v_can {st : List Value} (k : Can M → Vc f G ph M pc lv st) : Vc f G ph M pc lv st := by
  obtain ⟨p, l, e, R, s, m, args, below, meth, c, Q⟩ := f
  intro H locs ls hW hS hl
  exact k hW.2.2.2.1.2 H locs ls hW hS hl
theorem v_sub (ks : List Nat) (lv' : List (Nat × Value)) (h : lv_pick lv ks = lv') {st : List Value} (k : Vc f G ph M pc lv' st) : Vc f G ph M pc lv st := by
  obtain ⟨p, l, e, R, s, m, args, below, meth, c, Q⟩ := f
  intro H locs ls hW hS hl
  exact k H locs ls hW hS (lv_sub hl ks h)
theorem v_top {x : Int32} (y : Int32) (h : x = y) (k : Vc f G ph M pc lv (.int y :: rest)) : Vc f G ph M pc lv (.int x :: rest) := h ▸ k
theorem v_mem (M' : Mm) (h : M = M') {st : List Value} (k : Vc f G ph M' pc lv st) : Vc f G ph M pc lv st := h ▸ k

end VC
