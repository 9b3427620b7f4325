def R_law : String := "BreakTimeLaw"
def lw_P (b : Addr) (xs : List Int32) (args : Array Value) (s : State) : Prop := args = #[.ref b] ∧ s.IntsAt b xs ∧ xs.length ≤ 384 ∧ (Jvm.Cond.and given_1 narrow_1).before args s = true
def lw_Q (_ : Array Value) (s : State) (o : Outcome) (t : State) : Prop := o = .returned (some (.int 1)) ∧ Framed s o t [] 600000 7302250
def lw_Z (below : List Frame) (a : Array Value) (s : State) : State → Prop := fun t => ∃ o, t.status = .running ∧ Ended t below o ∧ lw_Q a s o t
/-- the law's own end, with 1 on the stack, nothing written that was there before, its room as the claim has it -/
theorem lw_ret {p : Program} {l : Launch} {e : Env} {s : State} {m : MethodId} {below : List Frame} {meth : Method} {c : Code} {b : Nat} (hx : p.tables.exec = Jvm.exec) (hb : c.code = code) (hr : meth.sig.returnType = ret) (hlocks : meth.locks = false) {pc : Nat} {H : Heap} {ls : Array Slot} (hdg : decode code pc = .ok (.ireturn, 1)) : W p l e room_1 s m #[Value.ref b] below meth c H [] 600000 7302250 (lw_Z below #[Value.ref b] s) (F0 m pc ls [.int 1]) := by
  intro T hT X
  obtain ⟨fs, hret, hrun, hended, hW, hframe⟩ := X.leave (v := some (.int 1)) (hlocks := hlocks) (fun h => by rw [hr] at h; cases h)
  have hmeth' : T.vm.method? m = some meth := X.method'
  refine ⟨T.setFrames fs, ?_, .returned (some (.int 1)), hrun, hended, rfl, ⟨_, rfl⟩, hW, hframe⟩
  jvm_step X.here [X.here.top, hx, hb, hdg, hmeth', hr, ret, narrow_b1]
  (try refine ⟨rfl, ?_⟩); (try refine ⟨rfl, ?_⟩)
  first | (intro acts; rw [hret _ acts rfl rfl rfl]) | rw [hret _ _ rfl rfl rfl]
  exact Steps.refl _
/-- what holds at the law's entry: the machine, the code, the tables' words (any of lw_tbl by 'hts w (by decide +kernel)'), the script of L ints xs at the cell b, what the Statement gives of the start (any of its parts by flat_of_before) -/
def lw_At (p : Program) (s : State) (m : MethodId) (meth : Method) (c : Code) (b L : Nat) (xs : Nat → Int32) : Prop :=
  p.tables.exec = Jvm.exec ∧ c.code = code ∧ meth.sig.returnType = ret ∧ c.maxLocals = 4 ∧ s.vm.findClass R_law = some m.cls ∧ (∀ w ∈ lw_tbl, w.before #[Value.ref b] s = true) ∧ va_X b L xs s s.heap ∧ b < s.heap.size ∧ meth.locks = false ∧ (Jvm.Cond.and given_1 narrow_1).before #[Value.ref b] s = true

def Scr (f : FC) (b L : Nat) (xs : Nat → Int32) : Prop := match f with
  | (_, _, _, _, s, _, _, _, _, _, _) => va_X b L xs s s.heap ∧ b < s.heap.size
section
variable {f : FC} {G : GC} {ph : Ph} {M : Mm} {own : String} {cc : ByteArray} {nL pc : Nat} {lv : List (Nat × Value)} {rest : List Value}
theorem l_sld (C : Ctx f G own cc nL) {b L : Nat} {xs : Nat → Int32} (hs : Scr f b L xs) (hbG : b < gb G) {j : Nat} (hj : j < L) (hL : L < 2 ^ 31) (hd : decode cc pc = .ok (.iaload, 1)) (kk : Vc f G ph M (pc + 1) lv (.int (xs j) :: rest)) : Vc f G ph M pc lv (.int (nI j) :: .ref b :: rest) := by
  obtain ⟨p, l, e, R, s, m, args, below, meth, c, Q⟩ := f
  obtain ⟨hx, hb, hml, ho, hts, hlk, hvk, hbs, hlow⟩ := C
  intro H locs ls hW hS hl
  refine va_sld hx hb hs.1 hs.2 (show ¬ gb G ≤ b by omega) hS (i := nI j) (nI_in hj hL) hd ?_
  rw [nI_clamp (by omega)]
  exact kk H locs ls hW hS hl
theorem l_slen (C : Ctx f G own cc nL) {b L : Nat} {xs : Nat → Int32} (hs : Scr f b L xs) (hbG : b < gb G) (hd : decode cc pc = .ok (.arraylength, 1)) (kk : Vc f G ph M (pc + 1) lv (.int (nI L) :: rest)) : Vc f G ph M pc lv (.ref b :: rest) := by
  obtain ⟨p, l, e, R, s, m, args, below, meth, c, Q⟩ := f
  obtain ⟨hx, hb, hml, ho, hts, hlk, hvk, hbs, hlow⟩ := C
  intro H locs ls hW hS hl
  exact va_slen hx hb hs.1 hs.2 (show ¬ gb G ≤ b by omega) hS hd (kk H locs ls hW hS hl)
theorem l_call (C : Ctx f G own cc nL) {l : Launch} {D DK DS dk ds : Nat} (hRm : Rm f l D DK DS) (hdk : dk ≤ DK ∧ ds ≤ DS) {y : MethodName} {cy : ByteArray} {nLy : Nat} {rt : FieldType} {d : Nat} {P : Mm → Prop} {r : Int32} {k ci index nn : Nat} {st : List Value} {T : u_T} {N : Nat} (As : List Value) (cw : CwV y cy nLy (some rt) nn) (hlink : Cond.methodLink own index y ∈ lw_w) (hk : k < 221) (hs : shp k = ci) (hci : ci < 20) (hcl : vwCl[ci]? = some (y.cls, T, N)) (hc : CI l G d y cy nLy rt (.ref (gb G + k) :: As) M r P) (hD : d + 1 ≤ D) (hn : As.length = nn) (hst : st = As.reverse ++ .ref (gb G + k) :: rest) (hrest : (rest.map fun v => v.category).sum ≤ 8) (hd : decode cc pc = .ok (.invokevirtual index, 3)) (kk : ∀ M', P M' → Vc f G (dk, ds, 221, 1) M' (pc + 3) lv (.int r :: rest)) : Vc f G (dk, ds, 221, 1) M pc lv st := v_callV (ph := (dk, ds, 221, 1)) C hRm cw hlink hk hs hci hcl hc hD hdk hn hst hrest hd (fun v M' h => by obtain ⟨rfl, hP⟩ := h; exact kk M' hP)
end
abbrev lwLV (G : GC) (b i : Nat) : List (Nat × Value) := [(3, .int (nI i)), (0, .ref b), (1, .ref (gb G + 0)), (2, .ref (gb G + 205))]
def LwF (f : FC) (G : GC) (l : Launch) (dk ds b L : Nat) (xs : Nat → Int32) : Prop := Ctx f G RL cL_law 4 ∧ Rm f l 2000 dk ds ∧ Scr f b L xs ∧ b < gb G ∧ L ≤ 384
theorem and63 (x : Int32) : ∃ k, k < 64 ∧ x &&& nI 63 = nI k := by
  refine ⟨(x &&& nI 63).toBitVec.toNat, ?_, ?_⟩
  · show (x.toBitVec &&& (63#32)).toNat < 64
    rw [BitVec.toNat_and]
    exact Nat.lt_succ_of_le Nat.and_le_right
  · apply Int32.toBitVec_inj.mp
    show _ = BitVec.ofNat 32 _
    rw [BitVec.ofNat_toNat, BitVec.setWidth_eq]

set_option maxHeartbeats 1000000 in
theorem lw_c0 {f : FC} {G : GC} {l : Launch} {dk ds b L i : Nat} {xs : Nat → Int32} (hF : LwF f G l dk ds b L xs) (hi : i + 6 ≤ L) {M : Mm} (hX : RelX M) (kend : ∀ M2, RelX M2 → Vc f G (dk, ds, 221, 1) M2 1421 (lwLV G b i) []) : Vc f G (dk, ds, 221, 1) M 204 (lwLV G b i) [] := by
  obtain ⟨C, hRm, hs, hbG, hL⟩ := hF
  obtain ⟨n, hN, n', hN', h⟩ := hX
  obtain ⟨v, P1, hc, hr⟩ := u_child l G h (xs (i + 1)) (xs (i + 2)) (xs (i + 3))
  refine v_aload_n C 2 dL_law_204 rfl ?_
  refine v_aload_n C 1 dL_law_205 rfl ?_
  refine v_iload_n C 0 dL_law_206 rfl ?_
  refine v_iconst C (nI 1) dL_law_207 (by decide) ?_
  refine n_iadd C dL_law_208 ?_
  refine l_sld C hs hbG (by omega) (by omega) dL_law_209 ?_
  refine v_aload_n C 1 dL_law_210 rfl ?_
  refine v_iload_n C 0 dL_law_211 rfl ?_
  refine v_iconst C (nI 2) dL_law_212 (by decide) ?_
  refine n_iadd C dL_law_213 ?_
  refine l_sld C hs hbG (by omega) (by omega) dL_law_214 ?_
  refine v_aload_n C 1 dL_law_215 rfl ?_
  refine v_iload_n C 0 dL_law_216 rfl ?_
  refine v_iconst C (nI 3) dL_law_217 (by decide) ?_
  refine n_iadd C dL_law_218 ?_
  refine l_sld C hs hbG (by omega) (by omega) dL_law_219 ?_
  refine l_call C hRm ⟨Nat.le_refl _, Nat.le_refl _⟩ [.int (xs (i + 1)), .int (xs (i + 2)), .int (xs (i + 3))] cw_X9_child ml_L_13 (by decide) (show shp 0 = 9 from by decide +kernel) (by decide) rfl hc (by decide) rfl rfl (Nat.le_of_ble_eq_true rfl) dL_law_220 (fun M1 h1 => ?_)
  obtain ⟨P2, hc2, hr2⟩ := hr M1 h1
  refine v_aload_n C 3 dL_law_223 rfl ?_
  refine v_aload_n C 1 dL_law_224 rfl ?_
  refine v_iload_n C 0 dL_law_225 rfl ?_
  refine v_iconst C (nI 1) dL_law_226 (by decide) ?_
  refine n_iadd C dL_law_227 ?_
  refine l_sld C hs hbG (by omega) (by omega) dL_law_228 ?_
  refine v_aload_n C 1 dL_law_229 rfl ?_
  refine v_iload_n C 0 dL_law_230 rfl ?_
  refine v_iconst C (nI 2) dL_law_231 (by decide) ?_
  refine n_iadd C dL_law_232 ?_
  refine l_sld C hs hbG (by omega) (by omega) dL_law_233 ?_
  refine v_aload_n C 1 dL_law_234 rfl ?_
  refine v_iload_n C 0 dL_law_235 rfl ?_
  refine v_iconst C (nI 3) dL_law_236 (by decide) ?_
  refine n_iadd C dL_law_237 ?_
  refine l_sld C hs hbG (by omega) (by omega) dL_law_238 ?_
  refine l_call C hRm ⟨Nat.le_refl _, Nat.le_refl _⟩ [.int (xs (i + 1)), .int (xs (i + 2)), .int (xs (i + 3))] cw_X10_child ml_L_17 (by decide) (show shp 205 = 10 from by decide +kernel) (by decide) rfl hc2 (by decide) rfl rfl (Nat.le_of_ble_eq_true rfl) dL_law_239 (fun M2 h2 => ?_)
  exact v_icmp_eq C 1421 dL_law_242 rfl (fun _ => kend M2 (hr2 M2 h2)) (fun hne => absurd rfl hne)
set_option maxHeartbeats 1000000 in
theorem lw_c1 {f : FC} {G : GC} {l : Launch} {dk ds b L i : Nat} {xs : Nat → Int32} (hF : LwF f G l dk ds b L xs) (hi : i + 6 ≤ L) {M : Mm} (hX : RelX M) (kend : ∀ M2, RelX M2 → Vc f G (dk, ds, 221, 1) M2 1421 (lwLV G b i) []) : Vc f G (dk, ds, 221, 1) M 247 (lwLV G b i) [] := by
  obtain ⟨C, hRm, hs, hbG, hL⟩ := hF
  obtain ⟨n, hN, n', hN', h⟩ := hX
  obtain ⟨v, P1, hc, hr⟩ := u_childIs l G h (xs (i + 1)) (xs (i + 2))
  refine v_aload_n C 2 dL_law_247 rfl ?_
  refine v_aload_n C 1 dL_law_248 rfl ?_
  refine v_iload_n C 0 dL_law_249 rfl ?_
  refine v_iconst C (nI 1) dL_law_250 (by decide) ?_
  refine n_iadd C dL_law_251 ?_
  refine l_sld C hs hbG (by omega) (by omega) dL_law_252 ?_
  refine v_aload_n C 1 dL_law_253 rfl ?_
  refine v_iload_n C 0 dL_law_254 rfl ?_
  refine v_iconst C (nI 2) dL_law_255 (by decide) ?_
  refine n_iadd C dL_law_256 ?_
  refine l_sld C hs hbG (by omega) (by omega) dL_law_257 ?_
  refine l_call C hRm ⟨Nat.le_refl _, Nat.le_refl _⟩ [.int (xs (i + 1)), .int (xs (i + 2))] cw_X9_childIs ml_L_18 (by decide) (show shp 0 = 9 from by decide +kernel) (by decide) rfl hc (by decide) rfl rfl (Nat.le_of_ble_eq_true rfl) dL_law_258 (fun M1 h1 => ?_)
  obtain ⟨P2, hc2, hr2⟩ := hr M1 h1
  refine v_aload_n C 3 dL_law_261 rfl ?_
  refine v_aload_n C 1 dL_law_262 rfl ?_
  refine v_iload_n C 0 dL_law_263 rfl ?_
  refine v_iconst C (nI 1) dL_law_264 (by decide) ?_
  refine n_iadd C dL_law_265 ?_
  refine l_sld C hs hbG (by omega) (by omega) dL_law_266 ?_
  refine v_aload_n C 1 dL_law_267 rfl ?_
  refine v_iload_n C 0 dL_law_268 rfl ?_
  refine v_iconst C (nI 2) dL_law_269 (by decide) ?_
  refine n_iadd C dL_law_270 ?_
  refine l_sld C hs hbG (by omega) (by omega) dL_law_271 ?_
  refine l_call C hRm ⟨Nat.le_refl _, Nat.le_refl _⟩ [.int (xs (i + 1)), .int (xs (i + 2))] cw_X10_childIs ml_L_22 (by decide) (show shp 205 = 10 from by decide +kernel) (by decide) rfl hc2 (by decide) rfl rfl (Nat.le_of_ble_eq_true rfl) dL_law_272 (fun M2 h2 => ?_)
  exact v_icmp_eq C 1421 dL_law_275 rfl (fun _ => kend M2 (hr2 M2 h2)) (fun hne => absurd rfl hne)
set_option maxHeartbeats 1000000 in
theorem lw_c2 {f : FC} {G : GC} {l : Launch} {dk ds b L i : Nat} {xs : Nat → Int32} (hF : LwF f G l dk ds b L xs) (hi : i + 6 ≤ L) {M : Mm} (hX : RelX M) (kend : ∀ M2, RelX M2 → Vc f G (dk, ds, 221, 1) M2 1421 (lwLV G b i) []) : Vc f G (dk, ds, 221, 1) M 280 (lwLV G b i) [] := by
  obtain ⟨C, hRm, hs, hbG, hL⟩ := hF
  obtain ⟨n, hN, n', hN', h⟩ := hX
  obtain ⟨v, P1, hc, hr⟩ := u_as l G h (xs (i + 1)) (xs (i + 2))
  refine v_aload_n C 2 dL_law_280 rfl ?_
  refine v_aload_n C 1 dL_law_281 rfl ?_
  refine v_iload_n C 0 dL_law_282 rfl ?_
  refine v_iconst C (nI 1) dL_law_283 (by decide) ?_
  refine n_iadd C dL_law_284 ?_
  refine l_sld C hs hbG (by omega) (by omega) dL_law_285 ?_
  refine v_aload_n C 1 dL_law_286 rfl ?_
  refine v_iload_n C 0 dL_law_287 rfl ?_
  refine v_iconst C (nI 2) dL_law_288 (by decide) ?_
  refine n_iadd C dL_law_289 ?_
  refine l_sld C hs hbG (by omega) (by omega) dL_law_290 ?_
  refine l_call C hRm ⟨Nat.le_refl _, Nat.le_refl _⟩ [.int (xs (i + 1)), .int (xs (i + 2))] cw_X9_as ml_L_23 (by decide) (show shp 0 = 9 from by decide +kernel) (by decide) rfl hc (by decide) rfl rfl (Nat.le_of_ble_eq_true rfl) dL_law_291 (fun M1 h1 => ?_)
  obtain ⟨P2, hc2, hr2⟩ := hr M1 h1
  refine v_aload_n C 3 dL_law_294 rfl ?_
  refine v_aload_n C 1 dL_law_295 rfl ?_
  refine v_iload_n C 0 dL_law_296 rfl ?_
  refine v_iconst C (nI 1) dL_law_297 (by decide) ?_
  refine n_iadd C dL_law_298 ?_
  refine l_sld C hs hbG (by omega) (by omega) dL_law_299 ?_
  refine v_aload_n C 1 dL_law_300 rfl ?_
  refine v_iload_n C 0 dL_law_301 rfl ?_
  refine v_iconst C (nI 2) dL_law_302 (by decide) ?_
  refine n_iadd C dL_law_303 ?_
  refine l_sld C hs hbG (by omega) (by omega) dL_law_304 ?_
  refine l_call C hRm ⟨Nat.le_refl _, Nat.le_refl _⟩ [.int (xs (i + 1)), .int (xs (i + 2))] cw_X10_as ml_L_26 (by decide) (show shp 205 = 10 from by decide +kernel) (by decide) rfl hc2 (by decide) rfl rfl (Nat.le_of_ble_eq_true rfl) dL_law_305 (fun M2 h2 => ?_)
  exact v_icmp_eq C 1421 dL_law_308 rfl (fun _ => kend M2 (hr2 M2 h2)) (fun hne => absurd rfl hne)
set_option maxHeartbeats 1000000 in
theorem lw_c3 {f : FC} {G : GC} {l : Launch} {dk ds b L i : Nat} {xs : Nat → Int32} (hF : LwF f G l dk ds b L xs) (hi : i + 6 ≤ L) {M : Mm} (hX : RelX M) (kend : ∀ M2, RelX M2 → Vc f G (dk, ds, 221, 1) M2 1421 (lwLV G b i) []) : Vc f G (dk, ds, 221, 1) M 313 (lwLV G b i) [] := by
  obtain ⟨C, hRm, hs, hbG, hL⟩ := hF
  obtain ⟨n, hN, n', hN', h⟩ := hX
  obtain ⟨v, P1, hc, hr⟩ := u_set l G h (xs (i + 1)) (xs (i + 2)) (xs (i + 3))
  refine v_aload_n C 2 dL_law_313 rfl ?_
  refine v_aload_n C 1 dL_law_314 rfl ?_
  refine v_iload_n C 0 dL_law_315 rfl ?_
  refine v_iconst C (nI 1) dL_law_316 (by decide) ?_
  refine n_iadd C dL_law_317 ?_
  refine l_sld C hs hbG (by omega) (by omega) dL_law_318 ?_
  refine v_aload_n C 1 dL_law_319 rfl ?_
  refine v_iload_n C 0 dL_law_320 rfl ?_
  refine v_iconst C (nI 2) dL_law_321 (by decide) ?_
  refine n_iadd C dL_law_322 ?_
  refine l_sld C hs hbG (by omega) (by omega) dL_law_323 ?_
  refine v_aload_n C 1 dL_law_324 rfl ?_
  refine v_iload_n C 0 dL_law_325 rfl ?_
  refine v_iconst C (nI 3) dL_law_326 (by decide) ?_
  refine n_iadd C dL_law_327 ?_
  refine l_sld C hs hbG (by omega) (by omega) dL_law_328 ?_
  refine l_call C hRm ⟨Nat.le_refl _, Nat.le_refl _⟩ [.int (xs (i + 1)), .int (xs (i + 2)), .int (xs (i + 3))] cw_X9_set ml_L_27 (by decide) (show shp 0 = 9 from by decide +kernel) (by decide) rfl hc (by decide) rfl rfl (Nat.le_of_ble_eq_true rfl) dL_law_329 (fun M1 h1 => ?_)
  obtain ⟨P2, hc2, hr2⟩ := hr M1 h1
  refine v_aload_n C 3 dL_law_332 rfl ?_
  refine v_aload_n C 1 dL_law_333 rfl ?_
  refine v_iload_n C 0 dL_law_334 rfl ?_
  refine v_iconst C (nI 1) dL_law_335 (by decide) ?_
  refine n_iadd C dL_law_336 ?_
  refine l_sld C hs hbG (by omega) (by omega) dL_law_337 ?_
  refine v_aload_n C 1 dL_law_338 rfl ?_
  refine v_iload_n C 0 dL_law_339 rfl ?_
  refine v_iconst C (nI 2) dL_law_340 (by decide) ?_
  refine n_iadd C dL_law_341 ?_
  refine l_sld C hs hbG (by omega) (by omega) dL_law_342 ?_
  refine v_aload_n C 1 dL_law_343 rfl ?_
  refine v_iload_n C 0 dL_law_344 rfl ?_
  refine v_iconst C (nI 3) dL_law_345 (by decide) ?_
  refine n_iadd C dL_law_346 ?_
  refine l_sld C hs hbG (by omega) (by omega) dL_law_347 ?_
  refine l_call C hRm ⟨Nat.le_refl _, Nat.le_refl _⟩ [.int (xs (i + 1)), .int (xs (i + 2)), .int (xs (i + 3))] cw_X10_set ml_L_30 (by decide) (show shp 205 = 10 from by decide +kernel) (by decide) rfl hc2 (by decide) rfl rfl (Nat.le_of_ble_eq_true rfl) dL_law_348 (fun M2 h2 => ?_)
  exact v_icmp_eq C 1421 dL_law_351 rfl (fun _ => kend M2 (hr2 M2 h2)) (fun hne => absurd rfl hne)
set_option maxHeartbeats 1000000 in
theorem lw_c4 {f : FC} {G : GC} {l : Launch} {dk ds b L i : Nat} {xs : Nat → Int32} (hF : LwF f G l dk ds b L xs) (hi : i + 6 ≤ L) {M : Mm} (hX : RelX M) (kend : ∀ M2, RelX M2 → Vc f G (dk, ds, 221, 1) M2 1421 (lwLV G b i) []) : Vc f G (dk, ds, 221, 1) M 356 (lwLV G b i) [] := by
  obtain ⟨C, hRm, hs, hbG, hL⟩ := hF
  obtain ⟨n, hN, n', hN', h⟩ := hX
  obtain ⟨v, P1, hc, hr⟩ := u_likes l G h (xs (i + 1)) (xs (i + 2)) (xs (i + 3))
  refine v_aload_n C 2 dL_law_356 rfl ?_
  refine v_aload_n C 1 dL_law_357 rfl ?_
  refine v_iload_n C 0 dL_law_358 rfl ?_
  refine v_iconst C (nI 1) dL_law_359 (by decide) ?_
  refine n_iadd C dL_law_360 ?_
  refine l_sld C hs hbG (by omega) (by omega) dL_law_361 ?_
  refine v_aload_n C 1 dL_law_362 rfl ?_
  refine v_iload_n C 0 dL_law_363 rfl ?_
  refine v_iconst C (nI 2) dL_law_364 (by decide) ?_
  refine n_iadd C dL_law_365 ?_
  refine l_sld C hs hbG (by omega) (by omega) dL_law_366 ?_
  refine v_aload_n C 1 dL_law_367 rfl ?_
  refine v_iload_n C 0 dL_law_368 rfl ?_
  refine v_iconst C (nI 3) dL_law_369 (by decide) ?_
  refine n_iadd C dL_law_370 ?_
  refine l_sld C hs hbG (by omega) (by omega) dL_law_371 ?_
  refine l_call C hRm ⟨Nat.le_refl _, Nat.le_refl _⟩ [.int (xs (i + 1)), .int (xs (i + 2)), .int (xs (i + 3))] cw_X9_likes ml_L_31 (by decide) (show shp 0 = 9 from by decide +kernel) (by decide) rfl hc (by decide) rfl rfl (Nat.le_of_ble_eq_true rfl) dL_law_372 (fun M1 h1 => ?_)
  obtain ⟨P2, hc2, hr2⟩ := hr M1 h1
  refine v_aload_n C 3 dL_law_375 rfl ?_
  refine v_aload_n C 1 dL_law_376 rfl ?_
  refine v_iload_n C 0 dL_law_377 rfl ?_
  refine v_iconst C (nI 1) dL_law_378 (by decide) ?_
  refine n_iadd C dL_law_379 ?_
  refine l_sld C hs hbG (by omega) (by omega) dL_law_380 ?_
  refine v_aload_n C 1 dL_law_381 rfl ?_
  refine v_iload_n C 0 dL_law_382 rfl ?_
  refine v_iconst C (nI 2) dL_law_383 (by decide) ?_
  refine n_iadd C dL_law_384 ?_
  refine l_sld C hs hbG (by omega) (by omega) dL_law_385 ?_
  refine v_aload_n C 1 dL_law_386 rfl ?_
  refine v_iload_n C 0 dL_law_387 rfl ?_
  refine v_iconst C (nI 3) dL_law_388 (by decide) ?_
  refine n_iadd C dL_law_389 ?_
  refine l_sld C hs hbG (by omega) (by omega) dL_law_390 ?_
  refine l_call C hRm ⟨Nat.le_refl _, Nat.le_refl _⟩ [.int (xs (i + 1)), .int (xs (i + 2)), .int (xs (i + 3))] cw_X10_likes ml_L_34 (by decide) (show shp 205 = 10 from by decide +kernel) (by decide) rfl hc2 (by decide) rfl rfl (Nat.le_of_ble_eq_true rfl) dL_law_391 (fun M2 h2 => ?_)
  exact v_icmp_eq C 1421 dL_law_394 rfl (fun _ => kend M2 (hr2 M2 h2)) (fun hne => absurd rfl hne)
set_option maxHeartbeats 1000000 in
theorem lw_c5 {f : FC} {G : GC} {l : Launch} {dk ds b L i : Nat} {xs : Nat → Int32} (hF : LwF f G l dk ds b L xs) (hi : i + 6 ≤ L) {M : Mm} (hX : RelX M) (kend : ∀ M2, RelX M2 → Vc f G (dk, ds, 221, 1) M2 1421 (lwLV G b i) []) : Vc f G (dk, ds, 221, 1) M 399 (lwLV G b i) [] := by
  obtain ⟨C, hRm, hs, hbG, hL⟩ := hF
  obtain ⟨n, hN, n', hN', h⟩ := hX
  obtain ⟨v, P1, hc, hr⟩ := u_heap l G h (xs (i + 1)) (xs (i + 2))
  refine v_aload_n C 2 dL_law_399 rfl ?_
  refine v_aload_n C 1 dL_law_400 rfl ?_
  refine v_iload_n C 0 dL_law_401 rfl ?_
  refine v_iconst C (nI 1) dL_law_402 (by decide) ?_
  refine n_iadd C dL_law_403 ?_
  refine l_sld C hs hbG (by omega) (by omega) dL_law_404 ?_
  refine v_aload_n C 1 dL_law_405 rfl ?_
  refine v_iload_n C 0 dL_law_406 rfl ?_
  refine v_iconst C (nI 2) dL_law_407 (by decide) ?_
  refine n_iadd C dL_law_408 ?_
  refine l_sld C hs hbG (by omega) (by omega) dL_law_409 ?_
  refine l_call C hRm ⟨Nat.le_refl _, Nat.le_refl _⟩ [.int (xs (i + 1)), .int (xs (i + 2))] cw_X9_heap ml_L_35 (by decide) (show shp 0 = 9 from by decide +kernel) (by decide) rfl hc (by decide) rfl rfl (Nat.le_of_ble_eq_true rfl) dL_law_410 (fun M1 h1 => ?_)
  obtain ⟨P2, hc2, hr2⟩ := hr M1 h1
  refine v_aload_n C 3 dL_law_413 rfl ?_
  refine v_aload_n C 1 dL_law_414 rfl ?_
  refine v_iload_n C 0 dL_law_415 rfl ?_
  refine v_iconst C (nI 1) dL_law_416 (by decide) ?_
  refine n_iadd C dL_law_417 ?_
  refine l_sld C hs hbG (by omega) (by omega) dL_law_418 ?_
  refine v_aload_n C 1 dL_law_419 rfl ?_
  refine v_iload_n C 0 dL_law_420 rfl ?_
  refine v_iconst C (nI 2) dL_law_421 (by decide) ?_
  refine n_iadd C dL_law_422 ?_
  refine l_sld C hs hbG (by omega) (by omega) dL_law_423 ?_
  refine l_call C hRm ⟨Nat.le_refl _, Nat.le_refl _⟩ [.int (xs (i + 1)), .int (xs (i + 2))] cw_X10_heap ml_L_38 (by decide) (show shp 205 = 10 from by decide +kernel) (by decide) rfl hc2 (by decide) rfl rfl (Nat.le_of_ble_eq_true rfl) dL_law_424 (fun M2 h2 => ?_)
  exact v_icmp_eq C 1421 dL_law_427 rfl (fun _ => kend M2 (hr2 M2 h2)) (fun hne => absurd rfl hne)
set_option maxHeartbeats 1000000 in
theorem lw_c6 {f : FC} {G : GC} {l : Launch} {dk ds b L i : Nat} {xs : Nat → Int32} (hF : LwF f G l dk ds b L xs) (hi : i + 6 ≤ L) {M : Mm} (hX : RelX M) (kend : ∀ M2, RelX M2 → Vc f G (dk, ds, 221, 1) M2 1421 (lwLV G b i) []) : Vc f G (dk, ds, 221, 1) M 432 (lwLV G b i) [] := by
  obtain ⟨C, hRm, hs, hbG, hL⟩ := hF
  obtain ⟨n, hN, n', hN', h⟩ := hX
  obtain ⟨v, P1, hc, hr⟩ := u_heapIs l G h (xs (i + 1)) (xs (i + 2))
  refine v_aload_n C 2 dL_law_432 rfl ?_
  refine v_aload_n C 1 dL_law_433 rfl ?_
  refine v_iload_n C 0 dL_law_434 rfl ?_
  refine v_iconst C (nI 1) dL_law_435 (by decide) ?_
  refine n_iadd C dL_law_436 ?_
  refine l_sld C hs hbG (by omega) (by omega) dL_law_437 ?_
  refine v_aload_n C 1 dL_law_438 rfl ?_
  refine v_iload_n C 0 dL_law_439 rfl ?_
  refine v_iconst C (nI 2) dL_law_440 (by decide) ?_
  refine n_iadd C dL_law_441 ?_
  refine l_sld C hs hbG (by omega) (by omega) dL_law_442 ?_
  refine l_call C hRm ⟨Nat.le_refl _, Nat.le_refl _⟩ [.int (xs (i + 1)), .int (xs (i + 2))] cw_X9_heapIs ml_L_39 (by decide) (show shp 0 = 9 from by decide +kernel) (by decide) rfl hc (by decide) rfl rfl (Nat.le_of_ble_eq_true rfl) dL_law_443 (fun M1 h1 => ?_)
  obtain ⟨P2, hc2, hr2⟩ := hr M1 h1
  refine v_aload_n C 3 dL_law_446 rfl ?_
  refine v_aload_n C 1 dL_law_447 rfl ?_
  refine v_iload_n C 0 dL_law_448 rfl ?_
  refine v_iconst C (nI 1) dL_law_449 (by decide) ?_
  refine n_iadd C dL_law_450 ?_
  refine l_sld C hs hbG (by omega) (by omega) dL_law_451 ?_
  refine v_aload_n C 1 dL_law_452 rfl ?_
  refine v_iload_n C 0 dL_law_453 rfl ?_
  refine v_iconst C (nI 2) dL_law_454 (by decide) ?_
  refine n_iadd C dL_law_455 ?_
  refine l_sld C hs hbG (by omega) (by omega) dL_law_456 ?_
  refine l_call C hRm ⟨Nat.le_refl _, Nat.le_refl _⟩ [.int (xs (i + 1)), .int (xs (i + 2))] cw_X10_heapIs ml_L_42 (by decide) (show shp 205 = 10 from by decide +kernel) (by decide) rfl hc2 (by decide) rfl rfl (Nat.le_of_ble_eq_true rfl) dL_law_457 (fun M2 h2 => ?_)
  exact v_icmp_eq C 1421 dL_law_460 rfl (fun _ => kend M2 (hr2 M2 h2)) (fun hne => absurd rfl hne)
set_option maxHeartbeats 1000000 in
theorem lw_c7 {f : FC} {G : GC} {l : Launch} {dk ds b L i : Nat} {xs : Nat → Int32} (hF : LwF f G l dk ds b L xs) (hi : i + 6 ≤ L) {M : Mm} (hX : RelX M) (kend : ∀ M2, RelX M2 → Vc f G (dk, ds, 221, 1) M2 1421 (lwLV G b i) []) : Vc f G (dk, ds, 221, 1) M 465 (lwLV G b i) [] := by
  obtain ⟨C, hRm, hs, hbG, hL⟩ := hF
  obtain ⟨n, hN, n', hN', h⟩ := hX
  obtain ⟨v, P1, hc, hr⟩ := u_rule l G h (xs (i + 1)) (xs (i + 2))
  refine v_aload_n C 2 dL_law_465 rfl ?_
  refine v_aload_n C 1 dL_law_466 rfl ?_
  refine v_iload_n C 0 dL_law_467 rfl ?_
  refine v_iconst C (nI 1) dL_law_468 (by decide) ?_
  refine n_iadd C dL_law_469 ?_
  refine l_sld C hs hbG (by omega) (by omega) dL_law_470 ?_
  refine v_aload_n C 1 dL_law_471 rfl ?_
  refine v_iload_n C 0 dL_law_472 rfl ?_
  refine v_iconst C (nI 2) dL_law_473 (by decide) ?_
  refine n_iadd C dL_law_474 ?_
  refine l_sld C hs hbG (by omega) (by omega) dL_law_475 ?_
  refine l_call C hRm ⟨Nat.le_refl _, Nat.le_refl _⟩ [.int (xs (i + 1)), .int (xs (i + 2))] cw_X9_rule ml_L_43 (by decide) (show shp 0 = 9 from by decide +kernel) (by decide) rfl hc (by decide) rfl rfl (Nat.le_of_ble_eq_true rfl) dL_law_476 (fun M1 h1 => ?_)
  obtain ⟨P2, hc2, hr2⟩ := hr M1 h1
  refine v_aload_n C 3 dL_law_479 rfl ?_
  refine v_aload_n C 1 dL_law_480 rfl ?_
  refine v_iload_n C 0 dL_law_481 rfl ?_
  refine v_iconst C (nI 1) dL_law_482 (by decide) ?_
  refine n_iadd C dL_law_483 ?_
  refine l_sld C hs hbG (by omega) (by omega) dL_law_484 ?_
  refine v_aload_n C 1 dL_law_485 rfl ?_
  refine v_iload_n C 0 dL_law_486 rfl ?_
  refine v_iconst C (nI 2) dL_law_487 (by decide) ?_
  refine n_iadd C dL_law_488 ?_
  refine l_sld C hs hbG (by omega) (by omega) dL_law_489 ?_
  refine l_call C hRm ⟨Nat.le_refl _, Nat.le_refl _⟩ [.int (xs (i + 1)), .int (xs (i + 2))] cw_X10_rule ml_L_46 (by decide) (show shp 205 = 10 from by decide +kernel) (by decide) rfl hc2 (by decide) rfl rfl (Nat.le_of_ble_eq_true rfl) dL_law_490 (fun M2 h2 => ?_)
  exact v_icmp_eq C 1421 dL_law_493 rfl (fun _ => kend M2 (hr2 M2 h2)) (fun hne => absurd rfl hne)
set_option maxHeartbeats 1000000 in
theorem lw_c8 {f : FC} {G : GC} {l : Launch} {dk ds b L i : Nat} {xs : Nat → Int32} (hF : LwF f G l dk ds b L xs) (hi : i + 6 ≤ L) {M : Mm} (hX : RelX M) (kend : ∀ M2, RelX M2 → Vc f G (dk, ds, 221, 1) M2 1421 (lwLV G b i) []) : Vc f G (dk, ds, 221, 1) M 498 (lwLV G b i) [] := by
  obtain ⟨C, hRm, hs, hbG, hL⟩ := hF
  obtain ⟨n, hN, n', hN', h⟩ := hX
  obtain ⟨v, P1, hc, hr⟩ := u_join l G h (xs (i + 1)) (xs (i + 2))
  refine v_aload_n C 2 dL_law_498 rfl ?_
  refine v_aload_n C 1 dL_law_499 rfl ?_
  refine v_iload_n C 0 dL_law_500 rfl ?_
  refine v_iconst C (nI 1) dL_law_501 (by decide) ?_
  refine n_iadd C dL_law_502 ?_
  refine l_sld C hs hbG (by omega) (by omega) dL_law_503 ?_
  refine v_aload_n C 1 dL_law_504 rfl ?_
  refine v_iload_n C 0 dL_law_505 rfl ?_
  refine v_iconst C (nI 2) dL_law_506 (by decide) ?_
  refine n_iadd C dL_law_507 ?_
  refine l_sld C hs hbG (by omega) (by omega) dL_law_508 ?_
  refine l_call C hRm ⟨Nat.le_refl _, Nat.le_refl _⟩ [.int (xs (i + 1)), .int (xs (i + 2))] cw_X9_join ml_L_47 (by decide) (show shp 0 = 9 from by decide +kernel) (by decide) rfl hc (by decide) rfl rfl (Nat.le_of_ble_eq_true rfl) dL_law_509 (fun M1 h1 => ?_)
  obtain ⟨P2, hc2, hr2⟩ := hr M1 h1
  refine v_aload_n C 3 dL_law_512 rfl ?_
  refine v_aload_n C 1 dL_law_513 rfl ?_
  refine v_iload_n C 0 dL_law_514 rfl ?_
  refine v_iconst C (nI 1) dL_law_515 (by decide) ?_
  refine n_iadd C dL_law_516 ?_
  refine l_sld C hs hbG (by omega) (by omega) dL_law_517 ?_
  refine v_aload_n C 1 dL_law_518 rfl ?_
  refine v_iload_n C 0 dL_law_519 rfl ?_
  refine v_iconst C (nI 2) dL_law_520 (by decide) ?_
  refine n_iadd C dL_law_521 ?_
  refine l_sld C hs hbG (by omega) (by omega) dL_law_522 ?_
  refine l_call C hRm ⟨Nat.le_refl _, Nat.le_refl _⟩ [.int (xs (i + 1)), .int (xs (i + 2))] cw_X10_join ml_L_50 (by decide) (show shp 205 = 10 from by decide +kernel) (by decide) rfl hc2 (by decide) rfl rfl (Nat.le_of_ble_eq_true rfl) dL_law_523 (fun M2 h2 => ?_)
  exact v_icmp_eq C 1421 dL_law_526 rfl (fun _ => kend M2 (hr2 M2 h2)) (fun hne => absurd rfl hne)
set_option maxHeartbeats 1000000 in
theorem lw_c9 {f : FC} {G : GC} {l : Launch} {dk ds b L i : Nat} {xs : Nat → Int32} (hF : LwF f G l dk ds b L xs) (hi : i + 6 ≤ L) {M : Mm} (hX : RelX M) (kend : ∀ M2, RelX M2 → Vc f G (dk, ds, 221, 1) M2 1421 (lwLV G b i) []) : Vc f G (dk, ds, 221, 1) M 531 (lwLV G b i) [] := by
  obtain ⟨C, hRm, hs, hbG, hL⟩ := hF
  obtain ⟨n, hN, n', hN', h⟩ := hX
  obtain ⟨v, P1, hc, hr⟩ := u_leave l G h (xs (i + 1))
  refine v_aload_n C 2 dL_law_531 rfl ?_
  refine v_aload_n C 1 dL_law_532 rfl ?_
  refine v_iload_n C 0 dL_law_533 rfl ?_
  refine v_iconst C (nI 1) dL_law_534 (by decide) ?_
  refine n_iadd C dL_law_535 ?_
  refine l_sld C hs hbG (by omega) (by omega) dL_law_536 ?_
  refine l_call C hRm ⟨Nat.le_refl _, Nat.le_refl _⟩ [.int (xs (i + 1))] cw_X9_leave ml_L_51 (by decide) (show shp 0 = 9 from by decide +kernel) (by decide) rfl hc (by decide) rfl rfl (Nat.le_of_ble_eq_true rfl) dL_law_537 (fun M1 h1 => ?_)
  obtain ⟨P2, hc2, hr2⟩ := hr M1 h1
  refine v_aload_n C 3 dL_law_540 rfl ?_
  refine v_aload_n C 1 dL_law_541 rfl ?_
  refine v_iload_n C 0 dL_law_542 rfl ?_
  refine v_iconst C (nI 1) dL_law_543 (by decide) ?_
  refine n_iadd C dL_law_544 ?_
  refine l_sld C hs hbG (by omega) (by omega) dL_law_545 ?_
  refine l_call C hRm ⟨Nat.le_refl _, Nat.le_refl _⟩ [.int (xs (i + 1))] cw_X10_leave ml_L_55 (by decide) (show shp 205 = 10 from by decide +kernel) (by decide) rfl hc2 (by decide) rfl rfl (Nat.le_of_ble_eq_true rfl) dL_law_546 (fun M2 h2 => ?_)
  exact v_icmp_eq C 1421 dL_law_549 rfl (fun _ => kend M2 (hr2 M2 h2)) (fun hne => absurd rfl hne)
set_option maxHeartbeats 1000000 in
theorem lw_c10 {f : FC} {G : GC} {l : Launch} {dk ds b L i : Nat} {xs : Nat → Int32} (hF : LwF f G l dk ds b L xs) (hi : i + 6 ≤ L) {M : Mm} (hX : RelX M) (kend : ∀ M2, RelX M2 → Vc f G (dk, ds, 221, 1) M2 1421 (lwLV G b i) []) : Vc f G (dk, ds, 221, 1) M 554 (lwLV G b i) [] := by
  obtain ⟨C, hRm, hs, hbG, hL⟩ := hF
  obtain ⟨n, hN, n', hN', h⟩ := hX
  obtain ⟨v, P1, hc, hr⟩ := u_between l G h (xs (i + 1)) (xs (i + 2)) (xs (i + 3))
  refine v_aload_n C 2 dL_law_554 rfl ?_
  refine v_aload_n C 1 dL_law_555 rfl ?_
  refine v_iload_n C 0 dL_law_556 rfl ?_
  refine v_iconst C (nI 1) dL_law_557 (by decide) ?_
  refine n_iadd C dL_law_558 ?_
  refine l_sld C hs hbG (by omega) (by omega) dL_law_559 ?_
  refine v_aload_n C 1 dL_law_560 rfl ?_
  refine v_iload_n C 0 dL_law_561 rfl ?_
  refine v_iconst C (nI 2) dL_law_562 (by decide) ?_
  refine n_iadd C dL_law_563 ?_
  refine l_sld C hs hbG (by omega) (by omega) dL_law_564 ?_
  refine v_aload_n C 1 dL_law_565 rfl ?_
  refine v_iload_n C 0 dL_law_566 rfl ?_
  refine v_iconst C (nI 3) dL_law_567 (by decide) ?_
  refine n_iadd C dL_law_568 ?_
  refine l_sld C hs hbG (by omega) (by omega) dL_law_569 ?_
  refine l_call C hRm ⟨Nat.le_refl _, Nat.le_refl _⟩ [.int (xs (i + 1)), .int (xs (i + 2)), .int (xs (i + 3))] cw_X9_between ml_L_56 (by decide) (show shp 0 = 9 from by decide +kernel) (by decide) rfl hc (by decide) rfl rfl (Nat.le_of_ble_eq_true rfl) dL_law_570 (fun M1 h1 => ?_)
  obtain ⟨P2, hc2, hr2⟩ := hr M1 h1
  refine v_aload_n C 3 dL_law_573 rfl ?_
  refine v_aload_n C 1 dL_law_574 rfl ?_
  refine v_iload_n C 0 dL_law_575 rfl ?_
  refine v_iconst C (nI 1) dL_law_576 (by decide) ?_
  refine n_iadd C dL_law_577 ?_
  refine l_sld C hs hbG (by omega) (by omega) dL_law_578 ?_
  refine v_aload_n C 1 dL_law_579 rfl ?_
  refine v_iload_n C 0 dL_law_580 rfl ?_
  refine v_iconst C (nI 2) dL_law_581 (by decide) ?_
  refine n_iadd C dL_law_582 ?_
  refine l_sld C hs hbG (by omega) (by omega) dL_law_583 ?_
  refine v_aload_n C 1 dL_law_584 rfl ?_
  refine v_iload_n C 0 dL_law_585 rfl ?_
  refine v_iconst C (nI 3) dL_law_586 (by decide) ?_
  refine n_iadd C dL_law_587 ?_
  refine l_sld C hs hbG (by omega) (by omega) dL_law_588 ?_
  refine l_call C hRm ⟨Nat.le_refl _, Nat.le_refl _⟩ [.int (xs (i + 1)), .int (xs (i + 2)), .int (xs (i + 3))] cw_X10_between ml_L_59 (by decide) (show shp 205 = 10 from by decide +kernel) (by decide) rfl hc2 (by decide) rfl rfl (Nat.le_of_ble_eq_true rfl) dL_law_589 (fun M2 h2 => ?_)
  exact v_icmp_eq C 1421 dL_law_592 rfl (fun _ => kend M2 (hr2 M2 h2)) (fun hne => absurd rfl hne)
set_option maxHeartbeats 1000000 in
theorem lw_c11 {f : FC} {G : GC} {l : Launch} {dk ds b L i : Nat} {xs : Nat → Int32} (hF : LwF f G l dk ds b L xs) (hi : i + 6 ≤ L) {M : Mm} (hX : RelX M) (kend : ∀ M2, RelX M2 → Vc f G (dk, ds, 221, 1) M2 1421 (lwLV G b i) []) : Vc f G (dk, ds, 221, 1) M 597 (lwLV G b i) [] := by
  obtain ⟨C, hRm, hs, hbG, hL⟩ := hF
  obtain ⟨n, hN, n', hN', h⟩ := hX
  obtain ⟨v, P1, hc, hr⟩ := u_feed l G h ((Int32.toInt64 (xs (i + 1)) <<< (Int32.toInt64 (nI 32) &&& 63)) ||| (Int32.toInt64 (xs (i + 2)) &&& 4294967295)) (xs (i + 3))
  refine v_aload_n C 2 dL_law_597 rfl ?_
  refine v_aload_n C 1 dL_law_598 rfl ?_
  refine v_iload_n C 0 dL_law_599 rfl ?_
  refine v_iconst C (nI 1) dL_law_600 (by decide) ?_
  refine n_iadd C dL_law_601 ?_
  refine l_sld C hs hbG (by omega) (by omega) dL_law_602 ?_
  refine v_i2l C dL_law_603 ?_
  refine v_bipush C (nI 32) dL_law_604 (by decide) ?_
  refine v_lshl C dL_law_606 ?_
  refine v_aload_n C 1 dL_law_607 rfl ?_
  refine v_iload_n C 0 dL_law_608 rfl ?_
  refine v_iconst C (nI 2) dL_law_609 (by decide) ?_
  refine n_iadd C dL_law_610 ?_
  refine l_sld C hs hbG (by omega) (by omega) dL_law_611 ?_
  refine v_i2l C dL_law_612 ?_
  refine v_ldc2 C (4294967295) kc_L_60 dL_law_613 ?_
  refine v_land C dL_law_616 ?_
  refine v_lor C dL_law_617 ?_
  refine v_aload_n C 1 dL_law_618 rfl ?_
  refine v_iload_n C 0 dL_law_619 rfl ?_
  refine v_iconst C (nI 3) dL_law_620 (by decide) ?_
  refine n_iadd C dL_law_621 ?_
  refine l_sld C hs hbG (by omega) (by omega) dL_law_622 ?_
  refine l_call C hRm ⟨Nat.le_refl _, Nat.le_refl _⟩ [.long ((Int32.toInt64 (xs (i + 1)) <<< (Int32.toInt64 (nI 32) &&& 63)) ||| (Int32.toInt64 (xs (i + 2)) &&& 4294967295)), .int (xs (i + 3))] cw_X9_feed ml_L_62 (by decide) (show shp 0 = 9 from by decide +kernel) (by decide) rfl hc (by decide) rfl rfl (Nat.le_of_ble_eq_true rfl) dL_law_623 (fun M1 h1 => ?_)
  obtain ⟨P2, hc2, hr2⟩ := hr M1 h1
  refine v_aload_n C 3 dL_law_626 rfl ?_
  refine v_aload_n C 1 dL_law_627 rfl ?_
  refine v_iload_n C 0 dL_law_628 rfl ?_
  refine v_iconst C (nI 1) dL_law_629 (by decide) ?_
  refine n_iadd C dL_law_630 ?_
  refine l_sld C hs hbG (by omega) (by omega) dL_law_631 ?_
  refine v_i2l C dL_law_632 ?_
  refine v_bipush C (nI 32) dL_law_633 (by decide) ?_
  refine v_lshl C dL_law_635 ?_
  refine v_aload_n C 1 dL_law_636 rfl ?_
  refine v_iload_n C 0 dL_law_637 rfl ?_
  refine v_iconst C (nI 2) dL_law_638 (by decide) ?_
  refine n_iadd C dL_law_639 ?_
  refine l_sld C hs hbG (by omega) (by omega) dL_law_640 ?_
  refine v_i2l C dL_law_641 ?_
  refine v_ldc2 C (4294967295) kc_L_60 dL_law_642 ?_
  refine v_land C dL_law_645 ?_
  refine v_lor C dL_law_646 ?_
  refine v_aload_n C 1 dL_law_647 rfl ?_
  refine v_iload_n C 0 dL_law_648 rfl ?_
  refine v_iconst C (nI 3) dL_law_649 (by decide) ?_
  refine n_iadd C dL_law_650 ?_
  refine l_sld C hs hbG (by omega) (by omega) dL_law_651 ?_
  refine l_call C hRm ⟨Nat.le_refl _, Nat.le_refl _⟩ [.long ((Int32.toInt64 (xs (i + 1)) <<< (Int32.toInt64 (nI 32) &&& 63)) ||| (Int32.toInt64 (xs (i + 2)) &&& 4294967295)), .int (xs (i + 3))] cw_X10_feed ml_L_66 (by decide) (show shp 205 = 10 from by decide +kernel) (by decide) rfl hc2 (by decide) rfl rfl (Nat.le_of_ble_eq_true rfl) dL_law_652 (fun M2 h2 => ?_)
  exact v_icmp_eq C 1421 dL_law_655 rfl (fun _ => kend M2 (hr2 M2 h2)) (fun hne => absurd rfl hne)
set_option maxHeartbeats 1000000 in
theorem lw_c12 {f : FC} {G : GC} {l : Launch} {dk ds b L i : Nat} {xs : Nat → Int32} (hF : LwF f G l dk ds b L xs) (hi : i + 6 ≤ L) {M : Mm} (hX : RelX M) (kend : ∀ M2, RelX M2 → Vc f G (dk, ds, 221, 1) M2 1421 (lwLV G b i) []) : Vc f G (dk, ds, 221, 1) M 660 (lwLV G b i) [] := by
  obtain ⟨C, hRm, hs, hbG, hL⟩ := hF
  obtain ⟨n, hN, n', hN', h⟩ := hX
  obtain ⟨v, P1, hc, hr⟩ := u_text l G h (xs (i + 1))
  refine v_aload_n C 2 dL_law_660 rfl ?_
  refine v_aload_n C 1 dL_law_661 rfl ?_
  refine v_iload_n C 0 dL_law_662 rfl ?_
  refine v_iconst C (nI 1) dL_law_663 (by decide) ?_
  refine n_iadd C dL_law_664 ?_
  refine l_sld C hs hbG (by omega) (by omega) dL_law_665 ?_
  refine l_call C hRm ⟨Nat.le_refl _, Nat.le_refl _⟩ [.int (xs (i + 1))] cw_X9_text ml_L_67 (by decide) (show shp 0 = 9 from by decide +kernel) (by decide) rfl hc (by decide) rfl rfl (Nat.le_of_ble_eq_true rfl) dL_law_666 (fun M1 h1 => ?_)
  obtain ⟨P2, hc2, hr2⟩ := hr M1 h1
  refine v_aload_n C 3 dL_law_669 rfl ?_
  refine v_aload_n C 1 dL_law_670 rfl ?_
  refine v_iload_n C 0 dL_law_671 rfl ?_
  refine v_iconst C (nI 1) dL_law_672 (by decide) ?_
  refine n_iadd C dL_law_673 ?_
  refine l_sld C hs hbG (by omega) (by omega) dL_law_674 ?_
  refine l_call C hRm ⟨Nat.le_refl _, Nat.le_refl _⟩ [.int (xs (i + 1))] cw_X10_text ml_L_70 (by decide) (show shp 205 = 10 from by decide +kernel) (by decide) rfl hc2 (by decide) rfl rfl (Nat.le_of_ble_eq_true rfl) dL_law_675 (fun M2 h2 => ?_)
  exact v_icmp_eq C 1421 dL_law_678 rfl (fun _ => kend M2 (hr2 M2 h2)) (fun hne => absurd rfl hne)
set_option maxHeartbeats 1000000 in
theorem lw_c13 {f : FC} {G : GC} {l : Launch} {dk ds b L i : Nat} {xs : Nat → Int32} (hF : LwF f G l dk ds b L xs) (hi : i + 6 ≤ L) {M : Mm} (hX : RelX M) (kend : ∀ M2, RelX M2 → Vc f G (dk, ds, 221, 1) M2 1421 (lwLV G b i) []) : Vc f G (dk, ds, 221, 1) M 683 (lwLV G b i) [] := by
  obtain ⟨C, hRm, hs, hbG, hL⟩ := hF
  obtain ⟨n, hN, n', hN', h⟩ := hX
  obtain ⟨v, P1, hc, hr⟩ := u_untell l G h (xs (i + 1))
  refine v_aload_n C 2 dL_law_683 rfl ?_
  refine v_aload_n C 1 dL_law_684 rfl ?_
  refine v_iload_n C 0 dL_law_685 rfl ?_
  refine v_iconst C (nI 1) dL_law_686 (by decide) ?_
  refine n_iadd C dL_law_687 ?_
  refine l_sld C hs hbG (by omega) (by omega) dL_law_688 ?_
  refine l_call C hRm ⟨Nat.le_refl _, Nat.le_refl _⟩ [.int (xs (i + 1))] cw_X9_untell ml_L_71 (by decide) (show shp 0 = 9 from by decide +kernel) (by decide) rfl hc (by decide) rfl rfl (Nat.le_of_ble_eq_true rfl) dL_law_689 (fun M1 h1 => ?_)
  obtain ⟨P2, hc2, hr2⟩ := hr M1 h1
  refine v_aload_n C 3 dL_law_692 rfl ?_
  refine v_aload_n C 1 dL_law_693 rfl ?_
  refine v_iload_n C 0 dL_law_694 rfl ?_
  refine v_iconst C (nI 1) dL_law_695 (by decide) ?_
  refine n_iadd C dL_law_696 ?_
  refine l_sld C hs hbG (by omega) (by omega) dL_law_697 ?_
  refine l_call C hRm ⟨Nat.le_refl _, Nat.le_refl _⟩ [.int (xs (i + 1))] cw_X10_untell ml_L_74 (by decide) (show shp 205 = 10 from by decide +kernel) (by decide) rfl hc2 (by decide) rfl rfl (Nat.le_of_ble_eq_true rfl) dL_law_698 (fun M2 h2 => ?_)
  exact v_icmp_eq C 1421 dL_law_701 rfl (fun _ => kend M2 (hr2 M2 h2)) (fun hne => absurd rfl hne)
set_option maxHeartbeats 1000000 in
theorem lw_c14 {f : FC} {G : GC} {l : Launch} {dk ds b L i : Nat} {xs : Nat → Int32} (hF : LwF f G l dk ds b L xs) (hi : i + 6 ≤ L) {M : Mm} (hX : RelX M) (kend : ∀ M2, RelX M2 → Vc f G (dk, ds, 221, 1) M2 1421 (lwLV G b i) []) : Vc f G (dk, ds, 221, 1) M 706 (lwLV G b i) [] := by
  obtain ⟨C, hRm, hs, hbG, hL⟩ := hF
  obtain ⟨n, hN, n', hN', h⟩ := hX
  obtain ⟨v, P1, hc, hr⟩ := u_minutes l G h (xs (i + 1))
  refine v_aload_n C 2 dL_law_706 rfl ?_
  refine v_aload_n C 1 dL_law_707 rfl ?_
  refine v_iload_n C 0 dL_law_708 rfl ?_
  refine v_iconst C (nI 1) dL_law_709 (by decide) ?_
  refine n_iadd C dL_law_710 ?_
  refine l_sld C hs hbG (by omega) (by omega) dL_law_711 ?_
  refine l_call C hRm ⟨Nat.le_refl _, Nat.le_refl _⟩ [.int (xs (i + 1))] cw_X9_minutes ml_L_75 (by decide) (show shp 0 = 9 from by decide +kernel) (by decide) rfl hc (by decide) rfl rfl (Nat.le_of_ble_eq_true rfl) dL_law_712 (fun M1 h1 => ?_)
  obtain ⟨P2, hc2, hr2⟩ := hr M1 h1
  refine v_aload_n C 3 dL_law_715 rfl ?_
  refine v_aload_n C 1 dL_law_716 rfl ?_
  refine v_iload_n C 0 dL_law_717 rfl ?_
  refine v_iconst C (nI 1) dL_law_718 (by decide) ?_
  refine n_iadd C dL_law_719 ?_
  refine l_sld C hs hbG (by omega) (by omega) dL_law_720 ?_
  refine l_call C hRm ⟨Nat.le_refl _, Nat.le_refl _⟩ [.int (xs (i + 1))] cw_X10_minutes ml_L_78 (by decide) (show shp 205 = 10 from by decide +kernel) (by decide) rfl hc2 (by decide) rfl rfl (Nat.le_of_ble_eq_true rfl) dL_law_721 (fun M2 h2 => ?_)
  exact v_icmp_eq C 1421 dL_law_724 rfl (fun _ => kend M2 (hr2 M2 h2)) (fun hne => absurd rfl hne)
set_option maxHeartbeats 1000000 in
theorem lw_c15 {f : FC} {G : GC} {l : Launch} {dk ds b L i : Nat} {xs : Nat → Int32} (hF : LwF f G l dk ds b L xs) (hi : i + 6 ≤ L) {M : Mm} (hX : RelX M) (kend : ∀ M2, RelX M2 → Vc f G (dk, ds, 221, 1) M2 1421 (lwLV G b i) []) : Vc f G (dk, ds, 221, 1) M 729 (lwLV G b i) [] := by
  obtain ⟨C, hRm, hs, hbG, hL⟩ := hF
  obtain ⟨n, hN, n', hN', h⟩ := hX
  obtain ⟨v, P1, hc, hr⟩ := u_terms l G h (xs (i + 1))
  refine v_aload_n C 2 dL_law_729 rfl ?_
  refine v_aload_n C 1 dL_law_730 rfl ?_
  refine v_iload_n C 0 dL_law_731 rfl ?_
  refine v_iconst C (nI 1) dL_law_732 (by decide) ?_
  refine n_iadd C dL_law_733 ?_
  refine l_sld C hs hbG (by omega) (by omega) dL_law_734 ?_
  refine l_call C hRm ⟨Nat.le_refl _, Nat.le_refl _⟩ [.int (xs (i + 1))] cw_X9_terms ml_L_79 (by decide) (show shp 0 = 9 from by decide +kernel) (by decide) rfl hc (by decide) rfl rfl (Nat.le_of_ble_eq_true rfl) dL_law_735 (fun M1 h1 => ?_)
  obtain ⟨P2, hc2, hr2⟩ := hr M1 h1
  refine v_aload_n C 3 dL_law_738 rfl ?_
  refine v_aload_n C 1 dL_law_739 rfl ?_
  refine v_iload_n C 0 dL_law_740 rfl ?_
  refine v_iconst C (nI 1) dL_law_741 (by decide) ?_
  refine n_iadd C dL_law_742 ?_
  refine l_sld C hs hbG (by omega) (by omega) dL_law_743 ?_
  refine l_call C hRm ⟨Nat.le_refl _, Nat.le_refl _⟩ [.int (xs (i + 1))] cw_X10_terms ml_L_82 (by decide) (show shp 205 = 10 from by decide +kernel) (by decide) rfl hc2 (by decide) rfl rfl (Nat.le_of_ble_eq_true rfl) dL_law_744 (fun M2 h2 => ?_)
  exact v_icmp_eq C 1421 dL_law_747 rfl (fun _ => kend M2 (hr2 M2 h2)) (fun hne => absurd rfl hne)
set_option maxHeartbeats 1000000 in
theorem lw_c16 {f : FC} {G : GC} {l : Launch} {dk ds b L i : Nat} {xs : Nat → Int32} (hF : LwF f G l dk ds b L xs) (hi : i + 6 ≤ L) {M : Mm} (hX : RelX M) (kend : ∀ M2, RelX M2 → Vc f G (dk, ds, 221, 1) M2 1421 (lwLV G b i) []) : Vc f G (dk, ds, 221, 1) M 752 (lwLV G b i) [] := by
  obtain ⟨C, hRm, hs, hbG, hL⟩ := hF
  obtain ⟨n, hN, n', hN', h⟩ := hX
  obtain ⟨v, P1, hc, hr⟩ := u_seed l G h (xs (i + 1))
  refine v_aload_n C 2 dL_law_752 rfl ?_
  refine v_aload_n C 1 dL_law_753 rfl ?_
  refine v_iload_n C 0 dL_law_754 rfl ?_
  refine v_iconst C (nI 1) dL_law_755 (by decide) ?_
  refine n_iadd C dL_law_756 ?_
  refine l_sld C hs hbG (by omega) (by omega) dL_law_757 ?_
  refine l_call C hRm ⟨Nat.le_refl _, Nat.le_refl _⟩ [.int (xs (i + 1))] cw_X9_seed ml_L_83 (by decide) (show shp 0 = 9 from by decide +kernel) (by decide) rfl hc (by decide) rfl rfl (Nat.le_of_ble_eq_true rfl) dL_law_758 (fun M1 h1 => ?_)
  obtain ⟨P2, hc2, hr2⟩ := hr M1 h1
  refine v_aload_n C 3 dL_law_761 rfl ?_
  refine v_aload_n C 1 dL_law_762 rfl ?_
  refine v_iload_n C 0 dL_law_763 rfl ?_
  refine v_iconst C (nI 1) dL_law_764 (by decide) ?_
  refine n_iadd C dL_law_765 ?_
  refine l_sld C hs hbG (by omega) (by omega) dL_law_766 ?_
  refine l_call C hRm ⟨Nat.le_refl _, Nat.le_refl _⟩ [.int (xs (i + 1))] cw_X10_seed ml_L_86 (by decide) (show shp 205 = 10 from by decide +kernel) (by decide) rfl hc2 (by decide) rfl rfl (Nat.le_of_ble_eq_true rfl) dL_law_767 (fun M2 h2 => ?_)
  exact v_icmp_eq C 1421 dL_law_770 rfl (fun _ => kend M2 (hr2 M2 h2)) (fun hne => absurd rfl hne)
set_option maxHeartbeats 1000000 in
theorem lw_c17 {f : FC} {G : GC} {l : Launch} {dk ds b L i : Nat} {xs : Nat → Int32} (hF : LwF f G l dk ds b L xs) (hi : i + 6 ≤ L) {M : Mm} (hX : RelX M) (kend : ∀ M2, RelX M2 → Vc f G (dk, ds, 221, 1) M2 1421 (lwLV G b i) []) : Vc f G (dk, ds, 221, 1) M 775 (lwLV G b i) [] := by
  obtain ⟨C, hRm, hs, hbG, hL⟩ := hF
  obtain ⟨n, hN, n', hN', h⟩ := hX
  obtain ⟨v, P1, hc, hr⟩ := u_both l G h (xs (i + 1))
  refine v_aload_n C 2 dL_law_775 rfl ?_
  refine v_aload_n C 1 dL_law_776 rfl ?_
  refine v_iload_n C 0 dL_law_777 rfl ?_
  refine v_iconst C (nI 1) dL_law_778 (by decide) ?_
  refine n_iadd C dL_law_779 ?_
  refine l_sld C hs hbG (by omega) (by omega) dL_law_780 ?_
  refine l_call C hRm ⟨Nat.le_refl _, Nat.le_refl _⟩ [.int (xs (i + 1))] cw_X9_both ml_L_87 (by decide) (show shp 0 = 9 from by decide +kernel) (by decide) rfl hc (by decide) rfl rfl (Nat.le_of_ble_eq_true rfl) dL_law_781 (fun M1 h1 => ?_)
  obtain ⟨P2, hc2, hr2⟩ := hr M1 h1
  refine v_aload_n C 3 dL_law_784 rfl ?_
  refine v_aload_n C 1 dL_law_785 rfl ?_
  refine v_iload_n C 0 dL_law_786 rfl ?_
  refine v_iconst C (nI 1) dL_law_787 (by decide) ?_
  refine n_iadd C dL_law_788 ?_
  refine l_sld C hs hbG (by omega) (by omega) dL_law_789 ?_
  refine l_call C hRm ⟨Nat.le_refl _, Nat.le_refl _⟩ [.int (xs (i + 1))] cw_X10_both_ ml_L_90 (by decide) (show shp 205 = 10 from by decide +kernel) (by decide) rfl hc2 (by decide) rfl rfl (Nat.le_of_ble_eq_true rfl) dL_law_790 (fun M2 h2 => ?_)
  exact v_icmp_eq C 1421 dL_law_793 rfl (fun _ => kend M2 (hr2 M2 h2)) (fun hne => absurd rfl hne)
set_option maxHeartbeats 1000000 in
theorem lw_c18 {f : FC} {G : GC} {l : Launch} {dk ds b L i : Nat} {xs : Nat → Int32} (hF : LwF f G l dk ds b L xs) (hi : i + 6 ≤ L) {M : Mm} (hX : RelX M) (kend : ∀ M2, RelX M2 → Vc f G (dk, ds, 221, 1) M2 1421 (lwLV G b i) []) : Vc f G (dk, ds, 221, 1) M 798 (lwLV G b i) [] := by
  obtain ⟨C, hRm, hs, hbG, hL⟩ := hF
  obtain ⟨n, hN, n', hN', h⟩ := hX
  obtain ⟨v, P1, hc, hr⟩ := u_ring l G h (xs (i + 1))
  refine v_aload_n C 2 dL_law_798 rfl ?_
  refine v_aload_n C 1 dL_law_799 rfl ?_
  refine v_iload_n C 0 dL_law_800 rfl ?_
  refine v_iconst C (nI 1) dL_law_801 (by decide) ?_
  refine n_iadd C dL_law_802 ?_
  refine l_sld C hs hbG (by omega) (by omega) dL_law_803 ?_
  refine l_call C hRm ⟨Nat.le_refl _, Nat.le_refl _⟩ [.int (xs (i + 1))] cw_X9_ring ml_L_91 (by decide) (show shp 0 = 9 from by decide +kernel) (by decide) rfl hc (by decide) rfl rfl (Nat.le_of_ble_eq_true rfl) dL_law_804 (fun M1 h1 => ?_)
  obtain ⟨P2, hc2, hr2⟩ := hr M1 h1
  refine v_aload_n C 3 dL_law_807 rfl ?_
  refine v_aload_n C 1 dL_law_808 rfl ?_
  refine v_iload_n C 0 dL_law_809 rfl ?_
  refine v_iconst C (nI 1) dL_law_810 (by decide) ?_
  refine n_iadd C dL_law_811 ?_
  refine l_sld C hs hbG (by omega) (by omega) dL_law_812 ?_
  refine l_call C hRm ⟨Nat.le_refl _, Nat.le_refl _⟩ [.int (xs (i + 1))] cw_X10_ring ml_L_94 (by decide) (show shp 205 = 10 from by decide +kernel) (by decide) rfl hc2 (by decide) rfl rfl (Nat.le_of_ble_eq_true rfl) dL_law_813 (fun M2 h2 => ?_)
  exact v_icmp_eq C 1421 dL_law_816 rfl (fun _ => kend M2 (hr2 M2 h2)) (fun hne => absurd rfl hne)
set_option maxHeartbeats 1000000 in
theorem lw_c19 {f : FC} {G : GC} {l : Launch} {dk ds b L i : Nat} {xs : Nat → Int32} (hF : LwF f G l dk ds b L xs) (hi : i + 6 ≤ L) {M : Mm} (hX : RelX M) (kend : ∀ M2, RelX M2 → Vc f G (dk, ds, 221, 1) M2 1421 (lwLV G b i) []) : Vc f G (dk, ds, 221, 1) M 821 (lwLV G b i) [] := by
  obtain ⟨C, hRm, hs, hbG, hL⟩ := hF
  obtain ⟨n, hN, n', hN', h⟩ := hX
  obtain ⟨v, P1, hc, hr⟩ := u_net l G h (xs (i + 1))
  refine v_aload_n C 2 dL_law_821 rfl ?_
  refine v_aload_n C 1 dL_law_822 rfl ?_
  refine v_iload_n C 0 dL_law_823 rfl ?_
  refine v_iconst C (nI 1) dL_law_824 (by decide) ?_
  refine n_iadd C dL_law_825 ?_
  refine l_sld C hs hbG (by omega) (by omega) dL_law_826 ?_
  refine l_call C hRm ⟨Nat.le_refl _, Nat.le_refl _⟩ [.int (xs (i + 1))] cw_X9_net ml_L_95 (by decide) (show shp 0 = 9 from by decide +kernel) (by decide) rfl hc (by decide) rfl rfl (Nat.le_of_ble_eq_true rfl) dL_law_827 (fun M1 h1 => ?_)
  obtain ⟨P2, hc2, hr2⟩ := hr M1 h1
  refine v_aload_n C 3 dL_law_830 rfl ?_
  refine v_aload_n C 1 dL_law_831 rfl ?_
  refine v_iload_n C 0 dL_law_832 rfl ?_
  refine v_iconst C (nI 1) dL_law_833 (by decide) ?_
  refine n_iadd C dL_law_834 ?_
  refine l_sld C hs hbG (by omega) (by omega) dL_law_835 ?_
  refine l_call C hRm ⟨Nat.le_refl _, Nat.le_refl _⟩ [.int (xs (i + 1))] cw_X10_net ml_L_98 (by decide) (show shp 205 = 10 from by decide +kernel) (by decide) rfl hc2 (by decide) rfl rfl (Nat.le_of_ble_eq_true rfl) dL_law_836 (fun M2 h2 => ?_)
  exact v_icmp_eq C 1421 dL_law_839 rfl (fun _ => kend M2 (hr2 M2 h2)) (fun hne => absurd rfl hne)
set_option maxHeartbeats 1000000 in
theorem lw_c20 {f : FC} {G : GC} {l : Launch} {dk ds b L i : Nat} {xs : Nat → Int32} (hF : LwF f G l dk ds b L xs) (hi : i + 6 ≤ L) {M : Mm} (hX : RelX M) (kend : ∀ M2, RelX M2 → Vc f G (dk, ds, 221, 1) M2 1421 (lwLV G b i) []) : Vc f G (dk, ds, 221, 1) M 844 (lwLV G b i) [] := by
  obtain ⟨C, hRm, hs, hbG, hL⟩ := hF
  obtain ⟨n, hN, n', hN', h⟩ := hX
  obtain ⟨v, P1, hc, hr⟩ := u_then l G h (xs (i + 1)) (xs (i + 2)) (xs (i + 3))
  refine v_aload_n C 2 dL_law_844 rfl ?_
  refine v_aload_n C 1 dL_law_845 rfl ?_
  refine v_iload_n C 0 dL_law_846 rfl ?_
  refine v_iconst C (nI 1) dL_law_847 (by decide) ?_
  refine n_iadd C dL_law_848 ?_
  refine l_sld C hs hbG (by omega) (by omega) dL_law_849 ?_
  refine v_aload_n C 1 dL_law_850 rfl ?_
  refine v_iload_n C 0 dL_law_851 rfl ?_
  refine v_iconst C (nI 2) dL_law_852 (by decide) ?_
  refine n_iadd C dL_law_853 ?_
  refine l_sld C hs hbG (by omega) (by omega) dL_law_854 ?_
  refine v_aload_n C 1 dL_law_855 rfl ?_
  refine v_iload_n C 0 dL_law_856 rfl ?_
  refine v_iconst C (nI 3) dL_law_857 (by decide) ?_
  refine n_iadd C dL_law_858 ?_
  refine l_sld C hs hbG (by omega) (by omega) dL_law_859 ?_
  refine l_call C hRm ⟨Nat.le_refl _, Nat.le_refl _⟩ [.int (xs (i + 1)), .int (xs (i + 2)), .int (xs (i + 3))] cw_X9_then ml_L_99 (by decide) (show shp 0 = 9 from by decide +kernel) (by decide) rfl hc (by decide) rfl rfl (Nat.le_of_ble_eq_true rfl) dL_law_860 (fun M1 h1 => ?_)
  obtain ⟨P2, hc2, hr2⟩ := hr M1 h1
  refine v_aload_n C 3 dL_law_863 rfl ?_
  refine v_aload_n C 1 dL_law_864 rfl ?_
  refine v_iload_n C 0 dL_law_865 rfl ?_
  refine v_iconst C (nI 1) dL_law_866 (by decide) ?_
  refine n_iadd C dL_law_867 ?_
  refine l_sld C hs hbG (by omega) (by omega) dL_law_868 ?_
  refine v_aload_n C 1 dL_law_869 rfl ?_
  refine v_iload_n C 0 dL_law_870 rfl ?_
  refine v_iconst C (nI 2) dL_law_871 (by decide) ?_
  refine n_iadd C dL_law_872 ?_
  refine l_sld C hs hbG (by omega) (by omega) dL_law_873 ?_
  refine v_aload_n C 1 dL_law_874 rfl ?_
  refine v_iload_n C 0 dL_law_875 rfl ?_
  refine v_iconst C (nI 3) dL_law_876 (by decide) ?_
  refine n_iadd C dL_law_877 ?_
  refine l_sld C hs hbG (by omega) (by omega) dL_law_878 ?_
  refine l_call C hRm ⟨Nat.le_refl _, Nat.le_refl _⟩ [.int (xs (i + 1)), .int (xs (i + 2)), .int (xs (i + 3))] cw_X10_then ml_L_102 (by decide) (show shp 205 = 10 from by decide +kernel) (by decide) rfl hc2 (by decide) rfl rfl (Nat.le_of_ble_eq_true rfl) dL_law_879 (fun M2 h2 => ?_)
  exact v_icmp_eq C 1421 dL_law_882 rfl (fun _ => kend M2 (hr2 M2 h2)) (fun hne => absurd rfl hne)
set_option maxHeartbeats 1000000 in
theorem lw_c21 {f : FC} {G : GC} {l : Launch} {dk ds b L i : Nat} {xs : Nat → Int32} (hF : LwF f G l dk ds b L xs) (hi : i + 6 ≤ L) {M : Mm} (hX : RelX M) (kend : ∀ M2, RelX M2 → Vc f G (dk, ds, 221, 1) M2 1421 (lwLV G b i) []) : Vc f G (dk, ds, 221, 1) M 887 (lwLV G b i) [] := by
  obtain ⟨C, hRm, hs, hbG, hL⟩ := hF
  obtain ⟨n, hN, n', hN', h⟩ := hX
  obtain ⟨v, P1, hc, hr⟩ := u_sorrow l G h (xs (i + 1))
  refine v_aload_n C 2 dL_law_887 rfl ?_
  refine v_aload_n C 1 dL_law_888 rfl ?_
  refine v_iload_n C 0 dL_law_889 rfl ?_
  refine v_iconst C (nI 1) dL_law_890 (by decide) ?_
  refine n_iadd C dL_law_891 ?_
  refine l_sld C hs hbG (by omega) (by omega) dL_law_892 ?_
  refine l_call C hRm ⟨Nat.le_refl _, Nat.le_refl _⟩ [.int (xs (i + 1))] cw_X9_sorrow ml_L_103 (by decide) (show shp 0 = 9 from by decide +kernel) (by decide) rfl hc (by decide) rfl rfl (Nat.le_of_ble_eq_true rfl) dL_law_893 (fun M1 h1 => ?_)
  obtain ⟨P2, hc2, hr2⟩ := hr M1 h1
  refine v_aload_n C 3 dL_law_896 rfl ?_
  refine v_aload_n C 1 dL_law_897 rfl ?_
  refine v_iload_n C 0 dL_law_898 rfl ?_
  refine v_iconst C (nI 1) dL_law_899 (by decide) ?_
  refine n_iadd C dL_law_900 ?_
  refine l_sld C hs hbG (by omega) (by omega) dL_law_901 ?_
  refine l_call C hRm ⟨Nat.le_refl _, Nat.le_refl _⟩ [.int (xs (i + 1))] cw_X10_sorrow ml_L_106 (by decide) (show shp 205 = 10 from by decide +kernel) (by decide) rfl hc2 (by decide) rfl rfl (Nat.le_of_ble_eq_true rfl) dL_law_902 (fun M2 h2 => ?_)
  exact v_icmp_eq C 1421 dL_law_905 rfl (fun _ => kend M2 (hr2 M2 h2)) (fun hne => absurd rfl hne)
set_option maxHeartbeats 1000000 in
theorem lw_c22 {f : FC} {G : GC} {l : Launch} {dk ds b L i : Nat} {xs : Nat → Int32} (hF : LwF f G l dk ds b L xs) (hi : i + 6 ≤ L) {M : Mm} (hX : RelX M) (kend : ∀ M2, RelX M2 → Vc f G (dk, ds, 221, 1) M2 1421 (lwLV G b i) []) : Vc f G (dk, ds, 221, 1) M 910 (lwLV G b i) [] := by
  obtain ⟨C, hRm, hs, hbG, hL⟩ := hF
  obtain ⟨n, hN, n', hN', h⟩ := hX
  obtain ⟨v, P1, hc, hr⟩ := u_word l G h (xs (i + 1)) (xs (i + 2))
  refine v_aload_n C 2 dL_law_910 rfl ?_
  refine v_aload_n C 1 dL_law_911 rfl ?_
  refine v_iload_n C 0 dL_law_912 rfl ?_
  refine v_iconst C (nI 1) dL_law_913 (by decide) ?_
  refine n_iadd C dL_law_914 ?_
  refine l_sld C hs hbG (by omega) (by omega) dL_law_915 ?_
  refine v_aload_n C 1 dL_law_916 rfl ?_
  refine v_iload_n C 0 dL_law_917 rfl ?_
  refine v_iconst C (nI 2) dL_law_918 (by decide) ?_
  refine n_iadd C dL_law_919 ?_
  refine l_sld C hs hbG (by omega) (by omega) dL_law_920 ?_
  refine l_call C hRm ⟨Nat.le_refl _, Nat.le_refl _⟩ [.int (xs (i + 1)), .int (xs (i + 2))] cw_X9_word ml_L_107 (by decide) (show shp 0 = 9 from by decide +kernel) (by decide) rfl hc (by decide) rfl rfl (Nat.le_of_ble_eq_true rfl) dL_law_921 (fun M1 h1 => ?_)
  obtain ⟨P2, hc2, hr2⟩ := hr M1 h1
  refine v_aload_n C 3 dL_law_924 rfl ?_
  refine v_aload_n C 1 dL_law_925 rfl ?_
  refine v_iload_n C 0 dL_law_926 rfl ?_
  refine v_iconst C (nI 1) dL_law_927 (by decide) ?_
  refine n_iadd C dL_law_928 ?_
  refine l_sld C hs hbG (by omega) (by omega) dL_law_929 ?_
  refine v_aload_n C 1 dL_law_930 rfl ?_
  refine v_iload_n C 0 dL_law_931 rfl ?_
  refine v_iconst C (nI 2) dL_law_932 (by decide) ?_
  refine n_iadd C dL_law_933 ?_
  refine l_sld C hs hbG (by omega) (by omega) dL_law_934 ?_
  refine l_call C hRm ⟨Nat.le_refl _, Nat.le_refl _⟩ [.int (xs (i + 1)), .int (xs (i + 2))] cw_X10_word ml_L_110 (by decide) (show shp 205 = 10 from by decide +kernel) (by decide) rfl hc2 (by decide) rfl rfl (Nat.le_of_ble_eq_true rfl) dL_law_935 (fun M2 h2 => ?_)
  exact v_icmp_eq C 1421 dL_law_938 rfl (fun _ => kend M2 (hr2 M2 h2)) (fun hne => absurd rfl hne)
set_option maxHeartbeats 1000000 in
theorem lw_c23 {f : FC} {G : GC} {l : Launch} {dk ds b L i : Nat} {xs : Nat → Int32} (hF : LwF f G l dk ds b L xs) (hi : i + 6 ≤ L) {M : Mm} (hX : RelX M) (kend : ∀ M2, RelX M2 → Vc f G (dk, ds, 221, 1) M2 1421 (lwLV G b i) []) : Vc f G (dk, ds, 221, 1) M 943 (lwLV G b i) [] := by
  obtain ⟨C, hRm, hs, hbG, hL⟩ := hF
  obtain ⟨n, hN, n', hN', h⟩ := hX
  obtain ⟨v, P1, hc, hr⟩ := u_teach l G h (xs (i + 1)) (xs (i + 2))
  refine v_aload_n C 2 dL_law_943 rfl ?_
  refine v_aload_n C 1 dL_law_944 rfl ?_
  refine v_iload_n C 0 dL_law_945 rfl ?_
  refine v_iconst C (nI 1) dL_law_946 (by decide) ?_
  refine n_iadd C dL_law_947 ?_
  refine l_sld C hs hbG (by omega) (by omega) dL_law_948 ?_
  refine v_aload_n C 1 dL_law_949 rfl ?_
  refine v_iload_n C 0 dL_law_950 rfl ?_
  refine v_iconst C (nI 2) dL_law_951 (by decide) ?_
  refine n_iadd C dL_law_952 ?_
  refine l_sld C hs hbG (by omega) (by omega) dL_law_953 ?_
  refine l_call C hRm ⟨Nat.le_refl _, Nat.le_refl _⟩ [.int (xs (i + 1)), .int (xs (i + 2))] cw_X9_teach ml_L_111 (by decide) (show shp 0 = 9 from by decide +kernel) (by decide) rfl hc (by decide) rfl rfl (Nat.le_of_ble_eq_true rfl) dL_law_954 (fun M1 h1 => ?_)
  obtain ⟨P2, hc2, hr2⟩ := hr M1 h1
  refine v_aload_n C 3 dL_law_957 rfl ?_
  refine v_aload_n C 1 dL_law_958 rfl ?_
  refine v_iload_n C 0 dL_law_959 rfl ?_
  refine v_iconst C (nI 1) dL_law_960 (by decide) ?_
  refine n_iadd C dL_law_961 ?_
  refine l_sld C hs hbG (by omega) (by omega) dL_law_962 ?_
  refine v_aload_n C 1 dL_law_963 rfl ?_
  refine v_iload_n C 0 dL_law_964 rfl ?_
  refine v_iconst C (nI 2) dL_law_965 (by decide) ?_
  refine n_iadd C dL_law_966 ?_
  refine l_sld C hs hbG (by omega) (by omega) dL_law_967 ?_
  refine l_call C hRm ⟨Nat.le_refl _, Nat.le_refl _⟩ [.int (xs (i + 1)), .int (xs (i + 2))] cw_X10_teach ml_L_114 (by decide) (show shp 205 = 10 from by decide +kernel) (by decide) rfl hc2 (by decide) rfl rfl (Nat.le_of_ble_eq_true rfl) dL_law_968 (fun M2 h2 => ?_)
  exact v_icmp_eq C 1421 dL_law_971 rfl (fun _ => kend M2 (hr2 M2 h2)) (fun hne => absurd rfl hne)
set_option maxHeartbeats 1000000 in
theorem lw_c24 {f : FC} {G : GC} {l : Launch} {dk ds b L i : Nat} {xs : Nat → Int32} (hF : LwF f G l dk ds b L xs) (hi : i + 6 ≤ L) {M : Mm} (hX : RelX M) (kend : ∀ M2, RelX M2 → Vc f G (dk, ds, 221, 1) M2 1421 (lwLV G b i) []) : Vc f G (dk, ds, 221, 1) M 976 (lwLV G b i) [] := by
  obtain ⟨C, hRm, hs, hbG, hL⟩ := hF
  obtain ⟨n, hN, n', hN', h⟩ := hX
  obtain ⟨v, P1, hc, hr⟩ := u_classes l G h (xs (i + 1))
  refine v_aload_n C 2 dL_law_976 rfl ?_
  refine v_aload_n C 1 dL_law_977 rfl ?_
  refine v_iload_n C 0 dL_law_978 rfl ?_
  refine v_iconst C (nI 1) dL_law_979 (by decide) ?_
  refine n_iadd C dL_law_980 ?_
  refine l_sld C hs hbG (by omega) (by omega) dL_law_981 ?_
  refine l_call C hRm ⟨Nat.le_refl _, Nat.le_refl _⟩ [.int (xs (i + 1))] cw_X9_classes ml_L_115 (by decide) (show shp 0 = 9 from by decide +kernel) (by decide) rfl hc (by decide) rfl rfl (Nat.le_of_ble_eq_true rfl) dL_law_982 (fun M1 h1 => ?_)
  obtain ⟨P2, hc2, hr2⟩ := hr M1 h1
  refine v_aload_n C 3 dL_law_985 rfl ?_
  refine v_aload_n C 1 dL_law_986 rfl ?_
  refine v_iload_n C 0 dL_law_987 rfl ?_
  refine v_iconst C (nI 1) dL_law_988 (by decide) ?_
  refine n_iadd C dL_law_989 ?_
  refine l_sld C hs hbG (by omega) (by omega) dL_law_990 ?_
  refine l_call C hRm ⟨Nat.le_refl _, Nat.le_refl _⟩ [.int (xs (i + 1))] cw_X10_classes ml_L_118 (by decide) (show shp 205 = 10 from by decide +kernel) (by decide) rfl hc2 (by decide) rfl rfl (Nat.le_of_ble_eq_true rfl) dL_law_991 (fun M2 h2 => ?_)
  exact v_icmp_eq C 1421 dL_law_994 rfl (fun _ => kend M2 (hr2 M2 h2)) (fun hne => absurd rfl hne)
set_option maxHeartbeats 1000000 in
theorem lw_c25 {f : FC} {G : GC} {l : Launch} {dk ds b L i : Nat} {xs : Nat → Int32} (hF : LwF f G l dk ds b L xs) (hi : i + 6 ≤ L) {M : Mm} (hX : RelX M) (kend : ∀ M2, RelX M2 → Vc f G (dk, ds, 221, 1) M2 1421 (lwLV G b i) []) : Vc f G (dk, ds, 221, 1) M 999 (lwLV G b i) [] := by
  obtain ⟨C, hRm, hs, hbG, hL⟩ := hF
  obtain ⟨n, hN, n', hN', h⟩ := hX
  obtain ⟨v, P1, hc, hr⟩ := u_best l G h (xs (i + 1))
  refine v_aload_n C 2 dL_law_999 rfl ?_
  refine v_aload_n C 1 dL_law_1000 rfl ?_
  refine v_iload_n C 0 dL_law_1001 rfl ?_
  refine v_iconst C (nI 1) dL_law_1002 (by decide) ?_
  refine n_iadd C dL_law_1003 ?_
  refine l_sld C hs hbG (by omega) (by omega) dL_law_1004 ?_
  refine l_call C hRm ⟨Nat.le_refl _, Nat.le_refl _⟩ [.int (xs (i + 1))] cw_X9_best ml_L_119 (by decide) (show shp 0 = 9 from by decide +kernel) (by decide) rfl hc (by decide) rfl rfl (Nat.le_of_ble_eq_true rfl) dL_law_1005 (fun M1 h1 => ?_)
  obtain ⟨P2, hc2, hr2⟩ := hr M1 h1
  refine v_aload_n C 3 dL_law_1008 rfl ?_
  refine v_aload_n C 1 dL_law_1009 rfl ?_
  refine v_iload_n C 0 dL_law_1010 rfl ?_
  refine v_iconst C (nI 1) dL_law_1011 (by decide) ?_
  refine n_iadd C dL_law_1012 ?_
  refine l_sld C hs hbG (by omega) (by omega) dL_law_1013 ?_
  refine l_call C hRm ⟨Nat.le_refl _, Nat.le_refl _⟩ [.int (xs (i + 1))] cw_X10_best ml_L_122 (by decide) (show shp 205 = 10 from by decide +kernel) (by decide) rfl hc2 (by decide) rfl rfl (Nat.le_of_ble_eq_true rfl) dL_law_1014 (fun M2 h2 => ?_)
  exact v_icmp_eq C 1421 dL_law_1017 rfl (fun _ => kend M2 (hr2 M2 h2)) (fun hne => absurd rfl hne)
set_option maxHeartbeats 1000000 in
theorem lw_c26 {f : FC} {G : GC} {l : Launch} {dk ds b L i : Nat} {xs : Nat → Int32} (hF : LwF f G l dk ds b L xs) (hi : i + 6 ≤ L) {M : Mm} (hX : RelX M) (kend : ∀ M2, RelX M2 → Vc f G (dk, ds, 221, 1) M2 1421 (lwLV G b i) []) : Vc f G (dk, ds, 221, 1) M 1022 (lwLV G b i) [] := by
  obtain ⟨C, hRm, hs, hbG, hL⟩ := hF
  obtain ⟨n, hN, n', hN', h⟩ := hX
  obtain ⟨v, P1, hc, hr⟩ := u_voice l G h (xs (i + 1)) (xs (i + 2)) (xs (i + 3))
  refine v_aload_n C 2 dL_law_1022 rfl ?_
  refine v_aload_n C 1 dL_law_1023 rfl ?_
  refine v_iload_n C 0 dL_law_1024 rfl ?_
  refine v_iconst C (nI 1) dL_law_1025 (by decide) ?_
  refine n_iadd C dL_law_1026 ?_
  refine l_sld C hs hbG (by omega) (by omega) dL_law_1027 ?_
  refine v_aload_n C 1 dL_law_1028 rfl ?_
  refine v_iload_n C 0 dL_law_1029 rfl ?_
  refine v_iconst C (nI 2) dL_law_1030 (by decide) ?_
  refine n_iadd C dL_law_1031 ?_
  refine l_sld C hs hbG (by omega) (by omega) dL_law_1032 ?_
  refine v_aload_n C 1 dL_law_1033 rfl ?_
  refine v_iload_n C 0 dL_law_1034 rfl ?_
  refine v_iconst C (nI 3) dL_law_1035 (by decide) ?_
  refine n_iadd C dL_law_1036 ?_
  refine l_sld C hs hbG (by omega) (by omega) dL_law_1037 ?_
  refine l_call C hRm ⟨Nat.le_refl _, Nat.le_refl _⟩ [.int (xs (i + 1)), .int (xs (i + 2)), .int (xs (i + 3))] cw_X9_voice ml_L_123 (by decide) (show shp 0 = 9 from by decide +kernel) (by decide) rfl hc (by decide) rfl rfl (Nat.le_of_ble_eq_true rfl) dL_law_1038 (fun M1 h1 => ?_)
  obtain ⟨P2, hc2, hr2⟩ := hr M1 h1
  refine v_aload_n C 3 dL_law_1041 rfl ?_
  refine v_aload_n C 1 dL_law_1042 rfl ?_
  refine v_iload_n C 0 dL_law_1043 rfl ?_
  refine v_iconst C (nI 1) dL_law_1044 (by decide) ?_
  refine n_iadd C dL_law_1045 ?_
  refine l_sld C hs hbG (by omega) (by omega) dL_law_1046 ?_
  refine v_aload_n C 1 dL_law_1047 rfl ?_
  refine v_iload_n C 0 dL_law_1048 rfl ?_
  refine v_iconst C (nI 2) dL_law_1049 (by decide) ?_
  refine n_iadd C dL_law_1050 ?_
  refine l_sld C hs hbG (by omega) (by omega) dL_law_1051 ?_
  refine v_aload_n C 1 dL_law_1052 rfl ?_
  refine v_iload_n C 0 dL_law_1053 rfl ?_
  refine v_iconst C (nI 3) dL_law_1054 (by decide) ?_
  refine n_iadd C dL_law_1055 ?_
  refine l_sld C hs hbG (by omega) (by omega) dL_law_1056 ?_
  refine l_call C hRm ⟨Nat.le_refl _, Nat.le_refl _⟩ [.int (xs (i + 1)), .int (xs (i + 2)), .int (xs (i + 3))] cw_X10_voice ml_L_126 (by decide) (show shp 205 = 10 from by decide +kernel) (by decide) rfl hc2 (by decide) rfl rfl (Nat.le_of_ble_eq_true rfl) dL_law_1057 (fun M2 h2 => ?_)
  exact v_icmp_eq C 1421 dL_law_1060 rfl (fun _ => kend M2 (hr2 M2 h2)) (fun hne => absurd rfl hne)
set_option maxHeartbeats 1000000 in
theorem lw_c27 {f : FC} {G : GC} {l : Launch} {dk ds b L i : Nat} {xs : Nat → Int32} (hF : LwF f G l dk ds b L xs) (hi : i + 6 ≤ L) {M : Mm} (hX : RelX M) (kend : ∀ M2, RelX M2 → Vc f G (dk, ds, 221, 1) M2 1421 (lwLV G b i) []) : Vc f G (dk, ds, 221, 1) M 1065 (lwLV G b i) [] := by
  obtain ⟨C, hRm, hs, hbG, hL⟩ := hF
  obtain ⟨n, hN, n', hN', h⟩ := hX
  obtain ⟨v, P1, hc, hr⟩ := u_body l G h (xs (i + 1))
  refine v_aload_n C 2 dL_law_1065 rfl ?_
  refine v_aload_n C 1 dL_law_1066 rfl ?_
  refine v_iload_n C 0 dL_law_1067 rfl ?_
  refine v_iconst C (nI 1) dL_law_1068 (by decide) ?_
  refine n_iadd C dL_law_1069 ?_
  refine l_sld C hs hbG (by omega) (by omega) dL_law_1070 ?_
  refine l_call C hRm ⟨Nat.le_refl _, Nat.le_refl _⟩ [.int (xs (i + 1))] cw_X9_body ml_L_127 (by decide) (show shp 0 = 9 from by decide +kernel) (by decide) rfl hc (by decide) rfl rfl (Nat.le_of_ble_eq_true rfl) dL_law_1071 (fun M1 h1 => ?_)
  obtain ⟨P2, hc2, hr2⟩ := hr M1 h1
  refine v_aload_n C 3 dL_law_1074 rfl ?_
  refine v_aload_n C 1 dL_law_1075 rfl ?_
  refine v_iload_n C 0 dL_law_1076 rfl ?_
  refine v_iconst C (nI 1) dL_law_1077 (by decide) ?_
  refine n_iadd C dL_law_1078 ?_
  refine l_sld C hs hbG (by omega) (by omega) dL_law_1079 ?_
  refine l_call C hRm ⟨Nat.le_refl _, Nat.le_refl _⟩ [.int (xs (i + 1))] cw_X10_body_ ml_L_130 (by decide) (show shp 205 = 10 from by decide +kernel) (by decide) rfl hc2 (by decide) rfl rfl (Nat.le_of_ble_eq_true rfl) dL_law_1080 (fun M2 h2 => ?_)
  exact v_icmp_eq C 1421 dL_law_1083 rfl (fun _ => kend M2 (hr2 M2 h2)) (fun hne => absurd rfl hne)
set_option maxHeartbeats 1000000 in
theorem lw_c28 {f : FC} {G : GC} {l : Launch} {dk ds b L i : Nat} {xs : Nat → Int32} (hF : LwF f G l dk ds b L xs) (hi : i + 6 ≤ L) {M : Mm} (hX : RelX M) (kend : ∀ M2, RelX M2 → Vc f G (dk, ds, 221, 1) M2 1421 (lwLV G b i) []) : Vc f G (dk, ds, 221, 1) M 1088 (lwLV G b i) [] := by
  obtain ⟨C, hRm, hs, hbG, hL⟩ := hF
  obtain ⟨n, hN, n', hN', h⟩ := hX
  obtain ⟨v, P1, hc, hr⟩ := u_sheet l G h (xs (i + 1)) (xs (i + 2)) (xs (i + 3))
  refine v_aload_n C 2 dL_law_1088 rfl ?_
  refine v_aload_n C 1 dL_law_1089 rfl ?_
  refine v_iload_n C 0 dL_law_1090 rfl ?_
  refine v_iconst C (nI 1) dL_law_1091 (by decide) ?_
  refine n_iadd C dL_law_1092 ?_
  refine l_sld C hs hbG (by omega) (by omega) dL_law_1093 ?_
  refine v_aload_n C 1 dL_law_1094 rfl ?_
  refine v_iload_n C 0 dL_law_1095 rfl ?_
  refine v_iconst C (nI 2) dL_law_1096 (by decide) ?_
  refine n_iadd C dL_law_1097 ?_
  refine l_sld C hs hbG (by omega) (by omega) dL_law_1098 ?_
  refine v_aload_n C 1 dL_law_1099 rfl ?_
  refine v_iload_n C 0 dL_law_1100 rfl ?_
  refine v_iconst C (nI 3) dL_law_1101 (by decide) ?_
  refine n_iadd C dL_law_1102 ?_
  refine l_sld C hs hbG (by omega) (by omega) dL_law_1103 ?_
  refine l_call C hRm ⟨Nat.le_refl _, Nat.le_refl _⟩ [.int (xs (i + 1)), .int (xs (i + 2)), .int (xs (i + 3))] cw_X9_sheet ml_L_131 (by decide) (show shp 0 = 9 from by decide +kernel) (by decide) rfl hc (by decide) rfl rfl (Nat.le_of_ble_eq_true rfl) dL_law_1104 (fun M1 h1 => ?_)
  obtain ⟨P2, hc2, hr2⟩ := hr M1 h1
  refine v_aload_n C 3 dL_law_1107 rfl ?_
  refine v_aload_n C 1 dL_law_1108 rfl ?_
  refine v_iload_n C 0 dL_law_1109 rfl ?_
  refine v_iconst C (nI 1) dL_law_1110 (by decide) ?_
  refine n_iadd C dL_law_1111 ?_
  refine l_sld C hs hbG (by omega) (by omega) dL_law_1112 ?_
  refine v_aload_n C 1 dL_law_1113 rfl ?_
  refine v_iload_n C 0 dL_law_1114 rfl ?_
  refine v_iconst C (nI 2) dL_law_1115 (by decide) ?_
  refine n_iadd C dL_law_1116 ?_
  refine l_sld C hs hbG (by omega) (by omega) dL_law_1117 ?_
  refine v_aload_n C 1 dL_law_1118 rfl ?_
  refine v_iload_n C 0 dL_law_1119 rfl ?_
  refine v_iconst C (nI 3) dL_law_1120 (by decide) ?_
  refine n_iadd C dL_law_1121 ?_
  refine l_sld C hs hbG (by omega) (by omega) dL_law_1122 ?_
  refine l_call C hRm ⟨Nat.le_refl _, Nat.le_refl _⟩ [.int (xs (i + 1)), .int (xs (i + 2)), .int (xs (i + 3))] cw_X10_sheet ml_L_134 (by decide) (show shp 205 = 10 from by decide +kernel) (by decide) rfl hc2 (by decide) rfl rfl (Nat.le_of_ble_eq_true rfl) dL_law_1123 (fun M2 h2 => ?_)
  exact v_icmp_eq C 1421 dL_law_1126 rfl (fun _ => kend M2 (hr2 M2 h2)) (fun hne => absurd rfl hne)
set_option maxHeartbeats 1000000 in
theorem lw_c29 {f : FC} {G : GC} {l : Launch} {dk ds b L i : Nat} {xs : Nat → Int32} (hF : LwF f G l dk ds b L xs) (hi : i + 6 ≤ L) {M : Mm} (hX : RelX M) (kend : ∀ M2, RelX M2 → Vc f G (dk, ds, 221, 1) M2 1421 (lwLV G b i) []) : Vc f G (dk, ds, 221, 1) M 1131 (lwLV G b i) [] := by
  obtain ⟨C, hRm, hs, hbG, hL⟩ := hF
  obtain ⟨n, hN, n', hN', h⟩ := hX
  obtain ⟨v, P1, hc, hr⟩ := u_put l G h (xs (i + 1)) (xs (i + 2)) (xs (i + 3))
  refine v_aload_n C 2 dL_law_1131 rfl ?_
  refine v_aload_n C 1 dL_law_1132 rfl ?_
  refine v_iload_n C 0 dL_law_1133 rfl ?_
  refine v_iconst C (nI 1) dL_law_1134 (by decide) ?_
  refine n_iadd C dL_law_1135 ?_
  refine l_sld C hs hbG (by omega) (by omega) dL_law_1136 ?_
  refine v_aload_n C 1 dL_law_1137 rfl ?_
  refine v_iload_n C 0 dL_law_1138 rfl ?_
  refine v_iconst C (nI 2) dL_law_1139 (by decide) ?_
  refine n_iadd C dL_law_1140 ?_
  refine l_sld C hs hbG (by omega) (by omega) dL_law_1141 ?_
  refine v_aload_n C 1 dL_law_1142 rfl ?_
  refine v_iload_n C 0 dL_law_1143 rfl ?_
  refine v_iconst C (nI 3) dL_law_1144 (by decide) ?_
  refine n_iadd C dL_law_1145 ?_
  refine l_sld C hs hbG (by omega) (by omega) dL_law_1146 ?_
  refine l_call C hRm ⟨Nat.le_refl _, Nat.le_refl _⟩ [.int (xs (i + 1)), .int (xs (i + 2)), .int (xs (i + 3))] cw_X9_put ml_L_135 (by decide) (show shp 0 = 9 from by decide +kernel) (by decide) rfl hc (by decide) rfl rfl (Nat.le_of_ble_eq_true rfl) dL_law_1147 (fun M1 h1 => ?_)
  obtain ⟨P2, hc2, hr2⟩ := hr M1 h1
  refine v_aload_n C 3 dL_law_1150 rfl ?_
  refine v_aload_n C 1 dL_law_1151 rfl ?_
  refine v_iload_n C 0 dL_law_1152 rfl ?_
  refine v_iconst C (nI 1) dL_law_1153 (by decide) ?_
  refine n_iadd C dL_law_1154 ?_
  refine l_sld C hs hbG (by omega) (by omega) dL_law_1155 ?_
  refine v_aload_n C 1 dL_law_1156 rfl ?_
  refine v_iload_n C 0 dL_law_1157 rfl ?_
  refine v_iconst C (nI 2) dL_law_1158 (by decide) ?_
  refine n_iadd C dL_law_1159 ?_
  refine l_sld C hs hbG (by omega) (by omega) dL_law_1160 ?_
  refine v_aload_n C 1 dL_law_1161 rfl ?_
  refine v_iload_n C 0 dL_law_1162 rfl ?_
  refine v_iconst C (nI 3) dL_law_1163 (by decide) ?_
  refine n_iadd C dL_law_1164 ?_
  refine l_sld C hs hbG (by omega) (by omega) dL_law_1165 ?_
  refine l_call C hRm ⟨Nat.le_refl _, Nat.le_refl _⟩ [.int (xs (i + 1)), .int (xs (i + 2)), .int (xs (i + 3))] cw_X10_put ml_L_138 (by decide) (show shp 205 = 10 from by decide +kernel) (by decide) rfl hc2 (by decide) rfl rfl (Nat.le_of_ble_eq_true rfl) dL_law_1166 (fun M2 h2 => ?_)
  exact v_icmp_eq C 1421 dL_law_1169 rfl (fun _ => kend M2 (hr2 M2 h2)) (fun hne => absurd rfl hne)
set_option maxHeartbeats 1000000 in
theorem lw_c30 {f : FC} {G : GC} {l : Launch} {dk ds b L i : Nat} {xs : Nat → Int32} (hF : LwF f G l dk ds b L xs) (hi : i + 6 ≤ L) {M : Mm} (hX : RelX M) (kend : ∀ M2, RelX M2 → Vc f G (dk, ds, 221, 1) M2 1421 (lwLV G b i) []) : Vc f G (dk, ds, 221, 1) M 1174 (lwLV G b i) [] := by
  obtain ⟨C, hRm, hs, hbG, hL⟩ := hF
  obtain ⟨n, hN, n', hN', h⟩ := hX
  obtain ⟨v, P1, hc, hr⟩ := u_move l G h (xs (i + 1)) (xs (i + 2)) (xs (i + 3)) (xs (i + 4)) (xs (i + 5))
  refine v_aload_n C 2 dL_law_1174 rfl ?_
  refine v_aload_n C 1 dL_law_1175 rfl ?_
  refine v_iload_n C 0 dL_law_1176 rfl ?_
  refine v_iconst C (nI 1) dL_law_1177 (by decide) ?_
  refine n_iadd C dL_law_1178 ?_
  refine l_sld C hs hbG (by omega) (by omega) dL_law_1179 ?_
  refine v_aload_n C 1 dL_law_1180 rfl ?_
  refine v_iload_n C 0 dL_law_1181 rfl ?_
  refine v_iconst C (nI 2) dL_law_1182 (by decide) ?_
  refine n_iadd C dL_law_1183 ?_
  refine l_sld C hs hbG (by omega) (by omega) dL_law_1184 ?_
  refine v_aload_n C 1 dL_law_1185 rfl ?_
  refine v_iload_n C 0 dL_law_1186 rfl ?_
  refine v_iconst C (nI 3) dL_law_1187 (by decide) ?_
  refine n_iadd C dL_law_1188 ?_
  refine l_sld C hs hbG (by omega) (by omega) dL_law_1189 ?_
  refine v_aload_n C 1 dL_law_1190 rfl ?_
  refine v_iload_n C 0 dL_law_1191 rfl ?_
  refine v_iconst C (nI 4) dL_law_1192 (by decide) ?_
  refine n_iadd C dL_law_1193 ?_
  refine l_sld C hs hbG (by omega) (by omega) dL_law_1194 ?_
  refine v_aload_n C 1 dL_law_1195 rfl ?_
  refine v_iload_n C 0 dL_law_1196 rfl ?_
  refine v_iconst C (nI 5) dL_law_1197 (by decide) ?_
  refine n_iadd C dL_law_1198 ?_
  refine l_sld C hs hbG (by omega) (by omega) dL_law_1199 ?_
  refine l_call C hRm ⟨Nat.le_refl _, Nat.le_refl _⟩ [.int (xs (i + 1)), .int (xs (i + 2)), .int (xs (i + 3)), .int (xs (i + 4)), .int (xs (i + 5))] cw_X9_move ml_L_139 (by decide) (show shp 0 = 9 from by decide +kernel) (by decide) rfl hc (by decide) rfl rfl (Nat.le_of_ble_eq_true rfl) dL_law_1200 (fun M1 h1 => ?_)
  obtain ⟨P2, hc2, hr2⟩ := hr M1 h1
  refine v_aload_n C 3 dL_law_1203 rfl ?_
  refine v_aload_n C 1 dL_law_1204 rfl ?_
  refine v_iload_n C 0 dL_law_1205 rfl ?_
  refine v_iconst C (nI 1) dL_law_1206 (by decide) ?_
  refine n_iadd C dL_law_1207 ?_
  refine l_sld C hs hbG (by omega) (by omega) dL_law_1208 ?_
  refine v_aload_n C 1 dL_law_1209 rfl ?_
  refine v_iload_n C 0 dL_law_1210 rfl ?_
  refine v_iconst C (nI 2) dL_law_1211 (by decide) ?_
  refine n_iadd C dL_law_1212 ?_
  refine l_sld C hs hbG (by omega) (by omega) dL_law_1213 ?_
  refine v_aload_n C 1 dL_law_1214 rfl ?_
  refine v_iload_n C 0 dL_law_1215 rfl ?_
  refine v_iconst C (nI 3) dL_law_1216 (by decide) ?_
  refine n_iadd C dL_law_1217 ?_
  refine l_sld C hs hbG (by omega) (by omega) dL_law_1218 ?_
  refine v_aload_n C 1 dL_law_1219 rfl ?_
  refine v_iload_n C 0 dL_law_1220 rfl ?_
  refine v_iconst C (nI 4) dL_law_1221 (by decide) ?_
  refine n_iadd C dL_law_1222 ?_
  refine l_sld C hs hbG (by omega) (by omega) dL_law_1223 ?_
  refine v_aload_n C 1 dL_law_1224 rfl ?_
  refine v_iload_n C 0 dL_law_1225 rfl ?_
  refine v_iconst C (nI 5) dL_law_1226 (by decide) ?_
  refine n_iadd C dL_law_1227 ?_
  refine l_sld C hs hbG (by omega) (by omega) dL_law_1228 ?_
  refine l_call C hRm ⟨Nat.le_refl _, Nat.le_refl _⟩ [.int (xs (i + 1)), .int (xs (i + 2)), .int (xs (i + 3)), .int (xs (i + 4)), .int (xs (i + 5))] cw_X10_move ml_L_143 (by decide) (show shp 205 = 10 from by decide +kernel) (by decide) rfl hc2 (by decide) rfl rfl (Nat.le_of_ble_eq_true rfl) dL_law_1229 (fun M2 h2 => ?_)
  exact v_icmp_eq C 1421 dL_law_1232 rfl (fun _ => kend M2 (hr2 M2 h2)) (fun hne => absurd rfl hne)
set_option maxHeartbeats 1000000 in
theorem lw_c31 {f : FC} {G : GC} {l : Launch} {dk ds b L i : Nat} {xs : Nat → Int32} (hF : LwF f G l dk ds b L xs) (hi : i + 6 ≤ L) {M : Mm} (hX : RelX M) (kend : ∀ M2, RelX M2 → Vc f G (dk, ds, 221, 1) M2 1421 (lwLV G b i) []) : Vc f G (dk, ds, 221, 1) M 1237 (lwLV G b i) [] := by
  obtain ⟨C, hRm, hs, hbG, hL⟩ := hF
  obtain ⟨n, hN, n', hN', h⟩ := hX
  obtain ⟨v, P1, hc, hr⟩ := u_slips l G h (xs (i + 1)) (xs (i + 2))
  refine v_aload_n C 2 dL_law_1237 rfl ?_
  refine v_aload_n C 1 dL_law_1238 rfl ?_
  refine v_iload_n C 0 dL_law_1239 rfl ?_
  refine v_iconst C (nI 1) dL_law_1240 (by decide) ?_
  refine n_iadd C dL_law_1241 ?_
  refine l_sld C hs hbG (by omega) (by omega) dL_law_1242 ?_
  refine v_aload_n C 1 dL_law_1243 rfl ?_
  refine v_iload_n C 0 dL_law_1244 rfl ?_
  refine v_iconst C (nI 2) dL_law_1245 (by decide) ?_
  refine n_iadd C dL_law_1246 ?_
  refine l_sld C hs hbG (by omega) (by omega) dL_law_1247 ?_
  refine l_call C hRm ⟨Nat.le_refl _, Nat.le_refl _⟩ [.int (xs (i + 1)), .int (xs (i + 2))] cw_X9_slips ml_L_144 (by decide) (show shp 0 = 9 from by decide +kernel) (by decide) rfl hc (by decide) rfl rfl (Nat.le_of_ble_eq_true rfl) dL_law_1248 (fun M1 h1 => ?_)
  obtain ⟨P2, hc2, hr2⟩ := hr M1 h1
  refine v_aload_n C 3 dL_law_1251 rfl ?_
  refine v_aload_n C 1 dL_law_1252 rfl ?_
  refine v_iload_n C 0 dL_law_1253 rfl ?_
  refine v_iconst C (nI 1) dL_law_1254 (by decide) ?_
  refine n_iadd C dL_law_1255 ?_
  refine l_sld C hs hbG (by omega) (by omega) dL_law_1256 ?_
  refine v_aload_n C 1 dL_law_1257 rfl ?_
  refine v_iload_n C 0 dL_law_1258 rfl ?_
  refine v_iconst C (nI 2) dL_law_1259 (by decide) ?_
  refine n_iadd C dL_law_1260 ?_
  refine l_sld C hs hbG (by omega) (by omega) dL_law_1261 ?_
  refine l_call C hRm ⟨Nat.le_refl _, Nat.le_refl _⟩ [.int (xs (i + 1)), .int (xs (i + 2))] cw_X10_slips ml_L_147 (by decide) (show shp 205 = 10 from by decide +kernel) (by decide) rfl hc2 (by decide) rfl rfl (Nat.le_of_ble_eq_true rfl) dL_law_1262 (fun M2 h2 => ?_)
  exact v_icmp_eq C 1421 dL_law_1265 rfl (fun _ => kend M2 (hr2 M2 h2)) (fun hne => absurd rfl hne)
set_option maxHeartbeats 1000000 in
theorem lw_c32 {f : FC} {G : GC} {l : Launch} {dk ds b L i : Nat} {xs : Nat → Int32} (hF : LwF f G l dk ds b L xs) (hi : i + 6 ≤ L) {M : Mm} (hX : RelX M) (kend : ∀ M2, RelX M2 → Vc f G (dk, ds, 221, 1) M2 1421 (lwLV G b i) []) : Vc f G (dk, ds, 221, 1) M 1270 (lwLV G b i) [] := by
  obtain ⟨C, hRm, hs, hbG, hL⟩ := hF
  obtain ⟨n, hN, n', hN', h⟩ := hX
  obtain ⟨v, P1, hc, hr⟩ := u_film l G h (xs (i + 1)) (xs (i + 2))
  refine v_aload_n C 2 dL_law_1270 rfl ?_
  refine v_aload_n C 1 dL_law_1271 rfl ?_
  refine v_iload_n C 0 dL_law_1272 rfl ?_
  refine v_iconst C (nI 1) dL_law_1273 (by decide) ?_
  refine n_iadd C dL_law_1274 ?_
  refine l_sld C hs hbG (by omega) (by omega) dL_law_1275 ?_
  refine v_aload_n C 1 dL_law_1276 rfl ?_
  refine v_iload_n C 0 dL_law_1277 rfl ?_
  refine v_iconst C (nI 2) dL_law_1278 (by decide) ?_
  refine n_iadd C dL_law_1279 ?_
  refine l_sld C hs hbG (by omega) (by omega) dL_law_1280 ?_
  refine l_call C hRm ⟨Nat.le_refl _, Nat.le_refl _⟩ [.int (xs (i + 1)), .int (xs (i + 2))] cw_X9_film ml_L_148 (by decide) (show shp 0 = 9 from by decide +kernel) (by decide) rfl hc (by decide) rfl rfl (Nat.le_of_ble_eq_true rfl) dL_law_1281 (fun M1 h1 => ?_)
  obtain ⟨P2, hc2, hr2⟩ := hr M1 h1
  refine v_aload_n C 3 dL_law_1284 rfl ?_
  refine v_aload_n C 1 dL_law_1285 rfl ?_
  refine v_iload_n C 0 dL_law_1286 rfl ?_
  refine v_iconst C (nI 1) dL_law_1287 (by decide) ?_
  refine n_iadd C dL_law_1288 ?_
  refine l_sld C hs hbG (by omega) (by omega) dL_law_1289 ?_
  refine v_aload_n C 1 dL_law_1290 rfl ?_
  refine v_iload_n C 0 dL_law_1291 rfl ?_
  refine v_iconst C (nI 2) dL_law_1292 (by decide) ?_
  refine n_iadd C dL_law_1293 ?_
  refine l_sld C hs hbG (by omega) (by omega) dL_law_1294 ?_
  refine l_call C hRm ⟨Nat.le_refl _, Nat.le_refl _⟩ [.int (xs (i + 1)), .int (xs (i + 2))] cw_X10_film ml_L_151 (by decide) (show shp 205 = 10 from by decide +kernel) (by decide) rfl hc2 (by decide) rfl rfl (Nat.le_of_ble_eq_true rfl) dL_law_1295 (fun M2 h2 => ?_)
  exact v_icmp_eq C 1421 dL_law_1298 rfl (fun _ => kend M2 (hr2 M2 h2)) (fun hne => absurd rfl hne)
set_option maxHeartbeats 1000000 in
theorem lw_c33 {f : FC} {G : GC} {l : Launch} {dk ds b L i : Nat} {xs : Nat → Int32} (hF : LwF f G l dk ds b L xs) (hi : i + 6 ≤ L) {M : Mm} (hX : RelX M) (kend : ∀ M2, RelX M2 → Vc f G (dk, ds, 221, 1) M2 1421 (lwLV G b i) []) : Vc f G (dk, ds, 221, 1) M 1303 (lwLV G b i) [] := by
  obtain ⟨C, hRm, hs, hbG, hL⟩ := hF
  obtain ⟨n, hN, n', hN', h⟩ := hX
  obtain ⟨v, P1, hc, hr⟩ := u_image l G h 
  refine v_aload_n C 2 dL_law_1303 rfl ?_
  refine l_call C hRm ⟨Nat.le_refl _, Nat.le_refl _⟩ [] cw_X9_image ml_L_152 (by decide) (show shp 0 = 9 from by decide +kernel) (by decide) rfl hc (by decide) rfl rfl (Nat.le_of_ble_eq_true rfl) dL_law_1304 (fun M1 h1 => ?_)
  obtain ⟨P2, hc2, hr2⟩ := hr M1 h1
  refine v_aload_n C 3 dL_law_1307 rfl ?_
  refine l_call C hRm ⟨Nat.le_refl _, Nat.le_refl _⟩ [] cw_X10_image ml_L_156 (by decide) (show shp 205 = 10 from by decide +kernel) (by decide) rfl hc2 (by decide) rfl rfl (Nat.le_of_ble_eq_true rfl) dL_law_1308 (fun M2 h2 => ?_)
  exact v_icmp_eq C 1421 dL_law_1311 rfl (fun _ => kend M2 (hr2 M2 h2)) (fun hne => absurd rfl hne)
set_option maxHeartbeats 1000000 in
theorem lw_c34 {f : FC} {G : GC} {l : Launch} {dk ds b L i : Nat} {xs : Nat → Int32} (hF : LwF f G l dk ds b L xs) (hi : i + 6 ≤ L) {M : Mm} (hX : RelX M) (kend : ∀ M2, RelX M2 → Vc f G (dk, ds, 221, 1) M2 1421 (lwLV G b i) []) : Vc f G (dk, ds, 221, 1) M 1316 (lwLV G b i) [] := by
  obtain ⟨C, hRm, hs, hbG, hL⟩ := hF
  obtain ⟨n, hN, n', hN', h⟩ := hX
  obtain ⟨v, P1, hc, hr⟩ := u_restore l G h 
  refine v_aload_n C 2 dL_law_1316 rfl ?_
  refine l_call C hRm ⟨Nat.le_refl _, Nat.le_refl _⟩ [] cw_X9_restore ml_L_157 (by decide) (show shp 0 = 9 from by decide +kernel) (by decide) rfl hc (by decide) rfl rfl (Nat.le_of_ble_eq_true rfl) dL_law_1317 (fun M1 h1 => ?_)
  obtain ⟨P2, hc2, hr2⟩ := hr M1 h1
  refine v_aload_n C 3 dL_law_1320 rfl ?_
  refine l_call C hRm ⟨Nat.le_refl _, Nat.le_refl _⟩ [] cw_X10_restore ml_L_160 (by decide) (show shp 205 = 10 from by decide +kernel) (by decide) rfl hc2 (by decide) rfl rfl (Nat.le_of_ble_eq_true rfl) dL_law_1321 (fun M2 h2 => ?_)
  exact v_icmp_eq C 1421 dL_law_1324 rfl (fun _ => kend M2 (hr2 M2 h2)) (fun hne => absurd rfl hne)
set_option maxHeartbeats 1000000 in
theorem lw_c35 {f : FC} {G : GC} {l : Launch} {dk ds b L i : Nat} {xs : Nat → Int32} (hF : LwF f G l dk ds b L xs) (hi : i + 6 ≤ L) {M : Mm} (hX : RelX M) (kend : ∀ M2, RelX M2 → Vc f G (dk, ds, 221, 1) M2 1421 (lwLV G b i) []) : Vc f G (dk, ds, 221, 1) M 1329 (lwLV G b i) [] := by
  obtain ⟨C, hRm, hs, hbG, hL⟩ := hF
  obtain ⟨n, hN, n', hN', h⟩ := hX
  obtain ⟨v, P1, hc, hr⟩ := u_tell l G h (xs (i + 1))
  refine v_aload_n C 2 dL_law_1329 rfl ?_
  refine v_aload_n C 1 dL_law_1330 rfl ?_
  refine v_iload_n C 0 dL_law_1331 rfl ?_
  refine v_iconst C (nI 1) dL_law_1332 (by decide) ?_
  refine n_iadd C dL_law_1333 ?_
  refine l_sld C hs hbG (by omega) (by omega) dL_law_1334 ?_
  refine l_call C hRm ⟨Nat.le_refl _, Nat.le_refl _⟩ [.int (xs (i + 1))] cw_X9_tell ml_L_161 (by decide) (show shp 0 = 9 from by decide +kernel) (by decide) rfl hc (by decide) rfl rfl (Nat.le_of_ble_eq_true rfl) dL_law_1335 (fun M1 h1 => ?_)
  obtain ⟨P2, hc2, hr2⟩ := hr M1 h1
  refine v_aload_n C 3 dL_law_1338 rfl ?_
  refine v_aload_n C 1 dL_law_1339 rfl ?_
  refine v_iload_n C 0 dL_law_1340 rfl ?_
  refine v_iconst C (nI 1) dL_law_1341 (by decide) ?_
  refine n_iadd C dL_law_1342 ?_
  refine l_sld C hs hbG (by omega) (by omega) dL_law_1343 ?_
  refine l_call C hRm ⟨Nat.le_refl _, Nat.le_refl _⟩ [.int (xs (i + 1))] cw_X10_tell ml_L_164 (by decide) (show shp 205 = 10 from by decide +kernel) (by decide) rfl hc2 (by decide) rfl rfl (Nat.le_of_ble_eq_true rfl) dL_law_1344 (fun M2 h2 => ?_)
  exact v_icmp_eq C 1421 dL_law_1347 rfl (fun _ => kend M2 (hr2 M2 h2)) (fun hne => absurd rfl hne)
set_option maxHeartbeats 1000000 in
theorem lw_c36 {f : FC} {G : GC} {l : Launch} {dk ds b L i : Nat} {xs : Nat → Int32} (hF : LwF f G l dk ds b L xs) (hi : i + 6 ≤ L) {M : Mm} (hX : RelX M) (kend : ∀ M2, RelX M2 → Vc f G (dk, ds, 221, 1) M2 1421 (lwLV G b i) []) : Vc f G (dk, ds, 221, 1) M 1352 (lwLV G b i) [] := by
  obtain ⟨C, hRm, hs, hbG, hL⟩ := hF
  obtain ⟨n, hN, n', hN', h⟩ := hX
  obtain ⟨v, P1, hc, hr⟩ := u_check l G h (xs (i + 1))
  refine v_aload_n C 2 dL_law_1352 rfl ?_
  refine v_aload_n C 1 dL_law_1353 rfl ?_
  refine v_iload_n C 0 dL_law_1354 rfl ?_
  refine v_iconst C (nI 1) dL_law_1355 (by decide) ?_
  refine n_iadd C dL_law_1356 ?_
  refine l_sld C hs hbG (by omega) (by omega) dL_law_1357 ?_
  refine l_call C hRm ⟨Nat.le_refl _, Nat.le_refl _⟩ [.int (xs (i + 1))] cw_X9_check ml_L_165 (by decide) (show shp 0 = 9 from by decide +kernel) (by decide) rfl hc (by decide) rfl rfl (Nat.le_of_ble_eq_true rfl) dL_law_1358 (fun M1 h1 => ?_)
  obtain ⟨P2, hc2, hr2⟩ := hr M1 h1
  refine v_aload_n C 3 dL_law_1361 rfl ?_
  refine v_aload_n C 1 dL_law_1362 rfl ?_
  refine v_iload_n C 0 dL_law_1363 rfl ?_
  refine v_iconst C (nI 1) dL_law_1364 (by decide) ?_
  refine n_iadd C dL_law_1365 ?_
  refine l_sld C hs hbG (by omega) (by omega) dL_law_1366 ?_
  refine l_call C hRm ⟨Nat.le_refl _, Nat.le_refl _⟩ [.int (xs (i + 1))] cw_X10_check ml_L_168 (by decide) (show shp 205 = 10 from by decide +kernel) (by decide) rfl hc2 (by decide) rfl rfl (Nat.le_of_ble_eq_true rfl) dL_law_1367 (fun M2 h2 => ?_)
  exact v_icmp_eq C 1421 dL_law_1370 rfl (fun _ => kend M2 (hr2 M2 h2)) (fun hne => absurd rfl hne)
set_option maxHeartbeats 1000000 in
theorem lw_c37 {f : FC} {G : GC} {l : Launch} {dk ds b L i : Nat} {xs : Nat → Int32} (hF : LwF f G l dk ds b L xs) (hi : i + 6 ≤ L) {M : Mm} (hX : RelX M) (kend : ∀ M2, RelX M2 → Vc f G (dk, ds, 221, 1) M2 1421 (lwLV G b i) []) : Vc f G (dk, ds, 221, 1) M 1375 (lwLV G b i) [] := by
  obtain ⟨C, hRm, hs, hbG, hL⟩ := hF
  obtain ⟨n, hN, n', hN', h⟩ := hX
  obtain ⟨v, P1, hc, hr⟩ := u_count l G h (xs (i + 1))
  refine v_aload_n C 2 dL_law_1375 rfl ?_
  refine v_aload_n C 1 dL_law_1376 rfl ?_
  refine v_iload_n C 0 dL_law_1377 rfl ?_
  refine v_iconst C (nI 1) dL_law_1378 (by decide) ?_
  refine n_iadd C dL_law_1379 ?_
  refine l_sld C hs hbG (by omega) (by omega) dL_law_1380 ?_
  refine l_call C hRm ⟨Nat.le_refl _, Nat.le_refl _⟩ [.int (xs (i + 1))] cw_X9_count ml_L_169 (by decide) (show shp 0 = 9 from by decide +kernel) (by decide) rfl hc (by decide) rfl rfl (Nat.le_of_ble_eq_true rfl) dL_law_1381 (fun M1 h1 => ?_)
  obtain ⟨P2, hc2, hr2⟩ := hr M1 h1
  refine v_aload_n C 3 dL_law_1384 rfl ?_
  refine v_aload_n C 1 dL_law_1385 rfl ?_
  refine v_iload_n C 0 dL_law_1386 rfl ?_
  refine v_iconst C (nI 1) dL_law_1387 (by decide) ?_
  refine n_iadd C dL_law_1388 ?_
  refine l_sld C hs hbG (by omega) (by omega) dL_law_1389 ?_
  refine l_call C hRm ⟨Nat.le_refl _, Nat.le_refl _⟩ [.int (xs (i + 1))] cw_X10_count ml_L_172 (by decide) (show shp 205 = 10 from by decide +kernel) (by decide) rfl hc2 (by decide) rfl rfl (Nat.le_of_ble_eq_true rfl) dL_law_1390 (fun M2 h2 => ?_)
  exact v_icmp_eq C 1421 dL_law_1393 rfl (fun _ => kend M2 (hr2 M2 h2)) (fun hne => absurd rfl hne)
set_option maxHeartbeats 1000000 in
theorem lw_c38 {f : FC} {G : GC} {l : Launch} {dk ds b L i : Nat} {xs : Nat → Int32} (hF : LwF f G l dk ds b L xs) (hi : i + 6 ≤ L) {M : Mm} (hX : RelX M) (kend : ∀ M2, RelX M2 → Vc f G (dk, ds, 221, 1) M2 1421 (lwLV G b i) []) : Vc f G (dk, ds, 221, 1) M 1398 (lwLV G b i) [] := by
  obtain ⟨C, hRm, hs, hbG, hL⟩ := hF
  obtain ⟨n, hN, n', hN', h⟩ := hX
  obtain ⟨v, P1, hc, hr⟩ := u_told l G h (xs (i + 1))
  refine v_aload_n C 2 dL_law_1398 rfl ?_
  refine v_aload_n C 1 dL_law_1399 rfl ?_
  refine v_iload_n C 0 dL_law_1400 rfl ?_
  refine v_iconst C (nI 1) dL_law_1401 (by decide) ?_
  refine n_iadd C dL_law_1402 ?_
  refine l_sld C hs hbG (by omega) (by omega) dL_law_1403 ?_
  refine l_call C hRm ⟨Nat.le_refl _, Nat.le_refl _⟩ [.int (xs (i + 1))] cw_X9_told ml_L_173 (by decide) (show shp 0 = 9 from by decide +kernel) (by decide) rfl hc (by decide) rfl rfl (Nat.le_of_ble_eq_true rfl) dL_law_1404 (fun M1 h1 => ?_)
  obtain ⟨P2, hc2, hr2⟩ := hr M1 h1
  refine v_aload_n C 3 dL_law_1407 rfl ?_
  refine v_aload_n C 1 dL_law_1408 rfl ?_
  refine v_iload_n C 0 dL_law_1409 rfl ?_
  refine v_iconst C (nI 1) dL_law_1410 (by decide) ?_
  refine n_iadd C dL_law_1411 ?_
  refine l_sld C hs hbG (by omega) (by omega) dL_law_1412 ?_
  refine l_call C hRm ⟨Nat.le_refl _, Nat.le_refl _⟩ [.int (xs (i + 1))] cw_X10_told ml_L_176 (by decide) (show shp 205 = 10 from by decide +kernel) (by decide) rfl hc2 (by decide) rfl rfl (Nat.le_of_ble_eq_true rfl) dL_law_1413 (fun M2 h2 => ?_)
  exact v_icmp_eq C 1421 dL_law_1416 rfl (fun _ => kend M2 (hr2 M2 h2)) (fun hne => absurd rfl hne)
set_option maxHeartbeats 4000000 in
theorem lw_step {f : FC} {G : GC} {l : Launch} {dk ds b L i : Nat} {xs : Nat → Int32} (hF : LwF f G l dk ds b L xs) (hi : i + 6 ≤ L) {M : Mm} (hX : RelX M) (kend : ∀ M2, RelX M2 → Vc f G (dk, ds, 221, 1) M2 1421 (lwLV G b i) []) : Vc f G (dk, ds, 221, 1) M 27 (lwLV G b i) [] := by
  have hF' := hF
  obtain ⟨C, hRm, hs, hbG, hL⟩ := hF
  refine v_aload_n C 1 dL_law_27 rfl ?_
  refine v_iload_n C 0 dL_law_28 rfl ?_
  refine l_sld C hs hbG (by omega) (by omega) dL_law_29 ?_
  refine v_bipush C (nI 63) dL_law_30 (by decide) ?_
  refine v_iand C dL_law_32 ?_
  obtain ⟨k, hk, hke⟩ := and63 (xs i)
  rw [hke]
  clear hke
  by_cases h39 : k < 39
  · rcases (show k = 0 ∨ k = 1 ∨ k = 2 ∨ k = 3 ∨ k = 4 ∨ k = 5 ∨ k = 6 ∨ k = 7 ∨ k = 8 ∨ k = 9 ∨ k = 10 ∨ k = 11 ∨ k = 12 ∨ k = 13 ∨ k = 14 ∨ k = 15 ∨ k = 16 ∨ k = 17 ∨ k = 18 ∨ k = 19 ∨ k = 20 ∨ k = 21 ∨ k = 22 ∨ k = 23 ∨ k = 24 ∨ k = 25 ∨ k = 26 ∨ k = 27 ∨ k = 28 ∨ k = 29 ∨ k = 30 ∨ k = 31 ∨ k = 32 ∨ k = 33 ∨ k = 34 ∨ k = 35 ∨ k = 36 ∨ k = 37 ∨ k = 38 by omega) with h_0 | h_0 | h_0 | h_0 | h_0 | h_0 | h_0 | h_0 | h_0 | h_0 | h_0 | h_0 | h_0 | h_0 | h_0 | h_0 | h_0 | h_0 | h_0 | h_0 | h_0 | h_0 | h_0 | h_0 | h_0 | h_0 | h_0 | h_0 | h_0 | h_0 | h_0 | h_0 | h_0 | h_0 | h_0 | h_0 | h_0 | h_0 | h_0
    · subst h_0
      exact v_tableIn C 204 dL_law_33 (by decide) (by decide) rfl rfl (lw_c0 hF' hi hX kend)
    · subst h_0
      exact v_tableIn C 247 dL_law_33 (by decide) (by decide) rfl rfl (lw_c1 hF' hi hX kend)
    · subst h_0
      exact v_tableIn C 280 dL_law_33 (by decide) (by decide) rfl rfl (lw_c2 hF' hi hX kend)
    · subst h_0
      exact v_tableIn C 313 dL_law_33 (by decide) (by decide) rfl rfl (lw_c3 hF' hi hX kend)
    · subst h_0
      exact v_tableIn C 356 dL_law_33 (by decide) (by decide) rfl rfl (lw_c4 hF' hi hX kend)
    · subst h_0
      exact v_tableIn C 399 dL_law_33 (by decide) (by decide) rfl rfl (lw_c5 hF' hi hX kend)
    · subst h_0
      exact v_tableIn C 432 dL_law_33 (by decide) (by decide) rfl rfl (lw_c6 hF' hi hX kend)
    · subst h_0
      exact v_tableIn C 465 dL_law_33 (by decide) (by decide) rfl rfl (lw_c7 hF' hi hX kend)
    · subst h_0
      exact v_tableIn C 498 dL_law_33 (by decide) (by decide) rfl rfl (lw_c8 hF' hi hX kend)
    · subst h_0
      exact v_tableIn C 531 dL_law_33 (by decide) (by decide) rfl rfl (lw_c9 hF' hi hX kend)
    · subst h_0
      exact v_tableIn C 554 dL_law_33 (by decide) (by decide) rfl rfl (lw_c10 hF' hi hX kend)
    · subst h_0
      exact v_tableIn C 597 dL_law_33 (by decide) (by decide) rfl rfl (lw_c11 hF' hi hX kend)
    · subst h_0
      exact v_tableIn C 660 dL_law_33 (by decide) (by decide) rfl rfl (lw_c12 hF' hi hX kend)
    · subst h_0
      exact v_tableIn C 683 dL_law_33 (by decide) (by decide) rfl rfl (lw_c13 hF' hi hX kend)
    · subst h_0
      exact v_tableIn C 706 dL_law_33 (by decide) (by decide) rfl rfl (lw_c14 hF' hi hX kend)
    · subst h_0
      exact v_tableIn C 729 dL_law_33 (by decide) (by decide) rfl rfl (lw_c15 hF' hi hX kend)
    · subst h_0
      exact v_tableIn C 752 dL_law_33 (by decide) (by decide) rfl rfl (lw_c16 hF' hi hX kend)
    · subst h_0
      exact v_tableIn C 775 dL_law_33 (by decide) (by decide) rfl rfl (lw_c17 hF' hi hX kend)
    · subst h_0
      exact v_tableIn C 798 dL_law_33 (by decide) (by decide) rfl rfl (lw_c18 hF' hi hX kend)
    · subst h_0
      exact v_tableIn C 821 dL_law_33 (by decide) (by decide) rfl rfl (lw_c19 hF' hi hX kend)
    · subst h_0
      exact v_tableIn C 844 dL_law_33 (by decide) (by decide) rfl rfl (lw_c20 hF' hi hX kend)
    · subst h_0
      exact v_tableIn C 887 dL_law_33 (by decide) (by decide) rfl rfl (lw_c21 hF' hi hX kend)
    · subst h_0
      exact v_tableIn C 910 dL_law_33 (by decide) (by decide) rfl rfl (lw_c22 hF' hi hX kend)
    · subst h_0
      exact v_tableIn C 943 dL_law_33 (by decide) (by decide) rfl rfl (lw_c23 hF' hi hX kend)
    · subst h_0
      exact v_tableIn C 976 dL_law_33 (by decide) (by decide) rfl rfl (lw_c24 hF' hi hX kend)
    · subst h_0
      exact v_tableIn C 999 dL_law_33 (by decide) (by decide) rfl rfl (lw_c25 hF' hi hX kend)
    · subst h_0
      exact v_tableIn C 1022 dL_law_33 (by decide) (by decide) rfl rfl (lw_c26 hF' hi hX kend)
    · subst h_0
      exact v_tableIn C 1065 dL_law_33 (by decide) (by decide) rfl rfl (lw_c27 hF' hi hX kend)
    · subst h_0
      exact v_tableIn C 1088 dL_law_33 (by decide) (by decide) rfl rfl (lw_c28 hF' hi hX kend)
    · subst h_0
      exact v_tableIn C 1131 dL_law_33 (by decide) (by decide) rfl rfl (lw_c29 hF' hi hX kend)
    · subst h_0
      exact v_tableIn C 1174 dL_law_33 (by decide) (by decide) rfl rfl (lw_c30 hF' hi hX kend)
    · subst h_0
      exact v_tableIn C 1237 dL_law_33 (by decide) (by decide) rfl rfl (lw_c31 hF' hi hX kend)
    · subst h_0
      exact v_tableIn C 1270 dL_law_33 (by decide) (by decide) rfl rfl (lw_c32 hF' hi hX kend)
    · subst h_0
      exact v_tableIn C 1303 dL_law_33 (by decide) (by decide) rfl rfl (lw_c33 hF' hi hX kend)
    · subst h_0
      exact v_tableIn C 1316 dL_law_33 (by decide) (by decide) rfl rfl (lw_c34 hF' hi hX kend)
    · subst h_0
      exact v_tableIn C 1329 dL_law_33 (by decide) (by decide) rfl rfl (lw_c35 hF' hi hX kend)
    · subst h_0
      exact v_tableIn C 1352 dL_law_33 (by decide) (by decide) rfl rfl (lw_c36 hF' hi hX kend)
    · subst h_0
      exact v_tableIn C 1375 dL_law_33 (by decide) (by decide) rfl rfl (lw_c37 hF' hi hX kend)
    · subst h_0
      exact v_tableIn C 1398 dL_law_33 (by decide) (by decide) rfl rfl (lw_c38 hF' hi hX kend)
  · have hz : ∀ q, q < 64 → ¬ q < 39 → (38 : Int) < (nI q).toInt := by decide +kernel
    exact v_tableOut C 1421 dL_law_33 (Or.inr (hz k hk h39)) rfl (kend M hX)
theorem lw_cmp {L i : Nat} (hL : L ≤ 384) (h : ¬ nI L - nI 6 < nI i) (hi : i ≤ 400) : i + 6 ≤ L := by
  rcases Nat.lt_or_ge L 6 with z | z
  · exfalso
    apply h
    have h0 : nI L - nI 6 < nI 0 := by
      rcases (show L = 0 ∨ L = 1 ∨ L = 2 ∨ L = 3 ∨ L = 4 ∨ L = 5 by omega) with q | q | q | q | q | q <;> subst q <;> decide
    rcases Nat.eq_zero_or_pos i with q | q
    · subst q; exact h0
    · exact Int32.lt_trans h0 ((nI_ltI (by decide) (by omega)).mpr q)
  · rw [nI_subN z] at h
    have h2 : ¬ L - 6 < i := fun q => h ((nI_ltI (by omega) (by omega)).mpr q)
    omega
set_option maxHeartbeats 4000000 in
theorem lw_loop {f : FC} {G : GC} {l : Launch} {dk ds b L : Nat} {xs : Nat → Int32} (hF : LwF f G l dk ds b L xs) (hend : ∀ M lv, Vc f G (dk, ds, 221, 1) M 1428 lv [.int (nI 1)]) : ∀ (k i : Nat) (M : Mm), i ≤ 400 → L + 1 ≤ i + k → RelX M → Vc f G (dk, ds, 221, 1) M 18 (lwLV G b i) [] := by
  have hF' := hF
  obtain ⟨C, hRm, hs, hbG, hL⟩ := hF
  intro k
  induction k with
  | zero =>
    intro i M hi hk hX
    refine v_iload_n C 0 dL_law_18 rfl ?_
    refine v_aload_n C 1 dL_law_19 rfl ?_
    refine l_slen C hs hbG dL_law_20 ?_
    refine v_bipush C (nI 6) dL_law_21 (by decide) ?_
    refine v_isub C dL_law_23 ?_
    refine v_icmp_gt C 1427 dL_law_24 rfl (fun h => ?_) (fun h => ?_)
    · refine v_iconst C (nI 1) dL_law_1427 (by decide) ?_
      exact hend M _
    · have := lw_cmp hL h hi
      exact absurd hk (by omega)
  | succ k ih =>
    intro i M hi hk hX
    refine v_iload_n C 0 dL_law_18 rfl ?_
    refine v_aload_n C 1 dL_law_19 rfl ?_
    refine l_slen C hs hbG dL_law_20 ?_
    refine v_bipush C (nI 6) dL_law_21 (by decide) ?_
    refine v_isub C dL_law_23 ?_
    refine v_icmp_gt C 1427 dL_law_24 rfl (fun h => ?_) (fun h => ?_)
    · refine v_iconst C (nI 1) dL_law_1427 (by decide) ?_
      exact hend M _
    · have h6 := lw_cmp hL h hi
      refine lw_step hF' h6 hX (fun M2 hX2 => ?_)
      refine v_iinc C (nI (i + 6)) 0 (lwLV G b (i + 6)) dL_law_1421 rfl (show nI i + nI 6 = nI (i + 6) from by rw [nI_add]) (by decide) rfl ?_
      refine v_goto C 18 dL_law_1424 rfl ?_
      exact ih (i + 6) M2 (by omega) (by omega) hX2
theorem lw_end {p : Program} {l : Launch} {e : Env} {s : State} {m : MethodId} {below : List Frame} {meth : Method} {c : Code} {b : Nat} {G : GC} {dk ds : Nat} (hx : p.tables.exec = Jvm.exec) (hb : c.code = code) (hr : meth.sig.returnType = ret) (hlocks : meth.locks = false) (hg : gb G = s.heap.size) (hk : dk ≤ 600000) (hs : ds ≤ 7302250) (M : Mm) (lv : List (Nat × Value)) : Vc (p, l, e, room_1, s, m, #[Value.ref b], below, meth, c, lw_Z below #[Value.ref b] s) G (dk, ds, 221, 1) M 1428 lv [.int (nI 1)] := by
  intro H locs ls hW hS hl
  refine va_forget (fun q hq => by have := hS.2.2 q hq; unfold Ab at this; omega) ?_
  refine W.widen (k := 600000) (n := 7302250) hk hs ?_
  exact lw_ret hx hb hr hlocks dL_law_1428
