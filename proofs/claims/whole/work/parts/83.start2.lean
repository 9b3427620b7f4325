def m0 : Mm := x10M (x9M (fun _ _ => 0))
def y0 : Nat → Int32 := upd (fun _ => 0) 6 (nI 1)
theorem y0_z {j : Nat} (h : j ≠ 6) : y0 j = nI 0 := (if_neg h).trans nI_0.symm
theorem y0_c {j : Nat} (h : j ≠ 6) : cN y0 j = 0 := by
  unfold cN
  rw [y0_z h, nI_clamp (by decide)]
theorem rfs_hi {c i : Nat} (h : 24 ≤ i) : rfs c i = 0 := by
  unfold rfs
  split <;> first | omega | rfl
theorem aLen_hi (s : Nat) : aLen s ≤ 24 := by
  unfold aLen
  split <;> decide
theorem m0_rfd : ∀ k, k < 221 → ∀ i, i < 24 → (shp k < 20 ∧ rfs (shp k) i ≠ 0 ∨ 20 ≤ shp k ∧ shp k < 1000 ∧ i < aLen (shp k)) → m0 k i ≠ 0 := by decide +kernel
theorem m0_refs : RefsOk m0 := fun k i hk hi => by
  rcases Nat.lt_or_ge i 24 with q | q
  · exact m0_rfd k hk i q hi
  · exfalso
    rcases hi with hi | hi
    · exact hi.2 (rfs_hi q)
    · have := aLen_hi (shp k); omega
theorem yCh_hi (M : Mm) {k a : Nat} (h : k + 61 ≤ a) : ∀ i, i ≤ 10 → yCh M k i a = M a
  | 0, _ => rfl
  | i + 1, hi => by
    show up2 (up2 (up2 (up2 (yCh M k i) (k + 20 + 3 * i) 4 (-1)) (k + 20 + 3 * i) 6 (nI 1)) (k + 20 + 3 * i) 7 (nI 1)) (k + 1) i (nI 1) a = _
    rw [up2_ne _ _ _ (by omega), up2_ne _ _ _ (by omega), up2_ne _ _ _ (by omega), up2_ne _ _ _ (by omega), yCh_hi M h i (by omega)]
theorem yHp_hi (M : Mm) {k a : Nat} (h : k + 61 ≤ a) : ∀ i, i ≤ 5 → yHp M k i a = M a
  | 0, _ => rfl
  | i + 1, hi => by
    show up2 (up2 (yHp M k i) (k + 50 + i) 2 (nI 30)) (k + 2) i (nI 1) a = _
    rw [up2_ne _ _ _ (by omega), up2_ne _ _ _ (by omega), yHp_hi M h i (by omega)]
theorem yTx_hi (M : Mm) {k a : Nat} (h : k + 61 ≤ a) : ∀ i, i ≤ 2 → yTx M k i a = M a
  | 0, _ => rfl
  | i + 1, hi => by
    show up2 (up2 (up2 (yTx M k i) (k + 55 + 3 * i) 0 (nI 1)) (k + 55 + 3 * i) 1 (nI 1)) (k + 3) i (nI 1) a = _
    rw [up2_ne _ _ _ (by omega), up2_ne _ _ _ (by omega), up2_ne _ _ _ (by omega), yTx_hi M h i (by omega)]
theorem yB_hi (M : Mm) {k a : Nat} (h : k + 61 ≤ a) : yB M k a = M a := by
  unfold yB
  rw [up2_ne _ _ _ (by omega), mvM_ne _ (by omega), up2_ne _ _ _ (by omega), up2_ne _ _ _ (by omega), up2_ne _ _ _ (by omega), up2_ne _ _ _ (by omega), up2_ne _ _ _ (by omega), up2_ne _ _ _ (by omega), up2_ne _ _ _ (by omega), up2_ne _ _ _ (by omega), up2_ne _ _ _ (by omega)]
theorem yMm_hi (M : Mm) {k a : Nat} (h : k + 61 ≤ a) : yMm M k a = M a := by
  unfold yMm
  rw [yTx_hi _ h 2 (by decide), yHp_hi _ h 5 (by decide), yCh_hi _ h 10 (by decide), yB_hi _ h]
theorem x9Sh_hi (M : Mm) {a : Nat} (h : 205 ≤ a) : ∀ i, i ≤ 4 → x9Sh M i a = M a
  | 0, _ => rfl
  | i + 1, hi => by
    show up2 (up2 (x9Sh M i) (197 + 2 * i) 2 (nI 1)) 195 i (nI 1) a = _
    rw [up2_ne _ _ _ (by omega), up2_ne _ _ _ (by omega), x9Sh_hi M h i (by omega)]
theorem x9M_hi (M : Mm) {a : Nat} (h : 205 ≤ a) : x9M M a = M a := by
  unfold x9M
  rw [x9Sh_hi _ h 4 (by decide)]
  unfold x9B x9S x9R x9F
  rw [up2_ne _ _ _ (by omega), up2_ne _ _ _ (by omega), up2_ne _ _ _ (by omega), up2_ne _ _ _ (by omega), up2_ne _ _ _ (by omega), up2_ne _ _ _ (by omega), up2_ne _ _ _ (by omega), up2_ne _ _ _ (by omega), up2_ne _ _ _ (by omega), up2_ne _ _ _ (by omega), up2_ne _ _ _ (by omega), up2_ne _ _ _ (by omega), up2_ne _ _ _ (by omega), up2_ne _ _ _ (by omega)]
  rw [up2_ne _ _ _ (by omega), yMm_hi _ (by omega), up2_ne _ _ _ (by omega), yMm_hi _ (by omega), up2_ne _ _ _ (by omega), yMm_hi _ (by omega)]
theorem m0_206 : m0 206 = y0 := by
  unfold m0 x10M
  rw [up2_eq, up2_ne _ _ _ (by decide), up2_ne _ _ _ (by decide), up2_ne _ _ _ (by decide), up2_ne _ _ _ (by decide), up2_ne _ _ _ (by decide), up2_ne _ _ _ (by decide), up2_ne _ _ _ (by decide), up2_ne _ _ _ (by decide), up2_ne _ _ _ (by decide), up2_ne _ _ _ (by decide), up2_ne _ _ _ (by decide), up2_ne _ _ _ (by decide), up2_ne _ _ _ (by decide), up2_ne _ _ _ (by decide), up2_ne _ _ _ (by decide), up2_ne _ _ _ (by decide), up2_ne _ _ _ (by decide), x9M_hi _ (by decide)]
  rfl
theorem y0_inv : yInv y0 0 0 := by
  refine ⟨⟨⟨y0_z (by decide), by decide, y0_z (by decide), by decide⟩, fun c hc => absurd hc (Nat.not_lt_zero c), fun c hc => absurd hc (Nat.not_lt_zero c), fun u hu => ⟨0, by decide, y0_z (by omega), fun k hk => absurd hk (Nat.not_lt_zero k), fun h => absurd h (by decide)⟩, ⟨0, by decide, y0_z (by decide)⟩, ⟨0, by decide, y0_z (by decide)⟩⟩, ⟨fun k hk _ => y0_z (by omega), fun k hk => ⟨0, by decide, y0_z (by omega)⟩⟩, fun c hc => absurd hc (Nat.not_lt_zero c), fun c hc => y0_z (by omega), fun c _ hc => y0_z (by omega), fun k hk => ?_, fun k hk => ?_⟩
  · rw [y0_c (by decide)] at hk; exact absurd hk (Nat.not_lt_zero k)
  · rw [y0_c (by decide)] at hk; exact absurd hk (Nat.not_lt_zero k)
theorem m0_yr : YR m0 1 y0 0 0 := by
  unfold YR yrA yrB yrC yrD yrE yrF yrG yrH yrI
  exact ⟨by decide +kernel, by decide +kernel, by decide +kernel, by decide +kernel, by decide +kernel, by decide +kernel, by decide +kernel, by decide +kernel, by decide +kernel⟩
theorem m0_e : ∀ k, k < 7 → m0 196 k = m0 209 k := by decide +kernel
theorem m0_sh : shR m0 (m0 217) (m0 218) (m0 219) := by
  unfold shR
  decide +kernel
theorem m0_217 : ∀ s, s < 4 → m0 217 s = 0 := by decide +kernel
theorem m0_218 : ∀ s, s < 4 → m0 218 s = nI 0 := by decide +kernel
theorem m0_rel : RelX m0 := by
  refine ⟨0, 0, 0, 0, ⟨?_, ?_⟩, ⟨by decide +kernel, fun z => absurd (show m0 0 8 = 0 by decide +kernel) z⟩, fun k h1 h2 => m0_e k (by omega), ⟨0, by decide, by decide +kernel, by decide +kernel, fun i hi => absurd hi (Nat.not_lt_zero i)⟩, ⟨m0_sh, fun s hs => ⟨0, by decide, m0_218 s hs⟩, fun s hs => Or.inl (m0_217 s hs)⟩, by decide +kernel, by decide +kernel⟩
  · rw [m0_206]; exact m0_yr
  · rw [m0_206]; exact y0_inv
