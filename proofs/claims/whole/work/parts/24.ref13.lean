def bthA (Y : Nat → Int32) (n c : Nat) : Nat → Nat
  | 0 => 0
  | o + 1 => bthA Y n c o + (if (slM Y n c).testBit o = true ∧ (slM Y n o).testBit c = true then 2 ^ o else 0)
theorem bthA_lt (Y : Nat → Int32) (n c : Nat) : ∀ o, bthA Y n c o < 2 ^ o
  | 0 => Nat.zero_lt_one
  | o + 1 => by
    have h1 := bthA_lt Y n c o
    have h2 : 2 ^ (o + 1) = 2 ^ o + 2 ^ o := by rw [Nat.pow_succ]; omega
    unfold bthA
    split <;> omega
def bothM (Y : Nat → Int32) (n c : Nat) : Nat := bthA Y n c n
theorem bothM_lt (Y : Nat → Int32) {n : Nat} (c : Nat) (hn : n ≤ 10) : bothM Y n c < 1024 := Nat.lt_of_lt_of_le (bthA_lt Y n c n) (Nat.pow_le_pow_right (by decide) hn)
def slOk (Y : Nat → Int32) (n : Nat) (X : Mm) : Prop := ∀ o, o < n → X 215 o = nI (slM Y n o)
def rgO (Y : Nat → Int32) (n was : Nat) : Nat → Nat
  | 0 => was
  | o + 1 => rgO Y n was o ||| (if was.testBit o = true then bothM Y n o else 0)
def rgS (Y : Nat → Int32) (n was : Nat) : Nat := rgO Y n was n
theorem rgO_ge (Y : Nat → Int32) (n was : Nat) : ∀ o, was ≤ rgO Y n was o
  | 0 => Nat.le_refl _
  | o + 1 => Nat.le_trans (rgO_ge Y n was o) Nat.left_le_or
theorem rgO_lt (Y : Nat → Int32) {n was : Nat} (hn : n ≤ 10) (hw : was < 1024) : ∀ o, rgO Y n was o < 1024
  | 0 => hw
  | o + 1 => by
    unfold rgO
    refine Nat.or_lt_two_pow (n := 10) (rgO_lt Y hn hw o) ?_
    split
    · exact bothM_lt Y o hn
    · decide
def itR (Y : Nat → Int32) (n c : Nat) : Nat → Nat
  | 0 => 2 ^ c
  | k + 1 => rgS Y n (itR Y n c k)
theorem itR_lt (Y : Nat → Int32) {n c : Nat} (hn : n ≤ 10) (hc : c < 10) : ∀ k, itR Y n c k < 1024
  | 0 => Nat.lt_of_lt_of_le (Nat.pow_lt_pow_right (by decide) hc) (by decide)
  | k + 1 => rgO_lt Y hn (itR_lt Y hn hc k) n
theorem itR_stay {Y : Nat → Int32} {n c k : Nat} (h : itR Y n c (k + 1) = itR Y n c k) : ∀ j, itR Y n c (k + j) = itR Y n c k
  | 0 => rfl
  | j + 1 => by
    have h1 := itR_stay h j
    show rgS Y n (itR Y n c (k + j)) = _
    rw [h1]; exact h
def ringM (Y : Nat → Int32) (n c : Nat) : Nat := itR Y n c 1024
theorem ringM_lt (Y : Nat → Int32) {n c : Nat} (hn : n ≤ 10) (hc : c < 10) : ringM Y n c < 1024 := itR_lt Y hn hc 1024
theorem ring_at {Y : Nat → Int32} {n c k : Nat} (hk : k ≤ 1024) (h : itR Y n c (k + 1) = itR Y n c k) : itR Y n c k = ringM Y n c := by
  have h1 := itR_stay h (1024 - k)
  rw [show k + (1024 - k) = 1024 by omega] at h1
  exact h1.symm
theorem nI_or0 (m : Nat) : nI m ||| nI 0 = nI m := or_nI0 _

set_option maxHeartbeats 4000000 in
set_option maxRecDepth 100000 in
theorem r_findSlips (l : Launch) (G : GC) (M : Mm) (Y : Nat → Int32) (n : Nat) (hn : Y 0 = nI n) (hn2 : n ≤ 10) : CV l G 3 yX10_findSlips cX10_findSlips 2 [.ref (gb G + 205)] (upA M 206 Y) (fun M' => ∃ X, M' = upA X 206 Y ∧ ex15 M X ∧ slOk Y n X) := by
  refine Con.of (by decide +kernel) (Nat.le_of_ble_eq_true rfl) ?_
  intro f C hRm hRt _
  have LS : ∀ (kk : Nat) (c : Nat) (X : Mm), n - c = kk → c ≤ n → ex15 M X → ((∀ o, o < c → X 215 o = nI (slM Y n o))) → Vc f G NPh (upA X 206 Y) 2 [(1, .int (nI c)), (0, .ref (gb G + 205))] [] := by
    intro kk
    induction kk using Nat.strongRecOn with
    | _ kk ihLS =>
      intro c X hkk hc hX hs
      refine v_iload_n C 0 dX10_findSlips_2 rfl ?_
      refine v_aload_n C 1 dX10_findSlips_3 rfl ?_
      refine g_X10_9 C (by decide) sh_205 dX10_findSlips_4 ?_
      refine v_iconst C (nI 0) dX10_findSlips_7 (by decide) ?_
      refine n_now_ld C (by decide) sh_206 (by omega) (by decide) dX10_findSlips_8 ?_
      refine v_top (nI n) hn ?_
      refine n_icmp_ge C (by omega) (by omega) 29 dX10_findSlips_9 rfl (fun h_9 => ?_) (fun h_9 => ?_)
      · skip
        exact n_ret C hRt dX10_findSlips_29 ⟨X, rfl, hX, fun o ho => hs o (by omega)⟩
      · skip
        refine v_aload_n C 1 dX10_findSlips_12 rfl ?_
        refine g_X10_44 C (by decide) sh_205 dX10_findSlips_13 ?_
        refine v_iload_n C 0 dX10_findSlips_16 rfl ?_
        refine v_aload_n C 1 dX10_findSlips_17 rfl ?_
        refine v_iload_n C 0 dX10_findSlips_18 rfl ?_
        refine n_callVp C hRm [.int (nI c)] cw_X10_slipOf ml_X10_89 (by decide) sh_205 (by decide) rfl (r_slipOf l G X Y n hn hn2 c (by omega)) (by decide) rfl rfl (Nat.le_of_ble_eq_true rfl) dX10_findSlips_19 ?_
        refine v_iast C (by decide) sh_215 (by omega) (by decide) dX10_findSlips_22 ?_
        refine v_mem (upA (up2 X 215 c (nI (slM Y n c))) 206 Y) (up2_upA_ne _ _ _ _ (by decide)) ?_
        refine v_iinc C (nI (c + 1)) 0 [(1, .int (nI (c + 1))), (0, .ref (gb G + 205))] dX10_findSlips_23 rfl (nI_add _ _) (by decide) rfl ?_
        refine v_goto C 2 dX10_findSlips_26 rfl ?_
        refine v_sub [0, 1] [(1, .int (nI (c + 1))), (0, .ref (gb G + 205))] rfl ?_
        exact ihLS _ (by omega) (c + 1) (up2 X 215 c (nI (slM Y n c)))  rfl (by omega) (by exact hX.up _ _) (by intro o ho; by_cases h9 : o = c; (subst h9; exact up2_at _ _ _ _); exact (up2_at_ne _ _ h9).trans (hs o (by omega)))
  show Vc f G NPh (upA M 206 Y) 0 [(0, .ref (gb G + 205))] []
  refine v_iconst C (nI 0) dX10_findSlips_0 (by decide) ?_
  refine v_istore_n C [(1, .int (nI 0)), (0, .ref (gb G + 205))] dX10_findSlips_1 rfl (by decide) rfl ?_
  refine v_sub [0, 1] [(1, .int (nI 0)), (0, .ref (gb G + 205))] rfl ?_
  exact LS _ 0 M  rfl (by omega) (by exact ex15.rf M) (by exact fun o ho => absurd ho (Nat.not_lt_zero _))
set_option maxHeartbeats 4000000 in
set_option maxRecDepth 100000 in
theorem r_bothOf (l : Launch) (G : GC) (M : Mm) (Y : Nat → Int32) (n : Nat) (hn : Y 0 = nI n) (hn2 : n ≤ 10) (hsl : slOk Y n M) (c : Nat) (hc : c < n) : CP l G 2 yX10_bothOf cX10_bothOf 4 .int [.ref (gb G + 205), .int (nI c)] (upA M 206 Y) (nI (bothM Y n c)) := by
  refine Con.of (by decide +kernel) (Nat.le_of_ble_eq_true rfl) ?_
  intro f C hRm hRt _
  have LB : ∀ (kk : Nat) (o : Nat) (b : Nat), n - o = kk → o ≤ n → b = bthA Y n c o → Vc f G NPh (upA M 206 Y) 4 [(3, .int (nI o)), (2, .int (nI b)), (0, .ref (gb G + 205)), (1, .int (nI c))] [] := by
    intro kk
    induction kk using Nat.strongRecOn with
    | _ kk ihLB =>
      intro o b hkk ho hb
      refine v_iload_n C 0 dX10_bothOf_4 rfl ?_
      refine v_aload_n C 2 dX10_bothOf_5 rfl ?_
      refine g_X10_9 C (by decide) sh_205 dX10_bothOf_6 ?_
      refine v_iconst C (nI 0) dX10_bothOf_9 (by decide) ?_
      refine n_now_ld C (by decide) sh_206 (by omega) (by decide) dX10_bothOf_10 ?_
      refine v_top (nI n) hn ?_
      refine n_icmp_ge C (by omega) (by omega) 56 dX10_bothOf_11 rfl (fun h_11 => ?_) (fun h_11 => ?_)
      · skip
        refine v_iload_n C 1 dX10_bothOf_56 rfl ?_
        (have h5 : o = n := (by omega)); subst h5; subst hb
        exact n_iret C hRt rfl dX10_bothOf_57 rfl rfl
      · skip
        refine v_iload_n C 1 dX10_bothOf_14 rfl ?_
        refine v_aload_n C 2 dX10_bothOf_15 rfl ?_
        refine g_X10_44 C (by decide) sh_205 dX10_bothOf_16 ?_
        refine v_iload_n C 3 dX10_bothOf_19 rfl ?_
        refine v_iald C (by decide) sh_215 (by omega) (by decide) dX10_bothOf_20 ?_
        refine v_top (M 215 c) (congrFun (upA_ne M Y (by decide)) _) ?_
        refine v_top (nI (slM Y n c)) (hsl c (by omega)) ?_
        refine v_iload_n C 0 dX10_bothOf_21 rfl ?_
        refine n_callSp C hRm [.int (nI (slM Y n c)), .int (nI o)] cw_X10_hasBit st_X10_hasBit ml_X10_127 (r_hasBitN l G (upA M 206 Y) (slM Y n c) o (slM_lt Y _ hn2) (by omega)) (by decide) rfl rfl (Nat.le_of_ble_eq_true rfl) dX10_bothOf_22 ?_
        refine nb_if_eq C 47 dX10_bothOf_25 rfl (fun h_25 => ?_) (fun h_25 => ?_)
        · skip
          refine v_iconst C (nI 0) dX10_bothOf_47 (by decide) ?_
          refine v_ior C dX10_bothOf_48 ?_
          refine v_top (nI b) (or_nI0 _) ?_
          refine v_istore_n C [(2, .int (nI b)), (3, .int (nI o)), (0, .ref (gb G + 205)), (1, .int (nI c))] dX10_bothOf_49 rfl (by decide) rfl ?_
          refine v_iinc C (nI (o + 1)) 1 [(3, .int (nI (o + 1))), (2, .int (nI b)), (0, .ref (gb G + 205)), (1, .int (nI c))] dX10_bothOf_50 rfl (nI_add _ _) (by decide) rfl ?_
          refine v_goto C 4 dX10_bothOf_53 rfl ?_
          refine v_sub [0, 1, 2, 3] [(3, .int (nI (o + 1))), (2, .int (nI b)), (0, .ref (gb G + 205)), (1, .int (nI c))] rfl ?_
          exact ihLB _ (by omega) (o + 1) b  rfl (by omega) (by subst hb; simp only [bthA]; (rw [if_neg (fun q => h_25 (And.left q))]; rfl))
        · skip
          refine v_aload_n C 2 dX10_bothOf_28 rfl ?_
          refine g_X10_44 C (by decide) sh_205 dX10_bothOf_29 ?_
          refine v_iload_n C 0 dX10_bothOf_32 rfl ?_
          refine v_iald C (by decide) sh_215 (by omega) (by decide) dX10_bothOf_33 ?_
          refine v_top (M 215 o) (congrFun (upA_ne M Y (by decide)) _) ?_
          refine v_top (nI (slM Y n o)) (hsl o (by omega)) ?_
          refine v_iload_n C 3 dX10_bothOf_34 rfl ?_
          refine n_callSp C hRm [.int (nI (slM Y n o)), .int (nI c)] cw_X10_hasBit st_X10_hasBit ml_X10_127 (r_hasBitN l G (upA M 206 Y) (slM Y n o) c (slM_lt Y _ hn2) (by omega)) (by decide) rfl rfl (Nat.le_of_ble_eq_true rfl) dX10_bothOf_35 ?_
          refine nb_if_eq C 47 dX10_bothOf_38 rfl (fun h_38 => ?_) (fun h_38 => ?_)
          · skip
            refine v_iconst C (nI 0) dX10_bothOf_47 (by decide) ?_
            refine v_ior C dX10_bothOf_48 ?_
            refine v_top (nI b) (or_nI0 _) ?_
            refine v_istore_n C [(2, .int (nI b)), (3, .int (nI o)), (0, .ref (gb G + 205)), (1, .int (nI c))] dX10_bothOf_49 rfl (by decide) rfl ?_
            refine v_iinc C (nI (o + 1)) 1 [(3, .int (nI (o + 1))), (2, .int (nI b)), (0, .ref (gb G + 205)), (1, .int (nI c))] dX10_bothOf_50 rfl (nI_add _ _) (by decide) rfl ?_
            refine v_goto C 4 dX10_bothOf_53 rfl ?_
            refine v_sub [0, 1, 2, 3] [(3, .int (nI (o + 1))), (2, .int (nI b)), (0, .ref (gb G + 205)), (1, .int (nI c))] rfl ?_
            exact ihLB _ (by omega) (o + 1) b  rfl (by omega) (by subst hb; simp only [bthA]; (rw [if_neg (fun q => h_38 (And.right q))]; rfl))
          · skip
            refine v_iconst C (nI 1) dX10_bothOf_41 (by decide) ?_
            refine v_iload_n C 0 dX10_bothOf_42 rfl ?_
            refine v_ishl C dX10_bothOf_43 ?_
            refine v_goto C 48 dX10_bothOf_44 rfl ?_
            refine v_ior C dX10_bothOf_48 ?_
            refine v_top (nI (b + 2 ^ o)) (or_bit o (by omega) b (hb ▸ bthA_lt Y n c o)) ?_
            refine v_istore_n C [(2, .int (nI (b + 2 ^ o))), (3, .int (nI o)), (0, .ref (gb G + 205)), (1, .int (nI c))] dX10_bothOf_49 rfl (by decide) rfl ?_
            refine v_iinc C (nI (o + 1)) 1 [(3, .int (nI (o + 1))), (2, .int (nI (b + 2 ^ o))), (0, .ref (gb G + 205)), (1, .int (nI c))] dX10_bothOf_50 rfl (nI_add _ _) (by decide) rfl ?_
            refine v_goto C 4 dX10_bothOf_53 rfl ?_
            refine v_sub [0, 1, 2, 3] [(3, .int (nI (o + 1))), (2, .int (nI (b + 2 ^ o))), (0, .ref (gb G + 205)), (1, .int (nI c))] rfl ?_
            exact ihLB _ (by omega) (o + 1) (b + 2 ^ o)  rfl (by omega) (by subst hb; simp only [bthA]; rw [if_pos (And.intro h_25 h_38)])
  show Vc f G NPh (upA M 206 Y) 0 [(0, .ref (gb G + 205)), (1, .int (nI c))] []
  refine v_iconst C (nI 0) dX10_bothOf_0 (by decide) ?_
  refine v_istore_n C [(2, .int (nI 0)), (0, .ref (gb G + 205)), (1, .int (nI c))] dX10_bothOf_1 rfl (by decide) rfl ?_
  refine v_iconst C (nI 0) dX10_bothOf_2 (by decide) ?_
  refine v_istore_n C [(3, .int (nI 0)), (2, .int (nI 0)), (0, .ref (gb G + 205)), (1, .int (nI c))] dX10_bothOf_3 rfl (by decide) rfl ?_
  refine v_sub [0, 1, 2, 3] [(3, .int (nI 0)), (2, .int (nI 0)), (0, .ref (gb G + 205)), (1, .int (nI c))] rfl ?_
  exact LB _ 0 0  rfl (by omega) (by rfl)
set_option maxHeartbeats 4000000 in
set_option maxRecDepth 100000 in
theorem r_ringOf (l : Launch) (G : GC) (M : Mm) (Y : Nat → Int32) (n : Nat) (hn : Y 0 = nI n) (hn2 : n ≤ 10) (hsl : slOk Y n M) (c : Nat) (hc : c < n) : CP l G 3 yX10_ringOf cX10_ringOf 5 .int [.ref (gb G + 205), .int (nI c)] (upA M 206 Y) (nI (ringM Y n c)) := by
  refine Con.of (by decide +kernel) (Nat.le_of_ble_eq_true rfl) ?_
  intro f C hRm hRt _
  have LO : ∀ (kw : Nat) (k : Nat) (r0 : Nat) (u0 : Nat), 1024 - u0 = kw → k ≤ 1024 → r0 = itR Y n c k → (k = 0 ∧ u0 = 0 ∨ 1 ≤ k ∧ u0 = itR Y n c (k - 1) ∧ k ≤ u0) → Vc f G NPh (upA M 206 Y) 6 [(2, .int (nI r0)), (3, .int (nI u0)), (0, .ref (gb G + 205)), (1, .int (nI c))] [] := by
    intro kw
    induction kw using Nat.strongRecOn with
    | _ kw ihLO =>
      intro k r0 u0 hkw hk hr0 hu0
      have hr9 : r0 < 1024 := hr0 ▸ itR_lt Y hn2 (by omega) k
      have hge : u0 ≤ r0 := by
        rcases hu0 with ⟨h1, h2⟩ | ⟨h1, h2, h3⟩
        · omega
        · rw [h2, hr0]; obtain ⟨k1, rfl⟩ : ∃ k1, k = k1 + 1 := ⟨k - 1, by omega⟩
          exact rgO_ge Y n _ n
      have hu9 : u0 < 1024 := by omega
      have hinner : ¬ r0 = u0 → Vc f G NPh (upA M 206 Y) 16 [(4, .int (nI 0)), (2, .int (nI r0)), (3, .int (nI r0)), (0, .ref (gb G + 205)), (1, .int (nI c))] [] := by
        intro hne
        have hlt9 : u0 < r0 := by omega
        have hk9 : k + 1 ≤ r0 := by
          rcases hu0 with ⟨h1, h2⟩ | ⟨h1, h2, h3⟩ <;> omega
        have LI : ∀ (kk : Nat) (o : Nat) (r : Nat), n - o = kk → o ≤ n → r = rgO Y n r0 o → Vc f G NPh (upA M 206 Y) 16 [(4, .int (nI o)), (2, .int (nI r)), (3, .int (nI r0)), (0, .ref (gb G + 205)), (1, .int (nI c))] [] := by
          intro kk
          induction kk using Nat.strongRecOn with
          | _ kk ihLI =>
            intro o r hkk ho hr
            refine v_iload C 0 dX10_ringOf_16 rfl ?_
            refine v_aload_n C 3 dX10_ringOf_18 rfl ?_
            refine g_X10_9 C (by decide) sh_205 dX10_ringOf_19 ?_
            refine v_iconst C (nI 0) dX10_ringOf_22 (by decide) ?_
            refine n_now_ld C (by decide) sh_206 (by omega) (by decide) dX10_ringOf_23 ?_
            refine v_top (nI n) hn ?_
            refine n_icmp_ge C (by omega) (by omega) 55 dX10_ringOf_24 rfl (fun h_24 => ?_) (fun h_24 => ?_)
            · skip
              refine v_goto C 6 dX10_ringOf_55 rfl ?_
              refine v_sub [1, 2, 3, 4] [(2, .int (nI r)), (3, .int (nI r0)), (0, .ref (gb G + 205)), (1, .int (nI c))] rfl ?_
              exact ihLO _ (by omega) (k + 1) r r0  rfl (by omega) (by rw [hr, show o = n by omega, hr0]; rfl) (by refine Or.inr ⟨by omega, by rw [hr0]; rfl, ?_⟩; omega)
            · skip
              refine v_iload_n C 1 dX10_ringOf_27 rfl ?_
              refine v_iload_n C 2 dX10_ringOf_28 rfl ?_
              refine v_iload C 0 dX10_ringOf_29 rfl ?_
              refine n_callSp C hRm [.int (nI r0), .int (nI o)] cw_X10_hasBit st_X10_hasBit ml_X10_127 (r_hasBitN l G (upA M 206 Y) r0 o hr9 (by omega)) (by decide) rfl rfl (Nat.le_of_ble_eq_true rfl) dX10_ringOf_31 ?_
              refine nb_if_eq C 46 dX10_ringOf_34 rfl (fun h_34 => ?_) (fun h_34 => ?_)
              · skip
                refine v_iconst C (nI 0) dX10_ringOf_46 (by decide) ?_
                refine v_ior C dX10_ringOf_47 ?_
                refine v_top (nI r) (or_nI0 _) ?_
                refine v_istore_n C [(2, .int (nI r)), (4, .int (nI o)), (3, .int (nI r0)), (0, .ref (gb G + 205)), (1, .int (nI c))] dX10_ringOf_48 rfl (by decide) rfl ?_
                refine v_iinc C (nI (o + 1)) 1 [(4, .int (nI (o + 1))), (2, .int (nI r)), (3, .int (nI r0)), (0, .ref (gb G + 205)), (1, .int (nI c))] dX10_ringOf_49 rfl (nI_add _ _) (by decide) rfl ?_
                refine v_goto C 16 dX10_ringOf_52 rfl ?_
                refine v_sub [0, 1, 2, 3, 4] [(4, .int (nI (o + 1))), (2, .int (nI r)), (3, .int (nI r0)), (0, .ref (gb G + 205)), (1, .int (nI c))] rfl ?_
                exact ihLI _ (by omega) (o + 1) r  rfl (by omega) (by subst hr; simp only [rgO]; first | rw [if_pos h_34] | (rw [if_neg h_34, Nat.or_zero]))
              · skip
                refine v_aload_n C 3 dX10_ringOf_37 rfl ?_
                refine v_iload C 0 dX10_ringOf_38 rfl ?_
                refine n_callVp C hRm [.int (nI o)] cw_X10_bothOf ml_X10_264 (by decide) sh_205 (by decide) rfl (r_bothOf l G M Y n hn hn2 hsl o (by omega)) (by decide) rfl rfl (Nat.le_of_ble_eq_true rfl) dX10_ringOf_40 ?_
                refine v_goto C 47 dX10_ringOf_43 rfl ?_
                refine v_ior C dX10_ringOf_47 ?_
                refine v_top (nI (r ||| bothM Y n o)) (nI_or _ _) ?_
                refine v_istore_n C [(2, .int (nI (r ||| bothM Y n o))), (4, .int (nI o)), (3, .int (nI r0)), (0, .ref (gb G + 205)), (1, .int (nI c))] dX10_ringOf_48 rfl (by decide) rfl ?_
                refine v_iinc C (nI (o + 1)) 1 [(4, .int (nI (o + 1))), (2, .int (nI (r ||| bothM Y n o))), (3, .int (nI r0)), (0, .ref (gb G + 205)), (1, .int (nI c))] dX10_ringOf_49 rfl (nI_add _ _) (by decide) rfl ?_
                refine v_goto C 16 dX10_ringOf_52 rfl ?_
                refine v_sub [0, 1, 2, 3, 4] [(4, .int (nI (o + 1))), (2, .int (nI (r ||| bothM Y n o))), (3, .int (nI r0)), (0, .ref (gb G + 205)), (1, .int (nI c))] rfl ?_
                exact ihLI _ (by omega) (o + 1) (r ||| bothM Y n o)  rfl (by omega) (by subst hr; simp only [rgO]; first | rw [if_pos h_34] | (rw [if_neg h_34, Nat.or_zero]))
        exact LI _ 0 r0 rfl (Nat.zero_le _) rfl
      refine v_iload_n C 0 dX10_ringOf_6 rfl ?_
      refine v_iload_n C 1 dX10_ringOf_7 rfl ?_
      refine n_icmp_eq C (by omega) (by omega) 58 dX10_ringOf_8 rfl (fun h_8 => ?_) (fun h_8 => ?_)
      · skip
        refine v_iload_n C 0 dX10_ringOf_58 rfl ?_
        have hz : itR Y n c k = ringM Y n c := by
          rcases hu0 with ⟨h1, h2⟩ | ⟨h1, h2, h3⟩
          · have hp : 0 < r0 := by rw [hr0, h1]; exact Nat.two_pow_pos c
            omega
          · obtain ⟨k1, rfl⟩ : ∃ k1, k = k1 + 1 := ⟨k - 1, by omega⟩
            have h4 : itR Y n c (k1 + 1) = itR Y n c k1 := by rw [← hr0, h_8]; exact h2
            rw [h4]; exact ring_at (by omega) h4
        exact n_iret C hRt rfl dX10_ringOf_59 (by rw [hr0, hz]) rfl
      · skip
        refine v_iload_n C 0 dX10_ringOf_11 rfl ?_
        refine v_istore_n C [(3, .int (nI r0)), (2, .int (nI r0)), (0, .ref (gb G + 205)), (1, .int (nI c))] dX10_ringOf_12 rfl (by decide) rfl ?_
        refine v_iconst C (nI 0) dX10_ringOf_13 (by decide) ?_
        refine v_istore C [(4, .int (nI 0)), (3, .int (nI r0)), (2, .int (nI r0)), (0, .ref (gb G + 205)), (1, .int (nI c))] dX10_ringOf_14 (by decide) rfl ?_
        refine v_sub [0, 2, 1, 3, 4] [(4, .int (nI 0)), (2, .int (nI r0)), (3, .int (nI r0)), (0, .ref (gb G + 205)), (1, .int (nI c))] rfl ?_
        exact hinner h_8
  show Vc f G NPh (upA M 206 Y) 0 [(0, .ref (gb G + 205)), (1, .int (nI c))] []
  refine v_iconst C (nI 1) dX10_ringOf_0 (by decide) ?_
  refine v_iload_n C 1 dX10_ringOf_1 rfl ?_
  refine v_ishl C dX10_ringOf_2 ?_
  refine v_top (nI (2 ^ c)) (sh1_pow c (by omega)) ?_
  refine v_istore_n C [(2, .int (nI (2 ^ c))), (0, .ref (gb G + 205)), (1, .int (nI c))] dX10_ringOf_3 rfl (by decide) rfl ?_
  refine v_iconst C (nI 0) dX10_ringOf_4 (by decide) ?_
  refine v_istore_n C [(3, .int (nI 0)), (2, .int (nI (2 ^ c))), (0, .ref (gb G + 205)), (1, .int (nI c))] dX10_ringOf_5 rfl (by decide) rfl ?_
  refine v_sub [1, 0, 2, 3] [(2, .int (nI (2 ^ c))), (3, .int (nI 0)), (0, .ref (gb G + 205)), (1, .int (nI c))] rfl ?_
  exact LO _ 0 (2 ^ c) 0 rfl (by omega) rfl (Or.inl ⟨rfl, rfl⟩)
def bothS (Y : Nat → Int32) (n : Nat) (child : Int32) : O3 := if nI 0 ≤ child ∧ child ≤ Y 0 - nI 1 then (0, nI (bothM Y n child.toNatClampNeg), Y) else er 1 Y
def ringS (Y : Nat → Int32) (n : Nat) (child : Int32) : O3 := if nI 0 ≤ child ∧ child ≤ Y 0 - nI 1 then (0, nI (ringM Y n child.toNatClampNeg), Y) else er 1 Y
set_option maxHeartbeats 4000000 in
set_option maxRecDepth 100000 in
theorem r_both (l : Launch) (G : GC) (M : Mm) (Y : Nat → Int32) (n hN : Nat) (hY : YOk Y n hN) (child : Int32) : CI l G 4 yX10_both_ cX10_both_ 2 .int [.ref (gb G + 205), .int child] (upA M 206 Y) ((bothS Y n child).2.1) (PubR M (bothS Y n child).2.2 (bothS Y n child).1) := by
  refine Con.of (by decide +kernel) (Nat.le_of_ble_eq_true rfl) ?_
  intro f C hRm hRt _
  show Vc f G NPh (upA M 206 Y) 0 [(0, .ref (gb G + 205)), (1, .int child)] []
  have h10 := hY.1.2.1
  have h5N := hY.1.2.2.2
  refine v_aload_n C 0 dX10_both__0 rfl ?_
  refine v_iload_n C 1 dX10_both__1 rfl ?_
  refine v_iconst C (nI 0) dX10_both__2 (by decide) ?_
  refine n_callVp C hRm [.int child, .int (nI 0)] cw_X10_is ml_X10_95 (by decide) sh_205 (by decide) rfl (r_is l G M Y child 0 (by decide)) (by decide) rfl rfl (Nat.le_of_ble_eq_true rfl) dX10_both__3 ?_
  refine nb_if_ne C 16 dX10_both__6 rfl (fun h_6 => ?_) (fun h_6 => ?_)
  · skip
    obtain ⟨c, hc, rfl⟩ := is_nat hY.1.1 hY.1.2.1 h_6
    refine v_aload_n C 0 dX10_both__16 rfl ?_
    refine n_callVv C hRm [] cw_X10_findSlips ml_X10_261 (by decide) sh_205 (by decide) rfl (r_findSlips l G M Y n hY.1.1 hY.1.2.1) (by decide) rfl rfl (Nat.le_of_ble_eq_true rfl) dX10_both__17 (fun M5 hP_17 => ?_)
    obtain ⟨X7, rfl, hX7, hsl⟩ := hP_17
    refine v_aload_n C 0 dX10_both__20 rfl ?_
    refine v_iload_n C 1 dX10_both__21 rfl ?_
    refine n_callVp C hRm [.int (nI c)] cw_X10_bothOf ml_X10_264 (by decide) sh_205 (by decide) rfl (r_bothOf l G X7 Y n hY.1.1 hY.1.2.1 hsl c (by omega)) (by decide) rfl rfl (Nat.le_of_ble_eq_true rfl) dX10_both__22 ?_
    have hS : bothS Y n (nI c) = (0, nI (bothM Y n c), Y) := by unfold bothS; (try rw [nI_clamp (by omega)]); (try rw [nI_clamp (by omega)]); (first | rw [if_pos h_6] | rw [if_neg h_6] | rw [if_pos (congrArg nI h_6)] | rw [if_neg (fun q9 => h_6 ((nI_eq (by omega) (by omega)).mp q9))] | rw [if_neg (Nat.not_le.mpr h_6)] | rw [if_neg (Nat.not_lt.mpr h_6)] | skip); all_goals rfl
    exact n_iret C hRt rfl dX10_both__25 (by rw [hS] <;> rfl) (by rw [hS]; exact ⟨_, rfl, eqM.of15 hX7⟩)
  · skip
    refine v_aload_n C 0 dX10_both__9 rfl ?_
    refine v_ldc C (-1000001) kc_X10_80 dX10_both__10 ?_
    refine n_callVi C hRm [.int (-1000001)] cw_X10_finding ml_X10_81 (by decide) sh_205 (by decide) rfl (r_finding l G (upA M 206 Y) 1 (by decide) (-1000001) (by decide)) (by decide) rfl rfl (Nat.le_of_ble_eq_true rfl) dX10_both__12 (fun M5 hP_12 => ?_)
    subst hP_12
    refine v_mem (upA (fndM M 1) 206 Y) (fnd_upA _ _ _) ?_
    have hS : bothS Y n child = er 1 Y := by unfold bothS; (try rw [nI_clamp (by omega)]); (try rw [nI_clamp (by omega)]); (first | rw [if_pos h_6] | rw [if_neg h_6] | rw [if_pos (congrArg nI h_6)] | rw [if_neg (fun q9 => h_6 ((nI_eq (by omega) (by omega)).mp q9))] | rw [if_neg (Nat.not_le.mpr h_6)] | rw [if_neg (Nat.not_lt.mpr h_6)] | skip); all_goals rfl
    exact n_iret C hRt rfl dX10_both__15 (by rw [hS] <;> rfl) (by rw [hS]; exact ⟨_, rfl, (eqM.rf M).tr (eqM.fnd _ (show (1 : Nat) ≠ 0 by decide))⟩)
set_option maxHeartbeats 4000000 in
set_option maxRecDepth 100000 in
theorem r_ring (l : Launch) (G : GC) (M : Mm) (Y : Nat → Int32) (n hN : Nat) (hY : YOk Y n hN) (child : Int32) : CI l G 4 yX10_ring cX10_ring 2 .int [.ref (gb G + 205), .int child] (upA M 206 Y) ((ringS Y n child).2.1) (PubR M (ringS Y n child).2.2 (ringS Y n child).1) := by
  refine Con.of (by decide +kernel) (Nat.le_of_ble_eq_true rfl) ?_
  intro f C hRm hRt _
  show Vc f G NPh (upA M 206 Y) 0 [(0, .ref (gb G + 205)), (1, .int child)] []
  have h10 := hY.1.2.1
  have h5N := hY.1.2.2.2
  refine v_aload_n C 0 dX10_ring_0 rfl ?_
  refine v_iload_n C 1 dX10_ring_1 rfl ?_
  refine v_iconst C (nI 0) dX10_ring_2 (by decide) ?_
  refine n_callVp C hRm [.int child, .int (nI 0)] cw_X10_is ml_X10_95 (by decide) sh_205 (by decide) rfl (r_is l G M Y child 0 (by decide)) (by decide) rfl rfl (Nat.le_of_ble_eq_true rfl) dX10_ring_3 ?_
  refine nb_if_ne C 16 dX10_ring_6 rfl (fun h_6 => ?_) (fun h_6 => ?_)
  · skip
    obtain ⟨c, hc, rfl⟩ := is_nat hY.1.1 hY.1.2.1 h_6
    refine v_aload_n C 0 dX10_ring_16 rfl ?_
    refine n_callVv C hRm [] cw_X10_findSlips ml_X10_261 (by decide) sh_205 (by decide) rfl (r_findSlips l G M Y n hY.1.1 hY.1.2.1) (by decide) rfl rfl (Nat.le_of_ble_eq_true rfl) dX10_ring_17 (fun M5 hP_17 => ?_)
    obtain ⟨X7, rfl, hX7, hsl⟩ := hP_17
    refine v_aload_n C 0 dX10_ring_20 rfl ?_
    refine v_iload_n C 1 dX10_ring_21 rfl ?_
    refine n_callVp C hRm [.int (nI c)] cw_X10_ringOf ml_X10_267 (by decide) sh_205 (by decide) rfl (r_ringOf l G X7 Y n hY.1.1 hY.1.2.1 hsl c (by omega)) (by decide) rfl rfl (Nat.le_of_ble_eq_true rfl) dX10_ring_22 ?_
    have hS : ringS Y n (nI c) = (0, nI (ringM Y n c), Y) := by unfold ringS; (try rw [nI_clamp (by omega)]); (try rw [nI_clamp (by omega)]); (first | rw [if_pos h_6] | rw [if_neg h_6] | rw [if_pos (congrArg nI h_6)] | rw [if_neg (fun q9 => h_6 ((nI_eq (by omega) (by omega)).mp q9))] | rw [if_neg (Nat.not_le.mpr h_6)] | rw [if_neg (Nat.not_lt.mpr h_6)] | skip); all_goals rfl
    exact n_iret C hRt rfl dX10_ring_25 (by rw [hS] <;> rfl) (by rw [hS]; exact ⟨_, rfl, eqM.of15 hX7⟩)
  · skip
    refine v_aload_n C 0 dX10_ring_9 rfl ?_
    refine v_ldc C (-1000001) kc_X10_80 dX10_ring_10 ?_
    refine n_callVi C hRm [.int (-1000001)] cw_X10_finding ml_X10_81 (by decide) sh_205 (by decide) rfl (r_finding l G (upA M 206 Y) 1 (by decide) (-1000001) (by decide)) (by decide) rfl rfl (Nat.le_of_ble_eq_true rfl) dX10_ring_12 (fun M5 hP_12 => ?_)
    subst hP_12
    refine v_mem (upA (fndM M 1) 206 Y) (fnd_upA _ _ _) ?_
    have hS : ringS Y n child = er 1 Y := by unfold ringS; (try rw [nI_clamp (by omega)]); (try rw [nI_clamp (by omega)]); (first | rw [if_pos h_6] | rw [if_neg h_6] | rw [if_pos (congrArg nI h_6)] | rw [if_neg (fun q9 => h_6 ((nI_eq (by omega) (by omega)).mp q9))] | rw [if_neg (Nat.not_le.mpr h_6)] | rw [if_neg (Nat.not_lt.mpr h_6)] | skip); all_goals rfl
    exact n_iret C hRt rfl dX10_ring_15 (by rw [hS] <;> rfl) (by rw [hS]; exact ⟨_, rfl, (eqM.rf M).tr (eqM.fnd _ (show (1 : Nat) ≠ 0 by decide))⟩)
