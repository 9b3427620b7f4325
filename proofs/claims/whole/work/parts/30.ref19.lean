def PubX (X0 : Mm) (Y' : Nat → Int32) (k : Nat) : Mm → Prop := fun M' => ∃ X, M' = upA X 206 Y' ∧ eqM k X0 X
theorem is_natB {y x : Int32} {n : Nat} (hn : y = nI n) (hn2 : n < 2 ^ 31) (h : nI 0 ≤ x ∧ x ≤ y - nI 1) : ∃ j, j < n ∧ x = nI j := by
  subst hn
  obtain ⟨j, h1, h2⟩ := nI_of (x := x) (by rw [← nI_0]; exact Int32.not_lt.mpr h.1)
  subst h2
  rcases Nat.eq_zero_or_pos n with h0 | h0
  · subst h0
    exact absurd (Int32.le_trans h.1 h.2) (by decide)
  · rw [nI_subN h0] at h
    exact ⟨j, by have := (nI_leI h1 (by omega)).mp h.2; omega, rfl⟩
def toldE (E Y : Nat → Int32) (k : Int32) : O3 := if nI 1 ≤ k ∧ k ≤ nI 6 then (0, E k.toNatClampNeg, Y) else er 1 Y
def tellS (Y : Nat → Int32) (t : Nat) (v : Int32) : O3 := if t = 24 then er 4 Y else (0, nI (t + 1), upd (upd Y (297 + t) v) 5 (nI (t + 1)))
def chkG (Y : Nat → Int32) (t h : Nat) : Nat → Nat → Nat → Int32
  | 0, _, q => if q = t then nI 0 else nI (1 + q)
  | k + 1, c, q => if Y (7 + 6 * c + 4) = nI h then (if t ≤ q ∨ ¬ Y (297 + q) = nI c then nI (1 + q) else chkG Y t h k (c + 1) (q + 1)) else chkG Y t h k (c + 1) q
def checkS (Y : Nat → Int32) (n t : Nat) (heap : Int32) : O3 := if nI 0 ≤ heap ∧ heap ≤ upd Y 5 (nI 0) 1 - nI 1 then (0, chkG (upd Y 5 (nI 0)) t heap.toNatClampNeg n 0 0, upd Y 5 (nI 0)) else er 1 (upd Y 5 (nI 0))
def cntV (Y : Nat → Int32) (n : Nat) (T : Int32) (j : Nat) : Int32 := match j with
  | 0 => Y 0
  | 1 => Y 1
  | 2 => Y 2
  | 3 => Y 3
  | 4 => inA Y (-1) n
  | 5 => Y 4
  | 6 => Y 5
  | 7 => T
  | _ => Y 6
def countS (Y : Nat → Int32) (n : Nat) (T what : Int32) : O3 := if nI 0 ≤ what ∧ what ≤ nI 8 then (0, cntV Y n T what.toNatClampNeg, Y) else er 1 Y
def untellS (Y : Nat → Int32) (use : Int32) : O3 := if nI 0 ≤ use ∧ use ≤ nI 1 then (if Y (321 + 62 * use.toNatClampNeg) ≤ 0 then (0, nI 0, upd Y (321 + 62 * use.toNatClampNeg) (nI 0)) else (0, nI 1, upd Y (321 + 62 * use.toNatClampNeg) (nI 0))) else er 1 Y
def bodyS (Y TR : Nat → Int32) (T i : Int32) : O3 := if nI 0 ≤ i ∧ i ≤ T - nI 1 then (0, TR i.toNatClampNeg, Y) else er 2 Y
def restoreS (Y K : Nat → Int32) (im : Int32) : O3 := if im = 0 then er 2 Y else (0, K 2, K)
def imgM (M : Mm) (Y : Nat → Int32) : Mm := up2 (upA M 207 Y) 205 3 (M 205 3 + nI 1)
def byR (x : Int64) (k : Nat) : Int32 := Int64.toInt32 ((x >>> (Int32.toInt64 (nI (8 * k)) &&& 63)) &&& 255)
def fdA (Y : Nat → Int32) (t : Nat) (x : Int64) : Nat → Nat → Int32
  | 0 => Y
  | k + 1 => upd (upd (fdA Y t x k) (237 + (t + k)) (byR x k)) 4 (nI (t + k + 1))
def feedS (Y : Nat → Int32) (t : Nat) (x : Int64) (k : Int32) : O3 := if nI 1 ≤ k ∧ k ≤ nI 8 then (if t + k.toNatClampNeg ≤ 60 then (0, nI (t + k.toNatClampNeg), fdA Y t x k.toNatClampNeg) else er 4 Y) else er 1 Y
set_option maxHeartbeats 4000000 in
set_option maxRecDepth 100000 in
theorem r_told (l : Launch) (G : GC) (M : Mm) (Y : Nat → Int32) (n hN : Nat) (hY : YOk Y n hN) (k : Int32) : CI l G 2 yX10_told cX10_told 2 .int [.ref (gb G + 205), .int k] (upA M 206 Y) ((toldE (M 209) Y k).2.1) (PubR M (toldE (M 209) Y k).2.2 (toldE (M 209) Y k).1) := by
  refine Con.of (by decide +kernel) (Nat.le_of_ble_eq_true rfl) ?_
  intro f C hRm hRt _
  show Vc f G NPh (upA M 206 Y) 0 [(0, .ref (gb G + 205)), (1, .int k)] []
  have h10 := hY.1.2.1
  have h5N := hY.1.2.2.2
  refine v_iload_n C 1 dX10_told_0 rfl ?_
  refine v_iconst C (nI 1) dX10_told_1 (by decide) ?_
  refine v_bipush C (nI 6) dX10_told_2 (by decide) ?_
  refine n_callSp C hRm [.int k, .int (nI 1), .int (nI 6)] cw_X10_within st_X10_within ml_X10_72 (r_within l G (upA M 206 Y) k (nI 1) (nI 6)) (by decide) rfl rfl (Nat.le_of_ble_eq_true rfl) dX10_told_4 ?_
  refine nb_if_eq C 19 dX10_told_7 rfl (fun h_7 => ?_) (fun h_7 => ?_)
  · skip
    refine v_aload_n C 0 dX10_told_19 rfl ?_
    refine v_ldc C (-1000001) kc_X10_80 dX10_told_20 ?_
    refine n_callVi C hRm [.int (-1000001)] cw_X10_finding ml_X10_81 (by decide) sh_205 (by decide) rfl (r_finding l G (upA M 206 Y) 1 (by decide) (-1000001) (by decide)) (by decide) rfl rfl (Nat.le_of_ble_eq_true rfl) dX10_told_22 (fun M5 hP_22 => ?_)
    subst hP_22
    refine v_mem (upA (fndM M 1) 206 Y) (fnd_upA _ _ _) ?_
    have hS : toldE (M 209) Y k = er 1 Y := by unfold toldE; (try rw [nI_clamp (by omega)]); (try rw [nI_clamp (by omega)]); (first | rw [if_pos h_7] | rw [if_neg h_7] | rw [if_pos (congrArg nI h_7)] | rw [if_neg (fun q9 => h_7 ((nI_eq (by omega) (by omega)).mp q9))] | rw [if_neg (Nat.not_le.mpr h_7)] | rw [if_neg (Nat.not_lt.mpr h_7)] | skip); all_goals rfl
    exact n_iret C hRt rfl dX10_told_25 (by rw [hS] <;> rfl) (by rw [hS]; exact ⟨_, rfl, (eqM.rf M).tr (eqM.fnd _ (show (1 : Nat) ≠ 0 by decide))⟩)
  · skip
    obtain ⟨j, hj, rfl⟩ := within_nat2 (by decide) (by decide) h_7
    refine v_aload_n C 0 dX10_told_10 rfl ?_
    refine g_X10_19 C (by decide) sh_205 dX10_told_11 ?_
    refine v_iload_n C 1 dX10_told_14 rfl ?_
    refine v_iald C (by decide) sh_209 (by omega) (by decide) dX10_told_15 ?_
    refine v_top (M 209 j) (congrFun (upA_ne M Y (by decide)) _) ?_
    refine v_goto C 25 dX10_told_16 rfl ?_
    have hS : toldE (M 209) Y (nI j) = (0, M 209 j, Y) := by unfold toldE; (try rw [nI_clamp (by omega)]); (try rw [nI_clamp (by omega)]); (first | rw [if_pos h_7] | rw [if_neg h_7] | rw [if_pos (congrArg nI h_7)] | rw [if_neg (fun q9 => h_7 ((nI_eq (by omega) (by omega)).mp q9))] | rw [if_neg (Nat.not_le.mpr h_7)] | rw [if_neg (Nat.not_lt.mpr h_7)] | skip); all_goals rfl
    exact n_iret C hRt rfl dX10_told_25 (by rw [hS] <;> rfl) (by rw [hS]; exact ⟨_, rfl, eqM.rf M⟩)
set_option maxHeartbeats 4000000 in
set_option maxRecDepth 100000 in
theorem r_tell (l : Launch) (G : GC) (M : Mm) (Y : Nat → Int32) (n hN : Nat) (hY : YOk Y n hN) (t : Nat) (ht : Y 5 = nI t) (ht2 : t ≤ 24) (v : Int32) : CI l G 2 yX10_tell cX10_tell 2 .int [.ref (gb G + 205), .int v] (upA M 206 Y) ((tellS Y t v).2.1) (PubR M (tellS Y t v).2.2 (tellS Y t v).1) := by
  refine Con.of (by decide +kernel) (Nat.le_of_ble_eq_true rfl) ?_
  intro f C hRm hRt _
  show Vc f G NPh (upA M 206 Y) 0 [(0, .ref (gb G + 205)), (1, .int v)] []
  have h10 := hY.1.2.1
  have h5N := hY.1.2.2.2
  refine v_aload_n C 0 dX10_tell_0 rfl ?_
  refine g_X10_9 C (by decide) sh_205 dX10_tell_1 ?_
  refine v_iconst C (nI 5) dX10_tell_4 (by decide) ?_
  refine n_now_ld C (by decide) sh_206 (by omega) (by decide) dX10_tell_5 ?_
  refine v_top (nI t) ht ?_
  refine v_bipush C (nI 24) dX10_tell_6 (by decide) ?_
  refine n_icmp_ne C (by omega) (by omega) 18 dX10_tell_8 rfl (fun h_8 => ?_) (fun h_8 => ?_)
  · skip
    refine v_aload_n C 0 dX10_tell_18 rfl ?_
    refine g_X10_9 C (by decide) sh_205 dX10_tell_19 ?_
    refine v_sipush C (nI 297) dX10_tell_22 (by decide) ?_
    refine v_aload_n C 0 dX10_tell_25 rfl ?_
    refine g_X10_9 C (by decide) sh_205 dX10_tell_26 ?_
    refine v_iconst C (nI 5) dX10_tell_29 (by decide) ?_
    refine n_now_ld C (by decide) sh_206 (by omega) (by decide) dX10_tell_30 ?_
    refine v_top (nI t) ht ?_
    refine n_iadd C dX10_tell_31 ?_
    refine v_iload_n C 1 dX10_tell_32 rfl ?_
    refine n_now_st C (by decide) sh_206 (by omega) (by decide) dX10_tell_33 ?_
    refine v_aload_n C 0 dX10_tell_34 rfl ?_
    refine g_X10_9 C (by decide) sh_205 dX10_tell_35 ?_
    refine v_iconst C (nI 5) dX10_tell_38 (by decide) ?_
    refine v_dup2 C dX10_tell_39 rfl rfl ?_
    refine n_now_ld C (by decide) sh_206 (by omega) (by decide) dX10_tell_40 ?_
    refine v_top (nI t) ((upd_ne _ _ (by omega)).trans ht) ?_
    refine v_iconst C (nI 1) dX10_tell_41 (by decide) ?_
    refine n_iadd C dX10_tell_42 ?_
    refine n_now_st C (by decide) sh_206 (by omega) (by decide) dX10_tell_43 ?_
    refine v_aload_n C 0 dX10_tell_44 rfl ?_
    refine g_X10_9 C (by decide) sh_205 dX10_tell_45 ?_
    refine v_iconst C (nI 5) dX10_tell_48 (by decide) ?_
    refine n_now_ld C (by decide) sh_206 (by omega) (by decide) dX10_tell_49 ?_
    refine v_top (nI (t + 1)) (upd_eq _ _ _) ?_
    have hS : tellS Y t v = (0, nI (t + 1), upd (upd Y (297 + t) v) 5 (nI (t + 1))) := by unfold tellS; (first | rw [if_pos h_8] | rw [if_neg h_8] | rw [if_pos (congrArg nI h_8)] | rw [if_neg (fun q9 => h_8 ((nI_eq (by omega) (by omega)).mp q9))] | rw [if_neg (Nat.not_le.mpr h_8)] | rw [if_neg (Nat.not_lt.mpr h_8)] | skip); all_goals rfl
    exact n_iret C hRt rfl dX10_tell_50 (by rw [hS] <;> rfl) (by rw [hS]; exact ⟨_, rfl, eqM.rf M⟩)
  · skip
    refine v_aload_n C 0 dX10_tell_11 rfl ?_
    refine v_ldc C (-1000004) kc_X10_85 dX10_tell_12 ?_
    refine n_callVi C hRm [.int (-1000004)] cw_X10_finding ml_X10_81 (by decide) sh_205 (by decide) rfl (r_finding l G (upA M 206 Y) 4 (by decide) (-1000004) (by decide)) (by decide) rfl rfl (Nat.le_of_ble_eq_true rfl) dX10_tell_14 (fun M5 hP_14 => ?_)
    subst hP_14
    refine v_mem (upA (fndM M 4) 206 Y) (fnd_upA _ _ _) ?_
    have hS : tellS Y t v = er 4 Y := by unfold tellS; (first | rw [if_pos h_8] | rw [if_neg h_8] | rw [if_pos (congrArg nI h_8)] | rw [if_neg (fun q9 => h_8 ((nI_eq (by omega) (by omega)).mp q9))] | rw [if_neg (Nat.not_le.mpr h_8)] | rw [if_neg (Nat.not_lt.mpr h_8)] | skip); all_goals rfl
    exact n_iret C hRt rfl dX10_tell_17 (by rw [hS] <;> rfl) (by rw [hS]; exact ⟨_, rfl, (eqM.rf M).tr (eqM.fnd _ (show (4 : Nat) ≠ 0 by decide))⟩)
set_option maxHeartbeats 4000000 in
set_option maxRecDepth 100000 in
theorem r_check (l : Launch) (G : GC) (M : Mm) (Y : Nat → Int32) (n hN : Nat) (hY : YOk Y n hN) (t : Nat) (ht : Y 5 = nI t) (ht2 : t ≤ 24) (heap : Int32) : CI l G 3 yX10_check cX10_check 5 .int [.ref (gb G + 205), .int heap] (upA M 206 Y) ((checkS Y n t heap).2.1) (PubR M (checkS Y n t heap).2.2 (checkS Y n t heap).1) := by
  refine Con.of (by decide +kernel) (Nat.le_of_ble_eq_true rfl) ?_
  intro f C hRm hRt _
  have h10 := hY.1.2.1
  have h5N := hY.1.2.2.2
  show Vc f G NPh (upA M 206 Y) 0 [(0, .ref (gb G + 205)), (1, .int heap)] []
  refine v_aload_n C 0 dX10_check_0 rfl ?_
  refine g_X10_9 C (by decide) sh_205 dX10_check_1 ?_
  refine v_iconst C (nI 5) dX10_check_4 (by decide) ?_
  refine n_now_ld C (by decide) sh_206 (by omega) (by decide) dX10_check_5 ?_
  refine v_top (nI t) ht ?_
  refine v_istore_n C [(2, .int (nI t)), (0, .ref (gb G + 205)), (1, .int heap)] dX10_check_6 rfl (by decide) rfl ?_
  refine v_aload_n C 1 dX10_check_7 rfl ?_
  refine g_X10_9 C (by decide) sh_205 dX10_check_8 ?_
  refine v_iconst C (nI 5) dX10_check_11 (by decide) ?_
  refine v_iconst C (nI 0) dX10_check_12 (by decide) ?_
  refine n_now_st C (by decide) sh_206 (by omega) (by decide) dX10_check_13 ?_
  refine v_aload_n C 1 dX10_check_14 rfl ?_
  refine v_iload_n C 2 dX10_check_15 rfl ?_
  refine v_iconst C (nI 1) dX10_check_16 (by decide) ?_
  refine n_callVp C hRm [.int heap, .int (nI 1)] cw_X10_is ml_X10_95 (by decide) sh_205 (by decide) rfl (r_is l G M (upd Y 5 (nI 0)) heap 1 (by decide)) (by decide) rfl rfl (Nat.le_of_ble_eq_true rfl) dX10_check_17 ?_
  refine nb_if_ne C 30 dX10_check_20 rfl (fun h_20 => ?_) (fun h_20 => ?_)
  · skip
    obtain ⟨h, hh, rfl⟩ := is_nat ((upd_ne _ _ (by omega)).trans hY.1.2.2.1) (by omega) h_20
    refine v_iconst C (nI 0) dX10_check_30 (by decide) ?_
    refine v_istore_n C [(3, .int (nI 0)), (2, .int (nI t)), (0, .ref (gb G + 205)), (1, .int (nI h))] dX10_check_31 rfl (by decide) rfl ?_
    refine v_iconst C (nI 0) dX10_check_32 (by decide) ?_
    refine v_istore C [(4, .int (nI 0)), (3, .int (nI 0)), (2, .int (nI t)), (0, .ref (gb G + 205)), (1, .int (nI h))] dX10_check_33 (by decide) rfl ?_
    have LC : ∀ (kk : Nat) (c : Nat) (q : Nat), n - c = kk → c ≤ n → q ≤ c → chkG (upd Y 5 (nI 0)) t h (n - c) c q = chkG (upd Y 5 (nI 0)) t h n 0 0 → Vc f G NPh (upA M 206 (upd Y 5 (nI 0))) 35 [(4, .int (nI c)), (3, .int (nI q)), (2, .int (nI t)), (0, .ref (gb G + 205)), (1, .int (nI h))] [] := by
      intro kk
      induction kk using Nat.strongRecOn with
      | _ kk ihLC =>
        intro c q hkk hc hq hg
        refine v_iload C 0 dX10_check_35 rfl ?_
        refine v_aload_n C 3 dX10_check_37 rfl ?_
        refine g_X10_9 C (by decide) sh_205 dX10_check_38 ?_
        refine v_iconst C (nI 0) dX10_check_41 (by decide) ?_
        refine n_now_ld C (by decide) sh_206 (by omega) (by decide) dX10_check_42 ?_
        refine v_top (nI n) ((upd_ne _ _ (by omega)).trans hY.1.1) ?_
        refine n_icmp_ge C (by omega) (by omega) 90 dX10_check_43 rfl (fun h_43 => ?_) (fun h_43 => ?_)
        · skip
          refine v_iload_n C 1 dX10_check_90 rfl ?_
          refine v_iload_n C 2 dX10_check_91 rfl ?_
          refine n_icmp_ne C (by omega) (by omega) 99 dX10_check_92 rfl (fun h_92 => ?_) (fun h_92 => ?_)
          · skip
            refine v_iconst C (nI 1) dX10_check_99 (by decide) ?_
            refine v_iload_n C 1 dX10_check_100 rfl ?_
            refine n_iadd C dX10_check_101 ?_
            have hz : chkG (upd Y 5 (nI 0)) t h n 0 0 = nI (1 + q) := by rw [← hg, show n - c = 0 by omega]; simp only [chkG]; first | rw [if_pos h_92] | rw [if_neg h_92]
            have hS : checkS Y n t (nI h) = (0, nI (1 + q), upd Y 5 (nI 0)) := by unfold checkS; rw [if_pos h_20, nI_clamp (by omega), hz]
            exact n_iret C hRt rfl dX10_check_102 (by rw [hS]) (by rw [hS]; exact ⟨_, rfl, eqM.rf M⟩)
          · skip
            refine v_iconst C (nI 0) dX10_check_95 (by decide) ?_
            refine v_goto C 102 dX10_check_96 rfl ?_
            have hz : chkG (upd Y 5 (nI 0)) t h n 0 0 = nI 0 := by rw [← hg, show n - c = 0 by omega]; simp only [chkG]; first | rw [if_pos h_92] | rw [if_neg h_92]
            have hS : checkS Y n t (nI h) = (0, nI 0, upd Y 5 (nI 0)) := by unfold checkS; rw [if_pos h_20, nI_clamp (by omega), hz]
            exact n_iret C hRt rfl dX10_check_102 (by rw [hS]) (by rw [hS]; exact ⟨_, rfl, eqM.rf M⟩)
        · skip
          refine v_aload_n C 3 dX10_check_46 rfl ?_
          refine v_iload C 0 dX10_check_47 rfl ?_
          refine v_iconst C (nI 4) dX10_check_49 (by decide) ?_
          refine n_callVp C hRm [.int (nI c), .int (nI 4)] cw_X10_of ml_X10_86 (by decide) sh_205 (by decide) rfl (r_of l G M (upd Y 5 (nI 0)) c 4 (by omega)) (by decide) rfl rfl (Nat.le_of_ble_eq_true rfl) dX10_check_50 ?_
          refine v_iload_n C 4 dX10_check_53 rfl ?_
          refine v_icmp_ne C 84 dX10_check_54 rfl (fun h_54 => ?_) (fun h_54 => ?_)
          · skip
            refine v_iinc C (nI (c + 1)) 0 [(4, .int (nI (c + 1))), (3, .int (nI q)), (2, .int (nI t)), (0, .ref (gb G + 205)), (1, .int (nI h))] dX10_check_84 rfl (nI_add _ _) (by decide) rfl ?_
            refine v_goto C 35 dX10_check_87 rfl ?_
            refine v_sub [0, 1, 2, 3, 4] [(4, .int (nI (c + 1))), (3, .int (nI q)), (2, .int (nI t)), (0, .ref (gb G + 205)), (1, .int (nI h))] rfl ?_
            exact ihLC _ (by omega) (c + 1) q  rfl (by omega) (by omega) (by rw [← hg, show n - c = (n - (c + 1)) + 1 by omega]; simp only [chkG]; rw [if_neg h_54])
          · skip
            refine v_iload_n C 1 dX10_check_57 rfl ?_
            refine v_iload_n C 2 dX10_check_58 rfl ?_
            refine n_icmp_ge C (by omega) (by omega) 77 dX10_check_59 rfl (fun h_59 => ?_) (fun h_59 => ?_)
            · skip
              refine v_iconst C (nI 1) dX10_check_77 (by decide) ?_
              refine v_iload_n C 1 dX10_check_78 rfl ?_
              refine n_iadd C dX10_check_79 ?_
              have hz : chkG (upd Y 5 (nI 0)) t h n 0 0 = nI (1 + q) := by rw [← hg, show n - c = (n - (c + 1)) + 1 by omega]; simp only [chkG]; rw [if_pos h_54, if_pos (by first | exact Or.inl h_59 | exact Or.inr h_74)]
              have hS : checkS Y n t (nI h) = (0, nI (1 + q), upd Y 5 (nI 0)) := by unfold checkS; rw [if_pos h_20, nI_clamp (by omega), hz]
              exact n_iret C hRt rfl dX10_check_80 (by rw [hS]) (by rw [hS]; exact ⟨_, rfl, eqM.rf M⟩)
            · skip
              refine v_aload_n C 3 dX10_check_62 rfl ?_
              refine g_X10_9 C (by decide) sh_205 dX10_check_63 ?_
              refine v_sipush C (nI 297) dX10_check_66 (by decide) ?_
              refine v_iload_n C 1 dX10_check_69 rfl ?_
              refine n_iadd C dX10_check_70 ?_
              refine n_now_ld C (by decide) sh_206 (by omega) (by decide) dX10_check_71 ?_
              refine v_iload C 0 dX10_check_72 rfl ?_
              refine v_icmp_eq C 81 dX10_check_74 rfl (fun h_74 => ?_) (fun h_74 => ?_)
              · skip
                refine v_iinc C (nI (q + 1)) 1 [(3, .int (nI (q + 1))), (4, .int (nI c)), (2, .int (nI t)), (0, .ref (gb G + 205)), (1, .int (nI h))] dX10_check_81 rfl (nI_add _ _) (by decide) rfl ?_
                refine v_iinc C (nI (c + 1)) 1 [(4, .int (nI (c + 1))), (3, .int (nI (q + 1))), (2, .int (nI t)), (0, .ref (gb G + 205)), (1, .int (nI h))] dX10_check_84 rfl (nI_add _ _) (by decide) rfl ?_
                refine v_goto C 35 dX10_check_87 rfl ?_
                refine v_sub [0, 1, 2, 3, 4] [(4, .int (nI (c + 1))), (3, .int (nI (q + 1))), (2, .int (nI t)), (0, .ref (gb G + 205)), (1, .int (nI h))] rfl ?_
                exact ihLC _ (by omega) (c + 1) (q + 1)  rfl (by omega) (by omega) (by rw [← hg, show n - c = (n - (c + 1)) + 1 by omega]; simp only [chkG]; rw [if_pos h_54, if_neg (fun q9 => by rcases q9 with q8 | q8; omega; exact q8 h_74)])
              · skip
                refine v_iconst C (nI 1) dX10_check_77 (by decide) ?_
                refine v_iload_n C 1 dX10_check_78 rfl ?_
                refine n_iadd C dX10_check_79 ?_
                have hz : chkG (upd Y 5 (nI 0)) t h n 0 0 = nI (1 + q) := by rw [← hg, show n - c = (n - (c + 1)) + 1 by omega]; simp only [chkG]; rw [if_pos h_54, if_pos (by first | exact Or.inl h_59 | exact Or.inr h_74)]
                have hS : checkS Y n t (nI h) = (0, nI (1 + q), upd Y 5 (nI 0)) := by unfold checkS; rw [if_pos h_20, nI_clamp (by omega), hz]
                exact n_iret C hRt rfl dX10_check_80 (by rw [hS]) (by rw [hS]; exact ⟨_, rfl, eqM.rf M⟩)
    refine v_sub [0, 1, 2, 3, 4] [(4, .int (nI 0)), (3, .int (nI 0)), (2, .int (nI t)), (0, .ref (gb G + 205)), (1, .int (nI h))] rfl ?_
    exact LC _ 0 0  rfl (by omega) (by omega) (by rfl)
  · skip
    refine v_aload_n C 1 dX10_check_23 rfl ?_
    refine v_ldc C (-1000001) kc_X10_80 dX10_check_24 ?_
    refine n_callVi C hRm [.int (-1000001)] cw_X10_finding ml_X10_81 (by decide) sh_205 (by decide) rfl (r_finding l G (upA M 206 (upd Y 5 (nI 0))) 1 (by decide) (-1000001) (by decide)) (by decide) rfl rfl (Nat.le_of_ble_eq_true rfl) dX10_check_26 (fun M5 hP_26 => ?_)
    subst hP_26
    refine v_mem (upA (fndM M 1) 206 (upd Y 5 (nI 0))) (fnd_upA _ _ _) ?_
    have hS : checkS Y n t heap = er 1 (upd Y 5 (nI 0)) := by unfold checkS; (try rw [nI_clamp (by omega)]); (try rw [nI_clamp (by omega)]); (first | rw [if_pos h_20] | rw [if_neg h_20] | rw [if_pos (congrArg nI h_20)] | rw [if_neg (fun q9 => h_20 ((nI_eq (by omega) (by omega)).mp q9))] | rw [if_neg (Nat.not_le.mpr h_20)] | rw [if_neg (Nat.not_lt.mpr h_20)] | skip); all_goals rfl
    exact n_iret C hRt rfl dX10_check_29 (by rw [hS] <;> rfl) (by rw [hS]; exact ⟨_, rfl, (eqM.rf M).tr (eqM.fnd _ (show (1 : Nat) ≠ 0 by decide))⟩)
set_option maxHeartbeats 4000000 in
set_option maxRecDepth 100000 in
theorem r_count (l : Launch) (G : GC) (M : Mm) (Y : Nat → Int32) (n hN : Nat) (hY : YOk Y n hN) (what : Int32) : CI l G 3 yX10_count cX10_count 2 .int [.ref (gb G + 205), .int what] (upA M 206 Y) ((countS Y n (M 205 17) what).2.1) (PubR M (countS Y n (M 205 17) what).2.2 (countS Y n (M 205 17) what).1) := by
  refine Con.of (by decide +kernel) (Nat.le_of_ble_eq_true rfl) ?_
  intro f C hRm hRt _
  show Vc f G NPh (upA M 206 Y) 0 [(0, .ref (gb G + 205)), (1, .int what)] []
  have h10 := hY.1.2.1
  have h5N := hY.1.2.2.2
  refine v_iload_n C 1 dX10_count_0 rfl ?_
  rcases Decidable.em (nI 0 ≤ what ∧ what ≤ nI 8) with h_w | h_w
  · obtain ⟨j, hj, rfl⟩ := within_nat (by decide) h_w
    rcases (show j = 0 ∨ j = 1 ∨ j = 2 ∨ j = 3 ∨ j = 4 ∨ j = 5 ∨ j = 6 ∨ j = 7 ∨ j = 8 by omega) with h_0 | h_0 | h_0 | h_0 | h_0 | h_0 | h_0 | h_0 | h_0
    · subst h_0
      refine v_tableIn (off := 51) C 52 dX10_count_1 (by decide +kernel) (by decide +kernel) (by decide +kernel) rfl ?_
      refine v_aload_n C 0 dX10_count_52 rfl ?_
      refine g_X10_9 C (by decide) sh_205 dX10_count_53 ?_
      refine v_iload_n C 1 dX10_count_56 rfl ?_
      refine n_now_ld C (by decide) sh_206 (by omega) (by decide) dX10_count_57 ?_
      have hS : countS Y n (M 205 17) (nI 0) = (0, Y 0, Y) := by unfold countS; rw [if_pos h_w]; rfl
      exact n_iret C hRt rfl dX10_count_58 (by rw [hS]) (by rw [hS]; exact ⟨_, rfl, eqM.rf M⟩)
    · subst h_0
      refine v_tableIn (off := 51) C 52 dX10_count_1 (by decide +kernel) (by decide +kernel) (by decide +kernel) rfl ?_
      refine v_aload_n C 0 dX10_count_52 rfl ?_
      refine g_X10_9 C (by decide) sh_205 dX10_count_53 ?_
      refine v_iload_n C 1 dX10_count_56 rfl ?_
      refine n_now_ld C (by decide) sh_206 (by omega) (by decide) dX10_count_57 ?_
      have hS : countS Y n (M 205 17) (nI 1) = (0, Y 1, Y) := by unfold countS; rw [if_pos h_w]; rfl
      exact n_iret C hRt rfl dX10_count_58 (by rw [hS]) (by rw [hS]; exact ⟨_, rfl, eqM.rf M⟩)
    · subst h_0
      refine v_tableIn (off := 51) C 52 dX10_count_1 (by decide +kernel) (by decide +kernel) (by decide +kernel) rfl ?_
      refine v_aload_n C 0 dX10_count_52 rfl ?_
      refine g_X10_9 C (by decide) sh_205 dX10_count_53 ?_
      refine v_iload_n C 1 dX10_count_56 rfl ?_
      refine n_now_ld C (by decide) sh_206 (by omega) (by decide) dX10_count_57 ?_
      have hS : countS Y n (M 205 17) (nI 2) = (0, Y 2, Y) := by unfold countS; rw [if_pos h_w]; rfl
      exact n_iret C hRt rfl dX10_count_58 (by rw [hS]) (by rw [hS]; exact ⟨_, rfl, eqM.rf M⟩)
    · subst h_0
      refine v_tableIn (off := 51) C 52 dX10_count_1 (by decide +kernel) (by decide +kernel) (by decide +kernel) rfl ?_
      refine v_aload_n C 0 dX10_count_52 rfl ?_
      refine g_X10_9 C (by decide) sh_205 dX10_count_53 ?_
      refine v_iload_n C 1 dX10_count_56 rfl ?_
      refine n_now_ld C (by decide) sh_206 (by omega) (by decide) dX10_count_57 ?_
      have hS : countS Y n (M 205 17) (nI 3) = (0, Y 3, Y) := by unfold countS; rw [if_pos h_w]; rfl
      exact n_iret C hRt rfl dX10_count_58 (by rw [hS]) (by rw [hS]; exact ⟨_, rfl, eqM.rf M⟩)
    · subst h_0
      refine v_tableIn (off := 58) C 59 dX10_count_1 (by decide +kernel) (by decide +kernel) (by decide +kernel) rfl ?_
      refine v_aload_n C 0 dX10_count_59 rfl ?_
      refine v_iconst C (-1) dX10_count_60 (by decide) ?_
      refine n_callVp C hRm [.int (-1)] cw_X10_inHeap ml_X10_112 (by decide) sh_205 (by decide) rfl (r_inHeap l G M Y n hY.1.1 hY.1.2.1 (-1)) (by decide) rfl rfl (Nat.le_of_ble_eq_true rfl) dX10_count_61 ?_
      have hS : countS Y n (M 205 17) (nI 4) = (0, inA Y (-1) n, Y) := by unfold countS; rw [if_pos h_w]; rfl
      exact n_iret C hRt rfl dX10_count_64 (by rw [hS]) (by rw [hS]; exact ⟨_, rfl, eqM.rf M⟩)
    · subst h_0
      refine v_tableIn (off := 64) C 65 dX10_count_1 (by decide +kernel) (by decide +kernel) (by decide +kernel) rfl ?_
      refine v_aload_n C 0 dX10_count_65 rfl ?_
      refine g_X10_9 C (by decide) sh_205 dX10_count_66 ?_
      refine v_iconst C (nI 4) dX10_count_69 (by decide) ?_
      refine n_now_ld C (by decide) sh_206 (by omega) (by decide) dX10_count_70 ?_
      have hS : countS Y n (M 205 17) (nI 5) = (0, Y 4, Y) := by unfold countS; rw [if_pos h_w]; rfl
      exact n_iret C hRt rfl dX10_count_71 (by rw [hS]) (by rw [hS]; exact ⟨_, rfl, eqM.rf M⟩)
    · subst h_0
      refine v_tableIn (off := 71) C 72 dX10_count_1 (by decide +kernel) (by decide +kernel) (by decide +kernel) rfl ?_
      refine v_aload_n C 0 dX10_count_72 rfl ?_
      refine g_X10_9 C (by decide) sh_205 dX10_count_73 ?_
      refine v_iconst C (nI 5) dX10_count_76 (by decide) ?_
      refine n_now_ld C (by decide) sh_206 (by omega) (by decide) dX10_count_77 ?_
      have hS : countS Y n (M 205 17) (nI 6) = (0, Y 5, Y) := by unfold countS; rw [if_pos h_w]; rfl
      exact n_iret C hRt rfl dX10_count_78 (by rw [hS]) (by rw [hS]; exact ⟨_, rfl, eqM.rf M⟩)
    · subst h_0
      refine v_tableIn (off := 78) C 79 dX10_count_1 (by decide +kernel) (by decide +kernel) (by decide +kernel) rfl ?_
      refine v_aload_n C 0 dX10_count_79 rfl ?_
      refine g_X10_280 C (by decide) sh_205 dX10_count_80 ?_
      refine v_top (M 205 17) (congrFun (upA_ne M Y (by decide)) 17) ?_
      have hS : countS Y n (M 205 17) (nI 7) = (0, M 205 17, Y) := by unfold countS; rw [if_pos h_w]; rfl
      exact n_iret C hRt rfl dX10_count_83 (by rw [hS]) (by rw [hS]; exact ⟨_, rfl, eqM.rf M⟩)
    · subst h_0
      refine v_tableIn (off := 83) C 84 dX10_count_1 (by decide +kernel) (by decide +kernel) (by decide +kernel) rfl ?_
      refine v_aload_n C 0 dX10_count_84 rfl ?_
      refine g_X10_9 C (by decide) sh_205 dX10_count_85 ?_
      refine v_bipush C (nI 6) dX10_count_88 (by decide) ?_
      refine n_now_ld C (by decide) sh_206 (by omega) (by decide) dX10_count_90 ?_
      have hS : countS Y n (M 205 17) (nI 8) = (0, Y 6, Y) := by unfold countS; rw [if_pos h_w]; rfl
      exact n_iret C hRt rfl dX10_count_91 (by rw [hS]) (by rw [hS]; exact ⟨_, rfl, eqM.rf M⟩)
  · refine v_tableOut C 92 dX10_count_1 (by first | (rcases Int.lt_or_le what.toInt 0 with q | q; exact Or.inl q; refine Or.inr (Int.not_le.mp (fun q2 => h_w ⟨Int32.le_iff_toInt_le.mpr (by rw [show (nI 0).toInt = 0 from by decide]; exact q), Int32.le_iff_toInt_le.mpr (by rw [show (nI 8).toInt = 8 from by decide]; exact q2)⟩)))) rfl ?_
    refine v_aload_n C 0 dX10_count_92 rfl ?_
    refine v_ldc C (-1000001) kc_X10_80 dX10_count_93 ?_
    refine n_callVi C hRm [.int (-1000001)] cw_X10_finding ml_X10_81 (by decide) sh_205 (by decide) rfl (r_finding l G (upA M 206 Y) 1 (by decide) (-1000001) (by decide)) (by decide) rfl rfl (Nat.le_of_ble_eq_true rfl) dX10_count_95 (fun M5 hP_95 => ?_)
    subst hP_95
    refine v_mem (upA (fndM M 1) 206 Y) (fnd_upA _ _ _) ?_
    have hS : countS Y n (M 205 17) what = er 1 Y := by unfold countS; (first | rw [if_pos h_w] | rw [if_neg h_w] | rw [if_pos (congrArg nI h_w)] | rw [if_neg (fun q9 => h_w ((nI_eq (by omega) (by omega)).mp q9))] | rw [if_neg (Nat.not_le.mpr h_w)] | rw [if_neg (Nat.not_lt.mpr h_w)] | skip); all_goals rfl
    exact n_iret C hRt rfl dX10_count_98 (by rw [hS] <;> rfl) (by rw [hS]; exact ⟨_, rfl, (eqM.rf M).tr (eqM.fnd _ (show (1 : Nat) ≠ 0 by decide))⟩)
set_option maxHeartbeats 4000000 in
set_option maxRecDepth 100000 in
theorem r_untell (l : Launch) (G : GC) (M : Mm) (Y : Nat → Int32) (n hN : Nat) (hY : YOk Y n hN) (use : Int32) : CI l G 2 yX10_untell cX10_untell 2 .int [.ref (gb G + 205), .int use] (upA M 206 Y) ((untellS Y use).2.1) (PubR M (untellS Y use).2.2 (untellS Y use).1) := by
  refine Con.of (by decide +kernel) (Nat.le_of_ble_eq_true rfl) ?_
  intro f C hRm hRt _
  show Vc f G NPh (upA M 206 Y) 0 [(0, .ref (gb G + 205)), (1, .int use)] []
  have h10 := hY.1.2.1
  have h5N := hY.1.2.2.2
  refine v_iload_n C 1 dX10_untell_0 rfl ?_
  refine v_iconst C (nI 0) dX10_untell_1 (by decide) ?_
  refine v_iconst C (nI 1) dX10_untell_2 (by decide) ?_
  refine n_callSp C hRm [.int use, .int (nI 0), .int (nI 1)] cw_X10_within st_X10_within ml_X10_72 (r_within l G (upA M 206 Y) use (nI 0) (nI 1)) (by decide) rfl rfl (Nat.le_of_ble_eq_true rfl) dX10_untell_3 ?_
  refine nb_if_eq C 33 dX10_untell_6 rfl (fun h_6 => ?_) (fun h_6 => ?_)
  · skip
    refine v_aload_n C 0 dX10_untell_33 rfl ?_
    refine v_ldc C (-1000001) kc_X10_80 dX10_untell_34 ?_
    refine n_callVi C hRm [.int (-1000001)] cw_X10_finding ml_X10_81 (by decide) sh_205 (by decide) rfl (r_finding l G (upA M 206 Y) 1 (by decide) (-1000001) (by decide)) (by decide) rfl rfl (Nat.le_of_ble_eq_true rfl) dX10_untell_36 (fun M5 hP_36 => ?_)
    subst hP_36
    refine v_mem (upA (fndM M 1) 206 Y) (fnd_upA _ _ _) ?_
    have hS : untellS Y use = er 1 Y := by unfold untellS; (try rw [nI_clamp (by omega)]); (try rw [nI_clamp (by omega)]); (try rw [nI_clamp (by omega)]); (first | rw [if_pos h_6] | rw [if_neg h_6] | rw [if_pos (congrArg nI h_6)] | rw [if_neg (fun q9 => h_6 ((nI_eq (by omega) (by omega)).mp q9))] | rw [if_neg (Nat.not_le.mpr h_6)] | rw [if_neg (Nat.not_lt.mpr h_6)] | skip); all_goals rfl
    exact n_iret C hRt rfl dX10_untell_39 (by rw [hS] <;> rfl) (by rw [hS]; exact ⟨_, rfl, (eqM.rf M).tr (eqM.fnd _ (show (1 : Nat) ≠ 0 by decide))⟩)
  · skip
    obtain ⟨u, hu, rfl⟩ := within_nat (by decide) h_6
    refine v_aload_n C 0 dX10_untell_9 rfl ?_
    refine v_sipush C (nI 321) dX10_untell_10 (by decide) ?_
    refine v_bipush C (nI 62) dX10_untell_13 (by decide) ?_
    refine v_iload_n C 1 dX10_untell_15 rfl ?_
    refine n_imul C dX10_untell_16 ?_
    refine n_iadd C dX10_untell_17 ?_
    refine v_iconst C (nI 0) dX10_untell_18 (by decide) ?_
    refine n_callVi C hRm [.int (nI (321 + (62 * u))), .int (nI 0)] cw_X10_become ml_X10_106 (by decide) sh_205 (by decide) rfl (r_become l G M Y (321 + (62 * u)) (nI 0) (by omega)) (by decide) rfl rfl (Nat.le_of_ble_eq_true rfl) dX10_untell_19 (fun M5 hP_19 => ?_)
    subst hP_19
    refine v_if_le C 29 dX10_untell_22 rfl (fun h_22 => ?_) (fun h_22 => ?_)
    · skip
      refine v_iconst C (nI 0) dX10_untell_29 (by decide) ?_
      refine v_goto C 39 dX10_untell_30 rfl ?_
      have hS : untellS Y (nI u) = (0, nI 0, upd Y (321 + (62 * u)) (nI 0)) := by unfold untellS; (try rw [nI_clamp (by omega)]); (try rw [nI_clamp (by omega)]); (try rw [nI_clamp (by omega)]); (first | rw [if_pos h_6] | rw [if_neg h_6] | rw [if_pos (congrArg nI h_6)] | rw [if_neg (fun q9 => h_6 ((nI_eq (by omega) (by omega)).mp q9))] | rw [if_neg (Nat.not_le.mpr h_6)] | rw [if_neg (Nat.not_lt.mpr h_6)] | skip); (first | rw [if_pos h_22] | rw [if_neg h_22] | rw [if_pos (congrArg nI h_22)] | rw [if_neg (fun q9 => h_22 ((nI_eq (by omega) (by omega)).mp q9))] | rw [if_neg (Nat.not_le.mpr h_22)] | rw [if_neg (Nat.not_lt.mpr h_22)] | skip); all_goals rfl
      exact n_iret C hRt rfl dX10_untell_39 (by rw [hS] <;> rfl) (by rw [hS]; exact ⟨_, rfl, eqM.rf M⟩)
    · skip
      refine v_iconst C (nI 1) dX10_untell_25 (by decide) ?_
      refine v_goto C 39 dX10_untell_26 rfl ?_
      have hS : untellS Y (nI u) = (0, nI 1, upd Y (321 + (62 * u)) (nI 0)) := by unfold untellS; (try rw [nI_clamp (by omega)]); (try rw [nI_clamp (by omega)]); (try rw [nI_clamp (by omega)]); (first | rw [if_pos h_6] | rw [if_neg h_6] | rw [if_pos (congrArg nI h_6)] | rw [if_neg (fun q9 => h_6 ((nI_eq (by omega) (by omega)).mp q9))] | rw [if_neg (Nat.not_le.mpr h_6)] | rw [if_neg (Nat.not_lt.mpr h_6)] | skip); (first | rw [if_pos h_22] | rw [if_neg h_22] | rw [if_pos (congrArg nI h_22)] | rw [if_neg (fun q9 => h_22 ((nI_eq (by omega) (by omega)).mp q9))] | rw [if_neg (Nat.not_le.mpr h_22)] | rw [if_neg (Nat.not_lt.mpr h_22)] | skip); all_goals rfl
      exact n_iret C hRt rfl dX10_untell_39 (by rw [hS] <;> rfl) (by rw [hS]; exact ⟨_, rfl, eqM.rf M⟩)
set_option maxHeartbeats 4000000 in
set_option maxRecDepth 100000 in
theorem r_body (l : Launch) (G : GC) (M : Mm) (Y : Nat → Int32) (n hN : Nat) (hY : YOk Y n hN) (tr : Nat) (htr : M 205 17 = nI tr) (htr2 : tr ≤ 30) (i : Int32) : CI l G 2 yX10_body_ cX10_body_ 2 .int [.ref (gb G + 205), .int i] (upA M 206 Y) ((bodyS Y (M 216) (M 205 17) i).2.1) (PubR M (bodyS Y (M 216) (M 205 17) i).2.2 (bodyS Y (M 216) (M 205 17) i).1) := by
  refine Con.of (by decide +kernel) (Nat.le_of_ble_eq_true rfl) ?_
  intro f C hRm hRt _
  show Vc f G NPh (upA M 206 Y) 0 [(0, .ref (gb G + 205)), (1, .int i)] []
  have h10 := hY.1.2.1
  have h5N := hY.1.2.2.2
  refine v_iload_n C 1 dX10_body__0 rfl ?_
  refine v_iconst C (nI 0) dX10_body__1 (by decide) ?_
  refine v_aload_n C 0 dX10_body__2 rfl ?_
  refine g_X10_280 C (by decide) sh_205 dX10_body__3 ?_
  refine v_top (M 205 17) (congrFun (upA_ne M Y (by decide)) 17) ?_
  refine v_iconst C (nI 1) dX10_body__6 (by decide) ?_
  refine v_isub C dX10_body__7 ?_
  refine n_callSp C hRm [.int i, .int (nI 0), .int ((M 205 17) - (nI 1))] cw_X10_within st_X10_within ml_X10_72 (r_within l G (upA M 206 Y) i (nI 0) ((M 205 17) - (nI 1))) (by decide) rfl rfl (Nat.le_of_ble_eq_true rfl) dX10_body__8 ?_
  refine nb_if_eq C 23 dX10_body__11 rfl (fun h_11 => ?_) (fun h_11 => ?_)
  · skip
    refine v_aload_n C 0 dX10_body__23 rfl ?_
    refine v_ldcw C (-1000002) kc_X10_276 dX10_body__24 ?_
    refine n_callVi C hRm [.int (-1000002)] cw_X10_finding ml_X10_81 (by decide) sh_205 (by decide) rfl (r_finding l G (upA M 206 Y) 2 (by decide) (-1000002) (by decide)) (by decide) rfl rfl (Nat.le_of_ble_eq_true rfl) dX10_body__27 (fun M5 hP_27 => ?_)
    subst hP_27
    refine v_mem (upA (fndM M 2) 206 Y) (fnd_upA _ _ _) ?_
    have hS : bodyS Y (M 216) (M 205 17) i = er 2 Y := by unfold bodyS; (try rw [nI_clamp (by omega)]); (try rw [nI_clamp (by omega)]); (first | rw [if_pos h_11] | rw [if_neg h_11] | rw [if_pos (congrArg nI h_11)] | rw [if_neg (fun q9 => h_11 ((nI_eq (by omega) (by omega)).mp q9))] | rw [if_neg (Nat.not_le.mpr h_11)] | rw [if_neg (Nat.not_lt.mpr h_11)] | skip); all_goals rfl
    exact n_iret C hRt rfl dX10_body__30 (by rw [hS] <;> rfl) (by rw [hS]; exact ⟨_, rfl, (eqM.rf M).tr (eqM.fnd _ (show (2 : Nat) ≠ 0 by decide))⟩)
  · skip
    obtain ⟨j, hj, rfl⟩ := is_natB htr (by omega) h_11
    refine v_aload_n C 0 dX10_body__14 rfl ?_
    refine g_X10_47 C (by decide) sh_205 dX10_body__15 ?_
    refine v_iload_n C 1 dX10_body__18 rfl ?_
    refine v_iald C (by decide) sh_216 (by omega) (by decide) dX10_body__19 ?_
    refine v_top (M 216 j) (congrFun (upA_ne M Y (by decide)) _) ?_
    refine v_goto C 30 dX10_body__20 rfl ?_
    have hS : bodyS Y (M 216) (M 205 17) (nI j) = (0, M 216 j, Y) := by unfold bodyS; (try rw [nI_clamp (by omega)]); (try rw [nI_clamp (by omega)]); (first | rw [if_pos h_11] | rw [if_neg h_11] | rw [if_pos (congrArg nI h_11)] | rw [if_neg (fun q9 => h_11 ((nI_eq (by omega) (by omega)).mp q9))] | rw [if_neg (Nat.not_le.mpr h_11)] | rw [if_neg (Nat.not_lt.mpr h_11)] | skip); all_goals rfl
    exact n_iret C hRt rfl dX10_body__30 (by rw [hS] <;> rfl) (by rw [hS]; exact ⟨_, rfl, eqM.rf M⟩)
set_option maxHeartbeats 4000000 in
set_option maxRecDepth 100000 in
theorem r_image (l : Launch) (G : GC) (M : Mm) (Y : Nat → Int32) : CI l G 2 yX10_image cX10_image 1 .int [.ref (gb G + 205)] (upA M 206 Y) (M 205 3 + nI 1) (fun M' => M' = upA (imgM M Y) 206 Y) := by
  refine Con.of (by decide +kernel) (Nat.le_of_ble_eq_true rfl) ?_
  intro f C hRm hRt _
  show Vc f G NPh (upA M 206 Y) 0 [(0, .ref (gb G + 205))] []
  refine v_aload_n C 0 dX10_image_0 rfl ?_
  refine g_X10_9 C (by decide) sh_205 dX10_image_1 ?_
  refine v_aload_n C 0 dX10_image_4 rfl ?_
  refine g_X10_13 C (by decide) sh_205 dX10_image_5 ?_
  refine n_callSv C hRm [.ref (gb G + 206), .ref (gb G + 207)] cw_X10_copy st_X10_copy ml_X10_76 (r_copy_nk l G (upA M 206 Y)) (by decide) rfl rfl (Nat.le_of_ble_eq_true rfl) dX10_image_8 (fun M5 hP => ?_)
  subst hP
  refine v_mem (upA (upA M 207 Y) 206 Y) (by rw [upA_eq, upA_swap _ _ _ (by decide)]) ?_
  refine v_aload_n C 0 dX10_image_11 rfl ?_
  refine v_dup C dX10_image_12 rfl ?_
  refine g_X10_308 C (by decide) sh_205 dX10_image_13 ?_
  refine v_top ((upA M 207 Y) 205 3) (congrFun (upA_ne (upA M 207 Y) Y (by decide)) 3) ?_
  refine v_top (M 205 3) (congrFun (upA_ne M Y (by decide)) 3) ?_
  refine v_iconst C (nI 1) dX10_image_16 (by decide) ?_
  refine v_iadd C dX10_image_17 ?_
  refine p_X10_308 C (by decide) sh_205 dX10_image_18 ?_
  refine v_mem (upA (up2 (upA M 207 Y) 205 3 ((M 205 3) + (nI 1))) 206 Y) (up2_upA_ne _ _ _ _ (by decide)) ?_
  refine v_aload_n C 0 dX10_image_21 rfl ?_
  refine g_X10_308 C (by decide) sh_205 dX10_image_22 ?_
  refine v_top ((up2 (upA M 207 Y) 205 3 ((M 205 3) + (nI 1))) 205 3) (congrFun (upA_ne (up2 (upA M 207 Y) 205 3 ((M 205 3) + (nI 1))) Y (by decide)) 3) ?_
  exact n_iret C hRt rfl dX10_image_25 (up2_at _ _ _ _) rfl
set_option maxHeartbeats 4000000 in
set_option maxRecDepth 100000 in
theorem r_restore (l : Launch) (G : GC) (M : Mm) (Y : Nat → Int32) (n hN : Nat) (hY : YOk Y n hN)  : CI l G 2 yX10_restore cX10_restore 1 .int [.ref (gb G + 205)] (upA M 206 Y) ((restoreS Y (M 207) (M 205 3)).2.1) (PubR M (restoreS Y (M 207) (M 205 3)).2.2 (restoreS Y (M 207) (M 205 3)).1) := by
  refine Con.of (by decide +kernel) (Nat.le_of_ble_eq_true rfl) ?_
  intro f C hRm hRt _
  show Vc f G NPh (upA M 206 Y) 0 [(0, .ref (gb G + 205))] []
  have h10 := hY.1.2.1
  have h5N := hY.1.2.2.2
  refine v_aload_n C 0 dX10_restore_0 rfl ?_
  refine g_X10_308 C (by decide) sh_205 dX10_restore_1 ?_
  refine v_top (M 205 3) (congrFun (upA_ne M Y (by decide)) 3) ?_
  refine v_if_ne C 15 dX10_restore_4 rfl (fun h_4 => ?_) (fun h_4 => ?_)
  · skip
    refine v_aload_n C 0 dX10_restore_15 rfl ?_
    refine g_X10_13 C (by decide) sh_205 dX10_restore_16 ?_
    refine v_aload_n C 0 dX10_restore_19 rfl ?_
    refine g_X10_9 C (by decide) sh_205 dX10_restore_20 ?_
    refine n_callSv C hRm [.ref (gb G + 207), .ref (gb G + 206)] cw_X10_copy st_X10_copy ml_X10_76 (r_copy_kn l G (upA M 206 Y)) (by decide) rfl rfl (Nat.le_of_ble_eq_true rfl) dX10_restore_23 (fun M5 hP => ?_)
    subst hP
    refine v_mem (upA M 206 (M 207)) (by rw [upA_upA, upA_ne _ _ (by decide)]) ?_
    refine v_aload_n C 0 dX10_restore_26 rfl ?_
    refine g_X10_9 C (by decide) sh_205 dX10_restore_27 ?_
    refine v_iconst C (nI 2) dX10_restore_30 (by decide) ?_
    refine n_now_ld C (by decide) sh_206 (by omega) (by decide) dX10_restore_31 ?_
    have hS : restoreS Y (M 207) (M 205 3) = (0, (M 207) 2, M 207) := by unfold restoreS; (first | rw [if_pos h_4] | rw [if_neg h_4] | rw [if_pos (congrArg nI h_4)] | rw [if_neg (fun q9 => h_4 ((nI_eq (by omega) (by omega)).mp q9))] | rw [if_neg (Nat.not_le.mpr h_4)] | rw [if_neg (Nat.not_lt.mpr h_4)] | skip); all_goals rfl
    exact n_iret C hRt rfl dX10_restore_32 (by rw [hS] <;> rfl) (by rw [hS]; exact ⟨_, rfl, eqM.rf M⟩)
  · skip
    refine v_aload_n C 0 dX10_restore_7 rfl ?_
    refine v_ldcw C (-1000002) kc_X10_276 dX10_restore_8 ?_
    refine n_callVi C hRm [.int (-1000002)] cw_X10_finding ml_X10_81 (by decide) sh_205 (by decide) rfl (r_finding l G (upA M 206 Y) 2 (by decide) (-1000002) (by decide)) (by decide) rfl rfl (Nat.le_of_ble_eq_true rfl) dX10_restore_11 (fun M5 hP_11 => ?_)
    subst hP_11
    refine v_mem (upA (fndM M 2) 206 Y) (fnd_upA _ _ _) ?_
    have hS : restoreS Y (M 207) (M 205 3) = er 2 Y := by unfold restoreS; (first | rw [if_pos h_4] | rw [if_neg h_4] | rw [if_pos (congrArg nI h_4)] | rw [if_neg (fun q9 => h_4 ((nI_eq (by omega) (by omega)).mp q9))] | rw [if_neg (Nat.not_le.mpr h_4)] | rw [if_neg (Nat.not_lt.mpr h_4)] | skip); all_goals rfl
    exact n_iret C hRt rfl dX10_restore_14 (by rw [hS] <;> rfl) (by rw [hS]; exact ⟨_, rfl, (eqM.rf M).tr (eqM.fnd _ (show (2 : Nat) ≠ 0 by decide))⟩)
set_option maxHeartbeats 4000000 in
set_option maxRecDepth 100000 in
theorem r_feed (l : Launch) (G : GC) (M : Mm) (Y : Nat → Int32) (n hN : Nat) (hY : YOk Y n hN) (t : Nat) (ht : Y 4 = nI t) (ht2 : t ≤ 60) (x : Int64) (k : Int32) : CI l G 3 yX10_feed cX10_feed 5 .int [.ref (gb G + 205), .long x, .int k] (upA M 206 Y) ((feedS Y t x k).2.1) (PubR M (feedS Y t x k).2.2 (feedS Y t x k).1) := by
  refine Con.of (by decide +kernel) (Nat.le_of_ble_eq_true rfl) ?_
  intro f C hRm hRt _
  show Vc f G NPh (upA M 206 Y) 0 [(0, .ref (gb G + 205)), (1, .long x), (3, .int k)] []
  refine v_iload_n C 2 dX10_feed_0 rfl ?_
  refine v_iconst C (nI 1) dX10_feed_1 (by decide) ?_
  refine v_bipush C (nI 8) dX10_feed_2 (by decide) ?_
  refine n_callSp C hRm [.int k, .int (nI 1), .int (nI 8)] cw_X10_within st_X10_within ml_X10_72 (r_within l G (upA M 206 Y) k (nI 1) (nI 8)) (by decide) rfl rfl (Nat.le_of_ble_eq_true rfl) dX10_feed_4 ?_
  refine nb_if_ne C 17 dX10_feed_7 rfl (fun h_7 => ?_) (fun h_7 => ?_)
  · skip
    obtain ⟨j, hj, rfl⟩ := within_nat2 (by decide) (by decide) h_7
    refine v_aload_n C 0 dX10_feed_17 rfl ?_
    refine g_X10_9 C (by decide) sh_205 dX10_feed_18 ?_
    refine v_iconst C (nI 4) dX10_feed_21 (by decide) ?_
    refine n_now_ld C (by decide) sh_206 (by omega) (by decide) dX10_feed_22 ?_
    refine v_top (nI t) ht ?_
    refine v_iload_n C 2 dX10_feed_23 rfl ?_
    refine n_iadd C dX10_feed_24 ?_
    refine v_bipush C (nI 60) dX10_feed_25 (by decide) ?_
    refine n_icmp_le C (by omega) (by omega) 37 dX10_feed_27 rfl (fun h_27 => ?_) (fun h_27 => ?_)
    · skip
      refine v_iconst C (nI 0) dX10_feed_37 (by decide) ?_
      refine v_istore C [(4, .int (nI 0)), (0, .ref (gb G + 205)), (1, .long x), (3, .int (nI j))] dX10_feed_38 (by decide) rfl ?_
      have LF : ∀ (kk : Nat) (i : Nat) (Z : Nat → Int32), j - i = kk → i ≤ j → Z = fdA Y t x i → Z 4 = nI (t + i) → Vc f G NPh (upA M 206 Z) 40 [(4, .int (nI i)), (0, .ref (gb G + 205)), (1, .long x), (3, .int (nI j))] [] := by
        intro kk
        induction kk using Nat.strongRecOn with
        | _ kk ihLF =>
          intro i Z hkk hi hZ hZ4
          refine v_iload C 0 dX10_feed_40 rfl ?_
          refine v_iload_n C 3 dX10_feed_42 rfl ?_
          refine n_icmp_ge C (by omega) (by omega) 89 dX10_feed_43 rfl (fun h_43 => ?_) (fun h_43 => ?_)
          · skip
            refine v_aload_n C 1 dX10_feed_89 rfl ?_
            refine g_X10_9 C (by decide) sh_205 dX10_feed_90 ?_
            refine v_iconst C (nI 4) dX10_feed_93 (by decide) ?_
            refine n_now_ld C (by decide) sh_206 (by omega) (by decide) dX10_feed_94 ?_
            refine v_top (nI (t + i)) hZ4 ?_
            have hS : feedS Y t x (nI j) = (0, nI (t + j), fdA Y t x j) := by unfold feedS; rw [if_pos h_7, nI_clamp (by omega), if_pos h_27]
            exact n_iret C hRt rfl dX10_feed_95 (by rw [hS, show i = j by omega]) (by rw [hS]; exact ⟨_, by rw [hZ, show i = j by omega], eqM.rf M⟩)
          · skip
            refine v_aload_n C 1 dX10_feed_46 rfl ?_
            refine g_X10_9 C (by decide) sh_205 dX10_feed_47 ?_
            refine v_sipush C (nI 237) dX10_feed_50 (by decide) ?_
            refine v_aload_n C 1 dX10_feed_53 rfl ?_
            refine g_X10_9 C (by decide) sh_205 dX10_feed_54 ?_
            refine v_iconst C (nI 4) dX10_feed_57 (by decide) ?_
            refine n_now_ld C (by decide) sh_206 (by omega) (by decide) dX10_feed_58 ?_
            refine v_top (nI (t + i)) hZ4 ?_
            refine n_iadd C dX10_feed_59 ?_
            refine v_lload_n C 2 dX10_feed_60 rfl ?_
            refine v_bipush C (nI 8) dX10_feed_61 (by decide) ?_
            refine v_iload C 0 dX10_feed_63 rfl ?_
            refine n_imul C dX10_feed_65 ?_
            refine v_lshr C dX10_feed_66 ?_
            refine v_ldc2 C (255) kc_X10_168 dX10_feed_67 ?_
            refine v_land C dX10_feed_70 ?_
            refine v_l2i C dX10_feed_71 ?_
            refine n_now_st C (by decide) sh_206 (by omega) (by decide) dX10_feed_72 ?_
            refine v_aload_n C 1 dX10_feed_73 rfl ?_
            refine g_X10_9 C (by decide) sh_205 dX10_feed_74 ?_
            refine v_iconst C (nI 4) dX10_feed_77 (by decide) ?_
            refine v_dup2 C dX10_feed_78 rfl rfl ?_
            refine n_now_ld C (by decide) sh_206 (by omega) (by decide) dX10_feed_79 ?_
            refine v_top (nI (t + i)) ((upd_ne _ _ (by omega)).trans hZ4) ?_
            refine v_iconst C (nI 1) dX10_feed_80 (by decide) ?_
            refine n_iadd C dX10_feed_81 ?_
            refine n_now_st C (by decide) sh_206 (by omega) (by decide) dX10_feed_82 ?_
            refine v_iinc C (nI (i + 1)) 0 [(4, .int (nI (i + 1))), (0, .ref (gb G + 205)), (1, .long x), (3, .int (nI j))] dX10_feed_83 rfl (nI_add _ _) (by decide) rfl ?_
            refine v_goto C 40 dX10_feed_86 rfl ?_
            refine v_sub [0, 1, 2, 3] [(4, .int (nI (i + 1))), (0, .ref (gb G + 205)), (1, .long x), (3, .int (nI j))] rfl ?_
            exact ihLF _ (by omega) (i + 1) (upd (upd Z (237 + (t + i)) (Int64.toInt32 ((x >>> (Int32.toInt64 (nI (8 * i)) &&& 63)) &&& (255)))) 4 (nI ((t + i) + 1)))  rfl (by omega) (by rw [hZ]; rfl) (by exact upd_eq _ _ _)
      refine v_sub [0, 1, 2, 3] [(4, .int (nI 0)), (0, .ref (gb G + 205)), (1, .long x), (3, .int (nI j))] rfl ?_
      exact LF _ 0 Y  rfl (by omega) (by rfl) (by exact ht)
    · skip
      refine v_aload_n C 0 dX10_feed_30 rfl ?_
      refine v_ldc C (-1000004) kc_X10_85 dX10_feed_31 ?_
      refine n_callVi C hRm [.int (-1000004)] cw_X10_finding ml_X10_81 (by decide) sh_205 (by decide) rfl (r_finding l G (upA M 206 Y) 4 (by decide) (-1000004) (by decide)) (by decide) rfl rfl (Nat.le_of_ble_eq_true rfl) dX10_feed_33 (fun M5 hP_33 => ?_)
      subst hP_33
      refine v_mem (upA (fndM M 4) 206 Y) (fnd_upA _ _ _) ?_
      have hS : feedS Y t x (nI j) = er 4 Y := by unfold feedS; (try rw [nI_clamp (by omega)]); (try rw [nI_clamp (by omega)]); (first | rw [if_pos h_7] | rw [if_neg h_7] | rw [if_pos (congrArg nI h_7)] | rw [if_neg (fun q9 => h_7 ((nI_eq (by omega) (by omega)).mp q9))] | rw [if_neg (Nat.not_le.mpr h_7)] | rw [if_neg (Nat.not_lt.mpr h_7)] | skip); (first | rw [if_pos h_27] | rw [if_neg h_27] | rw [if_pos (congrArg nI h_27)] | rw [if_neg (fun q9 => h_27 ((nI_eq (by omega) (by omega)).mp q9))] | rw [if_neg (Nat.not_le.mpr h_27)] | rw [if_neg (Nat.not_lt.mpr h_27)] | skip); all_goals rfl
      exact n_iret C hRt rfl dX10_feed_36 (by rw [hS] <;> rfl) (by rw [hS]; exact ⟨_, rfl, (eqM.rf M).tr (eqM.fnd _ (show (4 : Nat) ≠ 0 by decide))⟩)
  · skip
    refine v_aload_n C 0 dX10_feed_10 rfl ?_
    refine v_ldc C (-1000001) kc_X10_80 dX10_feed_11 ?_
    refine n_callVi C hRm [.int (-1000001)] cw_X10_finding ml_X10_81 (by decide) sh_205 (by decide) rfl (r_finding l G (upA M 206 Y) 1 (by decide) (-1000001) (by decide)) (by decide) rfl rfl (Nat.le_of_ble_eq_true rfl) dX10_feed_13 (fun M5 hP_13 => ?_)
    subst hP_13
    refine v_mem (upA (fndM M 1) 206 Y) (fnd_upA _ _ _) ?_
    have hS : feedS Y t x k = er 1 Y := by unfold feedS; (try rw [nI_clamp (by omega)]); (try rw [nI_clamp (by omega)]); (first | rw [if_pos h_7] | rw [if_neg h_7] | rw [if_pos (congrArg nI h_7)] | rw [if_neg (fun q9 => h_7 ((nI_eq (by omega) (by omega)).mp q9))] | rw [if_neg (Nat.not_le.mpr h_7)] | rw [if_neg (Nat.not_lt.mpr h_7)] | skip); all_goals rfl
    exact n_iret C hRt rfl dX10_feed_16 (by rw [hS] <;> rfl) (by rw [hS]; exact ⟨_, rfl, (eqM.rf M).tr (eqM.fnd _ (show (1 : Nat) ≠ 0 by decide))⟩)
