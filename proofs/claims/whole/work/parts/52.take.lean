theorem ccp_ne {M : Mm} {k j a : Nat} (h0 : a ≠ k) (h1 : a ≠ k + 1) (h2 : a ≠ k + 2) : ccpM M k j a = M a := by
  unfold ccpM
  rw [upA_ne _ _ h2, upA_ne _ _ h1, up2_ne _ _ _ h0, up2_ne _ _ _ h0, up2_ne _ _ _ h0, up2_ne _ _ _ h0, up2_ne _ _ _ h0, up2_ne _ _ _ h0]
theorem ccp_0 (M : Mm) (k j : Nat) {i : Nat} (hi : i < 6) : ccpM M k j k i = M j i := by
  unfold ccpM
  rw [upA_ne _ _ (by omega), upA_ne _ _ (by omega)]
  rcases (show i = 0 ∨ i = 1 ∨ i = 2 ∨ i = 3 ∨ i = 4 ∨ i = 5 by omega) with h | h | h | h | h | h <;> subst h <;> simp only [up2_ap] <;> simp
theorem ccp_1 (M : Mm) (k j : Nat) {o : Nat} (ho : o < 10) : ccpM M k j (k + 1) o = M (j + 1) o := by
  unfold ccpM
  rw [upA_ne _ _ (by omega), upA_eq]
  unfold va_cpy
  rw [if_pos (by omega), show 0 + (o - 0) = o by omega]
theorem ccp_2 (M : Mm) (k j : Nat) {o : Nat} (ho : o < 5) : ccpM M k j (k + 2) o = M (j + 2) o := by
  unfold ccpM
  rw [upA_eq]
  unfold va_cpy
  rw [if_pos (by omega), show 0 + (o - 0) = o by omega]
theorem hcp_ne {M : Mm} {k j a : Nat} (h0 : a ≠ k) : hcpM M k j a = M a := by
  unfold hcpM
  rw [up2_ne _ _ _ h0, up2_ne _ _ _ h0, up2_ne _ _ _ h0, up2_ne _ _ _ h0, up2_ne _ _ _ h0]
theorem hcp_0 (M : Mm) (k j : Nat) {i : Nat} (hi : i < 5) : hcpM M k j k i = M j i := by
  unfold hcpM
  rcases (show i = 0 ∨ i = 1 ∨ i = 2 ∨ i = 3 ∨ i = 4 by omega) with h | h | h | h | h <;> subst h <;> simp only [up2_ap] <;> simp
theorem tcp_ne {M : Mm} {k j s a : Nat} (h0 : a ≠ k) (h1 : a ≠ k + 1) : tcpM M k j s a = M a := by
  unfold tcpM; rw [upA_ne _ _ h1, up2_ne _ _ _ h0]
theorem tcp_0 (M : Mm) (k j s : Nat) : tcpM M k j s k 2 = nI s := by
  unfold tcpM; rw [upA_ne _ _ (by omega), up2_at]
theorem tcp_1 (M : Mm) (k j s : Nat) {o : Nat} (ho : o < s) : tcpM M k j s (k + 1) o = M (j + 1) o := by
  unfold tcpM
  rw [upA_eq]
  unfold va_cpy
  rw [if_pos (by omega), show 0 + (o - 0) = o by omega]
theorem rcp_ne {M : Mm} {k j s a : Nat} (h0 : a ≠ k) (h1 : a ≠ k + 1) : rcpM M k j s a = M a := by
  unfold rcpM; rw [upA_ne _ _ h1, up2_ne _ _ _ h0]
theorem rcp_0 (M : Mm) (k j s : Nat) : rcpM M k j s k 1 = nI s := by
  unfold rcpM; rw [upA_ne _ _ (by omega), up2_at]
theorem rcp_1 (M : Mm) (k j s : Nat) {o : Nat} (ho : o < s) : rcpM M k j s (k + 1) o = M (j + 1) o := by
  unfold rcpM
  rw [upA_eq]
  unfold va_cpy
  rw [if_pos (by omega), show 0 + (o - 0) = o by omega]
def cpC (M X : Mm) (y z c : Nat) : Prop := (∀ j, j < 6 → X (y + 20 + 3 * c) j = M (z + 20 + 3 * c) j) ∧ (∀ o, o < 10 → X (y + 20 + 3 * c + 1) o = M (z + 20 + 3 * c + 1) o) ∧ ∀ o, o < 5 → X (y + 20 + 3 * c + 2) o = M (z + 20 + 3 * c + 2) o
def cpH (M X : Mm) (y z h : Nat) : Prop := ∀ j, j < 5 → X (y + 50 + h) j = M (z + 50 + h) j
def cpT (M X : Mm) (y z u : Nat) (Z : Nat → Int32) : Prop := X (y + 55 + 3 * u) 2 = M (z + 55 + 3 * u) 2 ∧ ∀ k, k < cN Z (321 + 62 * u) → X (y + 55 + 3 * u + 1) k = M (z + 55 + 3 * u + 1) k
theorem cpC.to {M X X' : Mm} {y z c : Nat} (h : cpC M X y z c) (hx : ∀ a, y + 20 + 3 * c ≤ a → a ≤ y + 20 + 3 * c + 2 → X' a = X a) : cpC M X' y z c :=
  ⟨fun j hj => (congrFun (hx _ (by omega) (by omega)) j).trans (h.1 j hj), fun j hj => (congrFun (hx _ (by omega) (by omega)) j).trans (h.2.1 j hj), fun j hj => (congrFun (hx _ (by omega) (by omega)) j).trans (h.2.2 j hj)⟩
theorem cpH.to {M X X' : Mm} {y z c : Nat} (h : cpH M X y z c) (hx : X' (y + 50 + c) = X (y + 50 + c)) : cpH M X' y z c := fun j hj => (congrFun hx j).trans (h j hj)
theorem cpT.to {M X X' : Mm} {y z u : Nat} {Z : Nat → Int32} (h : cpT M X y z u Z) (hx : ∀ a, y + 55 + 3 * u ≤ a → a ≤ y + 55 + 3 * u + 1 → X' a = X a) : cpT M X' y z u Z :=
  ⟨(congrFun (hx _ (by omega) (by omega)) _).trans h.1, fun k hk => (congrFun (hx _ (by omega) (by omega)) k).trans (h.2 k hk)⟩
theorem YR.copy {M F : Mm} {y z n hN : Nat} {Z : Nat → Int32} (hR : YR M z Z n hN) (hC : ∀ c, c < 10 → cpC M F y z c) (hH : ∀ h, h < 5 → cpH M F y z h) (hT : ∀ u, u < 2 → cpT M F y z u Z)
    (h4 : F (y + 4) 1 = Z 4) (h5 : ∀ k, k < cN Z 4 → F (y + 4 + 1) k = M (z + 4 + 1) k) (h6 : F (y + 6) 1 = Z 5) (h7 : ∀ k, k < cN Z 5 → F (y + 6 + 1) k = M (z + 6 + 1) k)
    (hy : F y 5 = nI n ∧ F y 6 = nI hN ∧ F y 7 = Z 2 ∧ F y 8 = Z 3 ∧ F y 9 = Z 6) : YR F y Z n hN := by
  obtain ⟨⟨a1, a2, a3, a4, a5, a6, a7⟩, hb, hcc, hd, he, hf, hgg, ⟨hh1, hh2⟩, hi⟩ := hR
  refine ⟨⟨hy.1, hy.2.1, hy.2.2.1, hy.2.2.2.1, hy.2.2.2.2, h4, h6⟩, fun d q f q2 q3 => ?_, fun d q => ?_, fun d q o q2 => ?_, fun d q o q2 => ?_, fun k q => ⟨?_, ?_, ?_, ?_⟩, fun k q => ?_, ⟨fun k q => ?_, fun k q => ?_⟩, fun u q => ⟨?_, fun k q2 => ?_⟩⟩
  · rw [(hC d q).1 f q2]; exact hb d q f q2 q3
  · rw [(hC d q).1 4 (by decide)]; exact hcc d q
  · rw [(hC d q).2.1 o q2]; exact hd d q o q2
  · rw [(hC d q).2.2 o q2]; exact he d q o q2
  · rw [hH k q 0 (by decide)]; exact (hf k q).1
  · rw [hH k q 1 (by decide)]; exact (hf k q).2.1
  · rw [hH k q 4 (by decide)]; exact (hf k q).2.2.1
  · rw [hH k q 2 (by decide)]; exact (hf k q).2.2.2
  · rw [hH k q 3 (by decide)]; exact hgg k q
  · rw [h5 k q]; exact hh1 k q
  · rw [h7 k q]; exact hh2 k q
  · rw [(hT u q).1]; exact (hi u q).1
  · rw [(hT u q).2 k q2]; exact (hi u q).2 k q2
set_option maxHeartbeats 4000000 in
set_option maxRecDepth 100000 in
theorem y_take (l : Launch) (G : GC) (M : Mm) (y z : Nat) (hy : yd y) (hz : yd z) (hyz : y ≠ z) (Z : Nat → Int32) (n hN : Nat) (hR : YR M z Z n hN) (hY : YOk Z n hN) : CV l G 3 yX8_takeFrom cX8_takeFrom 3 [.ref (gb G + y), .ref (gb G + z)] M (YP M y Z n hN) := by
  refine Con.of (by decide +kernel) (Nat.le_of_ble_eq_true rfl) ?_
  intro f C hRm hRt _
  have hyl : y + 60 < 221 := yd_lt hy (by decide)
  have hzl : z + 60 < 221 := yd_lt hz (by decide)
  have hd : y + 61 ≤ z ∨ z + 61 ≤ y := by rcases hy with h | h | h <;> rcases hz with q | q | q <;> subst h <;> subst q <;> first | exact absurd rfl hyz | omega
  obtain ⟨t, ht, ht2⟩ := hY.2.2.2.2.1
  obtain ⟨v, hv, hv2⟩ := hY.2.2.2.2.2
  have LT : ∀ (kk : Nat) (u : Nat) (X : Mm), 2 - u = kk → u ≤ 2 → ((∀ c, c < 10 → cpC M X y z c)) → ((∀ h, h < 5 → cpH M X y z h)) → ((∀ u9, u9 < u → cpT M X y z u9 Z)) → YR X z Z n hN → Fr y M X → Vc f G NPh X 59 [(2, .int (nI u)), (0, .ref (gb G + y)), (1, .ref (gb G + z))] [] := by
    intro kk
    induction kk using Nat.strongRecOn with
    | _ kk ihLT =>
      intro u X hkk hu hC hH hT hRX hFX
      refine v_iload_n C 0 dX8_takeFrom_59 rfl ?_
      refine v_iconst C (nI 2) dX8_takeFrom_60 (by decide) ?_
      refine n_icmp_ge C (by omega) (by omega) 85 dX8_takeFrom_61 rfl (fun h_61 => ?_) (fun h_61 => ?_)
      · skip
        have h9u : u = 2 := by omega
        subst h9u
        refine v_aload_n C 1 dX8_takeFrom_85 rfl ?_
        refine g_X8_34 C (show y < 221 from by omega) (s_y hy) dX8_takeFrom_86 ?_
        refine v_aload_n C 2 dX8_takeFrom_89 rfl ?_
        refine g_X8_34 C (show z < 221 from by omega) (s_y hz) dX8_takeFrom_90 ?_
        refine n_callVv C hRm [.ref (gb G + (z + 4))] cw_X4_takeFrom ml_X8_67 (show y + 4 < 221 from by omega) (s_y4 hy) (by decide) rfl (w_take l G X (y + 4) (z + 4) 60 (by omega) (s_y4 hy) (s_y41 hy) (by decide) (by omega) (s_y4 hz) (s_y41 hz) (by omega) t (hRX.1.2.2.2.2.2.1.trans ht2) (by omega)) (by decide) rfl rfl (Nat.le_of_ble_eq_true rfl) dX8_takeFrom_93 (fun M1 hP_93 => ?_)
        subst hP_93
        have hFq1 : Fr y M (rcpM X (y + 4) (z + 4) t) := hFX.tr (fun a ha => rcp_ne (by omega) (by omega))
        have hRq1 : YR (rcpM X (y + 4) (z + 4) t) z Z n hN := hR.fr (fun a h1 h2 => hFq1 a (by omega))
        refine v_aload_n C 1 dX8_takeFrom_96 rfl ?_
        refine g_X8_38 C (show y < 221 from by omega) (s_y hy) dX8_takeFrom_97 ?_
        refine v_aload_n C 2 dX8_takeFrom_100 rfl ?_
        refine g_X8_38 C (show z < 221 from by omega) (s_y hz) dX8_takeFrom_101 ?_
        refine n_callVv C hRm [.ref (gb G + (z + 6))] cw_X4_takeFrom ml_X8_67 (show y + 6 < 221 from by omega) (s_y6 hy) (by decide) rfl (w_take l G (rcpM X (y + 4) (z + 4) t) (y + 6) (z + 6) 24 (by omega) (s_y6 hy) (s_y61 hy) (by decide) (by omega) (s_y6 hz) (s_y61 hz) (by omega) v (hRq1.1.2.2.2.2.2.2.trans hv2) (by omega)) (by decide) rfl rfl (Nat.le_of_ble_eq_true rfl) dX8_takeFrom_104 (fun M1 hP_104 => ?_)
        subst hP_104
        have hFq2 : Fr y M (rcpM (rcpM X (y + 4) (z + 4) t) (y + 6) (z + 6) v) := hFq1.tr (fun a ha => rcp_ne (by omega) (by omega))
        have hRq2 : YR (rcpM (rcpM X (y + 4) (z + 4) t) (y + 6) (z + 6) v) z Z n hN := hR.fr (fun a h1 h2 => hFq2 a (by omega))
        refine v_aload_n C 1 dX8_takeFrom_107 rfl ?_
        refine v_aload_n C 2 dX8_takeFrom_108 rfl ?_
        refine g_X8_70 C (show z < 221 from by omega) (s_y hz) dX8_takeFrom_109 ?_
        refine v_top (nI n) (hRq2.n) ?_
        refine p_X8_70 C (show y < 221 from by omega) (s_y hy) dX8_takeFrom_112 ?_
        have hFq3 : Fr y M (up2 (rcpM (rcpM X (y + 4) (z + 4) t) (y + 6) (z + 6) v) y 5 (nI n)) := hFq2.tr (fun a ha => up2_ne _ _ _ (by omega))
        have hRq3 : YR (up2 (rcpM (rcpM X (y + 4) (z + 4) t) (y + 6) (z + 6) v) y 5 (nI n)) z Z n hN := hR.fr (fun a h1 h2 => hFq3 a (by omega))
        refine v_aload_n C 1 dX8_takeFrom_115 rfl ?_
        refine v_aload_n C 2 dX8_takeFrom_116 rfl ?_
        refine g_X8_73 C (show z < 221 from by omega) (s_y hz) dX8_takeFrom_117 ?_
        refine v_top (nI hN) (hRq3.hN) ?_
        refine p_X8_73 C (show y < 221 from by omega) (s_y hy) dX8_takeFrom_120 ?_
        have hFq4 : Fr y M (up2 (up2 (rcpM (rcpM X (y + 4) (z + 4) t) (y + 6) (z + 6) v) y 5 (nI n)) y 6 (nI hN)) := hFq3.tr (fun a ha => up2_ne _ _ _ (by omega))
        have hRq4 : YR (up2 (up2 (rcpM (rcpM X (y + 4) (z + 4) t) (y + 6) (z + 6) v) y 5 (nI n)) y 6 (nI hN)) z Z n hN := hR.fr (fun a h1 h2 => hFq4 a (by omega))
        refine v_aload_n C 1 dX8_takeFrom_123 rfl ?_
        refine v_aload_n C 2 dX8_takeFrom_124 rfl ?_
        refine g_X8_76 C (show z < 221 from by omega) (s_y hz) dX8_takeFrom_125 ?_
        refine v_top (Z 2) (hRq4.1.2.2.1) ?_
        refine p_X8_76 C (show y < 221 from by omega) (s_y hy) dX8_takeFrom_128 ?_
        have hFq5 : Fr y M (up2 (up2 (up2 (rcpM (rcpM X (y + 4) (z + 4) t) (y + 6) (z + 6) v) y 5 (nI n)) y 6 (nI hN)) y 7 (Z 2)) := hFq4.tr (fun a ha => up2_ne _ _ _ (by omega))
        have hRq5 : YR (up2 (up2 (up2 (rcpM (rcpM X (y + 4) (z + 4) t) (y + 6) (z + 6) v) y 5 (nI n)) y 6 (nI hN)) y 7 (Z 2)) z Z n hN := hR.fr (fun a h1 h2 => hFq5 a (by omega))
        refine v_aload_n C 1 dX8_takeFrom_131 rfl ?_
        refine v_aload_n C 2 dX8_takeFrom_132 rfl ?_
        refine g_X8_79 C (show z < 221 from by omega) (s_y hz) dX8_takeFrom_133 ?_
        refine v_top (Z 3) (hRq5.1.2.2.2.1) ?_
        refine p_X8_79 C (show y < 221 from by omega) (s_y hy) dX8_takeFrom_136 ?_
        have hFq6 : Fr y M (up2 (up2 (up2 (up2 (rcpM (rcpM X (y + 4) (z + 4) t) (y + 6) (z + 6) v) y 5 (nI n)) y 6 (nI hN)) y 7 (Z 2)) y 8 (Z 3)) := hFq5.tr (fun a ha => up2_ne _ _ _ (by omega))
        have hRq6 : YR (up2 (up2 (up2 (up2 (rcpM (rcpM X (y + 4) (z + 4) t) (y + 6) (z + 6) v) y 5 (nI n)) y 6 (nI hN)) y 7 (Z 2)) y 8 (Z 3)) z Z n hN := hR.fr (fun a h1 h2 => hFq6 a (by omega))
        refine v_aload_n C 1 dX8_takeFrom_139 rfl ?_
        refine v_aload_n C 2 dX8_takeFrom_140 rfl ?_
        refine g_X8_41 C (show z < 221 from by omega) (s_y hz) dX8_takeFrom_141 ?_
        refine v_top (Z 6) (hRq6.1.2.2.2.2.1) ?_
        refine p_X8_41 C (show y < 221 from by omega) (s_y hy) dX8_takeFrom_144 ?_
        have hFq7 : Fr y M (up2 (up2 (up2 (up2 (up2 (rcpM (rcpM X (y + 4) (z + 4) t) (y + 6) (z + 6) v) y 5 (nI n)) y 6 (nI hN)) y 7 (Z 2)) y 8 (Z 3)) y 9 (Z 6)) := hFq6.tr (fun a ha => up2_ne _ _ _ (by omega))
        have hRq7 : YR (up2 (up2 (up2 (up2 (up2 (rcpM (rcpM X (y + 4) (z + 4) t) (y + 6) (z + 6) v) y 5 (nI n)) y 6 (nI hN)) y 7 (Z 2)) y 8 (Z 3)) y 9 (Z 6)) z Z n hN := hR.fr (fun a h1 h2 => hFq7 a (by omega))
        have hN5 : ∀ a, a ≠ y → (up2 (up2 (up2 (up2 (up2 (rcpM (rcpM X (y + 4) (z + 4) t) (y + 6) (z + 6) v) y 5 (nI n)) y 6 (nI hN)) y 7 (Z 2)) y 8 (Z 3)) y 9 (Z 6)) a = (rcpM (rcpM X (y + 4) (z + 4) t) (y + 6) (z + 6) v) a := fun a (ha : a ≠ y) => (up2_ne _ _ _ ha).trans ((up2_ne _ _ _ ha).trans ((up2_ne _ _ _ ha).trans ((up2_ne _ _ _ ha).trans (up2_ne _ _ _ ha))))
        have hN6 : ∀ a, a ≠ y → a ≠ y + 4 → a ≠ y + 4 + 1 → a ≠ y + 6 → a ≠ y + 6 + 1 → (up2 (up2 (up2 (up2 (up2 (rcpM (rcpM X (y + 4) (z + 4) t) (y + 6) (z + 6) v) y 5 (nI n)) y 6 (nI hN)) y 7 (Z 2)) y 8 (Z 3)) y 9 (Z 6)) a = X a := fun a h0 h1 h2 h3 h4 => (hN5 a h0).trans ((rcp_ne h3 h4).trans (rcp_ne h1 h2))
        refine n_ret C hRt dX8_takeFrom_147 ⟨YR.copy hR (fun c hc => (hC c hc).to (fun a h1 h2 => hN6 a (by omega) (by omega) (by omega) (by omega) (by omega))) (fun h hh => (hH h hh).to (hN6 _ (by omega) (by omega) (by omega) (by omega) (by omega))) (fun q hq => (hT q (by omega)).to (fun a h1 h2 => hN6 a (by omega) (by omega) (by omega) (by omega) (by omega))) ?_ (fun k hk => ?_) ?_ (fun k hk => ?_) ⟨?_, ?_, ?_, ?_, ?_⟩, hFq7⟩
        · rw [hN5 _ (by omega), rcp_ne (by omega) (by omega), rcp_0, ht2]
        · rw [hN5 _ (by omega), rcp_ne (by omega) (by omega), rcp_1 _ _ _ _ (by rw [cN_of ht2 (by omega)] at hk; exact hk)]; exact congrFun (hFX _ (by omega)) k
        · rw [hN5 _ (by omega), rcp_0, hv2]
        · rw [hN5 _ (by omega), rcp_1 _ _ _ _ (by rw [cN_of hv2 (by omega)] at hk; exact hk), rcp_ne (by omega) (by omega)]; exact congrFun (hFX _ (by omega)) k
        · simp only [up2_ap]; simp
        · simp only [up2_ap]; simp
        · simp only [up2_ap]; simp
        · simp only [up2_ap]; simp
        · simp only [up2_ap]; simp
      · skip
        obtain ⟨len, hok⟩ := hY.2.2.2.1 u (by omega)
        have hlen : cN Z (321 + 62 * u) = len := cN_of hok.2.1 (by have := hok.1; omega)
        refine v_aload_n C 1 dX8_takeFrom_64 rfl ?_
        refine g_X8_25 C (show y < 221 from by omega) (s_y hy) dX8_takeFrom_65 ?_
        refine v_iload_n C 0 dX8_takeFrom_68 rfl ?_
        refine v_aald C rfl (show y + 3 < 221 from by omega) (s_y3 hy) (by decide) (by decide) (show u < 2 from by omega) (by decide) (y + 55 + 3 * u) (by simp only [aOff] <;> omega) dX8_takeFrom_69 ?_
        refine v_aload_n C 2 dX8_takeFrom_70 rfl ?_
        refine g_X8_25 C (show z < 221 from by omega) (s_y hz) dX8_takeFrom_71 ?_
        refine v_iload_n C 0 dX8_takeFrom_74 rfl ?_
        refine v_aald C rfl (show z + 3 < 221 from by omega) (s_y3 hz) (by decide) (by decide) (show u < 2 from by omega) (by decide) (z + 55 + 3 * u) (by simp only [aOff] <;> omega) dX8_takeFrom_75 ?_
        refine n_callVv C hRm [.ref (gb G + (z + 55 + 3 * u))] cw_X7_takeFrom ml_X8_64 (show y + 55 + 3 * u < 221 from by omega) (s_tx hy (by omega)) (by decide) rfl (t_take l G X (y + 55 + 3 * u) (by omega) (s_tx hy (by omega)) (s_ts hy (by omega)) (z + 55 + 3 * u) (by omega) (s_tx hz (by omega)) (s_ts hz (by omega)) (by omega) len ((hRX.tx u (by omega)).1.trans hok.2.1) hok.1) (by decide) rfl rfl (Nat.le_of_ble_eq_true rfl) dX8_takeFrom_76 (fun M1 hP_76 => ?_)
        subst hP_76
        have hFq8 : Fr y M (tcpM X (y + 55 + 3 * u) (z + 55 + 3 * u) len) := hFX.tr (fun a ha => tcp_ne (by omega) (by omega))
        have hRq8 : YR (tcpM X (y + 55 + 3 * u) (z + 55 + 3 * u) len) z Z n hN := hR.fr (fun a h1 h2 => hFq8 a (by omega))
        refine v_iinc C (nI (u + 1)) 0 [(2, .int (nI (u + 1))), (0, .ref (gb G + y)), (1, .ref (gb G + z))] dX8_takeFrom_79 rfl (nI_add _ _) (by decide) rfl ?_
        refine v_goto C 59 dX8_takeFrom_82 rfl ?_
        refine v_sub [0, 1, 2] [(2, .int (nI (u + 1))), (0, .ref (gb G + y)), (1, .ref (gb G + z))] rfl ?_
        exact ihLT _ (by omega) (u + 1) (tcpM X (y + 55 + 3 * u) (z + 55 + 3 * u) len) rfl (by omega) (fun c hc => (hC c hc).to (fun a h1 h2 => tcp_ne (by omega) (by omega))) (fun h hh => (hH h hh).to (tcp_ne (by omega) (by omega))) (fun u2 hu2 => by
            by_cases e : u2 = u
            · subst e
              exact ⟨(tcp_0 _ _ _ _).trans (((hR.tx u2 (by omega)).1.trans hok.2.1).symm), fun k hk => (tcp_1 _ _ _ _ (by rw [hlen] at hk; exact hk)).trans (congrFun (hFX _ (by omega)) k)⟩
            · exact (hT u2 (by omega)).to (fun a h1 h2 => tcp_ne (by omega) (by omega))) hRq8 hFq8
  have LH : ∀ (kk : Nat) (i : Nat) (X : Mm), 5 - i = kk → i ≤ 5 → ((∀ c, c < 10 → cpC M X y z c)) → ((∀ h, h < i → cpH M X y z h)) → YR X z Z n hN → Fr y M X → Vc f G NPh X 31 [(2, .int (nI i)), (0, .ref (gb G + y)), (1, .ref (gb G + z))] [] := by
    intro kk
    induction kk using Nat.strongRecOn with
    | _ kk ihLH =>
      intro i X hkk hi hC hH hRX hFX
      refine v_iload_n C 0 dX8_takeFrom_31 rfl ?_
      refine v_iconst C (nI 5) dX8_takeFrom_32 (by decide) ?_
      refine n_icmp_ge C (by omega) (by omega) 57 dX8_takeFrom_33 rfl (fun h_33 => ?_) (fun h_33 => ?_)
      · skip
        refine v_iconst C (nI 0) dX8_takeFrom_57 (by decide) ?_
        refine v_istore_n C [(2, .int (nI 0)), (0, .ref (gb G + y)), (1, .ref (gb G + z))] dX8_takeFrom_58 rfl (by decide) rfl ?_
        refine v_sub [0, 1, 2] [(2, .int (nI 0)), (0, .ref (gb G + y)), (1, .ref (gb G + z))] rfl ?_
        exact LT _ 0 X rfl (by omega) (by (have h9 : i = 5 := by omega); exact hC) (by (have h9 : i = 5 := by omega); subst h9; exact hH) (fun u hu => absurd hu (Nat.not_lt_zero u)) hRX hFX
      · skip
        refine v_aload_n C 1 dX8_takeFrom_36 rfl ?_
        refine g_X8_19 C (show y < 221 from by omega) (s_y hy) dX8_takeFrom_37 ?_
        refine v_iload_n C 0 dX8_takeFrom_40 rfl ?_
        refine v_aald C rfl (show y + 2 < 221 from by omega) (s_y2 hy) (by decide) (by decide) (show i < 5 from by omega) (by decide) (y + 50 + i) (by simp only [aOff] <;> omega) dX8_takeFrom_41 ?_
        refine v_aload_n C 2 dX8_takeFrom_42 rfl ?_
        refine g_X8_19 C (show z < 221 from by omega) (s_y hz) dX8_takeFrom_43 ?_
        refine v_iload_n C 0 dX8_takeFrom_46 rfl ?_
        refine v_aald C rfl (show z + 2 < 221 from by omega) (s_y2 hz) (by decide) (by decide) (show i < 5 from by omega) (by decide) (z + 50 + i) (by simp only [aOff] <;> omega) dX8_takeFrom_47 ?_
        refine n_callVv C hRm [.ref (gb G + (z + 50 + i))] cw_X2_takeFrom ml_X8_61 (show y + 50 + i < 221 from by omega) (s_hp hy (by omega)) (by decide) rfl (h_take l G X (y + 50 + i) (z + 50 + i) (by omega) (s_hp hy (by omega)) (by omega) (s_hp hz (by omega)) (by omega)) (by decide) rfl rfl (Nat.le_of_ble_eq_true rfl) dX8_takeFrom_48 (fun M1 hP_48 => ?_)
        subst hP_48
        have hFq1 : Fr y M (hcpM X (y + 50 + i) (z + 50 + i)) := hFX.tr (fun a ha => hcp_ne (by omega))
        have hRq1 : YR (hcpM X (y + 50 + i) (z + 50 + i)) z Z n hN := hR.fr (fun a h1 h2 => hFq1 a (by omega))
        refine v_iinc C (nI (i + 1)) 0 [(2, .int (nI (i + 1))), (0, .ref (gb G + y)), (1, .ref (gb G + z))] dX8_takeFrom_51 rfl (nI_add _ _) (by decide) rfl ?_
        refine v_goto C 31 dX8_takeFrom_54 rfl ?_
        refine v_sub [0, 1, 2] [(2, .int (nI (i + 1))), (0, .ref (gb G + y)), (1, .ref (gb G + z))] rfl ?_
        exact ihLH _ (by omega) (i + 1) (hcpM X (y + 50 + i) (z + 50 + i)) rfl (by omega) (fun c hc => (hC c hc).to (fun a h1 h2 => hcp_ne (by omega))) (fun h hh => by
            by_cases e : h = i
            · subst e
              exact fun j hj => (hcp_0 _ _ _ hj).trans (congrFun (hFX _ (by omega)) j)
            · exact (hH h (by omega)).to (hcp_ne (by omega))) hRq1 hFq1
  have LC : ∀ (kk : Nat) (i : Nat) (X : Mm), 10 - i = kk → i ≤ 10 → ((∀ c, c < i → cpC M X y z c)) → YR X z Z n hN → Fr y M X → Vc f G NPh X 2 [(2, .int (nI i)), (0, .ref (gb G + y)), (1, .ref (gb G + z))] [] := by
    intro kk
    induction kk using Nat.strongRecOn with
    | _ kk ihLC =>
      intro i X hkk hi hC hRX hFX
      refine v_iload_n C 0 dX8_takeFrom_2 rfl ?_
      refine v_bipush C (nI 10) dX8_takeFrom_3 (by decide) ?_
      refine n_icmp_ge C (by omega) (by omega) 29 dX8_takeFrom_5 rfl (fun h_5 => ?_) (fun h_5 => ?_)
      · skip
        refine v_iconst C (nI 0) dX8_takeFrom_29 (by decide) ?_
        refine v_istore_n C [(2, .int (nI 0)), (0, .ref (gb G + y)), (1, .ref (gb G + z))] dX8_takeFrom_30 rfl (by decide) rfl ?_
        refine v_sub [0, 1, 2] [(2, .int (nI 0)), (0, .ref (gb G + y)), (1, .ref (gb G + z))] rfl ?_
        exact LH _ 0 X rfl (by omega) (by (have h9 : i = 10 := by omega); subst h9; exact hC) (fun h hh => absurd hh (Nat.not_lt_zero h)) hRX hFX
      · skip
        refine v_aload_n C 1 dX8_takeFrom_8 rfl ?_
        refine g_X8_11 C (show y < 221 from by omega) (s_y hy) dX8_takeFrom_9 ?_
        refine v_iload_n C 0 dX8_takeFrom_12 rfl ?_
        refine v_aald C rfl (show y + 1 < 221 from by omega) (s_y1 hy) (by decide) (by decide) (show i < 10 from by omega) (by decide) (y + 20 + 3 * i) (by simp only [aOff] <;> omega) dX8_takeFrom_13 ?_
        refine v_aload_n C 2 dX8_takeFrom_14 rfl ?_
        refine g_X8_11 C (show z < 221 from by omega) (s_y hz) dX8_takeFrom_15 ?_
        refine v_iload_n C 0 dX8_takeFrom_18 rfl ?_
        refine v_aald C rfl (show z + 1 < 221 from by omega) (s_y1 hz) (by decide) (by decide) (show i < 10 from by omega) (by decide) (z + 20 + 3 * i) (by simp only [aOff] <;> omega) dX8_takeFrom_19 ?_
        refine n_callVv C hRm [.ref (gb G + (z + 20 + 3 * i))] cw_X0_takeFrom ml_X8_57 (show y + 20 + 3 * i < 221 from by omega) (s_ch hy (by omega)) (by decide) rfl (c_take l G X (y + 20 + 3 * i) (z + 20 + 3 * i) (by omega) (s_ch hy (by omega)) (s_lk hy (by omega)) (s_wt hy (by omega)) (by omega) (s_ch hz (by omega)) (s_lk hz (by omega)) (s_wt hz (by omega)) (by omega) (by omega) (by omega) (by omega)) (by decide) rfl rfl (Nat.le_of_ble_eq_true rfl) dX8_takeFrom_20 (fun M1 hP_20 => ?_)
        subst hP_20
        have hFq1 : Fr y M (ccpM X (y + 20 + 3 * i) (z + 20 + 3 * i)) := hFX.tr (fun a ha => ccp_ne (by omega) (by omega) (by omega))
        have hRq1 : YR (ccpM X (y + 20 + 3 * i) (z + 20 + 3 * i)) z Z n hN := hR.fr (fun a h1 h2 => hFq1 a (by omega))
        refine v_iinc C (nI (i + 1)) 0 [(2, .int (nI (i + 1))), (0, .ref (gb G + y)), (1, .ref (gb G + z))] dX8_takeFrom_23 rfl (nI_add _ _) (by decide) rfl ?_
        refine v_goto C 2 dX8_takeFrom_26 rfl ?_
        refine v_sub [0, 1, 2] [(2, .int (nI (i + 1))), (0, .ref (gb G + y)), (1, .ref (gb G + z))] rfl ?_
        exact ihLC _ (by omega) (i + 1) (ccpM X (y + 20 + 3 * i) (z + 20 + 3 * i)) rfl (by omega) (fun c hc => by
            by_cases e : c = i
            · subst e
              exact ⟨fun j hj => (ccp_0 _ _ _ hj).trans (congrFun (hFX _ (by omega)) j), fun j hj => (ccp_1 _ _ _ hj).trans (congrFun (hFX _ (by omega)) j), fun j hj => (ccp_2 _ _ _ hj).trans (congrFun (hFX _ (by omega)) j)⟩
            · exact (hC c (by omega)).to (fun a h1 h2 => ccp_ne (by omega) (by omega) (by omega))) hRq1 hFq1
  show Vc f G NPh M 0 [(0, .ref (gb G + y)), (1, .ref (gb G + z))] []
  refine v_iconst C (nI 0) dX8_takeFrom_0 (by decide) ?_
  refine v_istore_n C [(2, .int (nI 0)), (0, .ref (gb G + y)), (1, .ref (gb G + z))] dX8_takeFrom_1 rfl (by decide) rfl ?_
  refine v_sub [0, 1, 2] [(2, .int (nI 0)), (0, .ref (gb G + y)), (1, .ref (gb G + z))] rfl ?_
  exact LC _ 0 M rfl (by omega) (fun c hc => absurd hc (Nat.not_lt_zero c)) hR (Fr.rf y M)
