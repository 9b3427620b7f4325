set_option maxHeartbeats 4000000 in
set_option maxRecDepth 100000 in
theorem s_write (l : Launch) (G : GC) (M : Mm) (k : Nat) (hk : k + 1 < 221) (hs : shp k = 5) (hs1 : shp (k + 1) = 1000 + 24) (b : Int32) (hb : M k 0 = b) (hb3 : b = nI 8 ∨ b = nI 16 ∨ b = nI 32) (i : Nat) (hi : i < 24) (v : Int32) : CV l G 1 yX5_write cX5_write 3 [.ref (gb G + k), .int (nI i), .int v] M (fun M' => M' = up2 M (k + 1) i (castW b v)) := by
  refine Con.of (by decide +kernel) (Nat.le_of_ble_eq_true rfl) ?_
  intro f C hRm hRt _
  rcases hb3 with h | h | h <;> subst h
  · show Vc f G NPh M 0 [(0, .ref (gb G + k)), (1, .int (nI i)), (2, .int v)] []
    refine v_aload_n C 0 dX5_write_0 rfl ?_
    refine g_X5_15 C (show k < 221 from by omega) hs dX5_write_1 ?_
    refine v_top (nI 8) hb ?_
    refine v_lookup (off := 28) C 32 dX5_write_4 (by decide +kernel) (by decide +kernel) rfl ?_
    refine v_aload_n C 0 dX5_write_32 rfl ?_
    refine g_X5_9 C (show k < 221 from by omega) hs dX5_write_33 ?_
    refine v_iload_n C 1 dX5_write_36 rfl ?_
    refine v_iload_n C 2 dX5_write_37 rfl ?_
    refine v_i2b C dX5_write_38 ?_
    refine v_iast C (show k + 1 < 221 from by omega) hs1 (by omega) (by decide) dX5_write_39 ?_
    refine v_goto C 61 dX5_write_40 rfl ?_
    exact n_ret C hRt dX5_write_61 (by unfold castW; rw [if_pos rfl])
  · show Vc f G NPh M 0 [(0, .ref (gb G + k)), (1, .int (nI i)), (2, .int v)] []
    refine v_aload_n C 0 dX5_write_0 rfl ?_
    refine g_X5_15 C (show k < 221 from by omega) hs dX5_write_1 ?_
    refine v_top (nI 16) hb ?_
    refine v_lookup (off := 39) C 43 dX5_write_4 (by decide +kernel) (by decide +kernel) rfl ?_
    refine v_aload_n C 0 dX5_write_43 rfl ?_
    refine g_X5_9 C (show k < 221 from by omega) hs dX5_write_44 ?_
    refine v_iload_n C 1 dX5_write_47 rfl ?_
    refine v_iload_n C 2 dX5_write_48 rfl ?_
    refine v_i2s C dX5_write_49 ?_
    refine v_iast C (show k + 1 < 221 from by omega) hs1 (by omega) (by decide) dX5_write_50 ?_
    refine v_goto C 61 dX5_write_51 rfl ?_
    exact n_ret C hRt dX5_write_61 (by unfold castW; rw [if_neg (by decide), if_pos rfl])
  · show Vc f G NPh M 0 [(0, .ref (gb G + k)), (1, .int (nI i)), (2, .int v)] []
    refine v_aload_n C 0 dX5_write_0 rfl ?_
    refine g_X5_15 C (show k < 221 from by omega) hs dX5_write_1 ?_
    refine v_top (nI 32) hb ?_
    refine v_lookup (off := 50) C 54 dX5_write_4 (by decide +kernel) (by decide +kernel) rfl ?_
    refine v_aload_n C 0 dX5_write_54 rfl ?_
    refine g_X5_9 C (show k < 221 from by omega) hs dX5_write_55 ?_
    refine v_iload_n C 1 dX5_write_58 rfl ?_
    refine v_iload_n C 2 dX5_write_59 rfl ?_
    refine v_iast C (show k + 1 < 221 from by omega) hs1 (by omega) (by decide) dX5_write_60 ?_
    exact n_ret C hRt dX5_write_61 (by unfold castW; rw [if_neg (by decide), if_neg (by decide)])
set_option maxHeartbeats 4000000 in
set_option maxRecDepth 100000 in
theorem t_apply (l : Launch) (G : GC) (M : Mm) (i : Nat) (hi : i < 10) (a b : Int32) : CP l G 1 yX7_apply cX7_apply 3 .int [.int (nI (sgC i)), .int a, .int b] M (doneS (20000 + i) a b) := by
  refine Con.of (by decide +kernel) (Nat.le_of_ble_eq_true rfl) ?_
  intro f C hRm hRt _
  rcases (show i = 0 ∨ i = 1 ∨ i = 2 ∨ i = 3 ∨ i = 4 ∨ i = 5 ∨ i = 6 ∨ i = 7 ∨ i = 8 ∨ i = 9 by omega) with h | h | h | h | h | h | h | h | h | h <;> subst h
  · show Vc f G NPh M 0 [(0, .int (nI 124)), (1, .int a), (2, .int b)] []
    refine v_iload_n C 0 dX7_apply_0 rfl ?_
    refine v_lookup (off := 91) C 92 dX7_apply_1 (by decide +kernel) (by decide +kernel) rfl ?_
    refine v_iload_n C 1 dX7_apply_92 rfl ?_
    refine v_if_ne C 100 dX7_apply_93 rfl (fun h_93 => ?_) (fun h_93 => ?_)
    · skip
      refine v_iconst C (nI 1) dX7_apply_100 (by decide) ?_
      refine v_goto C 105 dX7_apply_101 rfl ?_
      exact n_iret C hRt rfl dX7_apply_105 (by show _ = (if ¬ a = 0 ∨ ¬ b = 0 then nI 1 else nI 0); rw [if_pos (Or.inl h_93)]) rfl
    · skip
      refine v_iload_n C 2 dX7_apply_96 rfl ?_
      refine v_if_eq C 104 dX7_apply_97 rfl (fun h_97 => ?_) (fun h_97 => ?_)
      · skip
        refine v_iconst C (nI 0) dX7_apply_104 (by decide) ?_
        exact n_iret C hRt rfl dX7_apply_105 (by show _ = (if ¬ a = 0 ∨ ¬ b = 0 then nI 1 else nI 0); rw [if_neg (fun q => q.elim (fun z => z (by first | exact h_93 | exact Decidable.not_not.mp h_93)) (fun z => z h_97))]) rfl
      · skip
        refine v_iconst C (nI 1) dX7_apply_100 (by decide) ?_
        refine v_goto C 105 dX7_apply_101 rfl ?_
        exact n_iret C hRt rfl dX7_apply_105 (by show _ = (if ¬ a = 0 ∨ ¬ b = 0 then nI 1 else nI 0); rw [if_pos (Or.inr h_97)]) rfl
  · show Vc f G NPh M 0 [(0, .int (nI 38)), (1, .int a), (2, .int b)] []
    refine v_iload_n C 0 dX7_apply_0 rfl ?_
    refine v_lookup (off := 105) C 106 dX7_apply_1 (by decide +kernel) (by decide +kernel) rfl ?_
    refine v_iload_n C 1 dX7_apply_106 rfl ?_
    refine v_if_eq C 118 dX7_apply_107 rfl (fun h_107 => ?_) (fun h_107 => ?_)
    · skip
      refine v_iconst C (nI 0) dX7_apply_118 (by decide) ?_
      exact n_iret C hRt rfl dX7_apply_119 (by show _ = (if ¬ a = 0 ∧ ¬ b = 0 then nI 1 else nI 0); rw [if_neg (fun q => q.1 h_107)]) rfl
    · skip
      refine v_iload_n C 2 dX7_apply_110 rfl ?_
      refine v_if_eq C 118 dX7_apply_111 rfl (fun h_111 => ?_) (fun h_111 => ?_)
      · skip
        refine v_iconst C (nI 0) dX7_apply_118 (by decide) ?_
        exact n_iret C hRt rfl dX7_apply_119 (by show _ = (if ¬ a = 0 ∧ ¬ b = 0 then nI 1 else nI 0); rw [if_neg (fun q => q.2 h_111)]) rfl
      · skip
        refine v_iconst C (nI 1) dX7_apply_114 (by decide) ?_
        refine v_goto C 119 dX7_apply_115 rfl ?_
        exact n_iret C hRt rfl dX7_apply_119 (by show _ = (if ¬ a = 0 ∧ ¬ b = 0 then nI 1 else nI 0); rw [if_pos ⟨h_107, h_111⟩]) rfl
  · show Vc f G NPh M 0 [(0, .int (nI 60)), (1, .int a), (2, .int b)] []
    refine v_iload_n C 0 dX7_apply_0 rfl ?_
    refine v_lookup (off := 119) C 120 dX7_apply_1 (by decide +kernel) (by decide +kernel) rfl ?_
    refine v_iload_n C 1 dX7_apply_120 rfl ?_
    refine v_iload_n C 2 dX7_apply_121 rfl ?_
    refine v_icmp_ge C 129 dX7_apply_122 rfl (fun h_122 => ?_) (fun h_122 => ?_)
    · skip
      refine v_iconst C (nI 0) dX7_apply_129 (by decide) ?_
      exact n_iret C hRt rfl dX7_apply_130 (by show _ = (if a < b then nI 1 else nI 0); first | rw [if_pos (by first | exact h_122 | exact Int32.not_le.mp h_122 | exact Decidable.not_not.mp h_122)] | rw [if_neg (by first | exact h_122 | exact Int32.not_lt.mpr h_122)]) rfl
    · skip
      refine v_iconst C (nI 1) dX7_apply_125 (by decide) ?_
      refine v_goto C 130 dX7_apply_126 rfl ?_
      exact n_iret C hRt rfl dX7_apply_130 (by show _ = (if a < b then nI 1 else nI 0); first | rw [if_pos (by first | exact h_122 | exact Int32.not_le.mp h_122 | exact Decidable.not_not.mp h_122)] | rw [if_neg (by first | exact h_122 | exact Int32.not_lt.mpr h_122)]) rfl
  · show Vc f G NPh M 0 [(0, .int (nI 61)), (1, .int a), (2, .int b)] []
    refine v_iload_n C 0 dX7_apply_0 rfl ?_
    refine v_lookup (off := 130) C 131 dX7_apply_1 (by decide +kernel) (by decide +kernel) rfl ?_
    refine v_iload_n C 1 dX7_apply_131 rfl ?_
    refine v_iload_n C 2 dX7_apply_132 rfl ?_
    refine v_icmp_ne C 140 dX7_apply_133 rfl (fun h_133 => ?_) (fun h_133 => ?_)
    · skip
      refine v_iconst C (nI 0) dX7_apply_140 (by decide) ?_
      exact n_iret C hRt rfl dX7_apply_141 (by show _ = (if a = b then nI 1 else nI 0); first | rw [if_pos (by first | exact h_133 | exact Int32.not_le.mp h_133 | exact Decidable.not_not.mp h_133)] | rw [if_neg (by first | exact h_133 | exact Int32.not_lt.mpr h_133)]) rfl
    · skip
      refine v_iconst C (nI 1) dX7_apply_136 (by decide) ?_
      refine v_goto C 141 dX7_apply_137 rfl ?_
      exact n_iret C hRt rfl dX7_apply_141 (by show _ = (if a = b then nI 1 else nI 0); first | rw [if_pos (by first | exact h_133 | exact Int32.not_le.mp h_133 | exact Decidable.not_not.mp h_133)] | rw [if_neg (by first | exact h_133 | exact Int32.not_lt.mpr h_133)]) rfl
  · show Vc f G NPh M 0 [(0, .int (nI 62)), (1, .int a), (2, .int b)] []
    refine v_iload_n C 0 dX7_apply_0 rfl ?_
    refine v_lookup (off := 141) C 142 dX7_apply_1 (by decide +kernel) (by decide +kernel) rfl ?_
    refine v_iload_n C 1 dX7_apply_142 rfl ?_
    refine v_iload_n C 2 dX7_apply_143 rfl ?_
    refine v_icmp_le C 151 dX7_apply_144 rfl (fun h_144 => ?_) (fun h_144 => ?_)
    · skip
      refine v_iconst C (nI 0) dX7_apply_151 (by decide) ?_
      exact n_iret C hRt rfl dX7_apply_152 (by show _ = (if b < a then nI 1 else nI 0); first | rw [if_pos (by first | exact h_144 | exact Int32.not_le.mp h_144 | exact Decidable.not_not.mp h_144)] | rw [if_neg (by first | exact h_144 | exact Int32.not_lt.mpr h_144)]) rfl
    · skip
      refine v_iconst C (nI 1) dX7_apply_147 (by decide) ?_
      refine v_goto C 152 dX7_apply_148 rfl ?_
      exact n_iret C hRt rfl dX7_apply_152 (by show _ = (if b < a then nI 1 else nI 0); first | rw [if_pos (by first | exact h_144 | exact Int32.not_le.mp h_144 | exact Decidable.not_not.mp h_144)] | rw [if_neg (by first | exact h_144 | exact Int32.not_lt.mpr h_144)]) rfl
  · show Vc f G NPh M 0 [(0, .int (nI 43)), (1, .int a), (2, .int b)] []
    refine v_iload_n C 0 dX7_apply_0 rfl ?_
    refine v_lookup (off := 152) C 153 dX7_apply_1 (by decide +kernel) (by decide +kernel) rfl ?_
    refine v_iload_n C 1 dX7_apply_153 rfl ?_
    refine v_iload_n C 2 dX7_apply_154 rfl ?_
    refine v_iadd C dX7_apply_155 ?_
    exact n_iret C hRt rfl dX7_apply_156 (rfl) rfl
  · show Vc f G NPh M 0 [(0, .int (nI 45)), (1, .int a), (2, .int b)] []
    refine v_iload_n C 0 dX7_apply_0 rfl ?_
    refine v_lookup (off := 156) C 157 dX7_apply_1 (by decide +kernel) (by decide +kernel) rfl ?_
    refine v_iload_n C 1 dX7_apply_157 rfl ?_
    refine v_iload_n C 2 dX7_apply_158 rfl ?_
    refine v_isub C dX7_apply_159 ?_
    exact n_iret C hRt rfl dX7_apply_160 (rfl) rfl
  · show Vc f G NPh M 0 [(0, .int (nI 42)), (1, .int a), (2, .int b)] []
    refine v_iload_n C 0 dX7_apply_0 rfl ?_
    refine v_lookup (off := 160) C 161 dX7_apply_1 (by decide +kernel) (by decide +kernel) rfl ?_
    refine v_iload_n C 1 dX7_apply_161 rfl ?_
    refine v_iload_n C 2 dX7_apply_162 rfl ?_
    refine v_imul C dX7_apply_163 ?_
    exact n_iret C hRt rfl dX7_apply_164 (rfl) rfl
  · show Vc f G NPh M 0 [(0, .int (nI 47)), (1, .int a), (2, .int b)] []
    refine v_iload_n C 0 dX7_apply_0 rfl ?_
    refine v_lookup (off := 164) C 165 dX7_apply_1 (by decide +kernel) (by decide +kernel) rfl ?_
    refine v_iload_n C 2 dX7_apply_165 rfl ?_
    refine v_if_ne C 173 dX7_apply_166 rfl (fun h_166 => ?_) (fun h_166 => ?_)
    · skip
      refine v_iload_n C 1 dX7_apply_173 rfl ?_
      refine v_iload_n C 2 dX7_apply_174 rfl ?_
      refine v_idiv C dX7_apply_175 (by assumption) ?_
      exact n_iret C hRt rfl dX7_apply_176 (by show _ = (if b = 0 then nI 0 else a / b); first | rw [if_neg (by assumption)] | rw [if_pos (by first | assumption | exact Decidable.not_not.mp (by assumption))]) rfl
    · skip
      refine v_iconst C (nI 0) dX7_apply_169 (by decide) ?_
      refine v_goto C 176 dX7_apply_170 rfl ?_
      exact n_iret C hRt rfl dX7_apply_176 (by show _ = (if b = 0 then nI 0 else a / b); first | rw [if_neg (by assumption)] | rw [if_pos (by first | assumption | exact Decidable.not_not.mp (by assumption))]) rfl
  · show Vc f G NPh M 0 [(0, .int (nI 37)), (1, .int a), (2, .int b)] []
    refine v_iload_n C 0 dX7_apply_0 rfl ?_
    refine v_lookup (off := 176) C 177 dX7_apply_1 (by decide +kernel) (by decide +kernel) rfl ?_
    refine v_iload_n C 2 dX7_apply_177 rfl ?_
    refine v_if_ne C 185 dX7_apply_178 rfl (fun h_178 => ?_) (fun h_178 => ?_)
    · skip
      refine v_iload_n C 1 dX7_apply_185 rfl ?_
      refine v_iload_n C 2 dX7_apply_186 rfl ?_
      refine v_irem C dX7_apply_187 (by assumption) ?_
      exact n_iret C hRt rfl dX7_apply_188 (by show _ = (if b = 0 then nI 0 else a - a / b * b); first | rw [if_neg (by assumption)] | rw [if_pos (by first | assumption | exact Decidable.not_not.mp (by assumption))]) rfl
    · skip
      refine v_iconst C (nI 0) dX7_apply_181 (by decide) ?_
      refine v_goto C 188 dX7_apply_182 rfl ?_
      exact n_iret C hRt rfl dX7_apply_188 (by show _ = (if b = 0 then nI 0 else a - a / b * b); first | rw [if_neg (by assumption)] | rw [if_pos (by first | assumption | exact Decidable.not_not.mp (by assumption))]) rfl
set_option maxHeartbeats 4000000 in
set_option maxRecDepth 100000 in
theorem t_named (l : Launch) (G : GC) (M : Mm) (a : Nat) (ha : a < 221) (hsa : shp a = 1000 + 5) (i : Nat) (hi : i < 5) : CP l G 1 yX7_named cX7_named 2 .int [.ref (gb G + a), .int (nI i)] M (M a i) := by
  refine Con.of (by decide +kernel) (Nat.le_of_ble_eq_true rfl) ?_
  intro f C hRm hRt _
  show Vc f G NPh M 0 [(0, .ref (gb G + a)), (1, .int (nI i))] []
  refine v_iload_n C 1 dX7_named_0 rfl ?_
  refine v_if_lt C 16 dX7_named_1 rfl (fun h_1 => ?_) (fun h_1 => ?_)
  · skip
    exact absurd h_1 (nI_pos (by omega))
  · skip
    refine v_iload_n C 1 dX7_named_4 rfl ?_
    refine v_aload_n C 0 dX7_named_5 rfl ?_
    refine v_alen C ha hsa dX7_named_6 ?_
    refine n_icmp_ge C (by omega) (by omega) 16 dX7_named_7 rfl (fun h_7 => ?_) (fun h_7 => ?_)
    · skip
      exact absurd h_7 (by omega)
    · skip
      refine v_aload_n C 0 dX7_named_10 rfl ?_
      refine v_iload_n C 1 dX7_named_11 rfl ?_
      refine v_iald C ha hsa (by omega) (by decide) dX7_named_12 ?_
      refine v_goto C 17 dX7_named_13 rfl ?_
      exact n_iret C hRt rfl dX7_named_17 rfl rfl
