/-! the model as it is made -/
def tx0 (k j : Nat) : Int32 := nI (([116, 117, 114, 110, 115, 32, 102, 97, 114, 32, 59, 32, 102, 105, 110, 100, 115, 32, 53, 32, 59, 32, 119, 97, 105, 116, 115, 32, 48, 32, 59, 32] : List Nat).getD (k + j) 0)
def MdB (I I2 : TI) (R R2 : TR) : Prop := (∀ a, a < 102 → I2 a = I a) ∧ (∀ a, a < 102 → R2 a = R a) ∧ (∀ q ∈ shL, q.1 = 102 → R2 102 q.2.1 = q.2.2) ∧ (∀ j, j < 8 → I2 106 j = nI (d0N j)) ∧ I2 102 3 = 1 ∧ I2 102 4 = 0 ∧ I2 102 6 = 0 ∧ I2 102 10 = 0 ∧ I2 102 11 = 0 ∧ I2 102 39 = -1 ∧ I2 104 0 = 32 ∧ (∀ j, I2 114 j = 0) ∧ ∀ k, k < 4 → ∀ j, j < 8 → I2 103 (8 * k + j) = tx0 (8 * k) j
set_option maxRecDepth 20000 in
set_option maxHeartbeats 4000000 in
theorem S_modelInit {g : GP} {d : Nat} {I : TI} {J : TJ} {R : TR} (hI : ∀ k, I 102 k = 0) : Wp g (d + 1) mX7_init 0 [.ref 102] [] 15 1409 91 I J R (fun r n2 I2 J2 R2 => r = none ∧ n2 = 106 ∧ MdB I I2 R R2) := by
  refine r_aload_n dX7_init_0 rfl ?_
  refine r_objInit dX7_init_1 w_784 wObj1 wObj2 (Nat.le_of_ble_eq_true rfl) ?_
  refine r_aload_n dX7_init_4 rfl ?_
  refine r_sipush (v := 960) dX7_init_5 (by decide) ?_
  refine r_newaI (N := 960) dX7_init_8 w_75 rfl rfl ?_
  refine r_putR dX7_init_10 f_X7_13 (alx rfl (by decide) (by decide)) (Or.inr ⟨rfl, rfl⟩) (Or.inl ⟨_, rfl⟩) (by omega) ?_
  refine r_aload_n dX7_init_13 rfl ?_
  refine r_bipush (v := 6) dX7_init_14 (by decide) ?_
  refine r_newaI (N := 6) dX7_init_16 w_75 rfl rfl ?_
  refine r_putR dX7_init_18 f_X7_17 (alx rfl (by decide) (by decide)) (Or.inr ⟨rfl, rfl⟩) (Or.inl ⟨_, rfl⟩) (by omega) ?_
  refine r_aload_n dX7_init_21 rfl ?_
  refine r_sipush (v := 160) dX7_init_22 (by decide) ?_
  refine r_newaI (N := 160) dX7_init_25 w_75 rfl rfl ?_
  refine r_putR dX7_init_27 f_X7_20 (alx rfl (by decide) (by decide)) (Or.inr ⟨rfl, rfl⟩) (Or.inl ⟨_, rfl⟩) (by omega) ?_
  refine r_aload_n dX7_init_30 rfl ?_
  refine r_bipush (v := 8) dX7_init_31 (by decide) ?_
  refine r_newaI (N := 8) dX7_init_33 w_75 rfl rfl ?_
  refine r_dup dX7_init_35 rfl ?_
  refine r_iconst (v := 0) dX7_init_36 (by decide) ?_
  refine r_iconst (v := 0) dX7_init_37 (by decide) ?_
  refine r_iast (j := 0) dX7_init_38 (alx rfl (by decide) (by decide)) (by decide) (by decide) ?_
  refine r_dup dX7_init_39 rfl ?_
  refine r_iconst (v := 1) dX7_init_40 (by decide) ?_
  refine r_bipush (v := 9) dX7_init_41 (by decide) ?_
  refine r_iast (j := 1) dX7_init_43 (alx rfl (by decide) (by decide)) (by decide) (by decide) ?_
  refine r_dup dX7_init_44 rfl ?_
  refine r_iconst (v := 2) dX7_init_45 (by decide) ?_
  refine r_iconst (v := 0) dX7_init_46 (by decide) ?_
  refine r_iast (j := 2) dX7_init_47 (alx rfl (by decide) (by decide)) (by decide) (by decide) ?_
  refine r_dup dX7_init_48 rfl ?_
  refine r_iconst (v := 3) dX7_init_49 (by decide) ?_
  refine r_sipush (v := 199) dX7_init_50 (by decide) ?_
  refine r_iast (j := 3) dX7_init_53 (alx rfl (by decide) (by decide)) (by decide) (by decide) ?_
  refine r_dup dX7_init_54 rfl ?_
  refine r_iconst (v := 4) dX7_init_55 (by decide) ?_
  refine r_iconst (v := 0) dX7_init_56 (by decide) ?_
  refine r_iast (j := 4) dX7_init_57 (alx rfl (by decide) (by decide)) (by decide) (by decide) ?_
  refine r_dup dX7_init_58 rfl ?_
  refine r_iconst (v := 5) dX7_init_59 (by decide) ?_
  refine r_iconst (v := 0) dX7_init_60 (by decide) ?_
  refine r_iast (j := 5) dX7_init_61 (alx rfl (by decide) (by decide)) (by decide) (by decide) ?_
  refine r_dup dX7_init_62 rfl ?_
  refine r_bipush (v := 6) dX7_init_63 (by decide) ?_
  refine r_iconst (v := 0) dX7_init_65 (by decide) ?_
  refine r_iast (j := 6) dX7_init_66 (alx rfl (by decide) (by decide)) (by decide) (by decide) ?_
  refine r_dup dX7_init_67 rfl ?_
  refine r_bipush (v := 7) dX7_init_68 (by decide) ?_
  refine r_sipush (v := 199) dX7_init_70 (by decide) ?_
  refine r_iast (j := 7) dX7_init_73 (alx rfl (by decide) (by decide)) (by decide) (by decide) ?_
  refine r_putR dX7_init_74 f_X7_23 (alx rfl (by decide) (by decide)) (Or.inr ⟨rfl, rfl⟩) (Or.inl ⟨_, rfl⟩) (by omega) ?_
  refine r_aload_n dX7_init_77 rfl ?_
  refine r_bipush (v := 7) dX7_init_78 (by decide) ?_
  refine r_newaI (N := 7) dX7_init_80 w_75 rfl rfl ?_
  refine r_putR dX7_init_82 f_X7_26 (alx rfl (by decide) (by decide)) (Or.inr ⟨rfl, rfl⟩) (Or.inl ⟨_, rfl⟩) (by omega) ?_
  refine r_aload_n dX7_init_85 rfl ?_
  refine r_bipush (v := 35) dX7_init_86 (by decide) ?_
  refine r_newaI (N := 35) dX7_init_88 w_75 rfl rfl ?_
  refine r_putR dX7_init_90 f_X7_29 (alx rfl (by decide) (by decide)) (Or.inr ⟨rfl, rfl⟩) (Or.inl ⟨_, rfl⟩) (by omega) ?_
  refine r_aload_n dX7_init_93 rfl ?_
  refine r_bipush (v := 7) dX7_init_94 (by decide) ?_
  refine r_newaI (N := 7) dX7_init_96 w_75 rfl rfl ?_
  refine r_putR dX7_init_98 f_X7_32 (alx rfl (by decide) (by decide)) (Or.inr ⟨rfl, rfl⟩) (Or.inl ⟨_, rfl⟩) (by omega) ?_
  refine r_aload_n dX7_init_101 rfl ?_
  refine r_bipush (v := 7) dX7_init_102 (by decide) ?_
  refine r_newaI (N := 7) dX7_init_104 w_75 rfl rfl ?_
  refine r_putR dX7_init_106 f_X7_35 (alx rfl (by decide) (by decide)) (Or.inr ⟨rfl, rfl⟩) (Or.inl ⟨_, rfl⟩) (by omega) ?_
  refine r_aload_n dX7_init_109 rfl ?_
  refine r_iconst (v := 4) dX7_init_110 (by decide) ?_
  refine r_newaI (N := 4) dX7_init_111 w_75 rfl rfl ?_
  refine r_putR dX7_init_113 f_X7_38 (alx rfl (by decide) (by decide)) (Or.inr ⟨rfl, rfl⟩) (Or.inl ⟨_, rfl⟩) (by omega) ?_
  refine r_aload_n dX7_init_116 rfl ?_
  refine r_bipush (v := 8) dX7_init_117 (by decide) ?_
  refine r_newaI (N := 8) dX7_init_119 w_75 rfl rfl ?_
  refine r_putR dX7_init_121 f_X7_41 (alx rfl (by decide) (by decide)) (Or.inr ⟨rfl, rfl⟩) (Or.inl ⟨_, rfl⟩) (by omega) ?_
  refine r_aload_n dX7_init_124 rfl ?_
  refine r_bipush (v := 35) dX7_init_125 (by decide) ?_
  refine r_newaI (N := 35) dX7_init_127 w_75 rfl rfl ?_
  refine r_putR dX7_init_129 f_X7_44 (alx rfl (by decide) (by decide)) (Or.inr ⟨rfl, rfl⟩) (Or.inl ⟨_, rfl⟩) (by omega) ?_
  refine r_aload_n dX7_init_132 rfl ?_
  refine r_iconst (v := (-1)) dX7_init_133 (by decide) ?_
  refine r_putI dX7_init_134 f_X7_47 (alx rfl (by decide) (by decide)) (Or.inl rfl) rfl ?_
  refine r_aload_n dX7_init_137 rfl ?_
  refine r_iconst (v := 4) dX7_init_138 (by decide) ?_
  refine r_newaZ (N := 4) dX7_init_139 w_924 rfl rfl ?_
  refine r_putR dX7_init_141 f_X7_50 (alx rfl (by decide) (by decide)) (Or.inr ⟨rfl, rfl⟩) (Or.inl ⟨_, rfl⟩) (by omega) ?_
  refine r_aload_n dX7_init_144 rfl ?_
  refine r_iconst (v := 4) dX7_init_145 (by decide) ?_
  refine r_newaI (N := 4) dX7_init_146 w_75 rfl rfl ?_
  refine r_putR dX7_init_148 f_X7_54 (alx rfl (by decide) (by decide)) (Or.inr ⟨rfl, rfl⟩) (Or.inl ⟨_, rfl⟩) (by omega) ?_
  refine r_aload_n dX7_init_151 rfl ?_
  refine r_iconst (v := 4) dX7_init_152 (by decide) ?_
  refine r_newaI (N := 4) dX7_init_153 w_75 rfl rfl ?_
  refine r_putR dX7_init_155 f_X7_57 (alx rfl (by decide) (by decide)) (Or.inr ⟨rfl, rfl⟩) (Or.inl ⟨_, rfl⟩) (by omega) ?_
  refine r_aload_n dX7_init_158 rfl ?_
  refine r_sipush (v := 160) dX7_init_159 (by decide) ?_
  refine r_newaI (N := 160) dX7_init_162 w_75 rfl rfl ?_
  refine r_putR dX7_init_164 f_X7_60 (alx rfl (by decide) (by decide)) (Or.inr ⟨rfl, rfl⟩) (Or.inl ⟨_, rfl⟩) (by omega) ?_
  refine r_aload_n dX7_init_167 rfl ?_
  refine r_iconst (v := 0) dX7_init_168 (by decide) ?_
  refine r_bipush (v := 116) dX7_init_169 (by decide) ?_
  refine r_bipush (v := 117) dX7_init_171 (by decide) ?_
  refine r_bipush (v := 114) dX7_init_173 (by decide) ?_
  refine r_bipush (v := 110) dX7_init_175 (by decide) ?_
  refine r_bipush (v := 115) dX7_init_177 (by decide) ?_
  refine r_bipush (v := 32) dX7_init_179 (by decide) ?_
  refine r_bipush (v := 102) dX7_init_181 (by decide) ?_
  refine r_bipush (v := 97) dX7_init_183 (by decide) ?_
  refine r_callV9N dX7_init_185 moX7_spell w_785 w_787 s_28 (alx rfl (by decide) (by decide)) cl7 rfl (Nat.le_of_ble_eq_true rfl) (Nat.le_of_ble_eq_true rfl) (S_mSpell (by decide) (by (repeat (first | rw [up2_at] | rw [up2_k _ _ (by omega)] | rw [up2_a _ _ _ (by omega)] | rw [z1_ne _ _ (by omega)] | rw [z1_at])) <;> rfl) (p := 0) (by decide) (tx0 0)) (fun r n I2 J R hq => ?_)
  obtain ⟨rfl, rfl, rfl, hS1⟩ := hq
  refine r_aload_n dX7_init_188 rfl ?_
  refine r_bipush (v := 8) dX7_init_189 (by decide) ?_
  refine r_bipush (v := 114) dX7_init_191 (by decide) ?_
  refine r_bipush (v := 32) dX7_init_193 (by decide) ?_
  refine r_bipush (v := 59) dX7_init_195 (by decide) ?_
  refine r_bipush (v := 32) dX7_init_197 (by decide) ?_
  refine r_bipush (v := 102) dX7_init_199 (by decide) ?_
  refine r_bipush (v := 105) dX7_init_201 (by decide) ?_
  refine r_bipush (v := 110) dX7_init_203 (by decide) ?_
  refine r_bipush (v := 100) dX7_init_205 (by decide) ?_
  refine r_callV9N dX7_init_207 moX7_spell w_785 w_787 s_28 (alx rfl (by decide) (by decide)) cl7 rfl (Nat.le_of_ble_eq_true rfl) (Nat.le_of_ble_eq_true rfl) (S_mSpell (by decide) (by (repeat (first | rw [up2_at] | rw [up2_k _ _ (by omega)] | rw [up2_a _ _ _ (by omega)] | rw [z1_ne _ _ (by omega)] | rw [z1_at])) <;> rfl) (p := 8) (by decide) (tx0 8)) (fun r n I3 J R hq => ?_)
  obtain ⟨rfl, rfl, rfl, hS2⟩ := hq
  refine r_aload_n dX7_init_210 rfl ?_
  refine r_bipush (v := 16) dX7_init_211 (by decide) ?_
  refine r_bipush (v := 115) dX7_init_213 (by decide) ?_
  refine r_bipush (v := 32) dX7_init_215 (by decide) ?_
  refine r_bipush (v := 53) dX7_init_217 (by decide) ?_
  refine r_bipush (v := 32) dX7_init_219 (by decide) ?_
  refine r_bipush (v := 59) dX7_init_221 (by decide) ?_
  refine r_bipush (v := 32) dX7_init_223 (by decide) ?_
  refine r_bipush (v := 119) dX7_init_225 (by decide) ?_
  refine r_bipush (v := 97) dX7_init_227 (by decide) ?_
  refine r_callV9N dX7_init_229 moX7_spell w_785 w_787 s_28 (alx rfl (by decide) (by decide)) cl7 rfl (Nat.le_of_ble_eq_true rfl) (Nat.le_of_ble_eq_true rfl) (S_mSpell (by decide) (by (repeat (first | rw [up2_at] | rw [up2_k _ _ (by omega)] | rw [up2_a _ _ _ (by omega)] | rw [z1_ne _ _ (by omega)] | rw [z1_at])) <;> rfl) (p := 16) (by decide) (tx0 16)) (fun r n I4 J R hq => ?_)
  obtain ⟨rfl, rfl, rfl, hS3⟩ := hq
  refine r_aload_n dX7_init_232 rfl ?_
  refine r_bipush (v := 24) dX7_init_233 (by decide) ?_
  refine r_bipush (v := 105) dX7_init_235 (by decide) ?_
  refine r_bipush (v := 116) dX7_init_237 (by decide) ?_
  refine r_bipush (v := 115) dX7_init_239 (by decide) ?_
  refine r_bipush (v := 32) dX7_init_241 (by decide) ?_
  refine r_bipush (v := 48) dX7_init_243 (by decide) ?_
  refine r_bipush (v := 32) dX7_init_245 (by decide) ?_
  refine r_bipush (v := 59) dX7_init_247 (by decide) ?_
  refine r_bipush (v := 32) dX7_init_249 (by decide) ?_
  refine r_callV9N dX7_init_251 moX7_spell w_785 w_787 s_28 (alx rfl (by decide) (by decide)) cl7 rfl (Nat.le_of_ble_eq_true rfl) (Nat.le_of_ble_eq_true rfl) (S_mSpell (by decide) (by (repeat (first | rw [up2_at] | rw [up2_k _ _ (by omega)] | rw [up2_a _ _ _ (by omega)] | rw [z1_ne _ _ (by omega)] | rw [z1_at])) <;> rfl) (p := 24) (by decide) (tx0 24)) (fun r n I5 J R hq => ?_)
  obtain ⟨rfl, rfl, rfl, hS4⟩ := hq
  refine r_aload_n dX7_init_254 rfl ?_
  refine r_getR (b := 104) dX7_init_255 f_X7_17 (alx rfl (by decide) (by decide)) (Or.inl ⟨_, rfl⟩) (by (repeat (first | rw [up2_at] | rw [up2_k _ _ (by omega)] | rw [up2_a _ _ _ (by omega)] | rw [z1_ne _ _ (by omega)] | rw [z1_at])) <;> rfl) (by decide) ?_
  refine r_iconst (v := 0) dX7_init_258 (by decide) ?_
  refine r_bipush (v := 32) dX7_init_259 (by decide) ?_
  refine r_iast (j := 0) dX7_init_261 (alx rfl (by decide) (by decide)) (by decide) (by decide) ?_
  refine r_aload_n dX7_init_262 rfl ?_
  refine r_iconst (v := 1) dX7_init_263 (by decide) ?_
  refine r_putI dX7_init_264 f_X7_67 (alx rfl (by decide) (by decide)) (Or.inl rfl) rfl ?_
  refine r_vret dX7_init_267 rfl ?_
  refine ⟨rfl, rfl, fun a ha => ?_, fun a ha => ?_, fun q hq h2 => ?_, fun j hj => ?_, ?_, ?_, ?_, ?_, ?_, ?_, ?_, fun j => ?_, fun k hk j hj => ?_⟩
  · (repeat (first | rw [up2_at] | rw [up2_k _ _ (by omega)] | rw [up2_a _ _ _ (by omega)] | rw [z1_ne _ _ (by omega)] | rw [z1_at] | rw [hS4.1 _ (by omega)] | rw [hS3.1 _ (by omega)] | rw [hS2.1 _ (by omega)] | rw [hS1.1 _ (by omega)])) <;> rfl
  · (repeat (first | rw [up2_at] | rw [up2_k _ _ (by omega)] | rw [up2_a _ _ _ (by omega)] | rw [z1_ne _ _ (by omega)] | rw [z1_at])) <;> rfl
  · have hl : ∀ q ∈ shL, q.1 = 102 → (q.2.1, q.2.2) ∈ ([(1, 103), (2, 104), (5, 105), (7, 106), (8, 107), (9, 108), (32, 109), (33, 110), (36, 111), (37, 112), (38, 113), (41, 114), (42, 115), (43, 116), (44, 117)] : List (Nat × Nat)) := by decide +kernel
    have h3 := hl q hq h2
    obtain ⟨qa, qb, qc⟩ := q
    simp only [List.mem_cons, List.not_mem_nil, or_false, Prod.mk.injEq] at h3
    rcases h3 with ⟨rfl, rfl⟩ | ⟨rfl, rfl⟩ | ⟨rfl, rfl⟩ | ⟨rfl, rfl⟩ | ⟨rfl, rfl⟩ | ⟨rfl, rfl⟩ | ⟨rfl, rfl⟩ | ⟨rfl, rfl⟩ | ⟨rfl, rfl⟩ | ⟨rfl, rfl⟩ | ⟨rfl, rfl⟩ | ⟨rfl, rfl⟩ | ⟨rfl, rfl⟩ | ⟨rfl, rfl⟩ | ⟨rfl, rfl⟩ <;> (repeat (first | rw [up2_at] | rw [up2_k _ _ (by omega)] | rw [up2_a _ _ _ (by omega)] | rw [z1_ne _ _ (by omega)] | rw [z1_at])) <;> rfl
  · have e : j = 0 ∨ j = 1 ∨ j = 2 ∨ j = 3 ∨ j = 4 ∨ j = 5 ∨ j = 6 ∨ j = 7 := by omega
    rcases e with rfl | rfl | rfl | rfl | rfl | rfl | rfl | rfl <;> (repeat (first | rw [up2_at] | rw [up2_k _ _ (by omega)] | rw [up2_a _ _ _ (by omega)] | rw [z1_ne _ _ (by omega)] | rw [z1_at] | rw [hS4.1 _ (by omega)] | rw [hS3.1 _ (by omega)] | rw [hS2.1 _ (by omega)] | rw [hS1.1 _ (by omega)])) <;> rfl
  · (repeat (first | rw [up2_at] | rw [up2_k _ _ (by omega)] | rw [up2_a _ _ _ (by omega)] | rw [z1_ne _ _ (by omega)] | rw [z1_at] | rw [hS4.1 _ (by omega)] | rw [hS3.1 _ (by omega)] | rw [hS2.1 _ (by omega)] | rw [hS1.1 _ (by omega)])) <;> first | rfl | exact hI _
  · (repeat (first | rw [up2_at] | rw [up2_k _ _ (by omega)] | rw [up2_a _ _ _ (by omega)] | rw [z1_ne _ _ (by omega)] | rw [z1_at] | rw [hS4.1 _ (by omega)] | rw [hS3.1 _ (by omega)] | rw [hS2.1 _ (by omega)] | rw [hS1.1 _ (by omega)])) <;> first | rfl | exact hI _
  · (repeat (first | rw [up2_at] | rw [up2_k _ _ (by omega)] | rw [up2_a _ _ _ (by omega)] | rw [z1_ne _ _ (by omega)] | rw [z1_at] | rw [hS4.1 _ (by omega)] | rw [hS3.1 _ (by omega)] | rw [hS2.1 _ (by omega)] | rw [hS1.1 _ (by omega)])) <;> first | rfl | exact hI _
  · (repeat (first | rw [up2_at] | rw [up2_k _ _ (by omega)] | rw [up2_a _ _ _ (by omega)] | rw [z1_ne _ _ (by omega)] | rw [z1_at] | rw [hS4.1 _ (by omega)] | rw [hS3.1 _ (by omega)] | rw [hS2.1 _ (by omega)] | rw [hS1.1 _ (by omega)])) <;> first | rfl | exact hI _
  · (repeat (first | rw [up2_at] | rw [up2_k _ _ (by omega)] | rw [up2_a _ _ _ (by omega)] | rw [z1_ne _ _ (by omega)] | rw [z1_at] | rw [hS4.1 _ (by omega)] | rw [hS3.1 _ (by omega)] | rw [hS2.1 _ (by omega)] | rw [hS1.1 _ (by omega)])) <;> first | rfl | exact hI _
  · (repeat (first | rw [up2_at] | rw [up2_k _ _ (by omega)] | rw [up2_a _ _ _ (by omega)] | rw [z1_ne _ _ (by omega)] | rw [z1_at] | rw [hS4.1 _ (by omega)] | rw [hS3.1 _ (by omega)] | rw [hS2.1 _ (by omega)] | rw [hS1.1 _ (by omega)])) <;> first | rfl | exact hI _
  · (repeat (first | rw [up2_at] | rw [up2_k _ _ (by omega)] | rw [up2_a _ _ _ (by omega)] | rw [z1_ne _ _ (by omega)] | rw [z1_at] | rw [hS4.1 _ (by omega)] | rw [hS3.1 _ (by omega)] | rw [hS2.1 _ (by omega)] | rw [hS1.1 _ (by omega)])) <;> first | rfl | exact hI _
  · (repeat (first | rw [up2_at] | rw [up2_k _ _ (by omega)] | rw [up2_a _ _ _ (by omega)] | rw [z1_ne _ _ (by omega)] | rw [z1_at] | rw [hS4.1 _ (by omega)] | rw [hS3.1 _ (by omega)] | rw [hS2.1 _ (by omega)] | rw [hS1.1 _ (by omega)])) <;> rfl
  · have e : k = 0 ∨ k = 1 ∨ k = 2 ∨ k = 3 := by omega
    rw [up2_a _ _ _ (by decide), up2_a _ _ _ (by decide)]
    rcases e with rfl | rfl | rfl | rfl
    · rw [hS4.2.1 _ (by omega), hS3.2.1 _ (by omega), hS2.2.1 _ (by omega)]; exact hS1.2.2 j hj
    · rw [hS4.2.1 _ (by omega), hS3.2.1 _ (by omega)]; exact hS2.2.2 j hj
    · rw [hS4.2.1 _ (by omega)]; exact hS3.2.2 j hj
    · exact hS4.2.2 j hj
