/-! the model spells eight bytes -/
def SpB (p : Nat) (x : Nat → Int32) (I I2 : TI) : Prop := (∀ a, a ≠ 103 → I2 a = I a) ∧ (∀ j, (j < p ∨ p + 8 ≤ j) → I2 103 j = I 103 j) ∧ ∀ j, j < 8 → I2 103 (p + j) = x j
set_option maxRecDepth 20000 in
set_option maxHeartbeats 4000000 in
theorem S_mSpell {g : GP} {d n : Nat} {I : TI} {J : TJ} {R : TR} (hn : 106 ≤ n) (h103 : R 102 1 = 103) {p : Nat} (hp : p ≤ 24) (x : Nat → Int32) : Wp g d mX7_spell 0 [.ref 102, .int (nI p), .int (x 0), .int (x 1), .int (x 2), .int (x 3), .int (x 4), .int (x 5), .int (x 6), .int (x 7)] [] 0 0 n I J R (PostM n R none (fun I2 _ => SpB p x I I2)) := by
  refine r_aload_n dX7_spell_0 rfl ?_
  refine r_getR (b := 103) dX7_spell_1 f_X7_13 (alx rfl (by decide) (by omega)) (Or.inl ⟨_, rfl⟩) h103 (by decide) ?_
  refine r_iload_n dX7_spell_4 rfl ?_
  refine r_iload_n dX7_spell_5 rfl ?_
  refine r_iast (j := p) dX7_spell_6 (alx rfl (by decide) (by omega)) (by omega) rfl ?_
  refine r_aload_n dX7_spell_7 rfl ?_
  refine r_getR (b := 103) dX7_spell_8 f_X7_13 (alx rfl (by decide) (by omega)) (Or.inl ⟨_, rfl⟩) h103 (by decide) ?_
  refine r_iload_n dX7_spell_11 rfl ?_
  refine r_iconst (v := 1) dX7_spell_12 (by decide) ?_
  refine r_niadd (b := 1) dX7_spell_13 rfl rfl ?_
  refine r_iload_n dX7_spell_14 rfl ?_
  refine r_iast (j := (p + 1)) dX7_spell_15 (alx rfl (by decide) (by omega)) (by omega) rfl ?_
  refine r_aload_n dX7_spell_16 rfl ?_
  refine r_getR (b := 103) dX7_spell_17 f_X7_13 (alx rfl (by decide) (by omega)) (Or.inl ⟨_, rfl⟩) h103 (by decide) ?_
  refine r_iload_n dX7_spell_20 rfl ?_
  refine r_iconst (v := 2) dX7_spell_21 (by decide) ?_
  refine r_niadd (b := 2) dX7_spell_22 rfl rfl ?_
  refine r_iload dX7_spell_23 rfl ?_
  refine r_iast (j := (p + 2)) dX7_spell_25 (alx rfl (by decide) (by omega)) (by omega) rfl ?_
  refine r_aload_n dX7_spell_26 rfl ?_
  refine r_getR (b := 103) dX7_spell_27 f_X7_13 (alx rfl (by decide) (by omega)) (Or.inl ⟨_, rfl⟩) h103 (by decide) ?_
  refine r_iload_n dX7_spell_30 rfl ?_
  refine r_iconst (v := 3) dX7_spell_31 (by decide) ?_
  refine r_niadd (b := 3) dX7_spell_32 rfl rfl ?_
  refine r_iload dX7_spell_33 rfl ?_
  refine r_iast (j := (p + 3)) dX7_spell_35 (alx rfl (by decide) (by omega)) (by omega) rfl ?_
  refine r_aload_n dX7_spell_36 rfl ?_
  refine r_getR (b := 103) dX7_spell_37 f_X7_13 (alx rfl (by decide) (by omega)) (Or.inl ⟨_, rfl⟩) h103 (by decide) ?_
  refine r_iload_n dX7_spell_40 rfl ?_
  refine r_iconst (v := 4) dX7_spell_41 (by decide) ?_
  refine r_niadd (b := 4) dX7_spell_42 rfl rfl ?_
  refine r_iload dX7_spell_43 rfl ?_
  refine r_iast (j := (p + 4)) dX7_spell_45 (alx rfl (by decide) (by omega)) (by omega) rfl ?_
  refine r_aload_n dX7_spell_46 rfl ?_
  refine r_getR (b := 103) dX7_spell_47 f_X7_13 (alx rfl (by decide) (by omega)) (Or.inl ⟨_, rfl⟩) h103 (by decide) ?_
  refine r_iload_n dX7_spell_50 rfl ?_
  refine r_iconst (v := 5) dX7_spell_51 (by decide) ?_
  refine r_niadd (b := 5) dX7_spell_52 rfl rfl ?_
  refine r_iload dX7_spell_53 rfl ?_
  refine r_iast (j := (p + 5)) dX7_spell_55 (alx rfl (by decide) (by omega)) (by omega) rfl ?_
  refine r_aload_n dX7_spell_56 rfl ?_
  refine r_getR (b := 103) dX7_spell_57 f_X7_13 (alx rfl (by decide) (by omega)) (Or.inl ⟨_, rfl⟩) h103 (by decide) ?_
  refine r_iload_n dX7_spell_60 rfl ?_
  refine r_bipush (v := 6) dX7_spell_61 (by decide) ?_
  refine r_niadd (b := 6) dX7_spell_63 rfl rfl ?_
  refine r_iload dX7_spell_64 rfl ?_
  refine r_iast (j := (p + 6)) dX7_spell_66 (alx rfl (by decide) (by omega)) (by omega) rfl ?_
  refine r_aload_n dX7_spell_67 rfl ?_
  refine r_getR (b := 103) dX7_spell_68 f_X7_13 (alx rfl (by decide) (by omega)) (Or.inl ⟨_, rfl⟩) h103 (by decide) ?_
  refine r_iload_n dX7_spell_71 rfl ?_
  refine r_bipush (v := 7) dX7_spell_72 (by decide) ?_
  refine r_niadd (b := 7) dX7_spell_74 rfl rfl ?_
  refine r_iload dX7_spell_75 rfl ?_
  refine r_iast (j := (p + 7)) dX7_spell_77 (alx rfl (by decide) (by omega)) (by omega) rfl ?_
  refine r_vret dX7_spell_78 rfl ?_
  refine ⟨rfl, rfl, rfl, fun a ha => ?_, fun j hj => ?_, fun j hj => ?_⟩
  · (repeat (first | rw [up2_at] | rw [up2_k _ _ (by omega)] | rw [up2_a _ _ _ (by omega)])) <;> rfl
  · (repeat (first | rw [up2_at] | rw [up2_k _ _ (by omega)] | rw [up2_a _ _ _ (by omega)])) <;> rfl
  · have e : j = 0 ∨ j = 1 ∨ j = 2 ∨ j = 3 ∨ j = 4 ∨ j = 5 ∨ j = 6 ∨ j = 7 := by omega
    rcases e with rfl | rfl | rfl | rfl | rfl | rfl | rfl | rfl
    · show up2 _ _ _ _ _ p = _
      (repeat (first | rw [up2_at] | rw [up2_k _ _ (by omega)] | rw [up2_a _ _ _ (by omega)])) <;> rfl
    · (repeat (first | rw [up2_at] | rw [up2_k _ _ (by omega)] | rw [up2_a _ _ _ (by omega)])) <;> rfl
    · (repeat (first | rw [up2_at] | rw [up2_k _ _ (by omega)] | rw [up2_a _ _ _ (by omega)])) <;> rfl
    · (repeat (first | rw [up2_at] | rw [up2_k _ _ (by omega)] | rw [up2_a _ _ _ (by omega)])) <;> rfl
    · (repeat (first | rw [up2_at] | rw [up2_k _ _ (by omega)] | rw [up2_a _ _ _ (by omega)])) <;> rfl
    · (repeat (first | rw [up2_at] | rw [up2_k _ _ (by omega)] | rw [up2_a _ _ _ (by omega)])) <;> rfl
    · (repeat (first | rw [up2_at] | rw [up2_k _ _ (by omega)] | rw [up2_a _ _ _ (by omega)])) <;> rfl
    · (repeat (first | rw [up2_at] | rw [up2_k _ _ (by omega)] | rw [up2_a _ _ _ (by omega)])) <;> rfl
