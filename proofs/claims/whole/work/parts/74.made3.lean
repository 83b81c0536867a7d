/-! the reader, the walk as they are made -/
def RdB (I I2 : TI) (R R2 : TR) : Prop := (∀ a, (a < 64 ∨ 68 < a) → I2 a = I a) ∧ (∀ a, (a < 64 ∨ 68 < a) → R2 a = R a) ∧ R2 64 0 = 65 ∧ R2 66 0 = 67 ∧ R2 66 1 = 68 ∧ I2 64 1 = 0
def WlB (I I2 : TI) (R R2 : TR) : Prop := (∀ a, (a < 97 ∨ 101 < a) → I2 a = I a) ∧ (∀ a, (a < 97 ∨ 101 < a) → R2 a = R a) ∧ R2 97 0 = 69 ∧ R2 97 1 = 98 ∧ R2 97 2 = 99 ∧ R2 97 3 = 100 ∧ R2 97 4 = 101
set_option maxRecDepth 20000 in
set_option maxHeartbeats 4000000 in
theorem S_readerInit {g : GP} {d : Nat} {I : TI} {J : TJ} {R : TR} : Wp g (d + 2) mX1_init 0 [.ref 64] [] 4 326 53 I J R (fun r n2 I2 J2 R2 => r = none ∧ n2 = 57 ∧ RdB I I2 R R2) := by
  refine r_aload_n dX1_init_0 rfl ?_
  refine r_objInit dX1_init_1 w_81 wObj1 wObj2 (Nat.le_of_ble_eq_true rfl) ?_
  refine r_aload_n dX1_init_4 rfl ?_
  refine r_sipush (v := 160) dX1_init_5 (by decide) ?_
  refine r_newaI (N := 160) dX1_init_8 w_75 rfl rfl ?_
  refine r_putR dX1_init_10 f_X1_9 (alx rfl (by decide) (by decide)) (Or.inr ⟨rfl, rfl⟩) (Or.inl ⟨_, rfl⟩) (by omega) ?_
  refine r_aload_n dX1_init_13 rfl ?_
  refine r_iconst (v := 0) dX1_init_14 (by decide) ?_
  refine r_putI dX1_init_15 f_X1_15 (alx rfl (by decide) (by decide)) (Or.inl rfl) rfl ?_
  refine r_aload_n dX1_init_18 rfl ?_
  refine r_new dX1_init_19 cl4 w_82 w_83 w_4 (by decide) rfl ?_
  refine r_dup dX1_init_22 rfl ?_
  refine Wp.room (bc := 2 + 0) (bs := 163 + 0) (by decide) (by decide) ?_
  refine r_callIN0 dX1_init_23 moX4_init rfl rfl (by decide) w_85 (Nat.le_of_ble_eq_true rfl) (Nat.le_of_ble_eq_true rfl) (S_textInit (m := 54) (by decide)) (fun r n I2 J R hq => ?_)
  obtain ⟨rfl, rfl, _, hT⟩ := hq
  refine r_putR dX1_init_26 f_X1_22 (alx rfl (by decide) (by decide)) (Or.inl rfl) (Or.inr ⟨_, rfl⟩) (by omega) ?_
  refine r_aload_n dX1_init_29 rfl ?_
  refine r_iconst (v := 0) dX1_init_30 (by decide) ?_
  refine r_putI dX1_init_31 f_X1_26 (alx rfl (by decide) (by decide)) (Or.inl rfl) rfl ?_
  refine r_aload_n dX1_init_34 rfl ?_
  refine r_iconst (v := 0) dX1_init_35 (by decide) ?_
  refine r_putI dX1_init_36 f_X1_29 (alx rfl (by decide) (by decide)) (Or.inl rfl) rfl ?_
  refine r_aload_n dX1_init_39 rfl ?_
  refine r_iconst (v := (-1)) dX1_init_40 (by decide) ?_
  refine r_putI dX1_init_41 f_X1_32 (alx rfl (by decide) (by decide)) (Or.inl rfl) rfl ?_
  refine r_aload_n dX1_init_44 rfl ?_
  refine r_iconst (v := 0) dX1_init_45 (by decide) ?_
  refine r_putI dX1_init_46 f_X1_35 (alx rfl (by decide) (by decide)) (Or.inl rfl) rfl ?_
  refine r_aload_n dX1_init_49 rfl ?_
  refine r_iconst (v := 0) dX1_init_50 (by decide) ?_
  refine r_putI dX1_init_51 f_X1_38 (alx rfl (by decide) (by decide)) (Or.inl rfl) rfl ?_
  refine r_vret dX1_init_54 rfl ?_
  refine ⟨rfl, rfl, fun a ha => ?_, fun a ha => ?_, ?_, ?_, ?_, ?_⟩
  · (repeat (first | rw [up2_at] | rw [up2_k _ _ (by omega)] | rw [up2_a _ _ _ (by omega)] | rw [z1_ne _ _ (by omega)] | rw [z1_at] | rw [mnR_at] | rw [mnR_ne _ (by omega)] | rw [mnI_ne _ (by omega)] | rw [hT.1 _ (by omega)] | rw [hT.2.1 _ (by omega)])) <;> rfl
  · (repeat (first | rw [up2_at] | rw [up2_k _ _ (by omega)] | rw [up2_a _ _ _ (by omega)] | rw [z1_ne _ _ (by omega)] | rw [z1_at] | rw [mnR_at] | rw [mnR_ne _ (by omega)] | rw [mnI_ne _ (by omega)] | rw [hT.1 _ (by omega)] | rw [hT.2.1 _ (by omega)])) <;> rfl
  · (repeat (first | rw [up2_at] | rw [up2_k _ _ (by omega)] | rw [up2_a _ _ _ (by omega)] | rw [z1_ne _ _ (by omega)] | rw [z1_at] | rw [mnR_at] | rw [mnR_ne _ (by omega)] | rw [mnI_ne _ (by omega)] | rw [hT.1 _ (by omega)] | rw [hT.2.1 _ (by omega)])) <;> rfl
  · rw [up2_a _ _ _ (by decide)]; exact hT.2.2.1
  · rw [up2_a _ _ _ (by decide)]; exact hT.2.2.2
  · (repeat (first | rw [up2_at] | rw [up2_k _ _ (by omega)] | rw [up2_a _ _ _ (by omega)] | rw [z1_ne _ _ (by omega)] | rw [z1_at] | rw [mnR_at] | rw [mnR_ne _ (by omega)] | rw [mnI_ne _ (by omega)] | rw [hT.1 _ (by omega)] | rw [hT.2.1 _ (by omega)])) <;> rfl
set_option maxRecDepth 20000 in
set_option maxHeartbeats 4000000 in
theorem S_walkInit {g : GP} {d : Nat} {I : TI} {J : TJ} {R : TR} (h71 : R 69 0 = 71) : Wp g (d + 1) mX5_init 0 [.ref 97, .ref 13, .ref 69] [] 4 180 86 I J R (fun r n2 I2 J2 R2 => r = none ∧ n2 = 90 ∧ WlB I I2 R R2) := by
  refine r_aload_n dX5_init_0 rfl ?_
  refine r_objInit dX5_init_1 w_152 wObj1 wObj2 (Nat.le_of_ble_eq_true rfl) ?_
  refine r_aload_n dX5_init_4 rfl ?_
  refine r_bipush (v := 6) dX5_init_5 (by decide) ?_
  refine r_newaI (N := 6) dX5_init_7 w_75 rfl rfl ?_
  refine r_putR dX5_init_9 f_X5_11 (alx rfl (by decide) (by decide)) (Or.inr ⟨rfl, rfl⟩) (Or.inl ⟨_, rfl⟩) (by omega) ?_
  refine r_aload_n dX5_init_12 rfl ?_
  refine r_sipush (v := 160) dX5_init_13 (by decide) ?_
  refine r_newaI (N := 160) dX5_init_16 w_75 rfl rfl ?_
  refine r_putR dX5_init_18 f_X5_17 (alx rfl (by decide) (by decide)) (Or.inr ⟨rfl, rfl⟩) (Or.inl ⟨_, rfl⟩) (by omega) ?_
  refine r_aload_n dX5_init_21 rfl ?_
  refine r_bipush (v := 7) dX5_init_22 (by decide) ?_
  refine r_newaI (N := 7) dX5_init_24 w_75 rfl rfl ?_
  refine r_putR dX5_init_26 f_X5_20 (alx rfl (by decide) (by decide)) (Or.inr ⟨rfl, rfl⟩) (Or.inl ⟨_, rfl⟩) (by omega) ?_
  refine r_aload_n dX5_init_29 rfl ?_
  refine r_bipush (v := 7) dX5_init_30 (by decide) ?_
  refine r_newaI (N := 7) dX5_init_32 w_75 rfl rfl ?_
  refine r_putR dX5_init_34 f_X5_23 (alx rfl (by decide) (by decide)) (Or.inr ⟨rfl, rfl⟩) (Or.inl ⟨_, rfl⟩) (by omega) ?_
  refine r_aload_n dX5_init_37 rfl ?_
  refine r_iconst (v := 0) dX5_init_38 (by decide) ?_
  refine r_putI dX5_init_39 f_X5_26 (alx rfl (by decide) (by decide)) (Or.inl rfl) rfl ?_
  refine r_aload_n dX5_init_42 rfl ?_
  refine r_iconst (v := 0) dX5_init_43 (by decide) ?_
  refine r_putI dX5_init_44 f_X5_30 (alx rfl (by decide) (by decide)) (Or.inl rfl) rfl ?_
  refine r_aload_n dX5_init_47 rfl ?_
  refine r_iconst (v := 0) dX5_init_48 (by decide) ?_
  refine r_putI dX5_init_49 f_X5_33 (alx rfl (by decide) (by decide)) (Or.inl rfl) rfl ?_
  refine r_aload_n dX5_init_52 rfl ?_
  refine r_iconst (v := 0) dX5_init_53 (by decide) ?_
  refine r_putI dX5_init_54 f_X5_36 (alx rfl (by decide) (by decide)) (Or.inl rfl) rfl ?_
  refine r_aload_n dX5_init_57 rfl ?_
  refine r_iconst (v := 0) dX5_init_58 (by decide) ?_
  refine r_putI dX5_init_59 f_X5_39 (alx rfl (by decide) (by decide)) (Or.inl rfl) rfl ?_
  refine r_aload_n dX5_init_62 rfl ?_
  refine r_aload_n dX5_init_63 rfl ?_
  refine r_putR dX5_init_64 f_X5_42 (alx rfl (by decide) (by decide)) (Or.inr ⟨rfl, rfl⟩) (Or.inl ⟨_, rfl⟩) (by omega) ?_
  refine r_aload_n dX5_init_67 rfl ?_
  refine r_aload_n dX5_init_68 rfl ?_
  refine r_putR dX5_init_69 f_X5_46 (alx rfl (by decide) (by decide)) (Or.inl rfl) (Or.inr ⟨_, rfl⟩) (by omega) ?_
  refine r_aload_n dX5_init_72 rfl ?_
  refine r_aload_n dX5_init_73 rfl ?_
  refine r_alen dX5_init_74 (alx rfl (by decide) (by decide)) (Or.inr (Or.inr (Or.inr (Or.inl rfl)))) ?_
  refine r_zif_le (tgt := 84) dX5_init_75 (by decide) (nz _) (by unfold inZ; omega) (fun h75 => absurd h75 (by omega)) (fun h75 => ?_)
  refine r_aload_n dX5_init_78 rfl ?_
  refine r_iconst (v := 0) dX5_init_79 (by decide) ?_
  refine r_aald (j := 0) (b := 71) dX5_init_80 (alx rfl (by decide) (by decide)) (Or.inr (Or.inl rfl)) (by decide) (by decide) (by (repeat (first | rw [up2_at] | rw [up2_k _ _ (by omega)] | rw [up2_a _ _ _ (by omega)] | rw [z1_ne _ _ (by omega)] | rw [z1_at] | rw [mnR_at] | rw [mnR_ne _ (by omega)] | rw [mnI_ne _ (by omega)])) <;> exact h71) (by decide) ?_
  refine r_goto (tgt := 91) dX5_init_81 (by decide) ?_
  refine r_putR dX5_init_91 f_X5_51 (alx rfl (by decide) (by decide)) (Or.inl rfl) (Or.inr ⟨_, rfl⟩) (by omega) ?_
  refine r_vret dX5_init_94 rfl ?_
  refine ⟨rfl, rfl, fun a ha => ?_, fun a ha => ?_, ?_, ?_, ?_, ?_, ?_⟩
  · (repeat (first | rw [up2_at] | rw [up2_k _ _ (by omega)] | rw [up2_a _ _ _ (by omega)] | rw [z1_ne _ _ (by omega)] | rw [z1_at] | rw [mnR_at] | rw [mnR_ne _ (by omega)] | rw [mnI_ne _ (by omega)])) <;> rfl
  · (repeat (first | rw [up2_at] | rw [up2_k _ _ (by omega)] | rw [up2_a _ _ _ (by omega)] | rw [z1_ne _ _ (by omega)] | rw [z1_at] | rw [mnR_at] | rw [mnR_ne _ (by omega)] | rw [mnI_ne _ (by omega)])) <;> rfl
  · (repeat (first | rw [up2_at] | rw [up2_k _ _ (by omega)] | rw [up2_a _ _ _ (by omega)] | rw [z1_ne _ _ (by omega)] | rw [z1_at] | rw [mnR_at] | rw [mnR_ne _ (by omega)] | rw [mnI_ne _ (by omega)])) <;> rfl
  · (repeat (first | rw [up2_at] | rw [up2_k _ _ (by omega)] | rw [up2_a _ _ _ (by omega)] | rw [z1_ne _ _ (by omega)] | rw [z1_at] | rw [mnR_at] | rw [mnR_ne _ (by omega)] | rw [mnI_ne _ (by omega)])) <;> rfl
  · (repeat (first | rw [up2_at] | rw [up2_k _ _ (by omega)] | rw [up2_a _ _ _ (by omega)] | rw [z1_ne _ _ (by omega)] | rw [z1_at] | rw [mnR_at] | rw [mnR_ne _ (by omega)] | rw [mnI_ne _ (by omega)])) <;> rfl
  · (repeat (first | rw [up2_at] | rw [up2_k _ _ (by omega)] | rw [up2_a _ _ _ (by omega)] | rw [z1_ne _ _ (by omega)] | rw [z1_at] | rw [mnR_at] | rw [mnR_ne _ (by omega)] | rw [mnI_ne _ (by omega)])) <;> rfl
  · (repeat (first | rw [up2_at] | rw [up2_k _ _ (by omega)] | rw [up2_a _ _ _ (by omega)] | rw [z1_ne _ _ (by omega)] | rw [z1_at] | rw [mnR_at] | rw [mnR_ne _ (by omega)] | rw [mnI_ne _ (by omega)])) <;> rfl
