/-! a text, a sheet as they are made -/
def TxB (t : Nat) (I I2 : TI) (R R2 : TR) : Prop := (∀ a, (a < t ∨ t + 2 < a) → I2 a = I a) ∧ (∀ a, (a < t ∨ t + 2 < a) → R2 a = R a) ∧ R2 t 0 = t + 1 ∧ R2 t 1 = t + 2
def ShB (t : Nat) (I I2 : TI) (R R2 : TR) : Prop := (∀ a, (a < t ∨ t + 1 < a) → I2 a = I a) ∧ (∀ a, (a < t ∨ t + 1 < a) → R2 a = R a) ∧ R2 t 2 = t + 1 ∧ I2 t 0 = -1 ∧ I2 t 1 = 0 ∧ ∀ j, I2 (t + 1) j = 0
set_option maxRecDepth 20000 in
set_option maxHeartbeats 4000000 in
theorem S_textInit {g : GP} {d m : Nat} {I : TI} {J : TJ} {R : TR} (hm : m = 54 ∨ m = 59 ∨ m = 62 ∨ m = 65 ∨ m = 68 ∨ m = 71 ∨ m = 74) : Wp g (d + 1) mX4_init 0 [.ref (12 + m)] [] 2 163 (m + 1) I J R (fun r n2 I2 J2 R2 => r = none ∧ n2 = m + 3 ∧ J2 = J ∧ TxB (12 + m) I I2 R R2) := by
  refine r_aload_n dX4_init_0 rfl ?_
  refine r_objInit dX4_init_1 w_87 wObj1 wObj2 (Nat.le_of_ble_eq_true rfl) ?_
  refine r_aload_n dX4_init_4 rfl ?_
  refine r_sipush (v := 160) dX4_init_5 (by decide) ?_
  refine r_newaI (N := 160) dX4_init_8 w_75 rfl (by rcases hm with rfl | rfl | rfl | rfl | rfl | rfl | rfl <;> rfl) ?_
  refine r_putR dX4_init_10 f_X4_9 (alx (by rcases hm with rfl | rfl | rfl | rfl | rfl | rfl | rfl <;> rfl) (by omega) (by omega)) (Or.inr ⟨rfl, rfl⟩) (Or.inl ⟨_, rfl⟩) (by omega) ?_
  refine r_aload_n dX4_init_13 rfl ?_
  refine r_iconst (v := 3) dX4_init_14 (by decide) ?_
  refine r_newaI (N := 3) dX4_init_15 w_75 rfl (by rcases hm with rfl | rfl | rfl | rfl | rfl | rfl | rfl <;> rfl) ?_
  refine r_putR dX4_init_17 f_X4_15 (alx (by rcases hm with rfl | rfl | rfl | rfl | rfl | rfl | rfl <;> rfl) (by omega) (by omega)) (Or.inr ⟨rfl, rfl⟩) (Or.inl ⟨_, rfl⟩) (by omega) ?_
  refine r_aload_n dX4_init_20 rfl ?_
  refine r_iconst (v := 0) dX4_init_21 (by decide) ?_
  refine r_putI dX4_init_22 f_X4_18 (alx (by rcases hm with rfl | rfl | rfl | rfl | rfl | rfl | rfl <;> rfl) (by omega) (by omega)) (Or.inl rfl) rfl ?_
  refine r_vret dX4_init_25 rfl ?_
  refine ⟨rfl, by omega, rfl, fun a ha => ?_, fun a ha => ?_, ?_, ?_⟩
  · (repeat (first | rw [up2_at] | rw [up2_k _ _ (by omega)] | rw [up2_a _ _ _ (by omega)] | rw [z1_ne _ _ (by omega)] | rw [z1_at] | rw [mnR_at] | rw [mnR_ne _ (by omega)] | rw [mnI_ne _ (by omega)])) <;> rfl
  · (repeat (first | rw [up2_at] | rw [up2_k _ _ (by omega)] | rw [up2_a _ _ _ (by omega)] | rw [z1_ne _ _ (by omega)] | rw [z1_at] | rw [mnR_at] | rw [mnR_ne _ (by omega)] | rw [mnI_ne _ (by omega)])) <;> rfl
  · (repeat (first | rw [up2_at] | rw [up2_k _ _ (by omega)] | rw [up2_a _ _ _ (by omega)] | rw [z1_ne _ _ (by omega)] | rw [z1_at] | rw [mnR_at] | rw [mnR_ne _ (by omega)] | rw [mnI_ne _ (by omega)])) <;> omega
  · (repeat (first | rw [up2_at] | rw [up2_k _ _ (by omega)] | rw [up2_a _ _ _ (by omega)] | rw [z1_ne _ _ (by omega)] | rw [z1_at] | rw [mnR_at] | rw [mnR_ne _ (by omega)] | rw [mnI_ne _ (by omega)])) <;> omega
set_option maxRecDepth 20000 in
set_option maxHeartbeats 4000000 in
theorem S_sheetInit {g : GP} {d m : Nat} {I : TI} {J : TJ} {R : TR} (hm : m = 77 ∨ m = 79 ∨ m = 81 ∨ m = 83) : Wp g (d + 1) mX2_init 0 [.ref (12 + m)] [] 1 40 (m + 1) I J R (fun r n2 I2 J2 R2 => r = none ∧ n2 = m + 2 ∧ J2 = J ∧ ShB (12 + m) I I2 R R2) := by
  refine r_aload_n dX2_init_0 rfl ?_
  refine r_objInit dX2_init_1 w_133 wObj1 wObj2 (Nat.le_of_ble_eq_true rfl) ?_
  refine r_aload_n dX2_init_4 rfl ?_
  refine r_iconst (v := (-1)) dX2_init_5 (by decide) ?_
  refine r_putI dX2_init_6 f_X2_9 (alx (by rcases hm with rfl | rfl | rfl | rfl <;> rfl) (by omega) (by omega)) (Or.inl rfl) rfl ?_
  refine r_aload_n dX2_init_9 rfl ?_
  refine r_iconst (v := 0) dX2_init_10 (by decide) ?_
  refine r_putI dX2_init_11 f_X2_15 (alx (by rcases hm with rfl | rfl | rfl | rfl <;> rfl) (by omega) (by omega)) (Or.inl rfl) rfl ?_
  refine r_aload_n dX2_init_14 rfl ?_
  refine r_bipush (v := 40) dX2_init_15 (by decide) ?_
  refine r_newaI (N := 40) dX2_init_17 w_75 rfl (by rcases hm with rfl | rfl | rfl | rfl <;> rfl) ?_
  refine r_putR dX2_init_19 f_X2_18 (alx (by rcases hm with rfl | rfl | rfl | rfl <;> rfl) (by omega) (by omega)) (Or.inr ⟨rfl, rfl⟩) (Or.inl ⟨_, rfl⟩) (by omega) ?_
  refine r_vret dX2_init_22 rfl ?_
  refine ⟨rfl, by omega, rfl, fun a ha => ?_, fun a ha => ?_, ?_, ?_, ?_, fun j => ?_⟩
  · (repeat (first | rw [up2_at] | rw [up2_k _ _ (by omega)] | rw [up2_a _ _ _ (by omega)] | rw [z1_ne _ _ (by omega)] | rw [z1_at] | rw [mnR_at] | rw [mnR_ne _ (by omega)] | rw [mnI_ne _ (by omega)])) <;> rfl
  · (repeat (first | rw [up2_at] | rw [up2_k _ _ (by omega)] | rw [up2_a _ _ _ (by omega)] | rw [z1_ne _ _ (by omega)] | rw [z1_at] | rw [mnR_at] | rw [mnR_ne _ (by omega)] | rw [mnI_ne _ (by omega)])) <;> rfl
  · (repeat (first | rw [up2_at] | rw [up2_k _ _ (by omega)] | rw [up2_a _ _ _ (by omega)] | rw [z1_ne _ _ (by omega)] | rw [z1_at] | rw [mnR_at] | rw [mnR_ne _ (by omega)] | rw [mnI_ne _ (by omega)])) <;> omega
  · (repeat (first | rw [up2_at] | rw [up2_k _ _ (by omega)] | rw [up2_a _ _ _ (by omega)] | rw [z1_ne _ _ (by omega)] | rw [z1_at] | rw [mnR_at] | rw [mnR_ne _ (by omega)] | rw [mnI_ne _ (by omega)])) <;> rfl
  · (repeat (first | rw [up2_at] | rw [up2_k _ _ (by omega)] | rw [up2_a _ _ _ (by omega)] | rw [z1_ne _ _ (by omega)] | rw [z1_at] | rw [mnR_at] | rw [mnR_ne _ (by omega)] | rw [mnI_ne _ (by omega)])) <;> rfl
  · rw [show 12 + m + 1 = 12 + (m + 1) from rfl]
    (repeat (first | rw [up2_at] | rw [up2_k _ _ (by omega)] | rw [up2_a _ _ _ (by omega)] | rw [z1_ne _ _ (by omega)] | rw [z1_at] | rw [mnR_at] | rw [mnR_ne _ (by omega)] | rw [mnI_ne _ (by omega)])) <;> rfl
