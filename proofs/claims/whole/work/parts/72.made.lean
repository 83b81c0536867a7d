/-! a sky as it is made -/
theorem alx {n a kd len : Nat} (h1 : LAY a = (kd, len)) (h2 : 12 ≤ a) (h3 : a < 12 + n) : Al n a kd len := ⟨h1, h2, h3⟩
theorem mnR_at (R : TR) (n j : Nat) : mnR R n (12 + n) j = 13 + n + j := by unfold mnR; rw [if_pos rfl]
theorem mnR_ne (R : TR) {n a : Nat} (h : a ≠ 12 + n) : mnR R n a = R a := if_neg h
theorem mnI_ne (I : TI) {n N a : Nat} (h : ¬ (12 + n < a ∧ a < 13 + n + N)) : mnI I n N a = I a := if_neg h
theorem mnI_at (I : TI) {n N a : Nat} (h : 12 + n < a ∧ a < 13 + n + N) : mnI I n N a = fun _ => 0 := if_pos h
theorem lay_6 {m i : Nat} (hm : m = 1 ∨ m = 18 ∨ m = 35) (hi : i < 6) : LAY (13 + (m + 1 + 1) + i) = (8, 7) := by
  have e : i = 0 ∨ i = 1 ∨ i = 2 ∨ i = 3 ∨ i = 4 ∨ i = 5 := by omega
  rcases hm with rfl | rfl | rfl <;> rcases e with rfl | rfl | rfl | rfl | rfl | rfl <;> rfl
theorem lay_7 {m i : Nat} (hm : m = 1 ∨ m = 18 ∨ m = 35) (hi : i < 7) : LAY (13 + (m + 1 + 1 + 1 + 6) + i) = (8, 200) := by
  have e : i = 0 ∨ i = 1 ∨ i = 2 ∨ i = 3 ∨ i = 4 ∨ i = 5 ∨ i = 6 := by omega
  rcases hm with rfl | rfl | rfl <;> rcases e with rfl | rfl | rfl | rfl | rfl | rfl | rfl <;> rfl
def d0N (j : Nat) : Nat := [0, 9, 0, 199, 0, 0, 0, 199].getD j 0
/-- a sky made at s -/
def SkB (s : Nat) (I I2 : TI) (R R2 : TR) : Prop := (∀ a, (a < s ∨ s + 16 < a) → I2 a = I a) ∧ (∀ j, j < 8 → I2 (s + 1) j = nI (d0N j)) ∧ I2 s 9 = 0 ∧ I2 s 10 = 0 ∧ I2 s 11 = 0 ∧ (∀ a, (a < s ∨ s + 16 < a) → R2 a = R a) ∧ (∀ q ∈ skyShL s, R2 q.1 q.2.1 = q.2.2) ∧ ∀ i k, i < 6 → I2 (s + 3 + i) k = 0
set_option maxRecDepth 20000 in
set_option maxHeartbeats 4000000 in
theorem S_skyInit {g : GP} {d m : Nat} {I : TI} {J : TJ} {R : TR} (hm : m = 1 ∨ m = 18 ∨ m = 35) : Wp g (d + 1) mX3_init 0 [.ref (12 + m)] [] 16 1463 (m + 1) I J R (fun r n2 I2 J2 R2 => r = none ∧ n2 = m + 17 ∧ J2 = J ∧ SkB (12 + m) I I2 R R2) := by
  refine r_aload_n dX3_init_0 rfl ?_
  refine r_objInit dX3_init_1 w_31 wObj1 wObj2 (Nat.le_of_ble_eq_true rfl) ?_
  refine r_aload_n dX3_init_4 rfl ?_
  refine r_bipush (v := 8) dX3_init_5 (by decide) ?_
  refine r_newaI (N := 8) dX3_init_7 w_75 rfl (by rcases hm with rfl | rfl | rfl <;> rfl) ?_
  refine r_dup dX3_init_9 rfl ?_
  refine r_iconst (v := 0) dX3_init_10 (by decide) ?_
  refine r_iconst (v := 0) dX3_init_11 (by decide) ?_
  refine r_iast (j := 0) dX3_init_12 (alx (by rcases hm with rfl | rfl | rfl <;> rfl) (by omega) (by omega)) (by decide) (by decide) ?_
  refine r_dup dX3_init_13 rfl ?_
  refine r_iconst (v := 1) dX3_init_14 (by decide) ?_
  refine r_bipush (v := 9) dX3_init_15 (by decide) ?_
  refine r_iast (j := 1) dX3_init_17 (alx (by rcases hm with rfl | rfl | rfl <;> rfl) (by omega) (by omega)) (by decide) (by decide) ?_
  refine r_dup dX3_init_18 rfl ?_
  refine r_iconst (v := 2) dX3_init_19 (by decide) ?_
  refine r_iconst (v := 0) dX3_init_20 (by decide) ?_
  refine r_iast (j := 2) dX3_init_21 (alx (by rcases hm with rfl | rfl | rfl <;> rfl) (by omega) (by omega)) (by decide) (by decide) ?_
  refine r_dup dX3_init_22 rfl ?_
  refine r_iconst (v := 3) dX3_init_23 (by decide) ?_
  refine r_sipush (v := 199) dX3_init_24 (by decide) ?_
  refine r_iast (j := 3) dX3_init_27 (alx (by rcases hm with rfl | rfl | rfl <;> rfl) (by omega) (by omega)) (by decide) (by decide) ?_
  refine r_dup dX3_init_28 rfl ?_
  refine r_iconst (v := 4) dX3_init_29 (by decide) ?_
  refine r_iconst (v := 0) dX3_init_30 (by decide) ?_
  refine r_iast (j := 4) dX3_init_31 (alx (by rcases hm with rfl | rfl | rfl <;> rfl) (by omega) (by omega)) (by decide) (by decide) ?_
  refine r_dup dX3_init_32 rfl ?_
  refine r_iconst (v := 5) dX3_init_33 (by decide) ?_
  refine r_iconst (v := 0) dX3_init_34 (by decide) ?_
  refine r_iast (j := 5) dX3_init_35 (alx (by rcases hm with rfl | rfl | rfl <;> rfl) (by omega) (by omega)) (by decide) (by decide) ?_
  refine r_dup dX3_init_36 rfl ?_
  refine r_bipush (v := 6) dX3_init_37 (by decide) ?_
  refine r_iconst (v := 0) dX3_init_39 (by decide) ?_
  refine r_iast (j := 6) dX3_init_40 (alx (by rcases hm with rfl | rfl | rfl <;> rfl) (by omega) (by omega)) (by decide) (by decide) ?_
  refine r_dup dX3_init_41 rfl ?_
  refine r_bipush (v := 7) dX3_init_42 (by decide) ?_
  refine r_sipush (v := 199) dX3_init_44 (by decide) ?_
  refine r_iast (j := 7) dX3_init_47 (alx (by rcases hm with rfl | rfl | rfl <;> rfl) (by omega) (by omega)) (by decide) (by decide) ?_
  refine r_putR dX3_init_48 f_X3_9 (alx (by rcases hm with rfl | rfl | rfl <;> rfl) (by omega) (by omega)) (Or.inr ⟨rfl, rfl⟩) (Or.inl ⟨_, rfl⟩) (by omega) ?_
  refine r_aload_n dX3_init_51 rfl ?_
  refine r_bipush (v := 6) dX3_init_52 (by decide) ?_
  refine r_bipush (v := 7) dX3_init_54 (by decide) ?_
  refine r_mna (N := 6) (K := 7) dX3_init_56 w_32 w_75 (by rcases hm with rfl | rfl | rfl <;> rfl) (fun i hi => lay_6 hm hi) (by decide) (by decide) ?_
  refine r_putR dX3_init_60 f_X3_17 (alx (by rcases hm with rfl | rfl | rfl <;> rfl) (by omega) (by omega)) (Or.inr ⟨rfl, rfl⟩) (Or.inl ⟨_, rfl⟩) (by omega) ?_
  refine r_aload_n dX3_init_63 rfl ?_
  refine r_aload_n dX3_init_64 rfl ?_
  refine r_getR (b := (12 + (m + 1 + 1))) dX3_init_65 f_X3_17 (alx (by rcases hm with rfl | rfl | rfl <;> rfl) (by omega) (by omega)) (Or.inl ⟨_, rfl⟩) (by repeat (first | rw [up2_at] | rw [up2_k _ _ (by omega)] | rw [up2_a _ _ _ (by omega)] | rw [z1_ne _ _ (by omega)] | rw [z1_at] | rw [mnR_at] | rw [mnR_ne _ (by omega)] | rw [mnI_ne _ (by omega)])) (by omega) ?_
  refine r_iconst (v := 0) dX3_init_68 (by decide) ?_
  refine r_aald (j := 0) (b := (13 + (m + 1 + 1) + 0)) dX3_init_69 (alx (by rcases hm with rfl | rfl | rfl <;> rfl) (by omega) (by omega)) (Or.inl rfl) (by decide) (by decide) (by repeat (first | rw [up2_at] | rw [up2_k _ _ (by omega)] | rw [up2_a _ _ _ (by omega)] | rw [z1_ne _ _ (by omega)] | rw [z1_at] | rw [mnR_at] | rw [mnR_ne _ (by omega)] | rw [mnI_ne _ (by omega)])) (by omega) ?_
  refine r_putR dX3_init_70 f_X3_20 (alx (by rcases hm with rfl | rfl | rfl <;> rfl) (by omega) (by omega)) (Or.inr ⟨rfl, rfl⟩) (Or.inl ⟨_, rfl⟩) (by omega) ?_
  refine r_aload_n dX3_init_73 rfl ?_
  refine r_aload_n dX3_init_74 rfl ?_
  refine r_getR (b := (12 + (m + 1 + 1))) dX3_init_75 f_X3_17 (alx (by rcases hm with rfl | rfl | rfl <;> rfl) (by omega) (by omega)) (Or.inl ⟨_, rfl⟩) (by repeat (first | rw [up2_at] | rw [up2_k _ _ (by omega)] | rw [up2_a _ _ _ (by omega)] | rw [z1_ne _ _ (by omega)] | rw [z1_at] | rw [mnR_at] | rw [mnR_ne _ (by omega)] | rw [mnI_ne _ (by omega)])) (by omega) ?_
  refine r_iconst (v := 1) dX3_init_78 (by decide) ?_
  refine r_aald (j := 1) (b := (13 + (m + 1 + 1) + 1)) dX3_init_79 (alx (by rcases hm with rfl | rfl | rfl <;> rfl) (by omega) (by omega)) (Or.inl rfl) (by decide) (by decide) (by repeat (first | rw [up2_at] | rw [up2_k _ _ (by omega)] | rw [up2_a _ _ _ (by omega)] | rw [z1_ne _ _ (by omega)] | rw [z1_at] | rw [mnR_at] | rw [mnR_ne _ (by omega)] | rw [mnI_ne _ (by omega)])) (by omega) ?_
  refine r_putR dX3_init_80 f_X3_23 (alx (by rcases hm with rfl | rfl | rfl <;> rfl) (by omega) (by omega)) (Or.inr ⟨rfl, rfl⟩) (Or.inl ⟨_, rfl⟩) (by omega) ?_
  refine r_aload_n dX3_init_83 rfl ?_
  refine r_aload_n dX3_init_84 rfl ?_
  refine r_getR (b := (12 + (m + 1 + 1))) dX3_init_85 f_X3_17 (alx (by rcases hm with rfl | rfl | rfl <;> rfl) (by omega) (by omega)) (Or.inl ⟨_, rfl⟩) (by repeat (first | rw [up2_at] | rw [up2_k _ _ (by omega)] | rw [up2_a _ _ _ (by omega)] | rw [z1_ne _ _ (by omega)] | rw [z1_at] | rw [mnR_at] | rw [mnR_ne _ (by omega)] | rw [mnI_ne _ (by omega)])) (by omega) ?_
  refine r_iconst (v := 2) dX3_init_88 (by decide) ?_
  refine r_aald (j := 2) (b := (13 + (m + 1 + 1) + 2)) dX3_init_89 (alx (by rcases hm with rfl | rfl | rfl <;> rfl) (by omega) (by omega)) (Or.inl rfl) (by decide) (by decide) (by repeat (first | rw [up2_at] | rw [up2_k _ _ (by omega)] | rw [up2_a _ _ _ (by omega)] | rw [z1_ne _ _ (by omega)] | rw [z1_at] | rw [mnR_at] | rw [mnR_ne _ (by omega)] | rw [mnI_ne _ (by omega)])) (by omega) ?_
  refine r_putR dX3_init_90 f_X3_26 (alx (by rcases hm with rfl | rfl | rfl <;> rfl) (by omega) (by omega)) (Or.inr ⟨rfl, rfl⟩) (Or.inl ⟨_, rfl⟩) (by omega) ?_
  refine r_aload_n dX3_init_93 rfl ?_
  refine r_aload_n dX3_init_94 rfl ?_
  refine r_getR (b := (12 + (m + 1 + 1))) dX3_init_95 f_X3_17 (alx (by rcases hm with rfl | rfl | rfl <;> rfl) (by omega) (by omega)) (Or.inl ⟨_, rfl⟩) (by repeat (first | rw [up2_at] | rw [up2_k _ _ (by omega)] | rw [up2_a _ _ _ (by omega)] | rw [z1_ne _ _ (by omega)] | rw [z1_at] | rw [mnR_at] | rw [mnR_ne _ (by omega)] | rw [mnI_ne _ (by omega)])) (by omega) ?_
  refine r_iconst (v := 3) dX3_init_98 (by decide) ?_
  refine r_aald (j := 3) (b := (13 + (m + 1 + 1) + 3)) dX3_init_99 (alx (by rcases hm with rfl | rfl | rfl <;> rfl) (by omega) (by omega)) (Or.inl rfl) (by decide) (by decide) (by repeat (first | rw [up2_at] | rw [up2_k _ _ (by omega)] | rw [up2_a _ _ _ (by omega)] | rw [z1_ne _ _ (by omega)] | rw [z1_at] | rw [mnR_at] | rw [mnR_ne _ (by omega)] | rw [mnI_ne _ (by omega)])) (by omega) ?_
  refine r_putR dX3_init_100 f_X3_29 (alx (by rcases hm with rfl | rfl | rfl <;> rfl) (by omega) (by omega)) (Or.inr ⟨rfl, rfl⟩) (Or.inl ⟨_, rfl⟩) (by omega) ?_
  refine r_aload_n dX3_init_103 rfl ?_
  refine r_aload_n dX3_init_104 rfl ?_
  refine r_getR (b := (12 + (m + 1 + 1))) dX3_init_105 f_X3_17 (alx (by rcases hm with rfl | rfl | rfl <;> rfl) (by omega) (by omega)) (Or.inl ⟨_, rfl⟩) (by repeat (first | rw [up2_at] | rw [up2_k _ _ (by omega)] | rw [up2_a _ _ _ (by omega)] | rw [z1_ne _ _ (by omega)] | rw [z1_at] | rw [mnR_at] | rw [mnR_ne _ (by omega)] | rw [mnI_ne _ (by omega)])) (by omega) ?_
  refine r_iconst (v := 4) dX3_init_108 (by decide) ?_
  refine r_aald (j := 4) (b := (13 + (m + 1 + 1) + 4)) dX3_init_109 (alx (by rcases hm with rfl | rfl | rfl <;> rfl) (by omega) (by omega)) (Or.inl rfl) (by decide) (by decide) (by repeat (first | rw [up2_at] | rw [up2_k _ _ (by omega)] | rw [up2_a _ _ _ (by omega)] | rw [z1_ne _ _ (by omega)] | rw [z1_at] | rw [mnR_at] | rw [mnR_ne _ (by omega)] | rw [mnI_ne _ (by omega)])) (by omega) ?_
  refine r_putR dX3_init_110 f_X3_32 (alx (by rcases hm with rfl | rfl | rfl <;> rfl) (by omega) (by omega)) (Or.inr ⟨rfl, rfl⟩) (Or.inl ⟨_, rfl⟩) (by omega) ?_
  refine r_aload_n dX3_init_113 rfl ?_
  refine r_aload_n dX3_init_114 rfl ?_
  refine r_getR (b := (12 + (m + 1 + 1))) dX3_init_115 f_X3_17 (alx (by rcases hm with rfl | rfl | rfl <;> rfl) (by omega) (by omega)) (Or.inl ⟨_, rfl⟩) (by repeat (first | rw [up2_at] | rw [up2_k _ _ (by omega)] | rw [up2_a _ _ _ (by omega)] | rw [z1_ne _ _ (by omega)] | rw [z1_at] | rw [mnR_at] | rw [mnR_ne _ (by omega)] | rw [mnI_ne _ (by omega)])) (by omega) ?_
  refine r_iconst (v := 5) dX3_init_118 (by decide) ?_
  refine r_aald (j := 5) (b := (13 + (m + 1 + 1) + 5)) dX3_init_119 (alx (by rcases hm with rfl | rfl | rfl <;> rfl) (by omega) (by omega)) (Or.inl rfl) (by decide) (by decide) (by repeat (first | rw [up2_at] | rw [up2_k _ _ (by omega)] | rw [up2_a _ _ _ (by omega)] | rw [z1_ne _ _ (by omega)] | rw [z1_at] | rw [mnR_at] | rw [mnR_ne _ (by omega)] | rw [mnI_ne _ (by omega)])) (by omega) ?_
  refine r_putR dX3_init_120 f_X3_35 (alx (by rcases hm with rfl | rfl | rfl <;> rfl) (by omega) (by omega)) (Or.inr ⟨rfl, rfl⟩) (Or.inl ⟨_, rfl⟩) (by omega) ?_
  refine r_aload_n dX3_init_123 rfl ?_
  refine r_bipush (v := 7) dX3_init_124 (by decide) ?_
  refine r_sipush (v := 200) dX3_init_126 (by decide) ?_
  refine r_mna (N := 7) (K := 200) dX3_init_129 w_32 w_75 (by rcases hm with rfl | rfl | rfl <;> rfl) (fun i hi => lay_7 hm hi) (by decide) (by decide) ?_
  refine r_putR dX3_init_133 f_X3_38 (alx (by rcases hm with rfl | rfl | rfl <;> rfl) (by omega) (by omega)) (Or.inr ⟨rfl, rfl⟩) (Or.inl ⟨_, rfl⟩) (by omega) ?_
  refine r_aload_n dX3_init_136 rfl ?_
  refine r_iconst (v := 0) dX3_init_137 (by decide) ?_
  refine r_putI dX3_init_138 f_X3_41 (alx (by rcases hm with rfl | rfl | rfl <;> rfl) (by omega) (by omega)) (Or.inl rfl) rfl ?_
  refine r_aload_n dX3_init_141 rfl ?_
  refine r_iconst (v := 0) dX3_init_142 (by decide) ?_
  refine r_putI dX3_init_143 f_X3_45 (alx (by rcases hm with rfl | rfl | rfl <;> rfl) (by omega) (by omega)) (Or.inl rfl) rfl ?_
  refine r_aload_n dX3_init_146 rfl ?_
  refine r_iconst (v := 0) dX3_init_147 (by decide) ?_
  refine r_putI dX3_init_148 f_X3_48 (alx (by rcases hm with rfl | rfl | rfl <;> rfl) (by omega) (by omega)) (Or.inl rfl) rfl ?_
  refine r_vret dX3_init_151 rfl ?_
  refine ⟨rfl, by omega, rfl, fun a ha => ?_, fun j hj => ?_, ?_, ?_, ?_, fun a ha => ?_, fun q hq => ?_, fun i k hi => ?_⟩
  · (repeat (first | rw [up2_at] | rw [up2_k _ _ (by omega)] | rw [up2_a _ _ _ (by omega)] | rw [z1_ne _ _ (by omega)] | rw [z1_at] | rw [mnR_at] | rw [mnR_ne _ (by omega)] | rw [mnI_ne _ (by omega)])) <;> rfl
  · rw [show 12 + m + 1 = 12 + (m + 1) from rfl]
    have e : j = 0 ∨ j = 1 ∨ j = 2 ∨ j = 3 ∨ j = 4 ∨ j = 5 ∨ j = 6 ∨ j = 7 := by omega
    rcases e with rfl | rfl | rfl | rfl | rfl | rfl | rfl | rfl <;> (repeat (first | rw [up2_at] | rw [up2_k _ _ (by omega)] | rw [up2_a _ _ _ (by omega)] | rw [z1_ne _ _ (by omega)] | rw [z1_at] | rw [mnR_at] | rw [mnR_ne _ (by omega)] | rw [mnI_ne _ (by omega)])) <;> rfl
  · (repeat (first | rw [up2_at] | rw [up2_k _ _ (by omega)] | rw [up2_a _ _ _ (by omega)] | rw [z1_ne _ _ (by omega)] | rw [z1_at] | rw [mnR_at] | rw [mnR_ne _ (by omega)] | rw [mnI_ne _ (by omega)])) <;> rfl
  · (repeat (first | rw [up2_at] | rw [up2_k _ _ (by omega)] | rw [up2_a _ _ _ (by omega)] | rw [z1_ne _ _ (by omega)] | rw [z1_at] | rw [mnR_at] | rw [mnR_ne _ (by omega)] | rw [mnI_ne _ (by omega)])) <;> rfl
  · (repeat (first | rw [up2_at] | rw [up2_k _ _ (by omega)] | rw [up2_a _ _ _ (by omega)] | rw [z1_ne _ _ (by omega)] | rw [z1_at] | rw [mnR_at] | rw [mnR_ne _ (by omega)] | rw [mnI_ne _ (by omega)])) <;> rfl
  · (repeat (first | rw [up2_at] | rw [up2_k _ _ (by omega)] | rw [up2_a _ _ _ (by omega)] | rw [z1_ne _ _ (by omega)] | rw [z1_at] | rw [mnR_at] | rw [mnR_ne _ (by omega)] | rw [mnI_ne _ (by omega)])) <;> rfl
  · simp only [skyShL, List.mem_cons, List.not_mem_nil, or_false] at hq
    rcases hq with rfl | rfl | rfl | rfl | rfl | rfl | rfl | rfl | rfl | rfl | rfl | rfl | rfl | rfl | rfl | rfl | rfl | rfl | rfl | rfl | rfl | rfl <;> dsimp only <;> (try rw [show 12 + m + 2 = 12 + (m + 1 + 1) from rfl]) <;> (try rw [show 12 + m + 9 = 12 + (m + 1 + 1 + 1 + 6) from rfl]) <;> (repeat (first | rw [up2_at] | rw [up2_k _ _ (by omega)] | rw [up2_a _ _ _ (by omega)] | rw [z1_ne _ _ (by omega)] | rw [z1_at] | rw [mnR_at] | rw [mnR_ne _ (by omega)] | rw [mnI_ne _ (by omega)])) <;> omega
  · (repeat (first | rw [up2_at] | rw [up2_k _ _ (by omega)] | rw [up2_a _ _ _ (by omega)] | rw [z1_ne _ _ (by omega)] | rw [z1_at] | rw [mnR_at] | rw [mnR_ne _ (by omega)] | rw [mnI_ne _ (by omega)]))
    rw [mnI_at _ (by omega)]
