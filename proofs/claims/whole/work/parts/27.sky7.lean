def inS (s a : Nat) : Prop := s ≤ a ∧ a ≤ s + 16
theorem inS_no {s o a : Nat} (hs : isSky s) (ho : isSky o) (hne : s ≠ o) (h : inS o a) : ¬ inS s a := by
  unfold inS at *
  rcases hs with rfl | rfl | rfl <;> rcases ho with rfl | rfl | rfl <;> first | exact absurd rfl hne | omega
def TakeOK (s o : Nat) (I I' : TI) : Prop := (∀ a, ¬ inS s a → I' a = I a) ∧ (∀ j, j < 8 → I' (s + 1) j = I (o + 1) j) ∧ (∀ i, i < 6 → ∀ k, k < 7 → I' (s + 3 + i) k = I (o + 3 + i) k) ∧ (∀ i, i < 7 → ∀ t, t < 200 → I' (s + 10 + i) t = I (o + 10 + i) t) ∧ I' s 9 = I o 9 ∧ I' s 10 = I o 10 ∧ I' s 11 = I o 11
theorem cp0 {I : TI} {src dst k j : Nat} (h : j < k) : cpI I src dst 0 0 k dst j = I src j := by
  rw [cpI_at, pk_cpy_in (Nat.zero_le _) (by omega)]
  congr 1
  omega
set_option maxRecDepth 20000 in
set_option maxHeartbeats 4000000 in
theorem S_takeAfter {g : GP} {d n : Nat} {I : TI} {J : TJ} {R : TR} {s o : Nat} (hsh : Sh n R) (hs : isSky s) (ho : isSky o) (hne : s ≠ o) : Wp g (d + 1) mX3_takeAfter 0 [.ref s, .ref o, .null] [] 0 0 n I J R (PostI n J R none (TakeOK s o I)) := by
  have hno : ∀ q, q ≤ 16 → ¬ inS s (o + q) := fun q hq => inS_no hs ho hne ⟨Nat.le_add_right _ _, by omega⟩
  have no0 : ¬ inS s o := hno 0 (by decide)
  have loop2 : ∀ m i I2, i + m = 7 → (∀ a, ¬ inS s a → I2 a = I a) → (∀ j, j < 8 → I2 (s + 1) j = I (o + 1) j) → (∀ q, q < 6 → ∀ k, k < 7 → I2 (s + 3 + q) k = I (o + 3 + q) k) → (∀ q, q < i → ∀ t, t < 200 → I2 (s + 10 + q) t = I (o + 10 + q) t) → Wp g (d + 1) mX3_takeAfter 50 [.ref s, .ref o, .int (nI i)] [] 0 0 n I2 J R (PostI n J R none (TakeOK s o I)) := by
    intro m
    induction m with
    | zero =>
      intro i I2 hi f1 f2 f3 f4
      have hos : o ≠ s := Ne.symm hne
      refine r_iload_n dX3_takeAfter_50 rfl ?_
      refine r_bipush (v := 7) dX3_takeAfter_51 (by decide) ?_
      refine r_nicmp_ge (b := 7)  (tgt := 82) dX3_takeAfter_53 (by decide) rfl rfl (by omega) (by omega) (fun h53 => ?_) (fun h53 => absurd h53 (by omega))
      refine r_aload_n dX3_takeAfter_82 rfl ?_
      refine r_aload_n dX3_takeAfter_83 rfl ?_
      refine r_getI dX3_takeAfter_84 f_X3_41 (hsh.k0 ho) (Or.inl rfl) ?_
      refine r_putI dX3_takeAfter_87 f_X3_41 (hsh.k0 hs) (Or.inl rfl) rfl ?_
      refine r_aload_n dX3_takeAfter_90 rfl ?_
      refine r_aload_n dX3_takeAfter_91 rfl ?_
      refine r_getI dX3_takeAfter_92 f_X3_45 (hsh.k0 ho) (Or.inl rfl) ?_
      refine r_putI dX3_takeAfter_95 f_X3_45 (hsh.k0 hs) (Or.inl rfl) rfl ?_
      refine r_aload_n dX3_takeAfter_98 rfl ?_
      refine r_aload_n dX3_takeAfter_99 rfl ?_
      refine r_getI dX3_takeAfter_100 f_X3_48 (hsh.k0 ho) (Or.inl rfl) ?_
      refine r_putI dX3_takeAfter_103 f_X3_48 (hsh.k0 hs) (Or.inl rfl) rfl ?_
      refine r_vret dX3_takeAfter_106 rfl ?_
      refine ⟨rfl, rfl, rfl, rfl, fun a ha => ?_, fun j hj => ?_, fun q hq k hk => ?_, fun q hq t ht => ?_, ?_, ?_, ?_⟩
      · have hs0 : a ≠ s := fun e => ha (by subst e; exact ⟨Nat.le_refl _, by omega⟩)
        rw [up2_a _ _ _ hs0, up2_a _ _ _ hs0, up2_a _ _ _ hs0]; exact f1 a ha
      · rw [up2_a _ _ _ (by omega), up2_a _ _ _ (by omega), up2_a _ _ _ (by omega)]; exact f2 j hj
      · rw [up2_a _ _ _ (by omega), up2_a _ _ _ (by omega), up2_a _ _ _ (by omega)]; exact f3 q hq k hk
      · rw [up2_a _ _ _ (by omega), up2_a _ _ _ (by omega), up2_a _ _ _ (by omega)]; exact f4 q (by omega) t ht
      · rw [up2_k _ _ (by decide), up2_k _ _ (by decide), up2_at, f1 o no0]
      · rw [up2_k _ _ (by decide), up2_at, up2_a _ _ _ hos, f1 o no0]
      · rw [up2_at, up2_a _ _ _ hos, up2_a _ _ _ hos, f1 o no0]
    | succ m ih =>
      intro i I2 hi f1 f2 f3 f4
      refine r_iload_n dX3_takeAfter_50 rfl ?_
      refine r_bipush (v := 7) dX3_takeAfter_51 (by decide) ?_
      refine r_nicmp_ge (b := 7)  (tgt := 82) dX3_takeAfter_53 (by decide) rfl rfl (by omega) (by omega) (fun h53 => absurd h53 (by omega)) (fun h53 => ?_)
      refine r_aload_n dX3_takeAfter_56 rfl ?_
      refine r_getR (b := (o + 9)) dX3_takeAfter_57 f_X3_38 (hsh.k0 ho) (Or.inl ⟨_, rfl⟩) (hsh.kr8 ho) (by omega) ?_
      refine r_iload_n dX3_takeAfter_60 rfl ?_
      refine r_aald (j := i) (b := (o + 10 + i)) dX3_takeAfter_61 (hsh.k9 ho) (Or.inl rfl) (by omega) rfl (hsh.krc ho (show i < 7 by omega)) (by omega) ?_
      refine r_iconst (v := 0) dX3_takeAfter_62 (by decide) ?_
      refine r_aload_n dX3_takeAfter_63 rfl ?_
      refine r_getR (b := (s + 9)) dX3_takeAfter_64 f_X3_38 (hsh.k0 hs) (Or.inl ⟨_, rfl⟩) (hsh.kr8 hs) (by omega) ?_
      refine r_iload_n dX3_takeAfter_67 rfl ?_
      refine r_aald (j := i) (b := (s + 10 + i)) dX3_takeAfter_68 (hsh.k9 hs) (Or.inl rfl) (by omega) rfl (hsh.krc hs (show i < 7 by omega)) (by omega) ?_
      refine r_iconst (v := 0) dX3_takeAfter_69 (by decide) ?_
      refine r_sipush (v := 200) dX3_takeAfter_70 (by decide) ?_
      refine r_acopy dX3_takeAfter_73 w_648 w_650 w_649 w_17 (sp := 0) (dp := 0) (k := 200) (hsh.kc ho (show i < 7 by omega)) (hsh.kc hs (show i < 7 by omega)) rfl rfl rfl (by decide) (by decide) (Nat.le_of_ble_eq_true rfl) ?_
      refine r_iincE (b := (i + 1)) dX3_takeAfter_76 rfl rfl (nI_succ _).symm rfl ?_
      refine r_goto (tgt := 50) dX3_takeAfter_79 (by decide) ?_
      refine ih (i + 1) _ (by omega) (fun a ha => ?_) (fun j hj => ?_) (fun q hq k hk => ?_) (fun q hq t ht => ?_)
      · rw [cpI_ne _ (fun e => ha ⟨by omega, by omega⟩)]; exact f1 a ha
      · rw [cpI_ne _ (by omega)]; exact f2 j hj
      · rw [cpI_ne _ (by omega)]; exact f3 q hq k hk
      · by_cases e : q = i
        · subst e; rw [cp0 ht, f1 _ (by have := hno (10 + q) (by omega); rwa [← Nat.add_assoc] at this)]
        · rw [cpI_ne _ (by omega)]; exact f4 q (by omega) t ht
  have loop1 : ∀ m i I2, i + m = 6 → (∀ a, ¬ inS s a → I2 a = I a) → (∀ j, j < 8 → I2 (s + 1) j = I (o + 1) j) → (∀ q, q < i → ∀ k, k < 7 → I2 (s + 3 + q) k = I (o + 3 + q) k) → Wp g (d + 1) mX3_takeAfter 17 [.ref s, .ref o, .int (nI i)] [] 0 0 n I2 J R (PostI n J R none (TakeOK s o I)) := by
    intro m
    induction m with
    | zero =>
      intro i I2 hi f1 f2 f3
      refine r_iload_n dX3_takeAfter_17 rfl ?_
      refine r_bipush (v := 6) dX3_takeAfter_18 (by decide) ?_
      refine r_nicmp_ge (b := 6)  (tgt := 48) dX3_takeAfter_20 (by decide) rfl rfl (by omega) (by omega) (fun h20 => ?_) (fun h20 => absurd h20 (by omega))
      refine r_iconst (v := 0) dX3_takeAfter_48 (by decide) ?_
      refine r_istore_n dX3_takeAfter_49 (by decide) rfl ?_
      exact loop2 7 0 I2 rfl f1 f2 (fun q hq => f3 q (by omega)) (fun q hq => absurd hq (by omega))
    | succ m ih =>
      intro i I2 hi f1 f2 f3
      refine r_iload_n dX3_takeAfter_17 rfl ?_
      refine r_bipush (v := 6) dX3_takeAfter_18 (by decide) ?_
      refine r_nicmp_ge (b := 6)  (tgt := 48) dX3_takeAfter_20 (by decide) rfl rfl (by omega) (by omega) (fun h20 => absurd h20 (by omega)) (fun h20 => ?_)
      refine r_aload_n dX3_takeAfter_23 rfl ?_
      refine r_getR (b := (o + 2)) dX3_takeAfter_24 f_X3_17 (hsh.k0 ho) (Or.inl ⟨_, rfl⟩) (hsh.kr1 ho) (by omega) ?_
      refine r_iload_n dX3_takeAfter_27 rfl ?_
      refine r_aald (j := i) (b := (o + 3 + i)) dX3_takeAfter_28 (hsh.k2 ho) (Or.inl rfl) (by omega) rfl (hsh.krt ho (show i < 6 by omega)) (by omega) ?_
      refine r_iconst (v := 0) dX3_takeAfter_29 (by decide) ?_
      refine r_aload_n dX3_takeAfter_30 rfl ?_
      refine r_getR (b := (s + 2)) dX3_takeAfter_31 f_X3_17 (hsh.k0 hs) (Or.inl ⟨_, rfl⟩) (hsh.kr1 hs) (by omega) ?_
      refine r_iload_n dX3_takeAfter_34 rfl ?_
      refine r_aald (j := i) (b := (s + 3 + i)) dX3_takeAfter_35 (hsh.k2 hs) (Or.inl rfl) (by omega) rfl (hsh.krt hs (show i < 6 by omega)) (by omega) ?_
      refine r_iconst (v := 0) dX3_takeAfter_36 (by decide) ?_
      refine r_bipush (v := 7) dX3_takeAfter_37 (by decide) ?_
      refine r_acopy dX3_takeAfter_39 w_648 w_650 w_649 w_17 (sp := 0) (dp := 0) (k := 7) (hsh.kt ho (show i < 6 by omega)) (hsh.kt hs (show i < 6 by omega)) rfl rfl rfl (by decide) (by decide) (Nat.le_of_ble_eq_true rfl) ?_
      refine r_iincE (b := (i + 1)) dX3_takeAfter_42 rfl rfl (nI_succ _).symm rfl ?_
      refine r_goto (tgt := 17) dX3_takeAfter_45 (by decide) ?_
      refine ih (i + 1) _ (by omega) (fun a ha => ?_) (fun j hj => ?_) (fun q hq k hk => ?_)
      · rw [cpI_ne _ (fun e => ha ⟨by omega, by omega⟩)]; exact f1 a ha
      · rw [cpI_ne _ (by omega)]; exact f2 j hj
      · by_cases e : q = i
        · subst e; rw [cp0 hk, f1 _ (by have := hno (3 + q) (by omega); rwa [← Nat.add_assoc] at this)]
        · rw [cpI_ne _ (by omega)]; exact f3 q (by omega) k hk
  refine r_aload_n dX3_takeAfter_0 rfl ?_
  refine r_getR (b := (o + 1)) dX3_takeAfter_1 f_X3_9 (hsh.k0 ho) (Or.inl ⟨_, rfl⟩) (hsh.kr0 ho) (by omega) ?_
  refine r_iconst (v := 0) dX3_takeAfter_4 (by decide) ?_
  refine r_aload_n dX3_takeAfter_5 rfl ?_
  refine r_getR (b := (s + 1)) dX3_takeAfter_6 f_X3_9 (hsh.k0 hs) (Or.inl ⟨_, rfl⟩) (hsh.kr0 hs) (by omega) ?_
  refine r_iconst (v := 0) dX3_takeAfter_9 (by decide) ?_
  refine r_bipush (v := 8) dX3_takeAfter_10 (by decide) ?_
  refine r_acopy dX3_takeAfter_12 w_648 w_650 w_649 w_17 (sp := 0) (dp := 0) (k := 8) (hsh.k1 ho) (hsh.k1 hs) rfl rfl rfl (by decide) (by decide) (Nat.le_of_ble_eq_true rfl) ?_
  refine r_iconst (v := 0) dX3_takeAfter_15 (by decide) ?_
  refine r_istore_n dX3_takeAfter_16 (by decide) rfl ?_
  exact loop1 6 0 _ rfl (fun a ha => cpI_ne _ (fun e => ha ⟨by omega, by omega⟩)) (fun j hj => cp0 hj) (fun q hq => absurd hq (by omega))
