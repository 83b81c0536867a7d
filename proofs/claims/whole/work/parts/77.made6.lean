/-! the class as it is made -/
def tx1 (j : Nat) : Nat := ([116, 117, 114, 110, 115, 32, 102, 97, 114, 32, 59, 32, 102, 105, 110, 100, 115, 32, 53, 32, 59, 32, 119, 97, 105, 116, 115, 32, 48, 32, 59] : List Nat).getD j 0
theorem tx1_128 : ∀ j, j < 31 → tx1 j < 128 := by decide +kernel
def InA (I0 I : TI) (R0 R : TR) : Prop := (∀ a, (a < 12 ∨ 102 ≤ a) → I a = I0 a) ∧ (∀ a, 102 ≤ a → R a = R0 a) ∧ (∀ j, j < 8 → I 14 j = nI (d0N j)) ∧ I 13 9 = 0 ∧ I 13 10 = 0 ∧ I 13 11 = 0 ∧ (∀ i k, i < 6 → I (16 + i) k = 0) ∧ I 12 3 = 0 ∧ I 12 6 = 1 ∧ I 64 1 = 0 ∧ ∀ q ∈ shL, q.1 < 69 → q ≠ (12, 7, 97) → R q.1 q.2.1 = q.2.2
theorem InA.fr {I0 I I2 : TI} {R0 R R2 : TR} (h : InA I0 I R0 R) (hI : ∀ a, (a < 69 ∨ 102 ≤ a) → I2 a = I a) (hR : ∀ a, (a < 69 ∨ 102 ≤ a) → R2 a = R a) : InA I0 I2 R0 R2 :=
  ⟨fun a ha => (hI a (by omega)).trans (h.1 a ha), fun a ha => (hR a (by omega)).trans (h.2.1 a ha), fun j hj => by rw [hI 14 (by omega)]; exact h.2.2.1 j hj, by rw [hI 13 (by omega)]; exact h.2.2.2.1, by rw [hI 13 (by omega)]; exact h.2.2.2.2.1, by rw [hI 13 (by omega)]; exact h.2.2.2.2.2.1, fun i k hi => by rw [hI _ (by omega)]; exact h.2.2.2.2.2.2.1 i k hi,
   by rw [hI 12 (by omega)]; exact h.2.2.2.2.2.2.2.1, by rw [hI 12 (by omega)]; exact h.2.2.2.2.2.2.2.2.1, by rw [hI 64 (by omega)]; exact h.2.2.2.2.2.2.2.2.2.1, fun q hq h1 h2 => by rw [hR _ (by omega)]; exact h.2.2.2.2.2.2.2.2.2.2 q hq h1 h2⟩
theorem InA.r {I0 I : TI} {R0 R : TR} (h : InA I0 I R0 R) (a k b : Nat) (hm : (a, k, b) ∈ shL) (h2 : a < 69 ∧ (a, k, b) ≠ (12, 7, 97)) : R a k = b := h.2.2.2.2.2.2.2.2.2.2 _ hm h2.1 h2.2
def T1A (k : Nat) (R : TR) : Prop := ∀ j, j < k → R 69 j = 71 + 3 * j ∧ R (71 + 3 * j) 0 = 72 + 3 * j ∧ R (71 + 3 * j) 1 = 73 + 3 * j
def T2A (k : Nat) (I : TI) (R : TR) : Prop := ∀ j, j < k → R 70 j = 89 + 2 * j ∧ R (89 + 2 * j) 2 = 90 + 2 * j ∧ I (89 + 2 * j) 0 = -1 ∧ I (89 + 2 * j) 1 = 0 ∧ ∀ i, I (90 + 2 * j) i = 0
theorem lay_tx {k : Nat} (hk : k < 6) : LAY (12 + (59 + 3 * k)) = (4, 3) := by
  have e : k = 0 ∨ k = 1 ∨ k = 2 ∨ k = 3 ∨ k = 4 ∨ k = 5 := by omega
  rcases e with rfl | rfl | rfl | rfl | rfl | rfl <;> rfl
theorem lay_sh {k : Nat} (hk : k < 4) : LAY (12 + (77 + 2 * k)) = (2, 3) := by
  have e : k = 0 ∨ k = 1 ∨ k = 2 ∨ k = 3 := by omega
  rcases e with rfl | rfl | rfl | rfl <;> rfl
set_option maxRecDepth 20000 in
set_option maxHeartbeats 4000000 in
theorem S_appendC {g : GP} {d n : Nat} {I : TI} {J : TJ} {R : TR} (hsh : Shw n R) {t b : Nat} (hI : I 64 1 = nI t) (ht : t < 160) : Wp g d mX1_append 0 [.ref 64, .int (nI b)] [] 0 0 n I J R (RetI (nI (t + 1)) n (up2 (up2 I 65 t (nI b)) 64 1 (nI (t + 1))) J R) := by
  have hn := hsh.1
  refine r_aload_n dX1_append_0 rfl ?_
  refine r_getIE dX1_append_1 f_X1_15 (hsh.al rfl (by decide)) (Or.inl rfl) hI ?_
  refine r_aload_n dX1_append_4 rfl ?_
  refine r_getR (b := 65) dX1_append_5 f_X1_9 (hsh.al rfl (by decide)) (Or.inl ⟨_, rfl⟩) (hsh.r 64 0 65 (by decide)) (by decide) ?_
  refine r_alen dX1_append_8 (hsh.al rfl (by decide)) (Or.inl rfl) ?_
  refine r_nicmp_lt (b := 160)  (tgt := 15) dX1_append_9 (by decide) rfl rfl (by omega) (by omega) (fun h9 => ?_) (fun h9 => absurd h9 (by omega))
  refine r_aload_n dX1_append_15 rfl ?_
  refine r_getR (b := 65) dX1_append_16 f_X1_9 (hsh.al rfl (by decide)) (Or.inl ⟨_, rfl⟩) (hsh.r 64 0 65 (by decide)) (by decide) ?_
  refine r_aload_n dX1_append_19 rfl ?_
  refine r_getIE dX1_append_20 f_X1_15 (hsh.al rfl (by decide)) (Or.inl rfl) hI ?_
  refine r_iload_n dX1_append_23 rfl ?_
  refine r_iast (j := _) dX1_append_24 (hsh.al rfl (by decide)) (by omega) rfl ?_
  refine r_aload_n dX1_append_25 rfl ?_
  refine r_dup dX1_append_26 rfl ?_
  refine r_getIE dX1_append_27 f_X1_15 (hsh.al rfl (by decide)) (Or.inl rfl) ((congrFun (up2_a _ _ _ (by decide)) 1).trans hI) ?_
  refine r_iconst (v := 1) dX1_append_30 (by decide) ?_
  refine r_niadd (b := 1) dX1_append_31 rfl rfl ?_
  refine r_putI dX1_append_32 f_X1_15 (hsh.al rfl (by decide)) (Or.inl rfl) rfl ?_
  refine r_aload_n dX1_append_35 rfl ?_
  refine r_getIE dX1_append_36 f_X1_15 (hsh.al rfl (by decide)) (Or.inl rfl) (up2_at _ _ _ _) ?_
  refine r_iret dX1_append_39 rfl ?_
  exact retI rfl
set_option maxRecDepth 20000 in
set_option maxHeartbeats 4000000 in
theorem S_ini1 {g : GP} {d : Nat} {Q : TQ} {I0 : TI} {R0 : TR} (K : ∀ (I : TI) (J : TJ) (R : TR), InA I0 I R0 R → T1A 6 R → Wp g (d + 2) mX6_init 105 [.ref 12, .int (nI 6)] [] 13 364 77 I J R Q) : ∀ (r k : Nat) (I : TI) (J : TJ) (R : TR), r + k = 6 → InA I0 I R0 R → T1A k R → Wp g (d + 2) mX6_init 77 [.ref 12, .int (nI k)] [] (13 + 3 * r) (364 + 166 * r) (59 + 3 * k) I J R Q := by
  intro r
  induction r with
  | zero =>
    intro k I J R hrk hA hT
    obtain rfl : k = 6 := by omega
    refine r_iload_n dX6_init_77 rfl ?_
    refine r_aload_n dX6_init_78 rfl ?_
    refine r_getR (b := 69) dX6_init_79 f_X6_35 (alx rfl (by decide) (by omega)) (Or.inl ⟨_, rfl⟩) (hA.r 12 5 69 (by decide) (by decide)) (by decide) ?_
    refine r_alen dX6_init_82 (alx rfl (by decide) (by omega)) (Or.inr (Or.inr (Or.inr (Or.inl rfl)))) ?_
    refine r_nicmp_ge (b := 6)  (tgt := 105) dX6_init_83 (by decide) rfl rfl (by omega) (by omega) (fun h83 => ?_) (fun h83 => absurd h83 (by omega))
    exact K I J R hA hT
  | succ r ih =>
    intro k I J R hrk hA hT
    have hk : k < 6 := by omega
    refine r_iload_n dX6_init_77 rfl ?_
    refine r_aload_n dX6_init_78 rfl ?_
    refine r_getR (b := 69) dX6_init_79 f_X6_35 (alx rfl (by decide) (by omega)) (Or.inl ⟨_, rfl⟩) (hA.r 12 5 69 (by decide) (by decide)) (by decide) ?_
    refine r_alen dX6_init_82 (alx rfl (by decide) (by omega)) (Or.inr (Or.inr (Or.inr (Or.inl rfl)))) ?_
    refine r_nicmp_ge (b := 6)  (tgt := 105) dX6_init_83 (by decide) rfl rfl (by omega) (by omega) (fun h83 => absurd h83 (by omega)) (fun h83 => ?_)
    refine r_aload_n dX6_init_86 rfl ?_
    refine r_getR (b := 69) dX6_init_87 f_X6_35 (alx rfl (by decide) (by omega)) (Or.inl ⟨_, rfl⟩) (hA.r 12 5 69 (by decide) (by decide)) (by decide) ?_
    refine r_iload_n dX6_init_90 rfl ?_
    refine Wp.room (bc := (2 + (13 + 3 * r)) + 1) (bs := (163 + (364 + 166 * r)) + 3) (by omega) (by omega) ?_
    refine r_new dX6_init_91 cl4 w_124 w_83 w_4 (by decide) (lay_tx hk) ?_
    refine r_dup dX6_init_94 rfl ?_
    refine r_callIN0 dX6_init_95 moX4_init rfl rfl (by decide) w_85 (Nat.le_of_ble_eq_true rfl) (Nat.le_of_ble_eq_true rfl) (S_textInit (m := 59 + 3 * k) (by omega)) (fun r n I2 J R hq => ?_)
    obtain ⟨rfl, hn, _, hB⟩ := hq
    obtain rfl : n = 59 + 3 * (k + 1) := by omega
    refine r_aast (a := 69) (j := k) dX6_init_98 (alx (kd := 11) (len := 6) rfl (by decide) (by omega)) hk rfl (alx (lay_tx hk) (by omega) (by omega)) cl4 (Or.inl ⟨rfl, rfl⟩) ?_
    refine r_iincE (b := (k + 1)) dX6_init_99 rfl rfl (nI_succ _).symm rfl ?_
    refine r_goto (tgt := 77) dX6_init_102 (by decide) ?_
    refine ih (k + 1) _ _ _ (by omega) (hA.fr (fun a ha => ?_) (fun a ha => ?_)) (fun j hj => ?_)
    · rw [hB.1 _ (by omega), z1_ne _ _ (by omega)]
    · rw [up2_a _ _ _ (by omega), hB.2.1 _ (by omega), z1_ne _ _ (by omega)]
    · by_cases e : j = k
      · subst e
        refine ⟨?_, ?_, ?_⟩
        · rw [up2_at]; omega
        · rw [up2_a _ _ _ (by omega), show 71 + 3 * j = 12 + (59 + 3 * j) by omega, hB.2.2.1]; omega
        · rw [up2_a _ _ _ (by omega), show 71 + 3 * j = 12 + (59 + 3 * j) by omega, hB.2.2.2]; omega
      · obtain ⟨h1, h2, h3⟩ := hT j (by omega)
        refine ⟨?_, ?_, ?_⟩
        · rw [up2_k _ _ e, hB.2.1 _ (by omega), z1_ne _ _ (by omega)]; exact h1
        · rw [up2_a _ _ _ (by omega), hB.2.1 _ (by omega), z1_ne _ _ (by omega)]; exact h2
        · rw [up2_a _ _ _ (by omega), hB.2.1 _ (by omega), z1_ne _ _ (by omega)]; exact h3
set_option maxRecDepth 20000 in
set_option maxHeartbeats 4000000 in
theorem S_ini2 {g : GP} {d : Nat} {Q : TQ} {I0 : TI} {R0 : TR} (K : ∀ (I : TI) (J : TJ) (R : TR), InA I0 I R0 R → T1A 6 R → T2A 4 I R → Wp g (d + 2) mX6_init 135 [.ref 12, .int (nI 4)] [] 5 192 85 I J R Q) : ∀ (r k : Nat) (I : TI) (J : TJ) (R : TR), r + k = 4 → InA I0 I R0 R → T1A 6 R → T2A k I R → Wp g (d + 2) mX6_init 107 [.ref 12, .int (nI k)] [] (5 + 2 * r) (192 + 43 * r) (77 + 2 * k) I J R Q := by
  intro r
  induction r with
  | zero =>
    intro k I J R hrk hA hT hU
    obtain rfl : k = 4 := by omega
    refine r_iload_n dX6_init_107 rfl ?_
    refine r_aload_n dX6_init_108 rfl ?_
    refine r_getR (b := 70) dX6_init_109 f_X6_45 (alx rfl (by decide) (by omega)) (Or.inl ⟨_, rfl⟩) (hA.r 12 8 70 (by decide) (by decide)) (by decide) ?_
    refine r_alen dX6_init_112 (alx rfl (by decide) (by omega)) (Or.inr (Or.inr (Or.inr (Or.inr rfl)))) ?_
    refine r_nicmp_ge (b := 4)  (tgt := 135) dX6_init_113 (by decide) rfl rfl (by omega) (by omega) (fun h113 => ?_) (fun h113 => absurd h113 (by omega))
    exact K I J R hA hT hU
  | succ r ih =>
    intro k I J R hrk hA hT hU
    have hk : k < 4 := by omega
    refine r_iload_n dX6_init_107 rfl ?_
    refine r_aload_n dX6_init_108 rfl ?_
    refine r_getR (b := 70) dX6_init_109 f_X6_45 (alx rfl (by decide) (by omega)) (Or.inl ⟨_, rfl⟩) (hA.r 12 8 70 (by decide) (by decide)) (by decide) ?_
    refine r_alen dX6_init_112 (alx rfl (by decide) (by omega)) (Or.inr (Or.inr (Or.inr (Or.inr rfl)))) ?_
    refine r_nicmp_ge (b := 4)  (tgt := 135) dX6_init_113 (by decide) rfl rfl (by omega) (by omega) (fun h113 => absurd h113 (by omega)) (fun h113 => ?_)
    refine r_aload_n dX6_init_116 rfl ?_
    refine r_getR (b := 70) dX6_init_117 f_X6_45 (alx rfl (by decide) (by omega)) (Or.inl ⟨_, rfl⟩) (hA.r 12 8 70 (by decide) (by decide)) (by decide) ?_
    refine r_iload_n dX6_init_120 rfl ?_
    refine Wp.room (bc := (1 + (5 + 2 * r)) + 1) (bs := (40 + (192 + 43 * r)) + 3) (by omega) (by omega) ?_
    refine r_new dX6_init_121 cl2 w_126 w_129 w_5 (by decide) (lay_sh hk) ?_
    refine r_dup dX6_init_124 rfl ?_
    refine r_callIN0 dX6_init_125 moX2_init rfl rfl (by decide) w_131 (Nat.le_of_ble_eq_true rfl) (Nat.le_of_ble_eq_true rfl) (S_sheetInit (m := 77 + 2 * k) (by omega)) (fun r n I2 J R hq => ?_)
    obtain ⟨rfl, hn, _, hB⟩ := hq
    obtain rfl : n = 77 + 2 * (k + 1) := by omega
    refine r_aast (a := 70) (j := k) dX6_init_128 (alx (kd := 12) (len := 4) rfl (by decide) (by omega)) hk rfl (alx (lay_sh hk) (by omega) (by omega)) cl2 (Or.inr ⟨rfl, rfl⟩) ?_
    refine r_iincE (b := (k + 1)) dX6_init_129 rfl rfl (nI_succ _).symm rfl ?_
    refine r_goto (tgt := 107) dX6_init_132 (by decide) ?_
    refine ih (k + 1) _ _ _ (by omega) (hA.fr (fun a ha => ?_) (fun a ha => ?_)) (fun j hj => ?_) (fun j hj => ?_)
    · rw [hB.1 _ (by omega), z1_ne _ _ (by omega)]
    · rw [up2_a _ _ _ (by omega), hB.2.1 _ (by omega), z1_ne _ _ (by omega)]
    · obtain ⟨h1, h2, h3⟩ := hT j hj
      refine ⟨?_, ?_, ?_⟩
      · rw [up2_a _ _ _ (by omega), hB.2.1 _ (by omega), z1_ne _ _ (by omega)]; exact h1
      · rw [up2_a _ _ _ (by omega), hB.2.1 _ (by omega), z1_ne _ _ (by omega)]; exact h2
      · rw [up2_a _ _ _ (by omega), hB.2.1 _ (by omega), z1_ne _ _ (by omega)]; exact h3
    · by_cases e : j = k
      · subst e
        rw [show 90 + 2 * j = 12 + (77 + 2 * j) + 1 by omega, show 89 + 2 * j = 12 + (77 + 2 * j) by omega]
        refine ⟨?_, ?_, hB.2.2.2.1, hB.2.2.2.2.1, hB.2.2.2.2.2⟩
        · rw [up2_at]
        · rw [up2_a _ _ _ (by omega), hB.2.2.1]
      · obtain ⟨h1, h2, h3, h4, h5⟩ := hU j (by omega)
        refine ⟨?_, ?_, ?_, ?_, fun i => ?_⟩
        · rw [up2_k _ _ e, hB.2.1 _ (by omega), z1_ne _ _ (by omega)]; exact h1
        · rw [up2_a _ _ _ (by omega), hB.2.1 _ (by omega), z1_ne _ _ (by omega)]; exact h2
        · rw [hB.1 _ (by omega), z1_ne _ _ (by omega)]; exact h3
        · rw [hB.1 _ (by omega), z1_ne _ _ (by omega)]; exact h4
        · rw [hB.1 _ (by omega), z1_ne _ _ (by omega)]; exact h5 i
def InB (I0 I : TI) (R0 R : TR) : Prop := (∀ a, (a < 12 ∨ 102 ≤ a) → I a = I0 a) ∧ (∀ a, 102 ≤ a → R a = R0 a) ∧ (∀ j, j < 8 → I 14 j = nI (d0N j)) ∧ I 13 9 = 0 ∧ I 13 10 = 0 ∧ I 13 11 = 0 ∧ (∀ i k, i < 6 → I (16 + i) k = 0) ∧ I 12 3 = 0 ∧ I 12 6 = 1 ∧ (∀ j, j < 4 → I (89 + 2 * j) 0 = -1 ∧ I (89 + 2 * j) 1 = 0 ∧ ∀ i, I (90 + 2 * j) i = 0) ∧ Shw 90 R
theorem InB.fr {I0 I I2 : TI} {R0 R R2 : TR} (h : InB I0 I R0 R) (hI : ∀ a, (a < 64 ∨ 73 < a) → I2 a = I a) (hR : ∀ a, 102 ≤ a → R2 a = R a) (hs : Shw 90 R2) : InB I0 I2 R0 R2 :=
  ⟨fun a ha => (hI a (by omega)).trans (h.1 a ha), fun a ha => (hR a (by omega)).trans (h.2.1 a ha), fun j hj => by rw [hI 14 (by omega)]; exact h.2.2.1 j hj, by rw [hI 13 (by omega)]; exact h.2.2.2.1, by rw [hI 13 (by omega)]; exact h.2.2.2.2.1, by rw [hI 13 (by omega)]; exact h.2.2.2.2.2.1, fun i k hi => by rw [hI _ (by omega)]; exact h.2.2.2.2.2.2.1 i k hi,
   by rw [hI 12 (by omega)]; exact h.2.2.2.2.2.2.2.1, by rw [hI 12 (by omega)]; exact h.2.2.2.2.2.2.2.2.1, fun j hj => by
     obtain ⟨h1, h2, h3⟩ := h.2.2.2.2.2.2.2.2.2.1 j hj
     exact ⟨by rw [hI _ (by omega)]; exact h1, by rw [hI _ (by omega)]; exact h2, fun i => by rw [hI _ (by omega)]; exact h3 i⟩, hs⟩
theorem InB.sw {I0 I : TI} {R0 R : TR} (h : InB I0 I R0 R) : Shw 90 R := h.2.2.2.2.2.2.2.2.2.2
set_option maxRecDepth 20000 in
set_option maxHeartbeats 4000000 in
theorem S_ini3 {g : GP} {d : Nat} {Q : TQ} {I0 : TI} {R0 R : TR} (h9 : ∀ j, j < 31 → I0 9 j = nI (tx1 j)) (K : ∀ (I : TI) (J : TJ), InB I0 I R0 R → I 64 1 = nI 31 → (∀ j, j < 31 → I 65 j = nI (tx1 j)) → Wp g (d + 4) mX6_init 185 [.ref 12, .int (nI 31)] [] 0 0 90 I J R Q) : ∀ (r k : Nat) (I : TI) (J : TJ), r + k = 31 → InB I0 I R0 R → I 64 1 = nI k → (∀ j, j < k → I 65 j = nI (tx1 j)) → Wp g (d + 4) mX6_init 156 [.ref 12, .int (nI k)] [] 0 0 90 I J R Q := by
  intro r
  induction r with
  | zero =>
    intro k I J hrk hA hT hU
    obtain rfl : k = 31 := by omega
    refine r_iload_n dX6_init_156 rfl ?_
    refine r_ldcS (i := 0) dX6_init_157 rfl (by decide) ?_
    refine r_callVS0I dX6_init_159 moJ0_length_8abf5 w_198 w_199 w_200 (by omega) rfl (Nat.le_of_ble_eq_true rfl) (Nat.le_of_ble_eq_true rfl) S_len0 ?_
    refine r_nicmp_ge (b := 31)  (tgt := 185) dX6_init_162 (by decide) rfl rfl (by omega) (by omega) (fun h162 => ?_) (fun h162 => absurd h162 (by omega))
    exact K I J hA hT hU
  | succ r ih =>
    intro k I J hrk hA hT hU
    have hk : k < 31 := by omega
    have hsh := hA.sw
    refine r_iload_n dX6_init_156 rfl ?_
    refine r_ldcS (i := 0) dX6_init_157 rfl (by decide) ?_
    refine r_callVS0I dX6_init_159 moJ0_length_8abf5 w_198 w_199 w_200 (by omega) rfl (Nat.le_of_ble_eq_true rfl) (Nat.le_of_ble_eq_true rfl) S_len0 ?_
    refine r_nicmp_ge (b := 31)  (tgt := 185) dX6_init_162 (by decide) rfl rfl (by omega) (by omega) (fun h162 => absurd h162 (by omega)) (fun h162 => ?_)
    refine r_aload_n dX6_init_165 rfl ?_
    refine r_getR (b := 64) dX6_init_166 f_X6_29 (hsh.al rfl (by decide)) (Or.inr ⟨_, rfl⟩) (hsh.r 12 4 64 (by decide)) (by decide) ?_
    refine r_ldcS (i := 0) dX6_init_169 rfl (by decide) ?_
    refine r_iload_n dX6_init_171 rfl ?_
    refine r_callVS1I dX6_init_172 moJ0_charAt_5068e w_208 w_209 w_210 (by omega) rfl (Nat.le_of_ble_eq_true rfl) (Nat.le_of_ble_eq_true rfl) (S_chAt0 hk (by rw [hA.1 (9 + 0) (by decide)]; exact h9 k hk) (tx1_128 k hk)) ?_
    refine r_callV1I dX6_init_175 moX1_append w_246 w_247 w_248 (hsh.al rfl (by decide)) cl1 rfl (Nat.le_of_ble_eq_true rfl) (Nat.le_of_ble_eq_true rfl) (S_appendC hsh hT (by omega)) ?_
    refine r_pop dX6_init_178 rfl ?_
    refine r_iincE (b := (k + 1)) dX6_init_179 rfl rfl (nI_succ _).symm rfl ?_
    refine r_goto (tgt := 156) dX6_init_182 (by decide) ?_
    refine ih (k + 1) _ _ (by omega) (hA.fr (fun a ha => ?_) (fun a ha => rfl) hsh) (up2_at _ _ _ _) (fun j hj => ?_)
    · rw [up2_a _ _ _ (by omega), up2_a _ _ _ (by omega)]
    · rw [up2_a _ _ _ (by decide)]
      by_cases e : j = k
      · rw [e, up2_at]
      · rw [up2_k _ _ e]; exact hU j (by omega)
