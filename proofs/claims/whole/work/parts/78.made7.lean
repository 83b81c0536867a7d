/-! the class as it is made: from its first row to its last -/
def IniQ (I0 : TI) (R0 : TR) : TQ := fun r n2 I2 _ R2 => r = none ∧ n2 = 90 ∧ InB I0 I2 R0 R2 ∧ I2 64 1 = 0 ∧ ∃ en, TextOK I2 71 en ∧ tvN (mkA I2 71) en = rdTV tx1 31
theorem tx1_ok : rdOk tx1 31 = true := by decide +kernel
set_option maxRecDepth 20000 in
set_option maxHeartbeats 4000000 in
theorem S_ini4 {g : GP} {d : Nat} {I0 I : TI} {J : TJ} {R0 R : TR} (hS : STR I0) (hA : InB I0 I R0 R) (hT : I 64 1 = nI 31) (hU : ∀ j, j < 31 → I 65 j = nI (tx1 j)) : Wp g (d + 62) mX6_init 185 [.ref 12, .int (nI 31)] [] 0 0 90 I J R (IniQ I0 R0) := by
  have hsh := hA.sw
  refine r_aload_n dX6_init_185 rfl ?_
  refine r_getR (b := 64) dX6_init_186 f_X6_29 (alx rfl (by decide) (by decide)) (Or.inr ⟨_, rfl⟩) (hsh.r 12 4 64 (by decide)) (by decide) ?_
  refine r_aload_n dX6_init_189 rfl ?_
  refine r_getR (b := 69) dX6_init_190 f_X6_35 (alx rfl (by decide) (by decide)) (Or.inl ⟨_, rfl⟩) (hsh.r 12 5 69 (by decide)) (by decide) ?_
  refine r_iconst (v := 0) dX6_init_193 (by decide) ?_
  refine r_aald (j := 0) (b := 71) dX6_init_194 (alx rfl (by decide) (by decide)) (Or.inr (Or.inl rfl)) (by decide) (by decide) (hsh.r 69 0 71 (by decide)) (by decide) ?_
  refine r_callV1N dX6_init_195 moX1_readInto w_250 w_251 w_252 (alx rfl (by decide) (by decide)) cl1 rfl (Nat.le_of_ble_eq_true rfl) (Nat.le_of_ble_eq_true rfl) (S_readInto (b := tx1) (z := 31) hsh (Or.inr (Or.inl rfl)) ⟨hT, by decide, fun j hj => ⟨hU j hj, by have := tx1_128 j hj; omega⟩⟩ (hS.fr fun a ha => hA.1 a (Or.inl ha))) (fun r n I2 J R hq => ?_)
  obtain ⟨rfl, rfl, rfl, rfl, g1, g2, g3⟩ := hq
  refine r_some rfl ?_
  refine r_pop dX6_init_198 rfl ?_
  refine r_vret dX6_init_199 rfl ?_
  exact ⟨rfl, rfl, hA.fr (fun a ha => g1 a (by omega) (by omega) (by omega) (by omega)) (fun a ha => up2_a _ _ _ (by omega)) (hsh.up 71 (by decide)), g2, g3 tx1_ok⟩
theorem sh_cases : ∀ q ∈ shL, q.1 < 102 → (q.1 < 69 ∧ q ≠ (12, 7, 97)) ∨ q = (12, 7, 97) ∨ (q.1 = 69 ∧ q.2.1 < 6 ∧ q.2.2 = 71 + 3 * q.2.1) ∨ (71 ≤ q.1 ∧ q.1 < 89 ∧ (q.1 - 71) % 3 = 0 ∧ ((q.2.1 = 0 ∧ q.2.2 = q.1 + 1) ∨ (q.2.1 = 1 ∧ q.2.2 = q.1 + 2))) ∨ (q.1 = 70 ∧ q.2.1 < 4 ∧ q.2.2 = 89 + 2 * q.2.1) ∨ (89 ≤ q.1 ∧ q.1 < 97 ∧ (q.1 - 89) % 2 = 0 ∧ q.2.1 = 2 ∧ q.2.2 = q.1 + 1) ∨ q ∈ [(97, 0, 69), (97, 1, 98), (97, 2, 99), (97, 3, 100), (97, 4, 101)] := by decide +kernel
theorem InA.b {I0 I I2 : TI} {R0 R R2 : TR} (hA : InA I0 I R0 R) (hT : T1A 6 R) (hU : T2A 4 I R) (hI : ∀ a, (a < 97 ∨ 101 < a) → I2 a = I a) (hR : ∀ a, a ≠ 12 → (a < 97 ∨ 101 < a) → R2 a = R a) (h12 : ∀ k, k ≠ 7 → R2 12 k = R 12 k) (h7 : R2 12 7 = 97) (hW : R2 97 0 = 69 ∧ R2 97 1 = 98 ∧ R2 97 2 = 99 ∧ R2 97 3 = 100 ∧ R2 97 4 = 101) : InB I0 I2 R0 R2 := by
  refine ⟨fun a ha => (hI a (by omega)).trans (hA.1 a ha), fun a ha => (hR a (by omega) (by omega)).trans (hA.2.1 a ha), fun j hj => by rw [hI 14 (by omega)]; exact hA.2.2.1 j hj, by rw [hI 13 (by omega)]; exact hA.2.2.2.1, by rw [hI 13 (by omega)]; exact hA.2.2.2.2.1, by rw [hI 13 (by omega)]; exact hA.2.2.2.2.2.1, fun i k hi => by rw [hI _ (by omega)]; exact hA.2.2.2.2.2.2.1 i k hi, by rw [hI 12 (by omega)]; exact hA.2.2.2.2.2.2.2.1, by rw [hI 12 (by omega)]; exact hA.2.2.2.2.2.2.2.2.1, fun j hj => ?_, Nat.le_refl _, fun q hq hb => ?_⟩
  · obtain ⟨-, -, h3, h4, h5⟩ := hU j hj
    exact ⟨by rw [hI _ (by omega)]; exact h3, by rw [hI _ (by omega)]; exact h4, fun i => by rw [hI _ (by omega)]; exact h5 i⟩
  · have hc := sh_cases q hq hb
    have hq0 := hA.2.2.2.2.2.2.2.2.2.2 q hq
    obtain ⟨a, k, b⟩ := q
    dsimp only at hc hq0 hb ⊢
    rcases hc with ⟨h1, h2⟩ | h1 | ⟨rfl, h2, rfl⟩ | ⟨h1, h2, h3, h4⟩ | ⟨rfl, h2, rfl⟩ | ⟨h1, h2, h3, rfl, rfl⟩ | h1
    · by_cases e : a = 12
      · subst e
        have e2 : k ≠ 7 := by
          intro e3
          subst e3
          have h97 : ∀ q ∈ shL, q.1 = 12 → q.2.1 = 7 → q.2.2 = 97 := by decide +kernel
          have := h97 _ hq rfl rfl
          dsimp only at this
          subst this
          exact h2 rfl
        rw [h12 k e2]
        exact hq0 h1 h2
      · rw [hR a e (by omega)]
        exact hq0 h1 h2
    · simp only [Prod.mk.injEq] at h1
      obtain ⟨rfl, rfl, rfl⟩ := h1
      exact h7
    · rw [hR 69 (by decide) (by decide)]
      exact (hT k h2).1
    · obtain ⟨j, rfl⟩ : ∃ j, a = 71 + 3 * j := ⟨(a - 71) / 3, by omega⟩
      have hj : j < 6 := by omega
      rw [hR _ (by omega) (by omega)]
      rcases h4 with ⟨rfl, rfl⟩ | ⟨rfl, rfl⟩
      · rw [(hT j hj).2.1]; omega
      · rw [(hT j hj).2.2]; omega
    · rw [hR 70 (by decide) (by decide)]
      exact (hU k h2).1
    · obtain ⟨j, rfl⟩ : ∃ j, a = 89 + 2 * j := ⟨(a - 89) / 2, by omega⟩
      have hj : j < 4 := by omega
      rw [hR _ (by omega) (by omega), (hU j hj).2.1]
      omega
    · simp only [List.mem_cons, List.not_mem_nil, or_false, Prod.mk.injEq] at h1
      rcases h1 with ⟨rfl, rfl, rfl⟩ | ⟨rfl, rfl, rfl⟩ | ⟨rfl, rfl, rfl⟩ | ⟨rfl, rfl, rfl⟩ | ⟨rfl, rfl, rfl⟩
      · exact hW.1
      · exact hW.2.1
      · exact hW.2.2.1
      · exact hW.2.2.2.1
      · exact hW.2.2.2.2
set_option maxRecDepth 20000 in
set_option maxHeartbeats 4000000 in
theorem S_ini5 {g : GP} {d : Nat} {I0 I : TI} {J : TJ} {R0 R : TR} (h9 : ∀ j, j < 31 → I0 9 j = nI (tx1 j)) (hS : STR I0) (hA : InA I0 I R0 R) (hT : T1A 6 R) (hU : T2A 4 I R) : Wp g (d + 62) mX6_init 135 [.ref 12, .int (nI 4)] [] 5 192 85 I J R (IniQ I0 R0) := by
  refine r_aload_n dX6_init_135 rfl ?_
  refine r_new dX6_init_136 cl5 w_147 w_148 w_6 (by decide) rfl ?_
  refine r_dup dX6_init_139 rfl ?_
  refine r_aload_n dX6_init_140 rfl ?_
  refine r_getR (b := 13) dX6_init_141 f_X6_10 (alx rfl (by decide) (by decide)) (Or.inr ⟨_, rfl⟩) (by rw [z1_ne _ _ (by decide)]; exact hA.r 12 0 13 (by decide) (by decide)) (by decide) ?_
  refine r_aload_n dX6_init_144 rfl ?_
  refine r_getR (b := 69) dX6_init_145 f_X6_35 (alx rfl (by decide) (by decide)) (Or.inl ⟨_, rfl⟩) (by rw [z1_ne _ _ (by decide)]; exact hA.r 12 5 69 (by decide) (by decide)) (by decide) ?_
  refine Wp.room (bc := 4 + 0) (bs := 180 + 0) (by decide) (by decide) ?_
  refine r_callI2 dX6_init_148 moX5_init rfl rfl w_149 w_150 (Nat.le_of_ble_eq_true rfl) (Nat.le_of_ble_eq_true rfl) (S_walkInit (by rw [z1_ne _ _ (by decide)]; exact (hT 0 (by decide)).1)) (fun r n I2 J R hq => ?_)
  obtain ⟨rfl, rfl, hW⟩ := hq
  refine r_putR dX6_init_151 f_X6_56 (alx rfl (by decide) (by decide)) (Or.inr ⟨rfl, rfl⟩) (Or.inr ⟨_, rfl⟩) (by omega) ?_
  refine r_iconst (v := 0) dX6_init_154 (by decide) ?_
  refine r_top (v := nI 0) (by decide) ?_
  refine r_istore_n dX6_init_155 (by decide) rfl ?_
  refine S_ini3 h9 (fun I J a b c => S_ini4 hS a b c) 31 0 _ _ (by decide) (hA.b hT hU (fun a ha => ?_) (fun a h1 ha => ?_) (fun k hk => ?_) (up2_at _ _ _ _) ⟨?_, ?_, ?_, ?_, ?_⟩) ?_ (fun j hj => absurd hj (Nat.not_lt_zero _))
  · rw [hW.1 a ha, z1_ne _ _ (by omega)]
  · rw [up2_a _ _ _ h1, hW.2.1 a ha, z1_ne _ _ (by omega)]
  · rw [up2_k _ _ hk, hW.2.1 12 (by decide), z1_ne _ _ (by decide)]
  · rw [up2_a _ _ _ (by decide)]; exact hW.2.2.1
  · rw [up2_a _ _ _ (by decide)]; exact hW.2.2.2.1
  · rw [up2_a _ _ _ (by decide)]; exact hW.2.2.2.2.1
  · rw [up2_a _ _ _ (by decide)]; exact hW.2.2.2.2.2.1
  · rw [up2_a _ _ _ (by decide)]; exact hW.2.2.2.2.2.2
  · rw [hW.1 64 (by decide), z1_ne _ _ (by decide)]; exact hA.2.2.2.2.2.2.2.2.2.1
set_option maxRecDepth 20000 in
set_option maxHeartbeats 4000000 in
theorem S_classInit {g : GP} {d : Nat} {I : TI} {J : TJ} {R0 : TR} (h9 : ∀ j, j < 31 → I 9 j = nI (tx1 j)) (hS : STR I) : Wp g (d + 62) mX6_init 0 [.ref 12, .null] [] 89 6129 1 I J R0 (IniQ I R0) := by
  refine r_aload_n dX6_init_0 rfl ?_
  refine r_objInit dX6_init_1 w_23 wObj1 wObj2 (Nat.le_of_ble_eq_true rfl) ?_
  refine r_aload_n dX6_init_4 rfl ?_
  refine r_new dX6_init_5 cl3 w_26 w_27 w_2 (by decide) rfl ?_
  refine r_dup dX6_init_8 rfl ?_
  refine Wp.room (bc := 16 + 72) (bs := 1463 + 4654) (by decide) (by decide) ?_
  refine r_callIN0 dX6_init_9 moX3_init rfl rfl (by decide) w_29 (Nat.le_of_ble_eq_true rfl) (Nat.le_of_ble_eq_true rfl) (S_skyInit (m := 1) (by decide)) (fun r n I2 J R hq => ?_)
  obtain ⟨rfl, hn, rfl, hS1⟩ := hq
  obtain rfl : n = 18 := by omega
  refine r_putR dX6_init_12 f_X6_10 (alx rfl (by decide) (by decide)) (Or.inr ⟨rfl, rfl⟩) (Or.inr ⟨_, rfl⟩) (by omega) ?_
  refine r_aload_n dX6_init_15 rfl ?_
  refine r_new dX6_init_16 cl3 w_26 w_27 w_2 (by decide) rfl ?_
  refine r_dup dX6_init_19 rfl ?_
  refine Wp.room (bc := 16 + 55) (bs := 1463 + 3179) (by decide) (by decide) ?_
  refine r_callIN0 dX6_init_20 moX3_init rfl rfl (by decide) w_29 (Nat.le_of_ble_eq_true rfl) (Nat.le_of_ble_eq_true rfl) (S_skyInit (m := 18) (by decide)) (fun r n I3 J R hq => ?_)
  obtain ⟨rfl, hn, rfl, hS2⟩ := hq
  obtain rfl : n = 35 := by omega
  refine r_putR dX6_init_23 f_X6_16 (alx rfl (by decide) (by decide)) (Or.inr ⟨rfl, rfl⟩) (Or.inr ⟨_, rfl⟩) (by omega) ?_
  refine r_aload_n dX6_init_26 rfl ?_
  refine r_new dX6_init_27 cl3 w_26 w_27 w_2 (by decide) rfl ?_
  refine r_dup dX6_init_30 rfl ?_
  refine Wp.room (bc := 16 + 38) (bs := 1463 + 1704) (by decide) (by decide) ?_
  refine r_callIN0 dX6_init_31 moX3_init rfl rfl (by decide) w_29 (Nat.le_of_ble_eq_true rfl) (Nat.le_of_ble_eq_true rfl) (S_skyInit (m := 35) (by decide)) (fun r n I4 J R hq => ?_)
  obtain ⟨rfl, hn, rfl, hS3⟩ := hq
  obtain rfl : n = 52 := by omega
  refine r_putR dX6_init_34 f_X6_19 (alx rfl (by decide) (by decide)) (Or.inr ⟨rfl, rfl⟩) (Or.inr ⟨_, rfl⟩) (by omega) ?_
  refine r_aload_n dX6_init_37 rfl ?_
  refine r_iconst (v := 0) dX6_init_38 (by decide) ?_
  refine r_putZ dX6_init_39 f_X6_22 (alx rfl (by decide) (by decide)) (Or.inl rfl) rfl (by decide) ?_
  refine r_aload_n dX6_init_42 rfl ?_
  refine r_new dX6_init_43 cl1 w_76 w_77 w_3 (by decide) rfl ?_
  refine r_dup dX6_init_46 rfl ?_
  refine Wp.room (bc := 4 + 33) (bs := 326 + 1370) (by decide) (by decide) ?_
  refine r_callIN0 dX6_init_47 moX1_init rfl rfl (by decide) w_79 (Nat.le_of_ble_eq_true rfl) (Nat.le_of_ble_eq_true rfl) S_readerInit (fun r n I5 J R hq => ?_)
  obtain ⟨rfl, rfl, hB⟩ := hq
  refine r_putR dX6_init_50 f_X6_29 (alx rfl (by decide) (by decide)) (Or.inr ⟨rfl, rfl⟩) (Or.inr ⟨_, rfl⟩) (by omega) ?_
  refine r_aload_n dX6_init_53 rfl ?_
  refine r_bipush (v := 6) dX6_init_54 (by decide) ?_
  refine r_anew (N := 6) (kd := 11) dX6_init_56 w_124 (by decide) (Or.inl ⟨rfl, rfl⟩) rfl ?_
  refine r_putR dX6_init_59 f_X6_35 (alx rfl (by decide) (by decide)) (Or.inr ⟨rfl, rfl⟩) (Or.inl ⟨_, rfl⟩) (by omega) ?_
  refine r_aload_n dX6_init_62 rfl ?_
  refine r_iconst (v := 1) dX6_init_63 (by decide) ?_
  refine r_putI dX6_init_64 f_X6_39 (alx rfl (by decide) (by decide)) (Or.inl rfl) rfl ?_
  refine r_aload_n dX6_init_67 rfl ?_
  refine r_iconst (v := 4) dX6_init_68 (by decide) ?_
  refine r_anew (N := 4) (kd := 12) dX6_init_69 w_126 (by decide) (Or.inr ⟨rfl, rfl⟩) rfl ?_
  refine r_putR dX6_init_72 f_X6_45 (alx rfl (by decide) (by decide)) (Or.inr ⟨rfl, rfl⟩) (Or.inl ⟨_, rfl⟩) (by omega) ?_
  refine r_iconst (v := 0) dX6_init_75 (by decide) ?_
  refine r_top (v := nI 0) (by decide) ?_
  refine r_istore_n dX6_init_76 (by decide) rfl ?_
  refine S_ini1 (I0 := I) (R0 := R0) (fun I J R a b => ?_) 6 0 _ _ _ (by decide) ⟨fun a ha => ?_, fun a ha => ?_, fun j hj => ?_, ?_, ?_, ?_, fun i k hi => ?_, ?_, ?_, ?_, fun q hq h1 h2 => ?_⟩ (fun j hj => absurd hj (Nat.not_lt_zero _))
  · refine r_iconst (v := 0) dX6_init_105 (by decide) ?_
    refine r_top (v := nI 0) (by decide) ?_
    refine r_istore_n dX6_init_106 (by decide) rfl ?_
    exact S_ini2 (fun I J R a b c => S_ini5 h9 hS a b c) 4 0 I J R (by decide) a b (fun j hj => absurd hj (Nat.not_lt_zero _))
  · (repeat (first | rw [up2_at] | rw [up2_k _ _ (by omega)] | rw [up2_a _ _ _ (by omega)] | rw [z1_ne _ _ (by omega)] | rw [z1_at] | rw [hB.1 _ (by omega)] | rw [hS3.1 _ (by omega)] | rw [hS2.1 _ (by omega)] | rw [hS1.1 _ (by omega)])) <;> rfl
  · (repeat (first | rw [up2_at] | rw [up2_k _ _ (by omega)] | rw [up2_a _ _ _ (by omega)] | rw [z1_ne _ _ (by omega)] | rw [z1_at] | rw [hB.2.1 _ (by omega)] | rw [hS3.2.2.2.2.2.1 _ (by omega)] | rw [hS2.2.2.2.2.2.1 _ (by omega)] | rw [hS1.2.2.2.2.2.1 _ (by omega)])) <;> rfl
  · (repeat (first | rw [up2_at] | rw [up2_k _ _ (by omega)] | rw [up2_a _ _ _ (by omega)] | rw [z1_ne _ _ (by omega)] | rw [z1_at] | rw [hB.1 _ (by omega)] | rw [hS3.1 _ (by omega)] | rw [hS2.1 _ (by omega)]))
    exact hS1.2.1 j hj
  · (repeat (first | rw [up2_at] | rw [up2_k _ _ (by omega)] | rw [up2_a _ _ _ (by omega)] | rw [z1_ne _ _ (by omega)] | rw [z1_at] | rw [hB.1 _ (by omega)] | rw [hS3.1 _ (by omega)] | rw [hS2.1 _ (by omega)]))
    exact hS1.2.2.1
  · (repeat (first | rw [up2_at] | rw [up2_k _ _ (by omega)] | rw [up2_a _ _ _ (by omega)] | rw [z1_ne _ _ (by omega)] | rw [z1_at] | rw [hB.1 _ (by omega)] | rw [hS3.1 _ (by omega)] | rw [hS2.1 _ (by omega)]))
    exact hS1.2.2.2.1
  · (repeat (first | rw [up2_at] | rw [up2_k _ _ (by omega)] | rw [up2_a _ _ _ (by omega)] | rw [z1_ne _ _ (by omega)] | rw [z1_at] | rw [hB.1 _ (by omega)] | rw [hS3.1 _ (by omega)] | rw [hS2.1 _ (by omega)]))
    exact hS1.2.2.2.2.1
  · (repeat (first | rw [up2_at] | rw [up2_k _ _ (by omega)] | rw [up2_a _ _ _ (by omega)] | rw [z1_ne _ _ (by omega)] | rw [z1_at] | rw [hB.1 _ (by omega)] | rw [hS3.1 _ (by omega)] | rw [hS2.1 _ (by omega)]))
    exact hS1.2.2.2.2.2.2.2 i k hi
  · (repeat (first | rw [up2_at] | rw [up2_k _ _ (by omega)] | rw [up2_a _ _ _ (by omega)] | rw [z1_ne _ _ (by omega)] | rw [z1_at] | rw [hB.1 _ (by omega)] | rw [hS3.1 _ (by omega)] | rw [hS2.1 _ (by omega)] | rw [hS1.1 _ (by omega)])) <;> rfl
  · (repeat (first | rw [up2_at] | rw [up2_k _ _ (by omega)] | rw [up2_a _ _ _ (by omega)] | rw [z1_ne _ _ (by omega)] | rw [z1_at] | rw [hB.1 _ (by omega)] | rw [hS3.1 _ (by omega)] | rw [hS2.1 _ (by omega)] | rw [hS1.1 _ (by omega)])) <;> rfl
  · (repeat (first | rw [up2_at] | rw [up2_k _ _ (by omega)] | rw [up2_a _ _ _ (by omega)] | rw [z1_ne _ _ (by omega)] | rw [z1_at]))
    exact hB.2.2.2.2.2
  · have hl : ∀ q ∈ shL, q.1 < 69 → q ≠ (12, 7, 97) → (q.1 = 12 ∧ (q.2.1, q.2.2) ∈ [(0, 13), (1, 30), (2, 47), (4, 64), (5, 69), (8, 70)]) ∨ (q ∈ skyShL 13 ∧ 13 ≤ q.1 ∧ q.1 ≤ 29) ∨ (q ∈ skyShL 30 ∧ 30 ≤ q.1 ∧ q.1 ≤ 46) ∨ (q ∈ skyShL 47 ∧ 47 ≤ q.1 ∧ q.1 ≤ 63) ∨ (q.1 = 64 ∧ q.2.1 = 0 ∧ q.2.2 = 65) ∨ (q.1 = 66 ∧ q.2.1 = 0 ∧ q.2.2 = 67) ∨ (q.1 = 66 ∧ q.2.1 = 1 ∧ q.2.2 = 68) := by decide +kernel
    have hc := hl q hq h1 h2
    rcases hc with ⟨e1, e2⟩ | ⟨e1, e2, e3⟩ | ⟨e1, e2, e3⟩ | ⟨e1, e2, e3⟩ | ⟨e1, e2, e3⟩ | ⟨e1, e2, e3⟩ | ⟨e1, e2, e3⟩
    · obtain ⟨qa, qb, qc⟩ := q
      dsimp only at e1 e2 ⊢
      subst e1
      simp only [List.mem_cons, List.not_mem_nil, or_false, Prod.mk.injEq] at e2
      rcases e2 with ⟨rfl, rfl⟩ | ⟨rfl, rfl⟩ | ⟨rfl, rfl⟩ | ⟨rfl, rfl⟩ | ⟨rfl, rfl⟩ | ⟨rfl, rfl⟩ <;> (repeat (first | rw [up2_at] | rw [up2_k _ _ (by omega)] | rw [up2_a _ _ _ (by omega)] | rw [z1_ne _ _ (by omega)] | rw [z1_at] | rw [hB.2.1 _ (by omega)] | rw [hS3.2.2.2.2.2.1 _ (by omega)] | rw [hS2.2.2.2.2.2.1 _ (by omega)] | rw [hS1.2.2.2.2.2.1 _ (by omega)])) <;> rfl
    · (repeat (first | rw [up2_at] | rw [up2_k _ _ (by omega)] | rw [up2_a _ _ _ (by omega)] | rw [z1_ne _ _ (by omega)] | rw [z1_at] | rw [hB.2.1 _ (by omega)] | rw [hS3.2.2.2.2.2.1 _ (by omega)] | rw [hS2.2.2.2.2.2.1 _ (by omega)]))
      exact hS1.2.2.2.2.2.2.1 q e1
    · (repeat (first | rw [up2_at] | rw [up2_k _ _ (by omega)] | rw [up2_a _ _ _ (by omega)] | rw [z1_ne _ _ (by omega)] | rw [z1_at] | rw [hB.2.1 _ (by omega)] | rw [hS3.2.2.2.2.2.1 _ (by omega)]))
      exact hS2.2.2.2.2.2.2.1 q e1
    · (repeat (first | rw [up2_at] | rw [up2_k _ _ (by omega)] | rw [up2_a _ _ _ (by omega)] | rw [z1_ne _ _ (by omega)] | rw [z1_at] | rw [hB.2.1 _ (by omega)]))
      exact hS3.2.2.2.2.2.2.1 q e1
    · rw [e1, e2, e3]
      (repeat (first | rw [up2_at] | rw [up2_k _ _ (by omega)] | rw [up2_a _ _ _ (by omega)] | rw [z1_ne _ _ (by omega)] | rw [z1_at]))
      exact hB.2.2.1
    · rw [e1, e2, e3]
      (repeat (first | rw [up2_at] | rw [up2_k _ _ (by omega)] | rw [up2_a _ _ _ (by omega)] | rw [z1_ne _ _ (by omega)] | rw [z1_at]))
      exact hB.2.2.2.1
    · rw [e1, e2, e3]
      (repeat (first | rw [up2_at] | rw [up2_k _ _ (by omega)] | rw [up2_a _ _ _ (by omega)] | rw [z1_ne _ _ (by omega)] | rw [z1_at]))
      exact hB.2.2.2.2.1
