/-! Arrays.fill, Integer.bitCount, Choice, Sheet, kinds and sorts -/
theorem FrA.rf {b : Nat} {I : TI} : FrA b I I := fun _ _ => rfl
def bcN (f : Nat) : Nat := ((List.range 7).filter fun i => f.testBit i).length
set_option maxRecDepth 20000 in
set_option maxHeartbeats 4000000 in
theorem S_fill {g : GP} {d n : Nat} {I : TI} {J : TJ} {R : TR} {a len : Nat} (ha : Al n a 8 len) (v : Int32) : Wp g d mJ7_fill_53178 0 [.ref a, .int v, .null, .null] [] 0 0 n I J R (PostI n J R none (fun I2 => FrA a I I2 ∧ ∀ j, j < len → I2 a j = v)) := by
  have hlen := ha.len
  have loop : ∀ m i I2, i + m = len → FrA a I I2 → (∀ j, j < i → I2 a j = v) → Wp g d mJ7_fill_53178 5 [.ref a, .int v, .int (nI i), .int (nI len)] [] 0 0 n I2 J R (PostI n J R none (fun I2 => FrA a I I2 ∧ ∀ j, j < len → I2 a j = v)) := by
    intro m
    induction m with
    | zero =>
      intro i I2 hi hF hv
      refine r_iload_n dJ7_fill_53178_5 rfl ?_
      refine r_iload_n dJ7_fill_53178_6 rfl ?_
      refine r_nicmp_ge  (tgt := 20) dJ7_fill_53178_7 (by decide) rfl rfl (by omega) (by omega) (fun h7 => ?_) (fun h7 => absurd h7 (by omega))
      refine r_vret dJ7_fill_53178_20 rfl ?_
      exact ⟨rfl, rfl, rfl, rfl, hF, fun j hj => hv j (by omega)⟩
    | succ m ih =>
      intro i I2 hi hF hv
      refine r_iload_n dJ7_fill_53178_5 rfl ?_
      refine r_iload_n dJ7_fill_53178_6 rfl ?_
      refine r_nicmp_ge  (tgt := 20) dJ7_fill_53178_7 (by decide) rfl rfl (by omega) (by omega) (fun h7 => absurd h7 (by omega)) (fun h7 => ?_)
      refine r_aload_n dJ7_fill_53178_10 rfl ?_
      refine r_iload_n dJ7_fill_53178_11 rfl ?_
      refine r_iload_n dJ7_fill_53178_12 rfl ?_
      refine r_iast (j := i) dJ7_fill_53178_13 ha (by omega) rfl ?_
      refine r_iincE (b := (i + 1)) dJ7_fill_53178_14 rfl rfl (nI_succ _).symm rfl ?_
      refine r_goto (tgt := 5) dJ7_fill_53178_17 (by decide) ?_
      refine ih (i + 1) _ (by omega) hF.up (fun j hj => ?_)
      by_cases e : j = i
      · subst e; exact up2_at _ _ _ _
      · rw [up2_k _ _ e]; exact hv j (by omega)
  refine r_iconst (v := 0) dJ7_fill_53178_0 (by decide) ?_
  refine r_istore_n dJ7_fill_53178_1 (by decide) rfl ?_
  refine r_aload_n dJ7_fill_53178_2 rfl ?_
  refine r_alen dJ7_fill_53178_3 ha (Or.inl rfl) ?_
  refine r_istore_n dJ7_fill_53178_4 (by decide) rfl ?_
  exact loop len 0 I (by omega) FrA.rf (fun j hj => absurd hj (by omega))
set_option maxRecDepth 20000 in
set_option maxHeartbeats 4000000 in
theorem S_bitCount {g : GP} {d n : Nat} {I : TI} {J : TJ} {R : TR} {f : Nat} (hf : f < 128) : Wp g d mJ6_bitCount_0f7a4 0 [.int (nI f)] [] 0 0 n I J R (RetI (nI (bcN f)) n I J R) := by
  refine r_iload_n dJ6_bitCount_0f7a4_0 rfl ?_
  refine r_iload_n dJ6_bitCount_0f7a4_1 rfl ?_
  refine r_iconst (v := 1) dJ6_bitCount_0f7a4_2 (by decide) ?_
  refine r_iushr dJ6_bitCount_0f7a4_3 ?_
  refine r_ldcwI dJ6_bitCount_0f7a4_4 w_569 ?_
  refine r_iand dJ6_bitCount_0f7a4_7 ?_
  refine r_isub dJ6_bitCount_0f7a4_8 ?_
  refine r_istore_n dJ6_bitCount_0f7a4_9 (by decide) rfl ?_
  refine r_iload_n dJ6_bitCount_0f7a4_10 rfl ?_
  refine r_ldcwI dJ6_bitCount_0f7a4_11 w_570 ?_
  refine r_iand dJ6_bitCount_0f7a4_14 ?_
  refine r_iload_n dJ6_bitCount_0f7a4_15 rfl ?_
  refine r_iconst (v := 2) dJ6_bitCount_0f7a4_16 (by decide) ?_
  refine r_iushr dJ6_bitCount_0f7a4_17 ?_
  refine r_ldcwI dJ6_bitCount_0f7a4_18 w_570 ?_
  refine r_iand dJ6_bitCount_0f7a4_21 ?_
  refine r_iadd dJ6_bitCount_0f7a4_22 ?_
  refine r_istore_n dJ6_bitCount_0f7a4_23 (by decide) rfl ?_
  refine r_iload_n dJ6_bitCount_0f7a4_24 rfl ?_
  refine r_iload_n dJ6_bitCount_0f7a4_25 rfl ?_
  refine r_iconst (v := 4) dJ6_bitCount_0f7a4_26 (by decide) ?_
  refine r_iushr dJ6_bitCount_0f7a4_27 ?_
  refine r_iadd dJ6_bitCount_0f7a4_28 ?_
  refine r_ldcwI dJ6_bitCount_0f7a4_29 w_571 ?_
  refine r_iand dJ6_bitCount_0f7a4_32 ?_
  refine r_istore_n dJ6_bitCount_0f7a4_33 (by decide) rfl ?_
  refine r_iload_n dJ6_bitCount_0f7a4_34 rfl ?_
  refine r_iload_n dJ6_bitCount_0f7a4_35 rfl ?_
  refine r_bipush (v := 8) dJ6_bitCount_0f7a4_36 (by decide) ?_
  refine r_iushr dJ6_bitCount_0f7a4_38 ?_
  refine r_iadd dJ6_bitCount_0f7a4_39 ?_
  refine r_istore_n dJ6_bitCount_0f7a4_40 (by decide) rfl ?_
  refine r_iload_n dJ6_bitCount_0f7a4_41 rfl ?_
  refine r_iload_n dJ6_bitCount_0f7a4_42 rfl ?_
  refine r_bipush (v := 16) dJ6_bitCount_0f7a4_43 (by decide) ?_
  refine r_iushr dJ6_bitCount_0f7a4_45 ?_
  refine r_iadd dJ6_bitCount_0f7a4_46 ?_
  refine r_istore_n dJ6_bitCount_0f7a4_47 (by decide) rfl ?_
  refine r_iload_n dJ6_bitCount_0f7a4_48 rfl ?_
  refine r_bipush (v := 63) dJ6_bitCount_0f7a4_49 (by decide) ?_
  refine r_iand dJ6_bitCount_0f7a4_51 ?_
  refine r_iret dJ6_bitCount_0f7a4_52 rfl ?_
  refine retI ?_
  revert hf
  revert f
  decide +kernel
set_option maxRecDepth 20000 in
set_option maxHeartbeats 4000000 in
theorem S_chInit {g : GP} {d n : Nat} {I : TI} {J : TJ} {R : TR} {c : Nat} (hc : Al n c 0 2) : Wp g (d + 1) mX0_init 0 [.ref c] [] 0 0 n I J R (RetV n (up2 (up2 I c 0 (-1)) c 1 (-1000000)) J R) := by
  refine r_aload_n dX0_init_0 rfl ?_
  refine r_objInit dX0_init_1 w_601 wObj1 wObj2 (Nat.le_of_ble_eq_true rfl) ?_
  refine r_aload_n dX0_init_4 rfl ?_
  refine r_iconst (v := (-1)) dX0_init_5 (by decide) ?_
  refine r_putI dX0_init_6 f_X0_9 hc (Or.inl rfl) rfl ?_
  refine r_aload_n dX0_init_9 rfl ?_
  refine r_ldcI dX0_init_10 w_602 ?_
  refine r_putI dX0_init_12 f_X0_16 hc (Or.inl rfl) rfl ?_
  refine r_vret dX0_init_15 rfl ?_
  exact retV
set_option maxRecDepth 20000 in
set_option maxHeartbeats 4000000 in
theorem S_weigh {g : GP} {d n : Nat} {I : TI} {J : TJ} {R : TR} {c : Nat} (hc : Al n c 0 2) {wo x : Int} (hw : I c 1 = zI wo) (h1 : inZ wo) (h2 : inZ x) (one : Int32) : Wp g d mX0_weigh 0 [.ref c, .int one, .int (zI x)] [] 0 0 n I J R (RetV n (if wo < x then up2 (up2 I c 0 one) c 1 (zI x) else I) J R) := by
  refine r_iload_n dX0_weigh_0 rfl ?_
  refine r_aload_n dX0_weigh_1 rfl ?_
  refine r_getIE dX0_weigh_2 f_X0_16 hc (Or.inl rfl) hw ?_
  refine r_zicmp_le  (tgt := 18) dX0_weigh_5 (by decide) rfl rfl h2 h1 (fun h5 => ?_) (fun h5 => ?_)
  · refine r_vret dX0_weigh_18 rfl ?_
    rw [if_neg (by omega)]
    exact retV
  · refine r_aload_n dX0_weigh_8 rfl ?_
    refine r_iload_n dX0_weigh_9 rfl ?_
    refine r_putI dX0_weigh_10 f_X0_9 hc (Or.inl rfl) rfl ?_
    refine r_aload_n dX0_weigh_13 rfl ?_
    refine r_iload_n dX0_weigh_14 rfl ?_
    refine r_putI dX0_weigh_15 f_X0_16 hc (Or.inl rfl) rfl ?_
    refine r_vret dX0_weigh_18 rfl ?_
    rw [if_pos (by omega)]
    exact retV
set_option maxRecDepth 20000 in
set_option maxHeartbeats 4000000 in
theorem S_chAns {g : GP} {d n : Nat} {I : TI} {J : TJ} {R : TR} {c : Nat} (hc : Al n c 0 2) {a : Int} (ha : inZ a) : Wp g d mX0_answer 0 [.ref c, .int (zI a)] [] 0 0 n I J R (RetI (if a = 0 then I c 1 else I c 0) n I J R) := by
  refine r_iload_n dX0_answer_0 rfl ?_
  refine r_zif_ne (tgt := 11) dX0_answer_1 (by decide) rfl ha (fun h1 => ?_) (fun h1 => ?_)
  · refine r_aload_n dX0_answer_11 rfl ?_
    refine r_getI dX0_answer_12 f_X0_9 hc (Or.inl rfl) ?_
    refine r_iret dX0_answer_15 rfl ?_
    exact retI (by rw [if_neg h1])
  · refine r_aload_n dX0_answer_4 rfl ?_
    refine r_getI dX0_answer_5 f_X0_16 hc (Or.inl rfl) ?_
    refine r_goto (tgt := 15) dX0_answer_8 (by decide) ?_
    refine r_iret dX0_answer_15 rfl ?_
    exact retI (by rw [if_pos h1])
def narS (so : Int) (v : Int32) : Int32 := if so = 0 then v.toInt8.toInt32 else if so = 1 then v.toInt16.toInt32 else v
/-- a sheet: its sort (-1: missing), its size -/
def ShtAt (I : TI) (h : Nat) (so : Int) (z : Nat) : Prop := I h 0 = zI so ∧ I h 1 = nI z ∧ -1 ≤ so ∧ so ≤ 2 ∧ z ≤ 40
set_option maxRecDepth 20000 in
set_option maxHeartbeats 4000000 in
theorem S_isMissing {g : GP} {d n : Nat} {I : TI} {J : TJ} {R : TR} {h z : Nat} {so : Int} (hsh : Sh n R) (hh : isSheet h) (hS : ShtAt I h so z) : Wp g d mX2_isMissing 0 [.ref h] [] 0 0 n I J R (RetI (b2i (decide (so = -1))) n I J R) := by
  obtain ⟨s0, s1, s2, s3, s4⟩ := hS
  refine r_aload_n dX2_isMissing_0 rfl ?_
  refine r_getIE dX2_isMissing_1 f_X2_9 (hsh.h0 hh) (Or.inl rfl) s0 ?_
  refine r_iconst (v := (-1)) dX2_isMissing_4 (by decide) ?_
  refine r_zicmp_ne (b := (-1))  (tgt := 12) dX2_isMissing_5 (by decide) rfl (by decide) (by unfold inZ; omega) (by unfold inZ; omega) (fun h5 => ?_) (fun h5 => ?_)
  · refine r_iconst (v := 0) dX2_isMissing_12 (by decide) ?_
    refine r_bret (b := decide (so = -1)) dX2_isMissing_13 rfl ?_ ?_
    · refine b2i_0 ?_
      simp [h5]
    · exact ⟨rfl, rfl, rfl, rfl, rfl⟩
  · refine r_iconst (v := 1) dX2_isMissing_8 (by decide) ?_
    refine r_goto (tgt := 13) dX2_isMissing_9 (by decide) ?_
    refine r_bret (b := decide (so = -1)) dX2_isMissing_13 rfl ?_ ?_
    · refine b2i_1 ?_
      simp [h5]
    · exact ⟨rfl, rfl, rfl, rfl, rfl⟩
set_option maxRecDepth 20000 in
set_option maxHeartbeats 4000000 in
theorem S_holds {g : GP} {d n : Nat} {I : TI} {J : TJ} {R : TR} {h z : Nat} {so : Int} (hsh : Sh n R) (hh : isSheet h) (hS : ShtAt I h so z) {a b : Int} (ha : inZ a) (hb : inZ b) : Wp g d mX2_holds 0 [.ref h, .int (zI a), .int (zI b)] [] 0 0 n I J R (RetI (b2i (decide (0 ≤ a ∧ 0 ≤ b ∧ a ≤ z ∧ b ≤ z - a))) n I J R) := by
  obtain ⟨s0, s1, s2, s3, s4⟩ := hS
  refine r_iload_n dX2_holds_0 rfl ?_
  refine r_zif_lt (tgt := 30) dX2_holds_1 (by decide) rfl ha (fun h1 => ?_) (fun h1 => ?_)
  · refine r_iconst (v := 0) dX2_holds_30 (by decide) ?_
    refine r_bret (b := decide (0 ≤ a ∧ 0 ≤ b ∧ a ≤ z ∧ b ≤ z - a)) dX2_holds_31 rfl ?_ ?_
    · refine b2i_0 ?_
      simp only [decide_eq_true_eq, decide_eq_false_iff_not]
      omega
    · exact ⟨rfl, rfl, rfl, rfl, rfl⟩
  · refine r_iload_n dX2_holds_4 rfl ?_
    refine r_zif_lt (tgt := 30) dX2_holds_5 (by decide) rfl hb (fun h5 => ?_) (fun h5 => ?_)
    · refine r_iconst (v := 0) dX2_holds_30 (by decide) ?_
      refine r_bret (b := decide (0 ≤ a ∧ 0 ≤ b ∧ a ≤ z ∧ b ≤ z - a)) dX2_holds_31 rfl ?_ ?_
      · refine b2i_0 ?_
        simp only [decide_eq_true_eq, decide_eq_false_iff_not]
        omega
      · exact ⟨rfl, rfl, rfl, rfl, rfl⟩
    · refine r_iload_n dX2_holds_8 rfl ?_
      refine r_aload_n dX2_holds_9 rfl ?_
      refine r_getIE dX2_holds_10 f_X2_15 (hsh.h0 hh) (Or.inl rfl) s1 ?_
      refine r_zicmp_gt  (tgt := 30) dX2_holds_13 (by decide) rfl (nz _) ha (by unfold inZ; omega) (fun h13 => ?_) (fun h13 => ?_)
      · refine r_iconst (v := 0) dX2_holds_30 (by decide) ?_
        refine r_bret (b := decide (0 ≤ a ∧ 0 ≤ b ∧ a ≤ z ∧ b ≤ z - a)) dX2_holds_31 rfl ?_ ?_
        · refine b2i_0 ?_
          simp only [decide_eq_true_eq, decide_eq_false_iff_not]
          omega
        · exact ⟨rfl, rfl, rfl, rfl, rfl⟩
      · refine r_iload_n dX2_holds_16 rfl ?_
        refine r_aload_n dX2_holds_17 rfl ?_
        refine r_getIE dX2_holds_18 f_X2_15 (hsh.h0 hh) (Or.inl rfl) s1 ?_
        refine r_iload_n dX2_holds_21 rfl ?_
        refine r_zisub dX2_holds_22 (nz _) rfl ?_
        refine r_zicmp_gt  (tgt := 30) dX2_holds_23 (by decide) rfl rfl hb (by unfold inZ; omega) (fun h23 => ?_) (fun h23 => ?_)
        · refine r_iconst (v := 0) dX2_holds_30 (by decide) ?_
          refine r_bret (b := decide (0 ≤ a ∧ 0 ≤ b ∧ a ≤ z ∧ b ≤ z - a)) dX2_holds_31 rfl ?_ ?_
          · refine b2i_0 ?_
            simp only [decide_eq_true_eq, decide_eq_false_iff_not]
            omega
          · exact ⟨rfl, rfl, rfl, rfl, rfl⟩
        · refine r_iconst (v := 1) dX2_holds_26 (by decide) ?_
          refine r_goto (tgt := 31) dX2_holds_27 (by decide) ?_
          refine r_bret (b := decide (0 ≤ a ∧ 0 ≤ b ∧ a ≤ z ∧ b ≤ z - a)) dX2_holds_31 rfl ?_ ?_
          · refine b2i_1 ?_
            simp only [decide_eq_true_eq, decide_eq_false_iff_not]
            omega
          · exact ⟨rfl, rfl, rfl, rfl, rfl⟩
set_option maxRecDepth 20000 in
set_option maxHeartbeats 4000000 in
theorem S_item {g : GP} {d n : Nat} {I : TI} {J : TJ} {R : TR} {h z : Nat} {so : Int} (hsh : Sh n R) (hh : isSheet h) (hS : ShtAt I h so z) {i : Nat} (hi : i < z) : Wp g (d + 1) mX2_item 0 [.ref h, .int (nI i)] [] 0 0 n I J R (RetI (I (h + 1) i) n I J R) := by
  obtain ⟨s0, s1, s2, s3, s4⟩ := hS
  refine r_iload_n dX2_item_0 rfl ?_
  refine r_aload_n dX2_item_1 rfl ?_
  refine r_getIE dX2_item_2 f_X2_15 (hsh.h0 hh) (Or.inl rfl) s1 ?_
  refine r_callSN2I dX2_item_5 moX6_isBelow (by decide) w_400 (Nat.le_of_ble_eq_true rfl) (Nat.le_of_ble_eq_true rfl) (S_isBelow _ _) ?_
  refine r_ifb_eq (tgt := 29) dX2_item_8 (by decide) (fun h8 => by rw [bw_nt (N := z) rfl (by omega) hi] at h8; cases h8) (fun h8 => ?_)
  refine r_iload_n dX2_item_11 rfl ?_
  refine r_aload_n dX2_item_12 rfl ?_
  refine r_getR (b := (h + 1)) dX2_item_13 f_X2_18 (hsh.h0 hh) (Or.inl ⟨_, rfl⟩) (hsh.hr2 hh) (by omega) ?_
  refine r_alen dX2_item_16 (hsh.h1 hh) (Or.inl rfl) ?_
  refine r_nicmp_ge (b := 40)  (tgt := 29) dX2_item_17 (by decide) rfl rfl (by omega) (by omega) (fun h17 => absurd h17 (by omega)) (fun h17 => ?_)
  refine r_aload_n dX2_item_20 rfl ?_
  refine r_getR (b := (h + 1)) dX2_item_21 f_X2_18 (hsh.h0 hh) (Or.inl ⟨_, rfl⟩) (hsh.hr2 hh) (by omega) ?_
  refine r_iload_n dX2_item_24 rfl ?_
  refine r_iald (j := i) dX2_item_25 (hsh.h1 hh) (by omega) rfl ?_
  refine r_goto (tgt := 30) dX2_item_26 (by decide) ?_
  refine r_iret dX2_item_30 rfl ?_
  exact retI rfl
set_option maxRecDepth 20000 in
set_option maxHeartbeats 4000000 in
theorem S_put {g : GP} {d n : Nat} {I : TI} {J : TJ} {R : TR} {h z : Nat} {so : Int} (hsh : Sh n R) (hh : isSheet h) (hS : ShtAt I h so z) {i : Nat} (hi : i < z) (v : Int32) : Wp g (d + 1) mX2_put 0 [.ref h, .int (nI i), .int v] [] 0 0 n I J R (RetV n (up2 I (h + 1) i (narS so v)) J R) := by
  obtain ⟨s0, s1, s2, s3, s4⟩ := hS
  refine r_iload_n dX2_put_0 rfl ?_
  refine r_aload_n dX2_put_1 rfl ?_
  refine r_getIE dX2_put_2 f_X2_15 (hsh.h0 hh) (Or.inl rfl) s1 ?_
  refine r_callSN2I dX2_put_5 moX6_isBelow (by decide) w_400 (Nat.le_of_ble_eq_true rfl) (Nat.le_of_ble_eq_true rfl) (S_isBelow _ _) ?_
  refine r_ifb_eq (tgt := 20) dX2_put_8 (by decide) (fun h8 => by rw [bw_nt (N := z) rfl (by omega) hi] at h8; cases h8) (fun h8 => ?_)
  refine r_iload_n dX2_put_11 rfl ?_
  refine r_aload_n dX2_put_12 rfl ?_
  refine r_getR (b := (h + 1)) dX2_put_13 f_X2_18 (hsh.h0 hh) (Or.inl ⟨_, rfl⟩) (hsh.hr2 hh) (by omega) ?_
  refine r_alen dX2_put_16 (hsh.h1 hh) (Or.inl rfl) ?_
  refine r_nicmp_lt (b := 40)  (tgt := 21) dX2_put_17 (by decide) rfl rfl (by omega) (by omega) (fun h17 => ?_) (fun h17 => absurd h17 (by omega))
  refine r_aload_n dX2_put_21 rfl ?_
  refine r_getIE dX2_put_22 f_X2_9 (hsh.h0 hh) (Or.inl rfl) s0 ?_
  refine r_zif_ne (tgt := 39) dX2_put_25 (by decide) rfl (by unfold inZ; omega) (fun h25 => ?_) (fun h25 => ?_)
  · refine r_aload_n dX2_put_39 rfl ?_
    refine r_getIE dX2_put_40 f_X2_9 (hsh.h0 hh) (Or.inl rfl) s0 ?_
    refine r_iconst (v := 1) dX2_put_43 (by decide) ?_
    refine r_zicmp_ne (b := 1)  (tgt := 58) dX2_put_44 (by decide) rfl (by decide) (by unfold inZ; omega) (by unfold inZ; omega) (fun h44 => ?_) (fun h44 => ?_)
    · refine r_aload_n dX2_put_58 rfl ?_
      refine r_getR (b := (h + 1)) dX2_put_59 f_X2_18 (hsh.h0 hh) (Or.inl ⟨_, rfl⟩) (hsh.hr2 hh) (by omega) ?_
      refine r_iload_n dX2_put_62 rfl ?_
      refine r_iload_n dX2_put_63 rfl ?_
      refine r_iast (j := i) dX2_put_64 (hsh.h1 hh) (by omega) rfl ?_
      refine r_vret dX2_put_65 rfl ?_
      unfold narS
      rw [if_neg (by omega), if_neg (by omega)]
      exact retV
    · refine r_aload_n dX2_put_47 rfl ?_
      refine r_getR (b := (h + 1)) dX2_put_48 f_X2_18 (hsh.h0 hh) (Or.inl ⟨_, rfl⟩) (hsh.hr2 hh) (by omega) ?_
      refine r_iload_n dX2_put_51 rfl ?_
      refine r_iload_n dX2_put_52 rfl ?_
      refine r_i2s dX2_put_53 ?_
      refine r_iast (j := i) dX2_put_54 (hsh.h1 hh) (by omega) rfl ?_
      refine r_goto (tgt := 65) dX2_put_55 (by decide) ?_
      refine r_vret dX2_put_65 rfl ?_
      unfold narS
      rw [if_neg (by omega), if_pos (by omega)]
      exact retV
  · refine r_aload_n dX2_put_28 rfl ?_
    refine r_getR (b := (h + 1)) dX2_put_29 f_X2_18 (hsh.h0 hh) (Or.inl ⟨_, rfl⟩) (hsh.hr2 hh) (by omega) ?_
    refine r_iload_n dX2_put_32 rfl ?_
    refine r_iload_n dX2_put_33 rfl ?_
    refine r_i2b dX2_put_34 ?_
    refine r_iast (j := i) dX2_put_35 (hsh.h1 hh) (by omega) rfl ?_
    refine r_goto (tgt := 65) dX2_put_36 (by decide) ?_
    refine r_vret dX2_put_65 rfl ?_
    unfold narS
    rw [if_pos (by omega)]
    exact retV
set_option maxRecDepth 20000 in
set_option maxHeartbeats 4000000 in
theorem S_become {g : GP} {d n : Nat} {I : TI} {J : TJ} {R : TR} {h : Nat} (hsh : Sh n R) (hh : isSheet h) (x y : Int32) : Wp g (d + 1) mX2_become 0 [.ref h, .int x, .int y] [] 0 0 n I J R (PostI n J R none (fun I2 => I2 h 0 = x ∧ I2 h 1 = y ∧ (∀ j, j < 40 → I2 (h + 1) j = 0) ∧ ∀ a, a ≠ h → a ≠ h + 1 → I2 a = I a)) := by
  refine r_aload_n dX2_become_0 rfl ?_
  refine r_iload_n dX2_become_1 rfl ?_
  refine r_putI dX2_become_2 f_X2_9 (hsh.h0 hh) (Or.inl rfl) rfl ?_
  refine r_aload_n dX2_become_5 rfl ?_
  refine r_iload_n dX2_become_6 rfl ?_
  refine r_putI dX2_become_7 f_X2_15 (hsh.h0 hh) (Or.inl rfl) rfl ?_
  refine r_aload_n dX2_become_10 rfl ?_
  refine r_getR (b := (h + 1)) dX2_become_11 f_X2_18 (hsh.h0 hh) (Or.inl ⟨_, rfl⟩) (hsh.hr2 hh) (by omega) ?_
  refine r_iconst (v := 0) dX2_become_14 (by decide) ?_
  refine r_callS2N dX2_become_15 moJ7_fill_53178 w_711 w_529 (Nat.le_of_ble_eq_true rfl) (Nat.le_of_ble_eq_true rfl) (S_fill (hsh.h1 hh) 0) (fun r n I2 J R hq => ?_)
  obtain ⟨rfl, rfl, rfl, rfl, f1, f2⟩ := hq
  refine r_vret dX2_become_18 rfl ?_
  refine ⟨rfl, rfl, rfl, rfl, ?_, ?_, f2, fun a h1 h2 => ?_⟩
  · rw [f1 h (by omega), up2_k _ _ (by decide), up2_at]
  · rw [f1 h (by omega), up2_at]
  · rw [f1 a h2, up2_a _ _ _ h1, up2_a _ _ _ h1]
set_option maxRecDepth 20000 in
set_option maxHeartbeats 4000000 in
theorem S_isSort {g : GP} {d n : Nat} {I : TI} {J : TJ} {R : TR} {a : Int} (ha : inZ a) : Wp g d mX6_isSort 0 [.int (zI a)] [] 0 0 n I J R (RetI (b2i (decide (0 ≤ a ∧ a ≤ 2))) n I J R) := by
  refine r_iload_n dX6_isSort_0 rfl ?_
  refine r_zif_lt (tgt := 13) dX6_isSort_1 (by decide) rfl ha (fun h1 => ?_) (fun h1 => ?_)
  · refine r_iconst (v := 0) dX6_isSort_13 (by decide) ?_
    refine r_bret (b := decide (0 ≤ a ∧ a ≤ 2)) dX6_isSort_14 rfl ?_ ?_
    · refine b2i_0 ?_
      simp only [decide_eq_true_eq, decide_eq_false_iff_not]
      omega
    · exact ⟨rfl, rfl, rfl, rfl, rfl⟩
  · refine r_iload_n dX6_isSort_4 rfl ?_
    refine r_iconst (v := 2) dX6_isSort_5 (by decide) ?_
    refine r_zicmp_gt (b := 2)  (tgt := 13) dX6_isSort_6 (by decide) rfl (by decide) ha (by unfold inZ; omega) (fun h6 => ?_) (fun h6 => ?_)
    · refine r_iconst (v := 0) dX6_isSort_13 (by decide) ?_
      refine r_bret (b := decide (0 ≤ a ∧ a ≤ 2)) dX6_isSort_14 rfl ?_ ?_
      · refine b2i_0 ?_
        simp only [decide_eq_true_eq, decide_eq_false_iff_not]
        omega
      · exact ⟨rfl, rfl, rfl, rfl, rfl⟩
    · refine r_iconst (v := 1) dX6_isSort_9 (by decide) ?_
      refine r_goto (tgt := 14) dX6_isSort_10 (by decide) ?_
      refine r_bret (b := decide (0 ≤ a ∧ a ≤ 2)) dX6_isSort_14 rfl ?_ ?_
      · refine b2i_1 ?_
        simp only [decide_eq_true_eq, decide_eq_false_iff_not]
        omega
      · exact ⟨rfl, rfl, rfl, rfl, rfl⟩
