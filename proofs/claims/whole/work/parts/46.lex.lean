/-! letters, words, signs: the class's reader up to its tokens -/
theorem nar_c : ∀ c, c < 256 → (nI c).toUInt32.toUInt16.toUInt32.toInt32 = nI c := by decide +kernel
theorem nar_ch {c : Nat} (h : c < 256) : narrow .char (.int (nI c)) = .int (nI c) := congrArg Value.int (nar_c c h)
theorem i2c_n : ∀ c, c < 256 → ((nI c).toUInt32 % 65536).toInt32 = nI c := by decide +kernel
theorem and255N : ∀ c, c < 256 → nI c &&& 255 = nI c := by decide +kernel
theorem i2b_sg : ∀ c, c < 256 → ∀ i, i < 8 → ((nI c).toInt8.toInt32 = nI (sgnN i) ↔ c = sgnN i) := by decide +kernel
theorem wrdN_lt : ∀ j, j < 64 → wrdN j < 128 := by decide +kernel
def sgR (c : Nat) : Nat → Nat → Int
  | 0, _ => -1
  | f + 1, i => if c = sgnN i then (i : Int) else sgR c f (i + 1)
theorem sgR_in (c : Nat) : ∀ f i, -1 ≤ sgR c f i ∧ sgR c f i < i + f + 1
  | 0, i => by unfold sgR; omega
  | f + 1, i => by
    have := sgR_in c f (i + 1)
    unfold sgR
    split <;> omega
theorem sgR_is : ∀ c, c < 256 → decide (0 ≤ sgR c 8 0) = isSgB c := by decide +kernel
set_option maxRecDepth 20000 in
set_option maxHeartbeats 4000000 in
theorem S_chkIx {g : GP} {d n : Nat} {I : TI} {J : TJ} {R : TR} {k len : Nat} (hk : k < len) (hl : len < 1000) (v : Value) : Wp g d mJ3_checkIndex_8e157 0 [.int (nI k), .int (nI len), v] [] 0 0 n I J R (RetI (nI k) n I J R) := by
  refine r_iload_n dJ3_checkIndex_8e157_0 rfl ?_
  refine r_zif_lt (tgt := 9) dJ3_checkIndex_8e157_1 (by decide) (nz _) (by unfold inZ; omega) (fun h1 => absurd h1 (by omega)) (fun h1 => ?_)
  refine r_iload_n dJ3_checkIndex_8e157_4 rfl ?_
  refine r_iload_n dJ3_checkIndex_8e157_5 rfl ?_
  refine r_nicmp_lt  (tgt := 16) dJ3_checkIndex_8e157_6 (by decide) rfl rfl (by omega) (by omega) (fun h6 => ?_) (fun h6 => absurd h6 (by omega))
  refine r_iload_n dJ3_checkIndex_8e157_16 rfl ?_
  refine r_iret dJ3_checkIndex_8e157_17 rfl ?_
  exact retI rfl
set_option maxRecDepth 20000 in
set_option maxHeartbeats 4000000 in
theorem S_chkIx2 {g : GP} {d n : Nat} {I : TI} {J : TJ} {R : TR} {k len : Nat} (hk : k < len) (hl : len < 1000) : Wp g (d + 1) mJ0_checkIndex_df160 0 [.int (nI k), .int (nI len)] [] 0 0 n I J R (RetV n I J R) := by
  refine r_iload_n dJ0_checkIndex_df160_0 rfl ?_
  refine r_iload_n dJ0_checkIndex_df160_1 rfl ?_
  refine gets_core (q := ("jdk/internal/util/Preconditions", "SIOOBE_FORMATTER", "Ljava/util/function/BiFunction;", .null)) (v := .retAddr 0) dJ0_checkIndex_df160_2 (fun g => by simp [zsL, cv]) w_222 ?_
  refine r_callS3I dJ0_checkIndex_df160_5 moJ3_checkIndex_8e157 w_224 w_225 (Nat.le_of_ble_eq_true rfl) (Nat.le_of_ble_eq_true rfl) (S_chkIx hk hl _) ?_
  refine r_pop dJ0_checkIndex_df160_8 rfl ?_
  refine r_vret dJ0_checkIndex_df160_9 rfl ?_
  exact retV
set_option maxRecDepth 20000 in
set_option maxHeartbeats 4000000 in
theorem S_latAt0 {g : GP} {d n : Nat} {I : TI} {J : TJ} {R : TR} {k c : Nat} (hk : k < 31) (hv : I (9 + 0) k = nI c) (hc : c < 128) : Wp g (d + 2) mJ1_charAt_3b067 0 [.ref (9 + 0), .int (nI k)] [] 0 0 n I J R (RetI (nI c) n I J R) := by
  refine r_iload_n dJ1_charAt_3b067_0 rfl ?_
  refine r_aload_n dJ1_charAt_3b067_1 rfl ?_
  refine r_alenS dJ1_charAt_3b067_2 rfl ?_
  refine r_callS2W dJ1_charAt_3b067_3 moJ0_checkIndex_df160 w_219 w_220 (Nat.le_of_ble_eq_true rfl) (Nat.le_of_ble_eq_true rfl) (S_chkIx2 hk (by decide)) ?_
  refine r_aload_n dJ1_charAt_3b067_6 rfl ?_
  refine r_iload_n dJ1_charAt_3b067_7 rfl ?_
  refine r_baldS (j := k) dJ1_charAt_3b067_8 rfl hk (by decide) rfl ?_
  refine r_top hv ?_
  refine r_sipush (v := 255) dJ1_charAt_3b067_9 (by decide) ?_
  refine r_iand dJ1_charAt_3b067_12 ?_
  refine r_top (and255N c (by omega)) ?_
  refine r_i2c dJ1_charAt_3b067_13 ?_
  refine r_top (i2c_n c (by omega)) ?_
  refine r_zret dJ1_charAt_3b067_14 rfl ?_ ?_
  · exact nar_ch (by omega)
  · exact retI rfl
set_option maxRecDepth 20000 in
set_option maxHeartbeats 4000000 in
theorem S_latAt1 {g : GP} {d n : Nat} {I : TI} {J : TJ} {R : TR} {k c : Nat} (hk : k < 64) (hv : I (9 + 1) k = nI c) (hc : c < 128) : Wp g (d + 2) mJ1_charAt_3b067 0 [.ref (9 + 1), .int (nI k)] [] 0 0 n I J R (RetI (nI c) n I J R) := by
  refine r_iload_n dJ1_charAt_3b067_0 rfl ?_
  refine r_aload_n dJ1_charAt_3b067_1 rfl ?_
  refine r_alenS dJ1_charAt_3b067_2 rfl ?_
  refine r_callS2W dJ1_charAt_3b067_3 moJ0_checkIndex_df160 w_219 w_220 (Nat.le_of_ble_eq_true rfl) (Nat.le_of_ble_eq_true rfl) (S_chkIx2 hk (by decide)) ?_
  refine r_aload_n dJ1_charAt_3b067_6 rfl ?_
  refine r_iload_n dJ1_charAt_3b067_7 rfl ?_
  refine r_baldS (j := k) dJ1_charAt_3b067_8 rfl hk (by decide) rfl ?_
  refine r_top hv ?_
  refine r_sipush (v := 255) dJ1_charAt_3b067_9 (by decide) ?_
  refine r_iand dJ1_charAt_3b067_12 ?_
  refine r_top (and255N c (by omega)) ?_
  refine r_i2c dJ1_charAt_3b067_13 ?_
  refine r_top (i2c_n c (by omega)) ?_
  refine r_zret dJ1_charAt_3b067_14 rfl ?_ ?_
  · exact nar_ch (by omega)
  · exact retI rfl
set_option maxRecDepth 20000 in
set_option maxHeartbeats 4000000 in
theorem S_isLat0 {g : GP} {d n : Nat} {I : TI} {J : TJ} {R : TR} : Wp g d mJ0_isLatin1_aae02 0 [.ref (6 + 0)] [] 0 0 n I J R (RetI (b2i true) n I J R) := by
  refine gets_core (q := ("java/lang/String", "COMPACT_STRINGS", "Z", .null)) (v := .int 1) dJ0_isLatin1_aae02_0 (fun g => by simp [zsL, cv]) w_206 ?_
  refine r_if_eq (tgt := 17) dJ0_isLatin1_aae02_3 (by decide) (fun h3 => absurd h3 (by decide)) (fun h3 => ?_)
  refine r_aload_n dJ0_isLatin1_aae02_6 rfl ?_
  refine r_getStr (i := 0) (w := .int 0) dJ0_isLatin1_aae02_7 (by omega) (Or.inl ⟨rfl, rfl, rfl⟩) w_1246 ?_
  refine r_if_ne (tgt := 17) dJ0_isLatin1_aae02_10 (by decide) (fun h10 => absurd rfl h10) (fun h10 => ?_)
  refine r_iconst (v := 1) dJ0_isLatin1_aae02_13 (by decide) ?_
  refine r_goto (tgt := 18) dJ0_isLatin1_aae02_14 (by decide) ?_
  refine r_bret (b := true) dJ0_isLatin1_aae02_18 rfl ?_ ?_
  · rfl
  · exact retI rfl
set_option maxRecDepth 20000 in
set_option maxHeartbeats 4000000 in
theorem S_coder0 {g : GP} {d n : Nat} {I : TI} {J : TJ} {R : TR} : Wp g d mJ0_coder_7d493 0 [.ref (6 + 0)] [] 0 0 n I J R (RetI 0 n I J R) := by
  refine gets_core (q := ("java/lang/String", "COMPACT_STRINGS", "Z", .null)) (v := .int 1) dJ0_coder_7d493_0 (fun g => by simp [zsL, cv]) w_206 ?_
  refine r_if_eq (tgt := 13) dJ0_coder_7d493_3 (by decide) (fun h3 => absurd h3 (by decide)) (fun h3 => ?_)
  refine r_aload_n dJ0_coder_7d493_6 rfl ?_
  refine r_getStr (i := 0) (w := .int 0) dJ0_coder_7d493_7 (by omega) (Or.inl ⟨rfl, rfl, rfl⟩) w_1246 ?_
  refine r_goto (tgt := 14) dJ0_coder_7d493_10 (by decide) ?_
  refine r_zret dJ0_coder_7d493_14 rfl ?_ ?_
  · rfl
  · exact retI rfl
set_option maxRecDepth 20000 in
set_option maxHeartbeats 4000000 in
theorem S_len0 {g : GP} {d n : Nat} {I : TI} {J : TJ} {R : TR} : Wp g (d + 1) mJ0_length_8abf5 0 [.ref (6 + 0)] [] 0 0 n I J R (RetI (nI 31) n I J R) := by
  refine r_aload_n dJ0_length_8abf5_0 rfl ?_
  refine r_getStr (i := 0) (w := .ref (9 + 0)) dJ0_length_8abf5_1 (by omega) (Or.inr ⟨rfl, rfl, rfl⟩) w_1245 ?_
  refine r_alenS dJ0_length_8abf5_4 rfl ?_
  refine r_aload_n dJ0_length_8abf5_5 rfl ?_
  refine r_callVS0I dJ0_length_8abf5_6 moJ0_coder_7d493 w_202 w_203 w_204 (by omega) rfl (Nat.le_of_ble_eq_true rfl) (Nat.le_of_ble_eq_true rfl) S_coder0 ?_
  refine r_ishr dJ0_length_8abf5_9 ?_
  refine r_iret dJ0_length_8abf5_10 rfl ?_
  exact retI (by decide)
set_option maxRecDepth 20000 in
set_option maxHeartbeats 4000000 in
theorem S_isLat1 {g : GP} {d n : Nat} {I : TI} {J : TJ} {R : TR} : Wp g d mJ0_isLatin1_aae02 0 [.ref (6 + 1)] [] 0 0 n I J R (RetI (b2i true) n I J R) := by
  refine gets_core (q := ("java/lang/String", "COMPACT_STRINGS", "Z", .null)) (v := .int 1) dJ0_isLatin1_aae02_0 (fun g => by simp [zsL, cv]) w_206 ?_
  refine r_if_eq (tgt := 17) dJ0_isLatin1_aae02_3 (by decide) (fun h3 => absurd h3 (by decide)) (fun h3 => ?_)
  refine r_aload_n dJ0_isLatin1_aae02_6 rfl ?_
  refine r_getStr (i := 1) (w := .int 0) dJ0_isLatin1_aae02_7 (by omega) (Or.inl ⟨rfl, rfl, rfl⟩) w_1246 ?_
  refine r_if_ne (tgt := 17) dJ0_isLatin1_aae02_10 (by decide) (fun h10 => absurd rfl h10) (fun h10 => ?_)
  refine r_iconst (v := 1) dJ0_isLatin1_aae02_13 (by decide) ?_
  refine r_goto (tgt := 18) dJ0_isLatin1_aae02_14 (by decide) ?_
  refine r_bret (b := true) dJ0_isLatin1_aae02_18 rfl ?_ ?_
  · rfl
  · exact retI rfl
set_option maxRecDepth 20000 in
set_option maxHeartbeats 4000000 in
theorem S_coder1 {g : GP} {d n : Nat} {I : TI} {J : TJ} {R : TR} : Wp g d mJ0_coder_7d493 0 [.ref (6 + 1)] [] 0 0 n I J R (RetI 0 n I J R) := by
  refine gets_core (q := ("java/lang/String", "COMPACT_STRINGS", "Z", .null)) (v := .int 1) dJ0_coder_7d493_0 (fun g => by simp [zsL, cv]) w_206 ?_
  refine r_if_eq (tgt := 13) dJ0_coder_7d493_3 (by decide) (fun h3 => absurd h3 (by decide)) (fun h3 => ?_)
  refine r_aload_n dJ0_coder_7d493_6 rfl ?_
  refine r_getStr (i := 1) (w := .int 0) dJ0_coder_7d493_7 (by omega) (Or.inl ⟨rfl, rfl, rfl⟩) w_1246 ?_
  refine r_goto (tgt := 14) dJ0_coder_7d493_10 (by decide) ?_
  refine r_zret dJ0_coder_7d493_14 rfl ?_ ?_
  · rfl
  · exact retI rfl
set_option maxRecDepth 20000 in
set_option maxHeartbeats 4000000 in
theorem S_len1 {g : GP} {d n : Nat} {I : TI} {J : TJ} {R : TR} : Wp g (d + 1) mJ0_length_8abf5 0 [.ref (6 + 1)] [] 0 0 n I J R (RetI (nI 64) n I J R) := by
  refine r_aload_n dJ0_length_8abf5_0 rfl ?_
  refine r_getStr (i := 1) (w := .ref (9 + 1)) dJ0_length_8abf5_1 (by omega) (Or.inr ⟨rfl, rfl, rfl⟩) w_1245 ?_
  refine r_alenS dJ0_length_8abf5_4 rfl ?_
  refine r_aload_n dJ0_length_8abf5_5 rfl ?_
  refine r_callVS0I dJ0_length_8abf5_6 moJ0_coder_7d493 w_202 w_203 w_204 (by omega) rfl (Nat.le_of_ble_eq_true rfl) (Nat.le_of_ble_eq_true rfl) S_coder1 ?_
  refine r_ishr dJ0_length_8abf5_9 ?_
  refine r_iret dJ0_length_8abf5_10 rfl ?_
  exact retI (by decide)
set_option maxRecDepth 20000 in
set_option maxHeartbeats 4000000 in
theorem S_isLat2 {g : GP} {d n : Nat} {I : TI} {J : TJ} {R : TR} : Wp g d mJ0_isLatin1_aae02 0 [.ref (6 + 2)] [] 0 0 n I J R (RetI (b2i true) n I J R) := by
  refine gets_core (q := ("java/lang/String", "COMPACT_STRINGS", "Z", .null)) (v := .int 1) dJ0_isLatin1_aae02_0 (fun g => by simp [zsL, cv]) w_206 ?_
  refine r_if_eq (tgt := 17) dJ0_isLatin1_aae02_3 (by decide) (fun h3 => absurd h3 (by decide)) (fun h3 => ?_)
  refine r_aload_n dJ0_isLatin1_aae02_6 rfl ?_
  refine r_getStr (i := 2) (w := .int 0) dJ0_isLatin1_aae02_7 (by omega) (Or.inl ⟨rfl, rfl, rfl⟩) w_1246 ?_
  refine r_if_ne (tgt := 17) dJ0_isLatin1_aae02_10 (by decide) (fun h10 => absurd rfl h10) (fun h10 => ?_)
  refine r_iconst (v := 1) dJ0_isLatin1_aae02_13 (by decide) ?_
  refine r_goto (tgt := 18) dJ0_isLatin1_aae02_14 (by decide) ?_
  refine r_bret (b := true) dJ0_isLatin1_aae02_18 rfl ?_ ?_
  · rfl
  · exact retI rfl
set_option maxRecDepth 20000 in
set_option maxHeartbeats 4000000 in
theorem S_coder2 {g : GP} {d n : Nat} {I : TI} {J : TJ} {R : TR} : Wp g d mJ0_coder_7d493 0 [.ref (6 + 2)] [] 0 0 n I J R (RetI 0 n I J R) := by
  refine gets_core (q := ("java/lang/String", "COMPACT_STRINGS", "Z", .null)) (v := .int 1) dJ0_coder_7d493_0 (fun g => by simp [zsL, cv]) w_206 ?_
  refine r_if_eq (tgt := 13) dJ0_coder_7d493_3 (by decide) (fun h3 => absurd h3 (by decide)) (fun h3 => ?_)
  refine r_aload_n dJ0_coder_7d493_6 rfl ?_
  refine r_getStr (i := 2) (w := .int 0) dJ0_coder_7d493_7 (by omega) (Or.inl ⟨rfl, rfl, rfl⟩) w_1246 ?_
  refine r_goto (tgt := 14) dJ0_coder_7d493_10 (by decide) ?_
  refine r_zret dJ0_coder_7d493_14 rfl ?_ ?_
  · rfl
  · exact retI rfl
set_option maxRecDepth 20000 in
set_option maxHeartbeats 4000000 in
theorem S_len2 {g : GP} {d n : Nat} {I : TI} {J : TJ} {R : TR} : Wp g (d + 1) mJ0_length_8abf5 0 [.ref (6 + 2)] [] 0 0 n I J R (RetI (nI 8) n I J R) := by
  refine r_aload_n dJ0_length_8abf5_0 rfl ?_
  refine r_getStr (i := 2) (w := .ref (9 + 2)) dJ0_length_8abf5_1 (by omega) (Or.inr ⟨rfl, rfl, rfl⟩) w_1245 ?_
  refine r_alenS dJ0_length_8abf5_4 rfl ?_
  refine r_aload_n dJ0_length_8abf5_5 rfl ?_
  refine r_callVS0I dJ0_length_8abf5_6 moJ0_coder_7d493 w_202 w_203 w_204 (by omega) rfl (Nat.le_of_ble_eq_true rfl) (Nat.le_of_ble_eq_true rfl) S_coder2 ?_
  refine r_ishr dJ0_length_8abf5_9 ?_
  refine r_iret dJ0_length_8abf5_10 rfl ?_
  exact retI (by decide)
set_option maxRecDepth 20000 in
set_option maxHeartbeats 4000000 in
theorem S_chAt0 {g : GP} {d n : Nat} {I : TI} {J : TJ} {R : TR} {k c : Nat} (hk : k < 31) (hv : I (9 + 0) k = nI c) (hc : c < 128) : Wp g (d + 3) mJ0_charAt_5068e 0 [.ref (6 + 0), .int (nI k)] [] 0 0 n I J R (RetI (nI c) n I J R) := by
  refine r_aload_n dJ0_charAt_5068e_0 rfl ?_
  refine r_callVS0I dJ0_charAt_5068e_1 moJ0_isLatin1_aae02 w_212 w_213 w_214 (by omega) rfl (Nat.le_of_ble_eq_true rfl) (Nat.le_of_ble_eq_true rfl) S_isLat0 ?_
  refine r_ifb_eq (tgt := 16) dJ0_charAt_5068e_4 (by decide) (fun h4 => absurd h4 (by decide)) (fun h4 => ?_)
  refine r_aload_n dJ0_charAt_5068e_7 rfl ?_
  refine r_getStr (i := 0) (w := .ref (9 + 0)) dJ0_charAt_5068e_8 (by omega) (Or.inr ⟨rfl, rfl, rfl⟩) w_1245 ?_
  refine r_iload_n dJ0_charAt_5068e_11 rfl ?_
  refine r_callS2I dJ0_charAt_5068e_12 moJ1_charAt_3b067 w_216 w_217 (Nat.le_of_ble_eq_true rfl) (Nat.le_of_ble_eq_true rfl) (S_latAt0 hk hv hc) ?_
  refine r_zret dJ0_charAt_5068e_15 rfl ?_ ?_
  · exact nar_ch (by omega)
  · exact retI rfl
set_option maxRecDepth 20000 in
set_option maxHeartbeats 4000000 in
theorem S_chAt1 {g : GP} {d n : Nat} {I : TI} {J : TJ} {R : TR} {k c : Nat} (hk : k < 64) (hv : I (9 + 1) k = nI c) (hc : c < 128) : Wp g (d + 3) mJ0_charAt_5068e 0 [.ref (6 + 1), .int (nI k)] [] 0 0 n I J R (RetI (nI c) n I J R) := by
  refine r_aload_n dJ0_charAt_5068e_0 rfl ?_
  refine r_callVS0I dJ0_charAt_5068e_1 moJ0_isLatin1_aae02 w_212 w_213 w_214 (by omega) rfl (Nat.le_of_ble_eq_true rfl) (Nat.le_of_ble_eq_true rfl) S_isLat1 ?_
  refine r_ifb_eq (tgt := 16) dJ0_charAt_5068e_4 (by decide) (fun h4 => absurd h4 (by decide)) (fun h4 => ?_)
  refine r_aload_n dJ0_charAt_5068e_7 rfl ?_
  refine r_getStr (i := 1) (w := .ref (9 + 1)) dJ0_charAt_5068e_8 (by omega) (Or.inr ⟨rfl, rfl, rfl⟩) w_1245 ?_
  refine r_iload_n dJ0_charAt_5068e_11 rfl ?_
  refine r_callS2I dJ0_charAt_5068e_12 moJ1_charAt_3b067 w_216 w_217 (Nat.le_of_ble_eq_true rfl) (Nat.le_of_ble_eq_true rfl) (S_latAt1 hk hv hc) ?_
  refine r_zret dJ0_charAt_5068e_15 rfl ?_ ?_
  · exact nar_ch (by omega)
  · exact retI rfl
set_option maxRecDepth 20000 in
set_option maxHeartbeats 4000000 in
theorem S_ixCh {g : GP} {d n : Nat} {I : TI} {J : TJ} {R : TR} {c : Nat} (hc : c < 256) (hS : STR I) : Wp g d mJ1_indexOfChar_4cfef 0 [.ref (9 + 2), .int (nI c), .int 0, .int (nI 8), .null, .null] [] 0 0 n I J R (RetI (zI (sgR c 8 0)) n I J R) := by
  have loop : ∀ f i, i + f = 8 → sgR c f i = sgR c 8 0 → Wp g d mJ1_indexOfChar_4cfef 7 [.ref (9 + 2), .int (nI c), .int 0, .int (nI 8), .int (nI c).toInt8.toInt32, .int (nI i)] [] 0 0 n I J R (RetI (zI (sgR c 8 0)) n I J R) := by
    intro f
    induction f with
    | zero =>
      intro i hi he
      refine r_iload dJ1_indexOfChar_4cfef_7 rfl ?_
      refine r_iload_n dJ1_indexOfChar_4cfef_9 rfl ?_
      refine r_nicmp_ge  (tgt := 31) dJ1_indexOfChar_4cfef_10 (by decide) rfl rfl (by omega) (by omega) (fun h10 => ?_) (fun h10 => absurd h10 (by omega))
      refine r_iconst (v := (-1)) dJ1_indexOfChar_4cfef_31 (by decide) ?_
      refine r_iret dJ1_indexOfChar_4cfef_32 rfl ?_
      exact retI (by rw [← he]; rfl)
    | succ f ih =>
      intro i hi he
      refine r_iload dJ1_indexOfChar_4cfef_7 rfl ?_
      refine r_iload_n dJ1_indexOfChar_4cfef_9 rfl ?_
      refine r_nicmp_ge  (tgt := 31) dJ1_indexOfChar_4cfef_10 (by decide) rfl rfl (by omega) (by omega) (fun h10 => absurd h10 (by omega)) (fun h10 => ?_)
      refine r_aload_n dJ1_indexOfChar_4cfef_13 rfl ?_
      refine r_iload dJ1_indexOfChar_4cfef_14 rfl ?_
      refine r_baldS (j := i) dJ1_indexOfChar_4cfef_16 rfl (by omega) (by decide) rfl ?_
      refine r_top (hS.2 i (by omega)) ?_
      refine r_iload dJ1_indexOfChar_4cfef_17 rfl ?_
      refine r_icmp_ne (tgt := 25) dJ1_indexOfChar_4cfef_19 (by decide) (fun h19 => ?_) (fun h19 => ?_)
      · refine r_iincE (b := (i + 1)) dJ1_indexOfChar_4cfef_25 rfl rfl (nI_succ _).symm rfl ?_
        refine r_goto (tgt := 7) dJ1_indexOfChar_4cfef_28 (by decide) ?_
        refine ih (i + 1) (by omega) ?_
        rw [← he]
        show _ = (if c = sgnN i then (i : Int) else sgR c f (i + 1))
        rw [if_neg (fun e => h19 ((i2b_sg c hc i (by omega)).mpr e).symm)]
      · refine r_iload dJ1_indexOfChar_4cfef_22 rfl ?_
        refine r_iret dJ1_indexOfChar_4cfef_24 rfl ?_
        refine retI ?_
        rw [← he]
        show _ = zI (if c = sgnN i then (i : Int) else _)
        rw [if_pos ((i2b_sg c hc i (by omega)).mp h19.symm)]
        rfl
  refine r_iload_n dJ1_indexOfChar_4cfef_0 rfl ?_
  refine r_i2b dJ1_indexOfChar_4cfef_1 ?_
  refine r_istore dJ1_indexOfChar_4cfef_2 (by decide) rfl ?_
  refine r_iload_n dJ1_indexOfChar_4cfef_4 rfl ?_
  refine r_istore dJ1_indexOfChar_4cfef_5 (by decide) rfl ?_
  exact loop 8 0 rfl rfl
set_option maxRecDepth 20000 in
set_option maxHeartbeats 4000000 in
theorem S_canEnc {g : GP} {d n : Nat} {I : TI} {J : TJ} {R : TR} {c : Nat} (hc : c < 256) : Wp g d mJ1_canEncode_9a6ad 0 [.int (nI c)] [] 0 0 n I J R (RetI (b2i true) n I J R) := by
  refine r_iload_n dJ1_canEncode_9a6ad_0 rfl ?_
  refine r_zif_lt (tgt := 15) dJ1_canEncode_9a6ad_1 (by decide) (nz _) (by unfold inZ; omega) (fun h1 => absurd h1 (by omega)) (fun h1 => ?_)
  refine r_iload_n dJ1_canEncode_9a6ad_4 rfl ?_
  refine r_sipush (v := 255) dJ1_canEncode_9a6ad_5 (by decide) ?_
  refine r_nicmp_gt (b := 255)  (tgt := 15) dJ1_canEncode_9a6ad_8 (by decide) rfl rfl (by omega) (by omega) (fun h8 => absurd h8 (by omega)) (fun h8 => ?_)
  refine r_iconst (v := 1) dJ1_canEncode_9a6ad_11 (by decide) ?_
  refine r_goto (tgt := 16) dJ1_canEncode_9a6ad_12 (by decide) ?_
  refine r_bret (b := true) dJ1_canEncode_9a6ad_16 rfl ?_ ?_
  · rfl
  · exact retI rfl
set_option maxRecDepth 20000 in
set_option maxHeartbeats 4000000 in
theorem S_ixOf1 {g : GP} {d n : Nat} {I : TI} {J : TJ} {R : TR} {c : Nat} (hc : c < 256) (hS : STR I) : Wp g (d + 1) mJ1_indexOf_4cfef 0 [.ref (9 + 2), .int (nI c), .int 0, .int (nI 8)] [] 0 0 n I J R (RetI (zI (sgR c 8 0)) n I J R) := by
  refine r_iload_n dJ1_indexOf_4cfef_0 rfl ?_
  refine r_callS1I dJ1_indexOf_4cfef_1 moJ1_canEncode_9a6ad w_296 w_297 (Nat.le_of_ble_eq_true rfl) (Nat.le_of_ble_eq_true rfl) (S_canEnc hc) ?_
  refine r_ifb_ne (tgt := 9) dJ1_indexOf_4cfef_4 (by decide) (fun h4 => ?_) (fun h4 => absurd h4 (by decide))
  refine r_iload_n dJ1_indexOf_4cfef_9 rfl ?_
  refine r_iconst (v := 0) dJ1_indexOf_4cfef_10 (by decide) ?_
  refine r_nmmax (a := 0) (b := 0) dJ1_indexOf_4cfef_11 w_299 (Nat.le_of_ble_eq_true rfl) rfl rfl (by omega) (by omega) ?_
  refine r_top (v := 0) (by decide) ?_
  refine r_istore_n dJ1_indexOf_4cfef_14 (by decide) rfl ?_
  refine r_iload_n dJ1_indexOf_4cfef_15 rfl ?_
  refine r_aload_n dJ1_indexOf_4cfef_16 rfl ?_
  refine r_alenS dJ1_indexOf_4cfef_17 rfl ?_
  refine r_nmmin (b := 8) dJ1_indexOf_4cfef_18 w_302 (Nat.le_of_ble_eq_true rfl) rfl rfl (by omega) (by omega) ?_
  refine r_top (v := nI 8) (by decide) ?_
  refine r_istore_n dJ1_indexOf_4cfef_21 (by decide) rfl ?_
  refine r_iload_n dJ1_indexOf_4cfef_22 rfl ?_
  refine r_iload_n dJ1_indexOf_4cfef_23 rfl ?_
  refine r_nicmp_lt (a := 0) (b := 8) (tgt := 29) dJ1_indexOf_4cfef_24 (by decide) rfl rfl (by omega) (by omega) (fun h24 => ?_) (fun h24 => absurd h24 (by omega))
  refine r_aload_n dJ1_indexOf_4cfef_29 rfl ?_
  refine r_iload_n dJ1_indexOf_4cfef_30 rfl ?_
  refine r_iload_n dJ1_indexOf_4cfef_31 rfl ?_
  refine r_iload_n dJ1_indexOf_4cfef_32 rfl ?_
  refine r_callS4I dJ1_indexOf_4cfef_33 moJ1_indexOfChar_4cfef w_305 w_306 (Nat.le_of_ble_eq_true rfl) (Nat.le_of_ble_eq_true rfl) (S_ixCh hc hS) ?_
  refine r_iret dJ1_indexOf_4cfef_36 rfl ?_
  exact retI rfl
set_option maxRecDepth 20000 in
set_option maxHeartbeats 4000000 in
theorem S_ixOf2 {g : GP} {d n : Nat} {I : TI} {J : TJ} {R : TR} {c : Nat} (hc : c < 256) (hS : STR I) : Wp g (d + 2) mJ0_indexOf_7cf53 0 [.ref (6 + 2), .int (nI c), .int 0] [] 0 0 n I J R (RetI (zI (sgR c 8 0)) n I J R) := by
  refine r_aload_n dJ0_indexOf_7cf53_0 rfl ?_
  refine r_callVS0I dJ0_indexOf_7cf53_1 moJ0_isLatin1_aae02 w_212 w_213 w_214 (by omega) rfl (Nat.le_of_ble_eq_true rfl) (Nat.le_of_ble_eq_true rfl) S_isLat2 ?_
  refine r_ifb_eq (tgt := 23) dJ0_indexOf_7cf53_4 (by decide) (fun h4 => absurd h4 (by decide)) (fun h4 => ?_)
  refine r_aload_n dJ0_indexOf_7cf53_7 rfl ?_
  refine r_getStr (i := 2) (w := .ref (9 + 2)) dJ0_indexOf_7cf53_8 (by omega) (Or.inr ⟨rfl, rfl, rfl⟩) w_1245 ?_
  refine r_iload_n dJ0_indexOf_7cf53_11 rfl ?_
  refine r_iload_n dJ0_indexOf_7cf53_12 rfl ?_
  refine r_aload_n dJ0_indexOf_7cf53_13 rfl ?_
  refine r_callVS0I dJ0_indexOf_7cf53_14 moJ0_length_8abf5 w_292 w_199 w_200 (by omega) rfl (Nat.le_of_ble_eq_true rfl) (Nat.le_of_ble_eq_true rfl) S_len2 ?_
  refine r_callS4I dJ0_indexOf_7cf53_17 moJ1_indexOf_4cfef w_293 w_294 (Nat.le_of_ble_eq_true rfl) (Nat.le_of_ble_eq_true rfl) (S_ixOf1 hc hS) ?_
  refine r_goto (tgt := 36) dJ0_indexOf_7cf53_20 (by decide) ?_
  refine r_iret dJ0_indexOf_7cf53_36 rfl ?_
  exact retI rfl
set_option maxRecDepth 20000 in
set_option maxHeartbeats 4000000 in
theorem S_ixOf3 {g : GP} {d n : Nat} {I : TI} {J : TJ} {R : TR} {c : Nat} (hc : c < 256) (hS : STR I) : Wp g (d + 3) mJ0_indexOf_0f7a4 0 [.ref (6 + 2), .int (nI c)] [] 0 0 n I J R (RetI (zI (sgR c 8 0)) n I J R) := by
  refine r_aload_n dJ0_indexOf_0f7a4_0 rfl ?_
  refine r_iload_n dJ0_indexOf_0f7a4_1 rfl ?_
  refine r_iconst (v := 0) dJ0_indexOf_0f7a4_2 (by decide) ?_
  refine r_callVS2I dJ0_indexOf_0f7a4_3 moJ0_indexOf_7cf53 w_288 w_289 w_290 (by omega) rfl (Nat.le_of_ble_eq_true rfl) (Nat.le_of_ble_eq_true rfl) (S_ixOf2 hc hS) ?_
  refine r_iret dJ0_indexOf_0f7a4_6 rfl ?_
  exact retI rfl
set_option maxRecDepth 20000 in
set_option maxHeartbeats 4000000 in
theorem S_isLetter {g : GP} {d n : Nat} {I : TI} {J : TJ} {R : TR} {c : Nat} (hc : c < 256) : Wp g d mX1_isLetter 0 [.int (nI c)] [] 0 0 n I J R (RetI (b2i (isLeB c)) n I J R) := by
  refine r_iload_n dX1_isLetter_0 rfl ?_
  refine r_bipush (v := 97) dX1_isLetter_1 (by decide) ?_
  refine r_nicmp_lt (b := 97)  (tgt := 16) dX1_isLetter_3 (by decide) rfl rfl (by omega) (by omega) (fun h3 => ?_) (fun h3 => ?_)
  · refine r_iconst (v := 0) dX1_isLetter_16 (by decide) ?_
    refine r_bret (b := isLeB c) dX1_isLetter_17 rfl ?_ ?_
    · refine b2i_0 ?_
      simp only [isLeB, Bool.and_eq_false_iff, decide_eq_false_iff_not]
      omega
    · exact ⟨rfl, rfl, rfl, rfl, rfl⟩
  · refine r_iload_n dX1_isLetter_6 rfl ?_
    refine r_bipush (v := 122) dX1_isLetter_7 (by decide) ?_
    refine r_nicmp_gt (b := 122)  (tgt := 16) dX1_isLetter_9 (by decide) rfl rfl (by omega) (by omega) (fun h9 => ?_) (fun h9 => ?_)
    · refine r_iconst (v := 0) dX1_isLetter_16 (by decide) ?_
      refine r_bret (b := isLeB c) dX1_isLetter_17 rfl ?_ ?_
      · refine b2i_0 ?_
        simp only [isLeB, Bool.and_eq_false_iff, decide_eq_false_iff_not]
        omega
      · exact ⟨rfl, rfl, rfl, rfl, rfl⟩
    · refine r_iconst (v := 1) dX1_isLetter_12 (by decide) ?_
      refine r_goto (tgt := 17) dX1_isLetter_13 (by decide) ?_
      refine r_bret (b := isLeB c) dX1_isLetter_17 rfl ?_ ?_
      · refine b2i_1 ?_
        simp only [isLeB, Bool.and_eq_true, decide_eq_true_eq]
        omega
      · exact ⟨rfl, rfl, rfl, rfl, rfl⟩
set_option maxRecDepth 20000 in
set_option maxHeartbeats 4000000 in
theorem S_isDigit {g : GP} {d n : Nat} {I : TI} {J : TJ} {R : TR} {c : Nat} (hc : c < 256) : Wp g d mX1_isDigit 0 [.int (nI c)] [] 0 0 n I J R (RetI (b2i (isDiB c)) n I J R) := by
  refine r_iload_n dX1_isDigit_0 rfl ?_
  refine r_bipush (v := 48) dX1_isDigit_1 (by decide) ?_
  refine r_nicmp_lt (b := 48)  (tgt := 16) dX1_isDigit_3 (by decide) rfl rfl (by omega) (by omega) (fun h3 => ?_) (fun h3 => ?_)
  · refine r_iconst (v := 0) dX1_isDigit_16 (by decide) ?_
    refine r_bret (b := isDiB c) dX1_isDigit_17 rfl ?_ ?_
    · refine b2i_0 ?_
      simp only [isDiB, Bool.and_eq_false_iff, decide_eq_false_iff_not]
      omega
    · exact ⟨rfl, rfl, rfl, rfl, rfl⟩
  · refine r_iload_n dX1_isDigit_6 rfl ?_
    refine r_bipush (v := 57) dX1_isDigit_7 (by decide) ?_
    refine r_nicmp_gt (b := 57)  (tgt := 16) dX1_isDigit_9 (by decide) rfl rfl (by omega) (by omega) (fun h9 => ?_) (fun h9 => ?_)
    · refine r_iconst (v := 0) dX1_isDigit_16 (by decide) ?_
      refine r_bret (b := isDiB c) dX1_isDigit_17 rfl ?_ ?_
      · refine b2i_0 ?_
        simp only [isDiB, Bool.and_eq_false_iff, decide_eq_false_iff_not]
        omega
      · exact ⟨rfl, rfl, rfl, rfl, rfl⟩
    · refine r_iconst (v := 1) dX1_isDigit_12 (by decide) ?_
      refine r_goto (tgt := 17) dX1_isDigit_13 (by decide) ?_
      refine r_bret (b := isDiB c) dX1_isDigit_17 rfl ?_ ?_
      · refine b2i_1 ?_
        simp only [isDiB, Bool.and_eq_true, decide_eq_true_eq]
        omega
      · exact ⟨rfl, rfl, rfl, rfl, rfl⟩
/-- what reading a token changes of the reader -/
def RdF (I I2 : TI) : Prop := (∀ a, a ≠ 64 → I2 a = I a) ∧ ∀ j, j ≠ 3 → j ≠ 4 → j ≠ 5 → j ≠ 6 → I2 64 j = I 64 j
def TpOK (I : TI) (b : Nat → Nat) (z : Nat) : Prop := I 64 1 = nI z ∧ z ≤ 160 ∧ ∀ j, j < z → I 65 j = nI (b j) ∧ b j < 256
def RdS (I : TI) (st : LexS) : Prop := I 64 3 = nI st.1 ∧ I 64 4 = nI st.2.1 ∧ I 64 5 = zI st.2.2.1 ∧ (st.2.2.1 = 256 ∨ st.2.2.1 = 257 → I 64 6 = nI st.2.2.2)
theorem RdF.rf {I : TI} : RdF I I := ⟨fun _ _ => rfl, fun _ _ _ _ _ => rfl⟩
theorem RdF.u {I I2 : TI} (h : RdF I I2) {k : Nat} {v : Int32} (hk : k = 3 ∨ k = 4 ∨ k = 5 ∨ k = 6) : RdF I (up2 I2 64 k v) := ⟨fun a ha => by rw [up2_a _ _ _ ha]; exact h.1 a ha, fun j h1 h2 h3 h4 => by rw [up2_k _ _ (by omega)]; exact h.2 j h1 h2 h3 h4⟩
theorem RdF.t {I I1 I2 : TI} (h : RdF I I1) (h2 : RdF I1 I2) : RdF I I2 := ⟨fun a ha => (h2.1 a ha).trans (h.1 a ha), fun j g1 g2 g3 g4 => (h2.2 j g1 g2 g3 g4).trans (h.2 j g1 g2 g3 g4)⟩
theorem TpOK.f {I I2 : TI} {b : Nat → Nat} {z : Nat} (h : TpOK I b z) (hF : RdF I I2) : TpOK I2 b z := ⟨(hF.2 1 (by decide) (by decide) (by decide) (by decide)).trans h.1, h.2.1, fun j hj => by rw [hF.1 65 (by decide)]; exact h.2.2 j hj⟩
theorem STR.f {I I2 : TI} (h : STR I) (hF : RdF I I2) : STR I2 := h.fr fun a ha => hF.1 a (by omega)
def allM (b : Nat → Nat) (s i : Nat) : Nat → Nat → Bool
  | 0, _ => true
  | f + 1, k => decide (wrdN (i + k) = b (s + k)) && allM b s i f (k + 1)
def mtN (b : Nat → Nat) (s len i : Nat) : Bool := decide (i + len < 64) && (decide (wrdN (i + len) = 32) && allM b s i len 0)
def scanW (q : Nat → Bool) : Nat → Nat → Nat → Option Nat
  | 0, _, _ => none
  | f + 1, i, w => bif wrdN i != 32 then scanW q f (i + 1) w else bif q (i + 1) then some w else scanW q f (i + 1) (w + 1)
def wdP (j : Nat) : Nat := [1, 6, 10, 15, 22, 29, 35, 41, 47, 53, 56, 60].getD j 0
theorem wd_tab : ∀ j, j < 12 → wdP j + (wdsL.getD j []).length < 64 ∧ wrdN (wdP j + (wdsL.getD j []).length) = 32 ∧ ∀ k, k < (wdsL.getD j []).length → wrdN (wdP j + k) = (wdsL.getD j []).getD k 0 ∧ 97 ≤ wrdN (wdP j + k) := by decide +kernel
theorem allM_t {b : Nat → Nat} {s i : Nat} : ∀ f k, allM b s i f k = true ↔ ∀ j, k ≤ j → j < k + f → wrdN (i + j) = b (s + j)
  | 0, k => ⟨fun _ j h1 h2 => by omega, fun _ => rfl⟩
  | f + 1, k => by
    show (decide (wrdN (i + k) = b (s + k)) && allM b s i f (k + 1)) = true ↔ _
    rw [Bool.and_eq_true, decide_eq_true_eq, allM_t f (k + 1)]
    constructor
    · intro h j h1 h2
      by_cases e : j = k
      · rw [e]; exact h.1
      · exact h.2 j (by omega) (by omega)
    · intro h
      exact ⟨h k (Nat.le_refl _) (by omega), fun j h1 h2 => h j (by omega) (by omega)⟩
theorem mt_wd {b : Nat → Nat} {s len j : Nat} (hj : j < 12) (hb : ∀ k, k < len → 97 ≤ b (s + k)) : mtN b s len (wdP j) = wdIs b s len j := by
  obtain ⟨h1, h2, h3⟩ := wd_tab j hj
  unfold wdIs
  generalize wdsL.getD j [] = W at h1 h2 h3
  generalize wdP j = P at h1 h2 h3
  have hlen : (wdLt b s len).length = len := by unfold wdLt; rw [List.length_map, List.length_range]
  rw [Bool.eq_iff_iff, decide_eq_true_eq]
  unfold mtN
  rw [Bool.and_eq_true, Bool.and_eq_true, decide_eq_true_eq, decide_eq_true_eq, allM_t]
  constructor
  · intro h
    obtain ⟨a1, a2, a3⟩ := h
    have e : len = W.length := by
      apply Nat.le_antisymm
      · apply Nat.le_of_not_lt
        intro hl
        have a4 := a3 W.length (Nat.zero_le _) (by omega)
        have a5 := hb W.length hl
        omega
      · apply Nat.le_of_not_lt
        intro hl
        have := (h3 len hl).2
        omega
    apply List.ext_getElem?
    intro k
    unfold wdLt
    rw [List.getElem?_map]
    by_cases hk : k < len
    · have g1 : k < W.length := by omega
      have a4 := a3 k (Nat.zero_le _) (by omega)
      have a6 := (h3 k g1).1
      rw [List.getD_eq_getElem?_getD, List.getElem?_eq_getElem g1] at a6
      rw [List.getElem?_range hk, List.getElem?_eq_getElem g1]
      show some W[k] = some (b (s + k))
      rw [← a4, a6]
      rfl
    · rw [List.getElem?_eq_none (by omega), List.getElem?_eq_none (by rw [List.length_range]; omega)]
      rfl
  · intro h
    have e : len = W.length := by rw [h, hlen]
    refine ⟨by omega, by rw [e]; exact h2, fun k _ hk => ?_⟩
    rw [(h3 k (by omega)).1, h]
    unfold wdLt
    rw [List.getD_eq_getElem?_getD, List.getElem?_map, List.getElem?_range (by omega)]
    rfl
theorem nest12 : ∀ c0 c1 c2 c3 c4 c5 c6 c7 c8 c9 c10 c11 : Bool, (bif c0 then some 0 else bif c1 then some 1 else bif c2 then some 2 else bif c3 then some 3 else bif c4 then some 4 else bif c5 then some 5 else bif c6 then some 6 else bif c7 then some 7 else bif c8 then some 8 else bif c9 then some 9 else bif c10 then some 10 else bif c11 then some 11 else (none : Option Nat)) = (if (bif c0 then 0 else bif c1 then 1 else bif c2 then 2 else bif c3 then 3 else bif c4 then 4 else bif c5 then 5 else bif c6 then 6 else bif c7 then 7 else bif c8 then 8 else bif c9 then 9 else bif c10 then 10 else bif c11 then 11 else 12) < 12 then some (bif c0 then 0 else bif c1 then 1 else bif c2 then 2 else bif c3 then 3 else bif c4 then 4 else bif c5 then 5 else bif c6 then 6 else bif c7 then 7 else bif c8 then 8 else bif c9 then 9 else bif c10 then 10 else bif c11 then 11 else 12) else none) := by decide +kernel
theorem scan_q (q : Nat → Bool) : scanW q 64 0 0 = (bif q 1 then some 0 else bif q 6 then some 1 else bif q 10 then some 2 else bif q 15 then some 3 else bif q 22 then some 4 else bif q 29 then some 5 else bif q 35 then some 6 else bif q 41 then some 7 else bif q 47 then some 8 else bif q 53 then some 9 else bif q 56 then some 10 else bif q 60 then some 11 else bif q 64 then some 12 else none) := by rfl
theorem scan_wd {b : Nat → Nat} {s len : Nat} (hb : ∀ k, k < len → 97 ≤ b (s + k)) : scanW (mtN b s len) 64 0 0 = if wdN b s len < 12 then some (wdN b s len) else none := by
  have h64 : mtN b s len 64 = false := by unfold mtN; rw [decide_eq_false (by omega)]; rfl
  have m (j : Nat) (hj : j < 12) := mt_wd (b := b) (s := s) (len := len) hj hb
  have m0 := m 0 (by decide)
  have m1 := m 1 (by decide)
  have m2 := m 2 (by decide)
  have m3 := m 3 (by decide)
  have m4 := m 4 (by decide)
  have m5 := m 5 (by decide)
  have m6 := m 6 (by decide)
  have m7 := m 7 (by decide)
  have m8 := m 8 (by decide)
  have m9 := m 9 (by decide)
  have m10 := m 10 (by decide)
  have m11 := m 11 (by decide)
  rw [scan_q, h64]
  show (bif mtN b s len (wdP 0) then some 0 else bif mtN b s len (wdP 1) then some 1 else bif mtN b s len (wdP 2) then some 2 else bif mtN b s len (wdP 3) then some 3 else bif mtN b s len (wdP 4) then some 4 else bif mtN b s len (wdP 5) then some 5 else bif mtN b s len (wdP 6) then some 6 else bif mtN b s len (wdP 7) then some 7 else bif mtN b s len (wdP 8) then some 8 else bif mtN b s len (wdP 9) then some 9 else bif mtN b s len (wdP 10) then some 10 else bif mtN b s len (wdP 11) then some 11 else none) = _
  rw [m0, m1, m2, m3, m4, m5, m6, m7, m8, m9, m10, m11]
  exact nest12 _ _ _ _ _ _ _ _ _ _ _ _
set_option maxRecDepth 20000 in
set_option maxHeartbeats 4000000 in
theorem S_isWordAt {g : GP} {d n : Nat} {I : TI} {J : TJ} {R : TR} {b : Nat → Nat} {z s e i : Nat} (hsh : Shw n R) (hT : TpOK I b z) (hS : STR I) (h3 : I 64 3 = nI s) (h4 : I 64 4 = nI e) (hse : s ≤ e) (hez : e ≤ z) (hi : i ≤ 64) : Wp g (d + 4) mX1_isWordAt 0 [.ref 64, .int (nI i), .null, .null] [] 0 0 n I J R (RetI (b2i (mtN b s (e - s) i)) n I J R) := by
  have hz := hT.2.1
  have loop : i + (e - s) < 64 → wrdN (i + (e - s)) = 32 → ∀ f k, k + f = e - s → allM b s i f k = allM b s i (e - s) 0 → Wp g (d + 4) mX1_isWordAt 38 [.ref 64, .int (nI i), .int (nI (e - s)), .int (nI k)] [] 0 0 n I J R (RetI (b2i (mtN b s (e - s) i)) n I J R) := by
    intro hl hw
    have em : mtN b s (e - s) i = allM b s i (e - s) 0 := by unfold mtN; rw [decide_eq_true hl, decide_eq_true hw]; rfl
    intro f
    induction f with
    | zero =>
      intro k hk he
      refine r_iload_n dX1_isWordAt_38 rfl ?_
      refine r_iload_n dX1_isWordAt_39 rfl ?_
      refine r_nicmp_ge  (tgt := 73) dX1_isWordAt_40 (by decide) rfl rfl (by omega) (by omega) (fun h40 => ?_) (fun h40 => absurd h40 (by omega))
      refine r_iconst (v := 1) dX1_isWordAt_73 (by decide) ?_
      refine r_bret (b := mtN b s (e - s) i) dX1_isWordAt_74 rfl ?_ ?_
      · refine b2i_1 ?_
        rw [em, ← he]; rfl
      · exact ⟨rfl, rfl, rfl, rfl, rfl⟩
    | succ f ih =>
      intro k hk he
      refine r_iload_n dX1_isWordAt_38 rfl ?_
      refine r_iload_n dX1_isWordAt_39 rfl ?_
      refine r_nicmp_ge  (tgt := 73) dX1_isWordAt_40 (by decide) rfl rfl (by omega) (by omega) (fun h40 => absurd h40 (by omega)) (fun h40 => ?_)
      refine r_ldcS (i := 1) dX1_isWordAt_43 rfl (by decide) ?_
      refine r_iload_n dX1_isWordAt_45 rfl ?_
      refine r_iload_n dX1_isWordAt_46 rfl ?_
      refine r_niadd dX1_isWordAt_47 rfl rfl ?_
      refine r_callVS1I dX1_isWordAt_48 moJ0_charAt_5068e w_271 w_209 w_210 (by omega) rfl (Nat.le_of_ble_eq_true rfl) (Nat.le_of_ble_eq_true rfl) (S_chAt1 (c := wrdN (i + k)) (by omega) (hS.1 _ (by omega)) (wrdN_lt _ (by omega))) ?_
      refine r_aload_n dX1_isWordAt_51 rfl ?_
      refine r_getR (b := 65) dX1_isWordAt_52 f_X1_9 (hsh.al rfl (by decide)) (Or.inl ⟨_, rfl⟩) (hsh.r 64 0 65 (by decide)) (by decide) ?_
      refine r_aload_n dX1_isWordAt_55 rfl ?_
      refine r_getIE dX1_isWordAt_56 f_X1_26 (hsh.al rfl (by decide)) (Or.inl rfl) h3 ?_
      refine r_iload_n dX1_isWordAt_59 rfl ?_
      refine r_niadd dX1_isWordAt_60 rfl rfl ?_
      refine r_ialdE (j := (s + k)) dX1_isWordAt_61 (hsh.al rfl (by decide)) (by omega) rfl (hT.2.2 (s + k) (by omega)).1 ?_
      have q1 := wrdN_lt (i + k) (by omega)
      have q2 := (hT.2.2 (s + k) (by omega)).2
      refine r_nicmp_eq  (tgt := 67) dX1_isWordAt_62 (by decide) rfl rfl (by omega) (by omega) (fun h62 => ?_) (fun h62 => ?_)
      · refine r_iincE (b := (k + 1)) dX1_isWordAt_67 rfl rfl (nI_succ _).symm rfl ?_
        refine r_goto (tgt := 38) dX1_isWordAt_70 (by decide) ?_
        refine ih (k + 1) (by omega) ?_
        rw [← he]
        show _ = (decide (wrdN (i + k) = b (s + k)) && allM b s i f (k + 1))
        rw [decide_eq_true h62]; rfl
      · refine r_iconst (v := 0) dX1_isWordAt_65 (by decide) ?_
        refine r_bret (b := mtN b s (e - s) i) dX1_isWordAt_66 rfl ?_ ?_
        · refine b2i_0 ?_
          rw [em, ← he]
          show (decide (wrdN (i + k) = b (s + k)) && allM b s i f (k + 1)) = false
          rw [decide_eq_false h62]; rfl
        · exact ⟨rfl, rfl, rfl, rfl, rfl⟩
  refine r_aload_n dX1_isWordAt_0 rfl ?_
  refine r_getIE dX1_isWordAt_1 f_X1_29 (hsh.al rfl (by decide)) (Or.inl rfl) h4 ?_
  refine r_aload_n dX1_isWordAt_4 rfl ?_
  refine r_getIE dX1_isWordAt_5 f_X1_26 (hsh.al rfl (by decide)) (Or.inl rfl) h3 ?_
  refine r_nisub dX1_isWordAt_8 rfl rfl hse ?_
  refine r_istore_n dX1_isWordAt_9 (by decide) rfl ?_
  refine r_iload_n dX1_isWordAt_10 rfl ?_
  refine r_iload_n dX1_isWordAt_11 rfl ?_
  refine r_niadd dX1_isWordAt_12 rfl rfl ?_
  refine r_ldcS (i := 1) dX1_isWordAt_13 rfl (by decide) ?_
  refine r_callVS0I dX1_isWordAt_15 moJ0_length_8abf5 w_270 w_199 w_200 (by omega) rfl (Nat.le_of_ble_eq_true rfl) (Nat.le_of_ble_eq_true rfl) S_len1 ?_
  refine r_nicmp_ge  (tgt := 34) dX1_isWordAt_18 (by decide) rfl rfl (by omega) (by omega) (fun h18 => ?_) (fun h18 => ?_)
  · refine r_iconst (v := 0) dX1_isWordAt_34 (by decide) ?_
    refine r_bret (b := mtN b s (e - s) i) dX1_isWordAt_35 rfl ?_ ?_
    · refine b2i_0 ?_
      unfold mtN
      rw [decide_eq_false (by omega)]; rfl
    · exact ⟨rfl, rfl, rfl, rfl, rfl⟩
  · refine r_ldcS (i := 1) dX1_isWordAt_21 rfl (by decide) ?_
    refine r_iload_n dX1_isWordAt_23 rfl ?_
    refine r_iload_n dX1_isWordAt_24 rfl ?_
    refine r_niadd dX1_isWordAt_25 rfl rfl ?_
    refine r_callVS1I dX1_isWordAt_26 moJ0_charAt_5068e w_271 w_209 w_210 (by omega) rfl (Nat.le_of_ble_eq_true rfl) (Nat.le_of_ble_eq_true rfl) (S_chAt1 (c := wrdN (i + (e - s))) (by omega) (hS.1 _ (by omega)) (wrdN_lt _ (by omega))) ?_
    refine r_bipush (v := 32) dX1_isWordAt_29 (by decide) ?_
    have q1 := wrdN_lt (i + (e - s)) (by omega)
    refine r_nicmp_eq (b := 32)  (tgt := 36) dX1_isWordAt_31 (by decide) rfl rfl (by omega) (by omega) (fun h31 => ?_) (fun h31 => ?_)
    · refine r_iconst (v := 0) dX1_isWordAt_36 (by decide) ?_
      refine r_istore_n dX1_isWordAt_37 (by decide) rfl ?_
      exact loop h18 h31 (e - s) 0 (Nat.zero_add _) rfl
    · refine r_iconst (v := 0) dX1_isWordAt_34 (by decide) ?_
      refine r_bret (b := mtN b s (e - s) i) dX1_isWordAt_35 rfl ?_ ?_
      · refine b2i_0 ?_
        unfold mtN
        rw [decide_eq_false h31, Bool.false_and, Bool.and_false]
      · exact ⟨rfl, rfl, rfl, rfl, rfl⟩
def tkW (j : Nat) : Int := if j < 6 then 257 else if j < 12 then ((252 + j : Nat) : Int) else -2
theorem tkW_256 (j : Nat) : tkW j ≠ 256 := by unfold tkW; (repeat' split) <;> omega
def PtW (I : TI) (e j : Nat) : TI → Prop := fun I2 => RdF I I2 ∧ I2 64 3 = I 64 3 ∧ I2 64 4 = nI e ∧ I2 64 5 = zI (tkW j) ∧ (tkW j = 257 → I2 64 6 = nI j)
set_option maxRecDepth 20000 in
set_option maxHeartbeats 4000000 in
theorem S_takeWord {g : GP} {d n : Nat} {I : TI} {J : TJ} {R : TR} {b : Nat → Nat} {z s : Nat} (hsh : Shw n R) (hT : TpOK I b z) (hS : STR I) (h3 : I 64 3 = nI s) (h4 : I 64 4 = nI s) (hsz : s < z) (hl : isLeB (b s) = true) : Wp g (d + 5) mX1_takeWord 0 [.ref 64, .null, .null] [] 0 0 n I J R (PostI n J R none (PtW I (runW isLeB b (z - s) s) (wdN b s (runW isLeB b (z - s) s - s)))) := by
  have hz := hT.2.1
  have hr1 := runW_ge isLeB b (z - s) s
  have hr2 := runW_le isLeB b (z - s) s
  have hr3 := runW_in isLeB b (z - s) s
  generalize hE : runW isLeB b (z - s) s = E at hr1 hr2 hr3
  have hb : ∀ k, k < E - s → 97 ≤ b (s + k) := fun k hk => by
    have h6 := hr3 (s + k) (by omega) (by omega)
    simp only [isLeB, Bool.and_eq_true, decide_eq_true_eq] at h6
    exact h6.1
  have scan : ∀ I2, RdF I I2 → I2 64 3 = I 64 3 → I2 64 4 = nI E → I2 64 5 = -2 → ∀ f w i, i + f = 64 → w ≤ i → scanW (mtN b s (E - s)) f i w = scanW (mtN b s (E - s)) 64 0 0 → Wp g (d + 5) mX1_takeWord 49 [.ref 64, .int (nI w), .int (nI i)] [] 0 0 n I2 J R (PostI n J R none (PtW I E (wdN b s (E - s)))) := by
    intro I2 hF g3 g4 g5 f
    have e0 := scan_wd hb
    induction f with
    | zero =>
      intro w i hi hw he
      refine r_iload_n dX1_takeWord_49 rfl ?_
      refine r_ldcS (i := 1) dX1_takeWord_50 rfl (by decide) ?_
      refine r_callVS0I dX1_takeWord_52 moJ0_length_8abf5 w_270 w_199 w_200 (by omega) rfl (Nat.le_of_ble_eq_true rfl) (Nat.le_of_ble_eq_true rfl) S_len1 ?_
      refine r_nicmp_ge  (tgt := 121) dX1_takeWord_55 (by decide) rfl rfl (by omega) (by omega) (fun h55 => ?_) (fun h55 => absurd h55 (by omega))
      refine r_vret dX1_takeWord_121 rfl ?_
      refine ⟨rfl, rfl, rfl, rfl, hF, g3, g4, ?_, ?_⟩
      all_goals
        have e1 : ¬ wdN b s (E - s) < 12 := fun h => by
          rw [if_pos h, ← he] at e0
          exact absurd e0 (by show ¬ ((none : Option Nat) = some _); exact fun h => nomatch h)
        have e2 : tkW (wdN b s (E - s)) = -2 := by unfold tkW; rw [if_neg (by omega), if_neg e1]
        rw [e2]
      · exact g5
      · intro h; exact absurd h (by decide)
    | succ f ih =>
      intro w i hi hw he
      have hi63 : i < 64 := by omega
      have q0 := wrdN_lt i hi63
      refine r_iload_n dX1_takeWord_49 rfl ?_
      refine r_ldcS (i := 1) dX1_takeWord_50 rfl (by decide) ?_
      refine r_callVS0I dX1_takeWord_52 moJ0_length_8abf5 w_270 w_199 w_200 (by omega) rfl (Nat.le_of_ble_eq_true rfl) (Nat.le_of_ble_eq_true rfl) S_len1 ?_
      refine r_nicmp_ge  (tgt := 121) dX1_takeWord_55 (by decide) rfl rfl (by omega) (by omega) (fun h55 => absurd h55 (by omega)) (fun h55 => ?_)
      refine r_ldcS (i := 1) dX1_takeWord_58 rfl (by decide) ?_
      refine r_iload_n dX1_takeWord_60 rfl ?_
      refine r_callVS1I dX1_takeWord_61 moJ0_charAt_5068e w_271 w_209 w_210 (by omega) rfl (Nat.le_of_ble_eq_true rfl) (Nat.le_of_ble_eq_true rfl) (S_chAt1 (c := wrdN i) hi63 ((hS.f hF).1 _ hi63) q0) ?_
      refine r_bipush (v := 32) dX1_takeWord_64 (by decide) ?_
      refine r_nicmp_eq (b := 32)  (tgt := 72) dX1_takeWord_66 (by decide) rfl rfl (by omega) (by omega) (fun h66 => ?_) (fun h66 => ?_)
      · refine r_aload_n dX1_takeWord_72 rfl ?_
        refine r_iload_n dX1_takeWord_73 rfl ?_
        refine r_iconst (v := 1) dX1_takeWord_74 (by decide) ?_
        refine r_niadd (b := 1) dX1_takeWord_75 rfl rfl ?_
        refine r_callV1I dX1_takeWord_76 moX1_isWordAt w_272 w_274 s_2 (hsh.al rfl (by decide)) cl1 rfl (Nat.le_of_ble_eq_true rfl) (Nat.le_of_ble_eq_true rfl) (S_isWordAt (b := b) (z := z) (s := s) (e := E) (i := i + 1) hsh (hT.f hF) (hS.f hF) (g3.trans h3) g4 hr1 (by omega) (by omega)) ?_
        refine r_ifb_eq (tgt := 112) dX1_takeWord_79 (by decide) (fun h79 => ?_) (fun h79 => ?_)
        · refine r_iincE (b := (w + 1)) dX1_takeWord_112 rfl rfl (nI_succ _).symm rfl ?_
          refine r_iincE (b := (i + 1)) dX1_takeWord_115 rfl rfl (nI_succ _).symm rfl ?_
          refine r_goto (tgt := 49) dX1_takeWord_118 (by decide) ?_
          refine ih (w + 1) (i + 1) (by omega) (by omega) ?_
          rw [← he]
          show _ = (bif wrdN i != 32 then _ else bif mtN b s (E - s) (i + 1) then some w else scanW (mtN b s (E - s)) f (i + 1) (w + 1))
          rw [h66, h79]; rfl
        · refine r_aload_n dX1_takeWord_82 rfl ?_
          refine r_iload_n dX1_takeWord_83 rfl ?_
          refine r_bipush (v := 6) dX1_takeWord_84 (by decide) ?_
          refine r_nicmp_ge (b := 6)  (tgt := 95) dX1_takeWord_86 (by decide) rfl rfl (by omega) (by omega) (fun h86 => ?_) (fun h86 => ?_)
          · refine r_sipush (v := 258) dX1_takeWord_95 (by decide) ?_
            refine r_iload_n dX1_takeWord_98 rfl ?_
            refine r_niadd (a := 258) dX1_takeWord_99 rfl rfl ?_
            refine r_bipush (v := 6) dX1_takeWord_100 (by decide) ?_
            refine r_nisub (b := 6) dX1_takeWord_102 rfl rfl (by omega) ?_
            refine r_putI dX1_takeWord_103 f_X1_32 (hsh.al rfl (by decide)) (Or.inl rfl) rfl ?_
            refine r_aload_n dX1_takeWord_106 rfl ?_
            refine r_iload_n dX1_takeWord_107 rfl ?_
            refine r_putI dX1_takeWord_108 f_X1_35 (hsh.al rfl (by decide)) (Or.inl rfl) rfl ?_
            refine r_vret dX1_takeWord_111 rfl ?_
            have e1 : scanW (mtN b s (E - s)) (f + 1) i w = some w := by
              show (bif wrdN i != 32 then _ else bif mtN b s (E - s) (i + 1) then some w else _) = some w
              rw [h66, h79]; rfl
            rw [e1] at he
            rw [← he] at e0
            have e2 : w = wdN b s (E - s) ∧ w < 12 := by
              split at e0
              · rename_i hlt
                have e3 := Option.some.inj e0
                exact ⟨e3, by omega⟩
              · exact nomatch e0
            rw [← e2.1]
            have e4 : tkW w = ((252 + w : Nat) : Int) := by unfold tkW; rw [if_neg (by omega), if_pos e2.2]
            exact ⟨rfl, rfl, rfl, rfl, (hF.u (Or.inr (Or.inr (Or.inl rfl)))).u (Or.inr (Or.inr (Or.inr rfl))), by rw [up2_k _ _ (by decide), up2_k _ _ (by decide)]; exact g3, by rw [up2_k _ _ (by decide), up2_k _ _ (by decide)]; exact g4, by rw [up2_k _ _ (by decide), up2_at, e4, ← nz]; congr 1; omega, fun _ => up2_at _ _ _ _⟩
          · refine r_sipush (v := 257) dX1_takeWord_89 (by decide) ?_
            refine r_goto (tgt := 103) dX1_takeWord_92 (by decide) ?_
            refine r_putI dX1_takeWord_103 f_X1_32 (hsh.al rfl (by decide)) (Or.inl rfl) rfl ?_
            refine r_aload_n dX1_takeWord_106 rfl ?_
            refine r_iload_n dX1_takeWord_107 rfl ?_
            refine r_putI dX1_takeWord_108 f_X1_35 (hsh.al rfl (by decide)) (Or.inl rfl) rfl ?_
            refine r_vret dX1_takeWord_111 rfl ?_
            have e1 : scanW (mtN b s (E - s)) (f + 1) i w = some w := by
              show (bif wrdN i != 32 then _ else bif mtN b s (E - s) (i + 1) then some w else _) = some w
              rw [h66, h79]; rfl
            rw [e1] at he
            rw [← he] at e0
            have e2 : w = wdN b s (E - s) ∧ w < 12 := by
              split at e0
              · rename_i hlt
                have e3 := Option.some.inj e0
                exact ⟨e3, by omega⟩
              · exact nomatch e0
            rw [← e2.1]
            have e4 : tkW w = 257 := if_pos (by omega)
            exact ⟨rfl, rfl, rfl, rfl, (hF.u (Or.inr (Or.inr (Or.inl rfl)))).u (Or.inr (Or.inr (Or.inr rfl))), by rw [up2_k _ _ (by decide), up2_k _ _ (by decide)]; exact g3, by rw [up2_k _ _ (by decide), up2_k _ _ (by decide)]; exact g4, by rw [up2_k _ _ (by decide), up2_at, e4]; rfl, fun _ => up2_at _ _ _ _⟩
      · refine r_goto (tgt := 115) dX1_takeWord_69 (by decide) ?_
        refine r_iincE (b := (i + 1)) dX1_takeWord_115 rfl rfl (nI_succ _).symm rfl ?_
        refine r_goto (tgt := 49) dX1_takeWord_118 (by decide) ?_
        refine ih w (i + 1) (by omega) (by omega) ?_
        rw [← he]
        show _ = (bif wrdN i != 32 then scanW (mtN b s (E - s)) f (i + 1) w else _)
        rw [bne_iff_ne.mpr h66]; rfl
  have loop : ∀ f p I2, p + f = z → s ≤ p → runW isLeB b f p = E → RdF I I2 → I2 64 3 = I 64 3 → I2 64 4 = nI p → (p = s ∨ I2 64 5 = -2) → Wp g (d + 5) mX1_takeWord 0 [.ref 64, .null, .null] [] 0 0 n I2 J R (PostI n J R none (PtW I E (wdN b s (E - s)))) := by
    intro f
    induction f with
    | zero =>
      intro p I2 hp hsp hr hF g3 g4 g5
      have ep : p = E := hr
      have g6 := g5.resolve_left (by omega)
      have hT2 := hT.f hF
      refine r_aload_n dX1_takeWord_0 rfl ?_
      refine r_getIE dX1_takeWord_1 f_X1_29 (hsh.al rfl (by decide)) (Or.inl rfl) g4 ?_
      refine r_aload_n dX1_takeWord_4 rfl ?_
      refine r_getIE dX1_takeWord_5 f_X1_15 (hsh.al rfl (by decide)) (Or.inl rfl) hT2.1 ?_
      refine r_nicmp_ge  (tgt := 45) dX1_takeWord_8 (by decide) rfl rfl (by omega) (by omega) (fun h8 => ?_) (fun h8 => absurd h8 (by omega))
      refine r_iconst (v := 0) dX1_takeWord_45 (by decide) ?_
      refine r_istore_n dX1_takeWord_46 (by decide) rfl ?_
      refine r_iconst (v := 0) dX1_takeWord_47 (by decide) ?_
      refine r_istore_n dX1_takeWord_48 (by decide) rfl ?_
      exact scan I2 hF g3 (by rw [← ep]; exact g4) g6 64 0 0 rfl (Nat.le_refl _) rfl
    | succ f ih =>
      intro p I2 hp hsp hr hF g3 g4 g5
      have hT2 := hT.f hF
      have hbp := hT2.2.2 p (by omega)
      refine r_aload_n dX1_takeWord_0 rfl ?_
      refine r_getIE dX1_takeWord_1 f_X1_29 (hsh.al rfl (by decide)) (Or.inl rfl) g4 ?_
      refine r_aload_n dX1_takeWord_4 rfl ?_
      refine r_getIE dX1_takeWord_5 f_X1_15 (hsh.al rfl (by decide)) (Or.inl rfl) hT2.1 ?_
      refine r_nicmp_ge  (tgt := 45) dX1_takeWord_8 (by decide) rfl rfl (by omega) (by omega) (fun h8 => absurd h8 (by omega)) (fun h8 => ?_)
      refine r_aload_n dX1_takeWord_11 rfl ?_
      refine r_getR (b := 65) dX1_takeWord_12 f_X1_9 (hsh.al rfl (by decide)) (Or.inl ⟨_, rfl⟩) (hsh.r 64 0 65 (by decide)) (by decide) ?_
      refine r_aload_n dX1_takeWord_15 rfl ?_
      refine r_getIE dX1_takeWord_16 f_X1_29 (hsh.al rfl (by decide)) (Or.inl rfl) g4 ?_
      refine r_ialdE (j := p) dX1_takeWord_19 (hsh.al rfl (by decide)) (by omega) rfl hbp.1 ?_
      refine r_callS1I dX1_takeWord_20 moX1_isLetter w_262 w_263 (Nat.le_of_ble_eq_true rfl) (Nat.le_of_ble_eq_true rfl) (S_isLetter hbp.2) ?_
      refine r_ifb_eq (tgt := 45) dX1_takeWord_23 (by decide) (fun h23 => ?_) (fun h23 => ?_)
      · refine r_iconst (v := 0) dX1_takeWord_45 (by decide) ?_
        refine r_istore_n dX1_takeWord_46 (by decide) rfl ?_
        refine r_iconst (v := 0) dX1_takeWord_47 (by decide) ?_
        refine r_istore_n dX1_takeWord_48 (by decide) rfl ?_
        have ep : p = E := (runW_f h23).symm.trans hr
        have g6 := g5.resolve_left (fun e => by rw [e, hl] at h23; exact absurd h23 (by decide))
        exact scan I2 hF g3 (by rw [← ep]; exact g4) g6 64 0 0 rfl (Nat.le_refl _) rfl
      · refine r_aload_n dX1_takeWord_26 rfl ?_
        refine r_bipush (v := (-2)) dX1_takeWord_27 (by decide) ?_
        refine r_putI dX1_takeWord_29 f_X1_32 (hsh.al rfl (by decide)) (Or.inl rfl) rfl ?_
        refine r_aload_n dX1_takeWord_32 rfl ?_
        refine r_dup dX1_takeWord_33 rfl ?_
        refine r_getIE dX1_takeWord_34 f_X1_29 (hsh.al rfl (by decide)) (Or.inl rfl) ((up2_k _ _ (by decide)).trans g4) ?_
        refine r_iconst (v := 1) dX1_takeWord_37 (by decide) ?_
        refine r_niadd (b := 1) dX1_takeWord_38 rfl rfl ?_
        refine r_putI dX1_takeWord_39 f_X1_29 (hsh.al rfl (by decide)) (Or.inl rfl) rfl ?_
        refine r_goto (tgt := 0) dX1_takeWord_42 (by decide) ?_
        exact ih (p + 1) _ (by omega) (by omega) ((runW_t h23).symm.trans hr) ((hF.u (Or.inr (Or.inr (Or.inl rfl)))).u (Or.inr (Or.inl rfl))) (by rw [up2_k _ _ (by decide), up2_k _ _ (by decide)]; exact g3) (up2_at _ _ _ _) (Or.inr (by rw [up2_k _ _ (by decide), up2_at]))
  exact loop (z - s) s I (by omega) (Nat.le_refl _) hE RdF.rf rfl h4 (Or.inl rfl)
def PtN (I : TI) (e : Nat) (v : Nat) (t : Int) : TI → Prop := fun I2 => RdF I I2 ∧ I2 64 3 = I 64 3 ∧ I2 64 4 = nI e ∧ I2 64 5 = zI t ∧ I2 64 6 = nI v
set_option maxRecDepth 20000 in
set_option maxHeartbeats 4000000 in
theorem S_takeNumber {g : GP} {d n : Nat} {I : TI} {J : TJ} {R : TR} {b : Nat → Nat} {z s : Nat} (hsh : Shw n R) (hT : TpOK I b z) (h3 : I 64 3 = nI s) (h4 : I 64 4 = nI s) (hsz : s < z) : Wp g (d + 1) mX1_takeNumber 0 [.ref 64] [] 0 0 n I J R (PostI n J R none (PtN I (runW isDiB b (z - s) s) (numV b (runW isDiB b (z - s) s - s) s) (if 4 < runW isDiB b (z - s) s - s then -2 else 256))) := by
  have hz := hT.2.1
  have hr1 := runW_ge isDiB b (z - s) s
  have hr2 := runW_le isDiB b (z - s) s
  generalize hE : runW isDiB b (z - s) s = E at hr1 hr2
  have fin : ∀ I2, RdF I I2 → I2 64 3 = I 64 3 → I2 64 4 = nI E → I2 64 6 = nI (numV b (E - s) s) → Wp g (d + 1) mX1_takeNumber 68 [.ref 64] [] 0 0 n I2 J R (PostI n J R none (PtN I E (numV b (E - s) s) (if 4 < E - s then -2 else 256))) := by
    intro I2 hF g3 g4 g6
    refine r_aload_n dX1_takeNumber_68 rfl ?_
    refine r_aload_n dX1_takeNumber_69 rfl ?_
    refine r_getIE dX1_takeNumber_70 f_X1_29 (hsh.al rfl (by decide)) (Or.inl rfl) g4 ?_
    refine r_aload_n dX1_takeNumber_73 rfl ?_
    refine r_getIE dX1_takeNumber_74 f_X1_26 (hsh.al rfl (by decide)) (Or.inl rfl) (g3.trans h3) ?_
    refine r_nisub dX1_takeNumber_77 rfl rfl hr1 ?_
    refine r_iconst (v := 4) dX1_takeNumber_78 (by decide) ?_
    refine r_nicmp_le (b := 4)  (tgt := 87) dX1_takeNumber_79 (by decide) rfl rfl (by omega) (by omega) (fun h79 => ?_) (fun h79 => ?_)
    · refine r_sipush (v := 256) dX1_takeNumber_87 (by decide) ?_
      refine r_putI dX1_takeNumber_90 f_X1_32 (hsh.al rfl (by decide)) (Or.inl rfl) rfl ?_
      refine r_vret dX1_takeNumber_93 rfl ?_
      rw [if_neg (by omega)]
      exact ⟨rfl, rfl, rfl, rfl, hF.u (Or.inr (Or.inr (Or.inl rfl))), by rw [up2_k _ _ (by decide)]; exact g3, by rw [up2_k _ _ (by decide)]; exact g4, by rw [up2_at]; rfl, by rw [up2_k _ _ (by decide)]; exact g6⟩
    · refine r_bipush (v := (-2)) dX1_takeNumber_82 (by decide) ?_
      refine r_goto (tgt := 90) dX1_takeNumber_84 (by decide) ?_
      refine r_putI dX1_takeNumber_90 f_X1_32 (hsh.al rfl (by decide)) (Or.inl rfl) rfl ?_
      refine r_vret dX1_takeNumber_93 rfl ?_
      rw [if_pos (by omega)]
      exact ⟨rfl, rfl, rfl, rfl, hF.u (Or.inr (Or.inr (Or.inl rfl))), by rw [up2_k _ _ (by decide)]; exact g3, by rw [up2_k _ _ (by decide)]; exact g4, by rw [up2_at]; rfl, by rw [up2_k _ _ (by decide)]; exact g6⟩
  have loop : ∀ f p I2, p + f = z → s ≤ p → runW isDiB b f p = E → RdF I I2 → I2 64 3 = I 64 3 → I2 64 4 = nI p → I2 64 6 = nI (numV b (p - s) s) → Wp g (d + 1) mX1_takeNumber 5 [.ref 64] [] 0 0 n I2 J R (PostI n J R none (PtN I E (numV b (E - s) s) (if 4 < E - s then -2 else 256))) := by
    intro f
    induction f with
    | zero =>
      intro p I2 hp hsp hr hF g3 g4 g6
      have ep : p = E := hr
      have hT2 := hT.f hF
      refine r_aload_n dX1_takeNumber_5 rfl ?_
      refine r_getIE dX1_takeNumber_6 f_X1_29 (hsh.al rfl (by decide)) (Or.inl rfl) g4 ?_
      refine r_aload_n dX1_takeNumber_9 rfl ?_
      refine r_getIE dX1_takeNumber_10 f_X1_15 (hsh.al rfl (by decide)) (Or.inl rfl) hT2.1 ?_
      refine r_nicmp_ge  (tgt := 68) dX1_takeNumber_13 (by decide) rfl rfl (by omega) (by omega) (fun h13 => ?_) (fun h13 => absurd h13 (by omega))
      exact fin I2 hF g3 (by rw [← ep]; exact g4) (by rw [← ep]; exact g6)
    | succ f ih =>
      intro p I2 hp hsp hr hF g3 g4 g6
      have hT2 := hT.f hF
      have hbp := hT2.2.2 p (by omega)
      refine r_aload_n dX1_takeNumber_5 rfl ?_
      refine r_getIE dX1_takeNumber_6 f_X1_29 (hsh.al rfl (by decide)) (Or.inl rfl) g4 ?_
      refine r_aload_n dX1_takeNumber_9 rfl ?_
      refine r_getIE dX1_takeNumber_10 f_X1_15 (hsh.al rfl (by decide)) (Or.inl rfl) hT2.1 ?_
      refine r_nicmp_ge  (tgt := 68) dX1_takeNumber_13 (by decide) rfl rfl (by omega) (by omega) (fun h13 => absurd h13 (by omega)) (fun h13 => ?_)
      refine r_aload_n dX1_takeNumber_16 rfl ?_
      refine r_getR (b := 65) dX1_takeNumber_17 f_X1_9 (hsh.al rfl (by decide)) (Or.inl ⟨_, rfl⟩) (hsh.r 64 0 65 (by decide)) (by decide) ?_
      refine r_aload_n dX1_takeNumber_20 rfl ?_
      refine r_getIE dX1_takeNumber_21 f_X1_29 (hsh.al rfl (by decide)) (Or.inl rfl) g4 ?_
      refine r_ialdE (j := p) dX1_takeNumber_24 (hsh.al rfl (by decide)) (by omega) rfl hbp.1 ?_
      refine r_callS1I dX1_takeNumber_25 moX1_isDigit w_276 w_277 (Nat.le_of_ble_eq_true rfl) (Nat.le_of_ble_eq_true rfl) (S_isDigit hbp.2) ?_
      refine r_ifb_eq (tgt := 68) dX1_takeNumber_28 (by decide) (fun h28 => ?_) (fun h28 => ?_)
      · have ep : p = E := (runW_f h28).symm.trans hr
        exact fin I2 hF g3 (by rw [← ep]; exact g4) (by rw [← ep]; exact g6)
      · have h48 : 48 ≤ b p := by
          have h6 := h28
          simp only [isDiB, Bool.and_eq_true, decide_eq_true_eq] at h6
          exact h6.1
        refine r_aload_n dX1_takeNumber_31 rfl ?_
        refine r_aload_n dX1_takeNumber_32 rfl ?_
        refine r_getIE dX1_takeNumber_33 f_X1_35 (hsh.al rfl (by decide)) (Or.inl rfl) g6 ?_
        refine r_bipush (v := 10) dX1_takeNumber_36 (by decide) ?_
        refine r_nimul (b := 10) dX1_takeNumber_38 rfl rfl ?_
        refine r_aload_n dX1_takeNumber_39 rfl ?_
        refine r_getR (b := 65) dX1_takeNumber_40 f_X1_9 (hsh.al rfl (by decide)) (Or.inl ⟨_, rfl⟩) (hsh.r 64 0 65 (by decide)) (by decide) ?_
        refine r_aload_n dX1_takeNumber_43 rfl ?_
        refine r_getIE dX1_takeNumber_44 f_X1_29 (hsh.al rfl (by decide)) (Or.inl rfl) g4 ?_
        refine r_ialdE (j := p) dX1_takeNumber_47 (hsh.al rfl (by decide)) (by omega) rfl hbp.1 ?_
        refine r_niadd dX1_takeNumber_48 rfl rfl ?_
        refine r_bipush (v := 48) dX1_takeNumber_49 (by decide) ?_
        refine r_nisub (b := 48) dX1_takeNumber_51 rfl rfl (by omega) ?_
        refine r_putI dX1_takeNumber_52 f_X1_35 (hsh.al rfl (by decide)) (Or.inl rfl) rfl ?_
        refine r_aload_n dX1_takeNumber_55 rfl ?_
        refine r_dup dX1_takeNumber_56 rfl ?_
        refine r_getIE dX1_takeNumber_57 f_X1_29 (hsh.al rfl (by decide)) (Or.inl rfl) ((up2_k _ _ (by decide)).trans g4) ?_
        refine r_iconst (v := 1) dX1_takeNumber_60 (by decide) ?_
        refine r_niadd (b := 1) dX1_takeNumber_61 rfl rfl ?_
        refine r_putI dX1_takeNumber_62 f_X1_29 (hsh.al rfl (by decide)) (Or.inl rfl) rfl ?_
        refine r_goto (tgt := 5) dX1_takeNumber_65 (by decide) ?_
        refine ih (p + 1) _ (by omega) (by omega) ((runW_t h28).symm.trans hr) ((hF.u (Or.inr (Or.inr (Or.inr rfl)))).u (Or.inr (Or.inl rfl))) (by rw [up2_k _ _ (by decide), up2_k _ _ (by decide)]; exact g3) (up2_at _ _ _ _) ?_
        rw [up2_k _ _ (by decide), up2_at, show p + 1 - s = (p - s) + 1 by omega]
        show _ = nI (numV b (p - s) s * 10 + (b (s + (p - s)) - 48))
        rw [show s + (p - s) = p by omega]
        congr 1
        omega
  refine r_aload_n dX1_takeNumber_0 rfl ?_
  refine r_iconst (v := 0) dX1_takeNumber_1 (by decide) ?_
  refine r_putI dX1_takeNumber_2 f_X1_35 (hsh.al rfl (by decide)) (Or.inl rfl) rfl ?_
  exact loop (z - s) s _ (by omega) (Nat.le_refl _) hE (RdF.rf.u (Or.inr (Or.inr (Or.inr rfl)))) (up2_k _ _ (by decide)) ((up2_k _ _ (by decide)).trans h4) (by rw [up2_at, Nat.sub_self]; rfl)
set_option maxRecDepth 20000 in
set_option maxHeartbeats 4000000 in
theorem S_advance {g : GP} {d n : Nat} {I : TI} {J : TJ} {R : TR} {b : Nat → Nat} {z p : Nat} (hsh : Shw n R) (hT : TpOK I b z) (hS : STR I) (h4 : I 64 4 = nI p) (hpz : p ≤ z) : Wp g (d + 6) mX1_advance 0 [.ref 64] [] 0 0 n I J R (PostI n J R none (fun I2 => RdF I I2 ∧ RdS I2 (lexN b z p))) := by
  have hz := hT.2.1
  have hr1 := runW_ge isWsB b (z - p) p
  have hr2 := runW_le isWsB b (z - p) p
  have eL : lexN b z p = (if z ≤ runW isWsB b (z - p) p then (runW isWsB b (z - p) p, runW isWsB b (z - p) p, -1, 0) else if isLeB (b (runW isWsB b (z - p) p)) = true then (runW isWsB b (z - p) p, runW isLeB b (z - runW isWsB b (z - p) p) (runW isWsB b (z - p) p), tkW (wdN b (runW isWsB b (z - p) p) (runW isLeB b (z - runW isWsB b (z - p) p) (runW isWsB b (z - p) p) - runW isWsB b (z - p) p)), wdN b (runW isWsB b (z - p) p) (runW isLeB b (z - runW isWsB b (z - p) p) (runW isWsB b (z - p) p) - runW isWsB b (z - p) p)) else if isDiB (b (runW isWsB b (z - p) p)) = true then (runW isWsB b (z - p) p, runW isDiB b (z - runW isWsB b (z - p) p) (runW isWsB b (z - p) p), if 4 < runW isDiB b (z - runW isWsB b (z - p) p) (runW isWsB b (z - p) p) - runW isWsB b (z - p) p then -2 else 256, numV b (runW isDiB b (z - runW isWsB b (z - p) p) (runW isWsB b (z - p) p) - runW isWsB b (z - p) p) (runW isWsB b (z - p) p)) else (runW isWsB b (z - p) p, runW isWsB b (z - p) p + 1, if isSgB (b (runW isWsB b (z - p) p)) = true then (b (runW isWsB b (z - p) p) : Int) else -2, 0)) := rfl
  rw [eL]
  generalize hE : runW isWsB b (z - p) p = s at hr1 hr2
  have fin : ∀ I2, RdF I I2 → I2 64 4 = nI s → Wp g (d + 6) mX1_advance 58 [.ref 64] [] 0 0 n I2 J R (PostI n J R none (fun I2 => RdF I I2 ∧ RdS I2 (if z ≤ s then (s, s, -1, 0) else if isLeB (b s) = true then (s, runW isLeB b (z - s) s, tkW (wdN b s (runW isLeB b (z - s) s - s)), wdN b s (runW isLeB b (z - s) s - s)) else if isDiB (b s) = true then (s, runW isDiB b (z - s) s, if 4 < runW isDiB b (z - s) s - s then -2 else 256, numV b (runW isDiB b (z - s) s - s) s) else (s, s + 1, if isSgB (b s) = true then (b s : Int) else -2, 0)))) := by
    intro I2 hF g4
    refine r_aload_n dX1_advance_58 rfl ?_
    refine r_aload_n dX1_advance_59 rfl ?_
    refine r_getIE dX1_advance_60 f_X1_29 (hsh.al rfl (by decide)) (Or.inl rfl) g4 ?_
    refine r_putI dX1_advance_63 f_X1_26 (hsh.al rfl (by decide)) (Or.inl rfl) rfl ?_
    have g3 := up2_at I2 64 3 (nI s)
    have g4b : up2 I2 64 3 (nI s) 64 4 = nI s := (up2_k _ _ (by decide)).trans g4
    have hF2 := hF.u (k := 3) (v := nI s) (Or.inl rfl)
    have hT2 := hT.f hF2
    have hS2 := hS.f hF2
    refine r_aload_n dX1_advance_66 rfl ?_
    refine r_getIE dX1_advance_67 f_X1_26 (hsh.al rfl (by decide)) (Or.inl rfl) g3 ?_
    refine r_aload_n dX1_advance_70 rfl ?_
    refine r_getIE dX1_advance_71 f_X1_15 (hsh.al rfl (by decide)) (Or.inl rfl) hT2.1 ?_
    refine r_nicmp_lt  (tgt := 85) dX1_advance_74 (by decide) rfl rfl (by omega) (by omega) (fun h74 => ?_) (fun h74 => ?_)
    · have hbp := hT2.2.2 s h74
      refine r_aload_n dX1_advance_85 rfl ?_
      refine r_getR (b := 65) dX1_advance_86 f_X1_9 (hsh.al rfl (by decide)) (Or.inl ⟨_, rfl⟩) (hsh.r 64 0 65 (by decide)) (by decide) ?_
      refine r_aload_n dX1_advance_89 rfl ?_
      refine r_getIE dX1_advance_90 f_X1_26 (hsh.al rfl (by decide)) (Or.inl rfl) g3 ?_
      refine r_ialdE (j := s) dX1_advance_93 (hsh.al rfl (by decide)) (by omega) rfl hbp.1 ?_
      refine r_callS1I dX1_advance_94 moX1_isLetter w_262 w_263 (Nat.le_of_ble_eq_true rfl) (Nat.le_of_ble_eq_true rfl) (S_isLetter hbp.2) ?_
      refine r_ifb_eq (tgt := 107) dX1_advance_97 (by decide) (fun h97 => ?_) (fun h97 => ?_)
      · refine r_aload_n dX1_advance_107 rfl ?_
        refine r_getR (b := 65) dX1_advance_108 f_X1_9 (hsh.al rfl (by decide)) (Or.inl ⟨_, rfl⟩) (hsh.r 64 0 65 (by decide)) (by decide) ?_
        refine r_aload_n dX1_advance_111 rfl ?_
        refine r_getIE dX1_advance_112 f_X1_26 (hsh.al rfl (by decide)) (Or.inl rfl) g3 ?_
        refine r_ialdE (j := s) dX1_advance_115 (hsh.al rfl (by decide)) (by omega) rfl hbp.1 ?_
        refine r_callS1I dX1_advance_116 moX1_isDigit w_276 w_277 (Nat.le_of_ble_eq_true rfl) (Nat.le_of_ble_eq_true rfl) (S_isDigit hbp.2) ?_
        refine r_ifb_eq (tgt := 129) dX1_advance_119 (by decide) (fun h119 => ?_) (fun h119 => ?_)
        · refine r_aload_n dX1_advance_129 rfl ?_
          refine r_ldcS (i := 2) dX1_advance_130 rfl (by decide) ?_
          refine r_aload_n dX1_advance_132 rfl ?_
          refine r_getR (b := 65) dX1_advance_133 f_X1_9 (hsh.al rfl (by decide)) (Or.inl ⟨_, rfl⟩) (hsh.r 64 0 65 (by decide)) (by decide) ?_
          refine r_aload_n dX1_advance_136 rfl ?_
          refine r_getIE dX1_advance_137 f_X1_26 (hsh.al rfl (by decide)) (Or.inl rfl) g3 ?_
          refine r_ialdE (j := s) dX1_advance_140 (hsh.al rfl (by decide)) (by omega) rfl hbp.1 ?_
          refine r_i2c dX1_advance_141 ?_
          refine r_top (i2c_n _ hbp.2) ?_
          have q6 := sgR_in (b s) 8 0
          have q7 := sgR_is (b s) hbp.2
          refine r_callVS1I dX1_advance_142 moJ0_indexOf_0f7a4 w_284 w_285 w_286 (by omega) rfl (Nat.le_of_ble_eq_true rfl) (Nat.le_of_ble_eq_true rfl) (S_ixOf3 hbp.2 hS2) ?_
          refine r_zif_lt (tgt := 160) dX1_advance_145 (by decide) rfl (by unfold inZ; omega) (fun h145 => ?_) (fun h145 => ?_)
          · refine r_bipush (v := (-2)) dX1_advance_160 (by decide) ?_
            refine r_putI dX1_advance_162 f_X1_32 (hsh.al rfl (by decide)) (Or.inl rfl) rfl ?_
            refine r_aload_n dX1_advance_165 rfl ?_
            refine r_dup dX1_advance_166 rfl ?_
            refine r_getIE dX1_advance_167 f_X1_29 (hsh.al rfl (by decide)) (Or.inl rfl) ((up2_k _ _ (by decide)).trans g4b) ?_
            refine r_iconst (v := 1) dX1_advance_170 (by decide) ?_
            refine r_niadd (b := 1) dX1_advance_171 rfl rfl ?_
            refine r_putI dX1_advance_172 f_X1_29 (hsh.al rfl (by decide)) (Or.inl rfl) rfl ?_
            refine r_vret dX1_advance_175 rfl ?_
            rw [if_neg (by omega), if_neg (by rw [h97]; decide), if_neg (by rw [h119]; decide)]
            have q8 : isSgB (b s) = false := by rw [← q7]; exact decide_eq_false (by omega)
            rw [q8]
            refine ⟨rfl, rfl, rfl, rfl, (hF2.u (Or.inr (Or.inr (Or.inl rfl)))).u (Or.inr (Or.inl rfl)), ?_, up2_at _ _ _ _, ?_, fun h => ?_⟩
            · rw [up2_k _ _ (by decide), up2_k _ _ (by decide)]; exact g3
            · rw [up2_k _ _ (by decide), up2_at]; rfl
            · have hh := hbp.2
              have h9 : ((-2 : Int) = 256) ∨ ((-2 : Int) = 257) := h
              omega
          · refine r_aload_n dX1_advance_148 rfl ?_
            refine r_getR (b := 65) dX1_advance_149 f_X1_9 (hsh.al rfl (by decide)) (Or.inl ⟨_, rfl⟩) (hsh.r 64 0 65 (by decide)) (by decide) ?_
            refine r_aload_n dX1_advance_152 rfl ?_
            refine r_getIE dX1_advance_153 f_X1_26 (hsh.al rfl (by decide)) (Or.inl rfl) g3 ?_
            refine r_ialdE (j := s) dX1_advance_156 (hsh.al rfl (by decide)) (by omega) rfl hbp.1 ?_
            refine r_goto (tgt := 162) dX1_advance_157 (by decide) ?_
            refine r_putI dX1_advance_162 f_X1_32 (hsh.al rfl (by decide)) (Or.inl rfl) rfl ?_
            refine r_aload_n dX1_advance_165 rfl ?_
            refine r_dup dX1_advance_166 rfl ?_
            refine r_getIE dX1_advance_167 f_X1_29 (hsh.al rfl (by decide)) (Or.inl rfl) ((up2_k _ _ (by decide)).trans g4b) ?_
            refine r_iconst (v := 1) dX1_advance_170 (by decide) ?_
            refine r_niadd (b := 1) dX1_advance_171 rfl rfl ?_
            refine r_putI dX1_advance_172 f_X1_29 (hsh.al rfl (by decide)) (Or.inl rfl) rfl ?_
            refine r_vret dX1_advance_175 rfl ?_
            rw [if_neg (by omega), if_neg (by rw [h97]; decide), if_neg (by rw [h119]; decide)]
            have q8 : isSgB (b s) = true := by rw [← q7]; exact decide_eq_true h145
            rw [q8]
            refine ⟨rfl, rfl, rfl, rfl, (hF2.u (Or.inr (Or.inr (Or.inl rfl)))).u (Or.inr (Or.inl rfl)), ?_, up2_at _ _ _ _, ?_, fun h => ?_⟩
            · rw [up2_k _ _ (by decide), up2_k _ _ (by decide)]; exact g3
            · rw [up2_k _ _ (by decide), up2_at]; rfl
            · have hh := hbp.2
              have h9 : (((b s : Int) : Int) = 256) ∨ (((b s : Int) : Int) = 257) := h
              omega
        · refine r_aload_n dX1_advance_122 rfl ?_
          refine r_callV0N dX1_advance_123 moX1_takeNumber w_279 w_281 s_3 (hsh.al rfl (by decide)) cl1 rfl (Nat.le_of_ble_eq_true rfl) (Nat.le_of_ble_eq_true rfl) (S_takeNumber hsh hT2 g3 g4b h74) (fun r n I3 J R hq => ?_)
          obtain ⟨rfl, rfl, rfl, rfl, q1, q2, q3, q4, q5⟩ := hq
          refine r_goto (tgt := 175) dX1_advance_126 (by decide) ?_
          refine r_vret dX1_advance_175 rfl ?_
          rw [if_neg (by omega), if_neg (by rw [h97]; decide), if_pos h119]
          exact ⟨rfl, rfl, rfl, rfl, hF2.t q1, q2.trans g3, q3, q4, fun _ => q5⟩
      · refine r_aload_n dX1_advance_100 rfl ?_
        refine r_callV0N dX1_advance_101 moX1_takeWord w_265 w_267 s_1 (hsh.al rfl (by decide)) cl1 rfl (Nat.le_of_ble_eq_true rfl) (Nat.le_of_ble_eq_true rfl) (S_takeWord hsh hT2 hS2 g3 g4b h74 h97) (fun r n I3 J R hq => ?_)
        obtain ⟨rfl, rfl, rfl, rfl, q1, q2, q3, q4, q5⟩ := hq
        refine r_goto (tgt := 175) dX1_advance_104 (by decide) ?_
        refine r_vret dX1_advance_175 rfl ?_
        rw [if_neg (by omega), if_pos h97]
        exact ⟨rfl, rfl, rfl, rfl, hF2.t q1, q2.trans g3, q3, q4, fun h => q5 (h.resolve_left (tkW_256 _))⟩
    · refine r_aload_n dX1_advance_77 rfl ?_
      refine r_iconst (v := (-1)) dX1_advance_78 (by decide) ?_
      refine r_putI dX1_advance_79 f_X1_32 (hsh.al rfl (by decide)) (Or.inl rfl) rfl ?_
      refine r_goto (tgt := 175) dX1_advance_82 (by decide) ?_
      refine r_vret dX1_advance_175 rfl ?_
      rw [if_pos h74]
      exact ⟨rfl, rfl, rfl, rfl, hF2.u (Or.inr (Or.inr (Or.inl rfl))), (up2_k _ _ (by decide)).trans g3, (up2_k _ _ (by decide)).trans g4b, up2_at _ _ _ _, fun h => by rcases h with h | h <;> exact absurd h (show ¬ ((-1 : Int) = _) by decide)⟩
  have loop : ∀ f p2 I2, p2 + f = z → runW isWsB b f p2 = s → RdF I I2 → I2 64 4 = nI p2 → Wp g (d + 6) mX1_advance 0 [.ref 64] [] 0 0 n I2 J R (PostI n J R none (fun I2 => RdF I I2 ∧ RdS I2 (if z ≤ s then (s, s, -1, 0) else if isLeB (b s) = true then (s, runW isLeB b (z - s) s, tkW (wdN b s (runW isLeB b (z - s) s - s)), wdN b s (runW isLeB b (z - s) s - s)) else if isDiB (b s) = true then (s, runW isDiB b (z - s) s, if 4 < runW isDiB b (z - s) s - s then -2 else 256, numV b (runW isDiB b (z - s) s - s) s) else (s, s + 1, if isSgB (b s) = true then (b s : Int) else -2, 0)))) := by
    intro f
    induction f with
    | zero =>
      intro p2 I2 hp hr hF g4
      have ep : p2 = s := hr
      have hT2 := hT.f hF
      refine r_aload_n dX1_advance_0 rfl ?_
      refine r_getIE dX1_advance_1 f_X1_29 (hsh.al rfl (by decide)) (Or.inl rfl) g4 ?_
      refine r_aload_n dX1_advance_4 rfl ?_
      refine r_getIE dX1_advance_5 f_X1_15 (hsh.al rfl (by decide)) (Or.inl rfl) hT2.1 ?_
      refine r_nicmp_ge  (tgt := 58) dX1_advance_8 (by decide) rfl rfl (by omega) (by omega) (fun h8 => ?_) (fun h8 => absurd h8 (by omega))
      exact fin I2 hF (by rw [← ep]; exact g4)
    | succ f ih =>
      intro p2 I2 hp hr hF g4
      have hT2 := hT.f hF
      have hbp := hT2.2.2 p2 (by omega)
      refine r_aload_n dX1_advance_0 rfl ?_
      refine r_getIE dX1_advance_1 f_X1_29 (hsh.al rfl (by decide)) (Or.inl rfl) g4 ?_
      refine r_aload_n dX1_advance_4 rfl ?_
      refine r_getIE dX1_advance_5 f_X1_15 (hsh.al rfl (by decide)) (Or.inl rfl) hT2.1 ?_
      refine r_nicmp_ge  (tgt := 58) dX1_advance_8 (by decide) rfl rfl (by omega) (by omega) (fun h8 => absurd h8 (by omega)) (fun h8 => ?_)
      refine r_aload_n dX1_advance_11 rfl ?_
      refine r_getR (b := 65) dX1_advance_12 f_X1_9 (hsh.al rfl (by decide)) (Or.inl ⟨_, rfl⟩) (hsh.r 64 0 65 (by decide)) (by decide) ?_
      refine r_aload_n dX1_advance_15 rfl ?_
      refine r_getIE dX1_advance_16 f_X1_29 (hsh.al rfl (by decide)) (Or.inl rfl) g4 ?_
      refine r_ialdE (j := p2) dX1_advance_19 (hsh.al rfl (by decide)) (by omega) rfl hbp.1 ?_
      refine r_bipush (v := 32) dX1_advance_20 (by decide) ?_
      have hc2 := hbp.2
      refine r_nicmp_eq (b := 32)  (tgt := 39) dX1_advance_22 (by decide) rfl rfl (by omega) (by omega) (fun h22 => ?_) (fun h22 => ?_)
      · refine r_aload_n dX1_advance_39 rfl ?_
        refine r_bipush (v := (-2)) dX1_advance_40 (by decide) ?_
        refine r_putI dX1_advance_42 f_X1_32 (hsh.al rfl (by decide)) (Or.inl rfl) rfl ?_
        refine r_aload_n dX1_advance_45 rfl ?_
        refine r_dup dX1_advance_46 rfl ?_
        refine r_getIE dX1_advance_47 f_X1_29 (hsh.al rfl (by decide)) (Or.inl rfl) ((up2_k _ _ (by decide)).trans g4) ?_
        refine r_iconst (v := 1) dX1_advance_50 (by decide) ?_
        refine r_niadd (b := 1) dX1_advance_51 rfl rfl ?_
        refine r_putI dX1_advance_52 f_X1_29 (hsh.al rfl (by decide)) (Or.inl rfl) rfl ?_
        refine r_goto (tgt := 0) dX1_advance_55 (by decide) ?_
        have h9 : isWsB (b p2) = true := by simp only [isWsB, Bool.or_eq_true, decide_eq_true_eq]; exact Or.inl h22
        exact ih (p2 + 1) _ (by omega) ((runW_t h9).symm.trans hr) ((hF.u (Or.inr (Or.inr (Or.inl rfl)))).u (Or.inr (Or.inl rfl))) (up2_at _ _ _ _)
      · refine r_aload_n dX1_advance_25 rfl ?_
        refine r_getR (b := 65) dX1_advance_26 f_X1_9 (hsh.al rfl (by decide)) (Or.inl ⟨_, rfl⟩) (hsh.r 64 0 65 (by decide)) (by decide) ?_
        refine r_aload_n dX1_advance_29 rfl ?_
        refine r_getIE dX1_advance_30 f_X1_29 (hsh.al rfl (by decide)) (Or.inl rfl) g4 ?_
        refine r_ialdE (j := p2) dX1_advance_33 (hsh.al rfl (by decide)) (by omega) rfl hbp.1 ?_
        refine r_bipush (v := 10) dX1_advance_34 (by decide) ?_
        refine r_nicmp_ne (b := 10)  (tgt := 58) dX1_advance_36 (by decide) rfl rfl (by omega) (by omega) (fun h36 => ?_) (fun h36 => ?_)
        · have h9 : isWsB (b p2) = false := by simp only [isWsB, Bool.or_eq_false_iff, decide_eq_false_iff_not]; exact ⟨h22, h36⟩
          have ep : p2 = s := (runW_f h9).symm.trans hr
          exact fin I2 hF (by rw [← ep]; exact g4)
        · refine r_aload_n dX1_advance_39 rfl ?_
          refine r_bipush (v := (-2)) dX1_advance_40 (by decide) ?_
          refine r_putI dX1_advance_42 f_X1_32 (hsh.al rfl (by decide)) (Or.inl rfl) rfl ?_
          refine r_aload_n dX1_advance_45 rfl ?_
          refine r_dup dX1_advance_46 rfl ?_
          refine r_getIE dX1_advance_47 f_X1_29 (hsh.al rfl (by decide)) (Or.inl rfl) ((up2_k _ _ (by decide)).trans g4) ?_
          refine r_iconst (v := 1) dX1_advance_50 (by decide) ?_
          refine r_niadd (b := 1) dX1_advance_51 rfl rfl ?_
          refine r_putI dX1_advance_52 f_X1_29 (hsh.al rfl (by decide)) (Or.inl rfl) rfl ?_
          refine r_goto (tgt := 0) dX1_advance_55 (by decide) ?_
          have h9 : isWsB (b p2) = true := by simp only [isWsB, Bool.or_eq_true, decide_eq_true_eq]; exact Or.inr h36
          exact ih (p2 + 1) _ (by omega) ((runW_t h9).symm.trans hr) ((hF.u (Or.inr (Or.inr (Or.inl rfl)))).u (Or.inr (Or.inl rfl))) (up2_at _ _ _ _)
  exact loop (z - p) p I (by omega) hE RdF.rf h4
