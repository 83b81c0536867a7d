theorem SkyAt.upTr {I : TI} {s : Nat} {dl : Nat → Nat} {tr : Nat → Nat → Nat} {sz rl j k v sl : Nat} (h : SkyAt I s dl tr sz rl) (hj : j < 6) : SkyAt (chT I s j k (nI v) sl) s dl (up2 tr j k v) sz rl := by
  have e : ∀ a, a ≠ s → a ≠ s + 3 + j → chT I s j k (nI v) sl a = I a := fun a h1 h2 => by unfold chT; rw [up2_a _ _ _ h1, up2_a _ _ _ h2]
  have es : ∀ q, q ≠ 9 → chT I s j k (nI v) sl s q = I s q := fun q hq => by unfold chT; rw [up2_k _ _ hq, up2_a _ _ _ (by omega)]
  refine ⟨fun q hq => ?_, fun i q hi hq => ?_, ?_, ?_⟩
  · rw [e _ (by omega) (by omega)]; exact h.1 q hq
  · by_cases hij : i = j
    · subst hij
      unfold chT
      rw [up2_a _ _ _ (by omega)]
      by_cases hqk : q = k
      · subst hqk; rw [up2_at, up2_at]
      · rw [up2_k _ _ hqk, up2_k _ _ hqk]; exact h.2.1 i q hi hq
    · rw [e _ (by omega) (by omega), up2_a _ _ _ hij]; exact h.2.1 i q hi hq
  · rw [es _ (by decide)]; exact h.2.2.1
  · rw [es _ (by decide)]; exact h.2.2.2
theorem chT_st (I : TI) (s j k : Nat) (v : Int32) (sl : Nat) : chT I s j k v sl s 9 = nI (sl ||| 2 ^ k) := up2_at _ _ _ _
theorem chT_a {I : TI} {s j k a : Nat} {v : Int32} {sl : Nat} (h1 : a ≠ s) (h2 : a ≠ s + 3 + j) : chT I s j k v sl a = I a := by unfold chT; rw [up2_a _ _ _ h1, up2_a _ _ _ h2]
theorem chT_k {I : TI} {s j k q : Nat} {v : Int32} {sl : Nat} (hq : q ≠ 9) : chT I s j k v sl s q = I s q := by unfold chT; rw [up2_k _ _ hq, up2_a _ _ _ (by omega)]
theorem or_self2 (a b : Nat) : (a ||| b) ||| b = a ||| b := by rw [Nat.or_assoc, Nat.or_self]
/-- the numbers when a sight has come -/
def addTr (tr : Nat → Nat → Nat) (k kd nu sp : Nat) : Nat → Nat → Nat := up2 (up2 (up2 (up2 (up2 (up2 tr 5 k kd) 0 k nu) 1 k sp) 2 k 0) 3 k 199) 4 k 10
/-- what changes when a sight comes -/
def AddOK (s : Nat) (sl sz : Nat) (I I' : TI) : Prop := (∀ a, a ≠ s → (∀ i, i < 6 → a ≠ s + 3 + i) → I' a = I a) ∧ (∀ j, j ≠ 9 → j ≠ 10 → I' s j = I s j) ∧ I' s 10 = nI (sz + 1) ∧ I' s 9 = nI (sl ||| 2 ^ sz)
set_option maxRecDepth 20000 in
set_option maxHeartbeats 4000000 in
theorem S_add {g : GP} {d n : Nat} {I : TI} {J : TJ} {R : TR} {s : Nat} {dl : Nat → Nat} {tr : Nat → Nat → Nat} {sz rl : Nat} (hsh : Sh n R) (hs : isSky s) (hA : SkyAt I s dl tr sz rl) (wf : WF dl tr sz rl) {sl kd nu sp : Nat} (hk : kd ≤ 5) (hn : nu ≤ 9) (hp : sp ≤ 99) (hst : I s 9 = nI sl) (h7 : sz < 7) : Wp g (d + 3) mX3_add 0 [.ref s, .int (nI kd), .int (nI nu), .int (nI sp), .null] [] 0 0 n I J R (PostI n J R (some (.int (nI sz))) (fun I2 => SkyAt I2 s dl (addTr tr sz kd nu sp) (sz + 1) rl ∧ AddOK s sl sz I I2)) := by
  have hh0 : SkyAt (up2 I s 10 (nI (sz + 1))) s dl tr (sz + 1) rl := by
    refine ⟨fun q hq => ?_, fun i q hi hq => ?_, up2_at _ _ _ _, ?_⟩
    · rw [up2_a _ _ _ (by omega)]; exact hA.1 q hq
    · rw [up2_a _ _ _ (by omega)]; exact hA.2.1 i q hi hq
    · rw [up2_k _ _ (by decide)]; exact hA.2.2.2
  have g0 : up2 I s 10 (nI (sz + 1)) s 9 = nI sl := by rw [up2_k _ _ (by decide)]; exact hst
  have bT : ∀ (tr' : Nat → Nat → Nat) (i v : Nat), i < 6 → v ≤ tB i → WF dl tr' (sz + 1) rl → WF dl (up2 tr' i sz v) (sz + 1) rl := fun tr' i v hi hv h => by
    refine ⟨h.1, fun i2 k2 h1 h2 => ?_, h.2.2.1, h.2.2.2⟩
    by_cases e1 : i2 = i
    · subst e1
      by_cases e2 : k2 = sz
      · subst e2; rw [up2_at]; exact hv
      · rw [up2_k _ _ e2]; exact h.2.1 i2 k2 h1 h2
    · rw [up2_a _ _ _ e1]; exact h.2.1 i2 k2 h1 h2
  have w0 : WF dl tr (sz + 1) rl := ⟨wf.1, wf.2.1, by omega, wf.2.2.2⟩
  have hh1 := hh0.upTr (j := 5) (k := sz) (v := kd) (sl := sl) (by decide)
  have w1 := bT _ 5 kd (by decide) (by show _ ≤ _; exact hk) w0
  have hh2 := hh1.upTr (j := 0) (k := sz) (v := nu) (sl := (sl ||| 2 ^ sz)) (by decide)
  have w2 := bT _ 0 nu (by decide) (by show _ ≤ _; exact hn) w1
  have hh3 := hh2.upTr (j := 1) (k := sz) (v := sp) (sl := ((sl ||| 2 ^ sz) ||| 2 ^ sz)) (by decide)
  have w3 := bT _ 1 sp (by decide) (by show _ ≤ _; exact hp) w2
  have hh4 := hh3.upTr (j := 2) (k := sz) (v := 0) (sl := (((sl ||| 2 ^ sz) ||| 2 ^ sz) ||| 2 ^ sz)) (by decide)
  have w4 := bT _ 2 0 (by decide) (by decide) w3
  have hh5 := hh4.upTr (j := 3) (k := sz) (v := 199) (sl := ((((sl ||| 2 ^ sz) ||| 2 ^ sz) ||| 2 ^ sz) ||| 2 ^ sz)) (by decide)
  have w5 := bT _ 3 199 (by decide) (by decide) w4
  have hh6 := hh5.upTr (j := 4) (k := sz) (v := 10) (sl := (((((sl ||| 2 ^ sz) ||| 2 ^ sz) ||| 2 ^ sz) ||| 2 ^ sz) ||| 2 ^ sz)) (by decide)
  have w6 := bT _ 4 10 (by decide) (by decide) w5
  refine r_aload_n dX3_add_0 rfl ?_
  refine r_getIE dX3_add_1 f_X3_45 (hsh.k0 hs) (Or.inl rfl) hA.2.2.1 ?_
  refine r_bipush (v := 7) dX3_add_4 (by decide) ?_
  refine r_nicmp_lt (b := 7)  (tgt := 12) dX3_add_6 (by decide) rfl rfl (by omega) (by omega) (fun h6 => ?_) (fun h6 => absurd h6 (by omega))
  refine r_aload_n dX3_add_12 rfl ?_
  refine r_getIE dX3_add_13 f_X3_45 (hsh.k0 hs) (Or.inl rfl) hA.2.2.1 ?_
  refine r_istore dX3_add_16 (by decide) rfl ?_
  refine r_aload_n dX3_add_18 rfl ?_
  refine r_dup dX3_add_19 rfl ?_
  refine r_getIE dX3_add_20 f_X3_45 (hsh.k0 hs) (Or.inl rfl) hA.2.2.1 ?_
  refine r_iconst (v := 1) dX3_add_23 (by decide) ?_
  refine r_niadd (b := 1) dX3_add_24 rfl rfl ?_
  refine r_putI dX3_add_25 f_X3_45 (hsh.k0 hs) (Or.inl rfl) rfl ?_
  refine r_aload_n dX3_add_28 rfl ?_
  refine r_bipush (v := 13) dX3_add_29 (by decide) ?_
  refine r_iload dX3_add_31 rfl ?_
  refine r_iload_n dX3_add_33 rfl ?_
  refine r_callV3I dX3_add_34 moX3_change w_463 w_447 w_448 (hsh.k0 hs) cl3 rfl (Nat.le_of_ble_eq_true rfl) (Nat.le_of_ble_eq_true rfl) (S_changeT hsh hs hh0 w0 (j := 5) (k := sz) (sl := sl) (by decide) h7 (nI kd) g0) ?_
  refine r_pop dX3_add_37 rfl ?_
  refine r_aload_n dX3_add_38 rfl ?_
  refine r_bipush (v := 8) dX3_add_39 (by decide) ?_
  refine r_iload dX3_add_41 rfl ?_
  refine r_iload_n dX3_add_43 rfl ?_
  refine r_callV3I dX3_add_44 moX3_change w_463 w_447 w_448 (hsh.k0 hs) cl3 rfl (Nat.le_of_ble_eq_true rfl) (Nat.le_of_ble_eq_true rfl) (S_changeT hsh hs hh1 w1 (j := 0) (k := sz) (sl := (sl ||| 2 ^ sz)) (by decide) h7 (nI nu) (chT_st _ _ _ _ _ _)) ?_
  refine r_pop dX3_add_47 rfl ?_
  refine r_aload_n dX3_add_48 rfl ?_
  refine r_bipush (v := 9) dX3_add_49 (by decide) ?_
  refine r_iload dX3_add_51 rfl ?_
  refine r_iload_n dX3_add_53 rfl ?_
  refine r_callV3I dX3_add_54 moX3_change w_463 w_447 w_448 (hsh.k0 hs) cl3 rfl (Nat.le_of_ble_eq_true rfl) (Nat.le_of_ble_eq_true rfl) (S_changeT hsh hs hh2 w2 (j := 1) (k := sz) (sl := ((sl ||| 2 ^ sz) ||| 2 ^ sz)) (by decide) h7 (nI sp) (chT_st _ _ _ _ _ _)) ?_
  refine r_pop dX3_add_57 rfl ?_
  refine r_aload_n dX3_add_58 rfl ?_
  refine r_bipush (v := 10) dX3_add_59 (by decide) ?_
  refine r_iload dX3_add_61 rfl ?_
  refine r_iconst (v := 0) dX3_add_63 (by decide) ?_
  refine r_callV3I dX3_add_64 moX3_change w_463 w_447 w_448 (hsh.k0 hs) cl3 rfl (Nat.le_of_ble_eq_true rfl) (Nat.le_of_ble_eq_true rfl) (S_changeT hsh hs hh3 w3 (j := 2) (k := sz) (sl := (((sl ||| 2 ^ sz) ||| 2 ^ sz) ||| 2 ^ sz)) (by decide) h7 (nI 0) (chT_st _ _ _ _ _ _)) ?_
  refine r_pop dX3_add_67 rfl ?_
  refine r_aload_n dX3_add_68 rfl ?_
  refine r_bipush (v := 11) dX3_add_69 (by decide) ?_
  refine r_iload dX3_add_71 rfl ?_
  refine r_sipush (v := 199) dX3_add_73 (by decide) ?_
  refine r_callV3I dX3_add_76 moX3_change w_463 w_447 w_448 (hsh.k0 hs) cl3 rfl (Nat.le_of_ble_eq_true rfl) (Nat.le_of_ble_eq_true rfl) (S_changeT hsh hs hh4 w4 (j := 3) (k := sz) (sl := ((((sl ||| 2 ^ sz) ||| 2 ^ sz) ||| 2 ^ sz) ||| 2 ^ sz)) (by decide) h7 (nI 199) (chT_st _ _ _ _ _ _)) ?_
  refine r_pop dX3_add_79 rfl ?_
  refine r_aload_n dX3_add_80 rfl ?_
  refine r_bipush (v := 12) dX3_add_81 (by decide) ?_
  refine r_iload dX3_add_83 rfl ?_
  refine r_bipush (v := 10) dX3_add_85 (by decide) ?_
  refine r_callV3I dX3_add_87 moX3_change w_463 w_447 w_448 (hsh.k0 hs) cl3 rfl (Nat.le_of_ble_eq_true rfl) (Nat.le_of_ble_eq_true rfl) (S_changeT hsh hs hh5 w5 (j := 4) (k := sz) (sl := (((((sl ||| 2 ^ sz) ||| 2 ^ sz) ||| 2 ^ sz) ||| 2 ^ sz) ||| 2 ^ sz)) (by decide) h7 (nI 10) (chT_st _ _ _ _ _ _)) ?_
  refine r_pop dX3_add_90 rfl ?_
  refine r_iload dX3_add_91 rfl ?_
  refine r_iret dX3_add_93 rfl ?_
  refine ⟨rfl, rfl, rfl, rfl, hh6, fun a h1 h2 => ?_, fun j h9 h10 => ?_, hh6.2.2.1, ?_⟩
  · rw [chT_a h1 (h2 4 (by decide)), chT_a h1 (h2 3 (by decide)), chT_a h1 (h2 2 (by decide)), chT_a h1 (h2 1 (by decide)), chT_a h1 (h2 0 (by decide)), chT_a h1 (h2 5 (by decide)), up2_a _ _ _ h1]
  · rw [chT_k h9, chT_k h9, chT_k h9, chT_k h9, chT_k h9, chT_k h9, up2_k _ _ h10]
  · rw [chT_st]; simp only [or_self2]
set_option maxRecDepth 20000 in
set_option maxHeartbeats 4000000 in
theorem S_addFull {g : GP} {d n : Nat} {I : TI} {J : TJ} {R : TR} {s : Nat} (hsh : Sh n R) (hs : isSky s) (hz : I s 10 = nI 7) (x y z : Int32) : Wp g (d + 3) mX3_add 0 [.ref s, .int x, .int y, .int z, .null] [] 0 0 n I J R (RetI (-4) n I J R) := by
  refine r_aload_n dX3_add_0 rfl ?_
  refine r_getIE dX3_add_1 f_X3_45 (hsh.k0 hs) (Or.inl rfl) hz ?_
  refine r_bipush (v := 7) dX3_add_4 (by decide) ?_
  refine r_nicmp_lt (b := 7)  (tgt := 12) dX3_add_6 (by decide) rfl rfl (by omega) (by omega) (fun h6 => absurd h6 (by omega)) (fun h6 => ?_)
  refine r_bipush (v := (-4)) dX3_add_9 (by decide) ?_
  refine r_iret dX3_add_11 rfl ?_
  exact retI rfl
