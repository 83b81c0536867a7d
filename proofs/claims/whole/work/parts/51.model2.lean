/-! the model: letters, words, signs -/
def PostM (n : Nat) (R : TR) (r0 : Option Value) (P : TI → TJ → Prop) : TQ := fun r n2 I2 J2 R2 => r = r0 ∧ n2 = n ∧ R2 = R ∧ P I2 J2
def byZ (b : Nat → Nat) (z i : Nat) : Int := if i < z then (b i : Int) else -1
def MTx (I : TI) (b : Nat → Nat) (z f : Nat) : Prop := I 102 19 = nI z ∧ z ≤ 160 ∧ I 102 18 = nI f ∧ f ≤ 800 ∧ ∀ j, j < z → I 103 (f + j) = nI (b j) ∧ b j < 256
def FrLx (I I2 : TI) : Prop := (∀ a, a ≠ 102 → I2 a = I a) ∧ ∀ k, k ≠ 20 → k ≠ 21 → k ≠ 22 → I2 102 k = I 102 k
theorem FrLx.rf {I : TI} : FrLx I I := ⟨fun _ _ => rfl, fun _ _ _ _ => rfl⟩
theorem FrLx.u {I I2 : TI} (h : FrLx I I2) {k : Nat} {v : Int32} (hk : k = 20 ∨ k = 21 ∨ k = 22) : FrLx I (up2 I2 102 k v) := ⟨fun a ha => by rw [up2_a _ _ _ ha]; exact h.1 a ha, fun j h1 h2 h3 => by rw [up2_k _ _ (by omega)]; exact h.2 j h1 h2 h3⟩
theorem MTx.f {I I2 : TI} {b : Nat → Nat} {z f : Nat} (h : MTx I b z f) (hF : FrLx I I2) : MTx I2 b z f := ⟨(hF.2 19 (by decide) (by decide) (by decide)).trans h.1, h.2.1, (hF.2 18 (by decide) (by decide) (by decide)).trans h.2.2.1, h.2.2.2.1, fun j hj => by rw [hF.1 103 (by decide)]; exact h.2.2.2.2 j hj⟩
def MRd (I : TI) (J : TJ) (b : Nat → Nat) (st : LexS) : Prop := I 102 22 = nI st.1 ∧ ((I 102 21 = 0 ∧ st.2.2.1 = -1) ∨ (I 102 21 = 1 ∧ I 102 20 = nI st.2.1 ∧ st.2.2.1 = tkW (wdN b st.1 (st.2.1 - st.1)) ∧ st.2.2.2 = wdN b st.1 (st.2.1 - st.1) ∧ st.1 < st.2.1 ∧ ∀ j, st.1 ≤ j → j < st.2.1 → isLeB (b j) = true) ∨ (I 102 21 = 2 ∧ I 102 20 = nI st.2.1 ∧ st.2.2.1 = 256 ∧ J 102 23 = lI (st.2.2.2 : Nat)) ∨ (I 102 21 = 3 ∧ I 102 20 = nI st.2.1 ∧ 40 ≤ st.2.2.1 ∧ st.2.2.1 ≤ 61 ∧ J 102 23 = lI st.2.2.1) ∨ (I 102 21 = 4 ∧ st.2.2.1 = -2))
theorem byZ_in {I : TI} {b : Nat → Nat} {z f : Nat} (h : MTx I b z f) (i : Nat) : -1 ≤ byZ b z i ∧ byZ b z i < 256 := by
  unfold byZ
  split
  · rename_i hi
    have := (h.2.2.2.2 i hi).2
    omega
  · omega
theorem lI_z0 : (0 : Int64) = lI 0 := by decide
set_option maxRecDepth 20000 in
set_option maxHeartbeats 4000000 in
theorem S_byteAt {g : GP} {d n : Nat} {I : TI} {J : TJ} {R : TR} {b : Nat → Nat} {z f i : Nat} (hsh : Sh n R) (hT : MTx I b z f) (hi : i < 1000) : Wp g d mX7_byteAt 0 [.ref 102, .int (nI i)] [] 0 0 n I J R (RetI (zI (byZ b z i)) n I J R) := by
  have hz := hT.2.1
  have hf := hT.2.2.2.1
  refine r_iload_n dX7_byteAt_0 rfl ?_
  refine r_aload_n dX7_byteAt_1 rfl ?_
  refine r_getIE dX7_byteAt_2 f_X7_123 (hsh.al rfl (by decide)) (Or.inl rfl) hT.1 ?_
  refine r_nicmp_ge  (tgt := 22) dX7_byteAt_5 (by decide) rfl rfl (by omega) (by omega) (fun h5 => ?_) (fun h5 => ?_)
  · refine r_iconst (v := (-1)) dX7_byteAt_22 (by decide) ?_
    refine r_iret dX7_byteAt_23 rfl ?_
    exact retI (by unfold byZ; rw [if_neg (by omega)]; rfl)
  · refine r_aload_n dX7_byteAt_8 rfl ?_
    refine r_getR (b := 103) dX7_byteAt_9 f_X7_13 (hsh.al rfl (by decide)) (Or.inl ⟨_, rfl⟩) (hsh.r 102 1 103 (by decide)) (by decide) ?_
    refine r_aload_n dX7_byteAt_12 rfl ?_
    refine r_getIE dX7_byteAt_13 f_X7_126 (hsh.al rfl (by decide)) (Or.inl rfl) hT.2.2.1 ?_
    refine r_iload_n dX7_byteAt_16 rfl ?_
    refine r_niadd dX7_byteAt_17 rfl rfl ?_
    refine r_ialdE (j := (f + i)) dX7_byteAt_18 (hsh.al rfl (by decide)) (by omega) rfl (hT.2.2.2.2 i (by omega)).1 ?_
    refine r_goto (tgt := 23) dX7_byteAt_19 (by decide) ?_
    refine r_iret dX7_byteAt_23 rfl ?_
    exact retI (by unfold byZ; rw [if_pos (by omega)]; rfl)
theorem lexN_e {b : Nat → Nat} {z p s : Nat} (hE : runW isWsB b (z - p) p = s) (h : z ≤ s) : lexN b z p = (s, s, -1, 0) := by
  unfold lexN
  rw [hE]
  simp only
  rw [if_pos h]
theorem lexN_w {b : Nat → Nat} {z p s : Nat} (hE : runW isWsB b (z - p) p = s) (h : ¬ z ≤ s) (hl : isLeB (b s) = true) : lexN b z p = (s, runW isLeB b (z - s) s, tkW (wdN b s (runW isLeB b (z - s) s - s)), wdN b s (runW isLeB b (z - s) s - s)) := by
  unfold lexN
  rw [hE]
  simp only
  rw [if_neg h, if_pos hl]
  rfl
theorem lexN_d {b : Nat → Nat} {z p s : Nat} (hE : runW isWsB b (z - p) p = s) (h : ¬ z ≤ s) (hl : isLeB (b s) = false) (hd : isDiB (b s) = true) : lexN b z p = (s, runW isDiB b (z - s) s, if 4 < runW isDiB b (z - s) s - s then -2 else 256, numV b (runW isDiB b (z - s) s - s) s) := by
  unfold lexN
  rw [hE]
  simp only
  rw [if_neg h, if_neg (by rw [hl]; decide), if_pos hd]
theorem lexN_s {b : Nat → Nat} {z p s : Nat} (hE : runW isWsB b (z - p) p = s) (h : ¬ z ≤ s) (hl : isLeB (b s) = false) (hd : isDiB (b s) = false) : lexN b z p = (s, s + 1, if isSgB (b s) = true then (b s : Int) else -2, 0) := by
  unfold lexN
  rw [hE]
  simp only
  rw [if_neg h, if_neg (by rw [hl]; decide), if_neg (by rw [hd]; decide)]
theorem isLeB_iff {c : Nat} : isLeB c = true ↔ 97 ≤ c ∧ c ≤ 122 := by unfold isLeB; rw [Bool.and_eq_true, decide_eq_true_eq, decide_eq_true_eq]
theorem isDiB_iff {c : Nat} : isDiB c = true ↔ 48 ≤ c ∧ c ≤ 57 := by unfold isDiB; rw [Bool.and_eq_true, decide_eq_true_eq, decide_eq_true_eq]
theorem isWsB_iff {c : Nat} : isWsB c = true ↔ c = 32 ∨ c = 10 := by unfold isWsB; rw [Bool.or_eq_true, decide_eq_true_eq, decide_eq_true_eq]
theorem lI_dig {v c : Nat} (h : 48 ≤ c) (h1 : v < 100000) (h2 : c < 256) : 10 * lI (v : Nat) + lI (c : Nat) - 48 = lI ((v * 10 + (c - 48) : Nat) : Int) := by
  apply Int64.toInt_inj.mp
  have e10 : (10 : Int64) = lI 10 := by decide
  have e48 : (48 : Int64) = lI 48 := by decide
  rw [e10, e48, Int64.toInt_sub, Int64.toInt_add, Int64.toInt_mul, lI_toInt (by omega), lI_toInt (by omega), lI_toInt (by omega), lI_toInt (by omega), lI_toInt (by omega)]
  rw [Int.bmod_eq_of_le (n := 10 * (v : Int)) (by show -(((18446744073709551616 : Nat) : Int) / 2) ≤ _; omega) (by show _ < (((18446744073709551616 : Nat) : Int) + 1) / 2; omega)]
  rw [Int.bmod_eq_of_le (n := 10 * (v : Int) + (c : Int)) (by show -(((18446744073709551616 : Nat) : Int) / 2) ≤ _; omega) (by show _ < (((18446744073709551616 : Nat) : Int) + 1) / 2; omega)]
  rw [Int.bmod_eq_of_le (by show -(((18446744073709551616 : Nat) : Int) / 2) ≤ _; omega) (by show _ < (((18446744073709551616 : Nat) : Int) + 1) / 2; omega)]
  omega
set_option maxRecDepth 20000 in
set_option maxHeartbeats 4000000 in
theorem S_mNext {g : GP} {d n : Nat} {I : TI} {J : TJ} {R : TR} {b : Nat → Nat} {z f p : Nat} (hsh : Sh n R) (hT : MTx I b z f) (h20 : I 102 20 = nI p) (hpz : p ≤ z) : Wp g (d + 1) mX7_next 0 [.ref 102, .null, .null] [] 0 0 n I J R (PostM n R none (fun I2 J2 => FrLx I I2 ∧ MRd I2 J2 b (lexN b z p))) := by
  have hz := hT.2.1
  have hr1 := runW_ge isWsB b (z - p) p
  have hr2 := runW_le isWsB b (z - p) p
  generalize hE : runW isWsB b (z - p) p = s at hr1 hr2
  have word : ¬ z ≤ s → isLeB (b s) = true → ∀ q e I2 v, e + q = z → s ≤ e → runW isLeB b q e = runW isLeB b (z - s) s → FrLx I I2 → I2 102 20 = nI e → I2 102 21 = 1 → I2 102 22 = nI s → Wp g (d + 1) mX7_next 100 [.ref 102, v, .null] [] 0 0 n I2 J R (PostM n R none (fun I2 J2 => FrLx I I2 ∧ MRd I2 J2 b (lexN b z p))) := by
    intro hzs hl
    have hL := lexN_w hE hzs hl
    have g1 := runW_ge isLeB b (z - s) s
    have g2 := runW_le isLeB b (z - s) s
    have g3 := runW_in isLeB b (z - s) s
    have g4 : s < runW isLeB b (z - s) s := by
      have e : z - s = (z - s - 1) + 1 := by omega
      rw [e, runW_t hl]
      have := runW_ge isLeB b (z - s - 1) (s + 1)
      omega
    generalize runW isLeB b (z - s) s = E at hL g1 g2 g3 g4
    intro q
    induction q with
    | zero =>
      intro e I2 v he hse hr hF q20 q21 q22
      have hT2 := hT.f hF
      have ee : e = E := hr
      subst ee
      have hb : byZ b z e = -1 := by unfold byZ; rw [if_neg (by omega)]
      refine r_aload_n dX7_next_100 rfl ?_
      refine r_aload_n dX7_next_101 rfl ?_
      refine r_getIE dX7_next_102 f_X7_129 (hsh.al rfl (by decide)) (Or.inl rfl) q20 ?_
      refine r_callV1I dX7_next_105 moX7_byteAt w_991 w_993 s_36 (hsh.al rfl (by decide)) cl7 rfl (Nat.le_of_ble_eq_true rfl) (Nat.le_of_ble_eq_true rfl) (S_byteAt hsh hT2 (i := e) (by omega)) ?_
      refine r_zi2l dX7_next_108 rfl (by unfold inZ; omega) ?_
      refine r_ldc2 dX7_next_109 w_995 ?_
      refine r_ldc2 dX7_next_112 w_996 ?_
      refine r_callS3I dX7_next_115 moX7_in w_930 w_931 (Nat.le_of_ble_eq_true rfl) (Nat.le_of_ble_eq_true rfl) (S_in3 (z := (byZ b z e)) (lo := 97) (hi := 122) (by unfold inZ; omega) (by decide) (by decide) (by unfold inZ; omega) (by unfold inZ; omega)) ?_
      refine r_ifb_eq (tgt := 321) dX7_next_118 (by decide) (fun h118 => ?_) (fun h118 => absurd (of_decide_eq_true h118) (by omega))
      refine r_vret dX7_next_321 rfl ?_
      refine ⟨rfl, rfl, rfl, hF, ?_⟩
      rw [hL]
      exact ⟨q22, Or.inr (Or.inl ⟨q21, q20, rfl, rfl, g4, g3⟩)⟩
    | succ q ih =>
      intro e I2 v he hse hr hF q20 q21 q22
      have hT2 := hT.f hF
      have hb : byZ b z e = (b e : Int) := by unfold byZ; rw [if_pos (by omega)]
      have hb2 := (hT.2.2.2.2 e (by omega)).2
      have hle := isLeB_iff (c := b e)
      refine r_aload_n dX7_next_100 rfl ?_
      refine r_aload_n dX7_next_101 rfl ?_
      refine r_getIE dX7_next_102 f_X7_129 (hsh.al rfl (by decide)) (Or.inl rfl) q20 ?_
      refine r_callV1I dX7_next_105 moX7_byteAt w_991 w_993 s_36 (hsh.al rfl (by decide)) cl7 rfl (Nat.le_of_ble_eq_true rfl) (Nat.le_of_ble_eq_true rfl) (S_byteAt hsh hT2 (i := e) (by omega)) ?_
      refine r_zi2l dX7_next_108 rfl (by unfold inZ; omega) ?_
      refine r_ldc2 dX7_next_109 w_995 ?_
      refine r_ldc2 dX7_next_112 w_996 ?_
      refine r_callS3I dX7_next_115 moX7_in w_930 w_931 (Nat.le_of_ble_eq_true rfl) (Nat.le_of_ble_eq_true rfl) (S_in3 (z := (byZ b z e)) (lo := 97) (hi := 122) (by unfold inZ; omega) (by decide) (by decide) (by unfold inZ; omega) (by unfold inZ; omega)) ?_
      refine r_ifb_eq (tgt := 321) dX7_next_118 (by decide) (fun h118 => ?_) (fun h118 => ?_)
      · rw [decide_eq_false_iff_not] at h118
        refine r_vret dX7_next_321 rfl ?_
        have hf : isLeB (b e) = false := by rw [← Bool.not_eq_true, hle]; omega
        have ee : e = E := (runW_f hf).symm.trans hr
        subst ee
        refine ⟨rfl, rfl, rfl, hF, ?_⟩
        rw [hL]
        exact ⟨q22, Or.inr (Or.inl ⟨q21, q20, rfl, rfl, g4, g3⟩)⟩
      · rw [decide_eq_true_eq] at h118
        refine r_aload_n dX7_next_121 rfl ?_
        refine r_dup dX7_next_122 rfl ?_
        refine r_getIE dX7_next_123 f_X7_129 (hsh.al rfl (by decide)) (Or.inl rfl) q20 ?_
        refine r_iconst (v := 1) dX7_next_126 (by decide) ?_
        refine r_niadd (b := 1) dX7_next_127 rfl rfl ?_
        refine r_putI dX7_next_128 f_X7_129 (hsh.al rfl (by decide)) (Or.inl rfl) rfl ?_
        refine r_goto (tgt := 100) dX7_next_131 (by decide) ?_
        have ht : isLeB (b e) = true := by rw [hle]; omega
        exact ih (e + 1) _ _ (by omega) (by omega) ((runW_t ht).symm.trans hr) (hF.u (Or.inl rfl)) (up2_at _ _ _ _) ((up2_k _ _ (by decide)).trans q21) ((up2_k _ _ (by decide)).trans q22)
  have numb : ¬ z ≤ s → isLeB (b s) = false → isDiB (b s) = true → ∀ q e I2 J2 v, e + q = z → s ≤ e → runW isDiB b q e = runW isDiB b (z - s) s → (∀ j, s ≤ j → j < e → isDiB (b j) = true) → FrLx I I2 → I2 102 20 = nI e → I2 102 22 = nI s → J2 102 23 = lI (numV b (if e - s < 4 then e - s else 4) s : Nat) → Wp g (d + 1) mX7_next 160 [.ref 102, .int v, .int (nI (e - s))] [] 0 0 n I2 J2 R (PostM n R none (fun I2 J2 => FrLx I I2 ∧ MRd I2 J2 b (lexN b z p))) := by
    intro hzs hl hd
    have hL := lexN_d hE hzs hl hd
    have g1 := runW_ge isDiB b (z - s) s
    have g2 := runW_le isDiB b (z - s) s
    generalize runW isDiB b (z - s) s = E at hL g1 g2
    have fin : ∀ I2 J2 v, FrLx I I2 → I2 102 20 = nI E → I2 102 22 = nI s → J2 102 23 = lI (numV b (if E - s < 4 then E - s else 4) s : Nat) → Wp g (d + 1) mX7_next 235 [.ref 102, v, .int (nI (E - s))] [] 0 0 n I2 J2 R (PostM n R none (fun I2 J2 => FrLx I I2 ∧ MRd I2 J2 b (lexN b z p))) := by
      intro I2 J2 v hF q20 q22 qJ
      refine r_aload_n dX7_next_235 rfl ?_
      refine r_iload_n dX7_next_236 rfl ?_
      refine r_iconst (v := 4) dX7_next_237 (by decide) ?_
      refine r_nicmp_le (b := 4)  (tgt := 245) dX7_next_238 (by decide) rfl rfl (by omega) (by omega) (fun h238 => ?_) (fun h238 => ?_)
      · refine r_iconst (v := 2) dX7_next_245 (by decide) ?_
        refine r_putI dX7_next_246 f_X7_138 (hsh.al rfl (by decide)) (Or.inl rfl) rfl ?_
        refine r_goto (tgt := 321) dX7_next_249 (by decide) ?_
        refine r_vret dX7_next_321 rfl ?_
        refine ⟨rfl, rfl, rfl, hF.u (Or.inr (Or.inl rfl)), ?_⟩
        rw [hL, if_neg (by omega)]
        refine ⟨(up2_k _ _ (by decide)).trans q22, Or.inr (Or.inr (Or.inl ⟨up2_at _ _ _ _, (up2_k _ _ (by decide)).trans q20, rfl, ?_⟩))⟩
        rw [qJ]
        by_cases h4 : E - s < 4
        · rw [if_pos h4]
        · rw [if_neg h4, show E - s = 4 by omega]
      · refine r_iconst (v := 4) dX7_next_241 (by decide) ?_
        refine r_goto (tgt := 246) dX7_next_242 (by decide) ?_
        refine r_putI dX7_next_246 f_X7_138 (hsh.al rfl (by decide)) (Or.inl rfl) rfl ?_
        refine r_goto (tgt := 321) dX7_next_249 (by decide) ?_
        refine r_vret dX7_next_321 rfl ?_
        refine ⟨rfl, rfl, rfl, hF.u (Or.inr (Or.inl rfl)), ?_⟩
        rw [hL, if_pos (by omega)]
        exact ⟨(up2_k _ _ (by decide)).trans q22, Or.inr (Or.inr (Or.inr (Or.inr ⟨up2_at _ _ _ _, rfl⟩)))⟩
    intro q
    induction q with
    | zero =>
      intro e I2 J2 v he hse hr hdg hF q20 q22 qJ
      have hT2 := hT.f hF
      have ee : e = E := hr
      subst ee
      have hb : byZ b z e = -1 := by unfold byZ; rw [if_neg (by omega)]
      refine r_aload_n dX7_next_160 rfl ?_
      refine r_aload_n dX7_next_161 rfl ?_
      refine r_getIE dX7_next_162 f_X7_129 (hsh.al rfl (by decide)) (Or.inl rfl) q20 ?_
      refine r_callV1I dX7_next_165 moX7_byteAt w_991 w_993 s_36 (hsh.al rfl (by decide)) cl7 rfl (Nat.le_of_ble_eq_true rfl) (Nat.le_of_ble_eq_true rfl) (S_byteAt hsh hT2 (i := e) (by omega)) ?_
      refine r_zi2l dX7_next_168 rfl (by unfold inZ; omega) ?_
      refine r_ldc2 dX7_next_169 w_997 ?_
      refine r_ldc2 dX7_next_172 w_998 ?_
      refine r_callS3I dX7_next_175 moX7_in w_930 w_931 (Nat.le_of_ble_eq_true rfl) (Nat.le_of_ble_eq_true rfl) (S_in3 (z := (byZ b z e)) (lo := 48) (hi := 57) (by unfold inZ; omega) (by decide) (by decide) (by unfold inZ; omega) (by unfold inZ; omega)) ?_
      refine r_ifb_eq (tgt := 235) dX7_next_178 (by decide) (fun h178 => ?_) (fun h178 => absurd (of_decide_eq_true h178) (by omega))
      exact fin I2 J2 _ hF q20 q22 qJ
    | succ q ih =>
      intro e I2 J2 v he hse hr hdg hF q20 q22 qJ
      have hT2 := hT.f hF
      have hb : byZ b z e = (b e : Int) := by unfold byZ; rw [if_pos (by omega)]
      have hb2 := (hT.2.2.2.2 e (by omega)).2
      have hle := isDiB_iff (c := b e)
      have hnl : e - s < 4 → numV b (e - s) s < 100000 := fun h => by
        have h5 := numV_lt b s (e - s) fun j hj => (isDiB_iff.mp (hdg (s + j) (by omega) (by omega))).2
        have h7 : 10 ^ (e - s) ≤ 10 ^ 4 := Nat.pow_le_pow_right (by decide) (by omega)
        omega
      refine r_aload_n dX7_next_160 rfl ?_
      refine r_aload_n dX7_next_161 rfl ?_
      refine r_getIE dX7_next_162 f_X7_129 (hsh.al rfl (by decide)) (Or.inl rfl) q20 ?_
      refine r_callV1I dX7_next_165 moX7_byteAt w_991 w_993 s_36 (hsh.al rfl (by decide)) cl7 rfl (Nat.le_of_ble_eq_true rfl) (Nat.le_of_ble_eq_true rfl) (S_byteAt hsh hT2 (i := e) (by omega)) ?_
      refine r_zi2l dX7_next_168 rfl (by unfold inZ; omega) ?_
      refine r_ldc2 dX7_next_169 w_997 ?_
      refine r_ldc2 dX7_next_172 w_998 ?_
      refine r_callS3I dX7_next_175 moX7_in w_930 w_931 (Nat.le_of_ble_eq_true rfl) (Nat.le_of_ble_eq_true rfl) (S_in3 (z := (byZ b z e)) (lo := 48) (hi := 57) (by unfold inZ; omega) (by decide) (by decide) (by unfold inZ; omega) (by unfold inZ; omega)) ?_
      refine r_ifb_eq (tgt := 235) dX7_next_178 (by decide) (fun h178 => ?_) (fun h178 => ?_)
      · rw [decide_eq_false_iff_not] at h178
        have hf : isDiB (b e) = false := by rw [← Bool.not_eq_true, hle]; omega
        have ee : e = E := (runW_f hf).symm.trans hr
        subst ee
        exact fin I2 J2 _ hF q20 q22 qJ
      · rw [decide_eq_true_eq] at h178
        refine r_aload_n dX7_next_181 rfl ?_
        refine r_iload_n dX7_next_182 rfl ?_
        refine r_iconst (v := 4) dX7_next_183 (by decide) ?_
        refine r_nicmp_ge (b := 4)  (tgt := 212) dX7_next_184 (by decide) rfl rfl (by omega) (by omega) (fun h184 => ?_) (fun h184 => ?_)
        · refine r_aload_n dX7_next_212 rfl ?_
          refine r_getJ dX7_next_213 f_X7_149 (hsh.al rfl (by decide)) rfl ?_
          have qJ2 : J2 102 23 = lI (numV b 4 s : Nat) := by rw [qJ, if_neg (show ¬ e - s < 4 by omega)]
          refine r_topL qJ2 ?_
          refine r_putJ dX7_next_216 f_X7_149 (hsh.al rfl (by decide)) (Or.inl rfl) rfl ?_
          refine r_iincE (b := (e + 1 - s)) dX7_next_219 rfl rfl (by rw [show e + 1 - s = (e - s) + 1 by omega]; exact (nI_succ _).symm) rfl ?_
          refine r_aload_n dX7_next_222 rfl ?_
          refine r_dup dX7_next_223 rfl ?_
          refine r_getIE dX7_next_224 f_X7_129 (hsh.al rfl (by decide)) (Or.inl rfl) q20 ?_
          refine r_iconst (v := 1) dX7_next_227 (by decide) ?_
          refine r_niadd (b := 1) dX7_next_228 rfl rfl ?_
          refine r_putI dX7_next_229 f_X7_129 (hsh.al rfl (by decide)) (Or.inl rfl) rfl ?_
          refine r_goto (tgt := 160) dX7_next_232 (by decide) ?_
          have ht : isDiB (b e) = true := by rw [hle]; omega
          refine ih (e + 1) _ _ _ (by omega) (by omega) ((runW_t ht).symm.trans hr) (fun j h1 h2 => ?_) (hF.u (Or.inl rfl)) (up2_at _ _ _ _) ((up2_k _ _ (by decide)).trans q22) ?_
          · by_cases e2 : j = e
            · rw [e2]; exact ht
            · exact hdg j h1 (by omega)
          · rw [up2_at, show e + 1 - s = (e - s) + 1 by omega]
            rw [if_neg (by omega)]
        · refine r_ldc2 dX7_next_187 w_999 ?_
          refine r_aload_n dX7_next_190 rfl ?_
          refine r_getJ dX7_next_191 f_X7_149 (hsh.al rfl (by decide)) rfl ?_
          have qJ2 : J2 102 23 = lI (numV b (e - s) s : Nat) := by rw [qJ, if_pos (show e - s < 4 by omega)]
          refine r_topL qJ2 ?_
          refine r_lmul dX7_next_194 ?_
          refine r_aload_n dX7_next_195 rfl ?_
          refine r_aload_n dX7_next_196 rfl ?_
          refine r_getIE dX7_next_197 f_X7_129 (hsh.al rfl (by decide)) (Or.inl rfl) q20 ?_
          refine r_callV1I dX7_next_200 moX7_byteAt w_991 w_993 s_36 (hsh.al rfl (by decide)) cl7 rfl (Nat.le_of_ble_eq_true rfl) (Nat.le_of_ble_eq_true rfl) (S_byteAt hsh hT2 (i := e) (by omega)) ?_
          rw [hb]
          refine r_zi2l dX7_next_203 rfl (by unfold inZ; omega) ?_
          refine r_ladd dX7_next_204 ?_
          refine r_ldc2 dX7_next_205 w_997 ?_
          refine r_lsub dX7_next_208 ?_
          refine r_topL (lI_dig (by omega) (hnl (by omega)) hb2) ?_
          refine r_goto (tgt := 216) dX7_next_209 (by decide) ?_
          refine r_putJ dX7_next_216 f_X7_149 (hsh.al rfl (by decide)) (Or.inl rfl) rfl ?_
          refine r_iincE (b := (e + 1 - s)) dX7_next_219 rfl rfl (by rw [show e + 1 - s = (e - s) + 1 by omega]; exact (nI_succ _).symm) rfl ?_
          refine r_aload_n dX7_next_222 rfl ?_
          refine r_dup dX7_next_223 rfl ?_
          refine r_getIE dX7_next_224 f_X7_129 (hsh.al rfl (by decide)) (Or.inl rfl) q20 ?_
          refine r_iconst (v := 1) dX7_next_227 (by decide) ?_
          refine r_niadd (b := 1) dX7_next_228 rfl rfl ?_
          refine r_putI dX7_next_229 f_X7_129 (hsh.al rfl (by decide)) (Or.inl rfl) rfl ?_
          refine r_goto (tgt := 160) dX7_next_232 (by decide) ?_
          have ht : isDiB (b e) = true := by rw [hle]; omega
          refine ih (e + 1) _ _ _ (by omega) (by omega) ((runW_t ht).symm.trans hr) (fun j h1 h2 => ?_) (hF.u (Or.inl rfl)) (up2_at _ _ _ _) ((up2_k _ _ (by decide)).trans q22) ?_
          · by_cases e2 : j = e
            · rw [e2]; exact ht
            · exact hdg j h1 (by omega)
          · rw [up2_at, show e + 1 - s = (e - s) + 1 by omega]
            have e3 : (if (e - s) + 1 < 4 then (e - s) + 1 else 4) = (e - s) + 1 := by split <;> omega
            rw [e3]
            show lI ((numV b (e - s) s * 10 + (b e - 48) : Nat) : Int) = lI ((numV b (e - s) s * 10 + (b (s + (e - s)) - 48) : Nat) : Int)
            rw [show s + (e - s) = e by omega]
  have fin : ∀ I2, FrLx I I2 → I2 102 20 = nI s → Wp g (d + 1) mX7_next 39 [.ref 102, .null, .null] [] 0 0 n I2 J R (PostM n R none (fun I2 J2 => FrLx I I2 ∧ MRd I2 J2 b (lexN b z p))) := by
    intro I2 hF q20
    have hT2 := hT.f hF
    have hbz := byZ_in hT s
    refine r_aload_n dX7_next_39 rfl ?_
    refine r_aload_n dX7_next_40 rfl ?_
    refine r_getIE dX7_next_41 f_X7_129 (hsh.al rfl (by decide)) (Or.inl rfl) q20 ?_
    refine r_putI dX7_next_44 f_X7_135 (hsh.al rfl (by decide)) (Or.inl rfl) rfl ?_
    refine r_aload_n dX7_next_47 rfl ?_
    refine r_aload_n dX7_next_48 rfl ?_
    refine r_getIE dX7_next_49 f_X7_129 (hsh.al rfl (by decide)) (Or.inl rfl) ((up2_k _ _ (by decide)).trans q20) ?_
    refine r_callV1I dX7_next_52 moX7_byteAt w_991 w_993 s_36 (hsh.al rfl (by decide)) cl7 rfl (Nat.le_of_ble_eq_true rfl) (Nat.le_of_ble_eq_true rfl) (S_byteAt hsh (hT.f (hF.u (k := 22) (v := nI s) (Or.inr (Or.inr rfl)))) (i := s) (by omega)) ?_
    refine r_istore_n dX7_next_55 (by decide) rfl ?_
    refine r_aload_n dX7_next_56 rfl ?_
    refine r_iconst (v := 4) dX7_next_57 (by decide) ?_
    refine r_putI dX7_next_58 f_X7_138 (hsh.al rfl (by decide)) (Or.inl rfl) rfl ?_
    refine r_iload_n dX7_next_61 rfl ?_
    refine r_zif_ge (tgt := 81) dX7_next_62 (by decide) rfl (by unfold inZ; omega) (fun h62 => ?_) (fun h62 => ?_)
    · have hzs : ¬ z ≤ s := fun h => by unfold byZ at h62; rw [if_neg (by omega)] at h62; omega
      have hb : byZ b z s = (b s : Int) := by unfold byZ; rw [if_pos (by omega)]
      have hb2 := (hT.2.2.2.2 s (by omega)).2
      rw [hb]
      have hle := isLeB_iff (c := b s)
      have hde := isDiB_iff (c := b s)
      refine r_iload_n dX7_next_81 rfl ?_
      refine r_zi2l dX7_next_82 (nz _) (by unfold inZ; omega) ?_
      refine r_ldc2 dX7_next_83 w_995 ?_
      refine r_ldc2 dX7_next_86 w_996 ?_
      refine r_callS3I dX7_next_89 moX7_in w_930 w_931 (Nat.le_of_ble_eq_true rfl) (Nat.le_of_ble_eq_true rfl) (S_in3 (z := ((b s : Nat) : Int)) (lo := 97) (hi := 122) (by unfold inZ; omega) (by decide) (by decide) (by unfold inZ; omega) (by unfold inZ; omega)) ?_
      refine r_ifb_eq (tgt := 134) dX7_next_92 (by decide) (fun h92 => ?_) (fun h92 => ?_)
      · rw [decide_eq_false_iff_not] at h92
        refine r_iload_n dX7_next_134 rfl ?_
        refine r_zi2l dX7_next_135 (nz _) (by unfold inZ; omega) ?_
        refine r_ldc2 dX7_next_136 w_997 ?_
        refine r_ldc2 dX7_next_139 w_998 ?_
        refine r_callS3I dX7_next_142 moX7_in w_930 w_931 (Nat.le_of_ble_eq_true rfl) (Nat.le_of_ble_eq_true rfl) (S_in3 (z := ((b s : Nat) : Int)) (lo := 48) (hi := 57) (by unfold inZ; omega) (by decide) (by decide) (by unfold inZ; omega) (by unfold inZ; omega)) ?_
        refine r_ifb_eq (tgt := 252) dX7_next_145 (by decide) (fun h145 => ?_) (fun h145 => ?_)
        · rw [decide_eq_false_iff_not] at h145
          refine r_iload_n dX7_next_252 rfl ?_
          refine r_bipush (v := 40) dX7_next_253 (by decide) ?_
          refine r_nicmp_eq (b := 40)  (tgt := 300) dX7_next_255 (by decide) rfl rfl (by omega) (by omega) (fun h255 => ?_) (fun h255 => ?_)
          · refine r_aload_n dX7_next_300 rfl ?_
            refine r_iconst (v := 3) dX7_next_301 (by decide) ?_
            refine r_putI dX7_next_302 f_X7_138 (hsh.al rfl (by decide)) (Or.inl rfl) rfl ?_
            refine r_aload_n dX7_next_305 rfl ?_
            refine r_iload_n dX7_next_306 rfl ?_
            refine r_zi2l dX7_next_307 (nz _) (by unfold inZ; omega) ?_
            refine r_putJ dX7_next_308 f_X7_149 (hsh.al rfl (by decide)) (Or.inl rfl) rfl ?_
            refine r_aload_n dX7_next_311 rfl ?_
            refine r_dup dX7_next_312 rfl ?_
            refine r_getIE dX7_next_313 f_X7_129 (hsh.al rfl (by decide)) (Or.inl rfl) ((up2_k _ _ (by decide)).trans ((up2_k _ _ (by decide)).trans ((up2_k _ _ (by decide)).trans q20))) ?_
            refine r_iconst (v := 1) dX7_next_316 (by decide) ?_
            refine r_niadd (b := 1) dX7_next_317 rfl rfl ?_
            refine r_putI dX7_next_318 f_X7_129 (hsh.al rfl (by decide)) (Or.inl rfl) rfl ?_
            refine r_vret dX7_next_321 rfl ?_
            have hl : isLeB (b s) = false := by rw [← Bool.not_eq_true, hle]; omega
            have hd : isDiB (b s) = false := by rw [← Bool.not_eq_true, hde]; omega
            have hL := lexN_s hE hzs hl hd
            have hsg : isSgB (b s) = true := decide_eq_true (by omega)
            rw [if_pos hsg] at hL
            refine ⟨rfl, rfl, rfl, (((hF.u (k := 22) (v := nI s) (Or.inr (Or.inr rfl))).u (k := 21) (v := 4) (Or.inr (Or.inl rfl))).u (Or.inr (Or.inl rfl))).u (Or.inl rfl), ?_⟩
            rw [hL]
            refine ⟨?_, Or.inr (Or.inr (Or.inr (Or.inl ⟨(up2_k _ _ (by decide)).trans (up2_at _ _ _ _), up2_at _ _ _ _, by show (40 : Int) ≤ (b s : Int); omega, by show (b s : Int) ≤ 61; omega, up2_at _ _ _ _⟩)))⟩
            rw [up2_k _ _ (by decide), up2_k _ _ (by decide), up2_k _ _ (by decide), up2_at]
          · refine r_iload_n dX7_next_258 rfl ?_
            refine r_bipush (v := 41) dX7_next_259 (by decide) ?_
            refine r_nicmp_eq (b := 41)  (tgt := 300) dX7_next_261 (by decide) rfl rfl (by omega) (by omega) (fun h261 => ?_) (fun h261 => ?_)
            · refine r_aload_n dX7_next_300 rfl ?_
              refine r_iconst (v := 3) dX7_next_301 (by decide) ?_
              refine r_putI dX7_next_302 f_X7_138 (hsh.al rfl (by decide)) (Or.inl rfl) rfl ?_
              refine r_aload_n dX7_next_305 rfl ?_
              refine r_iload_n dX7_next_306 rfl ?_
              refine r_zi2l dX7_next_307 (nz _) (by unfold inZ; omega) ?_
              refine r_putJ dX7_next_308 f_X7_149 (hsh.al rfl (by decide)) (Or.inl rfl) rfl ?_
              refine r_aload_n dX7_next_311 rfl ?_
              refine r_dup dX7_next_312 rfl ?_
              refine r_getIE dX7_next_313 f_X7_129 (hsh.al rfl (by decide)) (Or.inl rfl) ((up2_k _ _ (by decide)).trans ((up2_k _ _ (by decide)).trans ((up2_k _ _ (by decide)).trans q20))) ?_
              refine r_iconst (v := 1) dX7_next_316 (by decide) ?_
              refine r_niadd (b := 1) dX7_next_317 rfl rfl ?_
              refine r_putI dX7_next_318 f_X7_129 (hsh.al rfl (by decide)) (Or.inl rfl) rfl ?_
              refine r_vret dX7_next_321 rfl ?_
              have hl : isLeB (b s) = false := by rw [← Bool.not_eq_true, hle]; omega
              have hd : isDiB (b s) = false := by rw [← Bool.not_eq_true, hde]; omega
              have hL := lexN_s hE hzs hl hd
              have hsg : isSgB (b s) = true := decide_eq_true (by omega)
              rw [if_pos hsg] at hL
              refine ⟨rfl, rfl, rfl, (((hF.u (k := 22) (v := nI s) (Or.inr (Or.inr rfl))).u (k := 21) (v := 4) (Or.inr (Or.inl rfl))).u (Or.inr (Or.inl rfl))).u (Or.inl rfl), ?_⟩
              rw [hL]
              refine ⟨?_, Or.inr (Or.inr (Or.inr (Or.inl ⟨(up2_k _ _ (by decide)).trans (up2_at _ _ _ _), up2_at _ _ _ _, by show (40 : Int) ≤ (b s : Int); omega, by show (b s : Int) ≤ 61; omega, up2_at _ _ _ _⟩)))⟩
              rw [up2_k _ _ (by decide), up2_k _ _ (by decide), up2_k _ _ (by decide), up2_at]
            · refine r_iload_n dX7_next_264 rfl ?_
              refine r_bipush (v := 59) dX7_next_265 (by decide) ?_
              refine r_nicmp_eq (b := 59)  (tgt := 300) dX7_next_267 (by decide) rfl rfl (by omega) (by omega) (fun h267 => ?_) (fun h267 => ?_)
              · refine r_aload_n dX7_next_300 rfl ?_
                refine r_iconst (v := 3) dX7_next_301 (by decide) ?_
                refine r_putI dX7_next_302 f_X7_138 (hsh.al rfl (by decide)) (Or.inl rfl) rfl ?_
                refine r_aload_n dX7_next_305 rfl ?_
                refine r_iload_n dX7_next_306 rfl ?_
                refine r_zi2l dX7_next_307 (nz _) (by unfold inZ; omega) ?_
                refine r_putJ dX7_next_308 f_X7_149 (hsh.al rfl (by decide)) (Or.inl rfl) rfl ?_
                refine r_aload_n dX7_next_311 rfl ?_
                refine r_dup dX7_next_312 rfl ?_
                refine r_getIE dX7_next_313 f_X7_129 (hsh.al rfl (by decide)) (Or.inl rfl) ((up2_k _ _ (by decide)).trans ((up2_k _ _ (by decide)).trans ((up2_k _ _ (by decide)).trans q20))) ?_
                refine r_iconst (v := 1) dX7_next_316 (by decide) ?_
                refine r_niadd (b := 1) dX7_next_317 rfl rfl ?_
                refine r_putI dX7_next_318 f_X7_129 (hsh.al rfl (by decide)) (Or.inl rfl) rfl ?_
                refine r_vret dX7_next_321 rfl ?_
                have hl : isLeB (b s) = false := by rw [← Bool.not_eq_true, hle]; omega
                have hd : isDiB (b s) = false := by rw [← Bool.not_eq_true, hde]; omega
                have hL := lexN_s hE hzs hl hd
                have hsg : isSgB (b s) = true := decide_eq_true (by omega)
                rw [if_pos hsg] at hL
                refine ⟨rfl, rfl, rfl, (((hF.u (k := 22) (v := nI s) (Or.inr (Or.inr rfl))).u (k := 21) (v := 4) (Or.inr (Or.inl rfl))).u (Or.inr (Or.inl rfl))).u (Or.inl rfl), ?_⟩
                rw [hL]
                refine ⟨?_, Or.inr (Or.inr (Or.inr (Or.inl ⟨(up2_k _ _ (by decide)).trans (up2_at _ _ _ _), up2_at _ _ _ _, by show (40 : Int) ≤ (b s : Int); omega, by show (b s : Int) ≤ 61; omega, up2_at _ _ _ _⟩)))⟩
                rw [up2_k _ _ (by decide), up2_k _ _ (by decide), up2_k _ _ (by decide), up2_at]
              · refine r_iload_n dX7_next_270 rfl ?_
                refine r_bipush (v := 43) dX7_next_271 (by decide) ?_
                refine r_nicmp_eq (b := 43)  (tgt := 300) dX7_next_273 (by decide) rfl rfl (by omega) (by omega) (fun h273 => ?_) (fun h273 => ?_)
                · refine r_aload_n dX7_next_300 rfl ?_
                  refine r_iconst (v := 3) dX7_next_301 (by decide) ?_
                  refine r_putI dX7_next_302 f_X7_138 (hsh.al rfl (by decide)) (Or.inl rfl) rfl ?_
                  refine r_aload_n dX7_next_305 rfl ?_
                  refine r_iload_n dX7_next_306 rfl ?_
                  refine r_zi2l dX7_next_307 (nz _) (by unfold inZ; omega) ?_
                  refine r_putJ dX7_next_308 f_X7_149 (hsh.al rfl (by decide)) (Or.inl rfl) rfl ?_
                  refine r_aload_n dX7_next_311 rfl ?_
                  refine r_dup dX7_next_312 rfl ?_
                  refine r_getIE dX7_next_313 f_X7_129 (hsh.al rfl (by decide)) (Or.inl rfl) ((up2_k _ _ (by decide)).trans ((up2_k _ _ (by decide)).trans ((up2_k _ _ (by decide)).trans q20))) ?_
                  refine r_iconst (v := 1) dX7_next_316 (by decide) ?_
                  refine r_niadd (b := 1) dX7_next_317 rfl rfl ?_
                  refine r_putI dX7_next_318 f_X7_129 (hsh.al rfl (by decide)) (Or.inl rfl) rfl ?_
                  refine r_vret dX7_next_321 rfl ?_
                  have hl : isLeB (b s) = false := by rw [← Bool.not_eq_true, hle]; omega
                  have hd : isDiB (b s) = false := by rw [← Bool.not_eq_true, hde]; omega
                  have hL := lexN_s hE hzs hl hd
                  have hsg : isSgB (b s) = true := decide_eq_true (by omega)
                  rw [if_pos hsg] at hL
                  refine ⟨rfl, rfl, rfl, (((hF.u (k := 22) (v := nI s) (Or.inr (Or.inr rfl))).u (k := 21) (v := 4) (Or.inr (Or.inl rfl))).u (Or.inr (Or.inl rfl))).u (Or.inl rfl), ?_⟩
                  rw [hL]
                  refine ⟨?_, Or.inr (Or.inr (Or.inr (Or.inl ⟨(up2_k _ _ (by decide)).trans (up2_at _ _ _ _), up2_at _ _ _ _, by show (40 : Int) ≤ (b s : Int); omega, by show (b s : Int) ≤ 61; omega, up2_at _ _ _ _⟩)))⟩
                  rw [up2_k _ _ (by decide), up2_k _ _ (by decide), up2_k _ _ (by decide), up2_at]
                · refine r_iload_n dX7_next_276 rfl ?_
                  refine r_bipush (v := 45) dX7_next_277 (by decide) ?_
                  refine r_nicmp_eq (b := 45)  (tgt := 300) dX7_next_279 (by decide) rfl rfl (by omega) (by omega) (fun h279 => ?_) (fun h279 => ?_)
                  · refine r_aload_n dX7_next_300 rfl ?_
                    refine r_iconst (v := 3) dX7_next_301 (by decide) ?_
                    refine r_putI dX7_next_302 f_X7_138 (hsh.al rfl (by decide)) (Or.inl rfl) rfl ?_
                    refine r_aload_n dX7_next_305 rfl ?_
                    refine r_iload_n dX7_next_306 rfl ?_
                    refine r_zi2l dX7_next_307 (nz _) (by unfold inZ; omega) ?_
                    refine r_putJ dX7_next_308 f_X7_149 (hsh.al rfl (by decide)) (Or.inl rfl) rfl ?_
                    refine r_aload_n dX7_next_311 rfl ?_
                    refine r_dup dX7_next_312 rfl ?_
                    refine r_getIE dX7_next_313 f_X7_129 (hsh.al rfl (by decide)) (Or.inl rfl) ((up2_k _ _ (by decide)).trans ((up2_k _ _ (by decide)).trans ((up2_k _ _ (by decide)).trans q20))) ?_
                    refine r_iconst (v := 1) dX7_next_316 (by decide) ?_
                    refine r_niadd (b := 1) dX7_next_317 rfl rfl ?_
                    refine r_putI dX7_next_318 f_X7_129 (hsh.al rfl (by decide)) (Or.inl rfl) rfl ?_
                    refine r_vret dX7_next_321 rfl ?_
                    have hl : isLeB (b s) = false := by rw [← Bool.not_eq_true, hle]; omega
                    have hd : isDiB (b s) = false := by rw [← Bool.not_eq_true, hde]; omega
                    have hL := lexN_s hE hzs hl hd
                    have hsg : isSgB (b s) = true := decide_eq_true (by omega)
                    rw [if_pos hsg] at hL
                    refine ⟨rfl, rfl, rfl, (((hF.u (k := 22) (v := nI s) (Or.inr (Or.inr rfl))).u (k := 21) (v := 4) (Or.inr (Or.inl rfl))).u (Or.inr (Or.inl rfl))).u (Or.inl rfl), ?_⟩
                    rw [hL]
                    refine ⟨?_, Or.inr (Or.inr (Or.inr (Or.inl ⟨(up2_k _ _ (by decide)).trans (up2_at _ _ _ _), up2_at _ _ _ _, by show (40 : Int) ≤ (b s : Int); omega, by show (b s : Int) ≤ 61; omega, up2_at _ _ _ _⟩)))⟩
                    rw [up2_k _ _ (by decide), up2_k _ _ (by decide), up2_k _ _ (by decide), up2_at]
                  · refine r_iload_n dX7_next_282 rfl ?_
                    refine r_bipush (v := 42) dX7_next_283 (by decide) ?_
                    refine r_nicmp_eq (b := 42)  (tgt := 300) dX7_next_285 (by decide) rfl rfl (by omega) (by omega) (fun h285 => ?_) (fun h285 => ?_)
                    · refine r_aload_n dX7_next_300 rfl ?_
                      refine r_iconst (v := 3) dX7_next_301 (by decide) ?_
                      refine r_putI dX7_next_302 f_X7_138 (hsh.al rfl (by decide)) (Or.inl rfl) rfl ?_
                      refine r_aload_n dX7_next_305 rfl ?_
                      refine r_iload_n dX7_next_306 rfl ?_
                      refine r_zi2l dX7_next_307 (nz _) (by unfold inZ; omega) ?_
                      refine r_putJ dX7_next_308 f_X7_149 (hsh.al rfl (by decide)) (Or.inl rfl) rfl ?_
                      refine r_aload_n dX7_next_311 rfl ?_
                      refine r_dup dX7_next_312 rfl ?_
                      refine r_getIE dX7_next_313 f_X7_129 (hsh.al rfl (by decide)) (Or.inl rfl) ((up2_k _ _ (by decide)).trans ((up2_k _ _ (by decide)).trans ((up2_k _ _ (by decide)).trans q20))) ?_
                      refine r_iconst (v := 1) dX7_next_316 (by decide) ?_
                      refine r_niadd (b := 1) dX7_next_317 rfl rfl ?_
                      refine r_putI dX7_next_318 f_X7_129 (hsh.al rfl (by decide)) (Or.inl rfl) rfl ?_
                      refine r_vret dX7_next_321 rfl ?_
                      have hl : isLeB (b s) = false := by rw [← Bool.not_eq_true, hle]; omega
                      have hd : isDiB (b s) = false := by rw [← Bool.not_eq_true, hde]; omega
                      have hL := lexN_s hE hzs hl hd
                      have hsg : isSgB (b s) = true := decide_eq_true (by omega)
                      rw [if_pos hsg] at hL
                      refine ⟨rfl, rfl, rfl, (((hF.u (k := 22) (v := nI s) (Or.inr (Or.inr rfl))).u (k := 21) (v := 4) (Or.inr (Or.inl rfl))).u (Or.inr (Or.inl rfl))).u (Or.inl rfl), ?_⟩
                      rw [hL]
                      refine ⟨?_, Or.inr (Or.inr (Or.inr (Or.inl ⟨(up2_k _ _ (by decide)).trans (up2_at _ _ _ _), up2_at _ _ _ _, by show (40 : Int) ≤ (b s : Int); omega, by show (b s : Int) ≤ 61; omega, up2_at _ _ _ _⟩)))⟩
                      rw [up2_k _ _ (by decide), up2_k _ _ (by decide), up2_k _ _ (by decide), up2_at]
                    · refine r_iload_n dX7_next_288 rfl ?_
                      refine r_bipush (v := 60) dX7_next_289 (by decide) ?_
                      refine r_nicmp_eq (b := 60)  (tgt := 300) dX7_next_291 (by decide) rfl rfl (by omega) (by omega) (fun h291 => ?_) (fun h291 => ?_)
                      · refine r_aload_n dX7_next_300 rfl ?_
                        refine r_iconst (v := 3) dX7_next_301 (by decide) ?_
                        refine r_putI dX7_next_302 f_X7_138 (hsh.al rfl (by decide)) (Or.inl rfl) rfl ?_
                        refine r_aload_n dX7_next_305 rfl ?_
                        refine r_iload_n dX7_next_306 rfl ?_
                        refine r_zi2l dX7_next_307 (nz _) (by unfold inZ; omega) ?_
                        refine r_putJ dX7_next_308 f_X7_149 (hsh.al rfl (by decide)) (Or.inl rfl) rfl ?_
                        refine r_aload_n dX7_next_311 rfl ?_
                        refine r_dup dX7_next_312 rfl ?_
                        refine r_getIE dX7_next_313 f_X7_129 (hsh.al rfl (by decide)) (Or.inl rfl) ((up2_k _ _ (by decide)).trans ((up2_k _ _ (by decide)).trans ((up2_k _ _ (by decide)).trans q20))) ?_
                        refine r_iconst (v := 1) dX7_next_316 (by decide) ?_
                        refine r_niadd (b := 1) dX7_next_317 rfl rfl ?_
                        refine r_putI dX7_next_318 f_X7_129 (hsh.al rfl (by decide)) (Or.inl rfl) rfl ?_
                        refine r_vret dX7_next_321 rfl ?_
                        have hl : isLeB (b s) = false := by rw [← Bool.not_eq_true, hle]; omega
                        have hd : isDiB (b s) = false := by rw [← Bool.not_eq_true, hde]; omega
                        have hL := lexN_s hE hzs hl hd
                        have hsg : isSgB (b s) = true := decide_eq_true (by omega)
                        rw [if_pos hsg] at hL
                        refine ⟨rfl, rfl, rfl, (((hF.u (k := 22) (v := nI s) (Or.inr (Or.inr rfl))).u (k := 21) (v := 4) (Or.inr (Or.inl rfl))).u (Or.inr (Or.inl rfl))).u (Or.inl rfl), ?_⟩
                        rw [hL]
                        refine ⟨?_, Or.inr (Or.inr (Or.inr (Or.inl ⟨(up2_k _ _ (by decide)).trans (up2_at _ _ _ _), up2_at _ _ _ _, by show (40 : Int) ≤ (b s : Int); omega, by show (b s : Int) ≤ 61; omega, up2_at _ _ _ _⟩)))⟩
                        rw [up2_k _ _ (by decide), up2_k _ _ (by decide), up2_k _ _ (by decide), up2_at]
                      · refine r_iload_n dX7_next_294 rfl ?_
                        refine r_bipush (v := 61) dX7_next_295 (by decide) ?_
                        refine r_nicmp_ne (b := 61)  (tgt := 321) dX7_next_297 (by decide) rfl rfl (by omega) (by omega) (fun h297 => ?_) (fun h297 => ?_)
                        · refine r_vret dX7_next_321 rfl ?_
                          have hl : isLeB (b s) = false := by rw [← Bool.not_eq_true, hle]; omega
                          have hd : isDiB (b s) = false := by rw [← Bool.not_eq_true, hde]; omega
                          have hL := lexN_s hE hzs hl hd
                          have hsg : ¬ isSgB (b s) = true := fun h => by have h2 := of_decide_eq_true h; omega
                          rw [if_neg hsg] at hL
                          refine ⟨rfl, rfl, rfl, ((hF.u (k := 22) (v := nI s) (Or.inr (Or.inr rfl))).u (k := 21) (v := 4) (Or.inr (Or.inl rfl))), ?_⟩
                          rw [hL]
                          refine ⟨?_, Or.inr (Or.inr (Or.inr (Or.inr ⟨up2_at _ _ _ _, rfl⟩)))⟩
                          rw [up2_k _ _ (by decide), up2_at]
                        · refine r_aload_n dX7_next_300 rfl ?_
                          refine r_iconst (v := 3) dX7_next_301 (by decide) ?_
                          refine r_putI dX7_next_302 f_X7_138 (hsh.al rfl (by decide)) (Or.inl rfl) rfl ?_
                          refine r_aload_n dX7_next_305 rfl ?_
                          refine r_iload_n dX7_next_306 rfl ?_
                          refine r_zi2l dX7_next_307 (nz _) (by unfold inZ; omega) ?_
                          refine r_putJ dX7_next_308 f_X7_149 (hsh.al rfl (by decide)) (Or.inl rfl) rfl ?_
                          refine r_aload_n dX7_next_311 rfl ?_
                          refine r_dup dX7_next_312 rfl ?_
                          refine r_getIE dX7_next_313 f_X7_129 (hsh.al rfl (by decide)) (Or.inl rfl) ((up2_k _ _ (by decide)).trans ((up2_k _ _ (by decide)).trans ((up2_k _ _ (by decide)).trans q20))) ?_
                          refine r_iconst (v := 1) dX7_next_316 (by decide) ?_
                          refine r_niadd (b := 1) dX7_next_317 rfl rfl ?_
                          refine r_putI dX7_next_318 f_X7_129 (hsh.al rfl (by decide)) (Or.inl rfl) rfl ?_
                          refine r_vret dX7_next_321 rfl ?_
                          have hl : isLeB (b s) = false := by rw [← Bool.not_eq_true, hle]; omega
                          have hd : isDiB (b s) = false := by rw [← Bool.not_eq_true, hde]; omega
                          have hL := lexN_s hE hzs hl hd
                          have hsg : isSgB (b s) = true := decide_eq_true (by omega)
                          rw [if_pos hsg] at hL
                          refine ⟨rfl, rfl, rfl, (((hF.u (k := 22) (v := nI s) (Or.inr (Or.inr rfl))).u (k := 21) (v := 4) (Or.inr (Or.inl rfl))).u (Or.inr (Or.inl rfl))).u (Or.inl rfl), ?_⟩
                          rw [hL]
                          refine ⟨?_, Or.inr (Or.inr (Or.inr (Or.inl ⟨(up2_k _ _ (by decide)).trans (up2_at _ _ _ _), up2_at _ _ _ _, by show (40 : Int) ≤ (b s : Int); omega, by show (b s : Int) ≤ 61; omega, up2_at _ _ _ _⟩)))⟩
                          rw [up2_k _ _ (by decide), up2_k _ _ (by decide), up2_k _ _ (by decide), up2_at]
        · rw [decide_eq_true_eq] at h145
          refine r_aload_n dX7_next_148 rfl ?_
          refine r_iconst (v := 2) dX7_next_149 (by decide) ?_
          refine r_putI dX7_next_150 f_X7_138 (hsh.al rfl (by decide)) (Or.inl rfl) rfl ?_
          refine r_aload_n dX7_next_153 rfl ?_
          refine r_lconst (v := 0) dX7_next_154 (by decide) ?_
          refine r_putJ dX7_next_155 f_X7_149 (hsh.al rfl (by decide)) (Or.inl rfl) rfl ?_
          refine r_iconst (v := 0) dX7_next_158 (by decide) ?_
          refine r_istore_n dX7_next_159 (by decide) rfl ?_
          have hl : isLeB (b s) = false := by rw [← Bool.not_eq_true, hle]; omega
          have hd : isDiB (b s) = true := by rw [hde]; omega
          have e0 : (0 : Int32) = nI (s - s) := by rw [Nat.sub_self]; rfl
          rw [show (Value.int 0) = Value.int (nI (s - s)) by rw [← e0]]
          exact numb hzs hl hd (z - s) s _ _ _ (by omega) (Nat.le_refl _) rfl (fun j h1 h2 => absurd h1 (by omega)) (((hF.u (k := 22) (v := nI s) (Or.inr (Or.inr rfl))).u (k := 21) (v := 4) (Or.inr (Or.inl rfl))).u (Or.inr (Or.inl rfl))) ((up2_k _ _ (by decide)).trans ((up2_k _ _ (by decide)).trans ((up2_k _ _ (by decide)).trans q20))) (by rw [up2_k _ _ (by decide), up2_k _ _ (by decide), up2_at]) (by rw [up2_at, Nat.sub_self]; exact lI_z0)
      · rw [decide_eq_true_eq] at h92
        refine r_aload_n dX7_next_95 rfl ?_
        refine r_iconst (v := 1) dX7_next_96 (by decide) ?_
        refine r_putI dX7_next_97 f_X7_138 (hsh.al rfl (by decide)) (Or.inl rfl) rfl ?_
        have hl : isLeB (b s) = true := by rw [hle]; omega
        exact word hzs hl (z - s) s _ _ (by omega) (Nat.le_refl _) rfl (((hF.u (k := 22) (v := nI s) (Or.inr (Or.inr rfl))).u (k := 21) (v := 4) (Or.inr (Or.inl rfl))).u (Or.inr (Or.inl rfl))) ((up2_k _ _ (by decide)).trans ((up2_k _ _ (by decide)).trans ((up2_k _ _ (by decide)).trans q20))) (up2_at _ _ _ _) (by rw [up2_k _ _ (by decide), up2_k _ _ (by decide), up2_at])
    · refine r_aload_n dX7_next_65 rfl ?_
      refine r_iconst (v := 0) dX7_next_66 (by decide) ?_
      refine r_putI dX7_next_67 f_X7_138 (hsh.al rfl (by decide)) (Or.inl rfl) rfl ?_
      refine r_aload_n dX7_next_70 rfl ?_
      refine r_aload_n dX7_next_71 rfl ?_
      refine r_getIE dX7_next_72 f_X7_123 (hsh.al rfl (by decide)) (Or.inl rfl) (((up2_k _ _ (by decide)).trans ((up2_k _ _ (by decide)).trans ((up2_k _ _ (by decide)).trans hT2.1)))) ?_
      refine r_putI dX7_next_75 f_X7_135 (hsh.al rfl (by decide)) (Or.inl rfl) rfl ?_
      refine r_goto (tgt := 321) dX7_next_78 (by decide) ?_
      refine r_vret dX7_next_321 rfl ?_
      have hzs : z ≤ s := Nat.le_of_not_lt (fun h => by unfold byZ at h62; rw [if_pos h] at h62; omega)
      refine ⟨rfl, rfl, rfl, (((hF.u (k := 22) (v := nI s) (Or.inr (Or.inr rfl))).u (k := 21) (v := 4) (Or.inr (Or.inl rfl))).u (Or.inr (Or.inl rfl))).u (Or.inr (Or.inr rfl)), ?_⟩
      rw [lexN_e hE hzs]
      refine ⟨?_, Or.inl ⟨(up2_k _ _ (by decide)).trans (up2_at _ _ _ _), rfl⟩⟩
      rw [up2_at, show z = s by omega]
  have loop : ∀ q p2 I2, p2 + q = z → runW isWsB b q p2 = s → FrLx I I2 → I2 102 20 = nI p2 → Wp g (d + 1) mX7_next 0 [.ref 102, .null, .null] [] 0 0 n I2 J R (PostM n R none (fun I2 J2 => FrLx I I2 ∧ MRd I2 J2 b (lexN b z p))) := by
    intro q
    induction q with
    | zero =>
      intro p2 I2 hp hr hF q20
      have hT2 := hT.f hF
      have ep : p2 = s := hr
      have hb : byZ b z p2 = -1 := by unfold byZ; rw [if_neg (by omega)]
      refine r_aload_n dX7_next_0 rfl ?_
      refine r_aload_n dX7_next_1 rfl ?_
      refine r_getIE dX7_next_2 f_X7_129 (hsh.al rfl (by decide)) (Or.inl rfl) q20 ?_
      refine r_callV1I dX7_next_5 moX7_byteAt w_991 w_993 s_36 (hsh.al rfl (by decide)) cl7 rfl (Nat.le_of_ble_eq_true rfl) (Nat.le_of_ble_eq_true rfl) (S_byteAt hsh hT2 (i := p2) (by omega)) ?_
      refine r_bipush (v := 32) dX7_next_8 (by decide) ?_
      refine r_zicmp_eq (b := 32)  (tgt := 26) dX7_next_10 (by decide) rfl (by decide) (by unfold inZ; omega) (by unfold inZ; omega) (fun h10 => absurd h10 (by omega)) (fun h10 => ?_)
      refine r_aload_n dX7_next_13 rfl ?_
      refine r_aload_n dX7_next_14 rfl ?_
      refine r_getIE dX7_next_15 f_X7_129 (hsh.al rfl (by decide)) (Or.inl rfl) q20 ?_
      refine r_callV1I dX7_next_18 moX7_byteAt w_991 w_993 s_36 (hsh.al rfl (by decide)) cl7 rfl (Nat.le_of_ble_eq_true rfl) (Nat.le_of_ble_eq_true rfl) (S_byteAt hsh hT2 (i := p2) (by omega)) ?_
      refine r_bipush (v := 10) dX7_next_21 (by decide) ?_
      refine r_zicmp_ne (b := 10)  (tgt := 39) dX7_next_23 (by decide) rfl (by decide) (by unfold inZ; omega) (by unfold inZ; omega) (fun h23 => ?_) (fun h23 => absurd h23 (by omega))
      exact fin I2 hF (by rw [← ep]; exact q20)
    | succ q ih =>
      intro p2 I2 hp hr hF q20
      have hT2 := hT.f hF
      have hb : byZ b z p2 = (b p2 : Int) := by unfold byZ; rw [if_pos (by omega)]
      have hb2 := (hT.2.2.2.2 p2 (by omega)).2
      have hws := isWsB_iff (c := b p2)
      refine r_aload_n dX7_next_0 rfl ?_
      refine r_aload_n dX7_next_1 rfl ?_
      refine r_getIE dX7_next_2 f_X7_129 (hsh.al rfl (by decide)) (Or.inl rfl) q20 ?_
      refine r_callV1I dX7_next_5 moX7_byteAt w_991 w_993 s_36 (hsh.al rfl (by decide)) cl7 rfl (Nat.le_of_ble_eq_true rfl) (Nat.le_of_ble_eq_true rfl) (S_byteAt hsh hT2 (i := p2) (by omega)) ?_
      refine r_bipush (v := 32) dX7_next_8 (by decide) ?_
      refine r_zicmp_eq (b := 32)  (tgt := 26) dX7_next_10 (by decide) rfl (by decide) (by unfold inZ; omega) (by unfold inZ; omega) (fun h10 => ?_) (fun h10 => ?_)
      · refine r_aload_n dX7_next_26 rfl ?_
        refine r_dup dX7_next_27 rfl ?_
        refine r_getIE dX7_next_28 f_X7_129 (hsh.al rfl (by decide)) (Or.inl rfl) q20 ?_
        refine r_iconst (v := 1) dX7_next_31 (by decide) ?_
        refine r_niadd (b := 1) dX7_next_32 rfl rfl ?_
        refine r_putI dX7_next_33 f_X7_129 (hsh.al rfl (by decide)) (Or.inl rfl) rfl ?_
        refine r_goto (tgt := 0) dX7_next_36 (by decide) ?_
        have ht : isWsB (b p2) = true := by rw [hws]; omega
        exact ih (p2 + 1) _ (by omega) ((runW_t ht).symm.trans hr) (hF.u (Or.inl rfl)) (up2_at _ _ _ _)
      · refine r_aload_n dX7_next_13 rfl ?_
        refine r_aload_n dX7_next_14 rfl ?_
        refine r_getIE dX7_next_15 f_X7_129 (hsh.al rfl (by decide)) (Or.inl rfl) q20 ?_
        refine r_callV1I dX7_next_18 moX7_byteAt w_991 w_993 s_36 (hsh.al rfl (by decide)) cl7 rfl (Nat.le_of_ble_eq_true rfl) (Nat.le_of_ble_eq_true rfl) (S_byteAt hsh hT2 (i := p2) (by omega)) ?_
        refine r_bipush (v := 10) dX7_next_21 (by decide) ?_
        refine r_zicmp_ne (b := 10)  (tgt := 39) dX7_next_23 (by decide) rfl (by decide) (by unfold inZ; omega) (by unfold inZ; omega) (fun h23 => ?_) (fun h23 => ?_)
        · have hf : isWsB (b p2) = false := by rw [← Bool.not_eq_true, hws]; omega
          have ep : p2 = s := (runW_f hf).symm.trans hr
          exact fin I2 hF (by rw [← ep]; exact q20)
        · refine r_aload_n dX7_next_26 rfl ?_
          refine r_dup dX7_next_27 rfl ?_
          refine r_getIE dX7_next_28 f_X7_129 (hsh.al rfl (by decide)) (Or.inl rfl) q20 ?_
          refine r_iconst (v := 1) dX7_next_31 (by decide) ?_
          refine r_niadd (b := 1) dX7_next_32 rfl rfl ?_
          refine r_putI dX7_next_33 f_X7_129 (hsh.al rfl (by decide)) (Or.inl rfl) rfl ?_
          refine r_goto (tgt := 0) dX7_next_36 (by decide) ?_
          have ht : isWsB (b p2) = true := by rw [hws]; omega
          exact ih (p2 + 1) _ (by omega) ((runW_t ht).symm.trans hr) (hF.u (Or.inl rfl)) (up2_at _ _ _ _)
  exact loop (z - p) p I (by omega) hE FrLx.rf h20
