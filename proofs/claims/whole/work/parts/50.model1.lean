/-! the model: numbers in longs, its sky -/
def lI (z : Int) : Int64 := Int64.ofInt z
theorem lI_toInt {z : Int} (h : -9223372036854775808 ≤ z ∧ z < 9223372036854775808) : (lI z).toInt = z := by
  unfold lI
  rw [Int64.toInt_ofInt]
  obtain ⟨h1, h2⟩ := h
  exact Int.bmod_eq_of_le (by show -(((18446744073709551616 : Nat) : Int) / 2) ≤ z; omega) (by show z < (((18446744073709551616 : Nat) : Int) + 1) / 2; omega)
def inL (z : Int) : Prop := -9223372036854775808 ≤ z ∧ z < 9223372036854775808
theorem lI_lt {a b : Int} (ha : inL a) (hb : inL b) : lI a < lI b ↔ a < b := by rw [Int64.lt_iff_toInt_lt, lI_toInt ha, lI_toInt hb]
theorem lI_eq {a b : Int} (ha : inL a) (hb : inL b) : lI a = lI b ↔ a = b := by rw [← Int64.toInt_inj, lI_toInt ha, lI_toInt hb]
theorem inZ.l {z : Int} (h : inZ z) : inL z := by unfold inZ at h; unfold inL; omega
theorem zi2l {z : Int} (h : inZ z) : (zI z).toInt64 = lI z := by
  apply Int64.toInt_inj.mp
  rw [Int32.toInt_toInt64, zI_toInt h, lI_toInt h.l]
section XL
variable {g : GP} {d : Nat} {M : MD} {pc : Nat} {L st : List Value} {bc bs n : Nat} {I : TI} {J : TJ} {R : TR} {Q : TQ}
theorem r_zi2l {x : Int32} {a : Int} (hd : decode M.2.1 pc = .ok (.i2l, 1)) (hx : x = zI a) (ha : inZ a) (K : Wp g d M (pc + 1) L (.long (lI a) :: st) bc bs n I J R Q) : Wp g d M pc L (.int x :: st) bc bs n I J R Q := r_i2l hd (by rw [hx, zi2l ha]; exact K)
theorem r_topL {x v : Int64} (hv : x = v) (K : Wp g d M pc L (.long v :: st) bc bs n I J R Q) : Wp g d M pc L (.long x :: st) bc bs n I J R Q := by rw [hv]; exact K
theorem r_somL {v w : Int64} (h : v = w) (K : Wp g d M pc L (.long w :: st) bc bs n I J R Q) : Wp g d M pc L ((some (Value.long v)).toList ++ st) bc bs n I J R Q := by rw [h]; exact K
end XL
set_option maxRecDepth 20000 in
set_option maxHeartbeats 4000000 in
theorem S_in3 {g : GP} {d n : Nat} {I : TI} {J : TJ} {R : TR} {z lo hi : Int} {b c : Int64} (hz : inZ z) (hb : b = lI lo) (hc : c = lI hi) (h1 : inZ lo) (h2 : inZ hi) : Wp g d mX7_in 0 [.long (lI z), .null, .long b, .null, .long c, .null] [] 0 0 n I J R (RetI (b2i (decide (lo ≤ z ∧ z ≤ hi))) n I J R) := by
  subst hb hc
  have q1 := lI_lt hz.l h1.l
  have q2 := lI_lt h2.l hz.l
  refine r_lload_n dX7_in_0 rfl ?_
  refine r_lload_n dX7_in_1 rfl ?_
  refine r_lcmp dX7_in_2 ?_
  refine r_if_lt (tgt := 17) dX7_in_3 (by decide) (fun h3 => ?_) (fun h3 => ?_)
  · refine r_iconst (v := 0) dX7_in_17 (by decide) ?_
    refine r_bret (b := decide (lo ≤ z ∧ z ≤ hi)) dX7_in_18 rfl ?_ ?_
    · refine b2i_0 ?_
      have q3 := q1.mp ((lg_cmp_lt _ _).mp h3)
      exact decide_eq_false (by omega)
    · exact ⟨rfl, rfl, rfl, rfl, rfl⟩
  · refine r_lload_n dX7_in_6 rfl ?_
    refine r_lload dX7_in_7 rfl ?_
    refine r_lcmp dX7_in_9 ?_
    refine r_if_gt (tgt := 17) dX7_in_10 (by decide) (fun h10 => ?_) (fun h10 => ?_)
    · refine r_iconst (v := 0) dX7_in_17 (by decide) ?_
      refine r_bret (b := decide (lo ≤ z ∧ z ≤ hi)) dX7_in_18 rfl ?_ ?_
      · refine b2i_0 ?_
        have q3 := q2.mp ((lg_cmp_gt _ _).mp h10)
        exact decide_eq_false (by omega)
      · exact ⟨rfl, rfl, rfl, rfl, rfl⟩
    · refine r_iconst (v := 1) dX7_in_13 (by decide) ?_
      refine r_goto (tgt := 18) dX7_in_14 (by decide) ?_
      refine r_bret (b := decide (lo ≤ z ∧ z ≤ hi)) dX7_in_18 rfl ?_ ?_
      · refine b2i_1 ?_
        have q3 : ¬ z < lo := fun h => h3 ((lg_cmp_lt _ _).mpr (q1.mpr h))
        have q4 : ¬ hi < z := fun h => h10 ((lg_cmp_gt _ _).mpr (q2.mpr h))
        exact decide_eq_true (by omega)
      · exact ⟨rfl, rfl, rfl, rfl, rfl⟩
/-- the sky as the model has it, and what it says by it: clouds are let be where it bids so -/
def MdN (n : Nat) (I : TI) (R : TR) (dl : Nat → Nat) (tr : Nat → Nat → Nat) (sz rl : Nat) : Prop := Sh n R ∧ WF dl tr sz rl ∧ (∃ (cl : Bool) (dr : Nat → Nat), I 102 11 = b2i cl ∧ (∀ j, j < 8 → I 106 j = nI (dr j)) ∧ (∀ j, j < 8 → dr j ≤ dB j) ∧ dl 0 = dr 0 ∧ dl 5 = dr 5 ∧ dl 6 = dr 6 ∧ dl 7 = dr 7 ∧ ∀ k t, clN dl tr k t = (!cl && clN dr tr k t)) ∧ (∀ k, k < sz → I 107 k = nI (tr 5 k)) ∧ (∀ i k, i < 5 → k < sz → I 108 (5 * k + i) = nI (tr i k)) ∧ I 102 10 = nI sz ∧ I 102 4 = nI rl
section XMN
variable {n : Nat} {I I2 : TI} {R : TR} {dl : Nat → Nat} {tr : Nat → Nat → Nat} {sz rl : Nat}
theorem MdN.sh (h : MdN n I R dl tr sz rl) : Sh n R := h.1
theorem MdN.wf (h : MdN n I R dl tr sz rl) : WF dl tr sz rl := h.2.1
theorem MdN.kd (h : MdN n I R dl tr sz rl) {k : Nat} (hk : k < sz) : I 107 k = nI (tr 5 k) := h.2.2.2.1 k hk
theorem MdN.rw (h : MdN n I R dl tr sz rl) {i k : Nat} (hi : i < 5) (hk : k < sz) : I 108 (5 * k + i) = nI (tr i k) := h.2.2.2.2.1 i k hi hk
theorem MdN.many (h : MdN n I R dl tr sz rl) : I 102 10 = nI sz := h.2.2.2.2.2.1
theorem MdN.rule (h : MdN n I R dl tr sz rl) : I 102 4 = nI rl := h.2.2.2.2.2.2
theorem MdN.d0 (h : MdN n I R dl tr sz rl) : I 106 0 = nI (dl 0) := by obtain ⟨cl, dr, h1, h2, h3, h4, h5, h6, h7, h8⟩ := h.2.2.1; rw [h4]; exact h2 0 (by decide)
theorem MdN.d5 (h : MdN n I R dl tr sz rl) : I 106 5 = nI (dl 5) := by obtain ⟨cl, dr, h1, h2, h3, h4, h5, h6, h7, h8⟩ := h.2.2.1; rw [h5]; exact h2 5 (by decide)
theorem MdN.d6 (h : MdN n I R dl tr sz rl) : I 106 6 = nI (dl 6) := by obtain ⟨cl, dr, h1, h2, h3, h4, h5, h6, h7, h8⟩ := h.2.2.1; rw [h6]; exact h2 6 (by decide)
theorem MdN.d7 (h : MdN n I R dl tr sz rl) : I 106 7 = nI (dl 7) := by obtain ⟨cl, dr, h1, h2, h3, h4, h5, h6, h7, h8⟩ := h.2.2.1; rw [h7]; exact h2 7 (by decide)
theorem MdN.fr (h : MdN n I R dl tr sz rl) (h6 : I2 106 = I 106) (h7 : I2 107 = I 107) (h8 : I2 108 = I 108) (hF : ∀ k, k < 12 → I2 102 k = I 102 k) : MdN n I2 R dl tr sz rl := by
  obtain ⟨h1, h2, ⟨cl, dr, g1, g2⟩, h4, h5, h9, h10⟩ := h
  exact ⟨h1, h2, ⟨cl, dr, by rw [hF 11 (by decide)]; exact g1, by rw [h6]; exact g2⟩, fun k hk => by rw [h7]; exact h4 k hk, fun i k hi hk => by rw [h8]; exact h5 i k hi hk, by rw [hF 10 (by decide)]; exact h9, by rw [hF 4 (by decide)]; exact h10⟩
end XMN
theorem upN_iff {tr : Nat → Nat → Nat} {k t : Nat} (h5 : tr 5 k ≤ 5) : upN tr k t = true ↔ (tr 2 k ≤ t ∧ ((tr 5 k = 1 ∨ tr 5 k = 3) → t ≤ tr 3 k ∧ tr 2 k + tr 0 k ≤ t) ∧ ((tr 5 k = 2 ∨ tr 5 k = 4) → t ≤ tr 3 k + tr 0 k) ∧ (tr 5 k = 5 → t ≤ tr 3 k ∧ t % (tr 0 k + 2) ≠ 0) ∧ (tr 5 k = 0 → t ≤ tr 3 k)) := by
  unfold upN
  split
  · constructor
    · intro h; exact absurd h (by decide)
    · intro h; omega
  · split
    · rw [Bool.and_eq_true, decide_eq_true_eq, decide_eq_true_eq]
      constructor
      · intro h; exact ⟨by omega, fun _ => h, by omega, by omega, by omega⟩
      · intro h; exact h.2.1 (by assumption)
    · split
      · rw [decide_eq_true_eq]
        constructor
        · intro h; exact ⟨by omega, by omega, fun _ => h, by omega, by omega⟩
        · intro h; exact h.2.2.1 (by assumption)
      · split
        · rw [Bool.and_eq_true, decide_eq_true_eq, decide_eq_true_eq]
          constructor
          · intro h; exact ⟨by omega, by omega, by omega, fun _ => h, by omega⟩
          · intro h; exact h.2.2.2.1 (by assumption)
        · rw [decide_eq_true_eq]
          constructor
          · intro h; exact ⟨by omega, by omega, by omega, by omega, fun _ => h⟩
          · intro h; exact h.2.2.2.2 (by omega)
theorem clN_iff {dl : Nat → Nat} {tr : Nat → Nat → Nat} {k t : Nat} : clN dl tr k t = true ↔ (dl 1 ≤ tr 1 k % 10 ∧ tr 1 k % 10 ≤ dl 2 ∧ dl 3 ≤ t ∧ t ≤ dl 4) := by
  unfold clN
  rw [Bool.and_eq_true, Bool.and_eq_true, Bool.and_eq_true, decide_eq_true_eq, decide_eq_true_eq, decide_eq_true_eq, decide_eq_true_eq, and_assoc, and_assoc]
set_option maxRecDepth 20000 in
set_option maxHeartbeats 4000000 in
theorem S_mRow {g : GP} {d n : Nat} {I : TI} {J : TJ} {R : TR} {dl : Nat → Nat} {tr : Nat → Nat → Nat} {sz rl : Nat} (hN : MdN n I R dl tr sz rl) {k i : Nat} (hk : k < sz) (hi : i < 5) : Wp g d mX7_row 0 [.ref 102, .int (nI k), .int (nI i)] [] 0 0 n I J R (RetI (nI (tr i k)) n I J R) := by
  have hsh := hN.sh
  have wf := hN.wf
  have hz := wf.2.2.1
  refine r_aload_n dX7_row_0 rfl ?_
  refine r_getR (b := 108) dX7_row_1 f_X7_29 (hsh.al rfl (by decide)) (Or.inl ⟨_, rfl⟩) (hsh.r 102 9 108 (by decide)) (by decide) ?_
  refine r_iconst (v := 5) dX7_row_4 (by decide) ?_
  refine r_iload_n dX7_row_5 rfl ?_
  refine r_nimul (a := 5) dX7_row_6 rfl rfl ?_
  refine r_iload_n dX7_row_7 rfl ?_
  refine r_niadd dX7_row_8 rfl rfl ?_
  refine r_ialdE (j := (5 * k + i)) dX7_row_9 (hsh.al rfl (by decide)) (by omega) rfl (hN.rw hi hk) ?_
  refine r_iret dX7_row_10 rfl ?_
  exact retI rfl
set_option maxRecDepth 20000 in
set_option maxHeartbeats 4000000 in
theorem S_mIsSight {g : GP} {d n : Nat} {I : TI} {J : TJ} {R : TR} {sz : Nat} (hsh : Sh n R) (hI : I 102 10 = nI sz) (hz : sz ≤ 7) {a : Int} (ha : inZ a) : Wp g (d + 1) mX7_isSight 0 [.ref 102, .int (zI a)] [] 0 0 n I J R (RetI (b2i (decide (0 ≤ a ∧ a < sz))) n I J R) := by
  refine r_iload_n dX7_isSight_0 rfl ?_
  refine r_zi2l dX7_isSight_1 rfl ha ?_
  refine r_lconst (v := 0) dX7_isSight_2 (by decide) ?_
  refine r_aload_n dX7_isSight_3 rfl ?_
  refine r_getIE dX7_isSight_4 f_X7_70 (hsh.al rfl (by decide)) (Or.inl rfl) hI ?_
  refine r_iconst (v := 1) dX7_isSight_7 (by decide) ?_
  refine r_zisub (b := 1) dX7_isSight_8 (nz _) (by decide) ?_
  refine r_zi2l dX7_isSight_9 rfl (by unfold inZ; omega) ?_
  refine r_callS3I dX7_isSight_10 moX7_in w_930 w_931 (Nat.le_of_ble_eq_true rfl) (Nat.le_of_ble_eq_true rfl) (S_in3 (z := a) (lo := 0) (hi := ((sz : Nat) : Int) - 1) ha (by decide) rfl (by unfold inZ; omega) (by unfold inZ; omega)) ?_
  refine r_bret (b := decide (0 ≤ a ∧ a < sz)) dX7_isSight_13 rfl ?_ ?_
  · congr 1; exact decide_eq_decide.mpr (by omega)
  · exact ⟨rfl, rfl, rfl, rfl, rfl⟩
set_option maxRecDepth 20000 in
set_option maxHeartbeats 4000000 in
theorem S_mIsUp {g : GP} {d n : Nat} {I : TI} {J : TJ} {R : TR} {dl : Nat → Nat} {tr : Nat → Nat → Nat} {sz rl : Nat} (hN : MdN n I R dl tr sz rl) {k t : Nat} (hk : k < sz) (ht : t < 200) : Wp g (d + 1) mX7_isUp 0 [.ref 102, .int (nI k), .int (nI t), .null, .null, .null] [] 0 0 n I J R (RetI (b2i (upN tr k t)) n I J R) := by
  have hsh := hN.sh
  have wf := hN.wf
  have hz := wf.2.2.1
  have b0 := wf.t0 (k := k) (by omega)
  have b2 := wf.t2 (k := k) (by omega)
  have b3 := wf.t3 (k := k) (by omega)
  have b5 := wf.t5 (k := k) (by omega)
  have hu := upN_iff (t := t) b5
  refine r_aload_n dX7_isUp_0 rfl ?_
  refine r_getR (b := 107) dX7_isUp_1 f_X7_26 (hsh.al rfl (by decide)) (Or.inl ⟨_, rfl⟩) (hsh.r 102 8 107 (by decide)) (by decide) ?_
  refine r_iload_n dX7_isUp_4 rfl ?_
  refine r_ialdE (j := k) dX7_isUp_5 (hsh.al rfl (by decide)) (by omega) rfl (hN.kd hk) ?_
  refine r_istore_n dX7_isUp_6 (by decide) rfl ?_
  refine r_aload_n dX7_isUp_7 rfl ?_
  refine r_iload_n dX7_isUp_8 rfl ?_
  refine r_iconst (v := 0) dX7_isUp_9 (by decide) ?_
  refine r_callV2I dX7_isUp_10 moX7_row w_940 w_942 s_30 (hsh.al rfl (by decide)) cl7 rfl (Nat.le_of_ble_eq_true rfl) (Nat.le_of_ble_eq_true rfl) (S_mRow hN (k := k) (i := 0) (by omega) (by decide)) ?_
  refine r_istore dX7_isUp_13 (by decide) rfl ?_
  refine r_iload_n dX7_isUp_15 rfl ?_
  refine r_zi2l dX7_isUp_16 (nz _) (by unfold inZ; omega) ?_
  refine r_aload_n dX7_isUp_17 rfl ?_
  refine r_iload_n dX7_isUp_18 rfl ?_
  refine r_iconst (v := 2) dX7_isUp_19 (by decide) ?_
  refine r_callV2I dX7_isUp_20 moX7_row w_940 w_942 s_30 (hsh.al rfl (by decide)) cl7 rfl (Nat.le_of_ble_eq_true rfl) (Nat.le_of_ble_eq_true rfl) (S_mRow hN (k := k) (i := 2) (by omega) (by decide)) ?_
  refine r_zi2l dX7_isUp_23 (nz _) (by unfold inZ; omega) ?_
  refine r_aload_n dX7_isUp_24 rfl ?_
  refine r_iload_n dX7_isUp_25 rfl ?_
  refine r_iconst (v := 3) dX7_isUp_26 (by decide) ?_
  refine r_callV2I dX7_isUp_27 moX7_row w_940 w_942 s_30 (hsh.al rfl (by decide)) cl7 rfl (Nat.le_of_ble_eq_true rfl) (Nat.le_of_ble_eq_true rfl) (S_mRow hN (k := k) (i := 3) (by omega) (by decide)) ?_
  refine r_zi2l dX7_isUp_30 (nz _) (by unfold inZ; omega) ?_
  refine r_callS3I dX7_isUp_31 moX7_in w_930 w_931 (Nat.le_of_ble_eq_true rfl) (Nat.le_of_ble_eq_true rfl) (S_in3 (z := ((t : Nat) : Int)) (lo := ((tr 2 k : Nat) : Int)) (hi := ((tr 3 k : Nat) : Int)) (by unfold inZ; omega) rfl rfl (by unfold inZ; omega) (by unfold inZ; omega)) ?_
  refine r_istore dX7_isUp_34 (by decide) rfl ?_
  refine r_iload_n dX7_isUp_36 rfl ?_
  refine r_iconst (v := 1) dX7_isUp_37 (by decide) ?_
  refine r_nicmp_eq (b := 1)  (tgt := 46) dX7_isUp_38 (by decide) rfl rfl (by omega) (by omega) (fun h38 => ?_) (fun h38 => ?_)
  · refine r_iload dX7_isUp_46 rfl ?_
    refine r_ifb_eq (tgt := 68) dX7_isUp_48 (by decide) (fun h48 => ?_) (fun h48 => ?_)
    · rw [decide_eq_false_iff_not] at h48
      refine r_iconst (v := 0) dX7_isUp_68 (by decide) ?_
      refine r_bret (b := upN tr k t) dX7_isUp_69 rfl ?_ ?_
      · refine b2i_0 ?_
        rw [← Bool.not_eq_true, hu]
        omega
      · exact ⟨rfl, rfl, rfl, rfl, rfl⟩
    · rw [decide_eq_true_eq] at h48
      refine r_iload_n dX7_isUp_51 rfl ?_
      refine r_aload_n dX7_isUp_52 rfl ?_
      refine r_iload_n dX7_isUp_53 rfl ?_
      refine r_iconst (v := 2) dX7_isUp_54 (by decide) ?_
      refine r_callV2I dX7_isUp_55 moX7_row w_940 w_942 s_30 (hsh.al rfl (by decide)) cl7 rfl (Nat.le_of_ble_eq_true rfl) (Nat.le_of_ble_eq_true rfl) (S_mRow hN (k := k) (i := 2) (by omega) (by decide)) ?_
      refine r_iload dX7_isUp_58 rfl ?_
      refine r_niadd dX7_isUp_60 rfl rfl ?_
      refine r_nicmp_lt  (tgt := 68) dX7_isUp_61 (by decide) rfl rfl (by omega) (by omega) (fun h61 => ?_) (fun h61 => ?_)
      · refine r_iconst (v := 0) dX7_isUp_68 (by decide) ?_
        refine r_bret (b := upN tr k t) dX7_isUp_69 rfl ?_ ?_
        · refine b2i_0 ?_
          rw [← Bool.not_eq_true, hu]
          omega
        · exact ⟨rfl, rfl, rfl, rfl, rfl⟩
      · refine r_iconst (v := 1) dX7_isUp_64 (by decide) ?_
        refine r_goto (tgt := 69) dX7_isUp_65 (by decide) ?_
        refine r_bret (b := upN tr k t) dX7_isUp_69 rfl ?_ ?_
        · refine b2i_1 ?_
          rw [hu]
          omega
        · exact ⟨rfl, rfl, rfl, rfl, rfl⟩
  · refine r_iload_n dX7_isUp_41 rfl ?_
    refine r_iconst (v := 3) dX7_isUp_42 (by decide) ?_
    refine r_nicmp_ne (b := 3)  (tgt := 70) dX7_isUp_43 (by decide) rfl rfl (by omega) (by omega) (fun h43 => ?_) (fun h43 => ?_)
    · refine r_iload_n dX7_isUp_70 rfl ?_
      refine r_iconst (v := 2) dX7_isUp_71 (by decide) ?_
      refine r_nicmp_eq (b := 2)  (tgt := 80) dX7_isUp_72 (by decide) rfl rfl (by omega) (by omega) (fun h72 => ?_) (fun h72 => ?_)
      · refine r_iload_n dX7_isUp_80 rfl ?_
        refine r_zi2l dX7_isUp_81 (nz _) (by unfold inZ; omega) ?_
        refine r_aload_n dX7_isUp_82 rfl ?_
        refine r_iload_n dX7_isUp_83 rfl ?_
        refine r_iconst (v := 2) dX7_isUp_84 (by decide) ?_
        refine r_callV2I dX7_isUp_85 moX7_row w_940 w_942 s_30 (hsh.al rfl (by decide)) cl7 rfl (Nat.le_of_ble_eq_true rfl) (Nat.le_of_ble_eq_true rfl) (S_mRow hN (k := k) (i := 2) (by omega) (by decide)) ?_
        refine r_zi2l dX7_isUp_88 (nz _) (by unfold inZ; omega) ?_
        refine r_aload_n dX7_isUp_89 rfl ?_
        refine r_iload_n dX7_isUp_90 rfl ?_
        refine r_iconst (v := 3) dX7_isUp_91 (by decide) ?_
        refine r_callV2I dX7_isUp_92 moX7_row w_940 w_942 s_30 (hsh.al rfl (by decide)) cl7 rfl (Nat.le_of_ble_eq_true rfl) (Nat.le_of_ble_eq_true rfl) (S_mRow hN (k := k) (i := 3) (by omega) (by decide)) ?_
        refine r_iload dX7_isUp_95 rfl ?_
        refine r_niadd dX7_isUp_97 rfl rfl ?_
        refine r_zi2l dX7_isUp_98 (nz _) (by unfold inZ; omega) ?_
        refine r_callS3I dX7_isUp_99 moX7_in w_930 w_931 (Nat.le_of_ble_eq_true rfl) (Nat.le_of_ble_eq_true rfl) (S_in3 (z := ((t : Nat) : Int)) (lo := ((tr 2 k : Nat) : Int)) (hi := (((tr 3 k + tr 0 k : Nat)) : Int)) (by unfold inZ; omega) rfl rfl (by unfold inZ; omega) (by unfold inZ; omega)) ?_
        refine r_bret (b := upN tr k t) dX7_isUp_102 rfl ?_ ?_
        · congr 1
          rw [Bool.eq_iff_iff, decide_eq_true_eq, hu]
          omega
        · exact ⟨rfl, rfl, rfl, rfl, rfl⟩
      · refine r_iload_n dX7_isUp_75 rfl ?_
        refine r_iconst (v := 4) dX7_isUp_76 (by decide) ?_
        refine r_nicmp_ne (b := 4)  (tgt := 103) dX7_isUp_77 (by decide) rfl rfl (by omega) (by omega) (fun h77 => ?_) (fun h77 => ?_)
        · refine r_iload dX7_isUp_103 rfl ?_
          refine r_ifb_eq (tgt := 126) dX7_isUp_105 (by decide) (fun h105 => ?_) (fun h105 => ?_)
          · rw [decide_eq_false_iff_not] at h105
            refine r_iconst (v := 0) dX7_isUp_126 (by decide) ?_
            refine r_bret (b := upN tr k t) dX7_isUp_127 rfl ?_ ?_
            · refine b2i_0 ?_
              rw [← Bool.not_eq_true, hu]
              omega
            · exact ⟨rfl, rfl, rfl, rfl, rfl⟩
          · rw [decide_eq_true_eq] at h105
            refine r_iload_n dX7_isUp_108 rfl ?_
            refine r_iconst (v := 5) dX7_isUp_109 (by decide) ?_
            refine r_nicmp_ne (b := 5)  (tgt := 122) dX7_isUp_110 (by decide) rfl rfl (by omega) (by omega) (fun h110 => ?_) (fun h110 => ?_)
            · refine r_iconst (v := 1) dX7_isUp_122 (by decide) ?_
              refine r_goto (tgt := 127) dX7_isUp_123 (by decide) ?_
              refine r_bret (b := upN tr k t) dX7_isUp_127 rfl ?_ ?_
              · refine b2i_1 ?_
                rw [hu]
                omega
              · exact ⟨rfl, rfl, rfl, rfl, rfl⟩
            · refine r_iload_n dX7_isUp_113 rfl ?_
              refine r_iload dX7_isUp_114 rfl ?_
              refine r_iconst (v := 2) dX7_isUp_116 (by decide) ?_
              refine r_niadd (b := 2) dX7_isUp_117 rfl rfl ?_
              refine r_nirem dX7_isUp_118 rfl rfl (by omega) (by omega) (by omega) ?_
              refine r_zif_eq (tgt := 126) dX7_isUp_119 (by decide) (nz _) (by have := Nat.mod_lt t (show 0 < tr 0 k + 2 by omega); unfold inZ; omega) (fun h119 => ?_) (fun h119 => ?_)
              · refine r_iconst (v := 0) dX7_isUp_126 (by decide) ?_
                refine r_bret (b := upN tr k t) dX7_isUp_127 rfl ?_ ?_
                · refine b2i_0 ?_
                  rw [← Bool.not_eq_true, hu]
                  omega
                · exact ⟨rfl, rfl, rfl, rfl, rfl⟩
              · refine r_iconst (v := 1) dX7_isUp_122 (by decide) ?_
                refine r_goto (tgt := 127) dX7_isUp_123 (by decide) ?_
                refine r_bret (b := upN tr k t) dX7_isUp_127 rfl ?_ ?_
                · refine b2i_1 ?_
                  rw [hu]
                  omega
                · exact ⟨rfl, rfl, rfl, rfl, rfl⟩
        · refine r_iload_n dX7_isUp_80 rfl ?_
          refine r_zi2l dX7_isUp_81 (nz _) (by unfold inZ; omega) ?_
          refine r_aload_n dX7_isUp_82 rfl ?_
          refine r_iload_n dX7_isUp_83 rfl ?_
          refine r_iconst (v := 2) dX7_isUp_84 (by decide) ?_
          refine r_callV2I dX7_isUp_85 moX7_row w_940 w_942 s_30 (hsh.al rfl (by decide)) cl7 rfl (Nat.le_of_ble_eq_true rfl) (Nat.le_of_ble_eq_true rfl) (S_mRow hN (k := k) (i := 2) (by omega) (by decide)) ?_
          refine r_zi2l dX7_isUp_88 (nz _) (by unfold inZ; omega) ?_
          refine r_aload_n dX7_isUp_89 rfl ?_
          refine r_iload_n dX7_isUp_90 rfl ?_
          refine r_iconst (v := 3) dX7_isUp_91 (by decide) ?_
          refine r_callV2I dX7_isUp_92 moX7_row w_940 w_942 s_30 (hsh.al rfl (by decide)) cl7 rfl (Nat.le_of_ble_eq_true rfl) (Nat.le_of_ble_eq_true rfl) (S_mRow hN (k := k) (i := 3) (by omega) (by decide)) ?_
          refine r_iload dX7_isUp_95 rfl ?_
          refine r_niadd dX7_isUp_97 rfl rfl ?_
          refine r_zi2l dX7_isUp_98 (nz _) (by unfold inZ; omega) ?_
          refine r_callS3I dX7_isUp_99 moX7_in w_930 w_931 (Nat.le_of_ble_eq_true rfl) (Nat.le_of_ble_eq_true rfl) (S_in3 (z := ((t : Nat) : Int)) (lo := ((tr 2 k : Nat) : Int)) (hi := (((tr 3 k + tr 0 k : Nat)) : Int)) (by unfold inZ; omega) rfl rfl (by unfold inZ; omega) (by unfold inZ; omega)) ?_
          refine r_bret (b := upN tr k t) dX7_isUp_102 rfl ?_ ?_
          · congr 1
            rw [Bool.eq_iff_iff, decide_eq_true_eq, hu]
            omega
          · exact ⟨rfl, rfl, rfl, rfl, rfl⟩
    · refine r_iload dX7_isUp_46 rfl ?_
      refine r_ifb_eq (tgt := 68) dX7_isUp_48 (by decide) (fun h48 => ?_) (fun h48 => ?_)
      · rw [decide_eq_false_iff_not] at h48
        refine r_iconst (v := 0) dX7_isUp_68 (by decide) ?_
        refine r_bret (b := upN tr k t) dX7_isUp_69 rfl ?_ ?_
        · refine b2i_0 ?_
          rw [← Bool.not_eq_true, hu]
          omega
        · exact ⟨rfl, rfl, rfl, rfl, rfl⟩
      · rw [decide_eq_true_eq] at h48
        refine r_iload_n dX7_isUp_51 rfl ?_
        refine r_aload_n dX7_isUp_52 rfl ?_
        refine r_iload_n dX7_isUp_53 rfl ?_
        refine r_iconst (v := 2) dX7_isUp_54 (by decide) ?_
        refine r_callV2I dX7_isUp_55 moX7_row w_940 w_942 s_30 (hsh.al rfl (by decide)) cl7 rfl (Nat.le_of_ble_eq_true rfl) (Nat.le_of_ble_eq_true rfl) (S_mRow hN (k := k) (i := 2) (by omega) (by decide)) ?_
        refine r_iload dX7_isUp_58 rfl ?_
        refine r_niadd dX7_isUp_60 rfl rfl ?_
        refine r_nicmp_lt  (tgt := 68) dX7_isUp_61 (by decide) rfl rfl (by omega) (by omega) (fun h61 => ?_) (fun h61 => ?_)
        · refine r_iconst (v := 0) dX7_isUp_68 (by decide) ?_
          refine r_bret (b := upN tr k t) dX7_isUp_69 rfl ?_ ?_
          · refine b2i_0 ?_
            rw [← Bool.not_eq_true, hu]
            omega
          · exact ⟨rfl, rfl, rfl, rfl, rfl⟩
        · refine r_iconst (v := 1) dX7_isUp_64 (by decide) ?_
          refine r_goto (tgt := 69) dX7_isUp_65 (by decide) ?_
          refine r_bret (b := upN tr k t) dX7_isUp_69 rfl ?_ ?_
          · refine b2i_1 ?_
            rw [hu]
            omega
          · exact ⟨rfl, rfl, rfl, rfl, rfl⟩
set_option maxRecDepth 20000 in
set_option maxHeartbeats 4000000 in
theorem S_mIsCl {g : GP} {d n : Nat} {I : TI} {J : TJ} {R : TR} {dl : Nat → Nat} {tr : Nat → Nat → Nat} {sz rl : Nat} (hN : MdN n I R dl tr sz rl) {k t : Nat} (hk : k < sz) (ht : t < 100000) : Wp g (d + 1) mX7_isClouded 0 [.ref 102, .int (nI k), .int (nI t)] [] 0 0 n I J R (RetI (b2i (clN dl tr k t)) n I J R) := by
  have hsh := hN.sh
  have wf := hN.wf
  have hz := wf.2.2.1
  have b1 := wf.t1 (k := k) (by omega)
  obtain ⟨cl, dr, h1, h2, h3, _, _, _, _, h8⟩ := hN.2.2.1
  have h8 := h8 k t
  have hu := clN_iff (dl := dr) (tr := tr) (k := k) (t := t)
  have m1 : dr 1 ≤ 9 := h3 1 (by decide)
  have m2 : dr 2 ≤ 9 := h3 2 (by decide)
  have m3 : dr 3 ≤ 199 := h3 3 (by decide)
  have m4 : dr 4 ≤ 199 := h3 4 (by decide)
  refine r_aload_n dX7_isClouded_0 rfl ?_
  refine r_getIE dX7_isClouded_1 f_X7_105 (hsh.al rfl (by decide)) (Or.inr rfl) h1 ?_
  refine r_ifb_ne (tgt := 63) dX7_isClouded_4 (by decide) (fun h4 => ?_) (fun h4 => ?_)
  · refine r_iconst (v := 0) dX7_isClouded_63 (by decide) ?_
    refine r_bret (b := clN dl tr k t) dX7_isClouded_64 rfl ?_ ?_
    · refine b2i_0 ?_
      rw [h8, h4]; rfl
    · exact ⟨rfl, rfl, rfl, rfl, rfl⟩
  · refine r_aload_n dX7_isClouded_7 rfl ?_
    refine r_iload_n dX7_isClouded_8 rfl ?_
    refine r_iconst (v := 1) dX7_isClouded_9 (by decide) ?_
    refine r_callV2I dX7_isClouded_10 moX7_row w_940 w_942 s_30 (hsh.al rfl (by decide)) cl7 rfl (Nat.le_of_ble_eq_true rfl) (Nat.le_of_ble_eq_true rfl) (S_mRow hN (k := k) (i := 1) (by omega) (by decide)) ?_
    refine r_bipush (v := 10) dX7_isClouded_13 (by decide) ?_
    refine r_nirem (b := 10) dX7_isClouded_15 rfl rfl (by omega) (by omega) (by omega) ?_
    refine r_zi2l dX7_isClouded_16 (nz _) (by unfold inZ; omega) ?_
    refine r_aload_n dX7_isClouded_17 rfl ?_
    refine r_getR (b := 106) dX7_isClouded_18 f_X7_23 (hsh.al rfl (by decide)) (Or.inl ⟨_, rfl⟩) (hsh.r 102 7 106 (by decide)) (by decide) ?_
    refine r_iconst (v := 1) dX7_isClouded_21 (by decide) ?_
    refine r_ialdE (j := 1) dX7_isClouded_22 (hsh.al rfl (by decide)) (by decide) (by decide) (h2 1 (by decide)) ?_
    refine r_zi2l dX7_isClouded_23 (nz _) (by unfold inZ; omega) ?_
    refine r_aload_n dX7_isClouded_24 rfl ?_
    refine r_getR (b := 106) dX7_isClouded_25 f_X7_23 (hsh.al rfl (by decide)) (Or.inl ⟨_, rfl⟩) (hsh.r 102 7 106 (by decide)) (by decide) ?_
    refine r_iconst (v := 2) dX7_isClouded_28 (by decide) ?_
    refine r_ialdE (j := 2) dX7_isClouded_29 (hsh.al rfl (by decide)) (by decide) (by decide) (h2 2 (by decide)) ?_
    refine r_zi2l dX7_isClouded_30 (nz _) (by unfold inZ; omega) ?_
    refine r_callS3I dX7_isClouded_31 moX7_in w_930 w_931 (Nat.le_of_ble_eq_true rfl) (Nat.le_of_ble_eq_true rfl) (S_in3 (z := ((tr 1 k % 10 : Nat) : Int)) (lo := ((dr 1 : Nat) : Int)) (hi := ((dr 2 : Nat) : Int)) (by unfold inZ; omega) rfl rfl (by unfold inZ; omega) (by unfold inZ; omega)) ?_
    refine r_ifb_eq (tgt := 63) dX7_isClouded_34 (by decide) (fun h34 => ?_) (fun h34 => ?_)
    · rw [decide_eq_false_iff_not] at h34
      refine r_iconst (v := 0) dX7_isClouded_63 (by decide) ?_
      refine r_bret (b := clN dl tr k t) dX7_isClouded_64 rfl ?_ ?_
      · refine b2i_0 ?_
        rw [h8, h4]
        show clN dr tr k t = false
        rw [← Bool.not_eq_true, hu]
        omega
      · exact ⟨rfl, rfl, rfl, rfl, rfl⟩
    · rw [decide_eq_true_eq] at h34
      refine r_iload_n dX7_isClouded_37 rfl ?_
      refine r_zi2l dX7_isClouded_38 (nz _) (by unfold inZ; omega) ?_
      refine r_aload_n dX7_isClouded_39 rfl ?_
      refine r_getR (b := 106) dX7_isClouded_40 f_X7_23 (hsh.al rfl (by decide)) (Or.inl ⟨_, rfl⟩) (hsh.r 102 7 106 (by decide)) (by decide) ?_
      refine r_iconst (v := 3) dX7_isClouded_43 (by decide) ?_
      refine r_ialdE (j := 3) dX7_isClouded_44 (hsh.al rfl (by decide)) (by decide) (by decide) (h2 3 (by decide)) ?_
      refine r_zi2l dX7_isClouded_45 (nz _) (by unfold inZ; omega) ?_
      refine r_aload_n dX7_isClouded_46 rfl ?_
      refine r_getR (b := 106) dX7_isClouded_47 f_X7_23 (hsh.al rfl (by decide)) (Or.inl ⟨_, rfl⟩) (hsh.r 102 7 106 (by decide)) (by decide) ?_
      refine r_iconst (v := 4) dX7_isClouded_50 (by decide) ?_
      refine r_ialdE (j := 4) dX7_isClouded_51 (hsh.al rfl (by decide)) (by decide) (by decide) (h2 4 (by decide)) ?_
      refine r_zi2l dX7_isClouded_52 (nz _) (by unfold inZ; omega) ?_
      refine r_callS3I dX7_isClouded_53 moX7_in w_930 w_931 (Nat.le_of_ble_eq_true rfl) (Nat.le_of_ble_eq_true rfl) (S_in3 (z := ((t : Nat) : Int)) (lo := ((dr 3 : Nat) : Int)) (hi := ((dr 4 : Nat) : Int)) (by unfold inZ; omega) rfl rfl (by unfold inZ; omega) (by unfold inZ; omega)) ?_
      refine r_ifb_eq (tgt := 63) dX7_isClouded_56 (by decide) (fun h56 => ?_) (fun h56 => ?_)
      · rw [decide_eq_false_iff_not] at h56
        refine r_iconst (v := 0) dX7_isClouded_63 (by decide) ?_
        refine r_bret (b := clN dl tr k t) dX7_isClouded_64 rfl ?_ ?_
        · refine b2i_0 ?_
          rw [h8, h4]
          show clN dr tr k t = false
          rw [← Bool.not_eq_true, hu]
          omega
        · exact ⟨rfl, rfl, rfl, rfl, rfl⟩
      · rw [decide_eq_true_eq] at h56
        refine r_iconst (v := 1) dX7_isClouded_59 (by decide) ?_
        refine r_goto (tgt := 64) dX7_isClouded_60 (by decide) ?_
        refine r_bret (b := clN dl tr k t) dX7_isClouded_64 rfl ?_ ?_
        · refine b2i_1 ?_
          rw [h8, h4]
          show clN dr tr k t = true
          rw [hu]
          omega
        · exact ⟨rfl, rfl, rfl, rfl, rfl⟩
set_option maxRecDepth 20000 in
set_option maxHeartbeats 4000000 in
theorem S_mPays {g : GP} {d n : Nat} {I : TI} {J : TJ} {R : TR} {dl : Nat → Nat} {tr : Nat → Nat → Nat} {sz rl : Nat} (hN : MdN n I R dl tr sz rl) {k : Nat} (hk : k < sz) : Wp g (d + 1) mX7_paysOf 0 [.ref 102, .int (nI k), .null, .null] [] 0 0 n I J R (RetI (nI (payN tr k)) n I J R) := by
  have hsh := hN.sh
  have wf := hN.wf
  have hz := wf.2.2.1
  have b0 := wf.t0 (k := k) (by omega)
  have b4 := wf.t4 (k := k) (by omega)
  have b5 := wf.t5 (k := k) (by omega)
  refine r_aload_n dX7_paysOf_0 rfl ?_
  refine r_getR (b := 107) dX7_paysOf_1 f_X7_26 (hsh.al rfl (by decide)) (Or.inl ⟨_, rfl⟩) (hsh.r 102 8 107 (by decide)) (by decide) ?_
  refine r_iload_n dX7_paysOf_4 rfl ?_
  refine r_ialdE (j := k) dX7_paysOf_5 (hsh.al rfl (by decide)) (by omega) rfl (hN.kd hk) ?_
  refine r_istore_n dX7_paysOf_6 (by decide) rfl ?_
  refine r_aload_n dX7_paysOf_7 rfl ?_
  refine r_iload_n dX7_paysOf_8 rfl ?_
  refine r_iconst (v := 4) dX7_paysOf_9 (by decide) ?_
  refine r_callV2I dX7_paysOf_10 moX7_row w_940 w_942 s_30 (hsh.al rfl (by decide)) cl7 rfl (Nat.le_of_ble_eq_true rfl) (Nat.le_of_ble_eq_true rfl) (S_mRow hN (k := k) (i := 4) (by omega) (by decide)) ?_
  refine r_aload_n dX7_paysOf_13 rfl ?_
  refine r_iload_n dX7_paysOf_14 rfl ?_
  refine r_iconst (v := 0) dX7_paysOf_15 (by decide) ?_
  refine r_callV2I dX7_paysOf_16 moX7_row w_940 w_942 s_30 (hsh.al rfl (by decide)) cl7 rfl (Nat.le_of_ble_eq_true rfl) (Nat.le_of_ble_eq_true rfl) (S_mRow hN (k := k) (i := 0) (by omega) (by decide)) ?_
  refine r_niadd dX7_paysOf_19 rfl rfl ?_
  refine r_istore_n dX7_paysOf_20 (by decide) rfl ?_
  refine r_iload_n dX7_paysOf_21 rfl ?_
  refine r_iconst (v := 1) dX7_paysOf_22 (by decide) ?_
  refine r_nicmp_ne (b := 1)  (tgt := 30) dX7_paysOf_23 (by decide) rfl rfl (by omega) (by omega) (fun h23 => ?_) (fun h23 => ?_)
  · refine r_iload_n dX7_paysOf_30 rfl ?_
    refine r_iconst (v := 3) dX7_paysOf_31 (by decide) ?_
    refine r_nicmp_ne (b := 3)  (tgt := 41) dX7_paysOf_32 (by decide) rfl rfl (by omega) (by omega) (fun h32 => ?_) (fun h32 => ?_)
    · refine r_iload_n dX7_paysOf_41 rfl ?_
      refine r_iconst (v := 4) dX7_paysOf_42 (by decide) ?_
      refine r_nicmp_ne (b := 4)  (tgt := 57) dX7_paysOf_43 (by decide) rfl rfl (by omega) (by omega) (fun h43 => ?_) (fun h43 => ?_)
      · refine r_aload_n dX7_paysOf_57 rfl ?_
        refine r_iload_n dX7_paysOf_58 rfl ?_
        refine r_iconst (v := 4) dX7_paysOf_59 (by decide) ?_
        refine r_callV2I dX7_paysOf_60 moX7_row w_940 w_942 s_30 (hsh.al rfl (by decide)) cl7 rfl (Nat.le_of_ble_eq_true rfl) (Nat.le_of_ble_eq_true rfl) (S_mRow hN (k := k) (i := 4) (by omega) (by decide)) ?_
        refine r_iret dX7_paysOf_63 rfl ?_
        exact retI (by unfold payN; rw [if_neg h23, if_neg h32, if_neg h43])
      · refine r_aload_n dX7_paysOf_46 rfl ?_
        refine r_iload_n dX7_paysOf_47 rfl ?_
        refine r_iconst (v := 4) dX7_paysOf_48 (by decide) ?_
        refine r_callV2I dX7_paysOf_49 moX7_row w_940 w_942 s_30 (hsh.al rfl (by decide)) cl7 rfl (Nat.le_of_ble_eq_true rfl) (Nat.le_of_ble_eq_true rfl) (S_mRow hN (k := k) (i := 4) (by omega) (by decide)) ?_
        refine r_iconst (v := 1) dX7_paysOf_52 (by decide) ?_
        refine r_niadd (b := 1) dX7_paysOf_53 rfl rfl ?_
        refine r_goto (tgt := 63) dX7_paysOf_54 (by decide) ?_
        refine r_iret dX7_paysOf_63 rfl ?_
        exact retI (by unfold payN; rw [if_neg h23, if_neg h32, if_pos h43])
    · refine r_iconst (v := 2) dX7_paysOf_35 (by decide) ?_
      refine r_iload_n dX7_paysOf_36 rfl ?_
      refine r_nimul (a := 2) dX7_paysOf_37 rfl rfl ?_
      refine r_goto (tgt := 63) dX7_paysOf_38 (by decide) ?_
      refine r_iret dX7_paysOf_63 rfl ?_
      exact retI (by unfold payN; rw [if_neg h23, if_pos h32])
  · refine r_iload_n dX7_paysOf_26 rfl ?_
    refine r_goto (tgt := 63) dX7_paysOf_27 (by decide) ?_
    refine r_iret dX7_paysOf_63 rfl ?_
    exact retI (by unfold payN; rw [if_pos h23])
set_option maxRecDepth 20000 in
set_option maxHeartbeats 4000000 in
theorem S_mNeeds {g : GP} {d n : Nat} {I : TI} {J : TJ} {R : TR} {dl : Nat → Nat} {tr : Nat → Nat → Nat} {sz rl : Nat} (hN : MdN n I R dl tr sz rl) {k v : Nat} (hk : k < sz) (hv : v ≤ 99) : Wp g (d + 1) mX7_needsOf 0 [.ref 102, .int (nI k), .int (nI v), .null, .null] [] 0 0 n I J R (RetI (nI (needN dl tr k v)) n I J R) := by
  have hsh := hN.sh
  have wf := hN.wf
  have hz := wf.2.2.1
  have b0 := wf.t0 (k := k) (by omega)
  have b5 := wf.t5 (k := k) (by omega)
  have m0 := wf.d0
  refine r_aload_n dX7_needsOf_0 rfl ?_
  refine r_getR (b := 107) dX7_needsOf_1 f_X7_26 (hsh.al rfl (by decide)) (Or.inl ⟨_, rfl⟩) (hsh.r 102 8 107 (by decide)) (by decide) ?_
  refine r_iload_n dX7_needsOf_4 rfl ?_
  refine r_ialdE (j := k) dX7_needsOf_5 (hsh.al rfl (by decide)) (by omega) rfl (hN.kd hk) ?_
  refine r_istore_n dX7_needsOf_6 (by decide) rfl ?_
  refine r_iload_n dX7_needsOf_7 rfl ?_
  refine r_iconst (v := 1) dX7_needsOf_8 (by decide) ?_
  refine r_nicmp_ne (b := 1)  (tgt := 23) dX7_needsOf_9 (by decide) rfl rfl (by omega) (by omega) (fun h9 => ?_) (fun h9 => ?_)
  · refine r_iload_n dX7_needsOf_23 rfl ?_
    refine r_iconst (v := 3) dX7_needsOf_24 (by decide) ?_
    refine r_nicmp_ne (b := 3)  (tgt := 41) dX7_needsOf_25 (by decide) rfl rfl (by omega) (by omega) (fun h25 => ?_) (fun h25 => ?_)
    · refine r_iload_n dX7_needsOf_41 rfl ?_
      refine r_iconst (v := 2) dX7_needsOf_42 (by decide) ?_
      refine r_nicmp_ne (b := 2)  (tgt := 52) dX7_needsOf_43 (by decide) rfl rfl (by omega) (by omega) (fun h43 => ?_) (fun h43 => ?_)
      · refine r_iload_n dX7_needsOf_52 rfl ?_
        refine r_iconst (v := 4) dX7_needsOf_53 (by decide) ?_
        refine r_nicmp_ne (b := 4)  (tgt := 70) dX7_needsOf_54 (by decide) rfl rfl (by omega) (by omega) (fun h54 => ?_) (fun h54 => ?_)
        · refine r_iload_n dX7_needsOf_70 rfl ?_
          refine r_istore dX7_needsOf_71 (by decide) rfl ?_
          refine r_iload dX7_needsOf_73 rfl ?_
          refine r_iconst (v := 1) dX7_needsOf_75 (by decide) ?_
          refine r_nicmp_ge (b := 1)  (tgt := 83) dX7_needsOf_76 (by decide) rfl rfl (by omega) (by omega) (fun h76 => ?_) (fun h76 => ?_)
          · refine r_iload dX7_needsOf_83 rfl ?_
            refine r_iret dX7_needsOf_85 rfl ?_
            refine retI ?_
            unfold needN
            simp only
            rw [if_neg h9, if_neg h43, if_neg h25, if_neg h54]
            first | rw [if_pos (by omega)]; rfl | rw [if_neg (by omega)]
          · refine r_iconst (v := 1) dX7_needsOf_79 (by decide) ?_
            refine r_goto (tgt := 85) dX7_needsOf_80 (by decide) ?_
            refine r_iret dX7_needsOf_85 rfl ?_
            refine retI ?_
            unfold needN
            simp only
            rw [if_neg h9, if_neg h43, if_neg h25, if_neg h54]
            first | rw [if_pos (by omega)]; rfl | rw [if_neg (by omega)]
        · refine r_iload_n dX7_needsOf_57 rfl ?_
          refine r_iconst (v := 2) dX7_needsOf_58 (by decide) ?_
          refine r_nidiv (b := 2) dX7_needsOf_59 rfl rfl (by omega) (by omega) (by omega) ?_
          refine r_aload_n dX7_needsOf_60 rfl ?_
          refine r_iload_n dX7_needsOf_61 rfl ?_
          refine r_iconst (v := 0) dX7_needsOf_62 (by decide) ?_
          refine r_callV2I dX7_needsOf_63 moX7_row w_940 w_942 s_30 (hsh.al rfl (by decide)) cl7 rfl (Nat.le_of_ble_eq_true rfl) (Nat.le_of_ble_eq_true rfl) (S_mRow hN (k := k) (i := 0) (by omega) (by decide)) ?_
          refine r_niadd dX7_needsOf_66 rfl rfl ?_
          refine r_goto (tgt := 71) dX7_needsOf_67 (by decide) ?_
          refine r_istore dX7_needsOf_71 (by decide) rfl ?_
          refine r_iload dX7_needsOf_73 rfl ?_
          refine r_iconst (v := 1) dX7_needsOf_75 (by decide) ?_
          refine r_nicmp_ge (b := 1)  (tgt := 83) dX7_needsOf_76 (by decide) rfl rfl (by omega) (by omega) (fun h76 => ?_) (fun h76 => ?_)
          · refine r_iload dX7_needsOf_83 rfl ?_
            refine r_iret dX7_needsOf_85 rfl ?_
            refine retI ?_
            unfold needN
            simp only
            rw [if_neg h9, if_neg h43, if_neg h25, if_pos h54]
            first | rw [if_pos (by omega)]; rfl | rw [if_neg (by omega)]
          · refine r_iconst (v := 1) dX7_needsOf_79 (by decide) ?_
            refine r_goto (tgt := 85) dX7_needsOf_80 (by decide) ?_
            refine r_iret dX7_needsOf_85 rfl ?_
            refine retI ?_
            unfold needN
            simp only
            rw [if_neg h9, if_neg h43, if_neg h25, if_pos h54]
            first | rw [if_pos (by omega)]; rfl | rw [if_neg (by omega)]
      · refine r_iload_n dX7_needsOf_46 rfl ?_
        refine r_iconst (v := 2) dX7_needsOf_47 (by decide) ?_
        refine r_nidiv (b := 2) dX7_needsOf_48 rfl rfl (by omega) (by omega) (by omega) ?_
        refine r_goto (tgt := 71) dX7_needsOf_49 (by decide) ?_
        refine r_istore dX7_needsOf_71 (by decide) rfl ?_
        refine r_iload dX7_needsOf_73 rfl ?_
        refine r_iconst (v := 1) dX7_needsOf_75 (by decide) ?_
        refine r_nicmp_ge (b := 1)  (tgt := 83) dX7_needsOf_76 (by decide) rfl rfl (by omega) (by omega) (fun h76 => ?_) (fun h76 => ?_)
        · refine r_iload dX7_needsOf_83 rfl ?_
          refine r_iret dX7_needsOf_85 rfl ?_
          refine retI ?_
          unfold needN
          simp only
          rw [if_neg h9, if_pos h43]
          first | rw [if_pos (by omega)]; rfl | rw [if_neg (by omega)]
        · refine r_iconst (v := 1) dX7_needsOf_79 (by decide) ?_
          refine r_goto (tgt := 85) dX7_needsOf_80 (by decide) ?_
          refine r_iret dX7_needsOf_85 rfl ?_
          refine retI ?_
          unfold needN
          simp only
          rw [if_neg h9, if_pos h43]
          first | rw [if_pos (by omega)]; rfl | rw [if_neg (by omega)]
    · refine r_iconst (v := 2) dX7_needsOf_28 (by decide) ?_
      refine r_iload_n dX7_needsOf_29 rfl ?_
      refine r_aload_n dX7_needsOf_30 rfl ?_
      refine r_getR (b := 106) dX7_needsOf_31 f_X7_23 (hsh.al rfl (by decide)) (Or.inl ⟨_, rfl⟩) (hsh.r 102 7 106 (by decide)) (by decide) ?_
      refine r_iconst (v := 0) dX7_needsOf_34 (by decide) ?_
      refine r_ialdE (j := 0) dX7_needsOf_35 (hsh.al rfl (by decide)) (by decide) (by decide) hN.d0 ?_
      refine r_niadd dX7_needsOf_36 rfl rfl ?_
      refine r_nimul (a := 2) dX7_needsOf_37 rfl rfl ?_
      refine r_goto (tgt := 71) dX7_needsOf_38 (by decide) ?_
      refine r_istore dX7_needsOf_71 (by decide) rfl ?_
      refine r_iload dX7_needsOf_73 rfl ?_
      refine r_iconst (v := 1) dX7_needsOf_75 (by decide) ?_
      refine r_nicmp_ge (b := 1)  (tgt := 83) dX7_needsOf_76 (by decide) rfl rfl (by omega) (by omega) (fun h76 => ?_) (fun h76 => ?_)
      · refine r_iload dX7_needsOf_83 rfl ?_
        refine r_iret dX7_needsOf_85 rfl ?_
        refine retI ?_
        unfold needN
        simp only
        rw [if_neg h9, if_neg (show ¬ tr 5 k = 2 by omega), if_pos h25]
        first | rw [if_pos (by omega)]; rfl | rw [if_neg (by omega)]
      · refine r_iconst (v := 1) dX7_needsOf_79 (by decide) ?_
        refine r_goto (tgt := 85) dX7_needsOf_80 (by decide) ?_
        refine r_iret dX7_needsOf_85 rfl ?_
        refine retI ?_
        unfold needN
        simp only
        rw [if_neg h9, if_neg (show ¬ tr 5 k = 2 by omega), if_pos h25]
        first | rw [if_pos (by omega)]; rfl | rw [if_neg (by omega)]
  · refine r_iload_n dX7_needsOf_12 rfl ?_
    refine r_aload_n dX7_needsOf_13 rfl ?_
    refine r_getR (b := 106) dX7_needsOf_14 f_X7_23 (hsh.al rfl (by decide)) (Or.inl ⟨_, rfl⟩) (hsh.r 102 7 106 (by decide)) (by decide) ?_
    refine r_iconst (v := 0) dX7_needsOf_17 (by decide) ?_
    refine r_ialdE (j := 0) dX7_needsOf_18 (hsh.al rfl (by decide)) (by decide) (by decide) hN.d0 ?_
    refine r_niadd dX7_needsOf_19 rfl rfl ?_
    refine r_goto (tgt := 71) dX7_needsOf_20 (by decide) ?_
    refine r_istore dX7_needsOf_71 (by decide) rfl ?_
    refine r_iload dX7_needsOf_73 rfl ?_
    refine r_iconst (v := 1) dX7_needsOf_75 (by decide) ?_
    refine r_nicmp_ge (b := 1)  (tgt := 83) dX7_needsOf_76 (by decide) rfl rfl (by omega) (by omega) (fun h76 => ?_) (fun h76 => ?_)
    · refine r_iload dX7_needsOf_83 rfl ?_
      refine r_iret dX7_needsOf_85 rfl ?_
      refine retI ?_
      unfold needN
      simp only
      rw [if_pos h9]
      first | rw [if_pos (by omega)]; rfl | rw [if_neg (by omega)]
    · refine r_iconst (v := 1) dX7_needsOf_79 (by decide) ?_
      refine r_goto (tgt := 85) dX7_needsOf_80 (by decide) ?_
      refine r_iret dX7_needsOf_85 rfl ?_
      refine retI ?_
      unfold needN
      simp only
      rw [if_pos h9]
      first | rw [if_pos (by omega)]; rfl | rw [if_neg (by omega)]
set_option maxRecDepth 20000 in
set_option maxHeartbeats 4000000 in
theorem S_mFar {g : GP} {d n : Nat} {I : TI} {J : TJ} {R : TR} {a b : Nat} (ha : a < 1000) (hb : b < 1000) : Wp g d mX7_farOf 0 [.int (nI a), .int (nI b), .null, .null, .null, .null] [] 0 0 n I J R (RetI (nI (farN a b)) n I J R) := by
  generalize hX : (((a % 10 : Nat) : Int) - ((b % 10 : Nat) : Int)).natAbs = X
  generalize hY : (((a / 10 : Nat) : Int) - ((b / 10 : Nat) : Int)).natAbs = Y
  refine r_iload_n dX7_farOf_0 rfl ?_
  refine r_bipush (v := 10) dX7_farOf_1 (by decide) ?_
  refine r_nirem (b := 10) dX7_farOf_3 rfl rfl (by omega) (by omega) (by omega) ?_
  refine r_iload_n dX7_farOf_4 rfl ?_
  refine r_bipush (v := 10) dX7_farOf_5 (by decide) ?_
  refine r_nirem (b := 10) dX7_farOf_7 rfl rfl (by omega) (by omega) (by omega) ?_
  refine r_zisub dX7_farOf_8 (nz _) (nz _) ?_
  refine r_istore_n dX7_farOf_9 (by decide) rfl ?_
  refine r_iload_n dX7_farOf_10 rfl ?_
  refine r_bipush (v := 10) dX7_farOf_11 (by decide) ?_
  refine r_nidiv (b := 10) dX7_farOf_13 rfl rfl (by omega) (by omega) (by omega) ?_
  refine r_iload_n dX7_farOf_14 rfl ?_
  refine r_bipush (v := 10) dX7_farOf_15 (by decide) ?_
  refine r_nidiv (b := 10) dX7_farOf_17 rfl rfl (by omega) (by omega) (by omega) ?_
  refine r_zisub dX7_farOf_18 (nz _) (nz _) ?_
  refine r_istore_n dX7_farOf_19 (by decide) rfl ?_
  refine r_iload_n dX7_farOf_20 rfl ?_
  refine r_zif_ge (tgt := 29) dX7_farOf_21 (by decide) rfl (by unfold inZ; omega) (fun h21 => ?_) (fun h21 => ?_)
  · refine r_iload_n dX7_farOf_29 rfl ?_
    refine r_top (v := nI X) (by rw [nz]; congr 1; omega) ?_
    refine r_istore dX7_farOf_30 (by decide) rfl ?_
    refine r_iload_n dX7_farOf_32 rfl ?_
    refine r_zif_ge (tgt := 41) dX7_farOf_33 (by decide) rfl (by unfold inZ; omega) (fun h33 => ?_) (fun h33 => ?_)
    · refine r_iload_n dX7_farOf_41 rfl ?_
      refine r_top (v := nI Y) (by rw [nz]; congr 1; omega) ?_
      refine r_istore dX7_farOf_42 (by decide) rfl ?_
      refine r_iload dX7_farOf_44 rfl ?_
      refine r_iload dX7_farOf_46 rfl ?_
      refine r_nicmp_le  (tgt := 56) dX7_farOf_48 (by decide) rfl rfl (by omega) (by omega) (fun h48 => ?_) (fun h48 => ?_)
      · refine r_iload dX7_farOf_56 rfl ?_
        refine r_iret dX7_farOf_58 rfl ?_
        refine retI ?_
        have e : farN a b = if X < Y then Y else X := by subst hX hY; rfl
        rw [e]
        by_cases hxy : X < Y
        · rw [if_pos hxy]
        · rw [if_neg hxy]; congr 1; omega
      · refine r_iload dX7_farOf_51 rfl ?_
        refine r_goto (tgt := 58) dX7_farOf_53 (by decide) ?_
        refine r_iret dX7_farOf_58 rfl ?_
        refine retI ?_
        have e : farN a b = if X < Y then Y else X := by subst hX hY; rfl
        rw [e]
        rw [if_neg (show ¬ X < Y by omega)]
    · refine r_iload_n dX7_farOf_36 rfl ?_
      refine r_ineg dX7_farOf_37 ?_
      refine r_top (v := nI Y) (by rw [zI_neg, nz]; congr 1; omega) ?_
      refine r_goto (tgt := 42) dX7_farOf_38 (by decide) ?_
      refine r_istore dX7_farOf_42 (by decide) rfl ?_
      refine r_iload dX7_farOf_44 rfl ?_
      refine r_iload dX7_farOf_46 rfl ?_
      refine r_nicmp_le  (tgt := 56) dX7_farOf_48 (by decide) rfl rfl (by omega) (by omega) (fun h48 => ?_) (fun h48 => ?_)
      · refine r_iload dX7_farOf_56 rfl ?_
        refine r_iret dX7_farOf_58 rfl ?_
        refine retI ?_
        have e : farN a b = if X < Y then Y else X := by subst hX hY; rfl
        rw [e]
        by_cases hxy : X < Y
        · rw [if_pos hxy]
        · rw [if_neg hxy]; congr 1; omega
      · refine r_iload dX7_farOf_51 rfl ?_
        refine r_goto (tgt := 58) dX7_farOf_53 (by decide) ?_
        refine r_iret dX7_farOf_58 rfl ?_
        refine retI ?_
        have e : farN a b = if X < Y then Y else X := by subst hX hY; rfl
        rw [e]
        rw [if_neg (show ¬ X < Y by omega)]
  · refine r_iload_n dX7_farOf_24 rfl ?_
    refine r_ineg dX7_farOf_25 ?_
    refine r_top (v := nI X) (by rw [zI_neg, nz]; congr 1; omega) ?_
    refine r_goto (tgt := 30) dX7_farOf_26 (by decide) ?_
    refine r_istore dX7_farOf_30 (by decide) rfl ?_
    refine r_iload_n dX7_farOf_32 rfl ?_
    refine r_zif_ge (tgt := 41) dX7_farOf_33 (by decide) rfl (by unfold inZ; omega) (fun h33 => ?_) (fun h33 => ?_)
    · refine r_iload_n dX7_farOf_41 rfl ?_
      refine r_top (v := nI Y) (by rw [nz]; congr 1; omega) ?_
      refine r_istore dX7_farOf_42 (by decide) rfl ?_
      refine r_iload dX7_farOf_44 rfl ?_
      refine r_iload dX7_farOf_46 rfl ?_
      refine r_nicmp_le  (tgt := 56) dX7_farOf_48 (by decide) rfl rfl (by omega) (by omega) (fun h48 => ?_) (fun h48 => ?_)
      · refine r_iload dX7_farOf_56 rfl ?_
        refine r_iret dX7_farOf_58 rfl ?_
        refine retI ?_
        have e : farN a b = if X < Y then Y else X := by subst hX hY; rfl
        rw [e]
        by_cases hxy : X < Y
        · rw [if_pos hxy]
        · rw [if_neg hxy]; congr 1; omega
      · refine r_iload dX7_farOf_51 rfl ?_
        refine r_goto (tgt := 58) dX7_farOf_53 (by decide) ?_
        refine r_iret dX7_farOf_58 rfl ?_
        refine retI ?_
        have e : farN a b = if X < Y then Y else X := by subst hX hY; rfl
        rw [e]
        rw [if_neg (show ¬ X < Y by omega)]
    · refine r_iload_n dX7_farOf_36 rfl ?_
      refine r_ineg dX7_farOf_37 ?_
      refine r_top (v := nI Y) (by rw [zI_neg, nz]; congr 1; omega) ?_
      refine r_goto (tgt := 42) dX7_farOf_38 (by decide) ?_
      refine r_istore dX7_farOf_42 (by decide) rfl ?_
      refine r_iload dX7_farOf_44 rfl ?_
      refine r_iload dX7_farOf_46 rfl ?_
      refine r_nicmp_le  (tgt := 56) dX7_farOf_48 (by decide) rfl rfl (by omega) (by omega) (fun h48 => ?_) (fun h48 => ?_)
      · refine r_iload dX7_farOf_56 rfl ?_
        refine r_iret dX7_farOf_58 rfl ?_
        refine retI ?_
        have e : farN a b = if X < Y then Y else X := by subst hX hY; rfl
        rw [e]
        by_cases hxy : X < Y
        · rw [if_pos hxy]
        · rw [if_neg hxy]; congr 1; omega
      · refine r_iload dX7_farOf_51 rfl ?_
        refine r_goto (tgt := 58) dX7_farOf_53 (by decide) ?_
        refine r_iret dX7_farOf_58 rfl ?_
        refine retI ?_
        have e : farN a b = if X < Y then Y else X := by subst hX hY; rfl
        rw [e]
        rw [if_neg (show ¬ X < Y by omega)]
set_option maxRecDepth 20000 in
set_option maxHeartbeats 4000000 in
theorem S_mWithin {g : GP} {d n : Nat} {I : TI} {J : TJ} {R : TR} {p : Nat} (hp : p < 3) (v : Int32) : Wp g d mX7_within 0 [.int v, .int (nI (lvN p)), .int (nI (mvN p))] [] 0 0 n I J R (RetI (nI (clP p [v])) n I J R) := by
  have hv := tI_inZ v
  have q1 := lvN_le p
  have q2 := mvN_le p
  have q3 : lvN p ≤ mvN p := by
    have e : p = 0 ∨ p = 1 ∨ p = 2 := by omega
    rcases e with rfl | rfl | rfl <;> decide
  rw [← zI_tI v]
  have e : nI (clP p [zI v.toInt]) = zI (if v.toInt < (lvN p : Int) then (lvN p : Int) else if (mvN p : Int) < v.toInt then (mvN p : Int) else v.toInt) := by
    rw [zI_tI, nz]
    congr 1
    unfold clP
    show (((let w := if v.toInt < (lvN p : Int) then (lvN p : Int) else v.toInt; if (mvN p : Int) < w then (mvN p : Int) else w).toNat : Nat) : Int) = _
    simp only
    (repeat' split) <;> omega
  rw [e]
  refine r_iload_n dX7_within_0 rfl ?_
  refine r_iload_n dX7_within_1 rfl ?_
  refine r_zicmp_ge  (tgt := 9) dX7_within_2 (by decide) rfl (nz _) hv (by unfold inZ; omega) (fun h2 => ?_) (fun h2 => ?_)
  · refine r_iload_n dX7_within_9 rfl ?_
    refine r_iload_n dX7_within_10 rfl ?_
    refine r_zicmp_le  (tgt := 18) dX7_within_11 (by decide) rfl (nz _) hv (by unfold inZ; omega) (fun h11 => ?_) (fun h11 => ?_)
    · refine r_iload_n dX7_within_18 rfl ?_
      refine r_iret dX7_within_19 rfl ?_
      refine retI ?_
      rw [if_neg (by omega), if_neg (by omega)]
    · refine r_iload_n dX7_within_14 rfl ?_
      refine r_goto (tgt := 19) dX7_within_15 (by decide) ?_
      refine r_iret dX7_within_19 rfl ?_
      refine retI ?_
      rw [if_neg (by omega), if_pos (by omega)]
      rfl
  · refine r_iload_n dX7_within_5 rfl ?_
    refine r_goto (tgt := 19) dX7_within_6 (by decide) ?_
    refine r_iret dX7_within_19 rfl ?_
    refine retI ?_
    rw [if_pos (by omega)]
    rfl
set_option maxRecDepth 20000 in
set_option maxHeartbeats 4000000 in
theorem S_mAll {g : GP} {d n : Nat} {I : TI} {J : TJ} {R : TR} {sz : Nat} (hsh : Sh n R) (hI : I 102 10 = nI sz) (hz : sz ≤ 7) : Wp g d mX7_all 0 [.ref 102] [] 0 0 n I J R (RetI (nI (2 ^ sz - 1)) n I J R) := by
  refine r_iconst (v := 1) dX7_all_0 (by decide) ?_
  refine r_aload_n dX7_all_1 rfl ?_
  refine r_getIE dX7_all_2 f_X7_70 (hsh.al rfl (by decide)) (Or.inl rfl) hI ?_
  refine r_ishl dX7_all_5 ?_
  refine r_iconst (v := 1) dX7_all_6 (by decide) ?_
  refine r_isub dX7_all_7 ?_
  refine r_iret dX7_all_8 rfl ?_
  refine retI ?_
  have e : sz = 0 ∨ sz = 1 ∨ sz = 2 ∨ sz = 3 ∨ sz = 4 ∨ sz = 5 ∨ sz = 6 ∨ sz = 7 := by omega
  rcases e with rfl | rfl | rfl | rfl | rfl | rfl | rfl | rfl <;> decide
