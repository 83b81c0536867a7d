/-! the model: its sheets -/
set_option maxRecDepth 20000 in
set_option maxHeartbeats 4000000 in
theorem S_mIsSheet {g : GP} {d n : Nat} {I : TI} {J : TJ} {R : TR} {s : Int} (hs : inZ s) : Wp g (d + 1) mX7_isSheet 0 [.int (zI s)] [] 0 0 n I J R (RetI (b2i (decide (0 ≤ s ∧ s ≤ 3))) n I J R) := by
  refine r_iload_n dX7_isSheet_0 rfl ?_
  refine r_zi2l dX7_isSheet_1 rfl hs ?_
  refine r_lconst (v := 0) dX7_isSheet_2 (by decide) ?_
  refine r_ldc2 dX7_isSheet_3 w_1121 ?_
  refine r_callS3I dX7_isSheet_6 moX7_in w_930 w_931 (Nat.le_of_ble_eq_true rfl) (Nat.le_of_ble_eq_true rfl) (S_in3 (z := s) (lo := 0) (hi := 3) hs (by decide) (by decide) (by unfold inZ; omega) (by unfold inZ; omega)) ?_
  refine r_bret (b := decide (0 ≤ s ∧ s ≤ 3)) dX7_isSheet_9 rfl ?_ ?_
  · rfl
  · exact ⟨rfl, rfl, rfl, rfl, rfl⟩
def PdF (n : Nat) (I : TI) (R : TR) (v : Value) (σ : CSt) : TQ := fun r n2 I2 J2 R2 => PdM n I R v σ r n2 I2 J2 R2 ∧ ∀ a, a ≠ 114 → a ≠ 115 → a ≠ 116 → a ≠ 117 → I2 a = I a
theorem PdF.to {n : Nat} {I I2 : TI} {J2 : TJ} {R : TR} {v : Value} {σ2 : CSt} (h : MdS n I2 R σ2) (hF : ∀ a, a ≠ 114 → a ≠ 115 → a ≠ 116 → a ≠ 117 → I2 a = I a) : PdF n I R v σ2 (some v) n I2 J2 R := ⟨PdM.to h fun a ha => hF a (by omega) (by omega) (by omega) (by omega), hF⟩
theorem PdF.rf {n : Nat} {I : TI} {J2 : TJ} {R : TR} {v : Value} {σ : CSt} (h : MdS n I R σ) : PdF n I R v σ (some v) n I J2 R := PdF.to h fun _ _ _ _ _ => rfl
set_option maxRecDepth 20000 in
set_option maxHeartbeats 4000000 in
theorem S_mSheet {g : GP} {d n : Nat} {I : TI} {J : TJ} {R : TR} {σ : CSt} (hM : MdS n I R σ) {s so m : Int} (hs : inZ s) (hso : inZ so) (hm : inZ m) : Wp g (d + 2) mX7_sheet 0 [.ref 102, .int (zI s), .int (zI so), .int (zI m), .null] [] 0 0 n I J R (PdF n I R (.int (zI (sheeV s so m))) (sheeS σ s so m)) := by
  have hsh := hM.sh
  have hN := hM.p.mn
  have wf := hM.wf
  have hz := wf.2.2.1
  have frU : ∀ (s0 : Nat) (x : Int32) (y : Int32) (z : Int32), (∀ a, a ≠ 114 → a ≠ 115 → a ≠ 116 → up2 (up2 (up2 I 114 s0 x) 115 s0 y) 116 s0 z a = I a) ∧ up2 (up2 (up2 I 114 s0 x) 115 s0 y) 116 s0 z 114 s0 = x ∧ up2 (up2 (up2 I 114 s0 x) 115 s0 y) 116 s0 z 115 s0 = y ∧ up2 (up2 (up2 I 114 s0 x) 115 s0 y) 116 s0 z 116 s0 = z ∧ ∀ q, q ≠ s0 → up2 (up2 (up2 I 114 s0 x) 115 s0 y) 116 s0 z 114 q = I 114 q ∧ up2 (up2 (up2 I 114 s0 x) 115 s0 y) 116 s0 z 115 q = I 115 q ∧ up2 (up2 (up2 I 114 s0 x) 115 s0 y) 116 s0 z 116 q = I 116 q := by
    intro s0 x y z
    refine ⟨fun a a1 a2 a3 => by rw [up2_a _ _ _ a3, up2_a _ _ _ a2, up2_a _ _ _ a1], by rw [up2_a _ _ _ (by decide), up2_a _ _ _ (by decide), up2_at], by rw [up2_a _ _ _ (by decide), up2_at], up2_at _ _ _ _, fun q hq => ⟨by rw [up2_a _ _ _ (by decide), up2_a _ _ _ (by decide), up2_k _ _ hq], by rw [up2_a _ _ _ (by decide), up2_k _ _ hq, up2_a _ _ _ (by decide)], by rw [up2_k _ _ hq, up2_a _ _ _ (by decide), up2_a _ _ _ (by decide)]⟩⟩
  have loop : ∀ (s0 m0 : Nat) (I3 : TI), s0 < 4 → m0 ≤ 40 → 0 ≤ so ∧ so ≤ 2 → (∀ a, a ≠ 114 → a ≠ 115 → a ≠ 116 → I3 a = I a) → I3 114 s0 = 1 → I3 115 s0 = zI so → I3 116 s0 = nI m0 → (∀ q, q ≠ s0 → I3 114 q = I 114 q ∧ I3 115 q = I 115 q ∧ I3 116 q = I 116 q) → ∀ q i I2, i + q = m0 → (∀ a, a ≠ 117 → I2 a = I3 a) → (∀ p, (p < 40 * s0 ∨ 40 * s0 + m0 ≤ p) → I2 117 p = I 117 p) → (∀ j, j < i → I2 117 (40 * s0 + j) = 0) → Wp g (d + 2) mX7_sheet 77 [.ref 102, .int (nI s0), .int (zI so), .int (nI m0), .int (nI i)] [] 0 0 n I2 J R (PdF n I R (.int (zI 1)) (wSh σ s0 so m0 (fun _ => 0))) := by
    intro s0 m0 I3 hs4 hm40 hso2 k1 k2 k3 k4 k5 q
    induction q with
    | zero =>
      intro i I2 hi hF hp hj
      refine r_iload dX7_sheet_77 rfl ?_
      refine r_iload_n dX7_sheet_79 rfl ?_
      refine r_nicmp_ge  (tgt := 106) dX7_sheet_80 (by decide) rfl rfl (by omega) (by omega) (fun h80 => ?_) (fun h80 => absurd h80 (by omega))
      refine r_iconst (v := 1) dX7_sheet_106 (by decide) ?_
      refine r_iret dX7_sheet_107 rfl ?_
      refine PdF.to (hM.shU hs4 ⟨by omega, by omega, by omega⟩ (fun a a1 a2 a3 a4 a5 a6 => by rw [hF a a6, k1 a a3 a4 a5]) (by rw [hF 102 (by decide), k1 102 (by decide) (by decide) (by decide)]) (by rw [hF 114 (by decide), k2, decide_eq_true (by omega)]; rfl) (fun _ => ⟨by rw [hF 115 (by decide), k3], by rw [hF 116 (by decide), k4], fun j h => hj j (by omega)⟩) fun q hq hq4 => ?_) fun a a1 a2 a3 a4 => by rw [hF a a4, k1 a a1 a2 a3]
      obtain ⟨c1, c2, c3⟩ := k5 q hq
      exact ⟨by rw [hF 114 (by decide), c1], by rw [hF 115 (by decide), c2], by rw [hF 116 (by decide), c3], fun j hj2 => hp _ (by omega)⟩
    | succ q ih =>
      intro i I2 hi hF hp hj
      refine r_iload dX7_sheet_77 rfl ?_
      refine r_iload_n dX7_sheet_79 rfl ?_
      refine r_nicmp_ge  (tgt := 106) dX7_sheet_80 (by decide) rfl rfl (by omega) (by omega) (fun h80 => absurd h80 (by omega)) (fun h80 => ?_)
      refine r_iload_n dX7_sheet_83 rfl ?_
      refine r_zif_lt (tgt := 106) dX7_sheet_84 (by decide) rfl (by unfold inZ; omega) (fun h84 => absurd h84 (by omega)) (fun h84 => ?_)
      refine r_aload_n dX7_sheet_87 rfl ?_
      refine r_getR (b := 117) dX7_sheet_88 f_X7_60 (hsh.al rfl (by decide)) (Or.inl ⟨_, rfl⟩) (hsh.r 102 44 117 (by decide)) (by decide) ?_
      refine r_bipush (v := 40) dX7_sheet_91 (by decide) ?_
      refine r_iload_n dX7_sheet_93 rfl ?_
      refine r_nimul (a := 40) dX7_sheet_94 rfl rfl ?_
      refine r_iload dX7_sheet_95 rfl ?_
      refine r_niadd dX7_sheet_97 rfl rfl ?_
      refine r_iconst (v := 0) dX7_sheet_98 (by decide) ?_
      refine r_iast (j := (40 * s0 + i)) dX7_sheet_99 (hsh.al rfl (by decide)) (by omega) rfl ?_
      refine r_iincE (b := (i + 1)) dX7_sheet_100 rfl rfl (nI_succ _).symm rfl ?_
      refine r_goto (tgt := 77) dX7_sheet_103 (by decide) ?_
      refine ih (i + 1) _ (by omega) (fun a ha => by rw [up2_a _ _ _ ha]; exact hF a ha) (fun p h => by rw [up2_k _ _ (by omega)]; exact hp p h) fun j h => ?_
      by_cases e : j = i
      · rw [e, up2_at]
      · rw [up2_k _ _ (by omega)]; exact hj j (by omega)
  refine r_iload_n dX7_sheet_0 rfl ?_
  refine r_callS1I dX7_sheet_1 moX7_isSheet w_1118 w_1119 (Nat.le_of_ble_eq_true rfl) (Nat.le_of_ble_eq_true rfl) (S_mIsSheet hs) ?_
  refine r_ifb_eq (tgt := 31) dX7_sheet_4 (by decide) (fun h4 => ?_) (fun h4 => ?_)
  · rw [decide_eq_false_iff_not] at h4
    refine r_bipush (v := (-2)) dX7_sheet_31 (by decide) ?_
    refine r_iret dX7_sheet_33 rfl ?_
    have e0 : sheeV s so m = -2 := if_neg (by omega)
    have e4 : sheeS σ s so m = σ := if_neg (by omega)
    rw [e0, e4]
    exact PdF.rf hM
  · rw [decide_eq_true_eq] at h4
    refine r_iload_n dX7_sheet_7 rfl ?_
    refine r_zi2l dX7_sheet_8 rfl hso ?_
    refine r_ldc2 dX7_sheet_9 w_1194 ?_
    refine r_ldc2 dX7_sheet_12 w_1195 ?_
    refine r_callS3I dX7_sheet_15 moX7_in w_930 w_931 (Nat.le_of_ble_eq_true rfl) (Nat.le_of_ble_eq_true rfl) (S_in3 (z := so) (lo := -1) (hi := 2) hso (by decide) (by decide) (by unfold inZ; omega) (by unfold inZ; omega)) ?_
    refine r_ifb_eq (tgt := 31) dX7_sheet_18 (by decide) (fun h18 => ?_) (fun h18 => ?_)
    · rw [decide_eq_false_iff_not] at h18
      refine r_bipush (v := (-2)) dX7_sheet_31 (by decide) ?_
      refine r_iret dX7_sheet_33 rfl ?_
      have e0 : sheeV s so m = -2 := if_neg (by omega)
      have e4 : sheeS σ s so m = σ := if_neg (by omega)
      rw [e0, e4]
      exact PdF.rf hM
    · rw [decide_eq_true_eq] at h18
      refine r_iload_n dX7_sheet_21 rfl ?_
      refine r_zif_lt (tgt := 34) dX7_sheet_22 (by decide) rfl hso (fun h22 => ?_) (fun h22 => ?_)
      · refine r_iload_n dX7_sheet_34 rfl ?_
        refine r_zif_lt (tgt := 45) dX7_sheet_35 (by decide) rfl hso (fun h35 => ?_) (fun h35 => absurd h35 (by omega))
        obtain ⟨s0, es0⟩ := Int.eq_ofNat_of_zero_le (show 0 ≤ s by omega)
        subst es0
        rw [← nz s0]
        have hs4 : s0 < 4 := by omega
        refine r_aload_n dX7_sheet_45 rfl ?_
        refine r_getR (b := 114) dX7_sheet_46 f_X7_50 (hsh.al rfl (by decide)) (Or.inl ⟨_, rfl⟩) (hsh.r 102 41 114 (by decide)) (by decide) ?_
        refine r_iload_n dX7_sheet_49 rfl ?_
        refine r_iload_n dX7_sheet_50 rfl ?_
        refine r_zif_lt (tgt := 58) dX7_sheet_51 (by decide) rfl hso (fun h51 => ?_) (fun h51 => absurd h51 (by omega))
        refine r_iconst (v := 0) dX7_sheet_58 (by decide) ?_
        refine r_zast (j := s0) dX7_sheet_59 (hsh.al rfl (by decide)) hs4 rfl (by decide) ?_
        refine r_aload_n dX7_sheet_60 rfl ?_
        refine r_getR (b := 115) dX7_sheet_61 f_X7_54 (hsh.al rfl (by decide)) (Or.inl ⟨_, rfl⟩) (hsh.r 102 42 115 (by decide)) (by decide) ?_
        refine r_iload_n dX7_sheet_64 rfl ?_
        refine r_iload_n dX7_sheet_65 rfl ?_
        refine r_iast (j := s0) dX7_sheet_66 (hsh.al rfl (by decide)) hs4 rfl ?_
        refine r_aload_n dX7_sheet_67 rfl ?_
        refine r_getR (b := 116) dX7_sheet_68 f_X7_57 (hsh.al rfl (by decide)) (Or.inl ⟨_, rfl⟩) (hsh.r 102 43 116 (by decide)) (by decide) ?_
        refine r_iload_n dX7_sheet_71 rfl ?_
        refine r_iload_n dX7_sheet_72 rfl ?_
        refine r_iast (j := s0) dX7_sheet_73 (hsh.al rfl (by decide)) hs4 rfl ?_
        refine r_iconst (v := 0) dX7_sheet_74 (by decide) ?_
        refine r_istore dX7_sheet_75 (by decide) rfl ?_
        refine r_iload dX7_sheet_77 rfl ?_
        refine r_iload_n dX7_sheet_79 rfl ?_
        refine r_zicmp_ge (a := 0)  (tgt := 106) dX7_sheet_80 (by decide) (by decide) rfl (by unfold inZ; omega) hm (fun h80 => ?_) (fun h80 => ?_)
        · refine r_iconst (v := 1) dX7_sheet_106 (by decide) ?_
          refine r_iret dX7_sheet_107 rfl ?_
          have eso : so = -1 := by omega
          subst eso
          have e0 : sheeV s0 (-1) m = 1 := by unfold sheeV; rw [if_pos (by omega), if_pos rfl]
          have e4 : sheeS σ s0 (-1) m = wSh σ s0 (-1) 0 (fun _ => 0) := by unfold sheeS; rw [if_pos (by omega), if_pos rfl]; rfl
          rw [e0, e4]
          obtain ⟨k1, k2, k3, k4, k5⟩ := frU s0 0 (zI (-1)) (zI m)
          exact PdF.to (hM.shU hs4 ⟨by omega, by omega, by omega⟩ (fun a a1 a2 a3 a4 a5 a6 => k1 a a3 a4 a5) (k1 102 (by decide) (by decide) (by decide)) (by rw [k2]; rfl) (fun h => absurd rfl h) fun q hq hq4 => ⟨(k5 q hq).1, (k5 q hq).2.1, (k5 q hq).2.2, fun j hj2 => by rw [k1 117 (by decide) (by decide) (by decide)]⟩) fun a a1 a2 a3 _ => k1 a a1 a2 a3
        · refine r_iload_n dX7_sheet_83 rfl ?_
          refine r_zif_lt (tgt := 106) dX7_sheet_84 (by decide) rfl hso (fun h84 => ?_) (fun h84 => absurd h84 (by omega))
          refine r_iconst (v := 1) dX7_sheet_106 (by decide) ?_
          refine r_iret dX7_sheet_107 rfl ?_
          have eso : so = -1 := by omega
          subst eso
          have e0 : sheeV s0 (-1) m = 1 := by unfold sheeV; rw [if_pos (by omega), if_pos rfl]
          have e4 : sheeS σ s0 (-1) m = wSh σ s0 (-1) 0 (fun _ => 0) := by unfold sheeS; rw [if_pos (by omega), if_pos rfl]; rfl
          rw [e0, e4]
          obtain ⟨k1, k2, k3, k4, k5⟩ := frU s0 0 (zI (-1)) (zI m)
          exact PdF.to (hM.shU hs4 ⟨by omega, by omega, by omega⟩ (fun a a1 a2 a3 a4 a5 a6 => k1 a a3 a4 a5) (k1 102 (by decide) (by decide) (by decide)) (by rw [k2]; rfl) (fun h => absurd rfl h) fun q hq hq4 => ⟨(k5 q hq).1, (k5 q hq).2.1, (k5 q hq).2.2, fun j hj2 => by rw [k1 117 (by decide) (by decide) (by decide)]⟩) fun a a1 a2 a3 _ => k1 a a1 a2 a3
      · refine r_iload_n dX7_sheet_25 rfl ?_
        refine r_bipush (v := 40) dX7_sheet_26 (by decide) ?_
        refine r_zicmp_le (b := 40)  (tgt := 34) dX7_sheet_28 (by decide) rfl (by decide) hm (by unfold inZ; omega) (fun h28 => ?_) (fun h28 => ?_)
        · refine r_iload_n dX7_sheet_34 rfl ?_
          refine r_zif_lt (tgt := 45) dX7_sheet_35 (by decide) rfl hso (fun h35 => absurd h35 (by omega)) (fun h35 => ?_)
          refine r_iload_n dX7_sheet_38 rfl ?_
          refine r_zif_ge (tgt := 45) dX7_sheet_39 (by decide) rfl hm (fun h39 => ?_) (fun h39 => ?_)
          · obtain ⟨s0, es0⟩ := Int.eq_ofNat_of_zero_le (show 0 ≤ s by omega)
            subst es0
            rw [← nz s0]
            obtain ⟨m0, em0⟩ := Int.eq_ofNat_of_zero_le (show 0 ≤ m by omega)
            subst em0
            rw [← nz m0]
            have hs4 : s0 < 4 := by omega
            refine r_aload_n dX7_sheet_45 rfl ?_
            refine r_getR (b := 114) dX7_sheet_46 f_X7_50 (hsh.al rfl (by decide)) (Or.inl ⟨_, rfl⟩) (hsh.r 102 41 114 (by decide)) (by decide) ?_
            refine r_iload_n dX7_sheet_49 rfl ?_
            refine r_iload_n dX7_sheet_50 rfl ?_
            refine r_zif_lt (tgt := 58) dX7_sheet_51 (by decide) rfl hso (fun h51 => absurd h51 (by omega)) (fun h51 => ?_)
            refine r_iconst (v := 1) dX7_sheet_54 (by decide) ?_
            refine r_goto (tgt := 59) dX7_sheet_55 (by decide) ?_
            refine r_zast (j := s0) dX7_sheet_59 (hsh.al rfl (by decide)) hs4 rfl (by decide) ?_
            refine r_aload_n dX7_sheet_60 rfl ?_
            refine r_getR (b := 115) dX7_sheet_61 f_X7_54 (hsh.al rfl (by decide)) (Or.inl ⟨_, rfl⟩) (hsh.r 102 42 115 (by decide)) (by decide) ?_
            refine r_iload_n dX7_sheet_64 rfl ?_
            refine r_iload_n dX7_sheet_65 rfl ?_
            refine r_iast (j := s0) dX7_sheet_66 (hsh.al rfl (by decide)) hs4 rfl ?_
            refine r_aload_n dX7_sheet_67 rfl ?_
            refine r_getR (b := 116) dX7_sheet_68 f_X7_57 (hsh.al rfl (by decide)) (Or.inl ⟨_, rfl⟩) (hsh.r 102 43 116 (by decide)) (by decide) ?_
            refine r_iload_n dX7_sheet_71 rfl ?_
            refine r_iload_n dX7_sheet_72 rfl ?_
            refine r_iast (j := s0) dX7_sheet_73 (hsh.al rfl (by decide)) hs4 rfl ?_
            refine r_iconst (v := 0) dX7_sheet_74 (by decide) ?_
            refine r_istore dX7_sheet_75 (by decide) rfl ?_
            have e0 : sheeV s0 so m0 = 1 := by unfold sheeV; rw [if_pos (by omega), if_neg (by omega), if_neg (by omega), if_neg (by omega)]
            have e4 : sheeS σ s0 so m0 = wSh σ s0 so m0 (fun _ => 0) := by unfold sheeS; rw [if_pos (by omega), if_neg (by omega), if_neg (by omega), if_neg (by omega)]; rfl
            rw [e0, e4]
            obtain ⟨k1, k2, k3, k4, k5⟩ := frU s0 1 (zI so) (nI m0)
            exact loop s0 m0 _ hs4 (by omega) (by omega) k1 k2 k3 k4 k5 m0 0 _ (Nat.zero_add _) (fun _ _ => rfl) (fun p _ => by rw [k1 117 (by decide) (by decide) (by decide)]) fun j h => absurd h (Nat.not_lt_zero _)
          · refine r_bipush (v := (-14)) dX7_sheet_42 (by decide) ?_
            refine r_iret dX7_sheet_44 rfl ?_
            have e0 : sheeV s so m = -14 := by unfold sheeV; rw [if_pos (by omega), if_neg (by omega), if_neg (by omega), if_pos (by omega)]
            have e4 : sheeS σ s so m = σ := by unfold sheeS; rw [if_pos (by omega), if_neg (by omega), if_neg (by omega), if_pos (by omega)]
            rw [e0, e4]
            exact PdF.rf hM
        · refine r_bipush (v := (-2)) dX7_sheet_31 (by decide) ?_
          refine r_iret dX7_sheet_33 rfl ?_
          have e0 : sheeV s so m = -2 := by unfold sheeV; rw [if_pos (by omega), if_neg (by omega), if_pos (by omega)]
          have e4 : sheeS σ s so m = σ := by unfold sheeS; rw [if_pos (by omega), if_neg (by omega), if_pos (by omega)]
          rw [e0, e4]
          exact PdF.rf hM
set_option maxRecDepth 20000 in
set_option maxHeartbeats 4000000 in
theorem S_mCell {g : GP} {d n : Nat} {I : TI} {J : TJ} {R : TR} {σ : CSt} (hM : MdS n I R σ) {s i : Int} (hs : inZ s) (hi : inZ i) (v : Int32) : Wp g (d + 2) mX7_cell 0 [.ref 102, .int (zI s), .int (zI i), .int v] [] 0 0 n I J R (PdM n I R (.int (zI (cellV σ s i))) (cellS σ s i v)) := by
  have hsh := hM.sh
  have hN := hM.p.mn
  have wf := hM.wf
  have hz := wf.2.2.1
  refine r_iload_n dX7_cell_0 rfl ?_
  refine r_callS1I dX7_cell_1 moX7_isSheet w_1118 w_1119 (Nat.le_of_ble_eq_true rfl) (Nat.le_of_ble_eq_true rfl) (S_mIsSheet hs) ?_
  refine r_ifb_ne (tgt := 10) dX7_cell_4 (by decide) (fun h4 => ?_) (fun h4 => ?_)
  · rw [decide_eq_true_eq] at h4
    obtain ⟨s0, es0⟩ := Int.eq_ofNat_of_zero_le (show 0 ≤ s by omega)
    subst es0
    rw [← nz s0]
    obtain ⟨t1, b1, t234⟩ := hM.sht s0 (by omega)
    refine r_aload_n dX7_cell_10 rfl ?_
    refine r_getR (b := 114) dX7_cell_11 f_X7_50 (hsh.al rfl (by decide)) (Or.inl ⟨_, rfl⟩) (hsh.r 102 41 114 (by decide)) (by decide) ?_
    refine r_iload_n dX7_cell_14 rfl ?_
    refine r_zald (j := s0) dX7_cell_15 (hsh.al rfl (by decide)) (by omega) rfl ?_
    refine r_top t1 ?_
    refine r_ifb_ne (tgt := 22) dX7_cell_16 (by decide) (fun h16 => ?_) (fun h16 => ?_)
    · rw [decide_eq_true_eq] at h16
      obtain ⟨t2, t3, t4⟩ := t234 h16
      refine r_iload_n dX7_cell_22 rfl ?_
      refine r_zi2l dX7_cell_23 rfl hi ?_
      refine r_lconst (v := 0) dX7_cell_24 (by decide) ?_
      refine r_aload_n dX7_cell_25 rfl ?_
      refine r_getR (b := 116) dX7_cell_26 f_X7_57 (hsh.al rfl (by decide)) (Or.inl ⟨_, rfl⟩) (hsh.r 102 43 116 (by decide)) (by decide) ?_
      refine r_iload_n dX7_cell_29 rfl ?_
      refine r_ialdE (j := s0) dX7_cell_30 (hsh.al rfl (by decide)) (by omega) rfl t3 ?_
      refine r_iconst (v := 1) dX7_cell_31 (by decide) ?_
      refine r_zisub (b := 1) dX7_cell_32 (nz _) (by decide) ?_
      refine r_zi2l dX7_cell_33 rfl (by unfold inZ; omega) ?_
      refine r_callS3I dX7_cell_34 moX7_in w_930 w_931 (Nat.le_of_ble_eq_true rfl) (Nat.le_of_ble_eq_true rfl) (S_in3 (z := i) (lo := 0) (hi := ((qzs σ s0 : Nat) : Int) - 1) hi (by decide) rfl (by unfold inZ; omega) (by unfold inZ; omega)) ?_
      refine r_ifb_ne (tgt := 43) dX7_cell_37 (by decide) (fun h37 => ?_) (fun h37 => ?_)
      · rw [decide_eq_true_eq] at h37
        obtain ⟨i0, ei0⟩ := Int.eq_ofNat_of_zero_le (show 0 ≤ i by omega)
        subst ei0
        rw [← nz i0]
        refine r_aload_n dX7_cell_43 rfl ?_
        refine r_getR (b := 117) dX7_cell_44 f_X7_60 (hsh.al rfl (by decide)) (Or.inl ⟨_, rfl⟩) (hsh.r 102 44 117 (by decide)) (by decide) ?_
        refine r_bipush (v := 40) dX7_cell_47 (by decide) ?_
        refine r_iload_n dX7_cell_49 rfl ?_
        refine r_nimul (a := 40) dX7_cell_50 rfl rfl ?_
        refine r_iload_n dX7_cell_51 rfl ?_
        refine r_niadd dX7_cell_52 rfl rfl ?_
        refine r_aload_n dX7_cell_53 rfl ?_
        refine r_getR (b := 115) dX7_cell_54 f_X7_54 (hsh.al rfl (by decide)) (Or.inl ⟨_, rfl⟩) (hsh.r 102 42 115 (by decide)) (by decide) ?_
        refine r_iload_n dX7_cell_57 rfl ?_
        refine r_ialdE (j := s0) dX7_cell_58 (hsh.al rfl (by decide)) (by omega) rfl t2 ?_
        refine r_zif_ne (tgt := 67) dX7_cell_59 (by decide) rfl (by unfold inZ; omega) (fun h59 => ?_) (fun h59 => ?_)
        · refine r_aload_n dX7_cell_67 rfl ?_
          refine r_getR (b := 115) dX7_cell_68 f_X7_54 (hsh.al rfl (by decide)) (Or.inl ⟨_, rfl⟩) (hsh.r 102 42 115 (by decide)) (by decide) ?_
          refine r_iload_n dX7_cell_71 rfl ?_
          refine r_ialdE (j := s0) dX7_cell_72 (hsh.al rfl (by decide)) (by omega) rfl t2 ?_
          refine r_iconst (v := 1) dX7_cell_73 (by decide) ?_
          refine r_zicmp_ne (b := 1)  (tgt := 82) dX7_cell_74 (by decide) rfl (by decide) (by unfold inZ; omega) (by unfold inZ; omega) (fun h74 => ?_) (fun h74 => ?_)
          · refine r_iload_n dX7_cell_82 rfl ?_
            refine r_iast (j := (40 * s0 + i0)) dX7_cell_83 (hsh.al rfl (by decide)) (by omega) rfl ?_
            refine r_iconst (v := 1) dX7_cell_84 (by decide) ?_
            refine r_iret dX7_cell_85 rfl ?_
            have en : narS (qso σ s0) v = v := by unfold narS; rw [if_neg h59, if_neg h74]
            have e0 : cellV σ s0 i0 = 1 := by unfold cellV; rw [if_pos (by omega), Int.toNat_natCast, if_neg h16, if_pos (by omega)]
            have e4 : cellS σ s0 i0 v = wSh σ s0 (qso σ s0) (qzs σ s0) (upI (qit σ s0) i0 (narS (qso σ s0) v)) := by unfold cellS; rw [if_pos (by omega), Int.toNat_natCast, if_neg h16, if_pos (by omega)]; rfl
            rw [e0, e4, en]
            refine PdM.to (hM.shU (by omega) b1 (fun a _ _ _ _ _ a6 => up2_a _ _ _ a6) (up2_a _ _ _ (by decide)) (by rw [up2_a _ _ _ (by decide)]; exact t1) (fun _ => ⟨by rw [up2_a _ _ _ (by decide)]; exact t2, by rw [up2_a _ _ _ (by decide)]; exact t3, fun j hj => ?_⟩) fun q hq hq4 => ⟨by rw [up2_a _ _ _ (by decide)], by rw [up2_a _ _ _ (by decide)], by rw [up2_a _ _ _ (by decide)], fun j hj => up2_k _ _ (by omega)⟩) fun a ha => up2_a _ _ _ (by omega)
            unfold upI
            by_cases e : j = i0
            · rw [if_pos e, e, up2_at]
            · rw [if_neg e, up2_k _ _ (by omega)]; exact t4 j hj
          · refine r_iload_n dX7_cell_77 rfl ?_
            refine r_i2s dX7_cell_78 ?_
            refine r_goto (tgt := 83) dX7_cell_79 (by decide) ?_
            refine r_iast (j := (40 * s0 + i0)) dX7_cell_83 (hsh.al rfl (by decide)) (by omega) rfl ?_
            refine r_iconst (v := 1) dX7_cell_84 (by decide) ?_
            refine r_iret dX7_cell_85 rfl ?_
            have en : narS (qso σ s0) v = v.toInt16.toInt32 := by unfold narS; rw [if_neg h59, if_pos h74]
            have e0 : cellV σ s0 i0 = 1 := by unfold cellV; rw [if_pos (by omega), Int.toNat_natCast, if_neg h16, if_pos (by omega)]
            have e4 : cellS σ s0 i0 v = wSh σ s0 (qso σ s0) (qzs σ s0) (upI (qit σ s0) i0 (narS (qso σ s0) v)) := by unfold cellS; rw [if_pos (by omega), Int.toNat_natCast, if_neg h16, if_pos (by omega)]; rfl
            rw [e0, e4, en]
            refine PdM.to (hM.shU (by omega) b1 (fun a _ _ _ _ _ a6 => up2_a _ _ _ a6) (up2_a _ _ _ (by decide)) (by rw [up2_a _ _ _ (by decide)]; exact t1) (fun _ => ⟨by rw [up2_a _ _ _ (by decide)]; exact t2, by rw [up2_a _ _ _ (by decide)]; exact t3, fun j hj => ?_⟩) fun q hq hq4 => ⟨by rw [up2_a _ _ _ (by decide)], by rw [up2_a _ _ _ (by decide)], by rw [up2_a _ _ _ (by decide)], fun j hj => up2_k _ _ (by omega)⟩) fun a ha => up2_a _ _ _ (by omega)
            unfold upI
            by_cases e : j = i0
            · rw [if_pos e, e, up2_at]
            · rw [if_neg e, up2_k _ _ (by omega)]; exact t4 j hj
        · refine r_iload_n dX7_cell_62 rfl ?_
          refine r_i2b dX7_cell_63 ?_
          refine r_goto (tgt := 83) dX7_cell_64 (by decide) ?_
          refine r_iast (j := (40 * s0 + i0)) dX7_cell_83 (hsh.al rfl (by decide)) (by omega) rfl ?_
          refine r_iconst (v := 1) dX7_cell_84 (by decide) ?_
          refine r_iret dX7_cell_85 rfl ?_
          have en : narS (qso σ s0) v = v.toInt8.toInt32 := by unfold narS; rw [if_pos h59]
          have e0 : cellV σ s0 i0 = 1 := by unfold cellV; rw [if_pos (by omega), Int.toNat_natCast, if_neg h16, if_pos (by omega)]
          have e4 : cellS σ s0 i0 v = wSh σ s0 (qso σ s0) (qzs σ s0) (upI (qit σ s0) i0 (narS (qso σ s0) v)) := by unfold cellS; rw [if_pos (by omega), Int.toNat_natCast, if_neg h16, if_pos (by omega)]; rfl
          rw [e0, e4, en]
          refine PdM.to (hM.shU (by omega) b1 (fun a _ _ _ _ _ a6 => up2_a _ _ _ a6) (up2_a _ _ _ (by decide)) (by rw [up2_a _ _ _ (by decide)]; exact t1) (fun _ => ⟨by rw [up2_a _ _ _ (by decide)]; exact t2, by rw [up2_a _ _ _ (by decide)]; exact t3, fun j hj => ?_⟩) fun q hq hq4 => ⟨by rw [up2_a _ _ _ (by decide)], by rw [up2_a _ _ _ (by decide)], by rw [up2_a _ _ _ (by decide)], fun j hj => up2_k _ _ (by omega)⟩) fun a ha => up2_a _ _ _ (by omega)
          unfold upI
          by_cases e : j = i0
          · rw [if_pos e, e, up2_at]
          · rw [if_neg e, up2_k _ _ (by omega)]; exact t4 j hj
      · rw [decide_eq_false_iff_not] at h37
        refine r_bipush (v := (-12)) dX7_cell_40 (by decide) ?_
        refine r_iret dX7_cell_42 rfl ?_
        have e0 : cellV σ s0 i = -12 := by unfold cellV; rw [if_pos (by omega), Int.toNat_natCast, if_neg h16, if_neg (by omega)]
        have e4 : cellS σ s0 i v = σ := by unfold cellS; rw [if_pos (by omega), Int.toNat_natCast, if_neg h16, if_neg (by omega)]
        rw [e0, e4]
        exact PdM.rf hM
    · rw [decide_eq_false_iff_not, Decidable.not_not] at h16
      refine r_bipush (v := (-11)) dX7_cell_19 (by decide) ?_
      refine r_iret dX7_cell_21 rfl ?_
      have e0 : cellV σ s0 i = -11 := by unfold cellV; rw [if_pos (by omega), Int.toNat_natCast, if_pos h16]
      have e4 : cellS σ s0 i v = σ := by unfold cellS; rw [if_pos (by omega), Int.toNat_natCast, if_pos h16]
      rw [e0, e4]
      exact PdM.rf hM
  · rw [decide_eq_false_iff_not] at h4
    refine r_bipush (v := (-2)) dX7_cell_7 (by decide) ?_
    refine r_iret dX7_cell_9 rfl ?_
    have e0 : cellV σ s i = -2 := if_neg (by omega)
    have e4 : cellS σ s i v = σ := if_neg (by omega)
    rw [e0, e4]
    exact PdM.rf hM
set_option maxRecDepth 20000 in
set_option maxHeartbeats 4000000 in
theorem S_mCopy {g : GP} {d n : Nat} {I : TI} {J : TJ} {R : TR} {σ : CSt} (hM : MdS n I R σ) {s i o j m : Int} (hs : inZ s) (hi : inZ i) (ho : inZ o) (hj : inZ j) (hm : inZ m) : Wp g (d + 2) mX7_copy 0 [.ref 102, .int (zI s), .int (zI i), .int (zI o), .int (zI j), .int (zI m), .null, .null, .null] [] 0 0 n I J R (PdM n I R (.int (zI (copyB σ s i o j m))) (copyS σ s i o j m)) := by
  have hsh := hM.sh
  have hN := hM.p.mn
  have wf := hM.wf
  have hz := wf.2.2.1
  have fin : ∀ (s0 i0 o0 j0 m0 : Nat) (x6 x7 x8 : Value) (I2 : TI), s0 < 4 → o0 < 4 → qso σ s0 ≠ -1 → qso σ o0 ≠ -1 → i0 + m0 ≤ qzs σ s0 → j0 + m0 ≤ qzs σ o0 → (∀ a, a ≠ 117 → I2 a = I a) → (∀ p, (p < 40 * o0 + j0 ∨ 40 * o0 + j0 + m0 ≤ p) → I2 117 p = I 117 p) → (∀ x, x < m0 → I2 117 (40 * o0 + j0 + x) = I 117 (40 * s0 + i0 + x)) → Wp g (d + 2) mX7_copy 182 [.ref 102, .int (nI s0), .int (nI i0), .int (nI o0), .int (nI j0), .int (nI m0), x6, x7, x8] [] 0 0 n I2 J R (PdM n I R (.int (zI (m0 : Nat))) (wSh σ o0 (qso σ o0) (qzs σ o0) (va_cpy (qit σ s0) (qit σ o0) i0 j0 m0))) := by
    intro s0 i0 o0 j0 m0 x6 x7 x8 I2 hs4 ho4 n1 n2 l1 l2 hF hp hx
    obtain ⟨t1, b1, t234⟩ := hM.sht s0 hs4
    obtain ⟨u1, c1, u234⟩ := hM.sht o0 ho4
    obtain ⟨t2, t3, t4⟩ := t234 n1
    obtain ⟨u2, u3, u4⟩ := u234 n2
    refine r_iload dX7_copy_182 rfl ?_
    refine r_iret dX7_copy_184 rfl ?_
    refine PdM.to (hM.shU ho4 c1 (fun a _ _ _ _ _ a6 => hF a a6) (hF 102 (by decide)) (by rw [hF 114 (by decide)]; exact u1) (fun _ => ⟨by rw [hF 115 (by decide)]; exact u2, by rw [hF 116 (by decide)]; exact u3, fun y hy => ?_⟩) fun q hq hq4 => ⟨by rw [hF 114 (by decide)], by rw [hF 115 (by decide)], by rw [hF 116 (by decide)], fun y hy => hp _ (by omega)⟩) fun a ha => hF a (by omega)
    unfold va_cpy
    by_cases e : j0 ≤ y ∧ y < j0 + m0
    · rw [if_pos e, show 40 * o0 + y = 40 * o0 + j0 + (y - j0) by omega, hx _ (by omega), show 40 * s0 + i0 + (y - j0) = 40 * s0 + (i0 + (y - j0)) by omega]; exact t4 _ (by omega)
    · rw [if_neg e, hp _ (by omega)]; exact u4 y hy
  have asc : ∀ (s0 i0 o0 j0 m0 : Nat), s0 < 4 → o0 < 4 → qso σ s0 ≠ -1 → qso σ o0 ≠ -1 → i0 + m0 ≤ qzs σ s0 → j0 + m0 ≤ qzs σ o0 → qzs σ s0 ≤ 40 → qzs σ o0 ≤ 40 → (s0 = o0 → j0 ≤ i0) → ∀ q k x8 I2, k + q = m0 → (∀ a, a ≠ 117 → I2 a = I a) → (∀ p, (p < 40 * o0 + j0 ∨ 40 * o0 + j0 + k ≤ p) → I2 117 p = I 117 p) → (∀ x, x < k → I2 117 (40 * o0 + j0 + x) = I 117 (40 * s0 + i0 + x)) → Wp g (d + 2) mX7_copy 121 [.ref 102, .int (nI s0), .int (nI i0), .int (nI o0), .int (nI j0), .int (nI m0), .int 0, .int (nI k), x8] [] 0 0 n I2 J R (PdM n I R (.int (zI (m0 : Nat))) (wSh σ o0 (qso σ o0) (qzs σ o0) (va_cpy (qit σ s0) (qit σ o0) i0 j0 m0))) := by
    intro s0 i0 o0 j0 m0 hs4 ho4 n1 n2 l1 l2 z1 z2 hc q
    induction q with
    | zero =>
      intro k x8 I2 hk hF hp hx
      have ek : k = m0 := hk
      subst ek
      refine r_iload dX7_copy_121 rfl ?_
      refine r_iload dX7_copy_123 rfl ?_
      refine r_nicmp_ge  (tgt := 182) dX7_copy_125 (by decide) rfl rfl (by omega) (by omega) (fun h125 => ?_) (fun h125 => absurd h125 (by omega))
      exact fin s0 i0 o0 j0 k _ _ _ I2 hs4 ho4 n1 n2 l1 l2 hF (fun p h => hp p (by omega)) fun x h => hx x h
    | succ q ih =>
      intro k x8 I2 hk hF hp hx
      refine r_iload dX7_copy_121 rfl ?_
      refine r_iload dX7_copy_123 rfl ?_
      refine r_nicmp_ge  (tgt := 182) dX7_copy_125 (by decide) rfl rfl (by omega) (by omega) (fun h125 => absurd h125 (by omega)) (fun h125 => ?_)
      refine r_iload dX7_copy_128 rfl ?_
      refine r_if_eq (tgt := 143) dX7_copy_130 (by decide) (fun h130 => ?_) (fun h130 => absurd (by decide) h130)
      refine r_iload dX7_copy_143 rfl ?_
      refine r_istore dX7_copy_145 (by decide) rfl ?_
      refine r_aload_n dX7_copy_147 rfl ?_
      refine r_getR (b := 117) dX7_copy_148 f_X7_60 (hsh.al rfl (by decide)) (Or.inl ⟨_, rfl⟩) (hsh.r 102 44 117 (by decide)) (by decide) ?_
      refine r_bipush (v := 40) dX7_copy_151 (by decide) ?_
      refine r_iload_n dX7_copy_153 rfl ?_
      refine r_nimul (a := 40) dX7_copy_154 rfl rfl ?_
      refine r_iload dX7_copy_155 rfl ?_
      refine r_niadd dX7_copy_157 rfl rfl ?_
      refine r_iload dX7_copy_158 rfl ?_
      refine r_niadd dX7_copy_160 rfl rfl ?_
      refine r_aload_n dX7_copy_161 rfl ?_
      refine r_getR (b := 117) dX7_copy_162 f_X7_60 (hsh.al rfl (by decide)) (Or.inl ⟨_, rfl⟩) (hsh.r 102 44 117 (by decide)) (by decide) ?_
      refine r_bipush (v := 40) dX7_copy_165 (by decide) ?_
      refine r_iload_n dX7_copy_167 rfl ?_
      refine r_nimul (a := 40) dX7_copy_168 rfl rfl ?_
      refine r_iload_n dX7_copy_169 rfl ?_
      refine r_niadd dX7_copy_170 rfl rfl ?_
      refine r_iload dX7_copy_171 rfl ?_
      refine r_niadd dX7_copy_173 rfl rfl ?_
      refine r_ialdE (j := (40 * s0 + i0 + k)) dX7_copy_174 (hsh.al rfl (by decide)) (by omega) rfl (hp _ (by omega)) ?_
      refine r_iast (j := (40 * o0 + j0 + k)) dX7_copy_175 (hsh.al rfl (by decide)) (by omega) rfl ?_
      refine r_iincE (b := (k + 1)) dX7_copy_176 rfl rfl (nI_succ _).symm rfl ?_
      refine r_goto (tgt := 121) dX7_copy_179 (by decide) ?_
      refine ih (k + 1) _ _ (by omega) (fun a ha => by rw [up2_a _ _ _ ha]; exact hF a ha) (fun p h => by rw [up2_k _ _ (by omega)]; exact hp p (by omega)) fun x h => ?_
      by_cases e : x = k
      · rw [e, up2_at]
      · rw [up2_k _ _ (by omega)]; exact hx x (by omega)
  have dsc : ∀ (s0 i0 o0 j0 m0 : Nat), s0 < 4 → o0 < 4 → qso σ s0 ≠ -1 → qso σ o0 ≠ -1 → i0 + m0 ≤ qzs σ s0 → j0 + m0 ≤ qzs σ o0 → qzs σ s0 ≤ 40 → qzs σ o0 ≤ 40 → (s0 = o0 ∧ i0 < j0) → ∀ q k x8 I2, k + q = m0 → (∀ a, a ≠ 117 → I2 a = I a) → (∀ p, (p < 40 * o0 + j0 + (m0 - k) ∨ 40 * o0 + j0 + m0 ≤ p) → I2 117 p = I 117 p) → (∀ x, m0 - k ≤ x → x < m0 → I2 117 (40 * o0 + j0 + x) = I 117 (40 * s0 + i0 + x)) → Wp g (d + 2) mX7_copy 121 [.ref 102, .int (nI s0), .int (nI i0), .int (nI o0), .int (nI j0), .int (nI m0), .int 1, .int (nI k), x8] [] 0 0 n I2 J R (PdM n I R (.int (zI (m0 : Nat))) (wSh σ o0 (qso σ o0) (qzs σ o0) (va_cpy (qit σ s0) (qit σ o0) i0 j0 m0))) := by
    intro s0 i0 o0 j0 m0 hs4 ho4 n1 n2 l1 l2 z1 z2 hc q
    induction q with
    | zero =>
      intro k x8 I2 hk hF hp hx
      have ek : k = m0 := hk
      subst ek
      refine r_iload dX7_copy_121 rfl ?_
      refine r_iload dX7_copy_123 rfl ?_
      refine r_nicmp_ge  (tgt := 182) dX7_copy_125 (by decide) rfl rfl (by omega) (by omega) (fun h125 => ?_) (fun h125 => absurd h125 (by omega))
      exact fin s0 i0 o0 j0 k _ _ _ I2 hs4 ho4 n1 n2 l1 l2 hF (fun p h => hp p (by omega)) fun x h => hx x (by omega) h
    | succ q ih =>
      intro k x8 I2 hk hF hp hx
      refine r_iload dX7_copy_121 rfl ?_
      refine r_iload dX7_copy_123 rfl ?_
      refine r_nicmp_ge  (tgt := 182) dX7_copy_125 (by decide) rfl rfl (by omega) (by omega) (fun h125 => absurd h125 (by omega)) (fun h125 => ?_)
      refine r_iload dX7_copy_128 rfl ?_
      refine r_if_eq (tgt := 143) dX7_copy_130 (by decide) (fun h130 => absurd h130 (by decide)) (fun h130 => ?_)
      refine r_iload dX7_copy_133 rfl ?_
      refine r_iconst (v := 1) dX7_copy_135 (by decide) ?_
      refine r_nisub (b := 1) dX7_copy_136 rfl rfl (by omega) ?_
      refine r_iload dX7_copy_137 rfl ?_
      refine r_nisub dX7_copy_139 rfl rfl (by omega) ?_
      refine r_goto (tgt := 145) dX7_copy_140 (by decide) ?_
      refine r_istore dX7_copy_145 (by decide) rfl ?_
      refine r_aload_n dX7_copy_147 rfl ?_
      refine r_getR (b := 117) dX7_copy_148 f_X7_60 (hsh.al rfl (by decide)) (Or.inl ⟨_, rfl⟩) (hsh.r 102 44 117 (by decide)) (by decide) ?_
      refine r_bipush (v := 40) dX7_copy_151 (by decide) ?_
      refine r_iload_n dX7_copy_153 rfl ?_
      refine r_nimul (a := 40) dX7_copy_154 rfl rfl ?_
      refine r_iload dX7_copy_155 rfl ?_
      refine r_niadd dX7_copy_157 rfl rfl ?_
      refine r_iload dX7_copy_158 rfl ?_
      refine r_niadd dX7_copy_160 rfl rfl ?_
      refine r_aload_n dX7_copy_161 rfl ?_
      refine r_getR (b := 117) dX7_copy_162 f_X7_60 (hsh.al rfl (by decide)) (Or.inl ⟨_, rfl⟩) (hsh.r 102 44 117 (by decide)) (by decide) ?_
      refine r_bipush (v := 40) dX7_copy_165 (by decide) ?_
      refine r_iload_n dX7_copy_167 rfl ?_
      refine r_nimul (a := 40) dX7_copy_168 rfl rfl ?_
      refine r_iload_n dX7_copy_169 rfl ?_
      refine r_niadd dX7_copy_170 rfl rfl ?_
      refine r_iload dX7_copy_171 rfl ?_
      refine r_niadd dX7_copy_173 rfl rfl ?_
      refine r_ialdE (j := (40 * s0 + i0 + (m0 - 1 - k))) dX7_copy_174 (hsh.al rfl (by decide)) (by omega) rfl (hp _ (by omega)) ?_
      refine r_iast (j := (40 * o0 + j0 + (m0 - 1 - k))) dX7_copy_175 (hsh.al rfl (by decide)) (by omega) rfl ?_
      refine r_iincE (b := (k + 1)) dX7_copy_176 rfl rfl (nI_succ _).symm rfl ?_
      refine r_goto (tgt := 121) dX7_copy_179 (by decide) ?_
      refine ih (k + 1) _ _ (by omega) (fun a ha => by rw [up2_a _ _ _ ha]; exact hF a ha) (fun p h => by rw [up2_k _ _ (by omega)]; exact hp p (by omega)) fun x h h2 => ?_
      by_cases e : x = m0 - 1 - k
      · rw [e, up2_at]
      · rw [up2_k _ _ (by omega)]; exact hx x (by omega) h2
  refine r_iload_n dX7_copy_0 rfl ?_
  refine r_callS1I dX7_copy_1 moX7_isSheet w_1118 w_1119 (Nat.le_of_ble_eq_true rfl) (Nat.le_of_ble_eq_true rfl) (S_mIsSheet hs) ?_
  refine r_ifb_eq (tgt := 14) dX7_copy_4 (by decide) (fun h4 => ?_) (fun h4 => ?_)
  · rw [decide_eq_false_iff_not] at h4
    refine r_bipush (v := (-2)) dX7_copy_14 (by decide) ?_
    refine r_iret dX7_copy_16 rfl ?_
    have e0 : copyB σ s i o j m = -2 := if_neg (by omega)
    have e4 : copyS σ s i o j m = σ := if_neg (by omega)
    rw [e0, e4]
    exact PdM.rf hM
  · rw [decide_eq_true_eq] at h4
    refine r_iload_n dX7_copy_7 rfl ?_
    refine r_callS1I dX7_copy_8 moX7_isSheet w_1118 w_1119 (Nat.le_of_ble_eq_true rfl) (Nat.le_of_ble_eq_true rfl) (S_mIsSheet ho) ?_
    refine r_ifb_ne (tgt := 17) dX7_copy_11 (by decide) (fun h11 => ?_) (fun h11 => ?_)
    · rw [decide_eq_true_eq] at h11
      obtain ⟨s0, es0⟩ := Int.eq_ofNat_of_zero_le (show 0 ≤ s by omega)
      obtain ⟨o0, eo0⟩ := Int.eq_ofNat_of_zero_le (show 0 ≤ o by omega)
      subst es0 eo0
      have e7 := nz s0
      have e8 := nz o0
      rw [← e7, ← e8]
      obtain ⟨t1, b1, t234⟩ := hM.sht s0 (by omega)
      obtain ⟨u1, c1, u234⟩ := hM.sht o0 (by omega)
      refine r_aload_n dX7_copy_17 rfl ?_
      refine r_getR (b := 114) dX7_copy_18 f_X7_50 (hsh.al rfl (by decide)) (Or.inl ⟨_, rfl⟩) (hsh.r 102 41 114 (by decide)) (by decide) ?_
      refine r_iload_n dX7_copy_21 rfl ?_
      refine r_zald (j := s0) dX7_copy_22 (hsh.al rfl (by decide)) (by omega) rfl ?_
      refine r_top t1 ?_
      refine r_ifb_eq (tgt := 35) dX7_copy_23 (by decide) (fun h23 => ?_) (fun h23 => ?_)
      · rw [decide_eq_false_iff_not, Decidable.not_not] at h23
        refine r_bipush (v := (-11)) dX7_copy_35 (by decide) ?_
        refine r_iret dX7_copy_37 rfl ?_
        have e0 : copyB σ s0 i o0 j m = -11 := by unfold copyB; rw [if_pos (by omega), Int.toNat_natCast, Int.toNat_natCast, if_pos (Or.inl h23)]
        have e4 : copyS σ s0 i o0 j m = σ := by unfold copyS; rw [if_pos (by omega), Int.toNat_natCast, Int.toNat_natCast, if_pos (Or.inl h23)]
        rw [e0, e4]
        exact PdM.rf hM
      · rw [decide_eq_true_eq] at h23
        obtain ⟨t2, t3, t4⟩ := t234 h23
        refine r_aload_n dX7_copy_26 rfl ?_
        refine r_getR (b := 114) dX7_copy_27 f_X7_50 (hsh.al rfl (by decide)) (Or.inl ⟨_, rfl⟩) (hsh.r 102 41 114 (by decide)) (by decide) ?_
        refine r_iload_n dX7_copy_30 rfl ?_
        refine r_zald (j := o0) dX7_copy_31 (hsh.al rfl (by decide)) (by omega) rfl ?_
        refine r_top u1 ?_
        refine r_ifb_ne (tgt := 38) dX7_copy_32 (by decide) (fun h32 => ?_) (fun h32 => ?_)
        · rw [decide_eq_true_eq] at h32
          obtain ⟨u2, u3, u4⟩ := u234 h32
          refine r_aload_n dX7_copy_38 rfl ?_
          refine r_getR (b := 115) dX7_copy_39 f_X7_54 (hsh.al rfl (by decide)) (Or.inl ⟨_, rfl⟩) (hsh.r 102 42 115 (by decide)) (by decide) ?_
          refine r_iload_n dX7_copy_42 rfl ?_
          refine r_ialdE (j := s0) dX7_copy_43 (hsh.al rfl (by decide)) (by omega) rfl t2 ?_
          refine r_aload_n dX7_copy_44 rfl ?_
          refine r_getR (b := 115) dX7_copy_45 f_X7_54 (hsh.al rfl (by decide)) (Or.inl ⟨_, rfl⟩) (hsh.r 102 42 115 (by decide)) (by decide) ?_
          refine r_iload_n dX7_copy_48 rfl ?_
          refine r_ialdE (j := o0) dX7_copy_49 (hsh.al rfl (by decide)) (by omega) rfl u2 ?_
          refine r_zicmp_eq  (tgt := 56) dX7_copy_50 (by decide) rfl rfl (by unfold inZ; omega) (by unfold inZ; omega) (fun h50 => ?_) (fun h50 => ?_)
          · refine r_iload dX7_copy_56 rfl ?_
            refine r_zif_lt (tgt := 97) dX7_copy_58 (by decide) rfl hm (fun h58 => ?_) (fun h58 => ?_)
            · refine r_bipush (v := (-12)) dX7_copy_97 (by decide) ?_
              refine r_iret dX7_copy_99 rfl ?_
              have e0 : copyB σ s0 i o0 j m = -12 := by unfold copyB; rw [if_pos (by omega), Int.toNat_natCast, Int.toNat_natCast, if_neg (by omega), if_neg (by omega), if_neg (by omega)]
              have e4 : copyS σ s0 i o0 j m = σ := by unfold copyS; rw [if_pos (by omega), Int.toNat_natCast, Int.toNat_natCast, if_neg (by omega), if_neg (by omega), if_neg (by omega)]
              rw [e0, e4]
              exact PdM.rf hM
            · refine r_iload_n dX7_copy_61 rfl ?_
              refine r_zif_lt (tgt := 97) dX7_copy_62 (by decide) rfl hi (fun h62 => ?_) (fun h62 => ?_)
              · refine r_bipush (v := (-12)) dX7_copy_97 (by decide) ?_
                refine r_iret dX7_copy_99 rfl ?_
                have e0 : copyB σ s0 i o0 j m = -12 := by unfold copyB; rw [if_pos (by omega), Int.toNat_natCast, Int.toNat_natCast, if_neg (by omega), if_neg (by omega), if_neg (by omega)]
                have e4 : copyS σ s0 i o0 j m = σ := by unfold copyS; rw [if_pos (by omega), Int.toNat_natCast, Int.toNat_natCast, if_neg (by omega), if_neg (by omega), if_neg (by omega)]
                rw [e0, e4]
                exact PdM.rf hM
              · refine r_iload dX7_copy_65 rfl ?_
                refine r_zif_lt (tgt := 97) dX7_copy_67 (by decide) rfl hj (fun h67 => ?_) (fun h67 => ?_)
                · refine r_bipush (v := (-12)) dX7_copy_97 (by decide) ?_
                  refine r_iret dX7_copy_99 rfl ?_
                  have e0 : copyB σ s0 i o0 j m = -12 := by unfold copyB; rw [if_pos (by omega), Int.toNat_natCast, Int.toNat_natCast, if_neg (by omega), if_neg (by omega), if_neg (by omega)]
                  have e4 : copyS σ s0 i o0 j m = σ := by unfold copyS; rw [if_pos (by omega), Int.toNat_natCast, Int.toNat_natCast, if_neg (by omega), if_neg (by omega), if_neg (by omega)]
                  rw [e0, e4]
                  exact PdM.rf hM
                · refine r_iload_n dX7_copy_70 rfl ?_
                  refine r_aload_n dX7_copy_71 rfl ?_
                  refine r_getR (b := 116) dX7_copy_72 f_X7_57 (hsh.al rfl (by decide)) (Or.inl ⟨_, rfl⟩) (hsh.r 102 43 116 (by decide)) (by decide) ?_
                  refine r_iload_n dX7_copy_75 rfl ?_
                  refine r_ialdE (j := s0) dX7_copy_76 (hsh.al rfl (by decide)) (by omega) rfl t3 ?_
                  refine r_iload dX7_copy_77 rfl ?_
                  refine r_zisub dX7_copy_79 (nz _) rfl ?_
                  refine r_zicmp_gt  (tgt := 97) dX7_copy_80 (by decide) rfl rfl hi (by unfold inZ at *; omega) (fun h80 => ?_) (fun h80 => ?_)
                  · refine r_bipush (v := (-12)) dX7_copy_97 (by decide) ?_
                    refine r_iret dX7_copy_99 rfl ?_
                    have e0 : copyB σ s0 i o0 j m = -12 := by unfold copyB; rw [if_pos (by omega), Int.toNat_natCast, Int.toNat_natCast, if_neg (by omega), if_neg (by omega), if_neg (by omega)]
                    have e4 : copyS σ s0 i o0 j m = σ := by unfold copyS; rw [if_pos (by omega), Int.toNat_natCast, Int.toNat_natCast, if_neg (by omega), if_neg (by omega), if_neg (by omega)]
                    rw [e0, e4]
                    exact PdM.rf hM
                  · refine r_iload dX7_copy_83 rfl ?_
                    refine r_aload_n dX7_copy_85 rfl ?_
                    refine r_getR (b := 116) dX7_copy_86 f_X7_57 (hsh.al rfl (by decide)) (Or.inl ⟨_, rfl⟩) (hsh.r 102 43 116 (by decide)) (by decide) ?_
                    refine r_iload_n dX7_copy_89 rfl ?_
                    refine r_ialdE (j := o0) dX7_copy_90 (hsh.al rfl (by decide)) (by omega) rfl u3 ?_
                    refine r_iload dX7_copy_91 rfl ?_
                    refine r_zisub dX7_copy_93 (nz _) rfl ?_
                    refine r_zicmp_le  (tgt := 100) dX7_copy_94 (by decide) rfl rfl hj (by unfold inZ at *; omega) (fun h94 => ?_) (fun h94 => ?_)
                    · obtain ⟨i0, ei0⟩ := Int.eq_ofNat_of_zero_le (show 0 ≤ i by omega)
                      subst ei0
                      rw [← nz i0]
                      obtain ⟨j0, ej0⟩ := Int.eq_ofNat_of_zero_le (show 0 ≤ j by omega)
                      subst ej0
                      rw [← nz j0]
                      obtain ⟨m0, em0⟩ := Int.eq_ofNat_of_zero_le (show 0 ≤ m by omega)
                      subst em0
                      rw [← nz m0]
                      have e0 : copyB σ s0 i0 o0 j0 m0 = (m0 : Nat) := by unfold copyB; rw [if_pos (by omega), Int.toNat_natCast, Int.toNat_natCast, if_neg (by omega), if_neg (by omega), if_pos (by omega)]
                      have e4 : copyS σ s0 i0 o0 j0 m0 = wSh σ o0 (qso σ o0) (qzs σ o0) (va_cpy (qit σ s0) (qit σ o0) i0 j0 m0) := by unfold copyS; rw [if_pos (by omega), Int.toNat_natCast, Int.toNat_natCast, if_neg (by omega), if_neg (by omega), if_pos (by omega)]; rfl
                      rw [e0, e4]
                      refine r_iload_n dX7_copy_100 rfl ?_
                      refine r_iload_n dX7_copy_101 rfl ?_
                      refine r_nicmp_ne  (tgt := 115) dX7_copy_102 (by decide) rfl rfl (by omega) (by omega) (fun h102 => ?_) (fun h102 => ?_)
                      · refine r_iconst (v := 0) dX7_copy_115 (by decide) ?_
                        refine r_istore dX7_copy_116 (by decide) rfl ?_
                        refine r_iconst (v := 0) dX7_copy_118 (by decide) ?_
                        refine r_istore dX7_copy_119 (by decide) rfl ?_
                        exact asc s0 i0 o0 j0 m0 (by omega) (by omega) h23 h32 (by omega) (by omega) (by omega) (by omega) (by omega) m0 0 _ I (Nat.zero_add _) (fun _ _ => rfl) (fun _ _ => rfl) fun x h => absurd h (Nat.not_lt_zero _)
                      · refine r_iload_n dX7_copy_105 rfl ?_
                        refine r_iload dX7_copy_106 rfl ?_
                        refine r_nicmp_ge  (tgt := 115) dX7_copy_108 (by decide) rfl rfl (by omega) (by omega) (fun h108 => ?_) (fun h108 => ?_)
                        · refine r_iconst (v := 0) dX7_copy_115 (by decide) ?_
                          refine r_istore dX7_copy_116 (by decide) rfl ?_
                          refine r_iconst (v := 0) dX7_copy_118 (by decide) ?_
                          refine r_istore dX7_copy_119 (by decide) rfl ?_
                          exact asc s0 i0 o0 j0 m0 (by omega) (by omega) h23 h32 (by omega) (by omega) (by omega) (by omega) (by omega) m0 0 _ I (Nat.zero_add _) (fun _ _ => rfl) (fun _ _ => rfl) fun x h => absurd h (Nat.not_lt_zero _)
                        · refine r_iconst (v := 1) dX7_copy_111 (by decide) ?_
                          refine r_goto (tgt := 116) dX7_copy_112 (by decide) ?_
                          refine r_istore dX7_copy_116 (by decide) rfl ?_
                          refine r_iconst (v := 0) dX7_copy_118 (by decide) ?_
                          refine r_istore dX7_copy_119 (by decide) rfl ?_
                          exact dsc s0 i0 o0 j0 m0 (by omega) (by omega) h23 h32 (by omega) (by omega) (by omega) (by omega) (by omega) m0 0 _ I (Nat.zero_add _) (fun _ _ => rfl) (fun _ _ => rfl) fun x h h2 => absurd h (by omega)
                    · refine r_bipush (v := (-12)) dX7_copy_97 (by decide) ?_
                      refine r_iret dX7_copy_99 rfl ?_
                      have e0 : copyB σ s0 i o0 j m = -12 := by unfold copyB; rw [if_pos (by omega), Int.toNat_natCast, Int.toNat_natCast, if_neg (by omega), if_neg (by omega), if_neg (by omega)]
                      have e4 : copyS σ s0 i o0 j m = σ := by unfold copyS; rw [if_pos (by omega), Int.toNat_natCast, Int.toNat_natCast, if_neg (by omega), if_neg (by omega), if_neg (by omega)]
                      rw [e0, e4]
                      exact PdM.rf hM
          · refine r_bipush (v := (-13)) dX7_copy_53 (by decide) ?_
            refine r_iret dX7_copy_55 rfl ?_
            have e0 : copyB σ s0 i o0 j m = -13 := by unfold copyB; rw [if_pos (by omega), Int.toNat_natCast, Int.toNat_natCast, if_neg (by omega), if_pos h50]
            have e4 : copyS σ s0 i o0 j m = σ := by unfold copyS; rw [if_pos (by omega), Int.toNat_natCast, Int.toNat_natCast, if_neg (by omega), if_pos h50]
            rw [e0, e4]
            exact PdM.rf hM
        · rw [decide_eq_false_iff_not, Decidable.not_not] at h32
          refine r_bipush (v := (-11)) dX7_copy_35 (by decide) ?_
          refine r_iret dX7_copy_37 rfl ?_
          have e0 : copyB σ s0 i o0 j m = -11 := by unfold copyB; rw [if_pos (by omega), Int.toNat_natCast, Int.toNat_natCast, if_pos (Or.inr h32)]
          have e4 : copyS σ s0 i o0 j m = σ := by unfold copyS; rw [if_pos (by omega), Int.toNat_natCast, Int.toNat_natCast, if_pos (Or.inr h32)]
          rw [e0, e4]
          exact PdM.rf hM
    · rw [decide_eq_false_iff_not] at h11
      refine r_bipush (v := (-2)) dX7_copy_14 (by decide) ?_
      refine r_iret dX7_copy_16 rfl ?_
      have e0 : copyB σ s i o j m = -2 := if_neg (by omega)
      have e4 : copyS σ s i o j m = σ := if_neg (by omega)
      rw [e0, e4]
      exact PdM.rf hM
set_option maxRecDepth 20000 in
set_option maxHeartbeats 4000000 in
theorem S_mSights {g : GP} {d n : Nat} {I : TI} {J : TJ} {R : TR} {σ : CSt} (hM : MdS n I R σ) {s so f m : Int} (hs : inZ s) (hso : inZ so) (hf : inZ f) (hm : inZ m) : Wp g (d + 2) mX7_sights 0 [.ref 102, .int (zI s), .int (zI so), .int (zI f), .int (zI m), .null, .null, .null] [] 0 0 n I J R (PdM n I R (.int (zI (sigsV σ s so f m).1)) (sigsV σ s so f m).2) := by
  have hsh := hM.sh
  have hN := hM.p.mn
  have wf := hM.wf
  have hz := wf.2.2.1
  have loop : ∀ s0 m0, s0 < 4 → m0 < 8 → ∀ q came k I2 J2 τ x7, k + q = m0 → MdS n I2 R τ → (∀ a, a < 102 → I2 a = I a) → (k = 0 ∨ 0 ≤ f) → qso τ s0 ≠ -1 → Wp g (d + 2) mX7_sights 75 [.ref 102, .int (nI s0), .int (zI so), .int (zI f), .int (nI m0), .int (nI came), .int (nI k), x7] [] 0 0 n I2 J2 R (PdM n I R (.int (zI (sgsN s0 q (f + 3 * (k : Int)) came τ).1)) (sgsN s0 q (f + 3 * (k : Int)) came τ).2) := by
    intro s0 m0 hs4 hm8 q
    induction q with
    | zero =>
      intro came k I2 J2 τ x7 hk hT hF hf0 hne
      refine r_iload dX7_sights_75 rfl ?_
      refine r_iload dX7_sights_77 rfl ?_
      refine r_nicmp_ge  (tgt := 167) dX7_sights_79 (by decide) rfl rfl (by omega) (by omega) (fun h79 => ?_) (fun h79 => absurd h79 (by omega))
      refine r_iload dX7_sights_167 rfl ?_
      refine r_iret dX7_sights_169 rfl ?_
      exact PdM.to hT hF
    | succ q ih =>
      intro came k I2 J2 τ x7 hk hT hF hf0 hne
      have hsh := hT.sh
      obtain ⟨t1, b1, t234⟩ := hT.sht s0 hs4
      obtain ⟨t2, t3, t4⟩ := t234 hne
      have hz2 := hT.wf.2.2.1
      refine r_iload dX7_sights_75 rfl ?_
      refine r_iload dX7_sights_77 rfl ?_
      refine r_nicmp_ge  (tgt := 167) dX7_sights_79 (by decide) rfl rfl (by omega) (by omega) (fun h79 => absurd h79 (by omega)) (fun h79 => ?_)
      refine r_iload_n dX7_sights_82 rfl ?_
      refine r_zif_lt (tgt := 103) dX7_sights_83 (by decide) rfl hf (fun h83 => ?_) (fun h83 => ?_)
      · refine r_bipush (v := (-12)) dX7_sights_103 (by decide) ?_
        refine r_iret dX7_sights_105 rfl ?_
        have e0 : sgsN s0 (q + 1) (f + 3 * (k : Int)) came τ = (-12, τ) := if_neg (by omega)
        rw [e0]
        exact PdM.to hT hF
      · refine r_iload_n dX7_sights_86 rfl ?_
        refine r_aload_n dX7_sights_87 rfl ?_
        refine r_getR (b := 116) dX7_sights_88 f_X7_57 (hsh.al rfl (by decide)) (Or.inl ⟨_, rfl⟩) (hsh.r 102 43 116 (by decide)) (by decide) ?_
        refine r_iload_n dX7_sights_91 rfl ?_
        refine r_ialdE (j := s0) dX7_sights_92 (hsh.al rfl (by decide)) (by omega) rfl t3 ?_
        refine r_iconst (v := 3) dX7_sights_93 (by decide) ?_
        refine r_iload dX7_sights_94 rfl ?_
        refine r_nimul (a := 3) dX7_sights_96 rfl rfl ?_
        refine r_zisub dX7_sights_97 (nz _) (nz _) ?_
        refine r_iconst (v := 3) dX7_sights_98 (by decide) ?_
        refine r_zisub (b := 3) dX7_sights_99 rfl (by decide) ?_
        refine r_zicmp_le  (tgt := 106) dX7_sights_100 (by decide) rfl rfl hf (by unfold inZ; omega) (fun h100 => ?_) (fun h100 => ?_)
        · obtain ⟨f0, ef0⟩ := Int.eq_ofNat_of_zero_le (show 0 ≤ f by omega)
          subst ef0
          rw [← nz f0]
          have e0 : sgsN s0 (q + 1) (((f0 : Nat) : Int) + 3 * (k : Int)) came τ = sgsN s0 q (((f0 : Nat) : Int) + 3 * (k : Int) + 3) (if 0 ≤ sighV τ (qit τ s0 (f0 + 3 * k)).toInt (qit τ s0 (f0 + 3 * k + 1)).toInt (qit τ s0 (f0 + 3 * k + 2)).toInt then came + 1 else came) (sighS τ (qit τ s0 (f0 + 3 * k)).toInt (qit τ s0 (f0 + 3 * k + 1)).toInt (qit τ s0 (f0 + 3 * k + 2)).toInt) := by
            have e6 : (((f0 : Nat) : Int) + 3 * (k : Int)).toNat = f0 + 3 * k := by omega
            show (if _ then _ else _) = _
            rw [if_pos (by omega), e6]
          have hv := sighV_in hz2 (qit τ s0 (f0 + 3 * k)).toInt (qit τ s0 (f0 + 3 * k + 1)).toInt (qit τ s0 (f0 + 3 * k + 2)).toInt
          refine r_bipush (v := 40) dX7_sights_106 (by decide) ?_
          refine r_iload_n dX7_sights_108 rfl ?_
          refine r_nimul (a := 40) dX7_sights_109 rfl rfl ?_
          refine r_iload_n dX7_sights_110 rfl ?_
          refine r_niadd dX7_sights_111 rfl rfl ?_
          refine r_iconst (v := 3) dX7_sights_112 (by decide) ?_
          refine r_iload dX7_sights_113 rfl ?_
          refine r_nimul (a := 3) dX7_sights_115 rfl rfl ?_
          refine r_niadd dX7_sights_116 rfl rfl ?_
          refine r_istore dX7_sights_117 (by decide) rfl ?_
          refine r_iload dX7_sights_119 rfl ?_
          refine r_aload_n dX7_sights_121 rfl ?_
          refine r_aload_n dX7_sights_122 rfl ?_
          refine r_getR (b := 117) dX7_sights_123 f_X7_60 (hsh.al rfl (by decide)) (Or.inl ⟨_, rfl⟩) (hsh.r 102 44 117 (by decide)) (by decide) ?_
          refine r_iload dX7_sights_126 rfl ?_
          refine r_iald (j := (40 * s0 + f0 + 3 * k)) dX7_sights_128 (hsh.al rfl (by decide)) (by omega) rfl ?_
          refine r_top (v := zI (qit τ s0 (f0 + 3 * k)).toInt) (by rw [show 40 * s0 + f0 + 3 * k = 40 * s0 + (f0 + 3 * k) by omega, t4 _ (by omega), zI_tI]) ?_
          refine r_aload_n dX7_sights_129 rfl ?_
          refine r_getR (b := 117) dX7_sights_130 f_X7_60 (hsh.al rfl (by decide)) (Or.inl ⟨_, rfl⟩) (hsh.r 102 44 117 (by decide)) (by decide) ?_
          refine r_iload dX7_sights_133 rfl ?_
          refine r_iconst (v := 1) dX7_sights_135 (by decide) ?_
          refine r_niadd (b := 1) dX7_sights_136 rfl rfl ?_
          refine r_iald (j := (40 * s0 + f0 + 3 * k + 1)) dX7_sights_137 (hsh.al rfl (by decide)) (by omega) rfl ?_
          refine r_top (v := zI (qit τ s0 (f0 + 3 * k + 1)).toInt) (by rw [show 40 * s0 + f0 + 3 * k + 1 = 40 * s0 + (f0 + 3 * k + 1) by omega, t4 _ (by omega), zI_tI]) ?_
          refine r_aload_n dX7_sights_138 rfl ?_
          refine r_getR (b := 117) dX7_sights_139 f_X7_60 (hsh.al rfl (by decide)) (Or.inl ⟨_, rfl⟩) (hsh.r 102 44 117 (by decide)) (by decide) ?_
          refine r_iload dX7_sights_142 rfl ?_
          refine r_iconst (v := 2) dX7_sights_144 (by decide) ?_
          refine r_niadd (b := 2) dX7_sights_145 rfl rfl ?_
          refine r_iald (j := (40 * s0 + f0 + 3 * k + 2)) dX7_sights_146 (hsh.al rfl (by decide)) (by omega) rfl ?_
          refine r_top (v := zI (qit τ s0 (f0 + 3 * k + 2)).toInt) (by rw [show 40 * s0 + f0 + 3 * k + 2 = 40 * s0 + (f0 + 3 * k + 2) by omega, t4 _ (by omega), zI_tI]) ?_
          refine r_callV3N dX7_sights_147 moX7_sight w_1237 w_954 w_955 (hsh.al rfl (by decide)) cl7 rfl (Nat.le_of_ble_eq_true rfl) (Nat.le_of_ble_eq_true rfl) (S_mSight hT (tI_inZ _) (tI_inZ _) (tI_inZ _)) (fun r n I3 J R hq => ?_)
          obtain ⟨rfl, rfl, rfl, g1, g2⟩ := hq
          refine r_some rfl ?_
          refine r_zif_lt (tgt := 157) dX7_sights_150 (by decide) rfl (by unfold inZ; omega) (fun h150 => ?_) (fun h150 => ?_)
          · refine r_iconst (v := 0) dX7_sights_157 (by decide) ?_
            refine r_niadd (b := 0) dX7_sights_158 rfl rfl ?_
            refine r_istore dX7_sights_159 (by decide) rfl ?_
            refine r_iincE (b := (k + 1)) dX7_sights_161 rfl rfl (nI_succ _).symm rfl ?_
            refine r_goto (tgt := 75) dX7_sights_164 (by decide) ?_
            rw [e0, if_neg (by omega)]
            have e5 : ((f0 : Nat) : Int) + 3 * (k : Int) + 3 = ((f0 : Nat) : Int) + 3 * ((k + 1 : Nat) : Int) := by omega
            rw [e5]
            exact ih came (k + 1) _ _ _ _ (by omega) g1 (fun a ha => (g2 a ha).trans (hF a ha)) (Or.inr (by omega)) (by rw [(sighS_sh τ _ _ _).1]; exact hne)
          · refine r_iconst (v := 1) dX7_sights_153 (by decide) ?_
            refine r_goto (tgt := 158) dX7_sights_154 (by decide) ?_
            refine r_niadd (b := 1) dX7_sights_158 rfl rfl ?_
            refine r_istore dX7_sights_159 (by decide) rfl ?_
            refine r_iincE (b := (k + 1)) dX7_sights_161 rfl rfl (nI_succ _).symm rfl ?_
            refine r_goto (tgt := 75) dX7_sights_164 (by decide) ?_
            rw [e0, if_pos (by omega)]
            have e5 : ((f0 : Nat) : Int) + 3 * (k : Int) + 3 = ((f0 : Nat) : Int) + 3 * ((k + 1 : Nat) : Int) := by omega
            rw [e5]
            exact ih (came + 1) (k + 1) _ _ _ _ (by omega) g1 (fun a ha => (g2 a ha).trans (hF a ha)) (Or.inr (by omega)) (by rw [(sighS_sh τ _ _ _).1]; exact hne)
        · refine r_bipush (v := (-12)) dX7_sights_103 (by decide) ?_
          refine r_iret dX7_sights_105 rfl ?_
          have e0 : sgsN s0 (q + 1) (f + 3 * (k : Int)) came τ = (-12, τ) := if_neg (by omega)
          rw [e0]
          exact PdM.to hT hF
  refine r_iload_n dX7_sights_0 rfl ?_
  refine r_callS1I dX7_sights_1 moX7_isSheet w_1118 w_1119 (Nat.le_of_ble_eq_true rfl) (Nat.le_of_ble_eq_true rfl) (S_mIsSheet hs) ?_
  refine r_ifb_eq (tgt := 32) dX7_sights_4 (by decide) (fun h4 => ?_) (fun h4 => ?_)
  · rw [decide_eq_false_iff_not] at h4
    refine r_bipush (v := (-2)) dX7_sights_32 (by decide) ?_
    refine r_iret dX7_sights_34 rfl ?_
    have e0 : sigsV σ s so f m = (-2, σ) := if_neg (by omega)
    rw [e0]
    exact PdM.rf hM
  · rw [decide_eq_true_eq] at h4
    refine r_iload_n dX7_sights_7 rfl ?_
    refine r_zi2l dX7_sights_8 rfl hso ?_
    refine r_lconst (v := 0) dX7_sights_9 (by decide) ?_
    refine r_ldc2 dX7_sights_10 w_1195 ?_
    refine r_callS3I dX7_sights_13 moX7_in w_930 w_931 (Nat.le_of_ble_eq_true rfl) (Nat.le_of_ble_eq_true rfl) (S_in3 (z := so) (lo := 0) (hi := 2) hso (by decide) (by decide) (by unfold inZ; omega) (by unfold inZ; omega)) ?_
    refine r_ifb_eq (tgt := 32) dX7_sights_16 (by decide) (fun h16 => ?_) (fun h16 => ?_)
    · rw [decide_eq_false_iff_not] at h16
      refine r_bipush (v := (-2)) dX7_sights_32 (by decide) ?_
      refine r_iret dX7_sights_34 rfl ?_
      have e0 : sigsV σ s so f m = (-2, σ) := if_neg (by omega)
      rw [e0]
      exact PdM.rf hM
    · rw [decide_eq_true_eq] at h16
      refine r_iload dX7_sights_19 rfl ?_
      refine r_zi2l dX7_sights_21 rfl hm ?_
      refine r_lconst (v := 0) dX7_sights_22 (by decide) ?_
      refine r_ldc2 dX7_sights_23 w_1236 ?_
      refine r_callS3I dX7_sights_26 moX7_in w_930 w_931 (Nat.le_of_ble_eq_true rfl) (Nat.le_of_ble_eq_true rfl) (S_in3 (z := m) (lo := 0) (hi := 7) hm (by decide) (by decide) (by unfold inZ; omega) (by unfold inZ; omega)) ?_
      refine r_ifb_ne (tgt := 35) dX7_sights_29 (by decide) (fun h29 => ?_) (fun h29 => ?_)
      · rw [decide_eq_true_eq] at h29
        obtain ⟨s0, es0⟩ := Int.eq_ofNat_of_zero_le (show 0 ≤ s by omega)
        subst es0
        rw [← nz s0]
        obtain ⟨t1, b1, t234⟩ := hM.sht s0 (by omega)
        refine r_aload_n dX7_sights_35 rfl ?_
        refine r_getR (b := 114) dX7_sights_36 f_X7_50 (hsh.al rfl (by decide)) (Or.inl ⟨_, rfl⟩) (hsh.r 102 41 114 (by decide)) (by decide) ?_
        refine r_iload_n dX7_sights_39 rfl ?_
        refine r_zald (j := s0) dX7_sights_40 (hsh.al rfl (by decide)) (by omega) rfl ?_
        refine r_top t1 ?_
        refine r_ifb_eq (tgt := 57) dX7_sights_41 (by decide) (fun h41 => ?_) (fun h41 => ?_)
        · rw [decide_eq_false_iff_not, Decidable.not_not] at h41
          refine r_aload_n dX7_sights_57 rfl ?_
          refine r_getR (b := 114) dX7_sights_58 f_X7_50 (hsh.al rfl (by decide)) (Or.inl ⟨_, rfl⟩) (hsh.r 102 41 114 (by decide)) (by decide) ?_
          refine r_iload_n dX7_sights_61 rfl ?_
          refine r_zald (j := s0) dX7_sights_62 (hsh.al rfl (by decide)) (by omega) rfl ?_
          refine r_top t1 ?_
          refine r_ifb_ne (tgt := 69) dX7_sights_63 (by decide) (fun h63 => absurd (of_decide_eq_true h63) (by omega)) (fun h63 => ?_)
          refine r_bipush (v := (-11)) dX7_sights_66 (by decide) ?_
          refine r_iret dX7_sights_68 rfl ?_
          have e0 : sigsV σ s0 so f m = (-11, σ) := by unfold sigsV; rw [if_pos (by omega), Int.toNat_natCast, if_pos h41]
          rw [e0]
          exact PdM.rf hM
        · rw [decide_eq_true_eq] at h41
          obtain ⟨t2, t3, t4⟩ := t234 h41
          refine r_aload_n dX7_sights_44 rfl ?_
          refine r_getR (b := 115) dX7_sights_45 f_X7_54 (hsh.al rfl (by decide)) (Or.inl ⟨_, rfl⟩) (hsh.r 102 42 115 (by decide)) (by decide) ?_
          refine r_iload_n dX7_sights_48 rfl ?_
          refine r_ialdE (j := s0) dX7_sights_49 (hsh.al rfl (by decide)) (by omega) rfl t2 ?_
          refine r_iload_n dX7_sights_50 rfl ?_
          refine r_zicmp_eq  (tgt := 57) dX7_sights_51 (by decide) rfl rfl (by unfold inZ; omega) hso (fun h51 => ?_) (fun h51 => ?_)
          · refine r_aload_n dX7_sights_57 rfl ?_
            refine r_getR (b := 114) dX7_sights_58 f_X7_50 (hsh.al rfl (by decide)) (Or.inl ⟨_, rfl⟩) (hsh.r 102 41 114 (by decide)) (by decide) ?_
            refine r_iload_n dX7_sights_61 rfl ?_
            refine r_zald (j := s0) dX7_sights_62 (hsh.al rfl (by decide)) (by omega) rfl ?_
            refine r_top t1 ?_
            refine r_ifb_ne (tgt := 69) dX7_sights_63 (by decide) (fun h63 => ?_) (fun h63 => absurd h41 (of_decide_eq_false h63))
            obtain ⟨m0, em0⟩ := Int.eq_ofNat_of_zero_le (show 0 ≤ m by omega)
            subst em0
            rw [← nz m0]
            refine r_iconst (v := 0) dX7_sights_69 (by decide) ?_
            refine r_istore dX7_sights_70 (by decide) rfl ?_
            refine r_iconst (v := 0) dX7_sights_72 (by decide) ?_
            refine r_istore dX7_sights_73 (by decide) rfl ?_
            have e0 : sigsV σ s0 so f m0 = sgsN s0 m0 f 0 σ := by unfold sigsV; rw [if_pos (by omega), Int.toNat_natCast, Int.toNat_natCast, if_neg h41, if_neg (by omega)]
            rw [e0]
            have hl := loop s0 m0 (by omega) (by omega) m0 0 0 I J σ .null (Nat.zero_add _) hM (fun _ _ => rfl) (Or.inl rfl) h41
            rw [show f + 3 * ((0 : Nat) : Int) = f by omega] at hl
            exact hl
          · refine r_bipush (v := (-13)) dX7_sights_54 (by decide) ?_
            refine r_iret dX7_sights_56 rfl ?_
            have e0 : sigsV σ s0 so f m = (-13, σ) := by unfold sigsV; rw [if_pos (by omega), Int.toNat_natCast, if_neg h41, if_pos h51]
            rw [e0]
            exact PdM.rf hM
      · rw [decide_eq_false_iff_not] at h29
        refine r_bipush (v := (-2)) dX7_sights_32 (by decide) ?_
        refine r_iret dX7_sights_34 rfl ?_
        have e0 : sigsV σ s so f m = (-2, σ) := if_neg (by omega)
        rw [e0]
        exact PdM.rf hM
