/-! the model: setting, orders -/
theorem all_gone : ∀ z, z < 8 → ∀ g, g < 128 → (∀ j, j < z → Nat.testBit g j = true) → z ≤ bcN g := by decide +kernel
theorem bc_or1 : ∀ g, g < 128 → ∀ k, k < 7 → bcN (g ||| 2 ^ k) ≤ bcN g + 1 := by decide +kernel
theorem bc_or2 : ∀ g, g < 128 → ∀ k, k < 7 → Nat.testBit g k = false → bcN (g ||| 2 ^ k) = bcN g + 1 := by decide +kernel
theorem bc_or3 : ∀ g, g < 128 → ∀ k, k < 7 → Nat.testBit g k = true → g ||| 2 ^ k = g := by decide +kernel
theorem bc_full : ∀ z, z < 8 → ∀ g, g < 128 → g < 2 ^ z → bcN g = z → g = 2 ^ z - 1 := by decide +kernel
theorem bc_all : ∀ z, z < 8 → bcN (2 ^ z - 1) = z := by decide +kernel
theorem or_lt2 {z g k : Nat} (h : g < 2 ^ z) (hk : k < z) : g ||| 2 ^ k < 2 ^ z := Nat.or_lt_two_pow h (Nat.pow_lt_pow_right (by decide) hk)
theorem setp_bc {dl : Nat → Nat} {tr : Nat → Nat → Nat} {sz rl : Nat} (wf : WF dl tr sz rl) {V : TV} (hV : ∀ p nm, V p nm ≤ 99) : ∀ i, i ≤ sz → bcN (setpN dl tr V sz i).1 ≤ i
  | 0, _ => by show bcN 0 ≤ 0; decide
  | i + 1, h => by
    have ih := setp_bc wf hV i (by omega)
    have hz := wf.2.2.1
    have h1 := (setpN_ok wf hV i (by omega)).1
    have hf := ftsN_lt (tr := tr) (gone := (setpN dl tr V sz i).1) (sz := sz) sz (Nat.le_refl _)
    have h2 := bc_or1 _ h1 (ftsN tr (setpN dl tr V sz i).1 sz).1 (by omega)
    exact Nat.le_trans h2 (by omega)
/-- the first to set as the model seeks it -/
def NxP (tr : Nat → Nat → Nat) (gone i : Nat) (x : Int32) : Prop := (x = -1 ∧ ftsN tr gone i = (0, 200) ∧ ∀ j, j < i → gone.testBit j = true) ∨ ∃ k, k < i ∧ x = nI k ∧ ftsN tr gone i = (k, tr 3 k)
set_option maxRecDepth 20000 in
set_option maxHeartbeats 4000000 in
theorem S_mSetting {g : GP} {d n : Nat} {I : TI} {J : TJ} {R : TR} {σ : CSt} (hM : MdS n I R σ) {w : Int} (hw : inZ w) : Wp g (d + 48) mX7_setting 0 [.ref 102, .int (zI w), .null, .null, .null, .null, .null] [] 0 0 n I J R (PdM n I R (.int (zI (setgV σ w))) σ) := by
  have hsh := hM.sh
  have hN := hM.p.mn
  have hV := hM.v
  have wf := hM.wf
  have hz := wf.2.2.1
  have hok : ∀ i, i ≤ qsz σ → (setgN σ i).1 < 128 ∧ NOK i (setgN σ i).2.2 := fun i hi => setpN_ok wf hV.le i hi
  have hbc : ∀ i, i ≤ qsz σ → bcN (setgN σ i).1 ≤ i := fun i hi => setp_bc wf hV.le i hi
  have inner : ∀ (gone dig pl : Nat), gone < 128 → bcN gone < qsz σ → ∀ q i x I2 J2, i + q = qsz σ → FrMo I I2 → NxP (qtr σ) gone i x → Wp g (d + 48) mX7_setting 96 [.ref 102, .int (zI w), .int (nI gone), .int (nI dig), .int (nI pl), .int (nI (ftsN (qtr σ) gone (qsz σ)).1), .int (nI (qsz σ))] [] 0 0 n I2 J2 R (PdM n I R (.int (zI (setgV σ w))) σ) → Wp g (d + 48) mX7_setting 40 [.ref 102, .int (zI w), .int (nI gone), .int (nI dig), .int (nI pl), .int x, .int (nI i)] [] 0 0 n I2 J2 R (PdM n I R (.int (zI (setgV σ w))) σ) := by
    intro gone dig pl hg hb q
    induction q with
    | zero =>
      intro i x I2 J2 hi hF hx K
      have e : i = qsz σ := hi
      subst e
      have ex : x = nI (ftsN (qtr σ) gone (qsz σ)).1 := by
        rcases hx with ⟨_, _, ha⟩ | ⟨k, hk, rfl, ek⟩
        · exact absurd (all_gone _ (by omega) _ hg ha) (by omega)
        · rw [ek]
      subst ex
      refine r_iload dX7_setting_40 rfl ?_
      refine r_aload_n dX7_setting_42 rfl ?_
      refine r_getIE dX7_setting_43 f_X7_70 (hsh.al rfl (by decide)) (Or.inl rfl) (hN.m hF).many ?_
      refine r_nicmp_ge  (tgt := 96) dX7_setting_46 (by decide) rfl rfl (by omega) (by omega) (fun h46 => ?_) (fun h46 => absurd h46 (by omega))
      exact K
    | succ q ih =>
      intro i x I2 J2 hi hF hx K
      have hN2 := hN.m hF
      have b3 := wf.t3 (k := i) (by omega)
      have eg : gone.testBit i = true → ftsN (qtr σ) gone (i + 1) = ftsN (qtr σ) gone i := fun h55 => if_neg (fun h => by rw [h55] at h; exact absurd h.1 (by decide))
      rcases hx with ⟨rfl, hf, ha⟩ | ⟨k, hk, rfl, ek⟩
      · refine r_iload dX7_setting_40 rfl ?_
        refine r_aload_n dX7_setting_42 rfl ?_
        refine r_getIE dX7_setting_43 f_X7_70 (hsh.al rfl (by decide)) (Or.inl rfl) hN2.many ?_
        refine r_nicmp_ge  (tgt := 96) dX7_setting_46 (by decide) rfl rfl (by omega) (by omega) (fun h46 => absurd h46 (by omega)) (fun h46 => ?_)
        refine r_iload_n dX7_setting_49 rfl ?_
        refine r_iload dX7_setting_50 rfl ?_
        refine r_ishr dX7_setting_52 ?_
        refine r_iconst (v := 1) dX7_setting_53 (by decide) ?_
        refine r_iand dX7_setting_54 ?_
        refine r_top (v := b2i (gone.testBit i)) (bit_ts _ hg _ (by omega)) ?_
        refine r_ifb_ne (tgt := 86) dX7_setting_55 (by decide) (fun h55 => ?_) (fun h55 => ?_)
        · refine r_iload dX7_setting_86 rfl ?_
          refine r_istore dX7_setting_88 (by decide) rfl ?_
          refine r_iincE (b := (i + 1)) dX7_setting_90 rfl rfl (nI_succ _).symm rfl ?_
          refine r_goto (tgt := 40) dX7_setting_93 (by decide) ?_
          exact ih (i + 1) (-1) I2 J2 (by omega) hF (Or.inl ⟨rfl, (eg h55).trans hf, fun j hj => by
            by_cases e : j = i
            · rw [e]; exact h55
            · exact ha j (by omega)⟩) K
        · refine r_iload dX7_setting_58 rfl ?_
          refine r_iconst (v := (-1)) dX7_setting_60 (by decide) ?_
          refine r_zicmp_eq (a := (-1)) (b := (-1))  (tgt := 81) dX7_setting_61 (by decide) (by decide) (by decide) (by unfold inZ; omega) (by unfold inZ; omega) (fun h61 => ?_) (fun h61 => absurd h61 (by omega))
          refine r_iload dX7_setting_81 rfl ?_
          refine r_goto (tgt := 88) dX7_setting_83 (by decide) ?_
          refine r_istore dX7_setting_88 (by decide) rfl ?_
          refine r_iincE (b := (i + 1)) dX7_setting_90 rfl rfl (nI_succ _).symm rfl ?_
          refine r_goto (tgt := 40) dX7_setting_93 (by decide) ?_
          exact ih (i + 1) (nI i) I2 J2 (by omega) hF (Or.inr ⟨i, by omega, rfl, if_pos ⟨h55, by rw [hf]; show qtr σ 3 i < 200; omega⟩⟩) K
      · have b3k := wf.t3 (k := k) (by omega)
        refine r_iload dX7_setting_40 rfl ?_
        refine r_aload_n dX7_setting_42 rfl ?_
        refine r_getIE dX7_setting_43 f_X7_70 (hsh.al rfl (by decide)) (Or.inl rfl) hN2.many ?_
        refine r_nicmp_ge  (tgt := 96) dX7_setting_46 (by decide) rfl rfl (by omega) (by omega) (fun h46 => absurd h46 (by omega)) (fun h46 => ?_)
        refine r_iload_n dX7_setting_49 rfl ?_
        refine r_iload dX7_setting_50 rfl ?_
        refine r_ishr dX7_setting_52 ?_
        refine r_iconst (v := 1) dX7_setting_53 (by decide) ?_
        refine r_iand dX7_setting_54 ?_
        refine r_top (v := b2i (gone.testBit i)) (bit_ts _ hg _ (by omega)) ?_
        refine r_ifb_ne (tgt := 86) dX7_setting_55 (by decide) (fun h55 => ?_) (fun h55 => ?_)
        · refine r_iload dX7_setting_86 rfl ?_
          refine r_istore dX7_setting_88 (by decide) rfl ?_
          refine r_iincE (b := (i + 1)) dX7_setting_90 rfl rfl (nI_succ _).symm rfl ?_
          refine r_goto (tgt := 40) dX7_setting_93 (by decide) ?_
          exact ih (i + 1) (nI k) I2 J2 (by omega) hF (Or.inr ⟨k, by omega, rfl, (eg h55).trans ek⟩) K
        · refine r_iload dX7_setting_58 rfl ?_
          refine r_iconst (v := (-1)) dX7_setting_60 (by decide) ?_
          refine r_zicmp_eq (b := (-1))  (tgt := 81) dX7_setting_61 (by decide) (nz _) (by decide) (by unfold inZ; omega) (by unfold inZ; omega) (fun h61 => absurd h61 (by omega)) (fun h61 => ?_)
          refine r_aload_n dX7_setting_64 rfl ?_
          refine r_iload dX7_setting_65 rfl ?_
          refine r_iconst (v := 3) dX7_setting_67 (by decide) ?_
          refine r_callV2I dX7_setting_68 moX7_row w_940 w_942 s_30 (hsh.al rfl (by decide)) cl7 rfl (Nat.le_of_ble_eq_true rfl) (Nat.le_of_ble_eq_true rfl) (S_mRow hN2 (k := i) (i := 3) (by omega) (by decide)) ?_
          refine r_aload_n dX7_setting_71 rfl ?_
          refine r_iload dX7_setting_72 rfl ?_
          refine r_iconst (v := 3) dX7_setting_74 (by decide) ?_
          refine r_callV2I dX7_setting_75 moX7_row w_940 w_942 s_30 (hsh.al rfl (by decide)) cl7 rfl (Nat.le_of_ble_eq_true rfl) (Nat.le_of_ble_eq_true rfl) (S_mRow hN2 (k := k) (i := 3) (by omega) (by decide)) ?_
          refine r_nicmp_ge  (tgt := 86) dX7_setting_78 (by decide) rfl rfl (by omega) (by omega) (fun h78 => ?_) (fun h78 => ?_)
          · refine r_iload dX7_setting_86 rfl ?_
            refine r_istore dX7_setting_88 (by decide) rfl ?_
            refine r_iincE (b := (i + 1)) dX7_setting_90 rfl rfl (nI_succ _).symm rfl ?_
            refine r_goto (tgt := 40) dX7_setting_93 (by decide) ?_
            have e2 : ftsN (qtr σ) gone (i + 1) = ftsN (qtr σ) gone i := if_neg (fun h => by
              rw [ek] at h
              have h2 : qtr σ 3 i < qtr σ 3 k := h.2
              omega)
            exact ih (i + 1) (nI k) I2 J2 (by omega) hF (Or.inr ⟨k, by omega, rfl, e2.trans ek⟩) K
          · refine r_iload dX7_setting_81 rfl ?_
            refine r_goto (tgt := 88) dX7_setting_83 (by decide) ?_
            refine r_istore dX7_setting_88 (by decide) rfl ?_
            refine r_iincE (b := (i + 1)) dX7_setting_90 rfl rfl (nI_succ _).symm rfl ?_
            refine r_goto (tgt := 40) dX7_setting_93 (by decide) ?_
            exact ih (i + 1) (nI i) I2 J2 (by omega) hF (Or.inr ⟨i, by omega, rfl, if_pos ⟨h55, by rw [ek]; show qtr σ 3 i < qtr σ 3 k; omega⟩⟩) K
  have loop : 0 ≤ w ∧ w < 2 → ∀ q i I2 J2 x5 x6, i + q = qsz σ → FrMo I I2 → MWk I2 (setgN σ i).2.2 → Wp g (d + 48) mX7_setting 25 [.ref 102, .int (zI w), .int (nI (setgN σ i).1), .int (nI (setgN σ i).2.1), .int (nI i), (x5 : Value), (x6 : Value)] [] 0 0 n I2 J2 R (PdM n I R (.int (zI (setgV σ w))) σ) := by
    intro hw2 q
    induction q with
    | zero =>
      intro i I2 J2 x5 x6 hi hF hW
      have e : i = qsz σ := hi
      subst e
      refine r_iload dX7_setting_25 rfl ?_
      refine r_aload_n dX7_setting_27 rfl ?_
      refine r_getIE dX7_setting_28 f_X7_70 (hsh.al rfl (by decide)) (Or.inl rfl) (hN.m hF).many ?_
      refine r_nicmp_ge  (tgt := 127) dX7_setting_31 (by decide) rfl rfl (by omega) (by omega) (fun h31 => ?_) (fun h31 => absurd h31 (by omega))
      refine r_iload_n dX7_setting_127 rfl ?_
      refine r_zif_ne (tgt := 138) dX7_setting_128 (by decide) rfl hw (fun h128 => ?_) (fun h128 => ?_)
      · refine r_iload_n dX7_setting_138 rfl ?_
        refine r_iret dX7_setting_139 rfl ?_
        have e0 : setgV σ w = ((setgN σ (qsz σ)).2.1 : Nat) := by unfold setgV; rw [if_pos hw2, if_neg h128]
        rw [e0]
        exact PdM.of hM hF
      · refine r_aload_n dX7_setting_131 rfl ?_
        refine r_getIE dX7_setting_132 f_X7_248 (hsh.al rfl (by decide)) (Or.inl rfl) hW.2.2.1 ?_
        refine r_goto (tgt := 139) dX7_setting_135 (by decide) ?_
        refine r_iret dX7_setting_139 rfl ?_
        have e0 : setgV σ w = nWorth (setgN σ (qsz σ)).2.2 := by unfold setgV; rw [if_pos hw2, if_pos h128]
        rw [e0]
        exact PdM.of hM hF
    | succ q ih =>
      intro i I2 J2 x5 x6 hi hF hW
      obtain ⟨hg, hx⟩ := hok i (by omega)
      have hb := hbc i (by omega)
      have hft := ftsN_lt (tr := qtr σ) (gone := (setgN σ i).1) (sz := qsz σ) (qsz σ) (Nat.le_refl _)
      refine r_iload dX7_setting_25 rfl ?_
      refine r_aload_n dX7_setting_27 rfl ?_
      refine r_getIE dX7_setting_28 f_X7_70 (hsh.al rfl (by decide)) (Or.inl rfl) (hN.m hF).many ?_
      refine r_nicmp_ge  (tgt := 127) dX7_setting_31 (by decide) rfl rfl (by omega) (by omega) (fun h31 => absurd h31 (by omega)) (fun h31 => ?_)
      refine r_iconst (v := (-1)) dX7_setting_34 (by decide) ?_
      refine r_istore dX7_setting_35 (by decide) rfl ?_
      refine r_iconst (v := 0) dX7_setting_37 (by decide) ?_
      refine r_istore dX7_setting_38 (by decide) rfl ?_
      refine inner _ _ i hg (by omega) (qsz σ) 0 (-1) I2 J2 (Nat.zero_add _) hF (Or.inl ⟨rfl, rfl, fun j hj => absurd hj (Nat.not_lt_zero _)⟩) ?_
      refine r_iload_n dX7_setting_96 rfl ?_
      refine r_iconst (v := 1) dX7_setting_97 (by decide) ?_
      refine r_iload dX7_setting_98 rfl ?_
      refine r_ishl dX7_setting_100 ?_
      refine r_top (v := nI (2 ^ (ftsN (qtr σ) (setgN σ i).1 (qsz σ)).1)) (bit_sh _ (by omega)) ?_
      refine r_ior dX7_setting_101 ?_
      refine r_top (v := nI (setgN σ (i + 1)).1) (nI_or _ _) ?_
      refine r_istore_n dX7_setting_102 (by decide) rfl ?_
      refine r_bipush (v := 10) dX7_setting_103 (by decide) ?_
      refine r_iload_n dX7_setting_105 rfl ?_
      refine r_nimul (a := 10) dX7_setting_106 rfl rfl ?_
      refine r_iload dX7_setting_107 rfl ?_
      refine r_niadd dX7_setting_109 rfl rfl ?_
      refine r_iconst (v := 1) dX7_setting_110 (by decide) ?_
      refine r_niadd (b := 1) dX7_setting_111 rfl rfl ?_
      refine r_top (v := nI (setgN σ (i + 1)).2.1) (congrArg nI (by show 10 * (setgN σ i).2.1 + (ftsN (qtr σ) (setgN σ i).1 (qsz σ)).1 + 1 = (setgN σ i).2.1 * 10 + (ftsN (qtr σ) (setgN σ i).1 (qsz σ)).1 + 1; omega)) ?_
      refine r_istore_n dX7_setting_112 (by decide) rfl ?_
      refine r_aload_n dX7_setting_113 rfl ?_
      refine r_iload dX7_setting_114 rfl ?_
      refine r_iload dX7_setting_116 rfl ?_
      refine r_callV2N dX7_setting_118 moX7_looksFor w_1085 w_1087 s_55 (hsh.al rfl (by decide)) cl7 rfl (Nat.le_of_ble_eq_true rfl) (Nat.le_of_ble_eq_true rfl) (S_mLooks (hN.m hF) (hV.m hF) hW (k := (ftsN (qtr σ) (setgN σ i).1 (qsz σ)).1) (place := i) (by omega) hx.1 hx.2.1) (fun r n I3 J R hq => ?_)
      obtain ⟨rfl, rfl, rfl, hF3, hW3⟩ := hq
      refine r_iincE (b := (i + 1)) dX7_setting_121 rfl rfl (nI_succ _).symm rfl ?_
      refine r_goto (tgt := 25) dX7_setting_124 (by decide) ?_
      exact ih (i + 1) I3 J _ _ (by omega) (hF.t hF3) hW3
  refine r_iload_n dX7_setting_0 rfl ?_
  refine r_zi2l dX7_setting_1 rfl hw ?_
  refine r_lconst (v := 0) dX7_setting_2 (by decide) ?_
  refine r_lconst (v := 1) dX7_setting_3 (by decide) ?_
  refine r_callS3I dX7_setting_4 moX7_in w_930 w_931 (Nat.le_of_ble_eq_true rfl) (Nat.le_of_ble_eq_true rfl) (S_in3 (z := w) (lo := 0) (hi := 1) hw (by decide) (by decide) (by unfold inZ; omega) (by unfold inZ; omega)) ?_
  refine r_ifb_ne (tgt := 14) dX7_setting_7 (by decide) (fun h7 => ?_) (fun h7 => ?_)
  · rw [decide_eq_true_eq] at h7
    refine r_aload_n dX7_setting_14 rfl ?_
    refine r_callV0N dX7_setting_15 moX7_beginsNight w_1081 w_1083 s_54 (hsh.al rfl (by decide)) cl7 rfl (Nat.le_of_ble_eq_true rfl) (Nat.le_of_ble_eq_true rfl) (S_mBegins hN) (fun r n I2 J R hq => ?_)
    obtain ⟨rfl, rfl, rfl, rfl, hF, hW⟩ := hq
    refine r_iconst (v := 0) dX7_setting_18 (by decide) ?_
    refine r_istore_n dX7_setting_19 (by decide) rfl ?_
    refine r_iconst (v := 0) dX7_setting_20 (by decide) ?_
    refine r_istore_n dX7_setting_21 (by decide) rfl ?_
    refine r_iconst (v := 0) dX7_setting_22 (by decide) ?_
    refine r_istore dX7_setting_23 (by decide) rfl ?_
    exact loop (by omega) (qsz σ) 0 I2 J _ _ (Nat.zero_add _) hF hW
  · rw [decide_eq_false_iff_not] at h7
    refine r_ldcwI dX7_setting_10 w_1068 ?_
    refine r_iret dX7_setting_13 rfl ?_
    have e0 : setgV σ w = -100000 := if_neg (by omega)
    rw [e0]
    exact PdM.rf hM
theorem tell_cnt {it : Nat → Int32} {sz : Nat} (hz : sz ≤ 7) : ∀ {m i told : Nat}, told < 128 → tellN it sz m i told = true → sz ≤ bcN told + m
  | 0, i, told, ht, h => by
    have h2 : told = 2 ^ sz - 1 := of_decide_eq_true h
    rw [h2, bc_all sz (by omega)]; omega
  | m + 1, i, told, ht, h => by
    unfold tellN at h
    split at h
    · rename_i hb
      obtain ⟨k, hk, ek⟩ := bw_ex rfl (by omega) hb
      rw [ek, nI_tn (by omega)] at h
      have h2 := tell_cnt hz (or_lt ht (by omega)) h
      have h3 := bc_or1 told ht k (by omega)
      omega
    · cases h
def eacB (z : Nat) (it : Nat → Int32) (sz : Nat) : Bool := decide (z = sz) && tellN it sz sz 0 0
set_option maxRecDepth 20000 in
set_option maxHeartbeats 4000000 in
theorem S_mGoesBy {g : GP} {d n : Nat} {I : TI} {J : TJ} {R : TR} {dl : Nat → Nat} {tr : Nat → Nat → Nat} {sz rl : Nat} (hN : MdN n I R dl tr sz rl) {V : TV} (hV : TxV I rl V) {s z : Nat} (hs : s < 4) (hz4 : z ≤ 40) (hsi : I 116 s = nI z) {it : Nat → Int32} (hit : ∀ j, j < z → I 117 (40 * s + j) = it j) : Wp g (d + 48) mX7_goesBy 0 [.ref 102, .int (nI s), .null, .null, .null] [] 0 0 n I J R (PostM n R (some (.int (b2i (eacB z it sz)))) (fun I2 _ => FrMo I I2 ∧ (eacB z it sz = true → MWk I2 (ordrN dl tr V it sz)))) := by
  have hsh := hN.sh
  have wf := hN.wf
  have hz := wf.2.2.1
  have h2p := p2_lt hz
  have loop2 : z = sz → tellN it sz sz 0 0 = true → ∀ q i I2 J2 (x2 : Int32) (x4 : Value), i + q = sz → FrMo I I2 → MWk I2 (ordrN dl tr V it i) → Wp g (d + 48) mX7_goesBy 80 [.ref 102, .int (nI s), .int x2, .int (nI i), x4] [] 0 0 n I2 J2 R (PostM n R (some (.int (b2i (eacB z it sz)))) (fun I2 _ => FrMo I I2 ∧ (eacB z it sz = true → MWk I2 (ordrN dl tr V it sz)))) := by
    intro ezs hte q
    have eB : eacB z it sz = true := by unfold eacB; rw [decide_eq_true ezs, hte]; rfl
    have hin : ∀ j, j < sz → ∃ k, k < sz ∧ it j = nI k := fun j hj => bw_ex rfl (by omega) (tellN_in hte j (Nat.zero_le _) (by omega))
    have hok : ∀ i, i ≤ sz → NOK i (ordrN dl tr V it i) := fun i hi => ordrN_ok wf hV.le i fun j hj => by
      obtain ⟨k, hk, ek⟩ := hin j (by omega)
      rw [ek, nI_tn (by omega)]; omega
    induction q with
    | zero =>
      intro i I2 J2 x2 x4 hi hF hW
      have e : i = sz := hi
      subst e
      refine r_iload_n dX7_goesBy_80 rfl ?_
      refine r_aload_n dX7_goesBy_81 rfl ?_
      refine r_getIE dX7_goesBy_82 f_X7_70 (hsh.al rfl (by decide)) (Or.inl rfl) (hN.m hF).many ?_
      refine r_nicmp_ge  (tgt := 110) dX7_goesBy_85 (by decide) rfl rfl (by omega) (by omega) (fun h85 => ?_) (fun h85 => absurd h85 (by omega))
      refine r_iconst (v := 1) dX7_goesBy_110 (by decide) ?_
      refine r_bret (b := eacB z it i) dX7_goesBy_111 rfl ?_ ?_
      · rw [eB]; rfl
      · exact ⟨rfl, rfl, rfl, hF, fun _ => hW⟩
    | succ q ih =>
      intro i I2 J2 x2 x4 hi hF hW
      obtain ⟨k, hk, ek⟩ := hin i (by omega)
      have hx := hok i (by omega)
      have ew : ordrN dl tr V it (i + 1) = lookN dl tr V k i (ordrN dl tr V it i) := by
        show lookN dl tr V (it i).toInt.toNat i _ = _
        rw [ek, nI_tn (by omega)]
      refine r_iload_n dX7_goesBy_80 rfl ?_
      refine r_aload_n dX7_goesBy_81 rfl ?_
      refine r_getIE dX7_goesBy_82 f_X7_70 (hsh.al rfl (by decide)) (Or.inl rfl) (hN.m hF).many ?_
      refine r_nicmp_ge  (tgt := 110) dX7_goesBy_85 (by decide) rfl rfl (by omega) (by omega) (fun h85 => absurd h85 (by omega)) (fun h85 => ?_)
      refine r_aload_n dX7_goesBy_88 rfl ?_
      refine r_aload_n dX7_goesBy_89 rfl ?_
      refine r_getR (b := 117) dX7_goesBy_90 f_X7_60 (hsh.al rfl (by decide)) (Or.inl ⟨_, rfl⟩) (hsh.r 102 44 117 (by decide)) (by decide) ?_
      refine r_bipush (v := 40) dX7_goesBy_93 (by decide) ?_
      refine r_iload_n dX7_goesBy_95 rfl ?_
      refine r_nimul (a := 40) dX7_goesBy_96 rfl rfl ?_
      refine r_iload_n dX7_goesBy_97 rfl ?_
      refine r_niadd dX7_goesBy_98 rfl rfl ?_
      refine r_ialdE (j := (40 * s + i)) dX7_goesBy_99 (hsh.al rfl (by decide)) (by omega) rfl (show I2 117 (40 * s + i) = nI k by rw [hF.1 117 (by decide) (by decide) (by decide), hit i (by omega)]; exact ek) ?_
      refine r_iload_n dX7_goesBy_100 rfl ?_
      refine r_callV2N dX7_goesBy_101 moX7_looksFor w_1085 w_1087 s_55 (hsh.al rfl (by decide)) cl7 rfl (Nat.le_of_ble_eq_true rfl) (Nat.le_of_ble_eq_true rfl) (S_mLooks (hN.m hF) (hV.m hF) hW (k := k) (place := i) hk hx.1 hx.2.1) (fun r n I3 J R hq => ?_)
      obtain ⟨rfl, rfl, rfl, hF3, hW3⟩ := hq
      refine r_iincE (b := (i + 1)) dX7_goesBy_104 rfl rfl (nI_succ _).symm rfl ?_
      refine r_goto (tgt := 80) dX7_goesBy_107 (by decide) ?_
      exact ih (i + 1) I3 J _ _ (by omega) (hF.t hF3) (by rw [ew]; exact hW3)
  have loop1 : z = sz → ∀ q i told (x4 : Value), i + q = sz → told < 2 ^ sz → bcN told = i → tellN it sz q i told = tellN it sz sz 0 0 → Wp g (d + 48) mX7_goesBy 19 [.ref 102, .int (nI s), .int (nI told), .int (nI i), x4] [] 0 0 n I J R (PostM n R (some (.int (b2i (eacB z it sz)))) (fun I2 _ => FrMo I I2 ∧ (eacB z it sz = true → MWk I2 (ordrN dl tr V it sz)))) := by
    intro ezs q
    have e1 : eacB z it sz = tellN it sz sz 0 0 := by unfold eacB; rw [decide_eq_true ezs]; rfl
    induction q with
    | zero =>
      intro i told x4 hi ht hb he
      have e : i = sz := hi
      have hte : tellN it sz sz 0 0 = true := by
        rw [← he]
        exact decide_eq_true (bc_full sz (by omega) told (by omega) ht (hb.trans e))
      refine r_iload_n dX7_goesBy_19 rfl ?_
      refine r_aload_n dX7_goesBy_20 rfl ?_
      refine r_getIE dX7_goesBy_21 f_X7_70 (hsh.al rfl (by decide)) (Or.inl rfl) hN.many ?_
      refine r_nicmp_ge  (tgt := 74) dX7_goesBy_24 (by decide) rfl rfl (by omega) (by omega) (fun h24 => ?_) (fun h24 => absurd h24 (by omega))
      refine r_aload_n dX7_goesBy_74 rfl ?_
      refine r_callV0N dX7_goesBy_75 moX7_beginsNight w_1081 w_1083 s_54 (hsh.al rfl (by decide)) cl7 rfl (Nat.le_of_ble_eq_true rfl) (Nat.le_of_ble_eq_true rfl) (S_mBegins hN) (fun r n I2 J R hq => ?_)
      obtain ⟨rfl, rfl, rfl, rfl, hF, hW⟩ := hq
      refine r_iconst (v := 0) dX7_goesBy_78 (by decide) ?_
      refine r_istore_n dX7_goesBy_79 (by decide) rfl ?_
      exact loop2 ezs hte sz 0 I2 J _ _ (Nat.zero_add _) hF hW
    | succ q ih =>
      intro i told x4 hi ht hb he
      have ht7 : told < 128 := by omega
      have hin : inZ (it i).toInt := ⟨Int32.le_toInt _, Int32.toInt_lt _⟩
      have ewt : tellN it sz (q + 1) i told = if bw (it i) (nI sz) then tellN it sz q (i + 1) (told ||| 2 ^ (it i).toInt.toNat) else false := rfl
      have ebw : bw (it i) (nI sz) = decide (0 ≤ (it i).toInt ∧ (it i).toInt < sz) := by
        have h := bw_z (N := sz) rfl hin (by omega)
        rw [zI_tI] at h
        exact h
      generalize ha : (it i).toInt = a at *
      refine r_iload_n dX7_goesBy_19 rfl ?_
      refine r_aload_n dX7_goesBy_20 rfl ?_
      refine r_getIE dX7_goesBy_21 f_X7_70 (hsh.al rfl (by decide)) (Or.inl rfl) hN.many ?_
      refine r_nicmp_ge  (tgt := 74) dX7_goesBy_24 (by decide) rfl rfl (by omega) (by omega) (fun h24 => absurd h24 (by omega)) (fun h24 => ?_)
      refine r_aload_n dX7_goesBy_27 rfl ?_
      refine r_getR (b := 117) dX7_goesBy_28 f_X7_60 (hsh.al rfl (by decide)) (Or.inl ⟨_, rfl⟩) (hsh.r 102 44 117 (by decide)) (by decide) ?_
      refine r_bipush (v := 40) dX7_goesBy_31 (by decide) ?_
      refine r_iload_n dX7_goesBy_33 rfl ?_
      refine r_nimul (a := 40) dX7_goesBy_34 rfl rfl ?_
      refine r_iload_n dX7_goesBy_35 rfl ?_
      refine r_niadd dX7_goesBy_36 rfl rfl ?_
      refine r_ialdE (j := (40 * s + i)) dX7_goesBy_37 (hsh.al rfl (by decide)) (by omega) rfl (show I 117 (40 * s + i) = zI a by rw [hit i (by omega), ← ha, zI_tI]) ?_
      refine r_istore dX7_goesBy_38 (by decide) rfl ?_
      refine r_aload_n dX7_goesBy_40 rfl ?_
      refine r_iload dX7_goesBy_41 rfl ?_
      refine r_callV1I dX7_goesBy_43 moX7_isSight w_933 w_935 s_29 (hsh.al rfl (by decide)) cl7 rfl (Nat.le_of_ble_eq_true rfl) (Nat.le_of_ble_eq_true rfl) (S_mIsSight hsh hN.many hz (a := a) hin) ?_
      refine r_ifb_eq (tgt := 59) dX7_goesBy_46 (by decide) (fun h46 => ?_) (fun h46 => ?_)
      · rw [decide_eq_false_iff_not] at h46
        have eF : eacB z it sz = false := by
          rw [e1, ← he, ewt, ebw, if_neg (by rw [decide_eq_true_eq]; exact h46)]
        refine r_iconst (v := 0) dX7_goesBy_59 (by decide) ?_
        refine r_bret (b := eacB z it sz) dX7_goesBy_60 rfl ?_ ?_
        · rw [eF]; rfl
        · exact ⟨rfl, rfl, rfl, FrMo.rf, fun h => absurd (eF ▸ h) Bool.false_ne_true⟩
      · rw [decide_eq_true_eq] at h46
        obtain ⟨k, ek⟩ := Int.eq_ofNat_of_zero_le (show 0 ≤ a by omega)
        subst ek
        rw [← nz k]
        refine r_iload_n dX7_goesBy_49 rfl ?_
        refine r_iload dX7_goesBy_50 rfl ?_
        refine r_ishr dX7_goesBy_52 ?_
        refine r_iconst (v := 1) dX7_goesBy_53 (by decide) ?_
        refine r_iand dX7_goesBy_54 ?_
        refine r_top (v := b2i (told.testBit k)) (bit_ts _ ht7 _ (by omega)) ?_
        refine r_iconst (v := 1) dX7_goesBy_55 (by decide) ?_
        refine r_icmp_ne (tgt := 61) dX7_goesBy_56 (by decide) (fun h56 => ?_) (fun h56 => ?_)
        · refine r_iload_n dX7_goesBy_61 rfl ?_
          refine r_iconst (v := 1) dX7_goesBy_62 (by decide) ?_
          refine r_iload dX7_goesBy_63 rfl ?_
          refine r_ishl dX7_goesBy_65 ?_
          refine r_top (v := nI (2 ^ k)) (bit_sh k (by omega)) ?_
          refine r_ior dX7_goesBy_66 ?_
          refine r_top (v := nI (told ||| 2 ^ k)) (nI_or _ _) ?_
          refine r_istore_n dX7_goesBy_67 (by decide) rfl ?_
          refine r_iincE (b := (i + 1)) dX7_goesBy_68 rfl rfl (nI_succ _).symm rfl ?_
          refine r_goto (tgt := 19) dX7_goesBy_71 (by decide) ?_
          exact ih (i + 1) (told ||| 2 ^ k) _ (by omega) (or_lt2 ht (by omega)) (by rw [bc_or2 told ht7 k (by omega) (by rw [← Bool.not_eq_true]; exact fun e => h56 (b2i_is1.mpr e)), hb]) (by rw [← he, ewt, ebw, if_pos (by rw [decide_eq_true_eq]; exact h46), Int.toNat_natCast])
        · have eF : eacB z it sz = false := by
            rw [e1, ← he, ewt, ebw, if_pos (by rw [decide_eq_true_eq]; exact h46), ← Bool.not_eq_true]
            intro h
            have h2 := tell_cnt hz (by rw [Int.toNat_natCast]; exact or_lt ht7 (by omega)) h
            rw [Int.toNat_natCast, bc_or3 told ht7 k (by omega) (b2i_is1.mp h56)] at h2
            omega
          refine r_iconst (v := 0) dX7_goesBy_59 (by decide) ?_
          refine r_bret (b := eacB z it sz) dX7_goesBy_60 rfl ?_ ?_
          · rw [eF]; rfl
          · exact ⟨rfl, rfl, rfl, FrMo.rf, fun h => absurd (eF ▸ h) Bool.false_ne_true⟩
  refine r_aload_n dX7_goesBy_0 rfl ?_
  refine r_getR (b := 116) dX7_goesBy_1 f_X7_57 (hsh.al rfl (by decide)) (Or.inl ⟨_, rfl⟩) (hsh.r 102 43 116 (by decide)) (by decide) ?_
  refine r_iload_n dX7_goesBy_4 rfl ?_
  refine r_ialdE (j := s) dX7_goesBy_5 (hsh.al rfl (by decide)) hs rfl hsi ?_
  refine r_aload_n dX7_goesBy_6 rfl ?_
  refine r_getIE dX7_goesBy_7 f_X7_70 (hsh.al rfl (by decide)) (Or.inl rfl) hN.many ?_
  refine r_nicmp_eq  (tgt := 15) dX7_goesBy_10 (by decide) rfl rfl (by omega) (by omega) (fun h10 => ?_) (fun h10 => ?_)
  · refine r_iconst (v := 0) dX7_goesBy_15 (by decide) ?_
    refine r_istore_n dX7_goesBy_16 (by decide) rfl ?_
    refine r_iconst (v := 0) dX7_goesBy_17 (by decide) ?_
    refine r_istore_n dX7_goesBy_18 (by decide) rfl ?_
    exact loop1 h10 sz 0 0 _ (Nat.zero_add _) (p2_pos sz) rfl rfl
  · have eF : eacB z it sz = false := by unfold eacB; rw [decide_eq_false h10]; rfl
    refine r_iconst (v := 0) dX7_goesBy_13 (by decide) ?_
    refine r_bret (b := eacB z it sz) dX7_goesBy_14 rfl ?_ ?_
    · rw [eF]; rfl
    · exact ⟨rfl, rfl, rfl, FrMo.rf, fun h => absurd (eF ▸ h) Bool.false_ne_true⟩
theorem ordrN_200 {dl : Nat → Nat} {tr : Nat → Nat → Nat} {V : TV} {it : Nat → Int32} (h : dl 6 ≤ 200) : ∀ i, nTick (ordrN dl tr V it i) ≤ 200
  | 0 => h
  | i + 1 => lookN_200 (ordrN_200 h i)
set_option maxRecDepth 20000 in
set_option maxHeartbeats 4000000 in
theorem S_mOrder {g : GP} {d n : Nat} {I : TI} {J : TJ} {R : TR} {σ : CSt} (hM : MdS n I R σ) {s w : Int} (hs : inZ s) (hw : inZ w) : Wp g (d + 49) mX7_order 0 [.ref 102, .int (zI s), .int (zI w)] [] 0 0 n I J R (PdM n I R (.int (zI (ordrV σ s w))) σ) := by
  have hsh := hM.sh
  have hN := hM.p.mn
  have hV := hM.v
  have wf := hM.wf
  have hz := wf.2.2.1
  refine r_iload_n dX7_order_0 rfl ?_
  refine r_callS1I dX7_order_1 moX7_isSheet w_1118 w_1119 (Nat.le_of_ble_eq_true rfl) (Nat.le_of_ble_eq_true rfl) (S_mIsSheet hs) ?_
  refine r_ifb_eq (tgt := 32) dX7_order_4 (by decide) (fun h4 => ?_) (fun h4 => ?_)
  · rw [decide_eq_false_iff_not] at h4
    refine r_ldcwI dX7_order_32 w_1068 ?_
    refine r_iret dX7_order_35 rfl ?_
    have e0 : ordrV σ s w = -100000 := if_neg (by omega)
    rw [e0]
    exact PdM.rf hM
  · rw [decide_eq_true_eq] at h4
    refine r_aload_n dX7_order_7 rfl ?_
    refine r_iload_n dX7_order_8 rfl ?_
    refine r_callV1I dX7_order_9 moX7_isTells w_1062 w_1064 s_50 (hsh.al rfl (by decide)) cl7 rfl (Nat.le_of_ble_eq_true rfl) (Nat.le_of_ble_eq_true rfl) (S_mIsTells hN hw) ?_
    refine r_ifb_eq (tgt := 32) dX7_order_12 (by decide) (fun h12 => ?_) (fun h12 => ?_)
    · refine r_ldcwI dX7_order_32 w_1068 ?_
      refine r_iret dX7_order_35 rfl ?_
      have e0 : ordrV σ s w = -100000 := if_neg (fun h => by rw [h12] at h; exact absurd h.2.2.1 Bool.false_ne_true)
      rw [e0]
      exact PdM.rf hM
    · obtain ⟨s0, es0⟩ := Int.eq_ofNat_of_zero_le (show 0 ≤ s by omega)
      subst es0
      rw [← nz s0]
      obtain ⟨t1, b1, t234⟩ := hM.sht s0 (by omega)
      refine r_aload_n dX7_order_15 rfl ?_
      refine r_getR (b := 114) dX7_order_16 f_X7_50 (hsh.al rfl (by decide)) (Or.inl ⟨_, rfl⟩) (hsh.r 102 41 114 (by decide)) (by decide) ?_
      refine r_iload_n dX7_order_19 rfl ?_
      refine r_zald (j := s0) dX7_order_20 (hsh.al rfl (by decide)) (by omega) rfl ?_
      refine r_top t1 ?_
      refine r_ifb_eq (tgt := 32) dX7_order_21 (by decide) (fun h21 => ?_) (fun h21 => ?_)
      · rw [decide_eq_false_iff_not, Decidable.not_not] at h21
        refine r_ldcwI dX7_order_32 w_1068 ?_
        refine r_iret dX7_order_35 rfl ?_
        have e0 : ordrV σ ((s0 : Nat) : Int) w = -100000 := if_neg (fun h => by have h2 := h.2.2.2; unfold eachN at h2; rw [Int.toNat_natCast, h21] at h2; exact absurd h2 (by simp))
        rw [e0]
        exact PdM.rf hM
      · rw [decide_eq_true_eq] at h21
        obtain ⟨t2, t3, t4⟩ := t234 h21
        refine r_aload_n dX7_order_24 rfl ?_
        refine r_iload_n dX7_order_25 rfl ?_
        refine r_callV1N dX7_order_26 moX7_goesBy w_1122 w_1124 s_60 (hsh.al rfl (by decide)) cl7 rfl (Nat.le_of_ble_eq_true rfl) (Nat.le_of_ble_eq_true rfl) (S_mGoesBy hN hV (by omega) b1.2.2 t3 t4) (fun r n I2 J R hq => ?_)
        obtain ⟨rfl, rfl, rfl, hF, hW⟩ := hq
        refine r_ifb_ne (tgt := 36) dX7_order_29 (by decide) (fun h29 => ?_) (fun h29 => ?_)
        · have hk := of_decide_eq_true h12
          have h29b := h29
          unfold eacB at h29b
          rw [Bool.and_eq_true, decide_eq_true_eq] at h29b
          have hin : ∀ j, j < qsz σ → ∃ k, k < qsz σ ∧ qit σ s0 j = nI k := fun j hj => bw_ex rfl (by omega) (tellN_in h29b.2 j (Nat.zero_le _) (by omega))
          have hok := ordrN_ok wf hV.le (it := qit σ s0) (qsz σ) fun j hj => by
            obtain ⟨k, hk, ek⟩ := hin j (by omega)
            rw [ek, nI_tn (by omega)]; omega
          have e0 : ordrV σ ((s0 : Nat) : Int) w = ansN (ordrN (qdl σ) (qtr σ) (qtv σ (qrl σ)) (qit σ s0) (qsz σ)) w.toNat := if_pos ⟨by omega, by omega, h12, by
            unfold eachN
            rw [Int.toNat_natCast, decide_eq_true h21, decide_eq_true h29b.1, h29b.2]; rfl⟩
          rw [e0]
          obtain ⟨w0, ew⟩ := Int.eq_ofNat_of_zero_le (show 0 ≤ w by omega)
          subst ew
          rw [← nz w0, show (((w0 : Nat) : Int)).toNat = w0 from rfl]
          have ht : nTick (ordrN (qdl σ) (qtr σ) (qtv σ (qrl σ)) (qit σ s0) (qsz σ)) ≤ 200 := ordrN_200 (by have := wf.d6; omega) _
          refine r_aload_n dX7_order_36 rfl ?_
          refine r_iload_n dX7_order_37 rfl ?_
          refine r_callV1I dX7_order_38 moX7_tells w_1107 w_1109 s_59 (hsh.al rfl (by decide)) cl7 rfl (Nat.le_of_ble_eq_true rfl) (Nat.le_of_ble_eq_true rfl) (S_mTells (hN.m hF) (hW h29) (w := w0) (by omega) hok.2.2.1 ht) ?_
          refine r_iret dX7_order_41 rfl ?_
          exact PdM.of hM hF
        · refine r_ldcwI dX7_order_32 w_1068 ?_
          refine r_iret dX7_order_35 rfl ?_
          have e0 : ordrV σ ((s0 : Nat) : Int) w = -100000 := if_neg (fun h => by have h2 := h.2.2.2; unfold eachN at h2; rw [Int.toNat_natCast, Bool.and_eq_true, Bool.and_eq_true, decide_eq_true_eq, decide_eq_true_eq] at h2; unfold eacB at h29; rw [decide_eq_true h2.1.2, h2.2] at h29; exact absurd h29 (by decide))
          rw [e0]
          exact PdM.of hM hF
