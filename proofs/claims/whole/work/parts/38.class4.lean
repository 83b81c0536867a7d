/-! who sets first; what a sheet tells -/
def ftsN (tr : Nat → Nat → Nat) (gone : Nat) : Nat → Nat × Nat
  | 0 => (0, 200)
  | i + 1 => if gone.testBit i = false ∧ tr 3 i < (ftsN tr gone i).2 then (i, tr 3 i) else ftsN tr gone i
theorem ftsN_lt {tr : Nat → Nat → Nat} {gone sz : Nat} : ∀ i, i ≤ sz → (ftsN tr gone i).1 ≤ sz - 1 ∧ (ftsN tr gone i).2 ≤ 200
  | 0, _ => ⟨Nat.zero_le _, Nat.le_refl _⟩
  | i + 1, h => by
    have ih := ftsN_lt (tr := tr) (gone := gone) (sz := sz) i (by omega)
    unfold ftsN
    split
    · rename_i hc
      exact ⟨by show i ≤ _; omega, by show tr 3 i ≤ _; omega⟩
    · exact ih
set_option maxRecDepth 20000 in
set_option maxHeartbeats 4000000 in
theorem S_firstToSet {g : GP} {d n : Nat} {I : TI} {J : TJ} {R : TR} {dl : Nat → Nat} {tr : Nat → Nat → Nat} {sz rl : Nat} (hsh : Sh n R) (hA : SkyAt I 13 dl tr sz rl) (wf : WF dl tr sz rl) {gone : Nat} (hg : gone < 128) : Wp g (d + 2) mX6_firstToSet 0 [.ref 12, .int (nI gone), .null, .null, .null] [] 0 0 n I J R (RetI (nI (ftsN tr gone sz).1) n I J R) := by
  have bz := wf.2.2.1
  have h13 : isSky 13 := Or.inl rfl
  have loop : ∀ m i, i + m = sz → Wp g (d + 2) mX6_firstToSet 9 [.ref 12, .int (nI gone), .int (nI (ftsN tr gone i).1), .int (nI (ftsN tr gone i).2), .int (nI i)] [] 0 0 n I J R (RetI (nI (ftsN tr gone sz).1) n I J R) := by
    intro m
    induction m with
    | zero =>
      intro i hi
      refine r_iload dX6_firstToSet_9 rfl ?_
      refine r_aload_n dX6_firstToSet_11 rfl ?_
      refine r_getR (b := 13) dX6_firstToSet_12 f_X6_10 (hsh.al rfl (by decide)) (Or.inr ⟨_, rfl⟩) (hsh.r 12 0 13 (by decide)) (by decide) ?_
      refine r_getIE dX6_firstToSet_15 f_X6_95 (hsh.al rfl (by decide)) (Or.inl rfl) hA.2.2.1 ?_
      refine r_nicmp_ge  (tgt := 66) dX6_firstToSet_18 (by decide) rfl rfl (by omega) (by omega) (fun h18 => ?_) (fun h18 => absurd h18 (by omega))
      refine r_iload_n dX6_firstToSet_66 rfl ?_
      refine r_iret dX6_firstToSet_67 rfl ?_
      exact retI (by rw [show i = sz by omega])
    | succ m ih =>
      intro i hi
      have hf := ftsN_lt (tr := tr) (gone := gone) (sz := sz) i (by omega)
      have b3 := wf.t3 (k := i) (by omega)
      refine r_iload dX6_firstToSet_9 rfl ?_
      refine r_aload_n dX6_firstToSet_11 rfl ?_
      refine r_getR (b := 13) dX6_firstToSet_12 f_X6_10 (hsh.al rfl (by decide)) (Or.inr ⟨_, rfl⟩) (hsh.r 12 0 13 (by decide)) (by decide) ?_
      refine r_getIE dX6_firstToSet_15 f_X6_95 (hsh.al rfl (by decide)) (Or.inl rfl) hA.2.2.1 ?_
      refine r_nicmp_ge  (tgt := 66) dX6_firstToSet_18 (by decide) rfl rfl (by omega) (by omega) (fun h18 => absurd h18 (by omega)) (fun h18 => ?_)
      refine r_iload_n dX6_firstToSet_21 rfl ?_
      refine r_iload dX6_firstToSet_22 rfl ?_
      refine r_ishr dX6_firstToSet_24 ?_
      refine r_iconst (v := 1) dX6_firstToSet_25 (by decide) ?_
      refine r_iand dX6_firstToSet_26 ?_
      refine r_top (v := b2i (gone.testBit i)) (bit_ts _ hg _ (by omega)) ?_
      refine r_ifb_ne (tgt := 60) dX6_firstToSet_27 (by decide) (fun h27 => ?_) (fun h27 => ?_)
      · refine r_iincE (b := (i + 1)) dX6_firstToSet_60 rfl rfl (nI_succ _).symm rfl ?_
        refine r_goto (tgt := 9) dX6_firstToSet_63 (by decide) ?_
        have e2 : ftsN tr gone (i + 1) = ftsN tr gone i := if_neg (fun h => by rw [h27] at h; exact absurd h.1 (by decide))
        have hg2 := ih (i + 1) (by omega)
        rw [e2] at hg2
        exact hg2
      · refine r_aload_n dX6_firstToSet_30 rfl ?_
        refine r_getR (b := 13) dX6_firstToSet_31 f_X6_10 (hsh.al rfl (by decide)) (Or.inr ⟨_, rfl⟩) (hsh.r 12 0 13 (by decide)) (by decide) ?_
        refine r_bipush (v := 11) dX6_firstToSet_34 (by decide) ?_
        refine r_iload dX6_firstToSet_36 rfl ?_
        refine r_callV2I dX6_firstToSet_38 moX3_get w_472 w_443 w_444 (hsh.al rfl (by decide)) cl3 rfl (Nat.le_of_ble_eq_true rfl) (Nat.le_of_ble_eq_true rfl) (S_getT hsh h13 hA wf (j := 3) (k := i) (by decide) (by omega)) ?_
        refine r_iload_n dX6_firstToSet_41 rfl ?_
        refine r_nicmp_ge  (tgt := 60) dX6_firstToSet_42 (by decide) rfl rfl (by omega) (by omega) (fun h42 => ?_) (fun h42 => ?_)
        · refine r_iincE (b := (i + 1)) dX6_firstToSet_60 rfl rfl (nI_succ _).symm rfl ?_
          refine r_goto (tgt := 9) dX6_firstToSet_63 (by decide) ?_
          have e2 : ftsN tr gone (i + 1) = ftsN tr gone i := if_neg (fun h => by omega)
          have hg2 := ih (i + 1) (by omega)
          rw [e2] at hg2
          exact hg2
        · refine r_iload dX6_firstToSet_45 rfl ?_
          refine r_istore_n dX6_firstToSet_47 (by decide) rfl ?_
          refine r_aload_n dX6_firstToSet_48 rfl ?_
          refine r_getR (b := 13) dX6_firstToSet_49 f_X6_10 (hsh.al rfl (by decide)) (Or.inr ⟨_, rfl⟩) (hsh.r 12 0 13 (by decide)) (by decide) ?_
          refine r_bipush (v := 11) dX6_firstToSet_52 (by decide) ?_
          refine r_iload dX6_firstToSet_54 rfl ?_
          refine r_callV2I dX6_firstToSet_56 moX3_get w_472 w_443 w_444 (hsh.al rfl (by decide)) cl3 rfl (Nat.le_of_ble_eq_true rfl) (Nat.le_of_ble_eq_true rfl) (S_getT hsh h13 hA wf (j := 3) (k := i) (by decide) (by omega)) ?_
          refine r_istore_n dX6_firstToSet_59 (by decide) rfl ?_
          refine r_iincE (b := (i + 1)) dX6_firstToSet_60 rfl rfl (nI_succ _).symm rfl ?_
          refine r_goto (tgt := 9) dX6_firstToSet_63 (by decide) ?_
          have e2 : ftsN tr gone (i + 1) = (i, tr 3 i) := if_pos ⟨h27, by omega⟩
          have hg2 := ih (i + 1) (by omega)
          rw [e2] at hg2
          exact hg2
  refine r_iconst (v := 0) dX6_firstToSet_0 (by decide) ?_
  refine r_istore_n dX6_firstToSet_1 (by decide) rfl ?_
  refine r_sipush (v := 200) dX6_firstToSet_2 (by decide) ?_
  refine r_istore_n dX6_firstToSet_5 (by decide) rfl ?_
  refine r_iconst (v := 0) dX6_firstToSet_6 (by decide) ?_
  refine r_istore dX6_firstToSet_7 (by decide) rfl ?_
  exact loop sz 0 (by omega)
def tellN (it : Nat → Int32) (sz : Nat) : Nat → Nat → Nat → Bool
  | 0, _, told => decide (told = 2 ^ sz - 1)
  | m + 1, i, told => if bw (it i) (nI sz) then tellN it sz m (i + 1) (told ||| 2 ^ (it i).toInt.toNat) else false
/-- a sheet tells each sight once -/
def eachN (so : Int) (z : Nat) (it : Nat → Int32) (sz : Nat) : Bool := decide (so ≠ -1) && decide (z = sz) && tellN it sz sz 0 0
theorem tellN_in {it : Nat → Int32} {sz : Nat} : ∀ {m i told : Nat}, tellN it sz m i told = true → ∀ j, i ≤ j → j < i + m → bw (it j) (nI sz) = true
  | 0, _, _, _, j, h1, h2 => by omega
  | m + 1, i, told, h, j, h1, h2 => by
    unfold tellN at h
    split at h
    · rename_i hb
      by_cases e : j = i
      · subst e; exact hb
      · exact tellN_in h j (by omega) (by omega)
    · cases h
theorem nI_tn {k : Nat} (h : k < 2 ^ 31) : (nI k).toInt.toNat = k := by rw [nI_tI h]; rfl
set_option maxRecDepth 20000 in
set_option maxHeartbeats 4000000 in
theorem S_tellsEachOnce {g : GP} {d n : Nat} {I : TI} {J : TJ} {R : TR} {dl : Nat → Nat} {tr : Nat → Nat → Nat} {sz rl : Nat} (hsh : Sh n R) (hA : SkyAt I 13 dl tr sz rl) (wf : WF dl tr sz rl) {h z : Nat} {so : Int} (hh : isSheet h) (hS : ShtAt I h so z) : Wp g (d + 2) mX6_tellsEachOnce 0 [.ref 12, .ref h, .null, .null, .null] [] 0 0 n I J R (RetI (b2i (eachN so z (I (h + 1)) sz)) n I J R) := by
  have bz := wf.2.2.1
  have h13 : isSky 13 := Or.inl rfl
  have hS0 := hS
  obtain ⟨s0, s1, s2, s3, s4⟩ := hS
  have loop : so ≠ -1 → z = sz → ∀ m i told v, i + m = sz → told < 128 → tellN (I (h + 1)) sz m i told = tellN (I (h + 1)) sz sz 0 0 → Wp g (d + 2) mX6_tellsEachOnce 27 [.ref 12, .ref h, .int (nI told), .int (nI i), v] [] 0 0 n I J R (RetI (b2i (eachN so z (I (h + 1)) sz)) n I J R) := by
    intro hso hz m
    have e0 : eachN so z (I (h + 1)) sz = tellN (I (h + 1)) sz sz 0 0 := by
      unfold eachN
      rw [decide_eq_true hso, decide_eq_true hz, Bool.true_and, Bool.true_and]
    induction m with
    | zero =>
      intro i told v hi ht he
      have hp2 := p2_lt bz
      refine r_iload_n dX6_tellsEachOnce_27 rfl ?_
      refine r_aload_n dX6_tellsEachOnce_28 rfl ?_
      refine r_getIE dX6_tellsEachOnce_29 f_X6_137 (hsh.h0 hh) (Or.inl rfl) s1 ?_
      refine r_nicmp_ge  (tgt := 72) dX6_tellsEachOnce_32 (by decide) rfl rfl (by omega) (by omega) (fun h32 => ?_) (fun h32 => absurd h32 (by omega))
      refine r_iload_n dX6_tellsEachOnce_72 rfl ?_
      refine r_aload_n dX6_tellsEachOnce_73 rfl ?_
      refine r_getR (b := 13) dX6_tellsEachOnce_74 f_X6_10 (hsh.al rfl (by decide)) (Or.inr ⟨_, rfl⟩) (hsh.r 12 0 13 (by decide)) (by decide) ?_
      refine r_callV0I dX6_tellsEachOnce_77 moX3_all w_511 w_451 w_452 (hsh.al rfl (by decide)) cl3 rfl (Nat.le_of_ble_eq_true rfl) (Nat.le_of_ble_eq_true rfl) (S_all hsh h13 hA wf) ?_
      refine r_nicmp_ne  (tgt := 87) dX6_tellsEachOnce_80 (by decide) rfl rfl (by omega) (by omega) (fun h80 => ?_) (fun h80 => ?_)
      · refine r_iconst (v := 0) dX6_tellsEachOnce_87 (by decide) ?_
        refine r_bret (b := eachN so z (I (h + 1)) sz) dX6_tellsEachOnce_88 rfl ?_ ?_
        · refine b2i_0 ?_
          rw [e0, ← he]
          exact decide_eq_false h80
        · exact ⟨rfl, rfl, rfl, rfl, rfl⟩
      · refine r_iconst (v := 1) dX6_tellsEachOnce_83 (by decide) ?_
        refine r_goto (tgt := 88) dX6_tellsEachOnce_84 (by decide) ?_
        refine r_bret (b := eachN so z (I (h + 1)) sz) dX6_tellsEachOnce_88 rfl ?_ ?_
        · refine b2i_1 ?_
          rw [e0, ← he]
          exact decide_eq_true h80
        · exact ⟨rfl, rfl, rfl, rfl, rfl⟩
    | succ m ih =>
      intro i told v hi ht he
      refine r_iload_n dX6_tellsEachOnce_27 rfl ?_
      refine r_aload_n dX6_tellsEachOnce_28 rfl ?_
      refine r_getIE dX6_tellsEachOnce_29 f_X6_137 (hsh.h0 hh) (Or.inl rfl) s1 ?_
      refine r_nicmp_ge  (tgt := 72) dX6_tellsEachOnce_32 (by decide) rfl rfl (by omega) (by omega) (fun h32 => absurd h32 (by omega)) (fun h32 => ?_)
      refine r_aload_n dX6_tellsEachOnce_35 rfl ?_
      refine r_iload_n dX6_tellsEachOnce_36 rfl ?_
      refine r_callV1I dX6_tellsEachOnce_37 moX2_item w_585 w_586 w_587 (hsh.h0 hh) cl2 rfl (Nat.le_of_ble_eq_true rfl) (Nat.le_of_ble_eq_true rfl) (S_item hsh hh hS0 (i := i) (by omega)) ?_
      refine r_istore dX6_tellsEachOnce_40 (by decide) rfl ?_
      refine r_iload dX6_tellsEachOnce_42 rfl ?_
      refine r_aload_n dX6_tellsEachOnce_44 rfl ?_
      refine r_getR (b := 13) dX6_tellsEachOnce_45 f_X6_10 (hsh.al rfl (by decide)) (Or.inr ⟨_, rfl⟩) (hsh.r 12 0 13 (by decide)) (by decide) ?_
      refine r_getIE dX6_tellsEachOnce_48 f_X6_95 (hsh.al rfl (by decide)) (Or.inl rfl) hA.2.2.1 ?_
      refine r_callS2I dX6_tellsEachOnce_51 moX6_isBelow w_458 w_400 (Nat.le_of_ble_eq_true rfl) (Nat.le_of_ble_eq_true rfl) (S_isBelow _ _) ?_
      refine r_ifb_ne (tgt := 59) dX6_tellsEachOnce_54 (by decide) (fun h54 => ?_) (fun h54 => ?_)
      · obtain ⟨k, hk, ek⟩ := bw_ex rfl (by omega) h54
        rw [ek]
        refine r_iload_n dX6_tellsEachOnce_59 rfl ?_
        refine r_iconst (v := 1) dX6_tellsEachOnce_60 (by decide) ?_
        refine r_iload dX6_tellsEachOnce_61 rfl ?_
        refine r_ishl dX6_tellsEachOnce_63 ?_
        refine r_top (v := nI (2 ^ k)) (bit_sh k (by omega)) ?_
        refine r_ior dX6_tellsEachOnce_64 ?_
        refine r_top (v := nI (told ||| 2 ^ k)) (nI_or _ _) ?_
        refine r_istore_n dX6_tellsEachOnce_65 (by decide) rfl ?_
        refine r_iincE (b := (i + 1)) dX6_tellsEachOnce_66 rfl rfl (nI_succ _).symm rfl ?_
        refine r_goto (tgt := 27) dX6_tellsEachOnce_69 (by decide) ?_
        refine ih (i + 1) _ _ (by omega) (or_lt ht (by omega)) ?_
        rw [← he]
        show _ = (if bw (I (h + 1) i) (nI sz) = true then _ else false)
        rw [h54, if_pos rfl, ek, nI_tn (by omega)]
      · refine r_iconst (v := 0) dX6_tellsEachOnce_57 (by decide) ?_
        refine r_bret (b := eachN so z (I (h + 1)) sz) dX6_tellsEachOnce_58 rfl ?_ ?_
        · refine b2i_0 ?_
          rw [e0, ← he]
          show (if bw (I (h + 1) i) (nI sz) = true then _ else false) = false
          rw [h54, if_neg (by decide)]
        · exact ⟨rfl, rfl, rfl, rfl, rfl⟩
  refine r_aload_n dX6_tellsEachOnce_0 rfl ?_
  refine r_callV0I dX6_tellsEachOnce_1 moX2_isMissing w_581 w_582 w_583 (hsh.h0 hh) cl2 rfl (Nat.le_of_ble_eq_true rfl) (Nat.le_of_ble_eq_true rfl) (S_isMissing hsh hh hS0) ?_
  refine r_ifb_ne (tgt := 21) dX6_tellsEachOnce_4 (by decide) (fun h4 => ?_) (fun h4 => ?_)
  · refine r_iconst (v := 0) dX6_tellsEachOnce_21 (by decide) ?_
    refine r_bret (b := eachN so z (I (h + 1)) sz) dX6_tellsEachOnce_22 rfl ?_ ?_
    · refine b2i_0 ?_
      unfold eachN
      rw [decide_eq_true_eq] at h4
      rw [h4]; rfl
    · exact ⟨rfl, rfl, rfl, rfl, rfl⟩
  · refine r_aload_n dX6_tellsEachOnce_7 rfl ?_
    refine r_getIE dX6_tellsEachOnce_8 f_X6_137 (hsh.h0 hh) (Or.inl rfl) s1 ?_
    refine r_aload_n dX6_tellsEachOnce_11 rfl ?_
    refine r_getR (b := 13) dX6_tellsEachOnce_12 f_X6_10 (hsh.al rfl (by decide)) (Or.inr ⟨_, rfl⟩) (hsh.r 12 0 13 (by decide)) (by decide) ?_
    refine r_getIE dX6_tellsEachOnce_15 f_X6_95 (hsh.al rfl (by decide)) (Or.inl rfl) hA.2.2.1 ?_
    refine r_nicmp_eq  (tgt := 23) dX6_tellsEachOnce_18 (by decide) rfl rfl (by omega) (by omega) (fun h18 => ?_) (fun h18 => ?_)
    · refine r_iconst (v := 0) dX6_tellsEachOnce_23 (by decide) ?_
      refine r_istore_n dX6_tellsEachOnce_24 (by decide) rfl ?_
      refine r_iconst (v := 0) dX6_tellsEachOnce_25 (by decide) ?_
      refine r_istore_n dX6_tellsEachOnce_26 (by decide) rfl ?_
      exact loop (of_decide_eq_false h4) h18 sz 0 0 _ (by omega) (by decide) rfl
    · refine r_iconst (v := 0) dX6_tellsEachOnce_21 (by decide) ?_
      refine r_bret (b := eachN so z (I (h + 1)) sz) dX6_tellsEachOnce_22 rfl ?_ ?_
      · refine b2i_0 ?_
        unfold eachN
        rw [decide_eq_false h18]
        rw [Bool.and_false, Bool.false_and]
      · exact ⟨rfl, rfl, rfl, rfl, rfl⟩
theorem lay_hi {n : Nat} (h : 106 ≤ n) : LAY (12 + n) = (0, 2) := by
  have e : layL.length ≤ 12 + n := Nat.le_trans (by decide) (show 118 ≤ 12 + n by omega)
  unfold LAY
  rw [List.getD_eq_getElem?_getD, List.getElem?_eq_none e]
  rfl
