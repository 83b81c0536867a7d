def sumP (tr : Nat → Nat → Nat) : Nat → Nat
  | 0 => 0
  | i + 1 => sumP tr i + payN tr i
theorem payN_le {dl : Nat → Nat} {tr : Nat → Nat → Nat} {sz rl k : Nat} (wf : WF dl tr sz rl) (hk : k < 7) : payN tr k ≤ 300 := by
  have b0 := wf.t0 hk
  have b4 := wf.t4 hk
  unfold payN
  split <;> (try split) <;> (try split) <;> omega
theorem sumP_le {dl : Nat → Nat} {tr : Nat → Nat → Nat} {sz rl : Nat} (wf : WF dl tr sz rl) : ∀ i, i ≤ 7 → sumP tr i ≤ 300 * i
  | 0, _ => Nat.le_refl _
  | i + 1, h => by
    have h1 := sumP_le wf i (by omega)
    have h2 := payN_le wf (k := i) (by omega)
    unfold sumP
    omega
set_option maxRecDepth 20000 in
set_option maxHeartbeats 4000000 in
theorem S_paysOfAll {g : GP} {d n : Nat} {I : TI} {J : TJ} {R : TR} {s : Nat} {dl : Nat → Nat} {tr : Nat → Nat → Nat} {sz rl : Nat} (hsh : Sh n R) (hs : isSky s) (hA : SkyAt I s dl tr sz rl) (wf : WF dl tr sz rl) : Wp g (d + 2) mX3_paysOfAll 0 [.ref s, .null, .null] [] 0 0 n I J R (RetI (nI (sumP tr sz)) n I J R) := by
  have bz := wf.2.2.1
  have loop : ∀ m i, i + m = sz → Wp g (d + 2) mX3_paysOfAll 4 [.ref s, .int (nI (sumP tr i)), .int (nI i)] [] 0 0 n I J R (RetI (nI (sumP tr sz)) n I J R) := by
    intro m
    induction m with
    | zero =>
      intro i hi
      have bs := sumP_le wf i (by omega)
      refine r_iload_n dX3_paysOfAll_4 rfl ?_
      refine r_aload_n dX3_paysOfAll_5 rfl ?_
      refine r_getIE dX3_paysOfAll_6 f_X3_45 (hsh.k0 hs) (Or.inl rfl) hA.2.2.1 ?_
      refine r_nicmp_ge  (tgt := 26) dX3_paysOfAll_9 (by decide) rfl rfl (by omega) (by omega) (fun h9 => ?_) (fun h9 => absurd h9 (by omega))
      refine r_iload_n dX3_paysOfAll_26 rfl ?_
      refine r_iret dX3_paysOfAll_27 rfl ?_
      exact retI (by rw [show i = sz by omega])
    | succ m ih =>
      intro i hi
      have bs := sumP_le wf i (by omega)
      refine r_iload_n dX3_paysOfAll_4 rfl ?_
      refine r_aload_n dX3_paysOfAll_5 rfl ?_
      refine r_getIE dX3_paysOfAll_6 f_X3_45 (hsh.k0 hs) (Or.inl rfl) hA.2.2.1 ?_
      refine r_nicmp_ge  (tgt := 26) dX3_paysOfAll_9 (by decide) rfl rfl (by omega) (by omega) (fun h9 => absurd h9 (by omega)) (fun h9 => ?_)
      refine r_iload_n dX3_paysOfAll_12 rfl ?_
      refine r_aload_n dX3_paysOfAll_13 rfl ?_
      refine r_iload_n dX3_paysOfAll_14 rfl ?_
      refine r_callV1I dX3_paysOfAll_15 moX3_pays w_615 w_469 w_470 (hsh.k0 hs) cl3 rfl (Nat.le_of_ble_eq_true rfl) (Nat.le_of_ble_eq_true rfl) (S_pays hsh hs hA wf (k := i) (by omega)) ?_
      refine r_niadd dX3_paysOfAll_18 rfl rfl ?_
      refine r_istore_n dX3_paysOfAll_19 (by decide) rfl ?_
      refine r_iincE (b := (i + 1)) dX3_paysOfAll_20 rfl rfl (nI_succ _).symm rfl ?_
      refine r_goto (tgt := 4) dX3_paysOfAll_23 (by decide) ?_
      exact ih (i + 1) (by omega)
  refine r_iconst (v := 0) dX3_paysOfAll_0 (by decide) ?_
  refine r_istore_n dX3_paysOfAll_1 (by decide) rfl ?_
  refine r_iconst (v := 0) dX3_paysOfAll_2 (by decide) ?_
  refine r_istore_n dX3_paysOfAll_3 (by decide) rfl ?_
  exact loop sz 0 (by omega)
set_option maxRecDepth 20000 in
set_option maxHeartbeats 4000000 in
theorem S_firstClear {g : GP} {d n : Nat} {I : TI} {J : TJ} {R : TR} {s : Nat} {dl : Nat → Nat} {tr : Nat → Nat → Nat} {sz rl : Nat} (hsh : Sh n R) (hs : isSky s) (hA : SkyAt I s dl tr sz rl) (wf : WF dl tr sz rl) {k t0 nd : Nat} (hk : k < 7) (ht : t0 < 100000) (hn : nd < 100000) (hC : RowOK I s dl tr k) : Wp g (d + 1) mX3_firstClear 0 [.ref s, .int (nI k), .int (nI t0), .int (nI nd), .null, .null] [] 0 0 n I J R (RetI (oI (fstN (visN dl tr k) nd (if 199 < t0 + dl 7 then 199 else t0 + dl 7) (200 - t0) t0)) n I J R) := by
  have q0 := wf.d0
  have q1 := wf.d1
  have q2 := wf.d2
  have q3 := wf.d3
  have q4 := wf.d4
  have q5 := wf.d5
  have q6 := wf.d6
  have q7 := wf.d7
  have loop : ∀ m t la, la ≤ 199 → m = 200 - t → t < 200000 → Wp g (d + 1) mX3_firstClear 35 [.ref s, .int (nI k), .int (nI t0), .int (nI nd), .int (nI la), .int (nI t)] [] 0 0 n I J R (RetI (oI (fstN (visN dl tr k) nd la m t)) n I J R) := by
    intro m
    induction m with
    | zero =>
      intro t la hla hm ht
      refine r_iload dX3_firstClear_35 rfl ?_
      refine r_iload dX3_firstClear_37 rfl ?_
      refine r_nicmp_gt  (tgt := 64) dX3_firstClear_39 (by decide) rfl rfl (by omega) (by omega) (fun h39 => ?_) (fun h39 => absurd h39 (by omega))
      refine r_iconst (v := (-1)) dX3_firstClear_64 (by decide) ?_
      refine r_iret dX3_firstClear_65 rfl ?_
      exact retI rfl
    | succ m ih =>
      intro t la hla hm ht
      refine r_iload dX3_firstClear_35 rfl ?_
      refine r_iload dX3_firstClear_37 rfl ?_
      refine r_nicmp_gt  (tgt := 64) dX3_firstClear_39 (by decide) rfl rfl (by omega) (by omega) (fun h39 => ?_) (fun h39 => ?_)
      · refine r_iconst (v := (-1)) dX3_firstClear_64 (by decide) ?_
        refine r_iret dX3_firstClear_65 rfl ?_
        exact retI (by unfold fstN; rw [if_neg (by omega)]; rfl)
      · refine r_aload_n dX3_firstClear_42 rfl ?_
        refine r_getR (b := (s + 9)) dX3_firstClear_43 f_X3_38 (hsh.k0 hs) (Or.inl ⟨_, rfl⟩) (hsh.kr8 hs) (by omega) ?_
        refine r_iload_n dX3_firstClear_46 rfl ?_
        refine r_aald (j := k) (b := (s + 10 + k)) dX3_firstClear_47 (hsh.k9 hs) (Or.inl rfl) hk rfl (hsh.krc hs hk) (by omega) ?_
        refine r_iload dX3_firstClear_48 rfl ?_
        refine r_ialdE (j := t) dX3_firstClear_50 (hsh.kc hs hk) (by omega) rfl (hC t (by omega)) ?_
        refine r_iload_n dX3_firstClear_51 rfl ?_
        have hrl := rlF_le (visN dl tr k) (200 - t)
        refine r_nicmp_lt  (tgt := 58) dX3_firstClear_52 (by decide) rfl rfl (by omega) (by omega) (fun h52 => ?_) (fun h52 => ?_)
        · refine r_iincE (b := (t + 1)) dX3_firstClear_58 rfl rfl (nI_succ _).symm rfl ?_
          refine r_goto (tgt := 35) dX3_firstClear_61 (by decide) ?_
          have e : fstN (visN dl tr k) nd la (m + 1) t = fstN (visN dl tr k) nd la m (t + 1) := by
            show (if t ≤ la then _ else _) = _
            rw [if_pos (by omega), if_neg (by omega)]
          rw [e]
          exact ih (t + 1) la hla (by omega) (by omega)
        · refine r_iload dX3_firstClear_55 rfl ?_
          refine r_iret dX3_firstClear_57 rfl ?_
          exact retI (by unfold fstN; rw [if_pos (by omega), if_pos (by omega)]; rfl)
  refine r_iload_n dX3_firstClear_0 rfl ?_
  refine r_bipush (v := 7) dX3_firstClear_1 (by decide) ?_
  refine r_callSN2I dX3_firstClear_3 moX6_isBelow (by decide) w_400 (Nat.le_of_ble_eq_true rfl) (Nat.le_of_ble_eq_true rfl) (S_isBelow _ _) ?_
  refine r_ifb_eq (tgt := 13) dX3_firstClear_6 (by decide) (fun h6 => by rw [bw_nt (b := 7) (N := 7) rfl (by decide) hk] at h6; cases h6) (fun h6 => ?_)
  refine r_iload_n dX3_firstClear_9 rfl ?_
  refine r_zif_ge (tgt := 15) dX3_firstClear_10 (by decide) (nz _) (by unfold inZ; omega) (fun h10 => ?_) (fun h10 => absurd h10 (by omega))
  refine r_iload_n dX3_firstClear_15 rfl ?_
  refine r_aload_n dX3_firstClear_16 rfl ?_
  refine r_getR (b := (s + 1)) dX3_firstClear_17 f_X3_9 (hsh.k0 hs) (Or.inl ⟨_, rfl⟩) (hsh.kr0 hs) (by omega) ?_
  refine r_bipush (v := 7) dX3_firstClear_20 (by decide) ?_
  refine r_ialdE (j := 7) dX3_firstClear_22 (hsh.k1 hs) (by decide) rfl (hA.d (by decide)) ?_
  refine r_niadd dX3_firstClear_23 rfl rfl ?_
  refine r_sipush (v := 199) dX3_firstClear_24 (by decide) ?_
  refine r_nmmin (b := 199) dX3_firstClear_27 w_560 (Nat.le_of_ble_eq_true rfl) rfl rfl (by omega) (by omega) ?_
  refine r_istore dX3_firstClear_30 (by decide) rfl ?_
  refine r_iload_n dX3_firstClear_32 rfl ?_
  refine r_istore dX3_firstClear_33 (by decide) rfl ?_
  exact loop _ t0 _ (by split <;> omega) rfl (by omega)
