/-! what the class weighs -/
theorem bit_sh2 : ∀ k, k < 16 → ((1 : Int32) <<< (nI k &&& 31)) = nI (2 ^ k) := by decide +kernel
set_option maxRecDepth 20000 in
set_option maxHeartbeats 4000000 in
theorem S_foundPlain {g : GP} {d n : Nat} {I : TI} {J : TJ} {R : TR} {s : Nat} {dl : Nat → Nat} {tr : Nat → Nat → Nat} {sz rl : Nat} {tc : Nat} {tv : Nat → TV} (hsh : Sh n R) (hs : isSky s) (hK : SkyOK I s dl tr sz rl) (hT : TxOK I tc tv) (hrl : rl < tc) (hKS : KS I) : Wp g (d + 5) mX6_foundPlain 0 [.ref 12, .ref s] [] 0 0 n I J R (PostN n J R (some (.int (nI (bcN (nFound (plainN dl tr (tv rl) sz (2 ^ sz - 1))))))) (BegP I s dl tr sz rl (plainN dl tr (tv rl) sz (2 ^ sz - 1)))) := by
  have wf := hK.2.1
  refine r_aload_n dX6_foundPlain_0 rfl ?_
  refine r_getR (b := 97) dX6_foundPlain_1 f_X6_56 (hsh.al rfl (by decide)) (Or.inr ⟨_, rfl⟩) (hsh.r 12 7 97 (by decide)) (by decide) ?_
  refine r_aload_n dX6_foundPlain_4 rfl ?_
  refine r_aload_n dX6_foundPlain_5 rfl ?_
  refine r_callV0I dX6_foundPlain_6 moX3_all w_511 w_451 w_452 (hsh.k0 hs) cl3 rfl (Nat.le_of_ble_eq_true rfl) (Nat.le_of_ble_eq_true rfl) (S_all hsh hs hK.1 wf) ?_
  refine r_callV2N dX6_foundPlain_9 moX5_goPlain w_512 w_513 w_514 (hsh.al rfl (by decide)) cl5 rfl (Nat.le_of_ble_eq_true rfl) (Nat.le_of_ble_eq_true rfl) (S_plain hsh hs hK hT hrl hKS (p2_lt wf.2.2.1)) (fun r n I2 J R hq => ?_)
  obtain ⟨rfl, rfl, rfl, fR, hB⟩ := hq
  have hsh := hsh.fr fR
  refine r_some rfl ?_
  refine r_pop dX6_foundPlain_12 rfl ?_
  refine r_aload_n dX6_foundPlain_13 rfl ?_
  refine r_getR (b := 97) dX6_foundPlain_14 f_X6_56 (hsh.al rfl (by decide)) (Or.inr ⟨_, rfl⟩) (hsh.r 12 7 97 (by decide)) (by decide) ?_
  refine r_getIE dX6_foundPlain_17 f_X6_254 (hsh.al rfl (by decide)) (Or.inl rfl) hB.1.2.2.2.1 ?_
  refine r_callS1I dX6_foundPlain_20 moJ6_bitCount_0f7a4 w_643 w_567 (Nat.le_of_ble_eq_true rfl) (Nat.le_of_ble_eq_true rfl) (S_bitCount (plainN_ok wf (hT.le hrl)).2.2.1) ?_
  refine r_iret dX6_foundPlain_23 rfl ?_
  exact ⟨rfl, rfl, rfl, fR, hB⟩
def bumpN (m : Nat) (x : NS) : NS := (nAt x, nTick x + m, nWorth x, nFound x, nWait x, nFi x, nWf x)
def slpN (dl : Nat → Nat) (tr : Nat → Nat → Nat) (V : TV) (pl m : Nat) : Nat → Nat → NS → NS
  | 0, _, x => x
  | f + 1, i, x => slpN dl tr V pl m f (i + 1) (lookN dl tr V i i (if i = pl then bumpN m x else x))
theorem bumpN_ok {m q : Nat} {x : NS} (h : NOK q x) (ht : nTick x + m < 10000) : NOK q (bumpN m x) := by
  obtain ⟨h1, h2, h3, h4, h5, h6, h7, h8⟩ := h
  exact ⟨h1, ht, h3, h4, h5, h6, h7, h8⟩
theorem lookN_tk {dl : Nat → Nat} {tr : Nat → Nat → Nat} {sz rl : Nat} (wf : WF dl tr sz rl) {V : TV} (hV : ∀ p nm, V p nm ≤ 99) {k place B : Nat} {x : NS} (hk : k < 7) (h : nTick x < B) (hB : 500 ≤ B) : nTick (lookN dl tr V k place x) < B := by
  unfold lookN
  simp only
  split
  · exact h
  · rename_i w hw
    have hb := fstN_ge hw
    have hn := needN_le wf hk (hV 1 (nmN (nTick x + V 0 (nmN (nTick x) (farN (nAt x) (tr 1 k)) (dl 0) (tr 0 k) (tr 1 k / 10) place)) (farN (nAt x) (tr 1 k)) (dl 0) (tr 0 k) (tr 1 k / 10) place))
    have hl : w ≤ 199 := by have := hb.2.1; split at this <;> omega
    show w + _ < B
    omega
theorem BegP.bump {I I1 : TI} {R : TR} {s : Nat} {dl : Nat → Nat} {tr : Nat → Nat → Nat} {sz rl m : Nat} {x : NS} (hs : isSky s) (hz : sz ≤ 7) (h : BegP I s dl tr sz rl x I1 R) : BegP I s dl tr sz rl (bumpN m x) (up2 I1 97 8 (nI (nTick x + m))) R := by
  refine h.look hs hz ?_ (FrW.rf.u (by decide))
  obtain ⟨w7, w8, w9, w10, w11, w100, w101⟩ := h.1
  refine ⟨?_, up2_at _ _ _ _, ?_, ?_, ?_, fun k hk => ?_, fun k hk => ?_⟩
  · rw [up2_k _ _ (by decide)]; exact w7
  · rw [up2_k _ _ (by decide)]; exact w9
  · rw [up2_k _ _ (by decide)]; exact w10
  · rw [up2_k _ _ (by decide)]; exact w11
  · rw [up2_a _ _ _ (by decide)]; exact w100 k hk
  · rw [up2_a _ _ _ (by decide)]; exact w101 k hk
theorem slpN_ok {dl : Nat → Nat} {tr : Nat → Nat → Nat} {sz rl : Nat} (wf : WF dl tr sz rl) {V : TV} (hV : ∀ p nm, V p nm ≤ 99) {pl m : Nat} (hm : m ≤ 1000) : ∀ {f i q : Nat} {x : NS}, i + f ≤ 7 → NOK q x → nTick x < 1000 + 1000 * i → NOK (q + f) (slpN dl tr V pl m f i x)
  | 0, _, _, _, _, h, _ => h
  | f + 1, i, q, x, hi, h, ht => by
    have h2 : NOK q (if i = pl then bumpN m x else x) := by
      split
      · exact bumpN_ok h (by omega)
      · exact h
    have h3 : nTick (if i = pl then bumpN m x else x) < 1000 + 1000 * (i + 1) := by
      split
      · show nTick x + m < _; omega
      · omega
    have := slpN_ok wf hV (pl := pl) hm (f := f) (i := i + 1) (by omega) (lookN_ok wf hV (k := i) (place := i) (by omega) h2) (lookN_tk wf hV (k := i) (place := i) (by omega) h3 (by omega))
    exact this.mono (by omega)
def sleepN (dl : Nat → Nat) (tr : Nat → Nat → Nat) (V : TV) (sz pl m : Nat) : NS := slpN dl tr V pl m sz 0 (startN dl)
theorem sleepN_ok {dl : Nat → Nat} {tr : Nat → Nat → Nat} {sz rl : Nat} (wf : WF dl tr sz rl) {V : TV} (hV : ∀ p nm, V p nm ≤ 99) {pl m : Nat} (hm : m ≤ 1000) : NOK 7 (sleepN dl tr V sz pl m) := by
  have hz := wf.2.2.1
  have h := slpN_ok wf hV (pl := pl) hm (f := sz) (i := 0) (by omega) (startN_ok wf) (by have := wf.d6; show dl 6 < _; omega)
  exact h.mono (by omega)
set_option maxRecDepth 20000 in
set_option maxHeartbeats 4000000 in
theorem S_worthSleeping {g : GP} {d n : Nat} {I : TI} {J : TJ} {R : TR} {dl : Nat → Nat} {tr : Nat → Nat → Nat} {sz rl : Nat} {tc : Nat} {tv : Nat → TV} (hsh : Sh n R) (hK : SkyOK I 13 dl tr sz rl) (hT : TxOK I tc tv) (hrl : rl < tc) (hKS : KS I) {pl m : Nat} (hp : pl < 100) (hm : m ≤ 1000) : Wp g (d + 4) mX6_worthSleeping 0 [.ref 12, .int (nI pl), .int (nI m), .null] [] 0 0 n I J R (PostN n J R (some (.int (zI (nWorth (sleepN dl tr (tv rl) sz pl m))))) (BegP I 13 dl tr sz rl (sleepN dl tr (tv rl) sz pl m))) := by
  have wf := hK.2.1
  have hz := wf.2.2.1
  have h13 : isSky 13 := Or.inl rfl
  have loop : ∀ f i x q I2 R2, i + f = sz → FrR R R2 → BegP I 13 dl tr sz rl x I2 R2 → NOK q x → nTick x < 1000 + 1000 * i → slpN dl tr (tv rl) pl m f i x = sleepN dl tr (tv rl) sz pl m → Wp g (d + 4) mX6_worthSleeping 13 [.ref 12, .int (nI pl), .int (nI m), .int (nI i)] [] 0 0 n I2 J R2 (PostN n J R (some (.int (zI (nWorth (sleepN dl tr (tv rl) sz pl m))))) (BegP I 13 dl tr sz rl (sleepN dl tr (tv rl) sz pl m))) := by
    intro f
    induction f with
    | zero =>
      intro i x q I2 R2 hi hR hB hx ht he
      have hsh := hsh.fr hR
      have hA2 := hK.1.nt h13 hB.2.2.1
      have e : x = sleepN dl tr (tv rl) sz pl m := he
      subst e
      refine r_iload_n dX6_worthSleeping_13 rfl ?_
      refine r_aload_n dX6_worthSleeping_14 rfl ?_
      refine r_getR (b := 13) dX6_worthSleeping_15 f_X6_10 (hsh.al rfl (by decide)) (Or.inr ⟨_, rfl⟩) (hsh.r 12 0 13 (by decide)) (by decide) ?_
      refine r_getIE dX6_worthSleeping_18 f_X6_95 (hsh.al rfl (by decide)) (Or.inl rfl) hA2.2.2.1 ?_
      refine r_nicmp_ge  (tgt := 57) dX6_worthSleeping_21 (by decide) rfl rfl (by omega) (by omega) (fun h21 => ?_) (fun h21 => absurd h21 (by omega))
      refine r_aload_n dX6_worthSleeping_57 rfl ?_
      refine r_getR (b := 97) dX6_worthSleeping_58 f_X6_56 (hsh.al rfl (by decide)) (Or.inr ⟨_, rfl⟩) (hsh.r 12 7 97 (by decide)) (by decide) ?_
      refine r_getIE dX6_worthSleeping_61 f_X6_159 (hsh.al rfl (by decide)) (Or.inl rfl) hB.1.2.2.1 ?_
      refine r_iret dX6_worthSleeping_64 rfl ?_
      exact ⟨rfl, rfl, rfl, hR, hB⟩
    | succ f ih =>
      intro i x q I2 R2 hi hR hB hx ht he
      have hsh0 := hsh
      have hsh := hsh.fr hR
      have hA2 := hK.1.nt h13 hB.2.2.1
      have tail : ∀ y I3, BegP I 13 dl tr sz rl y I3 R2 → NOK q y → nTick y < 1000 + 1000 * (i + 1) → slpN dl tr (tv rl) pl m f (i + 1) (lookN dl tr (tv rl) i i y) = sleepN dl tr (tv rl) sz pl m → Wp g (d + 4) mX6_worthSleeping 42 [.ref 12, .int (nI pl), .int (nI m), .int (nI i)] [] 0 0 n I3 J R2 (PostN n J R (some (.int (zI (nWorth (sleepN dl tr (tv rl) sz pl m))))) (BegP I 13 dl tr sz rl (sleepN dl tr (tv rl) sz pl m))) := by
        intro y I3 hB3 hy hty he3
        refine r_aload_n dX6_worthSleeping_42 rfl ?_
        refine r_getR (b := 97) dX6_worthSleeping_43 f_X6_56 (hsh.al rfl (by decide)) (Or.inr ⟨_, rfl⟩) (hsh.r 12 7 97 (by decide)) (by decide) ?_
        refine r_iload_n dX6_worthSleeping_46 rfl ?_
        refine r_iload_n dX6_worthSleeping_47 rfl ?_
        refine r_callV2N dX6_worthSleeping_48 moX5_lookFor w_591 w_532 w_533 (hsh.al rfl (by decide)) cl5 rfl (Nat.le_of_ble_eq_true rfl) (Nat.le_of_ble_eq_true rfl) (S_look hsh0 h13 hK hT hrl hKS (k := i) (place := i) (x := y) (by omega) (by omega) hR hB3 hy.1 hy.2.1) (fun r n I4 J R hq => ?_)
        obtain ⟨rfl, rfl, rfl, rfl, hB4⟩ := hq
        refine r_iincE (b := (i + 1)) dX6_worthSleeping_51 rfl rfl (nI_succ _).symm rfl ?_
        refine r_goto (tgt := 13) dX6_worthSleeping_54 (by decide) ?_
        exact ih (i + 1) _ (q + 1) _ _ (by omega) hR hB4 (lookN_ok wf (hT.le hrl) (k := i) (place := i) (by omega) hy) (lookN_tk wf (hT.le hrl) (k := i) (place := i) (by omega) hty (by omega)) he3
      refine r_iload_n dX6_worthSleeping_13 rfl ?_
      refine r_aload_n dX6_worthSleeping_14 rfl ?_
      refine r_getR (b := 13) dX6_worthSleeping_15 f_X6_10 (hsh.al rfl (by decide)) (Or.inr ⟨_, rfl⟩) (hsh.r 12 0 13 (by decide)) (by decide) ?_
      refine r_getIE dX6_worthSleeping_18 f_X6_95 (hsh.al rfl (by decide)) (Or.inl rfl) hA2.2.2.1 ?_
      refine r_nicmp_ge  (tgt := 57) dX6_worthSleeping_21 (by decide) rfl rfl (by omega) (by omega) (fun h21 => absurd h21 (by omega)) (fun h21 => ?_)
      refine r_iload_n dX6_worthSleeping_24 rfl ?_
      refine r_iload_n dX6_worthSleeping_25 rfl ?_
      refine r_nicmp_ne  (tgt := 42) dX6_worthSleeping_26 (by decide) rfl rfl (by omega) (by omega) (fun h26 => ?_) (fun h26 => ?_)
      · exact tail x I2 hB hx (by omega) (by rw [← he]; show _ = slpN _ _ _ _ _ _ _ (lookN _ _ _ _ _ (if i = pl then _ else _)); rw [if_neg h26])
      · refine r_aload_n dX6_worthSleeping_29 rfl ?_
        refine r_getR (b := 97) dX6_worthSleeping_30 f_X6_56 (hsh.al rfl (by decide)) (Or.inr ⟨_, rfl⟩) (hsh.r 12 7 97 (by decide)) (by decide) ?_
        refine r_dup dX6_worthSleeping_33 rfl ?_
        refine r_getIE dX6_worthSleeping_34 f_X6_250 (hsh.al rfl (by decide)) (Or.inl rfl) hB.1.2.1 ?_
        refine r_iload_n dX6_worthSleeping_37 rfl ?_
        refine r_niadd dX6_worthSleeping_38 rfl rfl ?_
        refine r_putI dX6_worthSleeping_39 f_X6_250 (hsh.al rfl (by decide)) (Or.inl rfl) rfl ?_
        exact tail (bumpN m x) _ (hB.bump h13 hz) (bumpN_ok hx (by omega)) (by show nTick x + m < _; omega) (by rw [← he]; show _ = slpN _ _ _ _ _ _ _ (lookN _ _ _ _ _ (if i = pl then _ else _)); rw [if_pos h26])
  refine r_aload_n dX6_worthSleeping_0 rfl ?_
  refine r_getR (b := 97) dX6_worthSleeping_1 f_X6_56 (hsh.al rfl (by decide)) (Or.inr ⟨_, rfl⟩) (hsh.r 12 7 97 (by decide)) (by decide) ?_
  refine r_aload_n dX6_worthSleeping_4 rfl ?_
  refine r_getR (b := 13) dX6_worthSleeping_5 f_X6_10 (hsh.al rfl (by decide)) (Or.inr ⟨_, rfl⟩) (hsh.r 12 0 13 (by decide)) (by decide) ?_
  refine r_callV1N dX6_worthSleeping_8 moX5_begin w_590 w_517 w_518 (hsh.al rfl (by decide)) cl5 rfl (Nat.le_of_ble_eq_true rfl) (Nat.le_of_ble_eq_true rfl) (S_beg hsh h13 hK hT hrl hKS) (fun r n I2 J R hq => ?_)
  obtain ⟨rfl, rfl, rfl, fR, hB⟩ := hq
  refine r_iconst (v := 0) dX6_worthSleeping_11 (by decide) ?_
  refine r_istore_n dX6_worthSleeping_12 (by decide) rfl ?_
  exact loop sz 0 _ 0 _ _ (by omega) fR hB (startN_ok wf) (by have := wf.d6; show dl 6 < _; omega) rfl
def clearD (dl : Nat → Nat) : Nat → Nat := up1 (up1 dl 1 9) 2 0
theorem SkyOK.of47 {I I2 : TI} {dl : Nat → Nat} {tr : Nat → Nat → Nat} {sz rl : Nat} (h : SkyOK I 13 dl tr sz rl) (hF : ∀ a, ¬ inS 47 a → I2 a = I a) : SkyOK I2 13 dl tr sz rl := h.out fun a ha => hF a (not47 ha)
/-- what a weighing on the trial leaves -/
def WgP (I : TI) (dl : Nat → Nat) (tr : Nat → Nat → Nat) (sz rl : Nat) : TI → TR → Prop := fun I2 _ => SkyOK I2 13 dl tr sz rl ∧ FrX I I2
set_option maxRecDepth 20000 in
set_option maxHeartbeats 4000000 in
theorem S_worthWithoutCloud {g : GP} {d n : Nat} {I : TI} {J : TJ} {R : TR} {dl : Nat → Nat} {tr : Nat → Nat → Nat} {sz rl : Nat} {tc : Nat} {tv : Nat → TV} (hsh : Sh n R) (hK : SkyOK I 13 dl tr sz rl) (hT : TxOK I tc tv) (hrl : rl < tc) (hKS : KS I) : Wp g (d + 5) mX6_worthWithoutCloud 0 [.ref 12] [] 0 0 n I J R (PostN n J R (some (.int (zI (nWorth (plainN (clearD dl) tr (tv rl) sz (2 ^ sz - 1)))))) (WgP I dl tr sz rl)) := by
  have wf := hK.2.1
  have h13 : isSky 13 := Or.inl rfl
  have h47 : isSky 47 := Or.inr (Or.inr rfl)
  refine r_aload_n dX6_worthWithoutCloud_0 rfl ?_
  refine r_getR (b := 47) dX6_worthWithoutCloud_1 f_X6_19 (hsh.al rfl (by decide)) (Or.inr ⟨_, rfl⟩) (hsh.r 12 2 47 (by decide)) (by decide) ?_
  refine r_aload_n dX6_worthWithoutCloud_4 rfl ?_
  refine r_getR (b := 13) dX6_worthWithoutCloud_5 f_X6_10 (hsh.al rfl (by decide)) (Or.inr ⟨_, rfl⟩) (hsh.r 12 0 13 (by decide)) (by decide) ?_
  refine r_callV1N dX6_worthWithoutCloud_8 moX3_takeAfter w_644 w_645 w_646 (hsh.al rfl (by decide)) cl3 rfl (Nat.le_of_ble_eq_true rfl) (Nat.le_of_ble_eq_true rfl) (S_takeAfter (s := 47) (o := 13) hsh h47 h13 (by decide)) (fun r n I2 J R hq => ?_)
  obtain ⟨rfl, rfl, rfl, rfl, f1⟩ := hq
  have k1 := hK.take f1
  have k2 := k1.upD (w := 1) (v := 9) (by decide) (by decide)
  have k3 := k2.upD (w := 2) (v := 0) (by decide) (by decide)
  have f2 : ∀ a, ¬ inS 47 a → chD (chD I2 47 1 (nI 9) sz) 47 2 (nI 0) sz a = I a := fun a ha => by rw [chD_in a ha, chD_in a ha]; exact f1.1 a ha
  have f3 : FrX I (chD (chD I2 47 1 (nI 9) sz) 47 2 (nI 0) sz) := FrX.rf.in f2
  refine r_aload_n dX6_worthWithoutCloud_11 rfl ?_
  refine r_getR (b := 47) dX6_worthWithoutCloud_12 f_X6_19 (hsh.al rfl (by decide)) (Or.inr ⟨_, rfl⟩) (hsh.r 12 2 47 (by decide)) (by decide) ?_
  refine r_iconst (v := 1) dX6_worthWithoutCloud_15 (by decide) ?_
  refine r_iconst (v := 0) dX6_worthWithoutCloud_16 (by decide) ?_
  refine r_bipush (v := 9) dX6_worthWithoutCloud_17 (by decide) ?_
  refine r_callV3I dX6_worthWithoutCloud_19 moX3_change w_446 w_447 w_448 (hsh.al rfl (by decide)) cl3 rfl (Nat.le_of_ble_eq_true rfl) (Nat.le_of_ble_eq_true rfl) (S_changeD hsh h47 k1.1 k1.2.1 (w := 1) (by decide) 0 9) ?_
  refine r_pop dX6_worthWithoutCloud_22 rfl ?_
  refine r_aload_n dX6_worthWithoutCloud_23 rfl ?_
  refine r_getR (b := 47) dX6_worthWithoutCloud_24 f_X6_19 (hsh.al rfl (by decide)) (Or.inr ⟨_, rfl⟩) (hsh.r 12 2 47 (by decide)) (by decide) ?_
  refine r_iconst (v := 2) dX6_worthWithoutCloud_27 (by decide) ?_
  refine r_iconst (v := 0) dX6_worthWithoutCloud_28 (by decide) ?_
  refine r_iconst (v := 0) dX6_worthWithoutCloud_29 (by decide) ?_
  refine r_callV3I dX6_worthWithoutCloud_30 moX3_change w_446 w_447 w_448 (hsh.al rfl (by decide)) cl3 rfl (Nat.le_of_ble_eq_true rfl) (Nat.le_of_ble_eq_true rfl) (S_changeD hsh h47 k2.1 k2.2.1 (w := 2) (by decide) 0 0) ?_
  refine r_pop dX6_worthWithoutCloud_33 rfl ?_
  refine r_aload_n dX6_worthWithoutCloud_34 rfl ?_
  refine r_getR (b := 97) dX6_worthWithoutCloud_35 f_X6_56 (hsh.al rfl (by decide)) (Or.inr ⟨_, rfl⟩) (hsh.r 12 7 97 (by decide)) (by decide) ?_
  refine r_aload_n dX6_worthWithoutCloud_38 rfl ?_
  refine r_getR (b := 47) dX6_worthWithoutCloud_39 f_X6_19 (hsh.al rfl (by decide)) (Or.inr ⟨_, rfl⟩) (hsh.r 12 2 47 (by decide)) (by decide) ?_
  refine r_aload_n dX6_worthWithoutCloud_42 rfl ?_
  refine r_getR (b := 47) dX6_worthWithoutCloud_43 f_X6_19 (hsh.al rfl (by decide)) (Or.inr ⟨_, rfl⟩) (hsh.r 12 2 47 (by decide)) (by decide) ?_
  refine r_callV0I dX6_worthWithoutCloud_46 moX3_all w_511 w_451 w_452 (hsh.al rfl (by decide)) cl3 rfl (Nat.le_of_ble_eq_true rfl) (Nat.le_of_ble_eq_true rfl) (S_all hsh h47 k3.1 k3.2.1) ?_
  refine r_callV2N dX6_worthWithoutCloud_49 moX5_goPlain w_512 w_513 w_514 (hsh.al rfl (by decide)) cl5 rfl (Nat.le_of_ble_eq_true rfl) (Nat.le_of_ble_eq_true rfl) (S_plain hsh h47 k3 (f3.tx hT) hrl (f3.ks hKS) (p2_lt wf.2.2.1)) (fun r n I3 J R hq => ?_)
  obtain ⟨rfl, rfl, rfl, fR, hB⟩ := hq
  refine r_some rfl ?_
  refine r_iret dX6_worthWithoutCloud_52 rfl ?_
  refine ⟨rfl, rfl, rfl, fR, ?_, f3.nt (Or.inr rfl) hB.2.2.1⟩
  exact (hK.of47 f2).out hB.2.2.1.in47
def drwV (z : Int32) : Nat := (z.toUInt32 >>> 9).toNat
theorem drwV_eq (z : Int32) : ((z.toUInt32 >>> ((9 : Int32).toUInt32 &&& Int32.toUInt32 31)).toInt32) = nI (drwV z) := by
  have e : ((9 : Int32).toUInt32 &&& Int32.toUInt32 31) = 9 := by decide
  rw [e]
  apply Int32.toBitVec_inj.mp
  unfold drwV nI
  apply BitVec.eq_of_toNat_eq
  have h : z.toUInt32.toNat >>> 9 < 4294967296 := by
    rw [Nat.shiftRight_eq_div_pow]
    have := z.toUInt32.toNat_lt
    omega
  simp
  rw [Nat.mod_eq_of_lt h]
  rfl
theorem drwV_lt (z : Int32) : drwV z < 2 ^ 31 := by
  unfold drwV
  have h := z.toUInt32.toNat_lt
  have e : (z.toUInt32 >>> 9).toNat = z.toUInt32.toNat >>> 9 := by simp
  rw [e, Nat.shiftRight_eq_div_pow]
  omega
def drwN (dl : Nat → Nat) (seed : Int32) : Nat → Int32 × (Nat → Nat)
  | 0 => (seed, dl)
  | i + 1 => ((drwN dl seed i).1 * 1103515245 + 12345, up1 (drwN dl seed i).2 (i + 1) (drwV ((drwN dl seed i).1 * 1103515245 + 12345) % (if i + 1 ≤ 2 then 10 else 200)))
set_option maxRecDepth 20000 in
set_option maxHeartbeats 4000000 in
theorem S_worthDrawn {g : GP} {d n : Nat} {I : TI} {J : TJ} {R : TR} {dl : Nat → Nat} {tr : Nat → Nat → Nat} {sz rl : Nat} {tc : Nat} {tv : Nat → TV} (hsh : Sh n R) (hK : SkyOK I 13 dl tr sz rl) (hT : TxOK I tc tv) (hrl : rl < tc) (hKS : KS I) (seed : Int32) : Wp g (d + 5) mX6_worthDrawn 0 [.ref 12, .int seed, .null, .null] [] 0 0 n I J R (PostN n J R (some (.int (zI (nWorth (plainN (drwN dl seed 4).2 tr (tv rl) sz (2 ^ sz - 1)))))) (WgP I dl tr sz rl)) := by
  have wf := hK.2.1
  have h13 : isSky 13 := Or.inl rfl
  have h47 : isSky 47 := Or.inr (Or.inr rfl)
  have loop : ∀ m i I2, i + m = 4 → SkyOK I2 47 (drwN dl seed i).2 tr sz rl → (∀ a, ¬ inS 47 a → I2 a = I a) → Wp g (d + 5) mX6_worthDrawn 15 [.ref 12, .int seed, .int (drwN dl seed i).1, .int (nI (i + 1))] [] 0 0 n I2 J R (PostN n J R (some (.int (zI (nWorth (plainN (drwN dl seed 4).2 tr (tv rl) sz (2 ^ sz - 1)))))) (WgP I dl tr sz rl)) := by
    intro m
    induction m with
    | zero =>
      intro i I2 hi k3 f2
      have e : i = 4 := by omega
      subst e
      have f3 : FrX I I2 := FrX.rf.in f2
      refine r_iload_n dX6_worthDrawn_15 rfl ?_
      refine r_iconst (v := 4) dX6_worthDrawn_16 (by decide) ?_
      refine r_nicmp_gt (b := 4)  (tgt := 64) dX6_worthDrawn_17 (by decide) rfl rfl (by omega) (by omega) (fun h17 => ?_) (fun h17 => absurd h17 (by omega))
      refine r_aload_n dX6_worthDrawn_64 rfl ?_
      refine r_getR (b := 97) dX6_worthDrawn_65 f_X6_56 (hsh.al rfl (by decide)) (Or.inr ⟨_, rfl⟩) (hsh.r 12 7 97 (by decide)) (by decide) ?_
      refine r_aload_n dX6_worthDrawn_68 rfl ?_
      refine r_getR (b := 47) dX6_worthDrawn_69 f_X6_19 (hsh.al rfl (by decide)) (Or.inr ⟨_, rfl⟩) (hsh.r 12 2 47 (by decide)) (by decide) ?_
      refine r_aload_n dX6_worthDrawn_72 rfl ?_
      refine r_getR (b := 47) dX6_worthDrawn_73 f_X6_19 (hsh.al rfl (by decide)) (Or.inr ⟨_, rfl⟩) (hsh.r 12 2 47 (by decide)) (by decide) ?_
      refine r_callV0I dX6_worthDrawn_76 moX3_all w_511 w_451 w_452 (hsh.al rfl (by decide)) cl3 rfl (Nat.le_of_ble_eq_true rfl) (Nat.le_of_ble_eq_true rfl) (S_all hsh h47 k3.1 k3.2.1) ?_
      refine r_callV2N dX6_worthDrawn_79 moX5_goPlain w_512 w_513 w_514 (hsh.al rfl (by decide)) cl5 rfl (Nat.le_of_ble_eq_true rfl) (Nat.le_of_ble_eq_true rfl) (S_plain hsh h47 k3 (f3.tx hT) hrl (f3.ks hKS) (p2_lt wf.2.2.1)) (fun r n I3 J R hq => ?_)
      obtain ⟨rfl, rfl, rfl, fR, hB⟩ := hq
      refine r_some rfl ?_
      refine r_iret dX6_worthDrawn_82 rfl ?_
      refine ⟨rfl, rfl, rfl, fR, ?_, f3.nt (Or.inr rfl) hB.2.2.1⟩
      exact (hK.of47 f2).out hB.2.2.1.in47
    | succ m ih =>
      intro i I2 hi k3 f2
      have hdv := drwV_lt ((drwN dl seed i).1 * 1103515245 + 12345)
      have hdB : ∀ v, v < (if i + 1 ≤ 2 then 10 else 200) → v ≤ dB (i + 1) := fun v hv => by
        have e : i = 0 ∨ i = 1 ∨ i = 2 ∨ i = 3 := by omega
        rcases e with rfl | rfl | rfl | rfl
        · have : v < 10 := hv
          show v ≤ 9; omega
        · have : v < 10 := hv
          show v ≤ 9; omega
        · have : v < 200 := hv
          show v ≤ 199; omega
        · have : v < 200 := hv
          show v ≤ 199; omega
      refine r_iload_n dX6_worthDrawn_15 rfl ?_
      refine r_iconst (v := 4) dX6_worthDrawn_16 (by decide) ?_
      refine r_nicmp_gt (b := 4)  (tgt := 64) dX6_worthDrawn_17 (by decide) rfl rfl (by omega) (by omega) (fun h17 => absurd h17 (by omega)) (fun h17 => ?_)
      refine r_iload_n dX6_worthDrawn_20 rfl ?_
      refine r_ldcwI dX6_worthDrawn_21 w_724 ?_
      refine r_imul dX6_worthDrawn_24 ?_
      refine r_sipush (v := 12345) dX6_worthDrawn_25 (by decide) ?_
      refine r_iadd dX6_worthDrawn_28 ?_
      refine r_istore_n dX6_worthDrawn_29 (by decide) rfl ?_
      refine r_aload_n dX6_worthDrawn_30 rfl ?_
      refine r_getR (b := 47) dX6_worthDrawn_31 f_X6_19 (hsh.al rfl (by decide)) (Or.inr ⟨_, rfl⟩) (hsh.r 12 2 47 (by decide)) (by decide) ?_
      refine r_iload_n dX6_worthDrawn_34 rfl ?_
      refine r_iconst (v := 0) dX6_worthDrawn_35 (by decide) ?_
      refine r_iload_n dX6_worthDrawn_36 rfl ?_
      refine r_bipush (v := 9) dX6_worthDrawn_37 (by decide) ?_
      refine r_iushr dX6_worthDrawn_39 ?_
      refine r_top (v := nI (drwV ((drwN dl seed i).1 * 1103515245 + 12345))) (drwV_eq _) ?_
      refine r_iload_n dX6_worthDrawn_40 rfl ?_
      refine r_iconst (v := 2) dX6_worthDrawn_41 (by decide) ?_
      refine r_nicmp_gt (b := 2)  (tgt := 50) dX6_worthDrawn_42 (by decide) rfl rfl (by omega) (by omega) (fun h42 => ?_) (fun h42 => ?_)
      · refine r_sipush (v := 200) dX6_worthDrawn_50 (by decide) ?_
        refine r_nirem (b := 200) dX6_worthDrawn_53 rfl rfl (by omega) (by omega) (by omega) ?_
        refine r_callV3I dX6_worthDrawn_54 moX3_change w_446 w_447 w_448 (hsh.al rfl (by decide)) cl3 rfl (Nat.le_of_ble_eq_true rfl) (Nat.le_of_ble_eq_true rfl) (S_changeD hsh h47 k3.1 k3.2.1 (w := i + 1) (by omega) 0 _) ?_
        refine r_pop dX6_worthDrawn_57 rfl ?_
        refine r_iincE (b := (i + 1 + 1)) dX6_worthDrawn_58 rfl rfl (nI_succ _).symm rfl ?_
        refine r_goto (tgt := 15) dX6_worthDrawn_61 (by decide) ?_
        refine ih (i + 1) _ (by omega) ?_ (fun a ha => by rw [chD_in a ha]; exact f2 a ha)
        have hk := k3.upD (w := i + 1) (v := drwV ((drwN dl seed i).1 * 1103515245 + 12345) % (if i + 1 ≤ 2 then 10 else 200)) (by omega) (hdB _ (Nat.mod_lt _ (by split <;> omega)))
        simp only [if_neg (show ¬ i + 1 ≤ 2 by omega)] at hk
        show SkyOK _ 47 (up1 (drwN dl seed i).2 (i + 1) (drwV ((drwN dl seed i).1 * 1103515245 + 12345) % (if i + 1 ≤ 2 then 10 else 200))) tr sz rl
        rw [if_neg (show ¬ i + 1 ≤ 2 by omega)]
        exact hk
      · refine r_bipush (v := 10) dX6_worthDrawn_45 (by decide) ?_
        refine r_goto (tgt := 53) dX6_worthDrawn_47 (by decide) ?_
        refine r_nirem (b := 10) dX6_worthDrawn_53 rfl rfl (by omega) (by omega) (by omega) ?_
        refine r_callV3I dX6_worthDrawn_54 moX3_change w_446 w_447 w_448 (hsh.al rfl (by decide)) cl3 rfl (Nat.le_of_ble_eq_true rfl) (Nat.le_of_ble_eq_true rfl) (S_changeD hsh h47 k3.1 k3.2.1 (w := i + 1) (by omega) 0 _) ?_
        refine r_pop dX6_worthDrawn_57 rfl ?_
        refine r_iincE (b := (i + 1 + 1)) dX6_worthDrawn_58 rfl rfl (nI_succ _).symm rfl ?_
        refine r_goto (tgt := 15) dX6_worthDrawn_61 (by decide) ?_
        refine ih (i + 1) _ (by omega) ?_ (fun a ha => by rw [chD_in a ha]; exact f2 a ha)
        have hk := k3.upD (w := i + 1) (v := drwV ((drwN dl seed i).1 * 1103515245 + 12345) % (if i + 1 ≤ 2 then 10 else 200)) (by omega) (hdB _ (Nat.mod_lt _ (by split <;> omega)))
        simp only [if_pos (show i + 1 ≤ 2 by omega)] at hk
        show SkyOK _ 47 (up1 (drwN dl seed i).2 (i + 1) (drwV ((drwN dl seed i).1 * 1103515245 + 12345) % (if i + 1 ≤ 2 then 10 else 200))) tr sz rl
        rw [if_pos (show i + 1 ≤ 2 by omega)]
        exact hk
  refine r_aload_n dX6_worthDrawn_0 rfl ?_
  refine r_getR (b := 47) dX6_worthDrawn_1 f_X6_19 (hsh.al rfl (by decide)) (Or.inr ⟨_, rfl⟩) (hsh.r 12 2 47 (by decide)) (by decide) ?_
  refine r_aload_n dX6_worthDrawn_4 rfl ?_
  refine r_getR (b := 13) dX6_worthDrawn_5 f_X6_10 (hsh.al rfl (by decide)) (Or.inr ⟨_, rfl⟩) (hsh.r 12 0 13 (by decide)) (by decide) ?_
  refine r_callV1N dX6_worthDrawn_8 moX3_takeAfter w_644 w_645 w_646 (hsh.al rfl (by decide)) cl3 rfl (Nat.le_of_ble_eq_true rfl) (Nat.le_of_ble_eq_true rfl) (S_takeAfter (s := 47) (o := 13) hsh h47 h13 (by decide)) (fun r n I2 J R hq => ?_)
  obtain ⟨rfl, rfl, rfl, rfl, f1⟩ := hq
  refine r_iload_n dX6_worthDrawn_11 rfl ?_
  refine r_istore_n dX6_worthDrawn_12 (by decide) rfl ?_
  refine r_iconst (v := 1) dX6_worthDrawn_13 (by decide) ?_
  refine r_istore_n dX6_worthDrawn_14 (by decide) rfl ?_
  exact loop 4 0 I2 rfl (hK.take f1) f1.1
def lowN (part above below : Nat) : Nat → Nat
  | 0 => part
  | d + 1 => if d = 0 then part else if above % (d + 1) = 0 ∧ below % (d + 1) = 0 then part / (d + 1) else lowN part above below d
set_option maxRecDepth 20000 in
set_option maxHeartbeats 4000000 in
theorem S_inLowestTerms {g : GP} {d n : Nat} {I : TI} {J : TJ} {R : TR} {pa ab be : Nat} (h1 : pa < 1000) (h2 : ab < 1000) (h3 : be < 1000) (h0 : 0 < be) : Wp g d mX6_inLowestTerms 0 [.int (nI pa), .int (nI ab), .int (nI be), .null] [] 0 0 n I J R (RetI (nI (lowN pa ab be be)) n I J R) := by
  have loop : ∀ m, m < 1000 → 0 < m → Wp g d mX6_inLowestTerms 2 [.int (nI pa), .int (nI ab), .int (nI be), .int (nI m)] [] 0 0 n I J R (RetI (nI (lowN pa ab be m)) n I J R) := by
    intro m
    induction m with
    | zero => intro _ h; exact absurd h (by decide)
    | succ m ih =>
      intro hm _
      refine r_iload_n dX6_inLowestTerms_2 rfl ?_
      refine r_iconst (v := 1) dX6_inLowestTerms_3 (by decide) ?_
      refine r_nicmp_le (b := 1)  (tgt := 29) dX6_inLowestTerms_4 (by decide) rfl rfl (by omega) (by omega) (fun h4 => ?_) (fun h4 => ?_)
      · refine r_iload_n dX6_inLowestTerms_29 rfl ?_
        refine r_iret dX6_inLowestTerms_30 rfl ?_
        exact retI (by unfold lowN; rw [if_pos (by omega)])
      · refine r_iload_n dX6_inLowestTerms_7 rfl ?_
        refine r_iload_n dX6_inLowestTerms_8 rfl ?_
        refine r_nirem dX6_inLowestTerms_9 rfl rfl (by omega) (by omega) (by omega) ?_
        refine r_zif_ne (tgt := 23) dX6_inLowestTerms_10 (by decide) (nz _) (by have := Nat.mod_lt ab (show 0 < m + 1 by omega); unfold inZ; omega) (fun h10 => ?_) (fun h10 => ?_)
        · refine r_iinc dX6_inLowestTerms_23 rfl (show nI (m + 1) + Int32.ofInt (-1) = nI m from by rw [nI_dec, nz]; congr 1; omega) rfl ?_
          refine r_goto (tgt := 2) dX6_inLowestTerms_26 (by decide) ?_
          have e : lowN pa ab be (m + 1) = lowN pa ab be m := by
            show (if m = 0 then _ else _) = _
            rw [if_neg (by omega), if_neg (fun h => h10 (by rw [h.1]; rfl))]
          rw [e]
          exact ih (by omega) (by omega)
        · refine r_iload_n dX6_inLowestTerms_13 rfl ?_
          refine r_iload_n dX6_inLowestTerms_14 rfl ?_
          refine r_nirem dX6_inLowestTerms_15 rfl rfl (by omega) (by omega) (by omega) ?_
          refine r_zif_ne (tgt := 23) dX6_inLowestTerms_16 (by decide) (nz _) (by have := Nat.mod_lt be (show 0 < m + 1 by omega); unfold inZ; omega) (fun h16 => ?_) (fun h16 => ?_)
          · refine r_iinc dX6_inLowestTerms_23 rfl (show nI (m + 1) + Int32.ofInt (-1) = nI m from by rw [nI_dec, nz]; congr 1; omega) rfl ?_
            refine r_goto (tgt := 2) dX6_inLowestTerms_26 (by decide) ?_
            have e : lowN pa ab be (m + 1) = lowN pa ab be m := by
              show (if m = 0 then _ else _) = _
              rw [if_neg (by omega), if_neg (fun h => h16 (by rw [h.2]; rfl))]
            rw [e]
            exact ih (by omega) (by omega)
          · refine r_iload_n dX6_inLowestTerms_19 rfl ?_
            refine r_iload_n dX6_inLowestTerms_20 rfl ?_
            refine r_nidiv dX6_inLowestTerms_21 rfl rfl (by omega) (by omega) (by omega) ?_
            refine r_iret dX6_inLowestTerms_22 rfl ?_
            exact retI (by unfold lowN; rw [if_neg (by omega), if_pos ⟨by omega, by omega⟩])
  refine r_iload_n dX6_inLowestTerms_0 rfl ?_
  refine r_istore_n dX6_inLowestTerms_1 (by decide) rfl ?_
  exact loop be h3 h0
