/-! the model: whole nights; all that it keeps -/
def gosN (dl : Nat → Nat) (tr : Nat → Nat → Nat) (V : TV) (set : Nat) (pl : Int) (m : Nat) : Nat → Nat → Nat → NS → NS
  | 0, _, _, x => x
  | f + 1, i, place, x => if set.testBit i then gosN dl tr V set pl m f (i + 1) (place + 1) (lookN dl tr V i place (if (place : Int) = pl then bumpN m x else x)) else gosN dl tr V set pl m f (i + 1) place x
theorem gos_plain {dl : Nat → Nat} {tr : Nat → Nat → Nat} {V : TV} {set m : Nat} : ∀ f i place x, gosN dl tr V set (-1) m f i place x = goN dl tr V set f i place x
  | 0, _, _, _ => rfl
  | f + 1, i, place, x => by
    show (if set.testBit i then gosN dl tr V set (-1) m f (i + 1) (place + 1) (lookN dl tr V i place (if (place : Int) = -1 then bumpN m x else x)) else gosN dl tr V set (-1) m f (i + 1) place x) = (if set.testBit i then goN dl tr V set f (i + 1) (place + 1) (lookN dl tr V i place x) else goN dl tr V set f (i + 1) place x)
    rw [if_neg (show ¬ (place : Int) = -1 by omega), gos_plain f, gos_plain f]
theorem gos_sleep {dl : Nat → Nat} {tr : Nat → Nat → Nat} {V : TV} {set pl m : Nat} : ∀ f i x, (∀ j, i ≤ j → j < i + f → set.testBit j = true) → gosN dl tr V set (pl : Int) m f i i x = slpN dl tr V pl m f i x
  | 0, _, _, _ => rfl
  | f + 1, i, x, h => by
    show (if set.testBit i then gosN dl tr V set (pl : Int) m f (i + 1) (i + 1) (lookN dl tr V i i (if (i : Int) = (pl : Int) then bumpN m x else x)) else gosN dl tr V set (pl : Int) m f (i + 1) i x) = slpN dl tr V pl m f (i + 1) (lookN dl tr V i i (if i = pl then bumpN m x else x))
    rw [if_pos (h i (Nat.le_refl _) (by omega)), gos_sleep f (i + 1) _ fun j h1 h2 => h j (by omega) (by omega)]
    by_cases e : i = pl
    · rw [if_pos e, if_pos (by omega)]
    · rw [if_neg e, if_neg (by omega)]
theorem b2i_is1 {b : Bool} : b2i b = 1 ↔ b = true := by cases b <;> decide
theorem MWk.bump {I : TI} {x : NS} (h : MWk I x) (m : Nat) : MWk (up2 I 102 28 (nI (nTick x + m))) (bumpN m x) := by
  unfold MWk at *
  rw [up2_k _ _ (show 27 ≠ 28 by decide), up2_k _ _ (show 29 ≠ 28 by decide), up2_k _ _ (show 30 ≠ 28 by decide), up2_k _ _ (show 31 ≠ 28 by decide), up2_at, up2_a _ _ _ (show 109 ≠ 102 by decide), up2_a _ _ _ (show 110 ≠ 102 by decide)]
  exact ⟨h.1, rfl, h.2.2⟩
theorem MWk.same {I : TI} {x : NS} (h : MWk I x) : MWk (up2 I 102 28 (nI (nTick x + 0))) x := by
  unfold MWk at *
  rw [up2_k _ _ (show 27 ≠ 28 by decide), up2_k _ _ (show 29 ≠ 28 by decide), up2_k _ _ (show 30 ≠ 28 by decide), up2_k _ _ (show 31 ≠ 28 by decide), up2_at, up2_a _ _ _ (show 109 ≠ 102 by decide), up2_a _ _ _ (show 110 ≠ 102 by decide)]
  exact ⟨h.1, rfl, h.2.2⟩
theorem lookN_200 {dl : Nat → Nat} {tr : Nat → Nat → Nat} {V : TV} {k place : Nat} {x : NS} (h : nTick x ≤ 200) : nTick (lookN dl tr V k place x) ≤ 200 := by
  unfold lookN
  simp only
  split
  · exact h
  · rename_i w hw
    have h3 := (fstN_ge hw).2.2
    have h4 := (fstN_ge hw).2.1
    have h5 := rlF_le (visN dl tr k) (200 - w)
    show w + _ ≤ 200
    have h6 : w ≤ 199 := by
      refine Nat.le_trans h4 ?_
      split <;> omega
    omega
theorem goN_200 {dl : Nat → Nat} {tr : Nat → Nat → Nat} {V : TV} {some : Nat} : ∀ m i place x, nTick x ≤ 200 → nTick (goN dl tr V some m i place x) ≤ 200
  | 0, _, _, _, h => h
  | m + 1, i, place, x, h => by
    unfold goN
    split
    · exact goN_200 m _ _ _ (lookN_200 h)
    · exact goN_200 m _ _ _ h
set_option maxRecDepth 20000 in
set_option maxHeartbeats 4000000 in
theorem S_mGoes {g : GP} {d n : Nat} {I : TI} {J : TJ} {R : TR} {dl : Nat → Nat} {tr : Nat → Nat → Nat} {sz rl : Nat} (hN : MdN n I R dl tr sz rl) {V : TV} (hV : TxV I rl V) {set m : Nat} {pl : Int} (hset : set < 128) (hpl : inZ pl) (hm : m ≤ 1000) : Wp g (d + 48) mX7_goes 0 [.ref 102, .int (nI set), .int (zI pl), .int (nI m), .null, .null] [] 0 0 n I J R (PostM n R none (fun I2 _ => FrMo I I2 ∧ MWk I2 (gosN dl tr V set pl m sz 0 0 (startN dl)))) := by
  have hsh := hN.sh
  have wf := hN.wf
  have hz := wf.2.2.1
  have hVl := hV.le
  have loop : ∀ f i place q I2 J2 y, i + f = sz → place ≤ i → NOK q y → nTick y < 1000 + 1000 * i → FrMo I I2 → MWk I2 y → gosN dl tr V set pl m f i place y = gosN dl tr V set pl m sz 0 0 (startN dl) → Wp g (d + 48) mX7_goes 10 [.ref 102, .int (nI set), .int (zI pl), .int (nI m), .int (nI place), .int (nI i)] [] 0 0 n I2 J2 R (PostM n R none (fun I2 _ => FrMo I I2 ∧ MWk I2 (gosN dl tr V set pl m sz 0 0 (startN dl)))) := by
    intro f
    induction f with
    | zero =>
      intro i place q I2 J2 y hi hpi hy hty hF hW he
      have hN2 := hN.m hF
      refine r_iload dX7_goes_10 rfl ?_
      refine r_aload_n dX7_goes_12 rfl ?_
      refine r_getIE dX7_goes_13 f_X7_70 (hsh.al rfl (by decide)) (Or.inl rfl) hN2.many ?_
      refine r_nicmp_ge  (tgt := 66) dX7_goes_16 (by decide) rfl rfl (by omega) (by omega) (fun h16 => ?_) (fun h16 => absurd h16 (by omega))
      refine r_vret dX7_goes_66 rfl ?_
      rw [← he]
      exact ⟨rfl, rfl, rfl, hF, hW⟩
    | succ f ih =>
      intro i place q I2 J2 y hi hpi hy hty hF hW he
      have hN2 := hN.m hF
      refine r_iload dX7_goes_10 rfl ?_
      refine r_aload_n dX7_goes_12 rfl ?_
      refine r_getIE dX7_goes_13 f_X7_70 (hsh.al rfl (by decide)) (Or.inl rfl) hN2.many ?_
      refine r_nicmp_ge  (tgt := 66) dX7_goes_16 (by decide) rfl rfl (by omega) (by omega) (fun h16 => absurd h16 (by omega)) (fun h16 => ?_)
      refine r_iload_n dX7_goes_19 rfl ?_
      refine r_iload dX7_goes_20 rfl ?_
      refine r_ishr dX7_goes_22 ?_
      refine r_iconst (v := 1) dX7_goes_23 (by decide) ?_
      refine r_iand dX7_goes_24 ?_
      refine r_top (v := b2i (set.testBit i)) (bit_ts _ hset _ (by omega)) ?_
      refine r_iconst (v := 1) dX7_goes_25 (by decide) ?_
      refine r_icmp_ne (tgt := 60) dX7_goes_26 (by decide) (fun h26 => ?_) (fun h26 => ?_)
      · have hbt : set.testBit i = false := by rw [← Bool.not_eq_true]; exact fun e => h26 (b2i_is1.mpr e)
        refine r_iincE (b := (i + 1)) dX7_goes_60 rfl rfl (nI_succ _).symm rfl ?_
        refine r_goto (tgt := 10) dX7_goes_63 (by decide) ?_
        have e9 : gosN dl tr V set pl m (f + 1) i place y = gosN dl tr V set pl m f (i + 1) place y := by
          show (if set.testBit i then _ else _) = _
          rw [if_neg (by rw [hbt]; decide)]
        exact ih (i + 1) place q _ _ _ (by omega) (by omega) hy (by omega) hF hW (by rw [← e9]; exact he)
      · have hbt := b2i_is1.mp h26
        refine r_aload_n dX7_goes_29 rfl ?_
        refine r_dup dX7_goes_30 rfl ?_
        refine r_getIE dX7_goes_31 f_X7_245 (hsh.al rfl (by decide)) (Or.inl rfl) hW.2.1 ?_
        refine r_iload dX7_goes_34 rfl ?_
        refine r_iload_n dX7_goes_36 rfl ?_
        refine r_zicmp_ne  (tgt := 44) dX7_goes_37 (by decide) (nz _) rfl (by unfold inZ; omega) hpl (fun h37 => ?_) (fun h37 => ?_)
        · refine r_iconst (v := 0) dX7_goes_44 (by decide) ?_
          refine r_niadd (b := 0) dX7_goes_45 rfl rfl ?_
          refine r_putI dX7_goes_46 f_X7_245 (hsh.al rfl (by decide)) (Or.inl rfl) rfl ?_
          have hW3 := hW.same
          have hk3 := hy
          have ht3 : nTick y < 1000 + 1000 * (i + 1) := by omega
          have e9 : gosN dl tr V set pl m (f + 1) i place y = gosN dl tr V set pl m f (i + 1) (place + 1) (lookN dl tr V i place y) := by
            show (if set.testBit i then gosN dl tr V set pl m f (i + 1) (place + 1) (lookN dl tr V i place (if (place : Int) = pl then bumpN m y else y)) else _) = _
            rw [if_pos hbt, if_neg h37]
          rw [e9] at he
          have hF3 := hF.u (k := 28) (v := nI (nTick y + 0)) (by decide)
          refine r_aload_n dX7_goes_49 rfl ?_
          refine r_iload dX7_goes_50 rfl ?_
          refine r_iload dX7_goes_52 rfl ?_
          refine r_callV2N dX7_goes_54 moX7_looksFor w_1085 w_1087 s_55 (hsh.al rfl (by decide)) cl7 rfl (Nat.le_of_ble_eq_true rfl) (Nat.le_of_ble_eq_true rfl) (S_mLooks (hN.m hF3) (hV.m hF3) hW3 (k := i) (place := place) (by omega) hk3.1 hk3.2.1) (fun r n I4 J R hq => ?_)
          obtain ⟨rfl, rfl, rfl, hF4, hW4⟩ := hq
          refine r_iincE (b := (place + 1)) dX7_goes_57 rfl rfl (nI_succ _).symm rfl ?_
          refine r_iincE (b := (i + 1)) dX7_goes_60 rfl rfl (nI_succ _).symm rfl ?_
          refine r_goto (tgt := 10) dX7_goes_63 (by decide) ?_
          exact ih (i + 1) (place + 1) (q + 1) _ _ _ (by omega) (by omega) (lookN_ok wf hVl (by omega) hk3) (lookN_tk wf hVl (by omega) ht3 (by omega)) (hF3.t hF4) hW4 he
        · refine r_iload_n dX7_goes_40 rfl ?_
          refine r_goto (tgt := 45) dX7_goes_41 (by decide) ?_
          refine r_niadd dX7_goes_45 rfl rfl ?_
          refine r_putI dX7_goes_46 f_X7_245 (hsh.al rfl (by decide)) (Or.inl rfl) rfl ?_
          have hW3 := hW.bump m
          have hk3 := bumpN_ok (m := m) hy (by omega)
          have ht3 : nTick (bumpN m y) < 1000 + 1000 * (i + 1) := by show nTick y + m < _; omega
          have e9 : gosN dl tr V set pl m (f + 1) i place y = gosN dl tr V set pl m f (i + 1) (place + 1) (lookN dl tr V i place (bumpN m y)) := by
            show (if set.testBit i then gosN dl tr V set pl m f (i + 1) (place + 1) (lookN dl tr V i place (if (place : Int) = pl then bumpN m y else y)) else _) = _
            rw [if_pos hbt, if_pos h37]
          rw [e9] at he
          have hF3 := hF.u (k := 28) (v := nI (nTick y + m)) (by decide)
          refine r_aload_n dX7_goes_49 rfl ?_
          refine r_iload dX7_goes_50 rfl ?_
          refine r_iload dX7_goes_52 rfl ?_
          refine r_callV2N dX7_goes_54 moX7_looksFor w_1085 w_1087 s_55 (hsh.al rfl (by decide)) cl7 rfl (Nat.le_of_ble_eq_true rfl) (Nat.le_of_ble_eq_true rfl) (S_mLooks (hN.m hF3) (hV.m hF3) hW3 (k := i) (place := place) (by omega) hk3.1 hk3.2.1) (fun r n I4 J R hq => ?_)
          obtain ⟨rfl, rfl, rfl, hF4, hW4⟩ := hq
          refine r_iincE (b := (place + 1)) dX7_goes_57 rfl rfl (nI_succ _).symm rfl ?_
          refine r_iincE (b := (i + 1)) dX7_goes_60 rfl rfl (nI_succ _).symm rfl ?_
          refine r_goto (tgt := 10) dX7_goes_63 (by decide) ?_
          exact ih (i + 1) (place + 1) (q + 1) _ _ _ (by omega) (by omega) (lookN_ok wf hVl (by omega) hk3) (lookN_tk wf hVl (by omega) ht3 (by omega)) (hF3.t hF4) hW4 he
  refine r_aload_n dX7_goes_0 rfl ?_
  refine r_callV0N dX7_goes_1 moX7_beginsNight w_1081 w_1083 s_54 (hsh.al rfl (by decide)) cl7 rfl (Nat.le_of_ble_eq_true rfl) (Nat.le_of_ble_eq_true rfl) (S_mBegins hN) (fun r n I2 J R hq => ?_)
  obtain ⟨rfl, rfl, rfl, rfl, hF, hW⟩ := hq
  refine r_iconst (v := 0) dX7_goes_4 (by decide) ?_
  refine r_istore dX7_goes_5 (by decide) rfl ?_
  refine r_iconst (v := 0) dX7_goes_7 (by decide) ?_
  refine r_istore dX7_goes_8 (by decide) rfl ?_
  exact loop sz 0 0 0 _ _ _ (Nat.zero_add _) (Nat.le_refl _) (startN_ok wf) (by have := wf.d6; show dl 6 < _; omega) hF hW rfl
set_option maxRecDepth 20000 in
set_option maxHeartbeats 4000000 in
theorem S_mGo {g : GP} {d n : Nat} {I : TI} {J : TJ} {R : TR} {dl : Nat → Nat} {tr : Nat → Nat → Nat} {sz rl : Nat} (hN : MdN n I R dl tr sz rl) {V : TV} (hV : TxV I rl V) {set : Nat} (hset : set < 128) : Wp g (d + 48) mX7_goes 0 [.ref 102, .int (nI set), .int (-1), .int 0, .null, .null] [] 0 0 n I J R (PostM n R none (fun I2 _ => FrMo I I2 ∧ MWk I2 (plainN dl tr V sz set))) := by
  have h := S_mGoes (g := g) (d := d) (J := J) hN hV (set := set) (m := 0) (pl := -1) hset (by unfold inZ; omega) (by decide)
  rw [gos_plain] at h
  exact h
set_option maxRecDepth 20000 in
set_option maxHeartbeats 4000000 in
theorem S_mPlain {g : GP} {d n : Nat} {I : TI} {J : TJ} {R : TR} {dl : Nat → Nat} {tr : Nat → Nat → Nat} {sz rl : Nat} (hN : MdN n I R dl tr sz rl) {V : TV} (hV : TxV I rl V) : Wp g (d + 49) mX7_goesPlain 0 [.ref 102] [] 0 0 n I J R (PostM n R none (fun I2 _ => FrMo I I2 ∧ MWk I2 (plainN dl tr V sz (2 ^ sz - 1)))) := by
  have hsh := hN.sh
  have wf := hN.wf
  have hz := wf.2.2.1
  refine r_aload_n dX7_goesPlain_0 rfl ?_
  refine r_aload_n dX7_goesPlain_1 rfl ?_
  refine r_callV0I dX7_goesPlain_2 moX7_all w_1073 w_1075 s_52 (hsh.al rfl (by decide)) cl7 rfl (Nat.le_of_ble_eq_true rfl) (Nat.le_of_ble_eq_true rfl) (S_mAll hsh hN.many hz) ?_
  refine r_iconst (v := (-1)) dX7_goesPlain_5 (by decide) ?_
  refine r_iconst (v := 0) dX7_goesPlain_6 (by decide) ?_
  refine r_callV3N dX7_goesPlain_7 moX7_goes w_1077 w_1079 s_53 (hsh.al rfl (by decide)) cl7 rfl (Nat.le_of_ble_eq_true rfl) (Nat.le_of_ble_eq_true rfl) (S_mGo hN hV (p2_lt hz)) (fun r n I2 J R hq => ?_)
  obtain ⟨rfl, rfl, rfl, hF, hW⟩ := hq
  refine r_vret dX7_goesPlain_10 rfl ?_
  exact ⟨rfl, rfl, rfl, hF, hW⟩
set_option maxRecDepth 20000 in
set_option maxHeartbeats 4000000 in
theorem S_mIsTells {g : GP} {d n : Nat} {I : TI} {J : TJ} {R : TR} {dl : Nat → Nat} {tr : Nat → Nat → Nat} {sz rl : Nat} (hN : MdN n I R dl tr sz rl) {w : Int} (hw : inZ w) : Wp g (d + 2) mX7_isTells 0 [.ref 102, .int (zI w)] [] 0 0 n I J R (RetI (b2i (asksN sz w)) n I J R) := by
  have hsh := hN.sh
  have wf := hN.wf
  have hz := wf.2.2.1
  refine r_iload_n dX7_isTells_0 rfl ?_
  refine r_zi2l dX7_isTells_1 rfl hw ?_
  refine r_lconst (v := 0) dX7_isTells_2 (by decide) ?_
  refine r_ldc2 dX7_isTells_3 w_1066 ?_
  refine r_callS3I dX7_isTells_6 moX7_in w_930 w_931 (Nat.le_of_ble_eq_true rfl) (Nat.le_of_ble_eq_true rfl) (S_in3 (z := w) (lo := 0) (hi := 4) hw (by decide) (by decide) (by unfold inZ; omega) (by unfold inZ; omega)) ?_
  refine r_ifb_ne (tgt := 37) dX7_isTells_9 (by decide) (fun h9 => ?_) (fun h9 => ?_)
  · rw [decide_eq_true_eq] at h9
    refine r_iconst (v := 1) dX7_isTells_37 (by decide) ?_
    refine r_goto (tgt := 42) dX7_isTells_38 (by decide) ?_
    refine r_bret (b := asksN sz w) dX7_isTells_42 rfl ?_ ?_
    · refine b2i_1 ?_
      unfold asksN
      exact decide_eq_true (by omega)
    · exact ⟨rfl, rfl, rfl, rfl, rfl⟩
  · rw [decide_eq_false_iff_not] at h9
    refine r_iload_n dX7_isTells_12 rfl ?_
    refine r_zi2l dX7_isTells_13 rfl hw ?_
    refine r_ldc2 dX7_isTells_14 w_999 ?_
    refine r_ldc2 dX7_isTells_17 w_1067 ?_
    refine r_callS3I dX7_isTells_20 moX7_in w_930 w_931 (Nat.le_of_ble_eq_true rfl) (Nat.le_of_ble_eq_true rfl) (S_in3 (z := w) (lo := 10) (hi := 29) hw (by decide) (by decide) (by unfold inZ; omega) (by unfold inZ; omega)) ?_
    refine r_ifb_eq (tgt := 41) dX7_isTells_23 (by decide) (fun h23 => ?_) (fun h23 => ?_)
    · rw [decide_eq_false_iff_not] at h23
      refine r_iconst (v := 0) dX7_isTells_41 (by decide) ?_
      refine r_bret (b := asksN sz w) dX7_isTells_42 rfl ?_ ?_
      · refine b2i_0 ?_
        unfold asksN
        exact decide_eq_false (by omega)
      · exact ⟨rfl, rfl, rfl, rfl, rfl⟩
    · rw [decide_eq_true_eq] at h23
      obtain ⟨w0, ew0⟩ := Int.eq_ofNat_of_zero_le (show 0 ≤ w by omega)
      subst ew0
      rw [← nz w0]
      refine r_aload_n dX7_isTells_26 rfl ?_
      refine r_iload_n dX7_isTells_27 rfl ?_
      refine r_bipush (v := 10) dX7_isTells_28 (by decide) ?_
      refine r_nirem (b := 10) dX7_isTells_30 rfl rfl (by omega) (by omega) (by omega) ?_
      refine r_callV1I dX7_isTells_31 moX7_isSight w_933 w_935 s_29 (hsh.al rfl (by decide)) cl7 rfl (Nat.le_of_ble_eq_true rfl) (Nat.le_of_ble_eq_true rfl) (S_mIsSight hsh hN.many hz (a := ((w0 % 10 : Nat) : Int)) (by unfold inZ; omega)) ?_
      refine r_ifb_eq (tgt := 41) dX7_isTells_34 (by decide) (fun h34 => ?_) (fun h34 => ?_)
      · rw [decide_eq_false_iff_not] at h34
        refine r_iconst (v := 0) dX7_isTells_41 (by decide) ?_
        refine r_bret (b := asksN sz (w0 : Nat)) dX7_isTells_42 rfl ?_ ?_
        · refine b2i_0 ?_
          unfold asksN
          exact decide_eq_false (by omega)
        · exact ⟨rfl, rfl, rfl, rfl, rfl⟩
      · rw [decide_eq_true_eq] at h34
        refine r_iconst (v := 1) dX7_isTells_37 (by decide) ?_
        refine r_goto (tgt := 42) dX7_isTells_38 (by decide) ?_
        refine r_bret (b := asksN sz (w0 : Nat)) dX7_isTells_42 rfl ?_ ?_
        · refine b2i_1 ?_
          unfold asksN
          exact decide_eq_true (by omega)
        · exact ⟨rfl, rfl, rfl, rfl, rfl⟩
theorem kc_dec : ∀ v, v < 128 → v ≠ 0 → nI v &&& (nI v - 1) = nI (v &&& (v - 1)) ∧ v &&& (v - 1) < 128 ∧ bcN (v &&& (v - 1)) + 1 = bcN v := by decide +kernel
theorem kc_0 : ∀ v, v < 128 → bcN v = 0 → v = 0 := by decide +kernel
set_option maxRecDepth 20000 in
set_option maxHeartbeats 4000000 in
theorem S_mBits {g : GP} {d n : Nat} {I : TI} {J : TJ} {R : TR} {v : Nat} (hv : v < 128) : Wp g d mX7_bitsOf 0 [.int (nI v), .null, .null] [] 0 0 n I J R (RetI (nI (bcN v)) n I J R) := by
  have hb := bcN_le v
  have loop : ∀ q c left, left < 128 → bcN left = q → c + q = bcN v → Wp g d mX7_bitsOf 4 [.int (nI v), .int (nI c), .int (nI left)] [] 0 0 n I J R (RetI (nI (bcN v)) n I J R) := by
    intro q
    induction q with
    | zero =>
      intro c left hl hq hc
      have e := kc_0 left hl hq
      subst e
      refine r_iload_n dX7_bitsOf_4 rfl ?_
      refine r_zif_eq (tgt := 20) dX7_bitsOf_5 (by decide) (nz _) (by unfold inZ; omega) (fun h5 => ?_) (fun h5 => absurd h5 (by omega))
      refine r_iload_n dX7_bitsOf_20 rfl ?_
      refine r_iret dX7_bitsOf_21 rfl ?_
      exact retI (by rw [← hc]; rfl)
    | succ q ih =>
      intro c left hl hq hc
      have hne : left ≠ 0 := fun e => by subst e; exact absurd hq (by show ¬ (0 = q + 1); omega)
      obtain ⟨k1, k2, k3⟩ := kc_dec left hl hne
      refine r_iload_n dX7_bitsOf_4 rfl ?_
      refine r_zif_eq (tgt := 20) dX7_bitsOf_5 (by decide) (nz _) (by unfold inZ; omega) (fun h5 => absurd h5 (by omega)) (fun h5 => ?_)
      refine r_iincE (b := (c + 1)) dX7_bitsOf_8 rfl rfl (nI_succ _).symm rfl ?_
      refine r_iload_n dX7_bitsOf_11 rfl ?_
      refine r_iload_n dX7_bitsOf_12 rfl ?_
      refine r_iconst (v := 1) dX7_bitsOf_13 (by decide) ?_
      refine r_isub dX7_bitsOf_14 ?_
      refine r_iand dX7_bitsOf_15 ?_
      refine r_top (v := nI (left &&& (left - 1))) k1 ?_
      refine r_istore_n dX7_bitsOf_16 (by decide) rfl ?_
      refine r_goto (tgt := 4) dX7_bitsOf_17 (by decide) ?_
      exact ih (c + 1) _ k2 (by omega) (by omega)
  refine r_iconst (v := 0) dX7_bitsOf_0 (by decide) ?_
  refine r_istore_n dX7_bitsOf_1 (by decide) rfl ?_
  refine r_iload_n dX7_bitsOf_2 rfl ?_
  refine r_istore_n dX7_bitsOf_3 (by decide) rfl ?_
  exact loop (bcN v) 0 v hv rfl (Nat.zero_add _)
set_option maxRecDepth 20000 in
set_option maxHeartbeats 4000000 in
theorem S_mTells {g : GP} {d n : Nat} {I : TI} {J : TJ} {R : TR} {dl : Nat → Nat} {tr : Nat → Nat → Nat} {sz rl : Nat} (hN : MdN n I R dl tr sz rl) {x : NS} (hW : MWk I x) {w : Nat} (hw : w < 5 ∨ (10 ≤ w ∧ w < 30 ∧ w % 10 < 7)) (hfo : nFound x < 128) (ht : nTick x ≤ 200) : Wp g (d + 1) mX7_tells 0 [.ref 102, .int (nI w)] [] 0 0 n I J R (RetI (zI (ansN x w)) n I J R) := by
  have hsh := hN.sh
  have wf := hN.wf
  have hz := wf.2.2.1
  refine r_iload_n dX7_tells_0 rfl ?_
  refine r_iconst (v := 3) dX7_tells_1 (by decide) ?_
  refine r_nicmp_ge (b := 3)  (tgt := 36) dX7_tells_2 (by decide) rfl rfl (by omega) (by omega) (fun h2 => ?_) (fun h2 => ?_)
  · refine r_iload_n dX7_tells_36 rfl ?_
    refine r_iconst (v := 5) dX7_tells_37 (by decide) ?_
    refine r_nicmp_ge (b := 5)  (tgt := 74) dX7_tells_38 (by decide) rfl rfl (by omega) (by omega) (fun h38 => ?_) (fun h38 => ?_)
    · refine r_iload_n dX7_tells_74 rfl ?_
      refine r_bipush (v := 20) dX7_tells_75 (by decide) ?_
      refine r_nicmp_ge (b := 20)  (tgt := 92) dX7_tells_77 (by decide) rfl rfl (by omega) (by omega) (fun h77 => ?_) (fun h77 => ?_)
      · refine r_aload_n dX7_tells_92 rfl ?_
        refine r_getR (b := 110) dX7_tells_93 f_X7_35 (hsh.al rfl (by decide)) (Or.inl ⟨_, rfl⟩) (hsh.r 102 33 110 (by decide)) (by decide) ?_
        refine r_iload_n dX7_tells_96 rfl ?_
        refine r_bipush (v := 20) dX7_tells_97 (by decide) ?_
        refine r_nisub (b := 20) dX7_tells_99 rfl rfl (by omega) ?_
        refine r_ialdE (j := (w % 10)) dX7_tells_100 (hsh.al rfl (by decide)) (by omega) (by congr 1; omega) (hW.2.2.2.2.2.2 (w % 10) (by omega)) ?_
        refine r_iret dX7_tells_101 rfl ?_
        refine retI ?_
        have e9 : ansN x w = (if w < 20 then nFi x (w % 10) else nWf x (w % 10)) := by
          unfold ansN
          rw [if_neg (by omega), if_neg (by omega), if_neg (by omega), if_neg (by omega), if_neg (by omega)]
        rw [e9, if_neg (by omega)]
      · refine r_aload_n dX7_tells_80 rfl ?_
        refine r_getR (b := 109) dX7_tells_81 f_X7_32 (hsh.al rfl (by decide)) (Or.inl ⟨_, rfl⟩) (hsh.r 102 32 109 (by decide)) (by decide) ?_
        refine r_iload_n dX7_tells_84 rfl ?_
        refine r_bipush (v := 10) dX7_tells_85 (by decide) ?_
        refine r_nisub (b := 10) dX7_tells_87 rfl rfl (by omega) ?_
        refine r_ialdE (j := (w % 10)) dX7_tells_88 (hsh.al rfl (by decide)) (by omega) (by congr 1; omega) (hW.2.2.2.2.2.1 (w % 10) (by omega)) ?_
        refine r_goto (tgt := 101) dX7_tells_89 (by decide) ?_
        refine r_iret dX7_tells_101 rfl ?_
        refine retI ?_
        have e9 : ansN x w = (if w < 20 then nFi x (w % 10) else nWf x (w % 10)) := by
          unfold ansN
          rw [if_neg (by omega), if_neg (by omega), if_neg (by omega), if_neg (by omega), if_neg (by omega)]
        rw [e9, if_pos (by omega)]
    · refine r_iload_n dX7_tells_41 rfl ?_
      refine r_iconst (v := 4) dX7_tells_42 (by decide) ?_
      refine r_nicmp_ne (b := 4)  (tgt := 53) dX7_tells_43 (by decide) rfl rfl (by omega) (by omega) (fun h43 => ?_) (fun h43 => ?_)
      · refine r_aload_n dX7_tells_53 rfl ?_
        refine r_getIE dX7_tells_54 f_X7_245 (hsh.al rfl (by decide)) (Or.inl rfl) hW.2.1 ?_
        refine r_sipush (v := 200) dX7_tells_57 (by decide) ?_
        refine r_nicmp_le (b := 200)  (tgt := 69) dX7_tells_60 (by decide) rfl rfl (by omega) (by omega) (fun h60 => ?_) (fun h60 => absurd h60 (by omega))
        refine r_aload_n dX7_tells_69 rfl ?_
        refine r_getIE dX7_tells_70 f_X7_245 (hsh.al rfl (by decide)) (Or.inl rfl) hW.2.1 ?_
        refine r_iret dX7_tells_73 rfl ?_
        have e : w = 3 := by omega
        subst e
        exact retI rfl
      · refine r_aload_n dX7_tells_46 rfl ?_
        refine r_getIE dX7_tells_47 f_X7_254 (hsh.al rfl (by decide)) (Or.inl rfl) hW.2.2.2.2.1 ?_
        refine r_goto (tgt := 73) dX7_tells_50 (by decide) ?_
        refine r_iret dX7_tells_73 rfl ?_
        subst h43
        exact retI rfl
  · refine r_iload_n dX7_tells_5 rfl ?_
    refine r_zif_ne (tgt := 16) dX7_tells_6 (by decide) (nz _) (by unfold inZ; omega) (fun h6 => ?_) (fun h6 => ?_)
    · refine r_iload_n dX7_tells_16 rfl ?_
      refine r_iconst (v := 1) dX7_tells_17 (by decide) ?_
      refine r_nicmp_ne (b := 1)  (tgt := 31) dX7_tells_18 (by decide) rfl rfl (by omega) (by omega) (fun h18 => ?_) (fun h18 => ?_)
      · refine r_aload_n dX7_tells_31 rfl ?_
        refine r_getIE dX7_tells_32 f_X7_251 (hsh.al rfl (by decide)) (Or.inl rfl) hW.2.2.2.1 ?_
        refine r_iret dX7_tells_35 rfl ?_
        have e : w = 2 := by omega
        subst e
        exact retI rfl
      · refine r_aload_n dX7_tells_21 rfl ?_
        refine r_getIE dX7_tells_22 f_X7_251 (hsh.al rfl (by decide)) (Or.inl rfl) hW.2.2.2.1 ?_
        refine r_callS1I dX7_tells_25 moX7_bitsOf w_1111 w_1112 (Nat.le_of_ble_eq_true rfl) (Nat.le_of_ble_eq_true rfl) (S_mBits hfo) ?_
        refine r_goto (tgt := 35) dX7_tells_28 (by decide) ?_
        refine r_iret dX7_tells_35 rfl ?_
        have e : w = 1 := by omega
        subst e
        exact retI rfl
    · refine r_aload_n dX7_tells_9 rfl ?_
      refine r_getIE dX7_tells_10 f_X7_248 (hsh.al rfl (by decide)) (Or.inl rfl) hW.2.2.1 ?_
      refine r_goto (tgt := 35) dX7_tells_13 (by decide) ?_
      refine r_iret dX7_tells_35 rfl ?_
      have e : w = 0 := by omega
      subst e
      exact retI rfl
def MdP (n : Nat) (I : TI) (R : TR) (dl : Nat → Nat) (tr : Nat → Nat → Nat) (sz rl : Nat) : Prop := Sh n R ∧ WF dl tr sz rl ∧ I 102 11 = b2i false ∧ (∀ j, j < 8 → I 106 j = nI (dl j)) ∧ (∀ k, k < sz → I 107 k = nI (tr 5 k)) ∧ (∀ i k, i < 5 → k < sz → I 108 (5 * k + i) = nI (tr i k)) ∧ I 102 10 = nI sz ∧ I 102 4 = nI rl
theorem MdP.mn {n : Nat} {I : TI} {R : TR} {dl : Nat → Nat} {tr : Nat → Nat → Nat} {sz rl : Nat} (h : MdP n I R dl tr sz rl) : MdN n I R dl tr sz rl := ⟨h.1, h.2.1, ⟨false, dl, h.2.2.1, h.2.2.2.1, h.2.1.1, rfl, rfl, rfl, rfl, fun k t => rfl⟩, h.2.2.2.2.1, h.2.2.2.2.2.1, h.2.2.2.2.2.2.1, h.2.2.2.2.2.2.2⟩
def TxM (I : TI) (tc : Nat) (tv : Nat → TV) : Prop := ∀ i, i < tc → ∃ (b : Nat → Nat) (z : Nat), z ≤ 160 ∧ I 104 i = nI z ∧ (∀ j, j < z → I 103 (160 * i + j) = nI (b j) ∧ b j < 256) ∧ rdOk b z = true ∧ rdTV b z = tv i
def ShM (I : TI) (σ : CSt) : Prop := ∀ s, s < 4 → I 114 s = b2i (decide (qso σ s ≠ -1)) ∧ (-1 ≤ qso σ s ∧ qso σ s ≤ 2 ∧ qzs σ s ≤ 40) ∧ (qso σ s ≠ -1 → I 115 s = zI (qso σ s) ∧ I 116 s = nI (qzs σ s) ∧ ∀ j, j < qzs σ s → I 117 (40 * s + j) = qit σ s j)
def KpM (I : TI) (σ : CSt) : Prop := I 102 39 = zI (if qhas σ then (qkz σ : Int) else -1) ∧ (qhas σ = true → (∀ j, j < 8 → I 112 j = nI (qkd σ j)) ∧ (∀ i k, i < 5 → k < qkz σ → I 113 (5 * k + i) = nI (qkt σ i k)) ∧ I 102 40 = nI (qkr σ) ∧ qkz σ ≤ qsz σ ∧ (∀ k, k < qkz σ → qkt σ 5 k = qtr σ 5 k) ∧ WF (qkd σ) (qkt σ) (qkz σ) (qkr σ) ∧ qkr σ < qtc σ)
def TpM (I : TI) (σ : CSt) : Prop := I 102 6 = nI (qtn σ) ∧ qtn σ ≤ 160 ∧ ∀ j, j < qtn σ → I 105 j = nI (qtb σ j) ∧ qtb σ j < 256
def MdS (n : Nat) (I : TI) (R : TR) (σ : CSt) : Prop := MdP n I R (qdl σ) (qtr σ) (qsz σ) (qrl σ) ∧ qrl σ < qtc σ ∧ qtc σ ≤ 6 ∧ I 102 3 = nI (qtc σ) ∧ TxM I (qtc σ) (qtv σ) ∧ TpM I σ ∧ KpM I σ ∧ ShM I σ
section XMS
variable {n : Nat} {I I2 : TI} {R R2 : TR} {σ : CSt}
theorem MdS.p (h : MdS n I R σ) : MdP n I R (qdl σ) (qtr σ) (qsz σ) (qrl σ) := h.1
theorem MdS.sh (h : MdS n I R σ) : Sh n R := h.1.1
theorem MdS.wf (h : MdS n I R σ) : WF (qdl σ) (qtr σ) (qsz σ) (qrl σ) := h.1.2.1
theorem MdS.rlt (h : MdS n I R σ) : qrl σ < qtc σ := h.2.1
theorem MdS.tc6 (h : MdS n I R σ) : qtc σ ≤ 6 := h.2.2.1
theorem MdS.tcI (h : MdS n I R σ) : I 102 3 = nI (qtc σ) := h.2.2.2.1
theorem MdS.tx (h : MdS n I R σ) : TxM I (qtc σ) (qtv σ) := h.2.2.2.2.1
theorem MdS.tp (h : MdS n I R σ) : TpM I σ := h.2.2.2.2.2.1
theorem MdS.kp (h : MdS n I R σ) : KpM I σ := h.2.2.2.2.2.2.1
theorem MdS.sht (h : MdS n I R σ) : ShM I σ := h.2.2.2.2.2.2.2
theorem TxM.v {tc : Nat} {tv : Nat → TV} (h : TxM I tc tv) {i : Nat} (hi : i < tc) (h6 : tc ≤ 6) : TxV I i (tv i) := ⟨by omega, h i hi⟩
theorem MdS.v (h : MdS n I R σ) : TxV I (qrl σ) (qtv σ (qrl σ)) := h.tx.v h.rlt h.tc6
theorem MdS.fr2 (h : MdS n I R σ) (hs : Sh n R2) {n2 : Nat} (hs2 : Sh n2 R2) (hF : ∀ a, 103 ≤ a → a < 118 → a ≠ 109 → a ≠ 110 → I2 a = I a) (h102 : ∀ k, (k < 12 ∨ k = 39 ∨ k = 40) → I2 102 k = I 102 k) : MdS n2 I2 R2 σ := by
  obtain ⟨⟨p1, p2, p3, p4, p5, p6, p7, p8⟩, h2, h3, h4, h5, ⟨t1, t2, t3⟩, ⟨k1, k2⟩, h8⟩ := h
  have e (a : Nat) (a1 : 103 ≤ a) (a2 : a < 118) (a3 : a ≠ 109) (a4 : a ≠ 110) := hF a a1 a2 a3 a4
  refine ⟨⟨hs2, p2, ?_, ?_, ?_, ?_, ?_, ?_⟩, h2, h3, ?_, ?_, ⟨?_, t2, ?_⟩, ⟨?_, ?_⟩, ?_⟩
  · rw [h102 11 (by decide)]; exact p3
  · rw [e 106 (by decide) (by decide) (by decide) (by decide)]; exact p4
  · rw [e 107 (by decide) (by decide) (by decide) (by decide)]; exact p5
  · rw [e 108 (by decide) (by decide) (by decide) (by decide)]; exact p6
  · rw [h102 10 (by decide)]; exact p7
  · rw [h102 4 (by decide)]; exact p8
  · rw [h102 3 (by decide)]; exact h4
  · intro i hi
    rw [e 104 (by decide) (by decide) (by decide) (by decide), e 103 (by decide) (by decide) (by decide) (by decide)]
    exact h5 i hi
  · rw [h102 6 (by decide)]; exact t1
  · rw [e 105 (by decide) (by decide) (by decide) (by decide)]; exact t3
  · rw [h102 39 (by decide)]; exact k1
  · rw [e 112 (by decide) (by decide) (by decide) (by decide), e 113 (by decide) (by decide) (by decide) (by decide), h102 40 (by decide)]; exact k2
  · intro s hs4
    rw [e 114 (by decide) (by decide) (by decide) (by decide), e 115 (by decide) (by decide) (by decide) (by decide), e 116 (by decide) (by decide) (by decide) (by decide), e 117 (by decide) (by decide) (by decide) (by decide)]
    exact h8 s hs4
theorem MdS.fr (h : MdS n I R σ) (hF : FrMo I I2) : MdS n I2 R σ := h.fr2 h.sh h.sh (fun a a1 _ a3 a4 => hF.1 a (by omega) a3 a4) fun k hk => hF.2 k (by omega)
end XMS
/-- what a call of the model leaves -/
def PdM (n : Nat) (I : TI) (R : TR) (v : Value) (σ : CSt) : TQ := fun r n2 I2 J2 R2 => r = some v ∧ n2 = n ∧ R2 = R ∧ MdS n I2 R σ ∧ ∀ a, a < 102 → I2 a = I a
theorem PdM.of {n : Nat} {I I2 : TI} {J2 : TJ} {R : TR} {v : Value} {σ : CSt} (h : MdS n I R σ) (hF : FrMo I I2) : PdM n I R v σ (some v) n I2 J2 R := ⟨rfl, rfl, rfl, h.fr hF, fun a ha => hF.1 a (by omega) (by omega) (by omega)⟩
theorem PdM.rf {n : Nat} {I : TI} {J2 : TJ} {R : TR} {v : Value} {σ : CSt} (h : MdS n I R σ) : PdM n I R v σ (some v) n I J2 R := PdM.of h FrMo.rf
set_option maxRecDepth 20000 in
set_option maxHeartbeats 4000000 in
theorem S_mNight {g : GP} {d n : Nat} {I : TI} {J : TJ} {R : TR} {σ : CSt} (hM : MdS n I R σ) {w : Int} (hw : inZ w) : Wp g (d + 50) mX7_night 0 [.ref 102, .int (zI w)] [] 0 0 n I J R (PdM n I R (.int (zI (nightN σ w))) σ) := by
  have hsh := hM.sh
  have hN := hM.p.mn
  have wf := hM.wf
  have hz := wf.2.2.1
  have hok := plainN_ok wf hM.v.le (some := 2 ^ qsz σ - 1)
  have ht : nTick (plC σ) ≤ 200 := goN_200 _ _ _ _ (by have := wf.d6; show qdl σ 6 ≤ 200; omega)
  refine r_aload_n dX7_night_0 rfl ?_
  refine r_iload_n dX7_night_1 rfl ?_
  refine r_callV1I dX7_night_2 moX7_isTells w_1062 w_1064 s_50 (hsh.al rfl (by decide)) cl7 rfl (Nat.le_of_ble_eq_true rfl) (Nat.le_of_ble_eq_true rfl) (S_mIsTells hN hw) ?_
  refine r_ifb_ne (tgt := 12) dX7_night_5 (by decide) (fun h5 => ?_) (fun h5 => ?_)
  · have e0 : nightN σ w = ansN (plC σ) w.toNat := if_pos h5
    rw [e0]
    have hk := of_decide_eq_true h5
    obtain ⟨w0, ew0⟩ := Int.eq_ofNat_of_zero_le (show 0 ≤ w by omega)
    subst ew0
    rw [← nz w0]
    rw [show (((w0 : Nat) : Int)).toNat = w0 from rfl]
    refine r_aload_n dX7_night_12 rfl ?_
    refine r_callV0N dX7_night_13 moX7_goesPlain w_1069 w_1071 s_51 (hsh.al rfl (by decide)) cl7 rfl (Nat.le_of_ble_eq_true rfl) (Nat.le_of_ble_eq_true rfl) (S_mPlain hN hM.v) (fun r n I2 J R hq => ?_)
    obtain ⟨rfl, rfl, rfl, hF, hW⟩ := hq
    refine r_aload_n dX7_night_16 rfl ?_
    refine r_iload_n dX7_night_17 rfl ?_
    refine r_callV1I dX7_night_18 moX7_tells w_1107 w_1109 s_59 (hsh.al rfl (by decide)) cl7 rfl (Nat.le_of_ble_eq_true rfl) (Nat.le_of_ble_eq_true rfl) (S_mTells (hN.m hF) hW (w := w0) (by omega) hok.2.2.1 ht) ?_
    refine r_iret dX7_night_21 rfl ?_
    exact PdM.of hM hF
  · have e0 : nightN σ w = -100000 := if_neg (by rw [h5]; decide)
    rw [e0]
    refine r_ldcwI dX7_night_8 w_1068 ?_
    refine r_iret dX7_night_11 rfl ?_
    exact PdM.rf hM
