/-! a night from its begin to its end -/
/-- no reference but those to the sky and the rule of the walk has changed -/
def FrR (R R' : TR) : Prop := ∀ a k, (a ≠ 97 ∨ (k ≠ 5 ∧ k ≠ 6)) → R' a k = R a k
theorem FrR.rf {R : TR} : FrR R R := fun _ _ _ => rfl
theorem FrR.t {R R1 R2 : TR} (h : FrR R R1) (h2 : FrR R1 R2) : FrR R R2 := fun a k hk => (h2 a k hk).trans (h a k hk)
theorem FrR.u5 {R R1 : TR} (h : FrR R R1) (v : Nat) : FrR R (up2 R1 97 5 v) := fun a k hk => by
  by_cases e : a = 97
  · subst e; rw [up2_k _ _ (by omega)]; exact h _ k hk
  · rw [up2_a _ _ _ e]; exact h a k hk
theorem FrR.u6 {R R1 : TR} (h : FrR R R1) (v : Nat) : FrR R (up2 R1 97 6 v) := fun a k hk => by
  by_cases e : a = 97
  · subst e; rw [up2_k _ _ (by omega)]; exact h _ k hk
  · rw [up2_a _ _ _ e]; exact h a k hk
theorem Sh.fr {n : Nat} {R R1 : TR} (h : Sh n R) (hF : FrR R R1) : Sh n R1 := ⟨h.1, fun q hq => by
  have hb : ∀ q ∈ shL, q.1 ≠ 97 ∨ (q.2.1 ≠ 5 ∧ q.2.1 ≠ 6) := by decide +kernel
  rw [hF _ _ (hb q hq)]; exact h.2 q hq⟩
/-- a night under sky s: nothing else has changed -/
def FrNt (s : Nat) (I I2 : TI) : Prop := (∀ a, a ≠ s → (∀ j, j < 7 → a ≠ s + 10 + j) → (a < 97 ∨ 101 < a) → I2 a = I a) ∧ ∀ j, j ≠ 9 → I2 s j = I s j
theorem FrNt.rf {s : Nat} {I : TI} : FrNt s I I := ⟨fun _ _ _ _ => rfl, fun _ _ => rfl⟩
theorem FrNt.t {s : Nat} {I I1 I2 : TI} (h : FrNt s I I1) (h2 : FrNt s I1 I2) : FrNt s I I2 := ⟨fun a h3 h4 h5 => (h2.1 a h3 h4 h5).trans (h.1 a h3 h4 h5), fun j hj => (h2.2 j hj).trans (h.2 j hj)⟩
theorem FrNt.ofLA {s : Nat} {dl : Nat → Nat} {tr : Nat → Nat → Nat} {sz : Nat} {I I1 : TI} (h : LAok s dl tr sz I I1) : FrNt s I I1 := ⟨fun a h1 h2 _ => h.1 a h1 h2, h.2.1⟩
theorem FrNt.ofW {s : Nat} (hs : isSky s) {I I1 : TI} (h : FrW I I1) : FrNt s I I1 := ⟨fun a _ _ h3 => h a h3, fun j _ => by have := sky_lt hs; rw [h s (by omega)]⟩
theorem SkyAt.nt {I I2 : TI} {s : Nat} {dl : Nat → Nat} {tr : Nat → Nat → Nat} {sz rl : Nat} (hs : isSky s) (h : SkyAt I s dl tr sz rl) (hF : FrNt s I I2) : SkyAt I2 s dl tr sz rl := by
  have hl := sky_lt hs
  refine ⟨fun j hj => ?_, fun i k hi hk => ?_, ?_, ?_⟩
  · rw [hF.1 _ (by omega) (fun j _ => by omega) (by omega)]; exact h.1 j hj
  · rw [hF.1 _ (by omega) (fun j _ => by omega) (by omega)]; exact h.2.1 i k hi hk
  · rw [hF.2 _ (by decide)]; exact h.2.2.1
  · rw [hF.2 _ (by decide)]; exact h.2.2.2
theorem sky_text {s t : Nat} (hs : isSky s) (ht : isText t) : ∀ p, p < 3 → t + p ≠ s ∧ ∀ j, j < 7 → t + p ≠ s + 10 + j := fun p hp => by
  have : 66 ≤ t := by rcases ht with rfl | rfl | rfl | rfl | rfl | rfl | rfl <;> decide
  have : s ≤ 47 := by rcases hs with rfl | rfl | rfl <;> decide
  exact ⟨by omega, fun j hj => by omega⟩
theorem FrNt.text {s t : Nat} {I I2 : TI} (hF : FrNt s I I2) (hs : isSky s) (ht : isText t) {p : Nat} (hp : p < 3) : I2 (t + p) = I (t + p) := by
  have h := sky_text hs ht p hp
  have := text_lt ht
  exact hF.1 _ h.1 h.2 (by omega)
theorem TextOK.nt {I I2 : TI} {s t : Nat} {en : Nat → Nat} (hs : isSky s) (ht : isText t) (h : TextOK I t en) (hF : FrNt s I I2) : TextOK I2 t en := ⟨fun p hp => by rw [hF.text hs ht (p := 2) (by decide)]; exact h.1 p hp, h.2⟩
theorem mkA_nt {I I2 : TI} {s t : Nat} (hs : isSky s) (ht : isText t) (hF : FrNt s I I2) : mkA I2 t = mkA I t := by
  unfold mkA
  rw [hF.text hs ht (p := 1) (by decide)]
theorem KS.nt {I I2 : TI} {s : Nat} (hs : isSky s) (h : KS I) (hF : FrNt s I I2) : KS I2 := by
  have : 13 ≤ s := by rcases hs with rfl | rfl | rfl <;> decide
  exact ⟨fun p hp => by rw [hF.1 _ (by omega) (fun j _ => by omega) (by omega)]; exact h.1 p hp, fun p hp => by rw [hF.1 _ (by omega) (fun j _ => by omega) (by omega)]; exact h.2 p hp⟩
def PostN (n : Nat) (J : TJ) (R : TR) (r0 : Option Value) (P : TI → TR → Prop) : TQ := fun r n2 I2 J2 R2 => r = r0 ∧ n2 = n ∧ J2 = J ∧ FrR R R2 ∧ P I2 R2
/-- all that a night under sky s wants -/
def NB (n : Nat) (I : TI) (R : TR) (s : Nat) (en dl : Nat → Nat) (tr : Nat → Nat → Nat) (sz rl : Nat) : Prop := Sh n R ∧ isSky s ∧ SkyAt I s dl tr sz rl ∧ WF dl tr sz rl ∧ (∃ sl, ClOK I s dl tr sz sl) ∧ TextOK I (71 + 3 * rl) en ∧ KS I
/-- where one stands as a night begins -/
def startN (dl : Nat → Nat) : NS := (dl 5, dl 6, 0, 0, 0, fun _ => -1, fun _ => -1)
def BegP (I : TI) (s : Nat) (dl : Nat → Nat) (tr : Nat → Nat → Nat) (sz rl : Nat) (x : NS) : TI → TR → Prop := fun I2 R2 => WkAt I2 x ∧ ClOK I2 s dl tr sz 0 ∧ FrNt s I I2 ∧ R2 97 5 = s ∧ R2 97 6 = 71 + 3 * rl
/-- the text that is the rule, as it tells -/
abbrev ruleV (I : TI) (rl : Nat) (en : Nat → Nat) : TV := tvN (mkA I (71 + 3 * rl)) en
theorem NB.nc {n : Nat} {I I2 : TI} {R R2 : TR} {s : Nat} {en dl : Nat → Nat} {tr : Nat → Nat → Nat} {sz rl : Nat} {x : NS} (h : NB n I R s en dl tr sz rl) (hR : FrR R R2) (hB : BegP I s dl tr sz rl x I2 R2) : NC n I2 R2 s (71 + 3 * rl) en dl tr sz rl := by
  obtain ⟨h1, h2, h3, h4, _, h6, h7⟩ := h
  obtain ⟨_, b2, b3, b4, b5⟩ := hB
  have hr := h4.2.2.2
  have ht : isText (71 + 3 * rl) := isText_at (by omega)
  exact ⟨h1.fr hR, h2, ht, h3.nt h2 b3, h4, fun k hk => b2.2.2 k hk (Nat.zero_testBit _), h6.nt h2 ht b3, b4, b5, h7.nt h2 b3⟩
theorem NB.nt {n : Nat} {I I2 : TI} {R R2 : TR} {s : Nat} {en dl : Nat → Nat} {tr : Nat → Nat → Nat} {sz rl : Nat} {x : NS} (h : NB n I R s en dl tr sz rl) (hR : FrR R R2) (hB : BegP I s dl tr sz rl x I2 R2) : NB n I2 R2 s en dl tr sz rl := by
  obtain ⟨h1, h2, h3, h4, _, h6, h7⟩ := h
  obtain ⟨_, b2, b3, b4, b5⟩ := hB
  have hr := h4.2.2.2
  have ht : isText (71 + 3 * rl) := isText_at (by omega)
  exact ⟨h1.fr hR, h2, h3.nt h2 b3, h4, ⟨0, b2⟩, h6.nt h2 ht b3, h7.nt h2 b3⟩
theorem NB.rule {n : Nat} {I I2 : TI} {R : TR} {s : Nat} {en dl : Nat → Nat} {tr : Nat → Nat → Nat} {sz rl : Nat} (h : NB n I R s en dl tr sz rl) (hF : FrNt s I I2) : mkA I2 (71 + 3 * rl) = mkA I (71 + 3 * rl) := by
  have hr := h.2.2.2.1.2.2.2
  exact mkA_nt h.2.1 (isText_at (by omega)) hF
set_option maxRecDepth 20000 in
set_option maxHeartbeats 4000000 in
theorem S_begin {g : GP} {d n : Nat} {I : TI} {J : TJ} {R : TR} {s : Nat} {en dl : Nat → Nat} {tr : Nat → Nat → Nat} {sz rl : Nat} (hN : NB n I R s en dl tr sz rl) : Wp g (d + 3) mX5_begin 0 [.ref 97, .ref s] [] 0 0 n I J R (PostN n J R none (BegP I s dl tr sz rl (startN dl))) := by
  have hN0 := hN
  obtain ⟨hsh, hs, hA, wf, ⟨sl, hC⟩, hT, hKS⟩ := hN
  have hz := wf.2.2.1
  have hr6 : rl < 6 := by have := wf.2.2.2; omega
  have hsl := sky_lt hs
  refine r_aload_n dX5_begin_0 rfl ?_
  refine r_aload_n dX5_begin_1 rfl ?_
  refine r_putR dX5_begin_2 f_X5_46 (hsh.al rfl (by decide)) (Or.inl rfl) (Or.inr ⟨_, rfl⟩) (by rcases hs with rfl | rfl | rfl <;> decide) ?_
  have hsh0 := hsh
  have hsh : Sh n (up2 R 97 5 s) := hsh0.fr (FrR.rf.u5 _)
  refine r_aload_n dX5_begin_5 rfl ?_
  refine r_callV0N dX5_begin_6 moX3_lookAhead w_520 w_521 w_522 (hsh.k0 hs) cl3 rfl (Nat.le_of_ble_eq_true rfl) (Nat.le_of_ble_eq_true rfl) (S_lookAhead hsh hs hA wf hC) (fun r n I2 J R hq => ?_)
  obtain ⟨rfl, rfl, rfl, rfl, f⟩ := hq
  have fN := FrNt.ofLA f
  have hA2 := hA.nt hs fN
  refine r_aload_n dX5_begin_9 rfl ?_
  refine r_getIE dX5_begin_10 f_X5_60 (hsh.k0 hs) (Or.inl rfl) hA2.2.2.2 ?_
  refine r_aload_n dX5_begin_13 rfl ?_
  refine r_getR (b := 69) dX5_begin_14 f_X5_42 (hsh.al rfl (by decide)) (Or.inl ⟨_, rfl⟩) (hsh.r 97 0 69 (by decide)) (by decide) ?_
  refine r_alen dX5_begin_17 (hsh.al rfl (by decide)) (Or.inr (Or.inr (Or.inr (Or.inl rfl)))) ?_
  refine r_callSN2I dX5_begin_18 moX6_isBelow (by decide) w_400 (Nat.le_of_ble_eq_true rfl) (Nat.le_of_ble_eq_true rfl) (S_isBelow _ _) ?_
  refine r_ifb_eq (tgt := 37) dX5_begin_21 (by decide) (fun h21 => by rw [bw_nt (b := nI 6) (N := 6) rfl (by decide) hr6] at h21; cases h21) (fun h21 => ?_)
  refine r_aload_n dX5_begin_24 rfl ?_
  refine r_aload_n dX5_begin_25 rfl ?_
  refine r_getR (b := 69) dX5_begin_26 f_X5_42 (hsh.al rfl (by decide)) (Or.inl ⟨_, rfl⟩) (hsh.r 97 0 69 (by decide)) (by decide) ?_
  refine r_aload_n dX5_begin_29 rfl ?_
  refine r_getIE dX5_begin_30 f_X5_60 (hsh.k0 hs) (Or.inl rfl) hA2.2.2.2 ?_
  refine r_aald (j := rl) (b := (71 + 3 * rl)) dX5_begin_33 (hsh.al rfl (by decide)) (Or.inr (Or.inl rfl)) hr6 rfl (hsh.txA hr6) (by omega) ?_
  refine r_putR dX5_begin_34 f_X5_51 (hsh.al rfl (by decide)) (Or.inl rfl) (Or.inr ⟨_, rfl⟩) (by omega) ?_
  have hsh : Sh n (up2 (up2 R 97 5 s) 97 6 (71 + 3 * rl)) := hsh0.fr ((FrR.rf.u5 _).u6 _)
  refine r_aload_n dX5_begin_37 rfl ?_
  refine r_aload_n dX5_begin_38 rfl ?_
  refine r_iconst (v := 5) dX5_begin_39 (by decide) ?_
  refine r_iconst (v := 0) dX5_begin_40 (by decide) ?_
  refine r_callV2I dX5_begin_41 moX3_get w_527 w_443 w_444 (hsh.k0 hs) cl3 rfl (Nat.le_of_ble_eq_true rfl) (Nat.le_of_ble_eq_true rfl) (S_getD hsh hs (hA2.w hs FrW.rf) wf (w := 5) (by decide) 0) ?_
  refine r_putI dX5_begin_44 f_X5_26 (hsh.al rfl (by decide)) (Or.inl rfl) rfl ?_
  refine r_aload_n dX5_begin_47 rfl ?_
  refine r_aload_n dX5_begin_48 rfl ?_
  refine r_bipush (v := 6) dX5_begin_49 (by decide) ?_
  refine r_iconst (v := 0) dX5_begin_51 (by decide) ?_
  refine r_callV2I dX5_begin_52 moX3_get w_527 w_443 w_444 (hsh.k0 hs) cl3 rfl (Nat.le_of_ble_eq_true rfl) (Nat.le_of_ble_eq_true rfl) (S_getD hsh hs (hA2.w hs (FrW.rf.u (by decide))) wf (w := 6) (by decide) 0) ?_
  refine r_putI dX5_begin_55 f_X5_30 (hsh.al rfl (by decide)) (Or.inl rfl) rfl ?_
  refine r_aload_n dX5_begin_58 rfl ?_
  refine r_iconst (v := 0) dX5_begin_59 (by decide) ?_
  refine r_putI dX5_begin_60 f_X5_33 (hsh.al rfl (by decide)) (Or.inl rfl) rfl ?_
  refine r_aload_n dX5_begin_63 rfl ?_
  refine r_iconst (v := 0) dX5_begin_64 (by decide) ?_
  refine r_putI dX5_begin_65 f_X5_36 (hsh.al rfl (by decide)) (Or.inl rfl) rfl ?_
  refine r_aload_n dX5_begin_68 rfl ?_
  refine r_iconst (v := 0) dX5_begin_69 (by decide) ?_
  refine r_putI dX5_begin_70 f_X5_39 (hsh.al rfl (by decide)) (Or.inl rfl) rfl ?_
  refine r_aload_n dX5_begin_73 rfl ?_
  refine r_getR (b := 100) dX5_begin_74 f_X5_20 (hsh.al rfl (by decide)) (Or.inl ⟨_, rfl⟩) (hsh.r 97 3 100 (by decide)) (by decide) ?_
  refine r_iconst (v := (-1)) dX5_begin_77 (by decide) ?_
  refine r_callS2N dX5_begin_78 moJ7_fill_53178 w_528 w_529 (Nat.le_of_ble_eq_true rfl) (Nat.le_of_ble_eq_true rfl) (S_fill (hsh.al (a := 100) rfl (by decide)) (-1)) (fun r n I3 J R hq => ?_)
  obtain ⟨rfl, rfl, rfl, rfl, f1, f2⟩ := hq
  have g1 : FrW I2 I3 := ((((((FrW.rf.u (by decide)).u (by decide)).u (by decide)).u (by decide)).u (by decide))).t (FrW.ofA f1 (by decide))
  refine r_aload_n dX5_begin_81 rfl ?_
  refine r_getR (b := 101) dX5_begin_82 f_X5_23 (hsh.al rfl (by decide)) (Or.inl ⟨_, rfl⟩) (hsh.r 97 4 101 (by decide)) (by decide) ?_
  refine r_iconst (v := (-1)) dX5_begin_85 (by decide) ?_
  refine r_callS2N dX5_begin_86 moJ7_fill_53178 w_528 w_529 (Nat.le_of_ble_eq_true rfl) (Nat.le_of_ble_eq_true rfl) (S_fill (hsh.al (a := 101) rfl (by decide)) (-1)) (fun r n I4 J R hq => ?_)
  obtain ⟨rfl, rfl, rfl, rfl, f3, f4⟩ := hq
  have g2 : FrW I2 I4 := (g1).t (FrW.ofA f3 (by decide))
  refine r_vret dX5_begin_89 rfl ?_
  have fW := FrNt.ofW hs g2
  refine ⟨rfl, rfl, rfl, (FrR.rf.u5 _).u6 _, ⟨?_, ?_, ?_, ?_, ?_, fun k hk => ?_, fun k hk => ?_⟩, ?_, fN.t fW, ?_, ?_⟩
  · rw [f3 97 (by decide), f1 97 (by decide)]; rfl
  · rw [f3 97 (by decide), f1 97 (by decide)]; rfl
  · rw [f3 97 (by decide), f1 97 (by decide)]; rfl
  · rw [f3 97 (by decide), f1 97 (by decide)]; rfl
  · rw [f3 97 (by decide), f1 97 (by decide)]; rfl
  · rw [f3 100 (by decide)]; exact f2 k hk
  · exact f4 k hk
  · refine ⟨?_, by decide, fun k hk hb => (f.2.2.2.2 k hk hb).w hs (by omega) g2⟩
    rw [g2 s (by omega)]; exact f.2.2.1
  · rw [up2_k _ _ (by decide), up2_at]
  · exact up2_at _ _ _ _
theorem lookN_at {dl : Nat → Nat} {tr : Nat → Nat → Nat} {sz rl : Nat} (wf : WF dl tr sz rl) {V : TV} (hV : ∀ p nm, V p nm ≤ 99) {k place : Nat} {x : NS} (hk : k < 7) (h : nAt x < 100 ∧ nTick x < 10000) : nAt (lookN dl tr V k place x) < 100 ∧ nTick (lookN dl tr V k place x) < 10000 := by
  have b1 := wf.t1 hk
  unfold lookN
  simp only
  split
  · exact h
  · rename_i w hw
    have hb := fstN_ge hw
    have hn := needN_le wf hk (hV 1 (nmN (nTick x + V 0 (nmN (nTick x) (farN (nAt x) (tr 1 k)) (dl 0) (tr 0 k) (tr 1 k / 10) place)) (farN (nAt x) (tr 1 k)) (dl 0) (tr 0 k) (tr 1 k / 10) place))
    refine ⟨by show tr 1 k < 100; omega, ?_⟩
    have hl : w ≤ 199 := by have := hb.2.1; split at this <;> omega
    show w + _ < 10000
    omega
/-- one after the other, of some -/
def goN (dl : Nat → Nat) (tr : Nat → Nat → Nat) (V : TV) (some : Nat) : Nat → Nat → Nat → NS → NS
  | 0, _, _, x => x
  | m + 1, i, place, x => if some.testBit i then goN dl tr V some m (i + 1) (place + 1) (lookN dl tr V i place x) else goN dl tr V some m (i + 1) place x
def plainN (dl : Nat → Nat) (tr : Nat → Nat → Nat) (V : TV) (sz some : Nat) : NS := goN dl tr V some sz 0 0 (startN dl)
theorem BegP.look {I I1 I2 : TI} {R : TR} {s : Nat} {dl : Nat → Nat} {tr : Nat → Nat → Nat} {sz rl : Nat} {x y : NS} (hs : isSky s) (hz : sz ≤ 7) (h : BegP I s dl tr sz rl x I1 R) (hW : WkAt I2 y) (hF : FrW I1 I2) : BegP I s dl tr sz rl y I2 R := by
  obtain ⟨_, b2, b3, b4, b5⟩ := h
  have hsl := sky_lt hs
  refine ⟨hW, ⟨?_, by decide, fun k hk hb => (b2.2.2 k hk hb).w hs (by omega) hF⟩, b3.t (FrNt.ofW hs hF), b4, b5⟩
  rw [hF s (by omega)]; exact b2.1
theorem ruleV_le (I : TI) (rl : Nat) (en : Nat → Nat) (p : Nat) (nm : Nat → Int32) : ruleV I rl en p nm ≤ 99 := tvN_le _ _ _ _
set_option maxRecDepth 20000 in
set_option maxHeartbeats 4000000 in
theorem S_goPlain {g : GP} {d n : Nat} {I : TI} {J : TJ} {R : TR} {s : Nat} {en dl : Nat → Nat} {tr : Nat → Nat → Nat} {sz rl : Nat} (hN : NB n I R s en dl tr sz rl) {some : Nat} (hb : some < 128) : Wp g (d + 4) mX5_goPlain 0 [.ref 97, .ref s, .int (nI some), .null, .null] [] 0 0 n I J R (PostN n J R (Option.some (.int (zI (nWorth (plainN dl tr (ruleV I rl en) sz some))))) (BegP I s dl tr sz rl (plainN dl tr (ruleV I rl en) sz some))) := by
  have hN0 := hN
  obtain ⟨hsh, hs, hA, wf, ⟨sl, hC⟩, hT, hKS⟩ := hN
  have hz := wf.2.2.1
  have hr6 : rl < 6 := by have := wf.2.2.2; omega
  have hsl := sky_lt hs
  have loop : ∀ m i pl x I2 R2, i + m = sz → pl ≤ i → FrR R R2 → BegP I s dl tr sz rl x I2 R2 → nAt x < 100 → nTick x < 10000 → goN dl tr (ruleV I rl en) some m i pl x = plainN dl tr (ruleV I rl en) sz some → Wp g (d + 4) mX5_goPlain 10 [.ref 97, .ref s, .int (nI some), .int (nI pl), .int (nI i)] [] 0 0 n I2 J R2 (PostN n J R (Option.some (.int (zI (nWorth (plainN dl tr (ruleV I rl en) sz some))))) (BegP I s dl tr sz rl (plainN dl tr (ruleV I rl en) sz some))) := by
    intro m
    induction m with
    | zero =>
      intro i pl x I2 R2 hi hp hR hB hx1 hx2 he
      have hA2 := hA.nt hs hB.2.2.1
      have e : x = plainN dl tr (ruleV I rl en) sz some := he
      subst e
      refine r_iload dX5_goPlain_10 rfl ?_
      refine r_aload_n dX5_goPlain_12 rfl ?_
      refine r_getIE dX5_goPlain_13 f_X5_80 (hsh.k0 hs) (Or.inl rfl) hA2.2.2.1 ?_
      refine r_nicmp_ge  (tgt := 44) dX5_goPlain_16 (by decide) rfl rfl (by omega) (by omega) (fun h16 => ?_) (fun h16 => absurd h16 (by omega))
      refine r_aload_n dX5_goPlain_44 rfl ?_
      refine r_getIE dX5_goPlain_45 f_X5_33 (hsh.al rfl (by decide)) (Or.inl rfl) hB.1.2.2.1 ?_
      refine r_iret dX5_goPlain_48 rfl ?_
      exact ⟨rfl, rfl, rfl, hR, hB⟩
    | succ m ih =>
      intro i pl x I2 R2 hi hp hR hB hx1 hx2 he
      have hA2 := hA.nt hs hB.2.2.1
      have hlk := lookN_at wf (ruleV_le I rl en) (k := i) (place := pl) (by omega) ⟨hx1, hx2⟩
      have hru := hN0.rule hB.2.2.1
      refine r_iload dX5_goPlain_10 rfl ?_
      refine r_aload_n dX5_goPlain_12 rfl ?_
      refine r_getIE dX5_goPlain_13 f_X5_80 (hsh.k0 hs) (Or.inl rfl) hA2.2.2.1 ?_
      refine r_nicmp_ge  (tgt := 44) dX5_goPlain_16 (by decide) rfl rfl (by omega) (by omega) (fun h16 => absurd h16 (by omega)) (fun h16 => ?_)
      refine r_iload_n dX5_goPlain_19 rfl ?_
      refine r_iload dX5_goPlain_20 rfl ?_
      refine r_ishr dX5_goPlain_22 ?_
      refine r_iconst (v := 1) dX5_goPlain_23 (by decide) ?_
      refine r_iand dX5_goPlain_24 ?_
      refine r_top (v := b2i (some.testBit i)) (bit_ts _ hb _ (by omega)) ?_
      refine r_ifb_eq (tgt := 38) dX5_goPlain_25 (by decide) (fun h25 => ?_) (fun h25 => ?_)
      · refine r_iincE (b := (i + 1)) dX5_goPlain_38 rfl rfl (nI_succ _).symm rfl ?_
        refine r_goto (tgt := 10) dX5_goPlain_41 (by decide) ?_
        refine ih (i + 1) pl _ _ _ (by omega) (by omega) hR hB hx1 hx2 (by rw [← he]; show _ = (if some.testBit i then _ else _); rw [h25]; rfl)
      · refine r_aload_n dX5_goPlain_28 rfl ?_
        refine r_iload dX5_goPlain_29 rfl ?_
        refine r_iload_n dX5_goPlain_31 rfl ?_
        refine r_callV2N dX5_goPlain_32 moX5_lookFor w_531 w_532 w_533 (hsh.al rfl (by decide)) cl5 rfl (Nat.le_of_ble_eq_true rfl) (Nat.le_of_ble_eq_true rfl) (S_lookFor (hN0.nc hR hB) (k := i) (place := pl) (x := x) (by omega) (by omega) hB.1 hx1 hx2) (fun r n I3 J R hq => ?_)
        obtain ⟨rfl, rfl, rfl, rfl, f, g⟩ := hq
        rw [hru] at f
        have hB := hB.look hs hz f g
        refine r_iincE (b := (pl + 1)) dX5_goPlain_35 rfl rfl (nI_succ _).symm rfl ?_
        refine r_iincE (b := (i + 1)) dX5_goPlain_38 rfl rfl (nI_succ _).symm rfl ?_
        refine r_goto (tgt := 10) dX5_goPlain_41 (by decide) ?_
        refine ih (i + 1) (pl + 1) _ _ _ (by omega) (by omega) hR hB hlk.1 hlk.2 (by rw [← he]; show _ = (if some.testBit i then _ else _); rw [h25]; rfl)
  refine r_aload_n dX5_goPlain_0 rfl ?_
  refine r_aload_n dX5_goPlain_1 rfl ?_
  refine r_callV1N dX5_goPlain_2 moX5_begin w_516 w_517 w_518 (hsh.al rfl (by decide)) cl5 rfl (Nat.le_of_ble_eq_true rfl) (Nat.le_of_ble_eq_true rfl) (S_begin hN0) (fun r n I2 J R hq => ?_)
  obtain ⟨rfl, rfl, rfl, fR, hB⟩ := hq
  refine r_iconst (v := 0) dX5_goPlain_5 (by decide) ?_
  refine r_istore_n dX5_goPlain_6 (by decide) rfl ?_
  refine r_iconst (v := 0) dX5_goPlain_7 (by decide) ?_
  refine r_istore dX5_goPlain_8 (by decide) rfl ?_
  have q5 := wf.d5
  have q6 := wf.d6
  exact loop sz 0 0 _ _ _ (by omega) (by omega) fR hB (by show dl 5 < 100; omega) (by show dl 6 < 10000; omega) rfl
set_option maxRecDepth 20000 in
set_option maxHeartbeats 4000000 in
theorem S_tickFound {g : GP} {d n : Nat} {I : TI} {J : TJ} {R : TR} (hsh : Sh n R) {x : NS} (hW : WkAt I x) {k : Nat} (hk : k < 7) : Wp g (d + 1) mX5_tickFound 0 [.ref 97, .int (nI k)] [] 0 0 n I J R (RetI (zI (nFi x k)) n I J R) := by
  refine r_iload_n dX5_tickFound_0 rfl ?_
  refine r_bipush (v := 7) dX5_tickFound_1 (by decide) ?_
  refine r_callSN2I dX5_tickFound_3 moX6_isBelow (by decide) w_400 (Nat.le_of_ble_eq_true rfl) (Nat.le_of_ble_eq_true rfl) (S_isBelow _ _) ?_
  refine r_ifb_eq (tgt := 18) dX5_tickFound_6 (by decide) (fun h6 => by rw [bw_nt (b := 7) (N := 7) rfl (by decide) hk] at h6; cases h6) (fun h6 => ?_)
  refine r_aload_n dX5_tickFound_9 rfl ?_
  refine r_getR (b := 100) dX5_tickFound_10 f_X5_20 (hsh.al rfl (by decide)) (Or.inl ⟨_, rfl⟩) (hsh.r 97 3 100 (by decide)) (by decide) ?_
  refine r_iload_n dX5_tickFound_13 rfl ?_
  refine r_ialdE (j := k) dX5_tickFound_14 (hsh.al rfl (by decide)) hk rfl (hW.2.2.2.2.2.1 k hk) ?_
  refine r_goto (tgt := 19) dX5_tickFound_15 (by decide) ?_
  refine r_iret dX5_tickFound_19 rfl ?_
  exact retI rfl
/-- what asking answers -/
def ansN (x : NS) (w : Nat) : Int := if w = 0 then nWorth x else if w = 1 then (bcN (nFound x) : Nat) else if w = 2 then (nFound x : Nat) else if w = 3 then (nTick x : Nat) else if w = 4 then (nWait x : Nat) else if w < 20 then nFi x (w % 10) else nWf x (w % 10)
set_option maxRecDepth 20000 in
set_option maxHeartbeats 4000000 in
theorem S_answer {g : GP} {d n : Nat} {I : TI} {J : TJ} {R : TR} (hsh : Sh n R) {x : NS} (hW : WkAt I x) {w : Nat} (hw : w < 5 ∨ (10 ≤ w ∧ w < 30 ∧ w % 10 < 7)) (hfo : nFound x < 128) : Wp g (d + 1) mX5_answer 0 [.ref 97, .int (nI w), .null] [] 0 0 n I J R (RetI (zI (ansN x w)) n I J R) := by
  obtain ⟨w7, w8, w9, w10, w11, w100, w101⟩ := hW
  refine r_iload_n dX5_answer_0 rfl ?_
  rcases hw with hw | ⟨hw1, hw2, hw3⟩
  · have e : w = 0 ∨ w = 1 ∨ w = 2 ∨ w = 3 ∨ w = 4 := by omega
    rcases e with rfl | rfl | rfl | rfl | rfl
    · refine r_top (v := nI 0) rfl ?_
      refine r_tabIn (tgt := 36) (off := 35) dX5_answer_1 (by decide) (by decide) (by decide) (by decide) ?_
      refine r_aload_n dX5_answer_36 rfl ?_
      refine r_getIE dX5_answer_37 f_X5_33 (hsh.al rfl (by decide)) (Or.inl rfl) w9 ?_
      refine r_iret dX5_answer_40 rfl ?_
      exact retI rfl
    · refine r_top (v := nI 1) rfl ?_
      refine r_tabIn (tgt := 41) (off := 40) dX5_answer_1 (by decide) (by decide) (by decide) (by decide) ?_
      refine r_aload_n dX5_answer_41 rfl ?_
      refine r_getIE dX5_answer_42 f_X5_36 (hsh.al rfl (by decide)) (Or.inl rfl) w10 ?_
      refine r_callS1I dX5_answer_45 moJ6_bitCount_0f7a4 w_566 w_567 (Nat.le_of_ble_eq_true rfl) (Nat.le_of_ble_eq_true rfl) (S_bitCount hfo) ?_
      refine r_iret dX5_answer_48 rfl ?_
      exact retI rfl
    · refine r_top (v := nI 2) rfl ?_
      refine r_tabIn (tgt := 49) (off := 48) dX5_answer_1 (by decide) (by decide) (by decide) (by decide) ?_
      refine r_aload_n dX5_answer_49 rfl ?_
      refine r_getIE dX5_answer_50 f_X5_36 (hsh.al rfl (by decide)) (Or.inl rfl) w10 ?_
      refine r_iret dX5_answer_53 rfl ?_
      exact retI rfl
    · refine r_top (v := nI 3) rfl ?_
      refine r_tabIn (tgt := 54) (off := 53) dX5_answer_1 (by decide) (by decide) (by decide) (by decide) ?_
      refine r_aload_n dX5_answer_54 rfl ?_
      refine r_getIE dX5_answer_55 f_X5_30 (hsh.al rfl (by decide)) (Or.inl rfl) w8 ?_
      refine r_iret dX5_answer_58 rfl ?_
      exact retI rfl
    · refine r_top (v := nI 4) rfl ?_
      refine r_tabIn (tgt := 59) (off := 58) dX5_answer_1 (by decide) (by decide) (by decide) (by decide) ?_
      refine r_aload_n dX5_answer_59 rfl ?_
      refine r_getIE dX5_answer_60 f_X5_39 (hsh.al rfl (by decide)) (Or.inl rfl) w11 ?_
      refine r_iret dX5_answer_63 rfl ?_
      exact retI rfl
  · refine r_tabOut (tgt := 64) dX5_answer_1 (Or.inr (by rw [nI_tI (by omega)]; omega)) (by decide) ?_
    refine r_iload_n dX5_answer_64 rfl ?_
    refine r_bipush (v := 10) dX5_answer_65 (by decide) ?_
    refine r_nirem (b := 10) dX5_answer_67 rfl rfl (by omega) (by omega) (by omega) ?_
    refine r_istore_n dX5_answer_68 (by decide) rfl ?_
    refine r_iload_n dX5_answer_69 rfl ?_
    refine r_bipush dX5_answer_70 (show (Int8.ofInt 7).toInt32 = (7 : Int32) by decide) ?_
    refine r_callSN2I dX5_answer_72 moX6_isBelow (by decide) w_400 (Nat.le_of_ble_eq_true rfl) (Nat.le_of_ble_eq_true rfl) (S_isBelow _ _) ?_
    refine r_ifb_ne (tgt := 81) dX5_answer_75 (by decide) (fun h75 => ?_) (fun h75 => by rw [bw_nt (b := 7) (N := 7) rfl (by decide) hw3] at h75; cases h75)
    refine r_iload_n dX5_answer_81 rfl ?_
    refine r_bipush (v := 20) dX5_answer_82 (by decide) ?_
    refine r_nicmp_ge (b := 20)  (tgt := 96) dX5_answer_84 (by decide) rfl rfl (by omega) (by omega) (fun h84 => ?_) (fun h84 => ?_)
    · refine r_aload_n dX5_answer_96 rfl ?_
      refine r_getR (b := 101) dX5_answer_97 f_X5_23 (hsh.al rfl (by decide)) (Or.inl ⟨_, rfl⟩) (hsh.r 97 4 101 (by decide)) (by decide) ?_
      refine r_iload_n dX5_answer_100 rfl ?_
      refine r_ialdE (j := (w % 10)) dX5_answer_101 (hsh.al rfl (by decide)) hw3 rfl (w101 _ hw3) ?_
      refine r_iret dX5_answer_102 rfl ?_
      refine retI ?_
      unfold ansN
      rw [if_neg (by omega), if_neg (by omega), if_neg (by omega), if_neg (by omega), if_neg (by omega), if_neg (by omega)]
    · refine r_aload_n dX5_answer_87 rfl ?_
      refine r_getR (b := 100) dX5_answer_88 f_X5_20 (hsh.al rfl (by decide)) (Or.inl ⟨_, rfl⟩) (hsh.r 97 3 100 (by decide)) (by decide) ?_
      refine r_iload_n dX5_answer_91 rfl ?_
      refine r_ialdE (j := (w % 10)) dX5_answer_92 (hsh.al rfl (by decide)) hw3 rfl (w100 _ hw3) ?_
      refine r_goto (tgt := 102) dX5_answer_93 (by decide) ?_
      refine r_iret dX5_answer_102 rfl ?_
      refine retI ?_
      unfold ansN
      rw [if_neg (by omega), if_neg (by omega), if_neg (by omega), if_neg (by omega), if_neg (by omega), if_pos (by omega)]
