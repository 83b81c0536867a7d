/-! the class's own nights -/
/-- one who goes through a night stands within these -/
def NOK (m : Nat) (x : NS) : Prop := nAt x < 100 ∧ nTick x < 10000 ∧ nFound x < 128 ∧ nWait x ≤ 200 * m ∧ -(20000 * (m : Int)) ≤ nWorth x ∧ nWorth x ≤ 300 * (m : Int) ∧ (∀ k, -1 ≤ nFi x k ∧ nFi x k < 10000) ∧ ∀ k, -1 ≤ nWf x k ∧ nWf x k < 10000
theorem startN_ok {dl : Nat → Nat} {tr : Nat → Nat → Nat} {sz rl : Nat} (wf : WF dl tr sz rl) : NOK 0 (startN dl) := by
  have q5 := wf.d5
  have q6 := wf.d6
  refine ⟨?_, ?_, ?_, ?_, ?_, ?_, fun k => ?_, fun k => ?_⟩
  · show dl 5 < 100; omega
  · show dl 6 < 10000; omega
  · exact (by decide : (0 : Nat) < 128)
  · exact Nat.le_refl 0
  · exact (by decide : -(20000 * ((0 : Nat) : Int)) ≤ 0)
  · exact (by decide : (0 : Int) ≤ 300 * ((0 : Nat) : Int))
  · exact (by decide : (-1 : Int) ≤ -1 ∧ (-1 : Int) < 10000)
  · exact (by decide : (-1 : Int) ≤ -1 ∧ (-1 : Int) < 10000)
theorem NOK.mono {m m2 : Nat} {x : NS} (h : NOK m x) (hm : m ≤ m2) : NOK m2 x := by
  obtain ⟨h1, h2, h3, h4, h5, h6, h7, h8⟩ := h
  exact ⟨h1, h2, h3, by omega, by omega, by omega, h7, h8⟩
theorem upZ_in {f : Nat → Int} {k : Nat} {v : Int} (h : ∀ j, -1 ≤ f j ∧ f j < 10000) (hv : -1 ≤ v ∧ v < 10000) : ∀ j, -1 ≤ upZ f k v j ∧ upZ f k v j < 10000 := fun j => by
  unfold upZ
  split
  · exact hv
  · exact h j
theorem lookN_ok {dl : Nat → Nat} {tr : Nat → Nat → Nat} {sz rl : Nat} (wf : WF dl tr sz rl) {V : TV} (hV : ∀ p nm, V p nm ≤ 99) {k place m : Nat} {x : NS} (hk : k < 7) (h : NOK m x) : NOK (m + 1) (lookN dl tr V k place x) := by
  have b1 := wf.t1 hk
  have h0 := h.mono (Nat.le_succ m)
  obtain ⟨h1, h2, h3, h4, h5, h6, h7, h8⟩ := h
  unfold lookN
  simp only
  split
  · exact h0
  · rename_i w hw
    have hb := fstN_ge hw
    have hn := needN_le wf hk (hV 1 (nmN (nTick x + V 0 (nmN (nTick x) (farN (nAt x) (tr 1 k)) (dl 0) (tr 0 k) (tr 1 k / 10) place)) (farN (nAt x) (tr 1 k)) (dl 0) (tr 0 k) (tr 1 k / 10) place))
    have hv2 := hV 2 (nmN (nTick x + V 0 (nmN (nTick x) (farN (nAt x) (tr 1 k)) (dl 0) (tr 0 k) (tr 1 k / 10) place)) (farN (nAt x) (tr 1 k)) (dl 0) (tr 0 k) (tr 1 k / 10) place)
    have hl : w ≤ 199 := by have := hb.2.1; split at this <;> omega
    have hp := payN_le wf hk
    generalize needN dl tr k _ = nd at hn ⊢
    generalize V 2 _ = v2 at hv2 ⊢
    generalize V 0 _ = v0
    have hm : (w - (nTick x + v0)) * v2 ≤ 199 * 99 := Nat.mul_le_mul (by omega) hv2
    have hm2 : (((w - (nTick x + v0) : Nat) : Int)) * (v2 : Nat) ≤ 199 * 99 := by omega
    have hm3 : 0 ≤ (((w - (nTick x + v0) : Nat) : Int)) * (v2 : Nat) := Int.mul_nonneg (by omega) (by omega)
    refine ⟨?_, ?_, ?_, ?_, ?_, ?_, upZ_in h7 (by omega), upZ_in h8 (by omega)⟩
    · show tr 1 k < 100; omega
    · show w + nd < 10000; omega
    · exact or_lt h3 hk
    · show nWait x + (w - (nTick x + v0)) ≤ 200 * (m + 1); omega
    · show -(20000 * ((m + 1 : Nat) : Int)) ≤ nWorth x - _ + (payN tr k : Nat); omega
    · show nWorth x - _ + (payN tr k : Nat) ≤ 300 * ((m + 1 : Nat) : Int); omega
theorem goN_ok {dl : Nat → Nat} {tr : Nat → Nat → Nat} {sz rl : Nat} (wf : WF dl tr sz rl) {V : TV} (hV : ∀ p nm, V p nm ≤ 99) {some : Nat} : ∀ {m i place m0 : Nat} {x : NS}, i + m ≤ 7 → NOK m0 x → NOK (m0 + m) (goN dl tr V some m i place x)
  | 0, _, _, _, _, _, h => h
  | m + 1, i, place, m0, x, hi, h => by
    unfold goN
    split
    · have := goN_ok wf hV (some := some) (m := m) (i := i + 1) (place := place + 1) (by omega) (lookN_ok wf hV (k := i) (place := place) (by omega) h)
      exact this.mono (by omega)
    · have := goN_ok wf hV (some := some) (m := m) (i := i + 1) (place := place) (by omega) h
      exact this.mono (by omega)
theorem plainN_ok {dl : Nat → Nat} {tr : Nat → Nat → Nat} {sz rl : Nat} (wf : WF dl tr sz rl) {V : TV} (hV : ∀ p nm, V p nm ≤ 99) {some : Nat} : NOK 7 (plainN dl tr V sz some) := by
  have h := goN_ok wf hV (some := some) (m := sz) (i := 0) (place := 0) (by have := wf.2.2.1; omega) (startN_ok wf)
  exact h.mono (by have := wf.2.2.1; omega)
theorem NOK.inW {m : Nat} {x : NS} (h : NOK m x) (hm : m ≤ 20) : inZ (nWorth x) := by
  obtain ⟨_, _, _, _, h5, h6, _, _⟩ := h
  unfold inZ; omega
/-- what the six texts tell -/
def TxOK (I : TI) (tc : Nat) (tv : Nat → TV) : Prop := tc ≤ 6 ∧ ∀ i, i < tc → ∃ en, TextOK I (71 + 3 * i) en ∧ ruleV I i en = tv i
theorem TxOK.le {I : TI} {tc : Nat} {tv : Nat → TV} (h : TxOK I tc tv) {i : Nat} (hi : i < tc) : ∀ p nm, tv i p nm ≤ 99 := fun p nm => by
  obtain ⟨en, _, h2⟩ := h.2 i hi
  rw [← h2]; exact ruleV_le _ _ _ _ _
theorem TxOK.fr {I I2 : TI} {tc : Nat} {tv : Nat → TV} (h : TxOK I tc tv) (hF : ∀ a, 71 ≤ a → a < 89 → I2 a = I a) : TxOK I2 tc tv := ⟨h.1, fun i hi => by
  obtain ⟨en, h1, h2⟩ := h.2 i hi
  have hi6 := h.1
  refine ⟨en, ⟨fun p hp => by rw [hF _ (by omega) (by omega)]; exact h1.1 p hp, h1.2⟩, ?_⟩
  rw [← h2]
  show tvN (mkA I2 _) en = tvN (mkA I _) en
  unfold mkA
  rw [hF _ (by omega) (by omega)]⟩
/-- a night of the sky or of the trial: what else there is has not changed -/
def FrX (I I2 : TI) : Prop := ∀ a, ¬ inS 13 a → ¬ inS 47 a → (a < 97 ∨ 101 < a) → I2 a = I a
theorem FrX.rf {I : TI} : FrX I I := fun _ _ _ _ => rfl
theorem FrX.t {I I1 I2 : TI} (h : FrX I I1) (h2 : FrX I1 I2) : FrX I I2 := fun a h3 h4 h5 => (h2 a h3 h4 h5).trans (h a h3 h4 h5)
theorem FrX.nt {I I1 I2 : TI} {s : Nat} (hs : s = 13 ∨ s = 47) (h : FrX I I1) (h2 : FrNt s I1 I2) : FrX I I2 := h.t fun a h3 h4 h5 => by
  unfold inS at h3 h4
  rcases hs with rfl | rfl <;> exact h2.1 a (by omega) (fun j hj => by omega) h5
theorem FrX.tk {I I1 I2 : TI} {o : Nat} (h : FrX I I1) (h2 : TakeOK 47 o I1 I2) : FrX I I2 := h.t fun a _ h4 _ => h2.1 a h4
theorem FrX.tx {I I2 : TI} {tc : Nat} {tv : Nat → TV} (h : FrX I I2) (hT : TxOK I tc tv) : TxOK I2 tc tv := hT.fr fun a h1 h2 => h a (by unfold inS; omega) (by unfold inS; omega) (by omega)
theorem FrX.ks {I I2 : TI} (h : FrX I I2) (hT : KS I) : KS I2 := ⟨fun p hp => by rw [h 4 (by unfold inS; omega) (by unfold inS; omega) (by omega)]; exact hT.1 p hp, fun p hp => by rw [h 5 (by unfold inS; omega) (by unfold inS; omega) (by omega)]; exact hT.2 p hp⟩
theorem FrX.in {I I1 I2 : TI} (h : FrX I I1) (h2 : ∀ a, ¬ inS 47 a → I2 a = I1 a) : FrX I I2 := h.t fun a _ h4 _ => h2 a h4
theorem FrNt.in47 {I I2 : TI} (h : FrNt 47 I I2) : ∀ a, inS 13 a → I2 a = I a := h.oth (Or.inr (Or.inr rfl)) (Or.inl rfl) (by decide)
theorem FrNt.in13 {I I2 : TI} (h : FrNt 13 I I2) : ∀ a, inS 47 a → I2 a = I a := h.oth (Or.inl rfl) (Or.inr (Or.inr rfl)) (by decide)
theorem chD_in {I : TI} {s w sz : Nat} {v : Int32} : ∀ a, ¬ inS s a → chD I s w v sz a = I a := fun a ha => by
  unfold inS at ha
  unfold chD
  split
  · rw [up2_a _ _ _ (by omega), up2_a _ _ _ (by omega)]
  · rw [up2_a _ _ _ (by omega)]
theorem chT_in {I : TI} {s j k sl : Nat} {v : Int32} (hj : j < 6) : ∀ a, ¬ inS s a → chT I s j k v sl a = I a := fun a ha => by
  unfold inS at ha
  unfold chT
  rw [up2_a _ _ _ (by omega), up2_a _ _ _ (by omega)]
theorem not47 {a : Nat} (h : inS 13 a) : ¬ inS 47 a := by unfold inS at *; omega
theorem SkyOK.nb {n : Nat} {I : TI} {R : TR} {s : Nat} {en dl : Nat → Nat} {tr : Nat → Nat → Nat} {sz rl : Nat} (hK : SkyOK I s dl tr sz rl) (hsh : Sh n R) (hs : isSky s) (hT : TextOK I (71 + 3 * rl) en) (hKS : KS I) : NB n I R s en dl tr sz rl := ⟨hsh, hs, hK.1, hK.2.1, hK.2.2, hT, hKS⟩
theorem PostN.im {n : Nat} {J : TJ} {R : TR} {r0 : Option Value} {P P2 : TI → TR → Prop} (h : ∀ I R2, P I R2 → P2 I R2) : ∀ r n2 I2 J2 R2, PostN n J R r0 P r n2 I2 J2 R2 → PostN n J R r0 P2 r n2 I2 J2 R2 := fun _ _ _ _ _ ⟨h1, h2, h3, h4, h5⟩ => ⟨h1, h2, h3, h4, h _ _ h5⟩
theorem S_plain {g : GP} {d n : Nat} {I : TI} {J : TJ} {R : TR} {s : Nat} {dl : Nat → Nat} {tr : Nat → Nat → Nat} {sz rl : Nat} {tc : Nat} {tv : Nat → TV} (hsh : Sh n R) (hs : isSky s) (hK : SkyOK I s dl tr sz rl) (hT : TxOK I tc tv) (hrl : rl < tc) (hKS : KS I) {some : Nat} (hb : some < 128) : Wp g (d + 4) mX5_goPlain 0 [.ref 97, .ref s, .int (nI some), .null, .null] [] 0 0 n I J R (PostN n J R (Option.some (.int (zI (nWorth (plainN dl tr (tv rl) sz some))))) (BegP I s dl tr sz rl (plainN dl tr (tv rl) sz some))) := by
  obtain ⟨en, h1, h2⟩ := hT.2 rl hrl
  have h := S_goPlain (g := g) (d := d) (J := J) (hK.nb hsh hs h1 hKS) hb
  rw [h2] at h
  exact h
theorem S_beg {g : GP} {d n : Nat} {I : TI} {J : TJ} {R : TR} {s : Nat} {dl : Nat → Nat} {tr : Nat → Nat → Nat} {sz rl : Nat} {tc : Nat} {tv : Nat → TV} (hsh : Sh n R) (hs : isSky s) (hK : SkyOK I s dl tr sz rl) (hT : TxOK I tc tv) (hrl : rl < tc) (hKS : KS I) : Wp g (d + 3) mX5_begin 0 [.ref 97, .ref s] [] 0 0 n I J R (PostN n J R none (BegP I s dl tr sz rl (startN dl))) := by
  obtain ⟨en, h1, h2⟩ := hT.2 rl hrl
  exact S_begin (hK.nb hsh hs h1 hKS)
theorem S_look {g : GP} {d n : Nat} {I : TI} {J : TJ} {R : TR} {s : Nat} {dl : Nat → Nat} {tr : Nat → Nat → Nat} {sz rl : Nat} {tc : Nat} {tv : Nat → TV} (hsh : Sh n R) (hs : isSky s) (hK : SkyOK I s dl tr sz rl) (hT : TxOK I tc tv) (hrl : rl < tc) (hKS : KS I) {I2 : TI} {R2 : TR} {k place : Nat} {x : NS} (hk : k < sz) (hp : place < 100) (hR : FrR R R2) (hB : BegP I s dl tr sz rl x I2 R2) (hat : nAt x < 100) (htk : nTick x < 10000) : Wp g (d + 3) mX5_lookFor 0 [.ref 97, .int (nI k), .int (nI place), .null, .null, .null, .null, .null] [] 0 0 n I2 J R2 (PostI n J R2 none (fun I3 => BegP I s dl tr sz rl (lookN dl tr (tv rl) k place x) I3 R2)) := by
  obtain ⟨en, h1, h2⟩ := hT.2 rl hrl
  have hN := hK.nb hsh hs h1 hKS
  have hz := hK.2.1.2.2.1
  have h := S_lookFor (g := g) (d := d) (J := J) (hN.nc hR hB) (k := k) (place := place) (x := x) hk hp hB.1 hat htk
  rw [hN.rule hB.2.2.1] at h
  refine h.mono fun r n I3 J R hq => ?_
  obtain ⟨rfl, rfl, rfl, rfl, f, f2⟩ := hq
  refine ⟨rfl, rfl, rfl, rfl, ?_⟩
  rw [← h2]
  exact hB.look hs hz f f2
def asksS (sz : Nat) (w : Int) : Bool := decide (10 ≤ w ∧ w < 30 ∧ w % 10 < sz)
def asksN (sz : Nat) (w : Int) : Bool := decide ((0 ≤ w ∧ w < 5) ∨ (10 ≤ w ∧ w < 30 ∧ w % 10 < sz))
set_option maxRecDepth 20000 in
set_option maxHeartbeats 4000000 in
theorem S_asksOfSights {g : GP} {d n : Nat} {I : TI} {J : TJ} {R : TR} {dl : Nat → Nat} {tr : Nat → Nat → Nat} {sz rl : Nat} (hsh : Sh n R) (hA : SkyAt I 13 dl tr sz rl) (wf : WF dl tr sz rl) {w : Int} (hw : inZ w) : Wp g d mX6_asksOfSights 0 [.ref 12, .int (zI w)] [] 0 0 n I J R (RetI (b2i (asksS sz w)) n I J R) := by
  have bz := wf.2.2.1
  refine r_iload_n dX6_asksOfSights_0 rfl ?_
  refine r_bipush (v := 10) dX6_asksOfSights_1 (by decide) ?_
  refine r_zicmp_lt (b := 10)  (tgt := 30) dX6_asksOfSights_3 (by decide) rfl (by decide) hw (by unfold inZ; omega) (fun h3 => ?_) (fun h3 => ?_)
  · refine r_iconst (v := 0) dX6_asksOfSights_30 (by decide) ?_
    refine r_bret (b := asksS sz w) dX6_asksOfSights_31 rfl ?_ ?_
    · refine b2i_0 ?_
      unfold asksS
      simp only [decide_eq_true_eq, decide_eq_false_iff_not]
      omega
    · exact ⟨rfl, rfl, rfl, rfl, rfl⟩
  · refine r_iload_n dX6_asksOfSights_6 rfl ?_
    refine r_bipush (v := 30) dX6_asksOfSights_7 (by decide) ?_
    refine r_zicmp_ge (b := 30)  (tgt := 30) dX6_asksOfSights_9 (by decide) rfl (by decide) hw (by unfold inZ; omega) (fun h9 => ?_) (fun h9 => ?_)
    · refine r_iconst (v := 0) dX6_asksOfSights_30 (by decide) ?_
      refine r_bret (b := asksS sz w) dX6_asksOfSights_31 rfl ?_ ?_
      · refine b2i_0 ?_
        unfold asksS
        simp only [decide_eq_true_eq, decide_eq_false_iff_not]
        omega
      · exact ⟨rfl, rfl, rfl, rfl, rfl⟩
    · obtain ⟨w0, rfl⟩ := Int.eq_ofNat_of_zero_le (show 0 ≤ w by omega)
      rw [← nz]
      refine r_iload_n dX6_asksOfSights_12 rfl ?_
      refine r_bipush (v := 10) dX6_asksOfSights_13 (by decide) ?_
      refine r_nirem (b := 10) dX6_asksOfSights_15 rfl rfl (by omega) (by omega) (by omega) ?_
      refine r_aload_n dX6_asksOfSights_16 rfl ?_
      refine r_getR (b := 13) dX6_asksOfSights_17 f_X6_10 (hsh.al rfl (by decide)) (Or.inr ⟨_, rfl⟩) (hsh.r 12 0 13 (by decide)) (by decide) ?_
      refine r_getIE dX6_asksOfSights_20 f_X6_95 (hsh.al rfl (by decide)) (Or.inl rfl) hA.2.2.1 ?_
      refine r_nicmp_ge  (tgt := 30) dX6_asksOfSights_23 (by decide) rfl rfl (by omega) (by omega) (fun h23 => ?_) (fun h23 => ?_)
      · refine r_iconst (v := 0) dX6_asksOfSights_30 (by decide) ?_
        refine r_bret (b := asksS sz (w0 : Int)) dX6_asksOfSights_31 rfl ?_ ?_
        · refine b2i_0 ?_
          unfold asksS
          simp only [decide_eq_true_eq, decide_eq_false_iff_not]
          omega
        · exact ⟨rfl, rfl, rfl, rfl, rfl⟩
      · refine r_iconst (v := 1) dX6_asksOfSights_26 (by decide) ?_
        refine r_goto (tgt := 31) dX6_asksOfSights_27 (by decide) ?_
        refine r_bret (b := asksS sz (w0 : Int)) dX6_asksOfSights_31 rfl ?_ ?_
        · refine b2i_1 ?_
          unfold asksS
          simp only [decide_eq_true_eq, decide_eq_false_iff_not]
          omega
        · exact ⟨rfl, rfl, rfl, rfl, rfl⟩
set_option maxRecDepth 20000 in
set_option maxHeartbeats 4000000 in
theorem S_asksOfNight {g : GP} {d n : Nat} {I : TI} {J : TJ} {R : TR} {dl : Nat → Nat} {tr : Nat → Nat → Nat} {sz rl : Nat} (hsh : Sh n R) (hA : SkyAt I 13 dl tr sz rl) (wf : WF dl tr sz rl) {w : Int} (hw : inZ w) : Wp g (d + 1) mX6_asksOfNight 0 [.ref 12, .int (zI w)] [] 0 0 n I J R (RetI (b2i (asksN sz w)) n I J R) := by
  have e1 : bw (zI w) 5 = decide (0 ≤ w ∧ w < (5 : Nat)) := bw_z rfl hw (by decide)
  refine r_iload_n dX6_asksOfNight_0 rfl ?_
  refine r_iconst (v := 5) dX6_asksOfNight_1 (by decide) ?_
  refine r_callS2I dX6_asksOfNight_2 moX6_isBelow w_458 w_400 (Nat.le_of_ble_eq_true rfl) (Nat.le_of_ble_eq_true rfl) (S_isBelow _ _) ?_
  refine r_ifb_ne (tgt := 16) dX6_asksOfNight_5 (by decide) (fun h5 => ?_) (fun h5 => ?_)
  · rw [e1, decide_eq_true_eq] at h5
    refine r_iconst (v := 1) dX6_asksOfNight_16 (by decide) ?_
    refine r_goto (tgt := 21) dX6_asksOfNight_17 (by decide) ?_
    refine r_bret (b := asksN sz w) dX6_asksOfNight_21 rfl ?_ ?_
    · refine b2i_1 ?_
      unfold asksN
      simp only [decide_eq_true_eq, decide_eq_false_iff_not]
      omega
    · exact ⟨rfl, rfl, rfl, rfl, rfl⟩
  · rw [e1, decide_eq_false_iff_not] at h5
    refine r_aload_n dX6_asksOfNight_8 rfl ?_
    refine r_iload_n dX6_asksOfNight_9 rfl ?_
    refine r_callV1I dX6_asksOfNight_10 moX6_asksOfSights w_506 w_508 s_17 (hsh.al rfl (by decide)) cl6 rfl (Nat.le_of_ble_eq_true rfl) (Nat.le_of_ble_eq_true rfl) (S_asksOfSights hsh hA wf hw) ?_
    refine r_ifb_eq (tgt := 20) dX6_asksOfNight_13 (by decide) (fun h13 => ?_) (fun h13 => ?_)
    · unfold asksS at h13
      rw [decide_eq_false_iff_not] at h13
      refine r_iconst (v := 0) dX6_asksOfNight_20 (by decide) ?_
      refine r_bret (b := asksN sz w) dX6_asksOfNight_21 rfl ?_ ?_
      · refine b2i_0 ?_
        unfold asksN
        simp only [decide_eq_true_eq, decide_eq_false_iff_not]
        omega
      · exact ⟨rfl, rfl, rfl, rfl, rfl⟩
    · unfold asksS at h13
      rw [decide_eq_true_eq] at h13
      refine r_iconst (v := 1) dX6_asksOfNight_16 (by decide) ?_
      refine r_goto (tgt := 21) dX6_asksOfNight_17 (by decide) ?_
      refine r_bret (b := asksN sz w) dX6_asksOfNight_21 rfl ?_ ?_
      · refine b2i_1 ?_
        unfold asksN
        simp only [decide_eq_true_eq, decide_eq_false_iff_not]
        omega
      · exact ⟨rfl, rfl, rfl, rfl, rfl⟩
def kAb (k : Nat) : Int := [-1, 0, 0, 1, 2, 0].getD k (-1)
def KAOK (I : TI) : Prop := ∀ k, k < 6 → I 3 k = zI (kAb k)
/-- of what kinds the kind k is -/
def isKN (k q : Nat) : Bool := decide (k = q) || decide (kAb k = q) || (decide (kAb k = 1 ∨ kAb k = 2) && decide (q = 0))
def kOf : Nat → Int → Nat → Bool
  | 0, _, _ => false
  | m + 1, z, q => if 0 ≤ z then (if z = (q : Int) then true else kOf m (kAb z.toNat) q) else false
theorem kAb_in (k : Nat) (h : k < 6) : -1 ≤ kAb k ∧ kAb k < 6 := by
  have e : k = 0 ∨ k = 1 ∨ k = 2 ∨ k = 3 ∨ k = 4 ∨ k = 5 := by omega
  rcases e with rfl | rfl | rfl | rfl | rfl | rfl <;> decide
set_option maxRecDepth 20000 in
set_option maxHeartbeats 4000000 in
theorem S_isOfKind {g : GP} {d n : Nat} {I : TI} {J : TJ} {R : TR} (hKA : KAOK I) {k q : Nat} (hk : k < 6) (hq : q < 6) : Wp g (d + 1) mX6_isOfKind 0 [.int (nI k), .int (nI q), .null, .null] [] 0 0 n I J R (RetI (b2i (isKN k q)) n I J R) := by
  have e : k = 0 ∨ k = 1 ∨ k = 2 ∨ k = 3 ∨ k = 4 ∨ k = 5 := by omega
  have e2 : q = 0 ∨ q = 1 ∨ q = 2 ∨ q = 3 ∨ q = 4 ∨ q = 5 := by omega
  have key : ∀ m i (z : Int) b, m + i = 6 → -1 ≤ z → z < 6 → (kOf m z q = b) → Wp g (d + 1) mX6_isOfKind 4 [.int (nI k), .int (nI q), .int (zI z), .int (nI i)] [] 0 0 n I J R (RetI (b2i b) n I J R) := by
    intro m
    induction m with
    | zero =>
      intro i z b hi h1 h2 hb
      subst hb
      refine r_iload_n dX6_isOfKind_4 rfl ?_
      refine r_bipush (v := 6) dX6_isOfKind_5 (by decide) ?_
      refine r_nicmp_ge (b := 6)  (tgt := 38) dX6_isOfKind_7 (by decide) rfl rfl (by omega) (by omega) (fun h7 => ?_) (fun h7 => absurd h7 (by omega))
      refine r_iconst (v := 0) dX6_isOfKind_38 (by decide) ?_
      refine r_bret (b := false) dX6_isOfKind_39 rfl ?_ ?_
      · rfl
      · exact ⟨rfl, rfl, rfl, rfl, rfl⟩
    | succ m ih =>
      intro i z b hi h1 h2 hb
      have e1 : bw (zI z) 6 = decide (0 ≤ z ∧ z < (6 : Nat)) := bw_z rfl (by unfold inZ; omega) (by decide)
      refine r_iload_n dX6_isOfKind_4 rfl ?_
      refine r_bipush (v := 6) dX6_isOfKind_5 (by decide) ?_
      refine r_nicmp_ge (b := 6)  (tgt := 38) dX6_isOfKind_7 (by decide) rfl rfl (by omega) (by omega) (fun h7 => absurd h7 (by omega)) (fun h7 => ?_)
      refine r_iload_n dX6_isOfKind_10 rfl ?_
      refine r_bipush (v := 6) dX6_isOfKind_11 (by decide) ?_
      refine r_callS2I dX6_isOfKind_13 moX6_isBelow w_458 w_400 (Nat.le_of_ble_eq_true rfl) (Nat.le_of_ble_eq_true rfl) (S_isBelow _ _) ?_
      refine r_ifb_eq (tgt := 38) dX6_isOfKind_16 (by decide) (fun h16 => ?_) (fun h16 => ?_)
      · rw [e1, decide_eq_false_iff_not] at h16
        refine r_iconst (v := 0) dX6_isOfKind_38 (by decide) ?_
        refine r_bret (b := b) dX6_isOfKind_39 rfl ?_ ?_
        · refine b2i_0 ?_
          rw [← hb]; unfold kOf; rw [if_neg (by omega)]
        · exact ⟨rfl, rfl, rfl, rfl, rfl⟩
      · rw [e1, decide_eq_true_eq] at h16
        refine r_iload_n dX6_isOfKind_19 rfl ?_
        refine r_iload_n dX6_isOfKind_20 rfl ?_
        refine r_zicmp_ne  (tgt := 26) dX6_isOfKind_21 (by decide) rfl (nz _) (by unfold inZ; omega) (by unfold inZ; omega) (fun h21 => ?_) (fun h21 => ?_)
        · have hkb := kAb_in z.toNat (by omega)
          refine gets_core (q := ("AHundredSights", "KIND_ABOVE", "[I", .null)) (v := .ref 3) dX6_isOfKind_26 (fun g => by simp [zsL, cv, ad, RX6, RX4]) w_777 ?_
          refine r_iload_n dX6_isOfKind_29 rfl ?_
          refine r_ialdSE (j := z.toNat) dX6_isOfKind_30 rfl (by omega) (by decide) (by rw [nz]; congr 1; omega) (hKA z.toNat (by omega)) ?_
          refine r_istore_n dX6_isOfKind_31 (by decide) rfl ?_
          refine r_iincE (b := (i + 1)) dX6_isOfKind_32 rfl rfl (nI_succ _).symm rfl ?_
          refine r_goto (tgt := 4) dX6_isOfKind_35 (by decide) ?_
          refine ih (i + 1) _ b (by omega) hkb.1 hkb.2 ?_
          rw [← hb]
          show _ = (if 0 ≤ z then (if z = (q : Int) then true else kOf m (kAb z.toNat) q) else false)
          rw [if_pos (by omega), if_neg (by omega)]
        · refine r_iconst (v := 1) dX6_isOfKind_24 (by decide) ?_
          refine r_bret (b := b) dX6_isOfKind_25 rfl ?_ ?_
          · refine b2i_1 ?_
            rw [← hb]; unfold kOf; rw [if_pos (by omega), if_pos (by omega)]
          · exact ⟨rfl, rfl, rfl, rfl, rfl⟩
  refine r_iload_n dX6_isOfKind_0 rfl ?_
  refine r_istore_n dX6_isOfKind_1 (by decide) rfl ?_
  refine r_iconst (v := 0) dX6_isOfKind_2 (by decide) ?_
  refine r_istore_n dX6_isOfKind_3 (by decide) rfl ?_
  refine key 6 0 (k : Int) _ rfl (by omega) (by omega) ?_
  rcases e with rfl | rfl | rfl | rfl | rfl | rfl <;> rcases e2 with rfl | rfl | rfl | rfl | rfl | rfl <;> rfl
