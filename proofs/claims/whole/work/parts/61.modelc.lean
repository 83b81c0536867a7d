/-! the model: what would be best (sleep, moon, leave, two), late, clouds -/
theorem ch_1 {f : Nat → Int} (h : -1000000 < f 0) : chN f 1 = (nI 0, f 0) := if_pos h
theorem ch_ne {f : Nat → Int} (h : -1000000 < f 0) : ∀ i, 1 ≤ i → i < 2000 → ∃ k, k < i ∧ (chN f i).1 = nI k ∧ (chN f i).2 = f k
  | 0, h1, _ => by omega
  | 1, _, _ => by rw [ch_1 h]; exact ⟨0, by decide, rfl, rfl⟩
  | i + 2, _, h2 => by
    obtain ⟨k, k1, k2, k3⟩ := ch_ne h (i + 1) (by omega) (by omega)
    show ∃ k, k < i + 2 ∧ (weighN (chN f (i + 1)) (nI (i + 1)) (f (i + 1))).1 = nI k ∧ (weighN (chN f (i + 1)) (nI (i + 1)) (f (i + 1))).2 = f k
    unfold weighN
    split
    · exact ⟨i + 1, by omega, rfl, rfl⟩
    · exact ⟨k, by omega, k2, k3⟩
/-- as the model weighs: what was found, and of what worth -/
def ChM (f : Nat → Int) (i : Nat) (fo mo : Int32) : Prop := (i = 0 ∧ fo = -1 ∧ mo = 0) ∨ (1 ≤ i ∧ fo = (chN f i).1 ∧ mo = zI (chN f i).2)
theorem ChM.take {f : Nat → Int} {i : Nat} {fo mo : Int32} (h : ChM f i fo mo) (h0 : -1000000 < f 0) (hb : i = 0 ∨ (chN f i).2 < f i) : ChM f (i + 1) (nI i) (zI (f i)) := by
  refine Or.inr ⟨by omega, ?_⟩
  show nI i = (weighN (chN f i) (nI i) (f i)).1 ∧ zI (f i) = zI (weighN (chN f i) (nI i) (f i)).2
  unfold weighN
  have hc : (chN f i).2 < f i := by
    rcases hb with e | e
    · subst e; exact h0
    · exact e
  rw [if_pos hc]
  exact ⟨rfl, rfl⟩
theorem ChM.leave {f : Nat → Int} {i : Nat} {fo mo : Int32} (h : ChM f i fo mo) (hi : 1 ≤ i) (hb : f i ≤ (chN f i).2) : ChM f (i + 1) fo mo := by
  rcases h with h | h
  · omega
  · refine Or.inr ⟨by omega, ?_⟩
    show fo = (weighN (chN f i) (nI i) (f i)).1 ∧ mo = zI (weighN (chN f i) (nI i) (f i)).2
    unfold weighN
    rw [if_neg (by omega)]
    exact h.2
theorem ChM.end {f : Nat → Int} {i : Nat} {fo mo : Int32} (h : ChM f i fo mo) (hi : 1 ≤ i) : fo = (chN f i).1 ∧ mo = zI (chN f i).2 := by
  rcases h with h | h
  · omega
  · exact h.2
theorem ChM.mo {f : Nat → Int} {i : Nat} {fo mo : Int32} (h : ChM f i fo mo) (hi : 1 ≤ i) : mo = zI (chN f i).2 := (h.end hi).2
theorem m1_z : (-1 : Int32) = zI (-1) := by decide
/-- one dial changed on the way -/
def FrD (w : Nat) (I I2 : TI) : Prop := (∀ a, a ≠ 102 → a ≠ 106 → a ≠ 109 → a ≠ 110 → I2 a = I a) ∧ (∀ k, (k < 12 ∨ 31 < k) → I2 102 k = I 102 k) ∧ ∀ j, j ≠ w → I2 106 j = I 106 j
theorem FrD.rf {w : Nat} {I : TI} : FrD w I I := ⟨fun _ _ _ _ _ => rfl, fun _ _ => rfl, fun _ _ => rfl⟩
theorem FrD.m {w : Nat} {I I1 I2 : TI} (h : FrD w I I1) (h2 : FrMo I1 I2) : FrD w I I2 := ⟨fun a a1 a2 a3 a4 => (h2.1 a a1 a3 a4).trans (h.1 a a1 a2 a3 a4), fun k hk => (h2.2 k hk).trans (h.2.1 k hk), fun j hj => by rw [h2.1 106 (by decide) (by decide) (by decide)]; exact h.2.2 j hj⟩
theorem FrD.u {w : Nat} {I I2 : TI} {v : Int32} (h : FrD w I I2) : FrD w I (up2 I2 106 w v) := ⟨fun a a1 a2 a3 a4 => by rw [up2_a _ _ _ a2]; exact h.1 a a1 a2 a3 a4, fun k hk => by rw [up2_a _ _ _ (by decide)]; exact h.2.1 k hk, fun j hj => by rw [up2_k _ _ hj]; exact h.2.2 j hj⟩
theorem FrD.back {w : Nat} {I I2 : TI} {v : Int32} (h : FrD w I I2) (hv : I 106 w = v) : FrMo I (up2 I2 106 w v) := ⟨fun a a1 a3 a4 => by
  by_cases e : a = 106
  · subst e
    funext j
    by_cases e2 : j = w
    · rw [e2, up2_at, hv]
    · rw [up2_k _ _ e2]; exact h.2.2 j e2
  · rw [up2_a _ _ _ e]; exact h.1 a a1 e a3 a4, fun k hk => by rw [up2_a _ _ _ (by decide)]; exact h.2.1 k hk⟩
theorem MdP.d2 {n : Nat} {I I2 : TI} {R : TR} {dl : Nat → Nat} {tr : Nat → Nat → Nat} {sz rl w v : Nat} (h : MdP n I R dl tr sz rl) (hF : FrD w I I2) (hw : w < 8) (hv : v ≤ dB w) (h1 : I2 106 w = nI v) : MdP n I2 R (up1 dl w v) tr sz rl := by
  obtain ⟨p1, p2, p3, p4, p5, p6, p7, p8⟩ := h
  refine ⟨p1, p2.upDl hv, by rw [hF.2.1 11 (by decide)]; exact p3, fun j hj => ?_, fun k hk => by rw [hF.1 107 (by decide) (by decide) (by decide) (by decide)]; exact p5 k hk, fun i k hi hk => by rw [hF.1 108 (by decide) (by decide) (by decide) (by decide)]; exact p6 i k hi hk, by rw [hF.2.1 10 (by decide)]; exact p7, by rw [hF.2.1 4 (by decide)]; exact p8⟩
  by_cases e : j = w
  · rw [e, h1, up1_at]
  · rw [hF.2.2 j e, up1_ne _ _ e]; exact p4 j hj
theorem TxV.o {I I2 : TI} {rl : Nat} {V : TV} (h : TxV I rl V) (h3 : I2 103 = I 103) (h4 : I2 104 = I 104) : TxV I2 rl V := by
  obtain ⟨h6, b, z, g1, g2, g3, g4⟩ := h
  exact ⟨h6, b, z, g1, by rw [h4]; exact g2, fun j hj => by rw [h3]; exact g3 j hj, g4⟩
theorem FrD.v {w : Nat} {I I2 : TI} {rl : Nat} {V : TV} (h : FrD w I I2) (hV : TxV I rl V) : TxV I2 rl V := hV.o (h.1 103 (by decide) (by decide) (by decide) (by decide)) (h.1 104 (by decide) (by decide) (by decide) (by decide))
set_option maxRecDepth 20000 in
set_option maxHeartbeats 4000000 in
theorem S_mSleep {g : GP} {d n : Nat} {I : TI} {J : TJ} {R : TR} {σ : CSt} (hM : MdS n I R σ) {m w : Int} (hm : inZ m) (hw : inZ w) : Wp g (d + 49) mX7_sleep 0 [.ref 102, .int (zI m), .int (zI w), .null, .null, .null] [] 0 0 n I J R (PdM n I R (.int (sleepV σ m w)) σ) := by
  have hsh := hM.sh
  have hN := hM.p.mn
  have hV := hM.v
  have wf := hM.wf
  have hz := wf.2.2.1
  have loop : ∀ (m0 : Nat), m = (m0 : Nat) → 1 ≤ m0 → m0 ≤ 99 → 0 ≤ w ∧ w < 2 → ∀ q i fo mo I2 J2, i + q = qsz σ + 1 → FrMo I I2 → ChM (fun pl => nWorth (sleepN (qdl σ) (qtr σ) (qtv σ (qrl σ)) (qsz σ) pl m0)) i fo mo → Wp g (d + 49) mX7_sleep 34 [.ref 102, .int (nI m0), .int (zI w), .int fo, .int mo, .int (nI i)] [] 0 0 n I2 J2 R (PdM n I R (.int (sleepV σ m w)) σ) := by
    intro m0 em h1 h99 hw2 q
    have hlo : ∀ i, inZ (nWorth (sleepN (qdl σ) (qtr σ) (qtv σ (qrl σ)) (qsz σ) i m0)) ∧ -1000000 < nWorth (sleepN (qdl σ) (qtr σ) (qtv σ (qrl σ)) (qsz σ) i m0) := fun i => by
      have h := sleepN_ok wf hV.le (pl := i) (m := m0) (by omega)
      exact ⟨h.inW (by decide), by have := h.2.2.2.2.1; omega⟩
    have hgs : ∀ i, gosN (qdl σ) (qtr σ) (qtv σ (qrl σ)) (2 ^ qsz σ - 1) ((i : Nat) : Int) m0 (qsz σ) 0 0 (startN (qdl σ)) = sleepN (qdl σ) (qtr σ) (qtv σ (qrl σ)) (qsz σ) i m0 := fun i => gos_sleep _ _ _ fun j _ h2 => tb_all (by omega)
    induction q with
    | zero =>
      intro i fo mo I2 J2 hi hF hc
      have e : i = qsz σ + 1 := hi
      subst e
      obtain ⟨c1, c2⟩ := hc.end (by omega)
      have hN2 := hN.m hF
      have e0 : sleepV σ m w = pickW (sleepC σ m0) w.toNat := by unfold sleepV; rw [if_pos (by omega), em]; rfl
      rw [e0]
      refine r_iload dX7_sleep_34 rfl ?_
      refine r_aload_n dX7_sleep_36 rfl ?_
      refine r_getIE dX7_sleep_37 f_X7_70 (hsh.al rfl (by decide)) (Or.inl rfl) hN2.many ?_
      refine r_nicmp_gt  (tgt := 83) dX7_sleep_40 (by decide) rfl rfl (by omega) (by omega) (fun h40 => ?_) (fun h40 => absurd h40 (by omega))
      refine r_iload_n dX7_sleep_83 rfl ?_
      refine r_zif_ne (tgt := 91) dX7_sleep_84 (by decide) rfl hw (fun h84 => ?_) (fun h84 => ?_)
      · refine r_iload dX7_sleep_91 rfl ?_
        refine r_iret dX7_sleep_93 rfl ?_
        have ew : w = 1 := by omega
        subst ew
        rw [c2]
        exact PdM.of hM hF
      · refine r_iload_n dX7_sleep_87 rfl ?_
        refine r_goto (tgt := 93) dX7_sleep_88 (by decide) ?_
        refine r_iret dX7_sleep_93 rfl ?_
        have ew : w = 0 := by omega
        subst ew
        rw [c1]
        exact PdM.of hM hF
    | succ q ih =>
      intro i fo mo I2 J2 hi hF hc
      have hN2 := hN.m hF
      have hV2 := hV.m hF
      have hli := hlo i
      refine r_iload dX7_sleep_34 rfl ?_
      refine r_aload_n dX7_sleep_36 rfl ?_
      refine r_getIE dX7_sleep_37 f_X7_70 (hsh.al rfl (by decide)) (Or.inl rfl) hN2.many ?_
      refine r_nicmp_gt  (tgt := 83) dX7_sleep_40 (by decide) rfl rfl (by omega) (by omega) (fun h40 => absurd h40 (by omega)) (fun h40 => ?_)
      refine r_aload_n dX7_sleep_43 rfl ?_
      refine r_aload_n dX7_sleep_44 rfl ?_
      refine r_callV0I dX7_sleep_45 moX7_all w_1073 w_1075 s_52 (hsh.al rfl (by decide)) cl7 rfl (Nat.le_of_ble_eq_true rfl) (Nat.le_of_ble_eq_true rfl) (S_mAll hN2.sh hN2.many hz) ?_
      refine r_iload dX7_sleep_48 rfl ?_
      refine r_iload_n dX7_sleep_50 rfl ?_
      refine r_callV3N dX7_sleep_51 moX7_goes w_1077 w_1079 s_53 (hsh.al rfl (by decide)) cl7 rfl (Nat.le_of_ble_eq_true rfl) (Nat.le_of_ble_eq_true rfl) (S_mGoes hN2 hV2 (set := 2 ^ qsz σ - 1) (m := m0) (pl := ((i : Nat) : Int)) (p2_lt hz) (by unfold inZ; omega) (by omega)) (fun r n I3 J R hq => ?_)
      obtain ⟨rfl, rfl, rfl, hF3, hW3⟩ := hq
      rw [hgs i] at hW3
      by_cases ei : i = 0
      · have hfo : fo = -1 := by
          rcases hc with h | h
          · exact h.2.1
          · omega
        subst hfo
        refine r_iload_n dX7_sleep_54 rfl ?_
        refine r_iconst (v := (-1)) dX7_sleep_55 (by decide) ?_
        refine r_icmp_eq (tgt := 68) dX7_sleep_56 (by decide) (fun _ => ?_) (fun hx => absurd rfl hx)
        refine r_iload dX7_sleep_68 rfl ?_
        refine r_istore_n dX7_sleep_70 (by decide) rfl ?_
        refine r_aload_n dX7_sleep_71 rfl ?_
        refine r_getIE dX7_sleep_72 f_X7_248 (hsh.al rfl (by decide)) (Or.inl rfl) hW3.2.2.1 ?_
        refine r_istore dX7_sleep_75 (by decide) rfl ?_
        refine r_iincE (b := (i + 1)) dX7_sleep_77 rfl rfl (nI_succ _).symm rfl ?_
        refine r_goto (tgt := 34) dX7_sleep_80 (by decide) ?_
        exact ih (i + 1) _ _ _ _ (by omega) (hF.t hF3) (hc.take (hlo 0).2 (Or.inl ei))
      · have hi1 : 1 ≤ i := by omega
        obtain ⟨c1, c2⟩ := hc.end hi1
        obtain ⟨k, k1, k2, k3⟩ := ch_ne (f := (fun pl => nWorth (sleepN (qdl σ) (qtr σ) (qtv σ (qrl σ)) (qsz σ) pl m0))) (hlo 0).2 i hi1 (by omega)
        have hck : inZ (chN (fun pl => nWorth (sleepN (qdl σ) (qtr σ) (qtv σ (qrl σ)) (qsz σ) pl m0)) i).2 := by rw [k3]; exact (hlo k).1
        have hfn : ¬ fo = -1 := by rw [c1, k2]; exact nI_ne_m1 (by omega)
        subst c2
        refine r_iload_n dX7_sleep_54 rfl ?_
        refine r_iconst (v := (-1)) dX7_sleep_55 (by decide) ?_
        refine r_icmp_eq (tgt := 68) dX7_sleep_56 (by decide) (fun hx => absurd hx hfn) (fun _ => ?_)
        refine r_aload_n dX7_sleep_59 rfl ?_
        refine r_getIE dX7_sleep_60 f_X7_248 (hsh.al rfl (by decide)) (Or.inl rfl) hW3.2.2.1 ?_
        refine r_iload dX7_sleep_63 rfl ?_
        refine r_zicmp_le  (tgt := 77) dX7_sleep_65 (by decide) rfl rfl (hlo i).1 hck (fun h65 => ?_) (fun h65 => ?_)
        · refine r_iincE (b := (i + 1)) dX7_sleep_77 rfl rfl (nI_succ _).symm rfl ?_
          refine r_goto (tgt := 34) dX7_sleep_80 (by decide) ?_
          exact ih (i + 1) _ _ _ _ (by omega) (hF.t hF3) (hc.leave hi1 (by omega))
        · refine r_iload dX7_sleep_68 rfl ?_
          refine r_istore_n dX7_sleep_70 (by decide) rfl ?_
          refine r_aload_n dX7_sleep_71 rfl ?_
          refine r_getIE dX7_sleep_72 f_X7_248 (hsh.al rfl (by decide)) (Or.inl rfl) hW3.2.2.1 ?_
          refine r_istore dX7_sleep_75 (by decide) rfl ?_
          refine r_iincE (b := (i + 1)) dX7_sleep_77 rfl rfl (nI_succ _).symm rfl ?_
          refine r_goto (tgt := 34) dX7_sleep_80 (by decide) ?_
          exact ih (i + 1) _ _ _ _ (by omega) (hF.t hF3) (hc.take (hlo 0).2 (Or.inr h65))
  refine r_iload_n dX7_sleep_0 rfl ?_
  refine r_zi2l dX7_sleep_1 rfl hm ?_
  refine r_lconst (v := 1) dX7_sleep_2 (by decide) ?_
  refine r_ldc2 dX7_sleep_3 w_959 ?_
  refine r_callS3I dX7_sleep_6 moX7_in w_930 w_931 (Nat.le_of_ble_eq_true rfl) (Nat.le_of_ble_eq_true rfl) (S_in3 (z := m) (lo := 1) (hi := 99) hm (by decide) (by decide) (by unfold inZ; omega) (by unfold inZ; omega)) ?_
  refine r_ifb_eq (tgt := 22) dX7_sleep_9 (by decide) (fun h9 => ?_) (fun h9 => ?_)
  · rw [decide_eq_false_iff_not] at h9
    refine r_ldcwI dX7_sleep_22 w_1068 ?_
    refine r_iret dX7_sleep_25 rfl ?_
    have e0 : sleepV σ m w = -100000 := if_neg (by omega)
    rw [e0]
    exact PdM.rf hM
  · rw [decide_eq_true_eq] at h9
    refine r_iload_n dX7_sleep_12 rfl ?_
    refine r_zi2l dX7_sleep_13 rfl hw ?_
    refine r_lconst (v := 0) dX7_sleep_14 (by decide) ?_
    refine r_lconst (v := 1) dX7_sleep_15 (by decide) ?_
    refine r_callS3I dX7_sleep_16 moX7_in w_930 w_931 (Nat.le_of_ble_eq_true rfl) (Nat.le_of_ble_eq_true rfl) (S_in3 (z := w) (lo := 0) (hi := 1) hw (by decide) (by decide) (by unfold inZ; omega) (by unfold inZ; omega)) ?_
    refine r_ifb_ne (tgt := 26) dX7_sleep_19 (by decide) (fun h19 => ?_) (fun h19 => ?_)
    · rw [decide_eq_true_eq] at h19
      obtain ⟨m0, em⟩ := Int.eq_ofNat_of_zero_le (show 0 ≤ m by omega)
      have em2 : zI m = nI m0 := by rw [em]; rfl
      rw [em2]
      refine r_iconst (v := (-1)) dX7_sleep_26 (by decide) ?_
      refine r_istore_n dX7_sleep_27 (by decide) rfl ?_
      refine r_iconst (v := 0) dX7_sleep_28 (by decide) ?_
      refine r_istore dX7_sleep_29 (by decide) rfl ?_
      refine r_iconst (v := 0) dX7_sleep_31 (by decide) ?_
      refine r_istore dX7_sleep_32 (by decide) rfl ?_
      exact loop m0 em (by omega) (by omega) (by omega) (qsz σ + 1) 0 _ _ I J (Nat.zero_add _) FrMo.rf (Or.inl ⟨rfl, rfl, rfl⟩)
    · rw [decide_eq_false_iff_not] at h19
      refine r_ldcwI dX7_sleep_22 w_1068 ?_
      refine r_iret dX7_sleep_25 rfl ?_
      have e0 : sleepV σ m w = -100000 := if_neg (by omega)
      rw [e0]
      exact PdM.rf hM
set_option maxRecDepth 20000 in
set_option maxHeartbeats 4000000 in
theorem S_mMoon {g : GP} {d n : Nat} {I : TI} {J : TJ} {R : TR} {σ : CSt} (hM : MdS n I R σ) {w : Int} (hw : inZ w) : Wp g (d + 50) mX7_moon 0 [.ref 102, .int (zI w), .null, .null, .null, .null] [] 0 0 n I J R (PdM n I R (.int (moonV σ w)) σ) := by
  have hsh := hM.sh
  have hN := hM.p.mn
  have hV := hM.v
  have wf := hM.wf
  have hz := wf.2.2.1
  have hlo : ∀ i, i < 10 → inZ (moonF σ i) ∧ -1000000 < moonF σ i := fun i hi => by
    have h := plainN_ok (wf.upDl (w := 0) (v := i) (by show i ≤ 9; omega)) hV.le (some := 2 ^ qsz σ - 1)
    exact ⟨h.inW (by decide), by have := h.2.2.2.2.1; unfold moonF; omega⟩
  have loop : 0 ≤ w ∧ w < 2 → ∀ q i fo mo I2 J2, i + q = 10 → FrD 0 I I2 → ChM (moonF σ) i fo mo → Wp g (d + 50) mX7_moon 29 [.ref 102, .int (zI w), .int (nI (qdl σ 0)), .int fo, .int mo, .int (nI i)] [] 0 0 n I2 J2 R (PdM n I R (.int (moonV σ w)) σ) := by
    intro hw2 q
    induction q with
    | zero =>
      intro i fo mo I2 J2 hi hF hc
      have e : i = 10 := hi
      subst e
      obtain ⟨c1, c2⟩ := hc.end (by omega)
      have e0 : moonV σ w = pickW (moonC σ) w.toNat := if_pos hw2
      rw [e0]
      refine r_iload dX7_moon_29 rfl ?_
      refine r_bipush (v := 10) dX7_moon_31 (by decide) ?_
      refine r_nicmp_ge (b := 10)  (tgt := 77) dX7_moon_33 (by decide) rfl rfl (by omega) (by omega) (fun h33 => ?_) (fun h33 => absurd h33 (by omega))
      refine r_aload_n dX7_moon_77 rfl ?_
      refine r_getR (b := 106) dX7_moon_78 f_X7_23 (hsh.al rfl (by decide)) (Or.inl ⟨_, rfl⟩) (hsh.r 102 7 106 (by decide)) (by decide) ?_
      refine r_iconst (v := 0) dX7_moon_81 (by decide) ?_
      refine r_iload_n dX7_moon_82 rfl ?_
      refine r_iast (j := 0) dX7_moon_83 (hsh.al rfl (by decide)) (by decide) (by decide) ?_
      refine r_iload_n dX7_moon_84 rfl ?_
      refine r_zif_ne (tgt := 92) dX7_moon_85 (by decide) rfl hw (fun h85 => ?_) (fun h85 => ?_)
      · refine r_iload dX7_moon_92 rfl ?_
        refine r_iret dX7_moon_94 rfl ?_
        have ew : w = 1 := by omega
        subst ew
        rw [c2]
        exact PdM.of hM (hF.back hN.d0)
      · refine r_iload_n dX7_moon_88 rfl ?_
        refine r_goto (tgt := 94) dX7_moon_89 (by decide) ?_
        refine r_iret dX7_moon_94 rfl ?_
        have ew : w = 0 := by omega
        subst ew
        rw [c1]
        exact PdM.of hM (hF.back hN.d0)
    | succ q ih =>
      intro i fo mo I2 J2 hi hF hc
      have hF2 : FrD 0 I (up2 I2 106 0 (nI i)) := hF.u
      have hP2 := hM.p.d2 hF2 (by decide) (by show i ≤ 9; omega) (up2_at _ _ _ _)
      have hV2 := hF2.v hV
      have hw0 : -1000000 < moonF σ 0 := (hlo 0 (by decide)).2
      refine r_iload dX7_moon_29 rfl ?_
      refine r_bipush (v := 10) dX7_moon_31 (by decide) ?_
      refine r_nicmp_ge (b := 10)  (tgt := 77) dX7_moon_33 (by decide) rfl rfl (by omega) (by omega) (fun h33 => absurd h33 (by omega)) (fun h33 => ?_)
      refine r_aload_n dX7_moon_36 rfl ?_
      refine r_getR (b := 106) dX7_moon_37 f_X7_23 (hsh.al rfl (by decide)) (Or.inl ⟨_, rfl⟩) (hsh.r 102 7 106 (by decide)) (by decide) ?_
      refine r_iconst (v := 0) dX7_moon_40 (by decide) ?_
      refine r_iload dX7_moon_41 rfl ?_
      refine r_iast (j := 0) dX7_moon_43 (hsh.al rfl (by decide)) (by decide) (by decide) ?_
      refine r_aload_n dX7_moon_44 rfl ?_
      refine r_callV0N dX7_moon_45 moX7_goesPlain w_1069 w_1071 s_51 (hsh.al rfl (by decide)) cl7 rfl (Nat.le_of_ble_eq_true rfl) (Nat.le_of_ble_eq_true rfl) (S_mPlain hP2.mn hV2) (fun r n I3 J R hq => ?_)
      obtain ⟨rfl, rfl, rfl, hF3, hW3⟩ := hq
      by_cases ei : i = 0
      · have hfo : fo = -1 := by
          rcases hc with h | h
          · exact h.2.1
          · omega
        subst hfo
        refine r_iload_n dX7_moon_48 rfl ?_
        refine r_iconst (v := (-1)) dX7_moon_49 (by decide) ?_
        refine r_icmp_eq (tgt := 62) dX7_moon_50 (by decide) (fun _ => ?_) (fun hx => absurd rfl hx)
        refine r_iload dX7_moon_62 rfl ?_
        refine r_istore_n dX7_moon_64 (by decide) rfl ?_
        refine r_aload_n dX7_moon_65 rfl ?_
        refine r_getIE dX7_moon_66 f_X7_248 (hsh.al rfl (by decide)) (Or.inl rfl) hW3.2.2.1 ?_
        refine r_istore dX7_moon_69 (by decide) rfl ?_
        refine r_iincE (b := (i + 1)) dX7_moon_71 rfl rfl (nI_succ _).symm rfl ?_
        refine r_goto (tgt := 29) dX7_moon_74 (by decide) ?_
        exact ih (i + 1) _ _ _ _ (by omega) (hF2.m hF3) (hc.take hw0 (Or.inl ei))
      · have hi1 : 1 ≤ i := by omega
        obtain ⟨c1, c2⟩ := hc.end hi1
        obtain ⟨k, k1, k2, k3⟩ := ch_ne (f := (moonF σ)) hw0 i hi1 (by omega)
        have hck : inZ (chN (moonF σ) i).2 := by rw [k3]; exact (hlo k (by omega)).1
        have hfn : ¬ fo = -1 := by rw [c1, k2]; exact nI_ne_m1 (by omega)
        subst c2
        refine r_iload_n dX7_moon_48 rfl ?_
        refine r_iconst (v := (-1)) dX7_moon_49 (by decide) ?_
        refine r_icmp_eq (tgt := 62) dX7_moon_50 (by decide) (fun hx => absurd hx hfn) (fun _ => ?_)
        refine r_aload_n dX7_moon_53 rfl ?_
        refine r_getIE dX7_moon_54 f_X7_248 (hsh.al rfl (by decide)) (Or.inl rfl) hW3.2.2.1 ?_
        refine r_iload dX7_moon_57 rfl ?_
        refine r_zicmp_le  (tgt := 71) dX7_moon_59 (by decide) rfl rfl (hlo i (by omega)).1 hck (fun h59 => ?_) (fun h59 => ?_)
        · refine r_iincE (b := (i + 1)) dX7_moon_71 rfl rfl (nI_succ _).symm rfl ?_
          refine r_goto (tgt := 29) dX7_moon_74 (by decide) ?_
          exact ih (i + 1) _ _ _ _ (by omega) (hF2.m hF3) (hc.leave hi1 h59)
        · refine r_iload dX7_moon_62 rfl ?_
          refine r_istore_n dX7_moon_64 (by decide) rfl ?_
          refine r_aload_n dX7_moon_65 rfl ?_
          refine r_getIE dX7_moon_66 f_X7_248 (hsh.al rfl (by decide)) (Or.inl rfl) hW3.2.2.1 ?_
          refine r_istore dX7_moon_69 (by decide) rfl ?_
          refine r_iincE (b := (i + 1)) dX7_moon_71 rfl rfl (nI_succ _).symm rfl ?_
          refine r_goto (tgt := 29) dX7_moon_74 (by decide) ?_
          exact ih (i + 1) _ _ _ _ (by omega) (hF2.m hF3) (hc.take hw0 (Or.inr h59))
  refine r_iload_n dX7_moon_0 rfl ?_
  refine r_zi2l dX7_moon_1 rfl hw ?_
  refine r_lconst (v := 0) dX7_moon_2 (by decide) ?_
  refine r_lconst (v := 1) dX7_moon_3 (by decide) ?_
  refine r_callS3I dX7_moon_4 moX7_in w_930 w_931 (Nat.le_of_ble_eq_true rfl) (Nat.le_of_ble_eq_true rfl) (S_in3 (z := w) (lo := 0) (hi := 1) hw (by decide) (by decide) (by unfold inZ; omega) (by unfold inZ; omega)) ?_
  refine r_ifb_ne (tgt := 14) dX7_moon_7 (by decide) (fun h7 => ?_) (fun h7 => ?_)
  · rw [decide_eq_true_eq] at h7
    refine r_aload_n dX7_moon_14 rfl ?_
    refine r_getR (b := 106) dX7_moon_15 f_X7_23 (hsh.al rfl (by decide)) (Or.inl ⟨_, rfl⟩) (hsh.r 102 7 106 (by decide)) (by decide) ?_
    refine r_iconst (v := 0) dX7_moon_18 (by decide) ?_
    refine r_ialdE (j := 0) dX7_moon_19 (hsh.al rfl (by decide)) (by decide) (by decide) hN.d0 ?_
    refine r_istore_n dX7_moon_20 (by decide) rfl ?_
    refine r_iconst (v := (-1)) dX7_moon_21 (by decide) ?_
    refine r_istore_n dX7_moon_22 (by decide) rfl ?_
    refine r_iconst (v := 0) dX7_moon_23 (by decide) ?_
    refine r_istore dX7_moon_24 (by decide) rfl ?_
    refine r_iconst (v := 0) dX7_moon_26 (by decide) ?_
    refine r_istore dX7_moon_27 (by decide) rfl ?_
    exact loop (by omega) 10 0 _ _ I J rfl FrD.rf (Or.inl ⟨rfl, rfl, rfl⟩)
  · rw [decide_eq_false_iff_not] at h7
    refine r_ldcwI dX7_moon_10 w_1068 ?_
    refine r_iret dX7_moon_13 rfl ?_
    have e0 : moonV σ w = -100000 := if_neg (by omega)
    rw [e0]
    exact PdM.rf hM
set_option maxRecDepth 20000 in
set_option maxHeartbeats 4000000 in
theorem S_mLeave {g : GP} {d n : Nat} {I : TI} {J : TJ} {R : TR} {σ : CSt} (hM : MdS n I R σ) {w : Int} (hw : inZ w) : Wp g (d + 50) mX7_leave 0 [.ref 102, .int (zI w), .null, .null, .null] [] 0 0 n I J R (PdM n I R (.int (leaveV σ w)) σ) := by
  have hsh := hM.sh
  have hN := hM.p.mn
  have hV := hM.v
  have wf := hM.wf
  have hz := wf.2.2.1
  have hlo : ∀ s, inZ (nWorth (plainN (qdl σ) (qtr σ) (qtv σ (qrl σ)) (qsz σ) s)) ∧ -1000000 < nWorth (plainN (qdl σ) (qtr σ) (qtv σ (qrl σ)) (qsz σ) s) := fun s => by
    have h := plainN_ok wf hV.le (some := s)
    exact ⟨h.inW (by decide), by have := h.2.2.2.2.1; omega⟩
  have hln : ∀ i, inZ (leaveN σ i).2 := fun i => by
    induction i with
    | zero => show inZ (weighN (-1, -1000000) (-1) (nWorth (plC σ))).2; unfold weighN; split; · exact (hlo _).1
              · unfold inZ; omega
    | succ i ih => show inZ (weighN (leaveN σ i) (nI i) (leaveF σ i)).2; unfold weighN; split; · exact (hlo _).1
                   · exact ih
  have h0 : leaveN σ 0 = (-1, nWorth (plC σ)) := if_pos (hlo _).2
  have loop : 0 ≤ w ∧ w < 2 → ∀ q i I2 J2, i + q = qsz σ → FrMo I I2 → Wp g (d + 50) mX7_leave 28 [.ref 102, .int (zI w), .int (zI (leaveN σ i).2), .int (leaveN σ i).1, .int (nI i)] [] 0 0 n I2 J2 R (PdM n I R (.int (leaveV σ w)) σ) := by
    intro hw2 q
    induction q with
    | zero =>
      intro i I2 J2 hi hF
      have e : i = qsz σ := hi
      subst e
      have hN2 := hN.m hF
      have e0 : leaveV σ w = pickW (leaveN σ (qsz σ)) w.toNat := if_pos hw2
      rw [e0]
      refine r_iload dX7_leave_28 rfl ?_
      refine r_aload_n dX7_leave_30 rfl ?_
      refine r_getIE dX7_leave_31 f_X7_70 (hsh.al rfl (by decide)) (Or.inl rfl) hN2.many ?_
      refine r_nicmp_ge  (tgt := 76) dX7_leave_34 (by decide) rfl rfl (by omega) (by omega) (fun h34 => ?_) (fun h34 => absurd h34 (by omega))
      refine r_iload_n dX7_leave_76 rfl ?_
      refine r_zif_ne (tgt := 84) dX7_leave_77 (by decide) rfl hw (fun h77 => ?_) (fun h77 => ?_)
      · refine r_iload_n dX7_leave_84 rfl ?_
        refine r_iret dX7_leave_85 rfl ?_
        have ew : w = 1 := by omega
        subst ew
        exact PdM.of hM hF
      · refine r_iload_n dX7_leave_80 rfl ?_
        refine r_goto (tgt := 85) dX7_leave_81 (by decide) ?_
        refine r_iret dX7_leave_85 rfl ?_
        have ew : w = 0 := by omega
        subst ew
        exact PdM.of hM hF
    | succ q ih =>
      intro i I2 J2 hi hF
      have hN2 := hN.m hF
      have hV2 := hV.m hF
      have hp2 := p2_lt hz
      have hli := (hlo (2 ^ qsz σ - 1 - 2 ^ i)).1
      have hci := hln i
      refine r_iload dX7_leave_28 rfl ?_
      refine r_aload_n dX7_leave_30 rfl ?_
      refine r_getIE dX7_leave_31 f_X7_70 (hsh.al rfl (by decide)) (Or.inl rfl) hN2.many ?_
      refine r_nicmp_ge  (tgt := 76) dX7_leave_34 (by decide) rfl rfl (by omega) (by omega) (fun h34 => absurd h34 (by omega)) (fun h34 => ?_)
      refine r_aload_n dX7_leave_37 rfl ?_
      refine r_aload_n dX7_leave_38 rfl ?_
      refine r_callV0I dX7_leave_39 moX7_all w_1073 w_1075 s_52 (hsh.al rfl (by decide)) cl7 rfl (Nat.le_of_ble_eq_true rfl) (Nat.le_of_ble_eq_true rfl) (S_mAll hN2.sh hN2.many hz) ?_
      refine r_iconst (v := 1) dX7_leave_42 (by decide) ?_
      refine r_iload dX7_leave_43 rfl ?_
      refine r_ishl dX7_leave_45 ?_
      refine r_top (v := nI (2 ^ i)) (bit_sh i (by omega)) ?_
      refine r_iconst (v := (-1)) dX7_leave_46 (by decide) ?_
      refine r_ixor dX7_leave_47 ?_
      refine r_iand dX7_leave_48 ?_
      refine r_top (v := nI (2 ^ qsz σ - 1 - 2 ^ i)) (bit_off _ (by omega) _ (by omega)) ?_
      refine r_iconst (v := (-1)) dX7_leave_49 (by decide) ?_
      refine r_iconst (v := 0) dX7_leave_50 (by decide) ?_
      refine r_callV3N dX7_leave_51 moX7_goes w_1077 w_1079 s_53 (hsh.al rfl (by decide)) cl7 rfl (Nat.le_of_ble_eq_true rfl) (Nat.le_of_ble_eq_true rfl) (S_mGo hN2 hV2 (set := 2 ^ qsz σ - 1 - 2 ^ i) (Nat.lt_of_le_of_lt (Nat.sub_le _ _) hp2)) (fun r n I3 J R hq => ?_)
      obtain ⟨rfl, rfl, rfl, hF3, hW3⟩ := hq
      refine r_aload_n dX7_leave_54 rfl ?_
      refine r_getIE dX7_leave_55 f_X7_248 (hsh.al rfl (by decide)) (Or.inl rfl) hW3.2.2.1 ?_
      refine r_iload_n dX7_leave_58 rfl ?_
      refine r_zicmp_le  (tgt := 70) dX7_leave_59 (by decide) rfl rfl hli hci (fun h59 => ?_) (fun h59 => ?_)
      · refine r_iincE (b := (i + 1)) dX7_leave_70 rfl rfl (nI_succ _).symm rfl ?_
        refine r_goto (tgt := 28) dX7_leave_73 (by decide) ?_
        have e2 : leaveN σ (i + 1) = leaveN σ i := if_neg (by unfold leaveF; omega)
        have hg := ih (i + 1) I3 J (by omega) (hF.t hF3)
        rw [e2] at hg
        exact hg
      · refine r_iload dX7_leave_62 rfl ?_
        refine r_istore_n dX7_leave_64 (by decide) rfl ?_
        refine r_aload_n dX7_leave_65 rfl ?_
        refine r_getIE dX7_leave_66 f_X7_248 (hsh.al rfl (by decide)) (Or.inl rfl) hW3.2.2.1 ?_
        refine r_istore_n dX7_leave_69 (by decide) rfl ?_
        refine r_iincE (b := (i + 1)) dX7_leave_70 rfl rfl (nI_succ _).symm rfl ?_
        refine r_goto (tgt := 28) dX7_leave_73 (by decide) ?_
        have e2 : leaveN σ (i + 1) = (nI i, leaveF σ i) := if_pos (by unfold leaveF; omega)
        have hg := ih (i + 1) I3 J (by omega) (hF.t hF3)
        rw [e2] at hg
        exact hg
  refine r_iload_n dX7_leave_0 rfl ?_
  refine r_zi2l dX7_leave_1 rfl hw ?_
  refine r_lconst (v := 0) dX7_leave_2 (by decide) ?_
  refine r_lconst (v := 1) dX7_leave_3 (by decide) ?_
  refine r_callS3I dX7_leave_4 moX7_in w_930 w_931 (Nat.le_of_ble_eq_true rfl) (Nat.le_of_ble_eq_true rfl) (S_in3 (z := w) (lo := 0) (hi := 1) hw (by decide) (by decide) (by unfold inZ; omega) (by unfold inZ; omega)) ?_
  refine r_ifb_ne (tgt := 14) dX7_leave_7 (by decide) (fun h7 => ?_) (fun h7 => ?_)
  · rw [decide_eq_true_eq] at h7
    refine r_aload_n dX7_leave_14 rfl ?_
    refine r_callV0N dX7_leave_15 moX7_goesPlain w_1069 w_1071 s_51 (hsh.al rfl (by decide)) cl7 rfl (Nat.le_of_ble_eq_true rfl) (Nat.le_of_ble_eq_true rfl) (S_mPlain hN hV) (fun r n I2 J R hq => ?_)
    obtain ⟨rfl, rfl, rfl, hF2, hW2⟩ := hq
    refine r_aload_n dX7_leave_18 rfl ?_
    refine r_getIE dX7_leave_19 f_X7_248 (hsh.al rfl (by decide)) (Or.inl rfl) hW2.2.2.1 ?_
    refine r_istore_n dX7_leave_22 (by decide) rfl ?_
    refine r_iconst (v := (-1)) dX7_leave_23 (by decide) ?_
    refine r_istore_n dX7_leave_24 (by decide) rfl ?_
    refine r_iconst (v := 0) dX7_leave_25 (by decide) ?_
    refine r_istore dX7_leave_26 (by decide) rfl ?_
    have hg := loop (by omega) (qsz σ) 0 I2 J (Nat.zero_add _) hF2
    rw [h0] at hg
    exact hg
  · rw [decide_eq_false_iff_not] at h7
    refine r_ldcwI dX7_leave_10 w_1068 ?_
    refine r_iret dX7_leave_13 rfl ?_
    have e0 : leaveV σ w = -100000 := if_neg (by omega)
    rw [e0]
    exact PdM.rf hM
set_option maxRecDepth 20000 in
set_option maxHeartbeats 4000000 in
theorem S_mTwo {g : GP} {d n : Nat} {I : TI} {J : TJ} {R : TR} {σ : CSt} (hM : MdS n I R σ) {w : Int} (hw : inZ w) : Wp g (d + 50) mX7_two 0 [.ref 102, .int (zI w), .null, .null, .null, .null] [] 0 0 n I J R (PdM n I R (.int (twoV σ w)) σ) := by
  have hsh := hM.sh
  have hN := hM.p.mn
  have hV := hM.v
  have wf := hM.wf
  have hz := wf.2.2.1
  have hp1 := p2_pos (qsz σ)
  have hp2 := p2_le hz
  have hso : ∀ s, inZ (someF σ s) ∧ -200000 < someF σ s ∧ someF σ s < 10000 := fun s => by
    have h := plainN_ok wf hV.le (some := s)
    have h2 := h.2.2.2.2
    exact ⟨h.inW (by decide), by unfold someF; omega, by unfold someF; omega⟩
  have hlo : ∀ i, inZ (twoF σ i) ∧ -1000000 < twoF σ i := fun i => by
    have h1 := hso i
    have h2 := hso (2 ^ qsz σ - 1 - i)
    unfold twoF inZ
    omega
  have loop : 0 ≤ w ∧ w < 2 → ∀ q i fo mo I2 J2 x5, i + q = 2 ^ qsz σ → FrMo I I2 → ChM (twoF σ) i fo mo → Wp g (d + 50) mX7_two 21 [.ref 102, .int (zI w), .int fo, .int mo, .int (nI i), x5] [] 0 0 n I2 J2 R (PdM n I R (.int (twoV σ w)) σ) := by
    intro hw2 q
    induction q with
    | zero =>
      intro i fo mo I2 J2 x5 hi hF hc
      have e : i = 2 ^ qsz σ := hi
      obtain ⟨c1, c2⟩ := hc.end (by omega)
      subst e
      have hN2 := hN.m hF
      have e0 : twoV σ w = pickW (twoC σ) w.toNat := if_pos hw2
      rw [e0]
      refine r_iload dX7_two_21 rfl ?_
      refine r_aload_n dX7_two_23 rfl ?_
      refine r_callV0I dX7_two_24 moX7_all w_1073 w_1075 s_52 (hsh.al rfl (by decide)) cl7 rfl (Nat.le_of_ble_eq_true rfl) (Nat.le_of_ble_eq_true rfl) (S_mAll hN2.sh hN2.many hz) ?_
      refine r_nicmp_gt  (tgt := 92) dX7_two_27 (by decide) rfl rfl (by omega) (by omega) (fun h27 => ?_) (fun h27 => absurd h27 (by omega))
      refine r_iload_n dX7_two_92 rfl ?_
      refine r_zif_ne (tgt := 100) dX7_two_93 (by decide) rfl hw (fun h93 => ?_) (fun h93 => ?_)
      · refine r_iload_n dX7_two_100 rfl ?_
        refine r_iret dX7_two_101 rfl ?_
        have ew : w = 1 := by omega
        subst ew
        rw [c2]
        exact PdM.of hM hF
      · refine r_iload_n dX7_two_96 rfl ?_
        refine r_goto (tgt := 101) dX7_two_97 (by decide) ?_
        refine r_iret dX7_two_101 rfl ?_
        have ew : w = 0 := by omega
        subst ew
        rw [c1]
        exact PdM.of hM hF
    | succ q ih =>
      intro i fo mo I2 J2 x5 hi hF hc
      have hN2 := hN.m hF
      have hV2 := hV.m hF
      refine r_iload dX7_two_21 rfl ?_
      refine r_aload_n dX7_two_23 rfl ?_
      refine r_callV0I dX7_two_24 moX7_all w_1073 w_1075 s_52 (hsh.al rfl (by decide)) cl7 rfl (Nat.le_of_ble_eq_true rfl) (Nat.le_of_ble_eq_true rfl) (S_mAll hN2.sh hN2.many hz) ?_
      refine r_nicmp_gt  (tgt := 92) dX7_two_27 (by decide) rfl rfl (by omega) (by omega) (fun h27 => absurd h27 (by omega)) (fun h27 => ?_)
      refine r_aload_n dX7_two_30 rfl ?_
      refine r_iload dX7_two_31 rfl ?_
      refine r_iconst (v := (-1)) dX7_two_33 (by decide) ?_
      refine r_iconst (v := 0) dX7_two_34 (by decide) ?_
      refine r_callV3N dX7_two_35 moX7_goes w_1077 w_1079 s_53 (hsh.al rfl (by decide)) cl7 rfl (Nat.le_of_ble_eq_true rfl) (Nat.le_of_ble_eq_true rfl) (S_mGo hN2 hV2 (set := i) (by omega)) (fun r n I3 J R hq => ?_)
      obtain ⟨rfl, rfl, rfl, hF3, hW3⟩ := hq
      have hN3 := hN2.m hF3
      have hV3 := hV2.m hF3
      refine r_aload_n dX7_two_38 rfl ?_
      refine r_getIE dX7_two_39 f_X7_248 (hsh.al rfl (by decide)) (Or.inl rfl) hW3.2.2.1 ?_
      refine r_istore dX7_two_42 (by decide) rfl ?_
      refine r_aload_n dX7_two_44 rfl ?_
      refine r_aload_n dX7_two_45 rfl ?_
      refine r_callV0I dX7_two_46 moX7_all w_1073 w_1075 s_52 (hsh.al rfl (by decide)) cl7 rfl (Nat.le_of_ble_eq_true rfl) (Nat.le_of_ble_eq_true rfl) (S_mAll hN3.sh hN3.many hz) ?_
      refine r_iload dX7_two_49 rfl ?_
      refine r_iconst (v := (-1)) dX7_two_51 (by decide) ?_
      refine r_ixor dX7_two_52 ?_
      refine r_iand dX7_two_53 ?_
      refine r_top (v := nI (2 ^ qsz σ - 1 - i)) (bit_off2 _ (by omega) _ (by omega)) ?_
      refine r_iconst (v := (-1)) dX7_two_54 (by decide) ?_
      refine r_iconst (v := 0) dX7_two_55 (by decide) ?_
      refine r_callV3N dX7_two_56 moX7_goes w_1077 w_1079 s_53 (hsh.al rfl (by decide)) cl7 rfl (Nat.le_of_ble_eq_true rfl) (Nat.le_of_ble_eq_true rfl) (S_mGo hN3 hV3 (set := 2 ^ qsz σ - 1 - i) (by omega)) (fun r n I4 J R hq => ?_)
      obtain ⟨rfl, rfl, rfl, hF4, hW4⟩ := hq
      by_cases ei : i = 0
      · have hfo : fo = -1 := by
          rcases hc with h | h
          · exact h.2.1
          · omega
        subst hfo
        refine r_iload_n dX7_two_59 rfl ?_
        refine r_iconst (v := (-1)) dX7_two_60 (by decide) ?_
        refine r_icmp_eq (tgt := 75) dX7_two_61 (by decide) (fun _ => ?_) (fun hx => absurd rfl hx)
        refine r_iload dX7_two_75 rfl ?_
        refine r_istore_n dX7_two_77 (by decide) rfl ?_
        refine r_iload dX7_two_78 rfl ?_
        refine r_aload_n dX7_two_80 rfl ?_
        refine r_getIE dX7_two_81 f_X7_248 (hsh.al rfl (by decide)) (Or.inl rfl) hW4.2.2.1 ?_
        refine r_ziadd dX7_two_84 rfl rfl ?_
        refine r_istore_n dX7_two_85 (by decide) rfl ?_
        refine r_iincE (b := (i + 1)) dX7_two_86 rfl rfl (nI_succ _).symm rfl ?_
        refine r_goto (tgt := 21) dX7_two_89 (by decide) ?_
        exact ih (i + 1) _ _ _ _ _ (by omega) (hF.t (hF3.t hF4)) (hc.take (hlo 0).2 (Or.inl ei))
      · have hi1 : 1 ≤ i := by omega
        obtain ⟨c1, c2⟩ := hc.end hi1
        obtain ⟨k, k1, k2, k3⟩ := ch_ne (f := (twoF σ)) (hlo 0).2 i hi1 (by omega)
        have hck : inZ (chN (twoF σ) i).2 := by rw [k3]; exact (hlo k).1
        have hfn : ¬ fo = -1 := by rw [c1, k2]; exact nI_ne_m1 (by omega)
        subst c2
        refine r_iload_n dX7_two_59 rfl ?_
        refine r_iconst (v := (-1)) dX7_two_60 (by decide) ?_
        refine r_icmp_eq (tgt := 75) dX7_two_61 (by decide) (fun hx => absurd hx hfn) (fun _ => ?_)
        refine r_iload dX7_two_64 rfl ?_
        refine r_aload_n dX7_two_66 rfl ?_
        refine r_getIE dX7_two_67 f_X7_248 (hsh.al rfl (by decide)) (Or.inl rfl) hW4.2.2.1 ?_
        refine r_ziadd dX7_two_70 rfl rfl ?_
        refine r_iload_n dX7_two_71 rfl ?_
        refine r_zicmp_le  (tgt := 86) dX7_two_72 (by decide) rfl rfl (hlo i).1 hck (fun h72 => ?_) (fun h72 => ?_)
        · refine r_iincE (b := (i + 1)) dX7_two_86 rfl rfl (nI_succ _).symm rfl ?_
          refine r_goto (tgt := 21) dX7_two_89 (by decide) ?_
          exact ih (i + 1) _ _ _ _ _ (by omega) (hF.t (hF3.t hF4)) (hc.leave hi1 h72)
        · refine r_iload dX7_two_75 rfl ?_
          refine r_istore_n dX7_two_77 (by decide) rfl ?_
          refine r_iload dX7_two_78 rfl ?_
          refine r_aload_n dX7_two_80 rfl ?_
          refine r_getIE dX7_two_81 f_X7_248 (hsh.al rfl (by decide)) (Or.inl rfl) hW4.2.2.1 ?_
          refine r_ziadd dX7_two_84 rfl rfl ?_
          refine r_istore_n dX7_two_85 (by decide) rfl ?_
          refine r_iincE (b := (i + 1)) dX7_two_86 rfl rfl (nI_succ _).symm rfl ?_
          refine r_goto (tgt := 21) dX7_two_89 (by decide) ?_
          exact ih (i + 1) _ _ _ _ _ (by omega) (hF.t (hF3.t hF4)) (hc.take (hlo 0).2 (Or.inr h72))
  refine r_iload_n dX7_two_0 rfl ?_
  refine r_zi2l dX7_two_1 rfl hw ?_
  refine r_lconst (v := 0) dX7_two_2 (by decide) ?_
  refine r_lconst (v := 1) dX7_two_3 (by decide) ?_
  refine r_callS3I dX7_two_4 moX7_in w_930 w_931 (Nat.le_of_ble_eq_true rfl) (Nat.le_of_ble_eq_true rfl) (S_in3 (z := w) (lo := 0) (hi := 1) hw (by decide) (by decide) (by unfold inZ; omega) (by unfold inZ; omega)) ?_
  refine r_ifb_ne (tgt := 14) dX7_two_7 (by decide) (fun h7 => ?_) (fun h7 => ?_)
  · rw [decide_eq_true_eq] at h7
    refine r_iconst (v := (-1)) dX7_two_14 (by decide) ?_
    refine r_istore_n dX7_two_15 (by decide) rfl ?_
    refine r_iconst (v := 0) dX7_two_16 (by decide) ?_
    refine r_istore_n dX7_two_17 (by decide) rfl ?_
    refine r_iconst (v := 0) dX7_two_18 (by decide) ?_
    refine r_istore dX7_two_19 (by decide) rfl ?_
    exact loop (by omega) _ 0 _ _ I J _ (Nat.zero_add _) FrMo.rf (Or.inl ⟨rfl, rfl, rfl⟩)
  · rw [decide_eq_false_iff_not] at h7
    refine r_ldcwI dX7_two_10 w_1068 ?_
    refine r_iret dX7_two_13 rfl ?_
    have e0 : twoV σ w = -100000 := if_neg (by omega)
    rw [e0]
    exact PdM.rf hM
set_option maxRecDepth 20000 in
set_option maxHeartbeats 4000000 in
theorem S_mLate {g : GP} {d n : Nat} {I : TI} {J : TJ} {R : TR} {σ : CSt} (hM : MdS n I R σ) : Wp g (d + 50) mX7_late 0 [.ref 102, .null, .null, .null, .null] [] 0 0 n I J R (PdM n I R (.int (zI (lateV σ))) σ) := by
  have hsh := hM.sh
  have hN := hM.p.mn
  have hV := hM.v
  have wf := hM.wf
  have hz := wf.2.2.1
  have hb1 : nowN σ ≤ 7 := bcN_le _
  have hfo := plainN_ok wf hV.le (some := 2 ^ qsz σ - 1)
  have loop : ∀ q i I2 J2, i + q = 200 → FrD 6 I I2 → Wp g (d + 50) mX7_late 25 [.ref 102, .int (nI (nowN σ)), .int (nI (qdl σ 6)), .int (zI (lateN (lateF σ) (nowN σ) i)), .int (nI i)] [] 0 0 n I2 J2 R (PdM n I R (.int (zI (lateV σ))) σ) := by
    intro q
    induction q with
    | zero =>
      intro i I2 J2 hi hF
      have e : i = 200 := hi
      subst e
      refine r_iload dX7_late_25 rfl ?_
      refine r_sipush (v := 200) dX7_late_27 (by decide) ?_
      refine r_nicmp_ge (b := 200)  (tgt := 70) dX7_late_30 (by decide) rfl rfl (by omega) (by omega) (fun h30 => ?_) (fun h30 => absurd h30 (by omega))
      refine r_aload_n dX7_late_70 rfl ?_
      refine r_getR (b := 106) dX7_late_71 f_X7_23 (hsh.al rfl (by decide)) (Or.inl ⟨_, rfl⟩) (hsh.r 102 7 106 (by decide)) (by decide) ?_
      refine r_bipush (v := 6) dX7_late_74 (by decide) ?_
      refine r_iload_n dX7_late_76 rfl ?_
      refine r_iast (j := 6) dX7_late_77 (hsh.al rfl (by decide)) (by decide) (by decide) ?_
      refine r_iload_n dX7_late_78 rfl ?_
      refine r_iret dX7_late_79 rfl ?_
      exact PdM.of hM (hF.back hN.d6)
    | succ q ih =>
      intro i I2 J2 hi hF
      have hF2 : FrD 6 I (up2 I2 106 6 (nI i)) := hF.u
      have hP2 := hM.p.d2 hF2 (by decide) (by show i ≤ 199; omega) (up2_at _ _ _ _)
      have hV2 := hF2.v hV
      have hfo2 := plainN_ok hP2.2.1 hV.le (some := 2 ^ qsz σ - 1)
      have hb2 : lateF σ i ≤ 7 := bcN_le _
      refine r_iload dX7_late_25 rfl ?_
      refine r_sipush (v := 200) dX7_late_27 (by decide) ?_
      refine r_nicmp_ge (b := 200)  (tgt := 70) dX7_late_30 (by decide) rfl rfl (by omega) (by omega) (fun h30 => absurd h30 (by omega)) (fun h30 => ?_)
      refine r_aload_n dX7_late_33 rfl ?_
      refine r_getR (b := 106) dX7_late_34 f_X7_23 (hsh.al rfl (by decide)) (Or.inl ⟨_, rfl⟩) (hsh.r 102 7 106 (by decide)) (by decide) ?_
      refine r_bipush (v := 6) dX7_late_37 (by decide) ?_
      refine r_iload dX7_late_39 rfl ?_
      refine r_iast (j := 6) dX7_late_41 (hsh.al rfl (by decide)) (by decide) (by decide) ?_
      refine r_aload_n dX7_late_42 rfl ?_
      refine r_callV0N dX7_late_43 moX7_goesPlain w_1069 w_1071 s_51 (hsh.al rfl (by decide)) cl7 rfl (Nat.le_of_ble_eq_true rfl) (Nat.le_of_ble_eq_true rfl) (S_mPlain hP2.mn hV2) (fun r n I3 J R hq => ?_)
      obtain ⟨rfl, rfl, rfl, hF3, hW3⟩ := hq
      refine r_aload_n dX7_late_46 rfl ?_
      refine r_getIE dX7_late_47 f_X7_251 (hsh.al rfl (by decide)) (Or.inl rfl) hW3.2.2.2.1 ?_
      refine r_callS1I dX7_late_50 moX7_bitsOf w_1111 w_1112 (Nat.le_of_ble_eq_true rfl) (Nat.le_of_ble_eq_true rfl) (S_mBits hfo2.2.2.1) ?_
      refine r_top (v := nI (lateF σ i)) rfl ?_
      refine r_iload_n dX7_late_53 rfl ?_
      refine r_nicmp_lt  (tgt := 62) dX7_late_54 (by decide) rfl rfl (by omega) (by omega) (fun h54 => ?_) (fun h54 => ?_)
      · refine r_iload_n dX7_late_62 rfl ?_
        refine r_istore_n dX7_late_63 (by decide) rfl ?_
        refine r_iincE (b := (i + 1)) dX7_late_64 rfl rfl (nI_succ _).symm rfl ?_
        refine r_goto (tgt := 25) dX7_late_67 (by decide) ?_
        have e2 : lateN (lateF σ) (nowN σ) (i + 1) = lateN (lateF σ) (nowN σ) i := if_neg (by omega)
        have hg := ih (i + 1) I3 J (by omega) (hF2.m hF3)
        rw [e2] at hg
        exact hg
      · refine r_iload dX7_late_57 rfl ?_
        refine r_goto (tgt := 63) dX7_late_59 (by decide) ?_
        refine r_istore_n dX7_late_63 (by decide) rfl ?_
        refine r_iincE (b := (i + 1)) dX7_late_64 rfl rfl (nI_succ _).symm rfl ?_
        refine r_goto (tgt := 25) dX7_late_67 (by decide) ?_
        have e2 : lateN (lateF σ) (nowN σ) (i + 1) = ((i : Nat) : Int) := if_pos (by omega)
        have hg := ih (i + 1) I3 J (by omega) (hF2.m hF3)
        rw [e2] at hg
        exact hg
  refine r_aload_n dX7_late_0 rfl ?_
  refine r_callV0N dX7_late_1 moX7_goesPlain w_1069 w_1071 s_51 (hsh.al rfl (by decide)) cl7 rfl (Nat.le_of_ble_eq_true rfl) (Nat.le_of_ble_eq_true rfl) (S_mPlain hN hV) (fun r n I2 J R hq => ?_)
  obtain ⟨rfl, rfl, rfl, hF2, hW2⟩ := hq
  have hN2 := hN.m hF2
  refine r_aload_n dX7_late_4 rfl ?_
  refine r_getIE dX7_late_5 f_X7_251 (hsh.al rfl (by decide)) (Or.inl rfl) hW2.2.2.2.1 ?_
  refine r_callS1I dX7_late_8 moX7_bitsOf w_1111 w_1112 (Nat.le_of_ble_eq_true rfl) (Nat.le_of_ble_eq_true rfl) (S_mBits hfo.2.2.1) ?_
  refine r_top (v := nI (nowN σ)) rfl ?_
  refine r_istore_n dX7_late_11 (by decide) rfl ?_
  refine r_aload_n dX7_late_12 rfl ?_
  refine r_getR (b := 106) dX7_late_13 f_X7_23 (hsh.al rfl (by decide)) (Or.inl ⟨_, rfl⟩) (hsh.r 102 7 106 (by decide)) (by decide) ?_
  refine r_bipush (v := 6) dX7_late_16 (by decide) ?_
  refine r_ialdE (j := 6) dX7_late_18 (hsh.al rfl (by decide)) (by decide) (by decide) hN2.d6 ?_
  refine r_istore_n dX7_late_19 (by decide) rfl ?_
  refine r_iconst (v := (-1)) dX7_late_20 (by decide) ?_
  refine r_istore_n dX7_late_21 (by decide) rfl ?_
  refine r_iconst (v := 0) dX7_late_22 (by decide) ?_
  refine r_istore dX7_late_23 (by decide) rfl ?_
  exact loop 200 0 I2 J rfl (FrD.rf.m hF2)
theorem MdP.clr {n : Nat} {I : TI} {R : TR} {dl : Nat → Nat} {tr : Nat → Nat → Nat} {sz rl : Nat} (h : MdP n I R dl tr sz rl) : MdN n (up2 I 102 11 1) R (clearD dl) tr sz rl := by
  obtain ⟨p1, p2, p3, p4, p5, p6, p7, p8⟩ := h
  refine ⟨p1, (p2.upDl (w := 1) (v := 9) (by decide)).upDl (w := 2) (v := 0) (by decide), ⟨true, dl, up2_at _ _ _ _, fun j hj => by rw [up2_a _ _ _ (by decide)]; exact p4 j hj, p2.1, rfl, rfl, rfl, rfl, fun k t => ?_⟩, fun k hk => by rw [up2_a _ _ _ (by decide)]; exact p5 k hk, fun i k hi hk => by rw [up2_a _ _ _ (by decide)]; exact p6 i k hi hk, by rw [up2_k _ _ (by decide)]; exact p7, by rw [up2_k _ _ (by decide)]; exact p8⟩
  show clN (clearD dl) tr k t = false
  rw [← Bool.not_eq_true, clN_iff]
  intro h
  have h1 : 9 ≤ tr 1 k % 10 := h.1
  have h2 : tr 1 k % 10 ≤ 0 := h.2.1
  omega
set_option maxRecDepth 20000 in
set_option maxHeartbeats 4000000 in
theorem S_mClear {g : GP} {d n : Nat} {I : TI} {J : TJ} {R : TR} {σ : CSt} (hM : MdS n I R σ) : Wp g (d + 50) mX7_worthClear 0 [.ref 102] [] 0 0 n I J R (PostM n R (some (.int (zI (clearN σ)))) (fun I2 _ => FrMo I I2)) := by
  have hsh := hM.sh
  have hN := hM.p.mn
  have hV := hM.v
  have wf := hM.wf
  have hz := wf.2.2.1
  have hC := hM.p.clr
  have hV2 : TxV (up2 I 102 11 1) (qrl σ) (qtv σ (qrl σ)) := hV.o (up2_a _ _ _ (by decide)) (up2_a _ _ _ (by decide))
  refine r_aload_n dX7_worthClear_0 rfl ?_
  refine r_iconst (v := 1) dX7_worthClear_1 (by decide) ?_
  refine r_putZ dX7_worthClear_2 f_X7_105 (hsh.al rfl (by decide)) (Or.inl rfl) rfl (Or.inr rfl) ?_
  refine r_aload_n dX7_worthClear_5 rfl ?_
  refine r_callV0N dX7_worthClear_6 moX7_goesPlain w_1069 w_1071 s_51 (hsh.al rfl (by decide)) cl7 rfl (Nat.le_of_ble_eq_true rfl) (Nat.le_of_ble_eq_true rfl) (S_mPlain hC hV2) (fun r n I2 J R hq => ?_)
  obtain ⟨rfl, rfl, rfl, hF2, hW2⟩ := hq
  refine r_aload_n dX7_worthClear_9 rfl ?_
  refine r_iconst (v := 0) dX7_worthClear_10 (by decide) ?_
  refine r_putZ dX7_worthClear_11 f_X7_105 (hsh.al rfl (by decide)) (Or.inl rfl) rfl (Or.inl rfl) ?_
  refine r_aload_n dX7_worthClear_14 rfl ?_
  refine r_getIE dX7_worthClear_15 f_X7_248 (hsh.al rfl (by decide)) (Or.inl rfl) ((up2_k _ _ (by decide)).trans hW2.2.2.1) ?_
  refine r_iret dX7_worthClear_18 rfl ?_
  refine ⟨rfl, rfl, rfl, ⟨fun a a1 a2 a3 => by rw [up2_a _ _ _ a1, hF2.1 a a1 a2 a3, up2_a _ _ _ a1], fun k hk => ?_⟩⟩
  by_cases e : k = 11
  · rw [e, up2_at]; exact hM.p.2.2.1.symm
  · rw [up2_k _ _ e, hF2.2 k hk, up2_k _ _ e]
set_option maxRecDepth 20000 in
set_option maxHeartbeats 4000000 in
theorem S_mCloud {g : GP} {d n : Nat} {I : TI} {J : TJ} {R : TR} {σ : CSt} (hM : MdS n I R σ) : Wp g (d + 51) mX7_cloud 0 [.ref 102, .null] [] 0 0 n I J R (PdM n I R (.int (zI (cloudN σ))) σ) := by
  have hsh := hM.sh
  have hN := hM.p.mn
  have hV := hM.v
  have wf := hM.wf
  have hz := wf.2.2.1
  refine r_aload_n dX7_cloud_0 rfl ?_
  refine r_callV0N dX7_cloud_1 moX7_worthClear w_1162 w_1164 s_62 (hsh.al rfl (by decide)) cl7 rfl (Nat.le_of_ble_eq_true rfl) (Nat.le_of_ble_eq_true rfl) (S_mClear hM) (fun r n I2 J R hq => ?_)
  obtain ⟨rfl, rfl, rfl, hF2⟩ := hq
  refine r_some rfl ?_
  refine r_istore_n dX7_cloud_4 (by decide) rfl ?_
  refine r_aload_n dX7_cloud_5 rfl ?_
  refine r_callV0N dX7_cloud_6 moX7_goesPlain w_1069 w_1071 s_51 (hsh.al rfl (by decide)) cl7 rfl (Nat.le_of_ble_eq_true rfl) (Nat.le_of_ble_eq_true rfl) (S_mPlain (hN.m hF2) (hV.m hF2)) (fun r n I3 J R hq => ?_)
  obtain ⟨rfl, rfl, rfl, hF3, hW3⟩ := hq
  refine r_iload_n dX7_cloud_9 rfl ?_
  refine r_aload_n dX7_cloud_10 rfl ?_
  refine r_getIE dX7_cloud_11 f_X7_248 (hsh.al rfl (by decide)) (Or.inl rfl) hW3.2.2.1 ?_
  refine r_zisub dX7_cloud_14 rfl rfl ?_
  refine r_iret dX7_cloud_15 rfl ?_
  exact PdM.of hM (hF2.t hF3)
