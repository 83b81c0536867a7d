/-! the model: its tape, its image, its sheets -/
section XMv
variable {n : Nat} {I I2 : TI} {R : TR} {σ : CSt}
theorem MdS.tapeU (h : MdS n I R σ) {tn : Nat} {tb : Nat → Nat} (hF : ∀ a, 103 ≤ a → a < 118 → a ≠ 105 → I2 a = I a) (h102 : ∀ k, k ≠ 6 → I2 102 k = I 102 k) (h1 : I2 102 6 = nI tn) (h2 : tn ≤ 160) (h3 : ∀ j, j < tn → I2 105 j = nI (tb j) ∧ tb j < 256) : MdS n I2 R (wTape σ tn tb) := by
  obtain ⟨⟨p1, p2, p3, p4, p5, p6, p7, p8⟩, g2, g3, g4, g5, _, ⟨k1, k2⟩, g8⟩ := h
  have e (a : Nat) (a1 : 103 ≤ a) (a2 : a < 118) (a3 : a ≠ 105) := hF a a1 a2 a3
  refine ⟨⟨p1, p2, ?_, ?_, ?_, ?_, ?_, ?_⟩, g2, g3, ?_, ?_, ⟨h1, h2, h3⟩, ⟨?_, ?_⟩, ?_⟩
  · rw [h102 11 (by decide)]; exact p3
  · rw [e 106 (by decide) (by decide) (by decide)]; exact p4
  · rw [e 107 (by decide) (by decide) (by decide)]; exact p5
  · rw [e 108 (by decide) (by decide) (by decide)]; exact p6
  · rw [h102 10 (by decide)]; exact p7
  · rw [h102 4 (by decide)]; exact p8
  · rw [h102 3 (by decide)]; exact g4
  · intro i hi
    rw [e 104 (by decide) (by decide) (by decide), e 103 (by decide) (by decide) (by decide)]
    exact g5 i hi
  · rw [h102 39 (by decide)]; exact k1
  · rw [e 112 (by decide) (by decide) (by decide), e 113 (by decide) (by decide) (by decide), h102 40 (by decide)]; exact k2
  · intro s hs4
    rw [e 114 (by decide) (by decide) (by decide), e 115 (by decide) (by decide) (by decide), e 116 (by decide) (by decide) (by decide), e 117 (by decide) (by decide) (by decide)]
    exact g8 s hs4
theorem MdS.imgU (h : MdS n I R σ) (hF : ∀ a, 103 ≤ a → a < 118 → a ≠ 112 → a ≠ 113 → I2 a = I a) (h102 : ∀ k, k ≠ 39 → k ≠ 40 → I2 102 k = I 102 k) (h39 : I2 102 39 = nI (qsz σ)) (h40 : I2 102 40 = nI (qrl σ)) (h112 : ∀ j, j < 8 → I2 112 j = I 106 j) (h113 : ∀ j, j < 35 → I2 113 j = I 108 j) : MdS n I2 R (wImg σ) := by
  obtain ⟨⟨p1, p2, p3, p4, p5, p6, p7, p8⟩, g2, g3, g4, g5, ⟨t1, t2, t3⟩, _, g8⟩ := h
  have hz := p2.2.2.1
  have e (a : Nat) (a1 : 103 ≤ a) (a2 : a < 118) (a3 : a ≠ 112) (a4 : a ≠ 113) := hF a a1 a2 a3 a4
  refine ⟨⟨p1, p2, ?_, ?_, ?_, ?_, ?_, ?_⟩, g2, g3, ?_, ?_, ⟨?_, t2, ?_⟩, ⟨?_, fun _ => ⟨fun j hj => ?_, fun i k hi hk => ?_, h40, Nat.le_refl _, fun k hk => rfl, p2, g2⟩⟩, ?_⟩
  · rw [h102 11 (by decide) (by decide)]; exact p3
  · rw [e 106 (by decide) (by decide) (by decide) (by decide)]; exact p4
  · rw [e 107 (by decide) (by decide) (by decide) (by decide)]; exact p5
  · rw [e 108 (by decide) (by decide) (by decide) (by decide)]; exact p6
  · rw [h102 10 (by decide) (by decide)]; exact p7
  · rw [h102 4 (by decide) (by decide)]; exact p8
  · rw [h102 3 (by decide) (by decide)]; exact g4
  · intro i hi
    rw [e 104 (by decide) (by decide) (by decide) (by decide), e 103 (by decide) (by decide) (by decide) (by decide)]
    exact g5 i hi
  · rw [h102 6 (by decide) (by decide)]; exact t1
  · rw [e 105 (by decide) (by decide) (by decide) (by decide)]; exact t3
  · rw [h39]; rfl
  · rw [h112 j hj]; exact p4 j hj
  · have hk2 : k < qsz σ := hk
    rw [h113 _ (by omega)]; exact p6 i k hi hk2
  · intro s hs4
    rw [e 114 (by decide) (by decide) (by decide) (by decide), e 115 (by decide) (by decide) (by decide) (by decide), e 116 (by decide) (by decide) (by decide) (by decide), e 117 (by decide) (by decide) (by decide) (by decide)]
    exact g8 s hs4
theorem MdS.shU (h : MdS n I R σ) {s z : Nat} {so : Int} {it : Nat → Int32} (hs : s < 4) (hso : -1 ≤ so ∧ so ≤ 2 ∧ z ≤ 40) (hF : ∀ a, 103 ≤ a → a < 118 → a ≠ 114 → a ≠ 115 → a ≠ 116 → a ≠ 117 → I2 a = I a) (h102 : I2 102 = I 102) (h114 : I2 114 s = b2i (decide (so ≠ -1))) (hth : so ≠ -1 → I2 115 s = zI so ∧ I2 116 s = nI z ∧ ∀ j, j < z → I2 117 (40 * s + j) = it j)
    (ho : ∀ q, q ≠ s → q < 4 → I2 114 q = I 114 q ∧ I2 115 q = I 115 q ∧ I2 116 q = I 116 q ∧ ∀ j, j < 40 → I2 117 (40 * q + j) = I 117 (40 * q + j)) : MdS n I2 R (wSh σ s so z it) := by
  obtain ⟨⟨p1, p2, p3, p4, p5, p6, p7, p8⟩, g2, g3, g4, g5, ⟨t1, t2, t3⟩, ⟨k1, k2⟩, g8⟩ := h
  have e (a : Nat) (a1 : 103 ≤ a) (a2 : a < 118) (a3 : a ≠ 114) (a4 : a ≠ 115) (a5 : a ≠ 116) (a6 : a ≠ 117) := hF a a1 a2 a3 a4 a5 a6
  refine ⟨⟨p1, p2, ?_, ?_, ?_, ?_, ?_, ?_⟩, g2, g3, ?_, ?_, ⟨?_, t2, ?_⟩, ⟨?_, ?_⟩, ?_⟩
  · rw [h102]; exact p3
  · rw [e 106 (by decide) (by decide) (by decide) (by decide) (by decide) (by decide)]; exact p4
  · rw [e 107 (by decide) (by decide) (by decide) (by decide) (by decide) (by decide)]; exact p5
  · rw [e 108 (by decide) (by decide) (by decide) (by decide) (by decide) (by decide)]; exact p6
  · rw [h102]; exact p7
  · rw [h102]; exact p8
  · rw [h102]; exact g4
  · intro i hi
    rw [e 104 (by decide) (by decide) (by decide) (by decide) (by decide) (by decide), e 103 (by decide) (by decide) (by decide) (by decide) (by decide) (by decide)]
    exact g5 i hi
  · rw [h102]; exact t1
  · rw [e 105 (by decide) (by decide) (by decide) (by decide) (by decide) (by decide)]; exact t3
  · rw [h102]; exact k1
  · rw [e 112 (by decide) (by decide) (by decide) (by decide) (by decide) (by decide), e 113 (by decide) (by decide) (by decide) (by decide) (by decide) (by decide), h102]; exact k2
  · intro q hq4
    by_cases eq : q = s
    · subst eq
      show I2 114 q = b2i (decide ((if q = q then so else _) ≠ -1)) ∧ (-1 ≤ (if q = q then so else _) ∧ (if q = q then so else _) ≤ 2 ∧ (if q = q then z else _) ≤ 40) ∧ ((if q = q then so else _) ≠ -1 → I2 115 q = zI (if q = q then so else _) ∧ I2 116 q = nI (if q = q then z else _) ∧ ∀ j, j < (if q = q then z else _) → I2 117 (40 * q + j) = (if q = q then it else _) j)
      simp only [if_true]
      exact ⟨h114, hso, hth⟩
    · obtain ⟨b1, b2, b3, b4⟩ := ho q eq hq4
      obtain ⟨c1, c2, c3⟩ := g8 q hq4
      show I2 114 q = b2i (decide ((if q = s then so else qso σ q) ≠ -1)) ∧ (-1 ≤ (if q = s then so else qso σ q) ∧ (if q = s then so else qso σ q) ≤ 2 ∧ (if q = s then z else qzs σ q) ≤ 40) ∧ ((if q = s then so else qso σ q) ≠ -1 → I2 115 q = zI (if q = s then so else qso σ q) ∧ I2 116 q = nI (if q = s then z else qzs σ q) ∧ ∀ j, j < (if q = s then z else qzs σ q) → I2 117 (40 * q + j) = (if q = s then it else qit σ q) j)
      rw [if_neg eq, if_neg eq, if_neg eq, b1, b2, b3]
      exact ⟨c1, c2, fun hne => ⟨(c3 hne).1, (c3 hne).2.1, fun j hj => by rw [b4 j (by omega)]; exact (c3 hne).2.2 j hj⟩⟩
end XMv
set_option maxRecDepth 20000 in
set_option maxHeartbeats 4000000 in
theorem S_mFeed {g : GP} {d n : Nat} {I : TI} {J : TJ} {R : TR} {σ : CSt} (hM : MdS n I R σ) {b : Int} (hb : inZ b) : Wp g (d + 1) mX7_feed 0 [.ref 102, .int (zI b)] [] 0 0 n I J R (PdM n I R (.int (zI (feedV σ b))) (feedS σ b)) := by
  have hsh := hM.sh
  have hN := hM.p.mn
  have wf := hM.wf
  have hz := wf.2.2.1
  obtain ⟨t1, t2, t3⟩ := hM.tp
  refine r_iload_n dX7_feed_0 rfl ?_
  refine r_zi2l dX7_feed_1 rfl hb ?_
  refine r_lconst (v := 0) dX7_feed_2 (by decide) ?_
  refine r_ldc2 dX7_feed_3 w_978 ?_
  refine r_callS3I dX7_feed_6 moX7_in w_930 w_931 (Nat.le_of_ble_eq_true rfl) (Nat.le_of_ble_eq_true rfl) (S_in3 (z := b) (lo := 0) (hi := 255) hb (by decide) (by decide) (by unfold inZ; omega) (by unfold inZ; omega)) ?_
  refine r_ifb_ne (tgt := 15) dX7_feed_9 (by decide) (fun h9 => ?_) (fun h9 => ?_)
  · rw [decide_eq_true_eq] at h9
    refine r_aload_n dX7_feed_15 rfl ?_
    refine r_getIE dX7_feed_16 f_X7_120 (hsh.al rfl (by decide)) (Or.inl rfl) t1 ?_
    refine r_sipush (v := 160) dX7_feed_19 (by decide) ?_
    refine r_nicmp_ne (b := 160)  (tgt := 28) dX7_feed_22 (by decide) rfl rfl (by omega) (by omega) (fun h22 => ?_) (fun h22 => ?_)
    · obtain ⟨b0, eb0⟩ := Int.eq_ofNat_of_zero_le (show 0 ≤ b by omega)
      subst eb0
      rw [← nz b0]
      refine r_aload_n dX7_feed_28 rfl ?_
      refine r_getR (b := 105) dX7_feed_29 f_X7_20 (hsh.al rfl (by decide)) (Or.inl ⟨_, rfl⟩) (hsh.r 102 5 105 (by decide)) (by decide) ?_
      refine r_aload_n dX7_feed_32 rfl ?_
      refine r_getIE dX7_feed_33 f_X7_120 (hsh.al rfl (by decide)) (Or.inl rfl) t1 ?_
      refine r_iload_n dX7_feed_36 rfl ?_
      refine r_iast (j := (qtn σ)) dX7_feed_37 (hsh.al rfl (by decide)) (by omega) rfl ?_
      refine r_aload_n dX7_feed_38 rfl ?_
      refine r_dup dX7_feed_39 rfl ?_
      refine r_getIE dX7_feed_40 f_X7_120 (hsh.al rfl (by decide)) (Or.inl rfl) ((congrFun (up2_a _ _ _ (by decide)) 6).trans t1) ?_
      refine r_iconst (v := 1) dX7_feed_43 (by decide) ?_
      refine r_niadd (b := 1) dX7_feed_44 rfl rfl ?_
      refine r_putI dX7_feed_45 f_X7_120 (hsh.al rfl (by decide)) (Or.inl rfl) rfl ?_
      refine r_aload_n dX7_feed_48 rfl ?_
      refine r_getIE dX7_feed_49 f_X7_120 (hsh.al rfl (by decide)) (Or.inl rfl) (up2_at _ _ _ _) ?_
      refine r_iret dX7_feed_52 rfl ?_
      have e0 : feedV σ b0 = ((qtn σ + 1 : Nat) : Int) := by unfold feedV; rw [if_pos (by omega), if_neg h22]
      have e4 : feedS σ b0 = wTape σ (qtn σ + 1) (up1 (qtb σ) (qtn σ) b0) := if_pos ⟨by omega, h22⟩
      rw [e0, e4, ← nz]
      refine PdM.to (hM.tapeU (fun a _ _ a3 => by rw [up2_a _ _ _ (by omega), up2_a _ _ _ a3]) (fun k hk => by rw [up2_k _ _ hk, up2_a _ _ _ (by decide)]) (up2_at _ _ _ _) (by omega) fun j hj => ?_) fun a ha => by rw [up2_a _ _ _ (by omega), up2_a _ _ _ (by omega)]
      rw [up2_a _ _ _ (by decide)]
      unfold up1
      by_cases e : j = qtn σ
      · rw [if_pos e, e, up2_at]; exact ⟨rfl, by omega⟩
      · rw [if_neg e, up2_k _ _ e]; exact t3 j (by omega)
    · refine r_bipush (v := (-4)) dX7_feed_25 (by decide) ?_
      refine r_iret dX7_feed_27 rfl ?_
      have e0 : feedV σ b = -4 := by unfold feedV; rw [if_pos (by omega), if_pos h22]
      have e4 : feedS σ b = σ := if_neg (fun h => h.2 h22)
      rw [e0, e4]
      exact PdM.rf hM
  · rw [decide_eq_false_iff_not] at h9
    refine r_bipush (v := (-2)) dX7_feed_12 (by decide) ?_
    refine r_iret dX7_feed_14 rfl ?_
    have e0 : feedV σ b = -2 := if_neg (by omega)
    have e4 : feedS σ b = σ := if_neg (fun h => by omega)
    rw [e0, e4]
    exact PdM.rf hM
set_option maxRecDepth 20000 in
set_option maxHeartbeats 4000000 in
theorem S_mForce {g : GP} {d n : Nat} {I : TI} {J : TJ} {R : TR} {σ : CSt} (hM : MdS n I R σ) {t : Int} (ht : inZ t) : Wp g (d + 1) mX7_force 0 [.ref 102, .int (zI t), .null] [] 0 0 n I J R (PdM n I R (.int (zI (forcV σ t))) (forcS σ t)) := by
  have hsh := hM.sh
  have hN := hM.p.mn
  have wf := hM.wf
  have hz := wf.2.2.1
  have h6 := hM.tc6
  refine r_iload_n dX7_force_0 rfl ?_
  refine r_zi2l dX7_force_1 rfl ht ?_
  refine r_lconst (v := 0) dX7_force_2 (by decide) ?_
  refine r_aload_n dX7_force_3 rfl ?_
  refine r_getIE dX7_force_4 f_X7_67 (hsh.al rfl (by decide)) (Or.inl rfl) hM.tcI ?_
  refine r_iconst (v := 1) dX7_force_7 (by decide) ?_
  refine r_zisub (b := 1) dX7_force_8 (nz _) (by decide) ?_
  refine r_zi2l dX7_force_9 rfl (by unfold inZ; omega) ?_
  refine r_callS3I dX7_force_10 moX7_in w_930 w_931 (Nat.le_of_ble_eq_true rfl) (Nat.le_of_ble_eq_true rfl) (S_in3 (z := t) (lo := 0) (hi := ((qtc σ : Nat) : Int) - 1) ht (by decide) rfl (by unfold inZ; omega) (by unfold inZ; omega)) ?_
  refine r_ifb_ne (tgt := 19) dX7_force_13 (by decide) (fun h13 => ?_) (fun h13 => ?_)
  · rw [decide_eq_true_eq] at h13
    obtain ⟨t0, et0⟩ := Int.eq_ofNat_of_zero_le (show 0 ≤ t by omega)
    subst et0
    rw [← nz t0]
    refine r_aload_n dX7_force_19 rfl ?_
    refine r_getIE dX7_force_20 f_X7_235 (hsh.al rfl (by decide)) (Or.inl rfl) hN.rule ?_
    refine r_istore_n dX7_force_23 (by decide) rfl ?_
    refine r_aload_n dX7_force_24 rfl ?_
    refine r_iload_n dX7_force_25 rfl ?_
    refine r_putI dX7_force_26 f_X7_235 (hsh.al rfl (by decide)) (Or.inl rfl) rfl ?_
    refine r_iload_n dX7_force_29 rfl ?_
    refine r_iret dX7_force_30 rfl ?_
    have e0 : forcV σ t0 = (qrl σ : Nat) := if_pos (by omega)
    have e4 : forcS σ t0 = wSky σ (qdl σ) (qtr σ) (qsz σ) t0 := if_pos (by omega)
    rw [e0, e4, ← nz]
    exact PdM.to (hM.sky (hM.p.rlU (by omega)) (by omega) (fun a a1 _ _ _ _ _ _ _ => up2_a _ _ _ (by omega)) (fun k hk => up2_k _ _ (by omega)) hM.keep) fun a ha => up2_a _ _ _ (by omega)
  · rw [decide_eq_false_iff_not] at h13
    refine r_bipush (v := (-2)) dX7_force_16 (by decide) ?_
    refine r_iret dX7_force_18 rfl ?_
    have e0 : forcV σ t = -2 := if_neg (by omega)
    have e4 : forcS σ t = σ := if_neg (by omega)
    rw [e0, e4]
    exact PdM.rf hM
set_option maxRecDepth 20000 in
set_option maxHeartbeats 4000000 in
theorem S_mCount {g : GP} {d n : Nat} {I : TI} {J : TJ} {R : TR} {σ : CSt} (hM : MdS n I R σ) {w : Int} (hw : inZ w) : Wp g (d + 1) mX7_count 0 [.ref 102, .int (zI w)] [] 0 0 n I J R (PdM n I R (.int (zI (counV σ w))) σ) := by
  have hsh := hM.sh
  have hN := hM.p.mn
  have wf := hM.wf
  have hz := wf.2.2.1
  refine r_iload_n dX7_count_0 rfl ?_
  refine r_zif_ne (tgt := 11) dX7_count_1 (by decide) rfl hw (fun h1 => ?_) (fun h1 => ?_)
  · refine r_iload_n dX7_count_11 rfl ?_
    refine r_iconst (v := 1) dX7_count_12 (by decide) ?_
    refine r_zicmp_ne (b := 1)  (tgt := 23) dX7_count_13 (by decide) rfl (by decide) hw (by unfold inZ; omega) (fun h13 => ?_) (fun h13 => ?_)
    · refine r_iload_n dX7_count_23 rfl ?_
      refine r_iconst (v := 2) dX7_count_24 (by decide) ?_
      refine r_zicmp_ne (b := 2)  (tgt := 35) dX7_count_25 (by decide) rfl (by decide) hw (by unfold inZ; omega) (fun h25 => ?_) (fun h25 => ?_)
      · refine r_iload_n dX7_count_35 rfl ?_
        refine r_iconst (v := 3) dX7_count_36 (by decide) ?_
        refine r_zicmp_ne (b := 3)  (tgt := 47) dX7_count_37 (by decide) rfl (by decide) hw (by unfold inZ; omega) (fun h37 => ?_) (fun h37 => ?_)
        · refine r_bipush (v := (-2)) dX7_count_47 (by decide) ?_
          refine r_iret dX7_count_49 rfl ?_
          have e0 : counV σ w = -2 := by unfold counV; rw [if_neg h1, if_neg h13, if_neg h25, if_neg h37]
          rw [e0]
          exact PdM.rf hM
        · refine r_aload_n dX7_count_40 rfl ?_
          refine r_getIE dX7_count_41 f_X7_235 (hsh.al rfl (by decide)) (Or.inl rfl) hN.rule ?_
          refine r_goto (tgt := 49) dX7_count_44 (by decide) ?_
          refine r_iret dX7_count_49 rfl ?_
          have e0 : counV σ w = (qrl σ : Nat) := by unfold counV; rw [if_neg h1, if_neg h13, if_neg h25, if_pos h37]
          rw [e0]
          exact PdM.rf hM
      · refine r_aload_n dX7_count_28 rfl ?_
        refine r_getIE dX7_count_29 f_X7_120 (hsh.al rfl (by decide)) (Or.inl rfl) hM.tp.1 ?_
        refine r_goto (tgt := 49) dX7_count_32 (by decide) ?_
        refine r_iret dX7_count_49 rfl ?_
        have e0 : counV σ w = (qtn σ : Nat) := by unfold counV; rw [if_neg h1, if_neg h13, if_pos h25]
        rw [e0]
        exact PdM.rf hM
    · refine r_aload_n dX7_count_16 rfl ?_
      refine r_getIE dX7_count_17 f_X7_67 (hsh.al rfl (by decide)) (Or.inl rfl) hM.tcI ?_
      refine r_goto (tgt := 49) dX7_count_20 (by decide) ?_
      refine r_iret dX7_count_49 rfl ?_
      have e0 : counV σ w = (qtc σ : Nat) := by unfold counV; rw [if_neg h1, if_pos h13]
      rw [e0]
      exact PdM.rf hM
  · refine r_aload_n dX7_count_4 rfl ?_
    refine r_getIE dX7_count_5 f_X7_70 (hsh.al rfl (by decide)) (Or.inl rfl) hN.many ?_
    refine r_goto (tgt := 49) dX7_count_8 (by decide) ?_
    refine r_iret dX7_count_49 rfl ?_
    have e0 : counV σ w = (qsz σ : Nat) := by unfold counV; rw [if_pos h1]
    rw [e0]
    exact PdM.rf hM
set_option maxRecDepth 20000 in
set_option maxHeartbeats 4000000 in
theorem S_mOver {g : GP} {d n : Nat} {I : TI} {J : TJ} {R : TR} {k : Nat} (hk : k < 6) : Wp g d mX7_over 0 [.int (nI k)] [] 0 0 n I J R (RetI (zI (kAb k)) n I J R) := by
  have e : k = 0 ∨ k = 1 ∨ k = 2 ∨ k = 3 ∨ k = 4 ∨ k = 5 := by omega
  refine r_iload_n dX7_over_0 rfl ?_
  refine r_zif_ne (tgt := 8) dX7_over_1 (by decide) (nz _) (by unfold inZ; omega) (fun h1 => ?_) (fun h1 => ?_)
  · refine r_iload_n dX7_over_8 rfl ?_
    refine r_iconst (v := 3) dX7_over_9 (by decide) ?_
    refine r_nicmp_ne (b := 3)  (tgt := 17) dX7_over_10 (by decide) rfl rfl (by omega) (by omega) (fun h10 => ?_) (fun h10 => ?_)
    · refine r_iload_n dX7_over_17 rfl ?_
      refine r_iconst (v := 4) dX7_over_18 (by decide) ?_
      refine r_nicmp_ne (b := 4)  (tgt := 26) dX7_over_19 (by decide) rfl rfl (by omega) (by omega) (fun h19 => ?_) (fun h19 => ?_)
      · refine r_iconst (v := 0) dX7_over_26 (by decide) ?_
        refine r_iret dX7_over_27 rfl ?_
        refine retI ?_
        rcases e with rfl | rfl | rfl | rfl | rfl | rfl <;> first | decide | omega
      · refine r_iconst (v := 2) dX7_over_22 (by decide) ?_
        refine r_goto (tgt := 27) dX7_over_23 (by decide) ?_
        refine r_iret dX7_over_27 rfl ?_
        refine retI ?_
        rcases e with rfl | rfl | rfl | rfl | rfl | rfl <;> first | decide | omega
    · refine r_iconst (v := 1) dX7_over_13 (by decide) ?_
      refine r_goto (tgt := 27) dX7_over_14 (by decide) ?_
      refine r_iret dX7_over_27 rfl ?_
      refine retI ?_
      rcases e with rfl | rfl | rfl | rfl | rfl | rfl <;> first | decide | omega
  · refine r_iconst (v := (-1)) dX7_over_4 (by decide) ?_
    refine r_goto (tgt := 27) dX7_over_5 (by decide) ?_
    refine r_iret dX7_over_27 rfl ?_
    refine retI ?_
    rcases e with rfl | rfl | rfl | rfl | rfl | rfl <;> first | decide | omega
def chK (x : Int) (k : Nat) : Bool := if x = -1 then false else isKN x.toNat k
theorem chK_s : ∀ x, x < 6 → ∀ k, k < 6 → isKN x k = (decide (x = k) || chK (kAb x) k) := by decide
def dpK (x : Int) : Nat := if x = -1 then 0 else [1, 2, 2, 3, 3, 2].getD x.toNat 0
theorem dpK_s : ∀ x, x < 6 → -1 ≤ kAb x ∧ kAb x ≤ 5 ∧ dpK (kAb x) + 1 = dpK (x : Nat) := by decide
set_option maxRecDepth 20000 in
set_option maxHeartbeats 4000000 in
theorem S_mTaken {g : GP} {d n : Nat} {I : TI} {J : TJ} {R : TR} {σ : CSt} (hM : MdS n I R σ) {a k : Int} (ha : inZ a) (hk : inZ k) : Wp g (d + 2) mX7_taken 0 [.ref 102, .int (zI a), .int (zI k), .null] [] 0 0 n I J R (PdM n I R (.int (zI (takeV σ a k))) σ) := by
  have hsh := hM.sh
  have hN := hM.p.mn
  have wf := hM.wf
  have hz := wf.2.2.1
  have loop : ∀ a0 k0, a0 < qsz σ → k0 < 6 → ∀ q (x : Int), -1 ≤ x → x ≤ 5 → dpK x ≤ q → chK x k0 = isKN (qtr σ 5 a0) k0 → Wp g (d + 2) mX7_taken 33 [.ref 102, .int (nI a0), .int (nI k0), .int (zI x)] [] 0 0 n I J R (PdM n I R (.int (zI (if isKN (qtr σ 5 a0) k0 = true then (qtr σ 0 a0 : Nat) else -13))) σ) := by
    intro a0 k0 ha0 hk0 q
    induction q with
    | zero =>
      intro x h1 h2 hd he
      have ex : x = -1 := by
        by_cases e : x = -1
        · exact e
        · exfalso
          obtain ⟨y, rfl⟩ := Int.eq_ofNat_of_zero_le (show 0 ≤ x by omega)
          have := (dpK_s y (by omega)).2.2
          omega
      subst ex
      have hf : isKN (qtr σ 5 a0) k0 = false := by rw [← he]; rfl
      rw [if_neg (by rw [hf]; decide)]
      refine r_iload_n dX7_taken_33 rfl ?_
      refine r_iconst (v := (-1)) dX7_taken_34 (by decide) ?_
      refine r_zicmp_eq (b := (-1))  (tgt := 51) dX7_taken_35 (by decide) rfl (by decide) (by unfold inZ; omega) (by unfold inZ; omega) (fun h35 => ?_) (fun h35 => absurd h35 (by omega))
      refine r_iload_n dX7_taken_51 rfl ?_
      refine r_iload_n dX7_taken_52 rfl ?_
      refine r_zicmp_ne  (tgt := 65) dX7_taken_53 (by decide) rfl (nz _) (by unfold inZ; omega) (by unfold inZ; omega) (fun h53 => ?_) (fun h53 => absurd h53 (by omega))
      refine r_bipush (v := (-13)) dX7_taken_65 (by decide) ?_
      refine r_iret dX7_taken_67 rfl ?_
      exact PdM.rf hM
    | succ q ih =>
      intro x h1 h2 hd he
      by_cases ex : x = -1
      · subst ex
        have hf : isKN (qtr σ 5 a0) k0 = false := by rw [← he]; rfl
        rw [if_neg (by rw [hf]; decide)]
        refine r_iload_n dX7_taken_33 rfl ?_
        refine r_iconst (v := (-1)) dX7_taken_34 (by decide) ?_
        refine r_zicmp_eq (b := (-1))  (tgt := 51) dX7_taken_35 (by decide) rfl (by decide) (by unfold inZ; omega) (by unfold inZ; omega) (fun h35 => ?_) (fun h35 => absurd h35 (by omega))
        refine r_iload_n dX7_taken_51 rfl ?_
        refine r_iload_n dX7_taken_52 rfl ?_
        refine r_zicmp_ne  (tgt := 65) dX7_taken_53 (by decide) rfl (nz _) (by unfold inZ; omega) (by unfold inZ; omega) (fun h53 => ?_) (fun h53 => absurd h53 (by omega))
        refine r_bipush (v := (-13)) dX7_taken_65 (by decide) ?_
        refine r_iret dX7_taken_67 rfl ?_
        exact PdM.rf hM
      · obtain ⟨y, rfl⟩ := Int.eq_ofNat_of_zero_le (show 0 ≤ x by omega)
        have hs := dpK_s y (by omega)
        have hc := chK_s y (by omega) k0 hk0
        have he2 : isKN y k0 = isKN (qtr σ 5 a0) k0 := by rw [← he]; rfl
        refine r_iload_n dX7_taken_33 rfl ?_
        refine r_iconst (v := (-1)) dX7_taken_34 (by decide) ?_
        refine r_zicmp_eq (b := (-1))  (tgt := 51) dX7_taken_35 (by decide) (nz _) (by decide) (by unfold inZ; omega) (by unfold inZ; omega) (fun h35 => absurd h35 (by omega)) (fun h35 => ?_)
        refine r_iload_n dX7_taken_38 rfl ?_
        refine r_iload_n dX7_taken_39 rfl ?_
        refine r_nicmp_eq  (tgt := 51) dX7_taken_40 (by decide) rfl rfl (by omega) (by omega) (fun h40 => ?_) (fun h40 => ?_)
        · refine r_iload_n dX7_taken_51 rfl ?_
          refine r_iload_n dX7_taken_52 rfl ?_
          refine r_nicmp_ne  (tgt := 65) dX7_taken_53 (by decide) rfl rfl (by omega) (by omega) (fun h53 => absurd h53 (by omega)) (fun h53 => ?_)
          refine r_aload_n dX7_taken_56 rfl ?_
          refine r_iload_n dX7_taken_57 rfl ?_
          refine r_iconst (v := 0) dX7_taken_58 (by decide) ?_
          refine r_callV2I dX7_taken_59 moX7_row w_940 w_942 s_30 (hsh.al rfl (by decide)) cl7 rfl (Nat.le_of_ble_eq_true rfl) (Nat.le_of_ble_eq_true rfl) (S_mRow hN (k := a0) (i := 0) ha0 (by decide)) ?_
          refine r_goto (tgt := 67) dX7_taken_62 (by decide) ?_
          refine r_iret dX7_taken_67 rfl ?_
          have ht : isKN (qtr σ 5 a0) k0 = true := by rw [← he2, hc, decide_eq_true (by omega)]; rfl
          rw [if_pos ht]
          exact PdM.rf hM
        · refine r_iload_n dX7_taken_43 rfl ?_
          refine r_callS1I dX7_taken_44 moX7_over w_1242 w_1243 (Nat.le_of_ble_eq_true rfl) (Nat.le_of_ble_eq_true rfl) (S_mOver (k := y) (by omega)) ?_
          refine r_istore_n dX7_taken_47 (by decide) rfl ?_
          refine r_goto (tgt := 33) dX7_taken_48 (by decide) ?_
          exact ih (kAb y) hs.1 hs.2.1 (by omega) (by rw [← he2, hc, decide_eq_false (by omega), Bool.false_or])
  refine r_iload_n dX7_taken_0 rfl ?_
  refine r_zi2l dX7_taken_1 rfl hk ?_
  refine r_lconst (v := 0) dX7_taken_2 (by decide) ?_
  refine r_ldc2 dX7_taken_3 w_957 ?_
  refine r_callS3I dX7_taken_6 moX7_in w_930 w_931 (Nat.le_of_ble_eq_true rfl) (Nat.le_of_ble_eq_true rfl) (S_in3 (z := k) (lo := 0) (hi := 5) hk (by decide) (by decide) (by unfold inZ; omega) (by unfold inZ; omega)) ?_
  refine r_ifb_ne (tgt := 15) dX7_taken_9 (by decide) (fun h9 => ?_) (fun h9 => ?_)
  · rw [decide_eq_true_eq] at h9
    refine r_aload_n dX7_taken_15 rfl ?_
    refine r_iload_n dX7_taken_16 rfl ?_
    refine r_callV1I dX7_taken_17 moX7_isSight w_933 w_935 s_29 (hsh.al rfl (by decide)) cl7 rfl (Nat.le_of_ble_eq_true rfl) (Nat.le_of_ble_eq_true rfl) (S_mIsSight hsh hN.many hz (a := a) ha) ?_
    refine r_ifb_ne (tgt := 26) dX7_taken_20 (by decide) (fun h20 => ?_) (fun h20 => ?_)
    · rw [decide_eq_true_eq] at h20
      obtain ⟨a0, ea0⟩ := Int.eq_ofNat_of_zero_le (show 0 ≤ a by omega)
      subst ea0
      rw [← nz a0]
      obtain ⟨k0, ek0⟩ := Int.eq_ofNat_of_zero_le (show 0 ≤ k by omega)
      subst ek0
      rw [← nz k0]
      have hk5 := wf.t5 (k := a0) (by omega)
      refine r_aload_n dX7_taken_26 rfl ?_
      refine r_getR (b := 107) dX7_taken_27 f_X7_26 (hsh.al rfl (by decide)) (Or.inl ⟨_, rfl⟩) (hsh.r 102 8 107 (by decide)) (by decide) ?_
      refine r_iload_n dX7_taken_30 rfl ?_
      refine r_ialdE (j := a0) dX7_taken_31 (hsh.al rfl (by decide)) (by omega) rfl (hN.kd (k := a0) (by omega)) ?_
      refine r_istore_n dX7_taken_32 (by decide) rfl ?_
      have e0 : takeV σ a0 k0 = (if isKN (qtr σ 5 a0) k0 = true then ((qtr σ 0 a0 : Nat) : Int) else -13) := by unfold takeV; rw [if_pos (by omega), if_pos (by omega)]; rfl
      rw [e0]
      exact loop a0 k0 (by omega) (by omega) _ ((qtr σ 5 a0 : Nat) : Int) (by omega) (by omega) (Nat.le_refl _) (by unfold chK; rw [if_neg (by omega)]; rfl)
    · rw [decide_eq_false_iff_not] at h20
      refine r_bipush (v := (-11)) dX7_taken_23 (by decide) ?_
      refine r_iret dX7_taken_25 rfl ?_
      have e0 : takeV σ a k = -11 := by unfold takeV; rw [if_pos (by omega), if_neg (by omega)]
      rw [e0]
      exact PdM.rf hM
  · rw [decide_eq_false_iff_not] at h9
    refine r_bipush (v := (-2)) dX7_taken_12 (by decide) ?_
    refine r_iret dX7_taken_14 rfl ?_
    have e0 : takeV σ a k = -2 := if_neg (by omega)
    rw [e0]
    exact PdM.rf hM
set_option maxRecDepth 20000 in
set_option maxHeartbeats 4000000 in
theorem S_mImage {g : GP} {d n : Nat} {I : TI} {J : TJ} {R : TR} {σ : CSt} (hM : MdS n I R σ) : Wp g (d + 1) mX7_image 0 [.ref 102, .null] [] 0 0 n I J R (PdM n I R (.int (zI (qsz σ : Nat))) (wImg σ)) := by
  have hsh := hM.sh
  have hN := hM.p.mn
  have wf := hM.wf
  have hz := wf.2.2.1
  have fin : ∀ q i I2, i + q = 35 → (∀ a, a ≠ 112 → a ≠ 113 → I2 a = I a) → (∀ j, j < 8 → I2 112 j = I 106 j) → (∀ j, j < i → I2 113 j = I 108 j) → Wp g (d + 1) mX7_image 28 [.ref 102, .int (nI i)] [] 0 0 n I2 J R (PdM n I R (.int (zI (qsz σ : Nat))) (wImg σ)) := by
    intro q
    induction q with
    | zero =>
      intro i I2 hi hF h12 h13
      have e2 : I2 102 = I 102 := hF 102 (by decide) (by decide)
      refine r_iload_n dX7_image_28 rfl ?_
      refine r_bipush (v := 35) dX7_image_29 (by decide) ?_
      refine r_nicmp_ge (b := 35)  (tgt := 52) dX7_image_31 (by decide) rfl rfl (by omega) (by omega) (fun h31 => ?_) (fun h31 => absurd h31 (by omega))
      refine r_aload_n dX7_image_52 rfl ?_
      refine r_aload_n dX7_image_53 rfl ?_
      refine r_getIE dX7_image_54 f_X7_70 (hsh.al rfl (by decide)) (Or.inl rfl) (show I2 102 10 = nI (qsz σ) by rw [e2]; exact hN.many) ?_
      refine r_putI dX7_image_57 f_X7_47 (hsh.al rfl (by decide)) (Or.inl rfl) rfl ?_
      refine r_aload_n dX7_image_60 rfl ?_
      refine r_aload_n dX7_image_61 rfl ?_
      refine r_getIE dX7_image_62 f_X7_235 (hsh.al rfl (by decide)) (Or.inl rfl) (show up2 I2 102 39 (nI (qsz σ)) 102 4 = nI (qrl σ) by rw [up2_k _ _ (by decide), e2]; exact hN.rule) ?_
      refine r_putI dX7_image_65 f_X7_343 (hsh.al rfl (by decide)) (Or.inl rfl) rfl ?_
      refine r_aload_n dX7_image_68 rfl ?_
      refine r_getIE dX7_image_69 f_X7_70 (hsh.al rfl (by decide)) (Or.inl rfl) (show up2 (up2 I2 102 39 (nI (qsz σ))) 102 40 (nI (qrl σ)) 102 10 = nI (qsz σ) by rw [up2_k _ _ (by decide), up2_k _ _ (by decide), e2]; exact hN.many) ?_
      refine r_iret dX7_image_72 rfl ?_
      refine PdM.to (hM.imgU (fun a a1 a2 a3 a4 => by rw [up2_a _ _ _ (by omega), up2_a _ _ _ (by omega)]; exact hF a a3 a4) (fun k k1 k2 => by rw [up2_k _ _ k2, up2_k _ _ k1, e2]) ?_ (up2_at _ _ _ _) (fun j hj => by rw [up2_a _ _ _ (by decide), up2_a _ _ _ (by decide)]; exact h12 j hj) (fun j hj => by rw [up2_a _ _ _ (by decide), up2_a _ _ _ (by decide)]; exact h13 j (by omega))) fun a ha => by rw [up2_a _ _ _ (by omega), up2_a _ _ _ (by omega)]; exact hF a (by omega) (by omega)
      rw [up2_k _ _ (by decide), up2_at]
    | succ q ih =>
      intro i I2 hi hF h12 h13
      refine r_iload_n dX7_image_28 rfl ?_
      refine r_bipush (v := 35) dX7_image_29 (by decide) ?_
      refine r_nicmp_ge (b := 35)  (tgt := 52) dX7_image_31 (by decide) rfl rfl (by omega) (by omega) (fun h31 => absurd h31 (by omega)) (fun h31 => ?_)
      refine r_aload_n dX7_image_34 rfl ?_
      refine r_getR (b := 113) dX7_image_35 f_X7_44 (hsh.al rfl (by decide)) (Or.inl ⟨_, rfl⟩) (hsh.r 102 38 113 (by decide)) (by decide) ?_
      refine r_iload_n dX7_image_38 rfl ?_
      refine r_aload_n dX7_image_39 rfl ?_
      refine r_getR (b := 108) dX7_image_40 f_X7_29 (hsh.al rfl (by decide)) (Or.inl ⟨_, rfl⟩) (hsh.r 102 9 108 (by decide)) (by decide) ?_
      refine r_iload_n dX7_image_43 rfl ?_
      refine r_ialdE (j := i) dX7_image_44 (hsh.al rfl (by decide)) (by omega) rfl (show I2 108 i = I 108 i by rw [hF 108 (by decide) (by decide)]) ?_
      refine r_iast (j := i) dX7_image_45 (hsh.al rfl (by decide)) (by omega) rfl ?_
      refine r_iincE (b := (i + 1)) dX7_image_46 rfl rfl (nI_succ _).symm rfl ?_
      refine r_goto (tgt := 28) dX7_image_49 (by decide) ?_
      refine ih (i + 1) _ (by omega) (fun a a1 a2 => by rw [up2_a _ _ _ a2]; exact hF a a1 a2) (fun j hj => by rw [up2_a _ _ _ (by decide)]; exact h12 j hj) fun j hj => ?_
      by_cases e : j = i
      · rw [e, up2_at]
      · rw [up2_k _ _ e]; exact h13 j (by omega)
  have loop : ∀ q i I2, i + q = 8 → (∀ a, a ≠ 112 → I2 a = I a) → (∀ j, j < i → I2 112 j = I 106 j) → Wp g (d + 1) mX7_image 2 [.ref 102, .int (nI i)] [] 0 0 n I2 J R (PdM n I R (.int (zI (qsz σ : Nat))) (wImg σ)) := by
    intro q
    induction q with
    | zero =>
      intro i I2 hi hF h12
      refine r_iload_n dX7_image_2 rfl ?_
      refine r_bipush (v := 8) dX7_image_3 (by decide) ?_
      refine r_nicmp_ge (b := 8)  (tgt := 26) dX7_image_5 (by decide) rfl rfl (by omega) (by omega) (fun h5 => ?_) (fun h5 => absurd h5 (by omega))
      refine r_iconst (v := 0) dX7_image_26 (by decide) ?_
      refine r_istore_n dX7_image_27 (by decide) rfl ?_
      exact fin 35 0 I2 rfl (fun a a1 _ => hF a a1) (fun j hj => h12 j (by omega)) fun j hj => absurd hj (Nat.not_lt_zero _)
    | succ q ih =>
      intro i I2 hi hF h12
      refine r_iload_n dX7_image_2 rfl ?_
      refine r_bipush (v := 8) dX7_image_3 (by decide) ?_
      refine r_nicmp_ge (b := 8)  (tgt := 26) dX7_image_5 (by decide) rfl rfl (by omega) (by omega) (fun h5 => absurd h5 (by omega)) (fun h5 => ?_)
      refine r_aload_n dX7_image_8 rfl ?_
      refine r_getR (b := 112) dX7_image_9 f_X7_41 (hsh.al rfl (by decide)) (Or.inl ⟨_, rfl⟩) (hsh.r 102 37 112 (by decide)) (by decide) ?_
      refine r_iload_n dX7_image_12 rfl ?_
      refine r_aload_n dX7_image_13 rfl ?_
      refine r_getR (b := 106) dX7_image_14 f_X7_23 (hsh.al rfl (by decide)) (Or.inl ⟨_, rfl⟩) (hsh.r 102 7 106 (by decide)) (by decide) ?_
      refine r_iload_n dX7_image_17 rfl ?_
      refine r_ialdE (j := i) dX7_image_18 (hsh.al rfl (by decide)) (by omega) rfl (show I2 106 i = I 106 i by rw [hF 106 (by decide)]) ?_
      refine r_iast (j := i) dX7_image_19 (hsh.al rfl (by decide)) (by omega) rfl ?_
      refine r_iincE (b := (i + 1)) dX7_image_20 rfl rfl (nI_succ _).symm rfl ?_
      refine r_goto (tgt := 2) dX7_image_23 (by decide) ?_
      refine ih (i + 1) _ (by omega) (fun a a1 => by rw [up2_a _ _ _ a1]; exact hF a a1) fun j hj => ?_
      by_cases e : j = i
      · rw [e, up2_at]
      · rw [up2_k _ _ e]; exact h12 j (by omega)
  refine r_iconst (v := 0) dX7_image_0 (by decide) ?_
  refine r_istore_n dX7_image_1 (by decide) rfl ?_
  exact loop 8 0 I rfl (fun _ _ => rfl) fun j hj => absurd hj (Nat.not_lt_zero _)
set_option maxRecDepth 20000 in
set_option maxHeartbeats 4000000 in
theorem S_mBack {g : GP} {d n : Nat} {I : TI} {J : TJ} {R : TR} {σ : CSt} (hM : MdS n I R σ) : Wp g (d + 1) mX7_back 0 [.ref 102, .null] [] 0 0 n I J R (PdM n I R (.int (zI (backV σ))) (backS σ)) := by
  have hsh := hM.sh
  have hN := hM.p.mn
  have wf := hM.wf
  have hz := wf.2.2.1
  cases hb : qhas σ
  · have h39 : I 102 39 = zI (-1) := by rw [hM.kp.1, hb]; rfl
    have e0 : backV σ = -3 := by unfold backV; rw [hb, if_neg (by decide)]
    have e4 : backS σ = σ := by unfold backS; rw [hb, if_neg (by decide)]
    rw [e0, e4]
    refine r_aload_n dX7_back_0 rfl ?_
    refine r_getIE dX7_back_1 f_X7_47 (hsh.al rfl (by decide)) (Or.inl rfl) h39 ?_
    refine r_iconst (v := (-1)) dX7_back_4 (by decide) ?_
    refine r_zicmp_ne (b := (-1))  (tgt := 11) dX7_back_5 (by decide) rfl (by decide) (by unfold inZ; omega) (by unfold inZ; omega) (fun h5 => absurd h5 (by omega)) (fun h5 => ?_)
    refine r_bipush (v := (-3)) dX7_back_8 (by decide) ?_
    refine r_iret dX7_back_10 rfl ?_
    exact PdM.rf hM
  · have h39 : I 102 39 = nI (qkz σ) := by rw [hM.kp.1, hb]; rfl
    obtain ⟨g1, g2, g3, g4, g5, g6, g7⟩ := hM.kp.2 hb
    have gz := g6.2.2.1
    have e0 : backV σ = (qkz σ : Nat) := if_pos hb
    have e4 : backS σ = wSky σ (qkd σ) (qkt σ) (qkz σ) (qkr σ) := if_pos hb
    rw [e0, e4]
    have fin : ∀ q i I2, i + q = 35 → (∀ a, a ≠ 106 → a ≠ 108 → I2 a = I a) → (∀ j, j < 8 → I2 106 j = I 112 j) → (∀ j, j < i → I2 108 j = I 113 j) → Wp g (d + 1) mX7_back 39 [.ref 102, .int (nI i)] [] 0 0 n I2 J R (PdM n I R (.int (zI (qkz σ : Nat))) (wSky σ (qkd σ) (qkt σ) (qkz σ) (qkr σ))) := by
      intro q
      induction q with
      | zero =>
        intro i I2 hi hF h12 h13
        have e2 : I2 102 = I 102 := hF 102 (by decide) (by decide)
        refine r_iload_n dX7_back_39 rfl ?_
        refine r_bipush (v := 35) dX7_back_40 (by decide) ?_
        refine r_nicmp_ge (b := 35)  (tgt := 63) dX7_back_42 (by decide) rfl rfl (by omega) (by omega) (fun h42 => ?_) (fun h42 => absurd h42 (by omega))
        refine r_aload_n dX7_back_63 rfl ?_
        refine r_aload_n dX7_back_64 rfl ?_
        refine r_getIE dX7_back_65 f_X7_47 (hsh.al rfl (by decide)) (Or.inl rfl) (show I2 102 39 = nI (qkz σ) by rw [e2]; exact h39) ?_
        refine r_putI dX7_back_68 f_X7_70 (hsh.al rfl (by decide)) (Or.inl rfl) rfl ?_
        refine r_aload_n dX7_back_71 rfl ?_
        refine r_aload_n dX7_back_72 rfl ?_
        refine r_getIE dX7_back_73 f_X7_343 (hsh.al rfl (by decide)) (Or.inl rfl) (show up2 I2 102 10 (nI (qkz σ)) 102 40 = nI (qkr σ) by rw [up2_k _ _ (by decide), e2]; exact g3) ?_
        refine r_putI dX7_back_76 f_X7_235 (hsh.al rfl (by decide)) (Or.inl rfl) rfl ?_
        refine r_aload_n dX7_back_79 rfl ?_
        refine r_getIE dX7_back_80 f_X7_70 (hsh.al rfl (by decide)) (Or.inl rfl) (show up2 (up2 I2 102 10 (nI (qkz σ))) 102 4 (nI (qkr σ)) 102 10 = nI (qkz σ) by rw [up2_k _ _ (by decide), up2_at]) ?_
        refine r_iret dX7_back_83 rfl ?_
        obtain ⟨p1, p2, p3, p4, p5, p6, p7, p8⟩ := hM.p
        refine PdM.to (hM.sky ⟨p1, g6, ?_, fun j hj => ?_, fun k hk => ?_, fun i k hi2 hk => ?_, ?_, up2_at _ _ _ _⟩ g7 (fun a a1 a2 a3 a4 a5 a6 a7 a8 => by rw [up2_a _ _ _ (by omega), up2_a _ _ _ (by omega)]; exact hF a a3 a5) (fun k hk => by rw [up2_k _ _ (by omega), up2_k _ _ (by omega), e2]) (fun _ => ⟨Nat.le_refl _, fun k hk => rfl⟩)) fun a ha => by rw [up2_a _ _ _ (by omega), up2_a _ _ _ (by omega)]; exact hF a (by omega) (by omega)
        · rw [up2_k _ _ (by decide), up2_k _ _ (by decide), e2]; exact p3
        · rw [up2_a _ _ _ (by decide), up2_a _ _ _ (by decide), h12 j hj]; exact g1 j hj
        · rw [up2_a _ _ _ (by decide), up2_a _ _ _ (by decide), hF 107 (by decide) (by decide), g5 k hk]; exact p5 k (by omega)
        · rw [up2_a _ _ _ (by decide), up2_a _ _ _ (by decide), h13 _ (by omega)]; exact g2 i k hi2 hk
        · rw [up2_k _ _ (by decide), up2_at]
      | succ q ih =>
        intro i I2 hi hF h12 h13
        refine r_iload_n dX7_back_39 rfl ?_
        refine r_bipush (v := 35) dX7_back_40 (by decide) ?_
        refine r_nicmp_ge (b := 35)  (tgt := 63) dX7_back_42 (by decide) rfl rfl (by omega) (by omega) (fun h42 => absurd h42 (by omega)) (fun h42 => ?_)
        refine r_aload_n dX7_back_45 rfl ?_
        refine r_getR (b := 108) dX7_back_46 f_X7_29 (hsh.al rfl (by decide)) (Or.inl ⟨_, rfl⟩) (hsh.r 102 9 108 (by decide)) (by decide) ?_
        refine r_iload_n dX7_back_49 rfl ?_
        refine r_aload_n dX7_back_50 rfl ?_
        refine r_getR (b := 113) dX7_back_51 f_X7_44 (hsh.al rfl (by decide)) (Or.inl ⟨_, rfl⟩) (hsh.r 102 38 113 (by decide)) (by decide) ?_
        refine r_iload_n dX7_back_54 rfl ?_
        refine r_ialdE (j := i) dX7_back_55 (hsh.al rfl (by decide)) (by omega) rfl (show I2 113 i = I 113 i by rw [hF 113 (by decide) (by decide)]) ?_
        refine r_iast (j := i) dX7_back_56 (hsh.al rfl (by decide)) (by omega) rfl ?_
        refine r_iincE (b := (i + 1)) dX7_back_57 rfl rfl (nI_succ _).symm rfl ?_
        refine r_goto (tgt := 39) dX7_back_60 (by decide) ?_
        refine ih (i + 1) _ (by omega) (fun a a1 a2 => by rw [up2_a _ _ _ a2]; exact hF a a1 a2) (fun j hj => by rw [up2_a _ _ _ (by decide)]; exact h12 j hj) fun j hj => ?_
        by_cases e : j = i
        · rw [e, up2_at]
        · rw [up2_k _ _ e]; exact h13 j (by omega)
    have loop : ∀ q i I2, i + q = 8 → (∀ a, a ≠ 106 → I2 a = I a) → (∀ j, j < i → I2 106 j = I 112 j) → Wp g (d + 1) mX7_back 13 [.ref 102, .int (nI i)] [] 0 0 n I2 J R (PdM n I R (.int (zI (qkz σ : Nat))) (wSky σ (qkd σ) (qkt σ) (qkz σ) (qkr σ))) := by
      intro q
      induction q with
      | zero =>
        intro i I2 hi hF h12
        refine r_iload_n dX7_back_13 rfl ?_
        refine r_bipush (v := 8) dX7_back_14 (by decide) ?_
        refine r_nicmp_ge (b := 8)  (tgt := 37) dX7_back_16 (by decide) rfl rfl (by omega) (by omega) (fun h16 => ?_) (fun h16 => absurd h16 (by omega))
        refine r_iconst (v := 0) dX7_back_37 (by decide) ?_
        refine r_istore_n dX7_back_38 (by decide) rfl ?_
        exact fin 35 0 I2 rfl (fun a a1 _ => hF a a1) (fun j hj => h12 j (by omega)) fun j hj => absurd hj (Nat.not_lt_zero _)
      | succ q ih =>
        intro i I2 hi hF h12
        refine r_iload_n dX7_back_13 rfl ?_
        refine r_bipush (v := 8) dX7_back_14 (by decide) ?_
        refine r_nicmp_ge (b := 8)  (tgt := 37) dX7_back_16 (by decide) rfl rfl (by omega) (by omega) (fun h16 => absurd h16 (by omega)) (fun h16 => ?_)
        refine r_aload_n dX7_back_19 rfl ?_
        refine r_getR (b := 106) dX7_back_20 f_X7_23 (hsh.al rfl (by decide)) (Or.inl ⟨_, rfl⟩) (hsh.r 102 7 106 (by decide)) (by decide) ?_
        refine r_iload_n dX7_back_23 rfl ?_
        refine r_aload_n dX7_back_24 rfl ?_
        refine r_getR (b := 112) dX7_back_25 f_X7_41 (hsh.al rfl (by decide)) (Or.inl ⟨_, rfl⟩) (hsh.r 102 37 112 (by decide)) (by decide) ?_
        refine r_iload_n dX7_back_28 rfl ?_
        refine r_ialdE (j := i) dX7_back_29 (hsh.al rfl (by decide)) (by omega) rfl (show I2 112 i = I 112 i by rw [hF 112 (by decide)]) ?_
        refine r_iast (j := i) dX7_back_30 (hsh.al rfl (by decide)) (by omega) rfl ?_
        refine r_iincE (b := (i + 1)) dX7_back_31 rfl rfl (nI_succ _).symm rfl ?_
        refine r_goto (tgt := 13) dX7_back_34 (by decide) ?_
        refine ih (i + 1) _ (by omega) (fun a a1 => by rw [up2_a _ _ _ a1]; exact hF a a1) fun j hj => ?_
        by_cases e : j = i
        · rw [e, up2_at]
        · rw [up2_k _ _ e]; exact h12 j (by omega)
    refine r_aload_n dX7_back_0 rfl ?_
    refine r_getIE dX7_back_1 f_X7_47 (hsh.al rfl (by decide)) (Or.inl rfl) h39 ?_
    refine r_iconst (v := (-1)) dX7_back_4 (by decide) ?_
    refine r_zicmp_ne (b := (-1))  (tgt := 11) dX7_back_5 (by decide) (nz _) (by decide) (by unfold inZ; omega) (by unfold inZ; omega) (fun h5 => ?_) (fun h5 => absurd h5 (by omega))
    refine r_iconst (v := 0) dX7_back_11 (by decide) ?_
    refine r_istore_n dX7_back_12 (by decide) rfl ?_
    exact loop 8 0 I rfl (fun _ _ => rfl) fun j hj => absurd hj (Nat.not_lt_zero _)
