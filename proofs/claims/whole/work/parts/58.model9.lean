/-! the model: its calls that reckon no night -/
section XMu
variable {n : Nat} {I I2 : TI} {J2 : TJ} {R : TR} {σ σ2 : CSt} {v : Value} {dl : Nat → Nat} {tr : Nat → Nat → Nat} {sz rl : Nat}
theorem PdM.to (h : MdS n I2 R σ2) (hF : ∀ a, a < 102 → I2 a = I a) : PdM n I R v σ2 (some v) n I2 J2 R := ⟨rfl, rfl, rfl, h, hF⟩
theorem MdS.sky (h : MdS n I R σ) (hp : MdP n I2 R dl tr sz rl) (hrl : rl < qtc σ) (hF : ∀ a, 103 ≤ a → a < 118 → a ≠ 106 → a ≠ 107 → a ≠ 108 → a ≠ 109 → a ≠ 110 → a ≠ 111 → I2 a = I a) (h102 : ∀ k, (k = 3 ∨ k = 6 ∨ k = 39 ∨ k = 40) → I2 102 k = I 102 k) (hK : qhas σ = true → qkz σ ≤ sz ∧ ∀ k, k < qkz σ → qkt σ 5 k = tr 5 k) : MdS n I2 R (wSky σ dl tr sz rl) := by
  obtain ⟨_, h2, h3, h4, h5, ⟨t1, t2, t3⟩, ⟨k1, k2⟩, h8⟩ := h
  have e (a : Nat) (a1 : 103 ≤ a) (a2 : a < 118) (a3 : a ≠ 106) (a4 : a ≠ 107) (a5 : a ≠ 108) (a6 : a ≠ 109) (a7 : a ≠ 110) (a8 : a ≠ 111) := hF a a1 a2 a3 a4 a5 a6 a7 a8
  refine ⟨hp, hrl, h3, ?_, ?_, ⟨?_, t2, ?_⟩, ⟨?_, ?_⟩, ?_⟩
  · rw [h102 3 (by decide)]; exact h4
  · intro i hi
    rw [e 104 (by decide) (by decide) (by decide) (by decide) (by decide) (by decide) (by decide) (by decide), e 103 (by decide) (by decide) (by decide) (by decide) (by decide) (by decide) (by decide) (by decide)]
    exact h5 i hi
  · rw [h102 6 (by decide)]; exact t1
  · rw [e 105 (by decide) (by decide) (by decide) (by decide) (by decide) (by decide) (by decide) (by decide)]; exact t3
  · rw [h102 39 (by decide)]; exact k1
  · rw [e 112 (by decide) (by decide) (by decide) (by decide) (by decide) (by decide) (by decide) (by decide), e 113 (by decide) (by decide) (by decide) (by decide) (by decide) (by decide) (by decide) (by decide), h102 40 (by decide)]
    intro hb
    obtain ⟨g1, g2, g3, g4, g5, g6, g7⟩ := k2 hb
    exact ⟨g1, g2, g3, (hK hb).1, (hK hb).2, g6, g7⟩
  · intro s hs4
    rw [e 114 (by decide) (by decide) (by decide) (by decide) (by decide) (by decide) (by decide) (by decide), e 115 (by decide) (by decide) (by decide) (by decide) (by decide) (by decide) (by decide) (by decide), e 116 (by decide) (by decide) (by decide) (by decide) (by decide) (by decide) (by decide) (by decide), e 117 (by decide) (by decide) (by decide) (by decide) (by decide) (by decide) (by decide) (by decide)]
    exact h8 s hs4
theorem MdS.keep (h : MdS n I R σ) : qhas σ = true → qkz σ ≤ qsz σ ∧ ∀ k, k < qkz σ → qkt σ 5 k = qtr σ 5 k := fun hb => ⟨(h.kp.2 hb).2.2.2.1, (h.kp.2 hb).2.2.2.2.1⟩
theorem MdP.dU (h : MdP n I R dl tr sz rl) {w v : Nat} (hw : w < 8) (hv : v ≤ dB w) : MdP n (up2 I 106 w (nI v)) R (up1 dl w v) tr sz rl := by
  obtain ⟨p1, p2, p3, p4, p5, p6, p7, p8⟩ := h
  refine ⟨p1, p2.upDl hv, by rw [up2_a _ _ _ (by decide)]; exact p3, fun j hj => ?_, fun k hk => by rw [up2_a _ _ _ (by decide)]; exact p5 k hk, fun i k hi hk => by rw [up2_a _ _ _ (by decide)]; exact p6 i k hi hk, by rw [up2_a _ _ _ (by decide)]; exact p7, by rw [up2_a _ _ _ (by decide)]; exact p8⟩
  by_cases e : j = w
  · rw [e, up2_at, up1_at]
  · rw [up2_k _ _ e, up1_ne _ _ e]; exact p4 j hj
theorem MdP.rU (h : MdP n I R dl tr sz rl) {j k v : Nat} (hj : j < 5) (hk : k < sz) (hv : v ≤ tB j) : MdP n (up2 I 108 (5 * k + j) (nI v)) R dl (up2 tr j k v) sz rl := by
  obtain ⟨p1, p2, p3, p4, p5, p6, p7, p8⟩ := h
  refine ⟨p1, p2.upTr hv, by rw [up2_a _ _ _ (by decide)]; exact p3, fun j hj => by rw [up2_a _ _ _ (by decide)]; exact p4 j hj, fun q hq => by rw [up2_a _ _ _ (by decide), up2_a _ _ _ (by omega)]; exact p5 q hq, fun i q hi hq => ?_, by rw [up2_a _ _ _ (by decide)]; exact p7, by rw [up2_a _ _ _ (by decide)]; exact p8⟩
  by_cases e : 5 * q + i = 5 * k + j
  · have e1 : q = k := by omega
    have e2 : i = j := by omega
    rw [e, up2_at, e1, e2, up2_at]
  · rw [up2_k _ _ e]
    by_cases e1 : i = j
    · rw [e1, up2_k _ _ (show q ≠ k by omega), ← e1]; exact p6 i q hi hq
    · rw [up2_a _ _ _ e1]; exact p6 i q hi hq
theorem MdP.rlU (h : MdP n I R dl tr sz rl) {v : Nat} (hv : v ≤ 5) : MdP n (up2 I 102 4 (nI v)) R dl tr sz v := by
  obtain ⟨p1, p2, p3, p4, p5, p6, p7, p8⟩ := h
  exact ⟨p1, ⟨p2.1, p2.2.1, p2.2.2.1, hv⟩, by rw [up2_k _ _ (by decide)]; exact p3, fun j hj => by rw [up2_a _ _ _ (by decide)]; exact p4 j hj, fun q hq => by rw [up2_a _ _ _ (by decide)]; exact p5 q hq, fun i q hi hq => by rw [up2_a _ _ _ (by decide)]; exact p6 i q hi hq, by rw [up2_k _ _ (by decide)]; exact p7, up2_at _ _ _ _⟩
end XMu
set_option maxRecDepth 20000 in
set_option maxHeartbeats 4000000 in
theorem S_mTold {g : GP} {d n : Nat} {I : TI} {J : TJ} {R : TR} {σ : CSt} (hM : MdS n I R σ) {f w : Int} (hf : inZ f) (hw : inZ w) : Wp g (d + 3) mX7_told 0 [.ref 102, .int (zI f), .int (zI w)] [] 0 0 n I J R (RetI (zI (toldV σ f w)) n I J R) := by
  have hsh := hM.sh
  have hN := hM.p.mn
  have wf := hM.wf
  have hz := wf.2.2.1
  refine r_iload_n dX7_told_0 rfl ?_
  refine r_zi2l dX7_told_1 rfl hw ?_
  refine r_lconst (v := 0) dX7_told_2 (by decide) ?_
  refine r_ldc2 dX7_told_3 w_948 ?_
  refine r_callS3I dX7_told_6 moX7_in w_930 w_931 (Nat.le_of_ble_eq_true rfl) (Nat.le_of_ble_eq_true rfl) (S_in3 (z := w) (lo := 0) (hi := 14) hw (by decide) (by decide) (by unfold inZ; omega) (by unfold inZ; omega)) ?_
  refine r_ifb_eq (tgt := 26) dX7_told_9 (by decide) (fun h9 => ?_) (fun h9 => ?_)
  · rw [decide_eq_false_iff_not] at h9
    refine r_bipush (v := (-2)) dX7_told_26 (by decide) ?_
    refine r_iret dX7_told_28 rfl ?_
    exact retI (by rw [show toldV σ f w = -2 from if_neg (by omega)]; rfl)
  · rw [decide_eq_true_eq] at h9
    refine r_iload_n dX7_told_12 rfl ?_
    refine r_bipush (v := 7) dX7_told_13 (by decide) ?_
    refine r_zicmp_le (b := 7)  (tgt := 29) dX7_told_15 (by decide) rfl (by decide) hw (by unfold inZ; omega) (fun h15 => ?_) (fun h15 => ?_)
    · refine r_iload_n dX7_told_29 rfl ?_
      refine r_bipush (v := 8) dX7_told_30 (by decide) ?_
      refine r_zicmp_ge (b := 8)  (tgt := 44) dX7_told_32 (by decide) rfl (by decide) hw (by unfold inZ; omega) (fun h32 => ?_) (fun h32 => ?_)
      · obtain ⟨f0, ef0⟩ := Int.eq_ofNat_of_zero_le (show 0 ≤ f by omega)
        subst ef0
        rw [← nz f0]
        obtain ⟨j, ej⟩ := Int.eq_ofNat_of_zero_le (show 0 ≤ w - 8 by omega)
        have ew : w = ((8 + j : Nat) : Int) := by omega
        subst ew
        rw [← nz (8 + j)]
        refine r_iload_n dX7_told_44 rfl ?_
        refine r_bipush (v := 13) dX7_told_45 (by decide) ?_
        refine r_nicmp_ge (b := 13)  (tgt := 62) dX7_told_47 (by decide) rfl rfl (by omega) (by omega) (fun h47 => ?_) (fun h47 => ?_)
        · refine r_iload_n dX7_told_62 rfl ?_
          refine r_bipush (v := 13) dX7_told_63 (by decide) ?_
          refine r_nicmp_ne (b := 13)  (tgt := 77) dX7_told_65 (by decide) rfl rfl (by omega) (by omega) (fun h65 => ?_) (fun h65 => ?_)
          · refine r_aload_n dX7_told_77 rfl ?_
            refine r_iload_n dX7_told_78 rfl ?_
            refine r_callV1I dX7_told_79 moX7_paysOf w_949 w_951 s_31 (hsh.al rfl (by decide)) cl7 rfl (Nat.le_of_ble_eq_true rfl) (Nat.le_of_ble_eq_true rfl) (S_mPays hN (k := f0) (by omega)) ?_
            refine r_iret dX7_told_82 rfl ?_
            refine retI ?_
            have e9 : j = 6 := by omega
            subst e9
            have e0 : toldV σ f0 ((8 + 6 : Nat) : Int) = (payN (qtr σ) f0 : Nat) := by unfold toldV; rw [if_pos (by omega), if_pos (by omega)]; rfl
            rw [e0]; rfl
          · refine r_aload_n dX7_told_68 rfl ?_
            refine r_getR (b := 107) dX7_told_69 f_X7_26 (hsh.al rfl (by decide)) (Or.inl ⟨_, rfl⟩) (hsh.r 102 8 107 (by decide)) (by decide) ?_
            refine r_iload_n dX7_told_72 rfl ?_
            refine r_ialdE (j := f0) dX7_told_73 (hsh.al rfl (by decide)) (by omega) rfl (hN.kd (k := f0) (by omega)) ?_
            refine r_goto (tgt := 82) dX7_told_74 (by decide) ?_
            refine r_iret dX7_told_82 rfl ?_
            refine retI ?_
            have e0 : toldV σ f0 ((8 + j : Nat) : Int) = (qtr σ j f0 : Nat) := by
              unfold toldV
              rw [if_pos (by omega), if_neg (by omega), if_neg (by omega)]
              rw [show ((8 + j : Nat) : Int).toNat - 8 = j by omega]; rfl
            rw [e0]
            have ej5 : j = 5 := by omega
            subst ej5
            rfl
        · refine r_aload_n dX7_told_50 rfl ?_
          refine r_iload_n dX7_told_51 rfl ?_
          refine r_iload_n dX7_told_52 rfl ?_
          refine r_bipush (v := 8) dX7_told_53 (by decide) ?_
          refine r_nisub (b := 8) dX7_told_55 rfl rfl (by omega) ?_
          refine r_callV2I dX7_told_56 moX7_row w_940 w_942 s_30 (hsh.al rfl (by decide)) cl7 rfl (Nat.le_of_ble_eq_true rfl) (Nat.le_of_ble_eq_true rfl) (S_mRow hN (k := f0) (i := 8 + j - 8) (by omega) (by omega)) ?_
          refine r_top (v := nI (qtr σ j f0)) (by rw [Nat.add_sub_cancel_left]) ?_
          refine r_goto (tgt := 82) dX7_told_59 (by decide) ?_
          refine r_iret dX7_told_82 rfl ?_
          refine retI ?_
          have e0 : toldV σ f0 ((8 + j : Nat) : Int) = (qtr σ j f0 : Nat) := by
            unfold toldV
            rw [if_pos (by omega), if_neg (by omega), if_neg (by omega)]
            rw [show ((8 + j : Nat) : Int).toNat - 8 = j by omega]; rfl
          rw [e0]
          rfl
      · obtain ⟨w0, ew0⟩ := Int.eq_ofNat_of_zero_le (show 0 ≤ w by omega)
        subst ew0
        rw [← nz w0]
        refine r_aload_n dX7_told_35 rfl ?_
        refine r_getR (b := 106) dX7_told_36 f_X7_23 (hsh.al rfl (by decide)) (Or.inl ⟨_, rfl⟩) (hsh.r 102 7 106 (by decide)) (by decide) ?_
        refine r_iload_n dX7_told_39 rfl ?_
        refine r_ialdE (j := w0) dX7_told_40 (hsh.al rfl (by decide)) (by omega) rfl (hM.p.2.2.2.1 w0 (by omega)) ?_
        refine r_goto (tgt := 82) dX7_told_41 (by decide) ?_
        refine r_iret dX7_told_82 rfl ?_
        refine retI ?_
        have e0 : toldV σ f w0 = (qdl σ w0 : Nat) := by unfold toldV; rw [if_pos (by omega), if_neg (by omega), if_pos (by omega)]; rfl
        rw [e0]; rfl
    · refine r_aload_n dX7_told_18 rfl ?_
      refine r_iload_n dX7_told_19 rfl ?_
      refine r_callV1I dX7_told_20 moX7_isSight w_933 w_935 s_29 (hsh.al rfl (by decide)) cl7 rfl (Nat.le_of_ble_eq_true rfl) (Nat.le_of_ble_eq_true rfl) (S_mIsSight hsh hN.many hz (a := f) hf) ?_
      refine r_ifb_ne (tgt := 29) dX7_told_23 (by decide) (fun h23 => ?_) (fun h23 => ?_)
      · rw [decide_eq_true_eq] at h23
        refine r_iload_n dX7_told_29 rfl ?_
        refine r_bipush (v := 8) dX7_told_30 (by decide) ?_
        refine r_zicmp_ge (b := 8)  (tgt := 44) dX7_told_32 (by decide) rfl (by decide) hw (by unfold inZ; omega) (fun h32 => ?_) (fun h32 => ?_)
        · obtain ⟨f0, ef0⟩ := Int.eq_ofNat_of_zero_le (show 0 ≤ f by omega)
          subst ef0
          rw [← nz f0]
          obtain ⟨j, ej⟩ := Int.eq_ofNat_of_zero_le (show 0 ≤ w - 8 by omega)
          have ew : w = ((8 + j : Nat) : Int) := by omega
          subst ew
          rw [← nz (8 + j)]
          refine r_iload_n dX7_told_44 rfl ?_
          refine r_bipush (v := 13) dX7_told_45 (by decide) ?_
          refine r_nicmp_ge (b := 13)  (tgt := 62) dX7_told_47 (by decide) rfl rfl (by omega) (by omega) (fun h47 => ?_) (fun h47 => ?_)
          · refine r_iload_n dX7_told_62 rfl ?_
            refine r_bipush (v := 13) dX7_told_63 (by decide) ?_
            refine r_nicmp_ne (b := 13)  (tgt := 77) dX7_told_65 (by decide) rfl rfl (by omega) (by omega) (fun h65 => ?_) (fun h65 => ?_)
            · refine r_aload_n dX7_told_77 rfl ?_
              refine r_iload_n dX7_told_78 rfl ?_
              refine r_callV1I dX7_told_79 moX7_paysOf w_949 w_951 s_31 (hsh.al rfl (by decide)) cl7 rfl (Nat.le_of_ble_eq_true rfl) (Nat.le_of_ble_eq_true rfl) (S_mPays hN (k := f0) (by omega)) ?_
              refine r_iret dX7_told_82 rfl ?_
              refine retI ?_
              have e9 : j = 6 := by omega
              subst e9
              have e0 : toldV σ f0 ((8 + 6 : Nat) : Int) = (payN (qtr σ) f0 : Nat) := by unfold toldV; rw [if_pos (by omega), if_pos (by omega)]; rfl
              rw [e0]; rfl
            · refine r_aload_n dX7_told_68 rfl ?_
              refine r_getR (b := 107) dX7_told_69 f_X7_26 (hsh.al rfl (by decide)) (Or.inl ⟨_, rfl⟩) (hsh.r 102 8 107 (by decide)) (by decide) ?_
              refine r_iload_n dX7_told_72 rfl ?_
              refine r_ialdE (j := f0) dX7_told_73 (hsh.al rfl (by decide)) (by omega) rfl (hN.kd (k := f0) (by omega)) ?_
              refine r_goto (tgt := 82) dX7_told_74 (by decide) ?_
              refine r_iret dX7_told_82 rfl ?_
              refine retI ?_
              have e0 : toldV σ f0 ((8 + j : Nat) : Int) = (qtr σ j f0 : Nat) := by
                unfold toldV
                rw [if_pos (by omega), if_neg (by omega), if_neg (by omega)]
                rw [show ((8 + j : Nat) : Int).toNat - 8 = j by omega]; rfl
              rw [e0]
              have ej5 : j = 5 := by omega
              subst ej5
              rfl
          · refine r_aload_n dX7_told_50 rfl ?_
            refine r_iload_n dX7_told_51 rfl ?_
            refine r_iload_n dX7_told_52 rfl ?_
            refine r_bipush (v := 8) dX7_told_53 (by decide) ?_
            refine r_nisub (b := 8) dX7_told_55 rfl rfl (by omega) ?_
            refine r_callV2I dX7_told_56 moX7_row w_940 w_942 s_30 (hsh.al rfl (by decide)) cl7 rfl (Nat.le_of_ble_eq_true rfl) (Nat.le_of_ble_eq_true rfl) (S_mRow hN (k := f0) (i := 8 + j - 8) (by omega) (by omega)) ?_
            refine r_top (v := nI (qtr σ j f0)) (by rw [Nat.add_sub_cancel_left]) ?_
            refine r_goto (tgt := 82) dX7_told_59 (by decide) ?_
            refine r_iret dX7_told_82 rfl ?_
            refine retI ?_
            have e0 : toldV σ f0 ((8 + j : Nat) : Int) = (qtr σ j f0 : Nat) := by
              unfold toldV
              rw [if_pos (by omega), if_neg (by omega), if_neg (by omega)]
              rw [show ((8 + j : Nat) : Int).toNat - 8 = j by omega]; rfl
            rw [e0]
            rfl
        · obtain ⟨w0, ew0⟩ := Int.eq_ofNat_of_zero_le (show 0 ≤ w by omega)
          subst ew0
          rw [← nz w0]
          refine r_aload_n dX7_told_35 rfl ?_
          refine r_getR (b := 106) dX7_told_36 f_X7_23 (hsh.al rfl (by decide)) (Or.inl ⟨_, rfl⟩) (hsh.r 102 7 106 (by decide)) (by decide) ?_
          refine r_iload_n dX7_told_39 rfl ?_
          refine r_ialdE (j := w0) dX7_told_40 (hsh.al rfl (by decide)) (by omega) rfl (hM.p.2.2.2.1 w0 (by omega)) ?_
          refine r_goto (tgt := 82) dX7_told_41 (by decide) ?_
          refine r_iret dX7_told_82 rfl ?_
          refine retI ?_
          have e0 : toldV σ f w0 = (qdl σ w0 : Nat) := by unfold toldV; rw [if_pos (by omega), if_neg (by omega), if_pos (by omega)]; rfl
          rw [e0]; rfl
      · rw [decide_eq_false_iff_not] at h23
        refine r_bipush (v := (-2)) dX7_told_26 (by decide) ?_
        refine r_iret dX7_told_28 rfl ?_
        exact retI (by rw [show toldV σ f w = -2 from if_neg (by omega)]; rfl)
theorem S_mTold2 {g : GP} {d n : Nat} {I : TI} {J : TJ} {R : TR} {σ : CSt} (hM : MdS n I R σ) {f w : Int} (hf : inZ f) (hw : inZ w) : Wp g (d + 3) mX7_told 0 [.ref 102, .int (zI f), .int (zI w)] [] 0 0 n I J R (PdM n I R (.int (zI (toldV σ f w))) σ) := Wp.mono (fun r n2 I2 J2 R2 hq => by obtain ⟨rfl, rfl, rfl, rfl, rfl⟩ := hq; exact PdM.rf hM) (S_mTold hM hf hw)
set_option maxRecDepth 20000 in
set_option maxHeartbeats 4000000 in
theorem S_mShines {g : GP} {d n : Nat} {I : TI} {J : TJ} {R : TR} {σ : CSt} (hM : MdS n I R σ) {k t w : Int} (hk : inZ k) (ht : inZ t) (hw : inZ w) : Wp g (d + 3) mX7_shines 0 [.ref 102, .int (zI k), .int (zI t), .int (zI w)] [] 0 0 n I J R (PdM n I R (.int (zI (shinV σ k t w))) σ) := by
  have hsh := hM.sh
  have hN := hM.p.mn
  have wf := hM.wf
  have hz := wf.2.2.1
  refine r_aload_n dX7_shines_0 rfl ?_
  refine r_iload_n dX7_shines_1 rfl ?_
  refine r_callV1I dX7_shines_2 moX7_isSight w_933 w_935 s_29 (hsh.al rfl (by decide)) cl7 rfl (Nat.le_of_ble_eq_true rfl) (Nat.le_of_ble_eq_true rfl) (S_mIsSight hsh hN.many hz (a := k) hk) ?_
  refine r_ifb_eq (tgt := 30) dX7_shines_5 (by decide) (fun h5 => ?_) (fun h5 => ?_)
  · rw [decide_eq_false_iff_not] at h5
    refine r_bipush (v := (-2)) dX7_shines_30 (by decide) ?_
    refine r_iret dX7_shines_32 rfl ?_
    have e0 : shinV σ k t w = -2 := if_neg (by omega)
    rw [e0]
    exact PdM.rf hM
  · rw [decide_eq_true_eq] at h5
    refine r_iload_n dX7_shines_8 rfl ?_
    refine r_zi2l dX7_shines_9 rfl ht ?_
    refine r_lconst (v := 0) dX7_shines_10 (by decide) ?_
    refine r_ldc2 dX7_shines_11 w_965 ?_
    refine r_callS3I dX7_shines_14 moX7_in w_930 w_931 (Nat.le_of_ble_eq_true rfl) (Nat.le_of_ble_eq_true rfl) (S_in3 (z := t) (lo := 0) (hi := 199) ht (by decide) (by decide) (by unfold inZ; omega) (by unfold inZ; omega)) ?_
    refine r_ifb_eq (tgt := 30) dX7_shines_17 (by decide) (fun h17 => ?_) (fun h17 => ?_)
    · rw [decide_eq_false_iff_not] at h17
      refine r_bipush (v := (-2)) dX7_shines_30 (by decide) ?_
      refine r_iret dX7_shines_32 rfl ?_
      have e0 : shinV σ k t w = -2 := if_neg (by omega)
      rw [e0]
      exact PdM.rf hM
    · rw [decide_eq_true_eq] at h17
      refine r_iload_n dX7_shines_20 rfl ?_
      refine r_zi2l dX7_shines_21 rfl hw ?_
      refine r_lconst (v := 0) dX7_shines_22 (by decide) ?_
      refine r_lconst (v := 1) dX7_shines_23 (by decide) ?_
      refine r_callS3I dX7_shines_24 moX7_in w_930 w_931 (Nat.le_of_ble_eq_true rfl) (Nat.le_of_ble_eq_true rfl) (S_in3 (z := w) (lo := 0) (hi := 1) hw (by decide) (by decide) (by unfold inZ; omega) (by unfold inZ; omega)) ?_
      refine r_ifb_ne (tgt := 33) dX7_shines_27 (by decide) (fun h27 => ?_) (fun h27 => ?_)
      · rw [decide_eq_true_eq] at h27
        refine r_iload_n dX7_shines_33 rfl ?_
        refine r_zif_ne (tgt := 54) dX7_shines_34 (by decide) rfl hw (fun h34 => ?_) (fun h34 => ?_)
        · obtain ⟨k0, ek0⟩ := Int.eq_ofNat_of_zero_le (show 0 ≤ k by omega)
          subst ek0
          rw [← nz k0]
          obtain ⟨t0, et0⟩ := Int.eq_ofNat_of_zero_le (show 0 ≤ t by omega)
          subst et0
          rw [← nz t0]
          refine r_aload_n dX7_shines_54 rfl ?_
          refine r_iload_n dX7_shines_55 rfl ?_
          refine r_iload_n dX7_shines_56 rfl ?_
          refine r_callV2I dX7_shines_57 moX7_isClouded w_970 w_972 s_33 (hsh.al rfl (by decide)) cl7 rfl (Nat.le_of_ble_eq_true rfl) (Nat.le_of_ble_eq_true rfl) (S_mIsCl hN (k := k0) (t := t0) (by omega) (by omega)) ?_
          refine r_ifb_eq (tgt := 67) dX7_shines_60 (by decide) (fun h60 => ?_) (fun h60 => ?_)
          · refine r_iconst (v := 0) dX7_shines_67 (by decide) ?_
            refine r_iret dX7_shines_68 rfl ?_
            have e0 : shinV σ k0 t0 w = 0 := by
              unfold shinV
              rw [if_pos (by omega), if_neg h34]
              rw [show (((k0 : Nat) : Int)).toNat = k0 from rfl, show (((t0 : Nat) : Int)).toNat = t0 from rfl, h60]; rfl
            rw [e0]
            exact PdM.rf hM
          · refine r_iconst (v := 1) dX7_shines_63 (by decide) ?_
            refine r_goto (tgt := 68) dX7_shines_64 (by decide) ?_
            refine r_iret dX7_shines_68 rfl ?_
            have e0 : shinV σ k0 t0 w = 1 := by
              unfold shinV
              rw [if_pos (by omega), if_neg h34]
              rw [show (((k0 : Nat) : Int)).toNat = k0 from rfl, show (((t0 : Nat) : Int)).toNat = t0 from rfl, h60]; rfl
            rw [e0]
            exact PdM.rf hM
        · obtain ⟨k0, ek0⟩ := Int.eq_ofNat_of_zero_le (show 0 ≤ k by omega)
          subst ek0
          rw [← nz k0]
          obtain ⟨t0, et0⟩ := Int.eq_ofNat_of_zero_le (show 0 ≤ t by omega)
          subst et0
          rw [← nz t0]
          refine r_aload_n dX7_shines_37 rfl ?_
          refine r_iload_n dX7_shines_38 rfl ?_
          refine r_iload_n dX7_shines_39 rfl ?_
          refine r_callV2I dX7_shines_40 moX7_isUp w_966 w_968 s_32 (hsh.al rfl (by decide)) cl7 rfl (Nat.le_of_ble_eq_true rfl) (Nat.le_of_ble_eq_true rfl) (S_mIsUp hN (k := k0) (t := t0) (by omega) (by omega)) ?_
          refine r_ifb_eq (tgt := 50) dX7_shines_43 (by decide) (fun h43 => ?_) (fun h43 => ?_)
          · refine r_iconst (v := 0) dX7_shines_50 (by decide) ?_
            refine r_goto (tgt := 68) dX7_shines_51 (by decide) ?_
            refine r_iret dX7_shines_68 rfl ?_
            have e0 : shinV σ k0 t0 w = 0 := by
              unfold shinV
              rw [if_pos (by omega), if_pos h34]
              rw [show (((k0 : Nat) : Int)).toNat = k0 from rfl, show (((t0 : Nat) : Int)).toNat = t0 from rfl, h43]; rfl
            rw [e0]
            exact PdM.rf hM
          · refine r_iconst (v := 1) dX7_shines_46 (by decide) ?_
            refine r_goto (tgt := 68) dX7_shines_47 (by decide) ?_
            refine r_iret dX7_shines_68 rfl ?_
            have e0 : shinV σ k0 t0 w = 1 := by
              unfold shinV
              rw [if_pos (by omega), if_pos h34]
              rw [show (((k0 : Nat) : Int)).toNat = k0 from rfl, show (((t0 : Nat) : Int)).toNat = t0 from rfl, h43]; rfl
            rw [e0]
            exact PdM.rf hM
      · rw [decide_eq_false_iff_not] at h27
        refine r_bipush (v := (-2)) dX7_shines_30 (by decide) ?_
        refine r_iret dX7_shines_32 rfl ?_
        have e0 : shinV σ k t w = -2 := if_neg (by omega)
        rw [e0]
        exact PdM.rf hM
set_option maxRecDepth 20000 in
set_option maxHeartbeats 4000000 in
theorem S_mMost {g : GP} {d n : Nat} {I : TI} {J : TJ} {R : TR} {a : Nat} (ha : a < 13) : Wp g d mX7_mostOf 0 [.int (nI a)] [] 0 0 n I J R (RetI (nI (mostN a)) n I J R) := by
  have e : a = 0 ∨ a = 1 ∨ a = 2 ∨ a = 3 ∨ a = 4 ∨ a = 5 ∨ a = 6 ∨ a = 7 ∨ a = 8 ∨ a = 9 ∨ a = 10 ∨ a = 11 ∨ a = 12 := by omega
  refine r_iload_n dX7_mostOf_0 rfl ?_
  refine r_bipush (v := 8) dX7_mostOf_1 (by decide) ?_
  refine r_nicmp_ge (b := 8)  (tgt := 30) dX7_mostOf_3 (by decide) rfl rfl (by omega) (by omega) (fun h3 => ?_) (fun h3 => ?_)
  · refine r_iload_n dX7_mostOf_30 rfl ?_
    refine r_bipush (v := 8) dX7_mostOf_31 (by decide) ?_
    refine r_nicmp_ne (b := 8)  (tgt := 41) dX7_mostOf_33 (by decide) rfl rfl (by omega) (by omega) (fun h33 => ?_) (fun h33 => ?_)
    · refine r_iload_n dX7_mostOf_41 rfl ?_
      refine r_bipush (v := 9) dX7_mostOf_42 (by decide) ?_
      refine r_nicmp_ne (b := 9)  (tgt := 52) dX7_mostOf_44 (by decide) rfl rfl (by omega) (by omega) (fun h44 => ?_) (fun h44 => ?_)
      · refine r_iload_n dX7_mostOf_52 rfl ?_
        refine r_bipush (v := 12) dX7_mostOf_53 (by decide) ?_
        refine r_nicmp_ne (b := 12)  (tgt := 63) dX7_mostOf_55 (by decide) rfl rfl (by omega) (by omega) (fun h55 => ?_) (fun h55 => ?_)
        · refine r_sipush (v := 199) dX7_mostOf_63 (by decide) ?_
          refine r_iret dX7_mostOf_66 rfl ?_
          refine retI ?_
          rcases e with rfl | rfl | rfl | rfl | rfl | rfl | rfl | rfl | rfl | rfl | rfl | rfl | rfl <;> first | rfl | omega
        · refine r_bipush (v := 99) dX7_mostOf_58 (by decide) ?_
          refine r_goto (tgt := 66) dX7_mostOf_60 (by decide) ?_
          refine r_iret dX7_mostOf_66 rfl ?_
          refine retI ?_
          rcases e with rfl | rfl | rfl | rfl | rfl | rfl | rfl | rfl | rfl | rfl | rfl | rfl | rfl <;> first | rfl | omega
      · refine r_bipush (v := 99) dX7_mostOf_47 (by decide) ?_
        refine r_goto (tgt := 66) dX7_mostOf_49 (by decide) ?_
        refine r_iret dX7_mostOf_66 rfl ?_
        refine retI ?_
        rcases e with rfl | rfl | rfl | rfl | rfl | rfl | rfl | rfl | rfl | rfl | rfl | rfl | rfl <;> first | rfl | omega
    · refine r_bipush (v := 9) dX7_mostOf_36 (by decide) ?_
      refine r_goto (tgt := 66) dX7_mostOf_38 (by decide) ?_
      refine r_iret dX7_mostOf_66 rfl ?_
      refine retI ?_
      rcases e with rfl | rfl | rfl | rfl | rfl | rfl | rfl | rfl | rfl | rfl | rfl | rfl | rfl <;> first | rfl | omega
  · refine r_iload_n dX7_mostOf_6 rfl ?_
    refine r_iconst (v := 3) dX7_mostOf_7 (by decide) ?_
    refine r_nicmp_ge (b := 3)  (tgt := 16) dX7_mostOf_8 (by decide) rfl rfl (by omega) (by omega) (fun h8 => ?_) (fun h8 => ?_)
    · refine r_iload_n dX7_mostOf_16 rfl ?_
      refine r_iconst (v := 5) dX7_mostOf_17 (by decide) ?_
      refine r_nicmp_ne (b := 5)  (tgt := 26) dX7_mostOf_18 (by decide) rfl rfl (by omega) (by omega) (fun h18 => ?_) (fun h18 => ?_)
      · refine r_sipush (v := 199) dX7_mostOf_26 (by decide) ?_
        refine r_iret dX7_mostOf_29 rfl ?_
        refine retI ?_
        rcases e with rfl | rfl | rfl | rfl | rfl | rfl | rfl | rfl | rfl | rfl | rfl | rfl | rfl <;> first | rfl | omega
      · refine r_bipush (v := 99) dX7_mostOf_21 (by decide) ?_
        refine r_goto (tgt := 29) dX7_mostOf_23 (by decide) ?_
        refine r_iret dX7_mostOf_29 rfl ?_
        refine retI ?_
        rcases e with rfl | rfl | rfl | rfl | rfl | rfl | rfl | rfl | rfl | rfl | rfl | rfl | rfl <;> first | rfl | omega
    · refine r_bipush (v := 9) dX7_mostOf_11 (by decide) ?_
      refine r_goto (tgt := 29) dX7_mostOf_13 (by decide) ?_
      refine r_iret dX7_mostOf_29 rfl ?_
      refine retI ?_
      rcases e with rfl | rfl | rfl | rfl | rfl | rfl | rfl | rfl | rfl | rfl | rfl | rfl | rfl <;> first | rfl | omega
set_option maxRecDepth 20000 in
set_option maxHeartbeats 4000000 in
theorem S_mSet {g : GP} {d n : Nat} {I : TI} {J : TJ} {R : TR} {σ : CSt} (hM : MdS n I R σ) {a b c : Int} (ha : inZ a) (hb : inZ b) (hc : inZ c) : Wp g (d + 4) mX7_set 0 [.ref 102, .int (zI a), .int (zI b), .int (zI c), .null] [] 0 0 n I J R (PdM n I R (.int (zI (setAV σ a b c))) (setS σ a b c)) := by
  have hsh := hM.sh
  have hN := hM.p.mn
  have wf := hM.wf
  have hz := wf.2.2.1
  refine r_iload_n dX7_set_0 rfl ?_
  refine r_zi2l dX7_set_1 rfl ha ?_
  refine r_lconst (v := 0) dX7_set_2 (by decide) ?_
  refine r_ldc2 dX7_set_3 w_929 ?_
  refine r_callS3I dX7_set_6 moX7_in w_930 w_931 (Nat.le_of_ble_eq_true rfl) (Nat.le_of_ble_eq_true rfl) (S_in3 (z := a) (lo := 0) (hi := 12) ha (by decide) (by decide) (by unfold inZ; omega) (by unfold inZ; omega)) ?_
  refine r_ifb_eq (tgt := 40) dX7_set_9 (by decide) (fun h9 => ?_) (fun h9 => ?_)
  · rw [decide_eq_false_iff_not] at h9
    refine r_bipush (v := (-2)) dX7_set_40 (by decide) ?_
    refine r_iret dX7_set_42 rfl ?_
    have h10 : alZ (qtr σ) (qsz σ) a b c = false := decide_eq_false (by omega)
    have e0 : setAV σ a b c = -2 := by unfold setAV; rw [h10, if_neg (by decide)]
    have e1 : setS σ a b c = σ := by unfold setS; rw [h10, if_neg (by decide)]
    rw [e0, e1]
    exact PdM.rf hM
  · rw [decide_eq_true_eq] at h9
    refine r_iload_n dX7_set_12 rfl ?_
    refine r_bipush (v := 7) dX7_set_13 (by decide) ?_
    refine r_zicmp_le (b := 7)  (tgt := 26) dX7_set_15 (by decide) rfl (by decide) ha (by unfold inZ; omega) (fun h15 => ?_) (fun h15 => ?_)
    · obtain ⟨a0, ea⟩ := Int.eq_ofNat_of_zero_le (show 0 ≤ a by omega)
      subst ea
      rw [← nz a0]
      have m199 := mostN_le a0
      have em : mostN (((a0 : Nat) : Int)).toNat = mostN a0 := rfl
      refine r_iload_n dX7_set_26 rfl ?_
      refine r_zi2l dX7_set_27 rfl hc ?_
      refine r_lconst (v := 0) dX7_set_28 (by decide) ?_
      refine r_iload_n dX7_set_29 rfl ?_
      refine r_callS1I dX7_set_30 moX7_mostOf w_937 w_938 (Nat.le_of_ble_eq_true rfl) (Nat.le_of_ble_eq_true rfl) (S_mMost (a := a0) (by omega)) ?_
      refine r_zi2l dX7_set_33 (nz _) (by unfold inZ; omega) ?_
      refine r_callS3I dX7_set_34 moX7_in w_930 w_931 (Nat.le_of_ble_eq_true rfl) (Nat.le_of_ble_eq_true rfl) (S_in3 (z := c) (lo := 0) (hi := ((mostN a0 : Nat) : Int)) hc (by decide) rfl (by unfold inZ; omega) (by unfold inZ; omega)) ?_
      refine r_ifb_ne (tgt := 43) dX7_set_37 (by decide) (fun h37 => ?_) (fun h37 => ?_)
      · rw [decide_eq_true_eq] at h37
        refine r_iload_n dX7_set_43 rfl ?_
        refine r_bipush (v := 10) dX7_set_44 (by decide) ?_
        refine r_nicmp_ne (b := 10)  (tgt := 59) dX7_set_46 (by decide) rfl rfl (by omega) (by omega) (fun h46 => ?_) (fun h46 => ?_)
        · refine r_iload_n dX7_set_59 rfl ?_
          refine r_bipush (v := 11) dX7_set_60 (by decide) ?_
          refine r_nicmp_ne (b := 11)  (tgt := 78) dX7_set_62 (by decide) rfl rfl (by omega) (by omega) (fun h62 => ?_) (fun h62 => ?_)
          · have h10 : alZ (qtr σ) (qsz σ) (a0 : Nat) b c = true := decide_eq_true (by omega)
            have hwas := S_mTold (g := g) (d := d) (J := J) hM (f := b) (w := (a0 : Nat)) (by assumption) (by assumption)
            obtain ⟨c0, ec⟩ := Int.eq_ofNat_of_zero_le (show 0 ≤ c by omega)
            subst ec
            rw [← nz c0]
            by_cases h8 : a0 < 8
            · have hm : c0 ≤ dB a0 := by
                have e : a0 = 0 ∨ a0 = 1 ∨ a0 = 2 ∨ a0 = 3 ∨ a0 = 4 ∨ a0 = 5 ∨ a0 = 6 ∨ a0 = 7 := by omega
                have h2 := (of_decide_eq_true h10).2.2.2.1
                rcases e with rfl | rfl | rfl | rfl | rfl | rfl | rfl | rfl <;> exact Int.ofNat_le.mp h2
              have e9 : toldV σ b (a0 : Nat) = (qdl σ a0 : Nat) := by unfold toldV; rw [if_pos (by omega), if_neg (by omega), if_pos (by omega)]; rfl
              rw [e9] at hwas
              have e0 : setAV σ (a0 : Nat) b c0 = (qdl σ a0 : Nat) := by unfold setAV; rw [h10, if_pos rfl, if_pos (by omega)]; rfl
              have e1 : setS σ (a0 : Nat) b c0 = wSky σ (up1 (qdl σ) a0 c0) (qtr σ) (qsz σ) (qrl σ) := by unfold setS; rw [h10, if_pos rfl, if_pos (by omega)]; rfl
              rw [e0, e1]
              refine r_aload_n dX7_set_78 rfl ?_
              refine r_iload_n dX7_set_79 rfl ?_
              refine r_iload_n dX7_set_80 rfl ?_
              refine r_callV2I dX7_set_81 moX7_told w_944 w_945 w_946 (hsh.al rfl (by decide)) cl7 rfl (Nat.le_of_ble_eq_true rfl) (Nat.le_of_ble_eq_true rfl) hwas ?_
              refine r_istore dX7_set_84 (by decide) rfl ?_
              refine r_iload_n dX7_set_86 rfl ?_
              refine r_bipush (v := 8) dX7_set_87 (by decide) ?_
              refine r_nicmp_ge (b := 8)  (tgt := 102) dX7_set_89 (by decide) rfl rfl (by omega) (by omega) (fun h89 => absurd h89 (by omega)) (fun h89 => ?_)
              refine r_aload_n dX7_set_92 rfl ?_
              refine r_getR (b := 106) dX7_set_93 f_X7_23 (hsh.al rfl (by decide)) (Or.inl ⟨_, rfl⟩) (hsh.r 102 7 106 (by decide)) (by decide) ?_
              refine r_iload_n dX7_set_96 rfl ?_
              refine r_iload_n dX7_set_97 rfl ?_
              refine r_iast (j := a0) dX7_set_98 (hsh.al rfl (by decide)) (by omega) rfl ?_
              refine r_goto (tgt := 116) dX7_set_99 (by decide) ?_
              refine r_iload dX7_set_116 rfl ?_
              refine r_iret dX7_set_118 rfl ?_
              exact PdM.to (hM.sky (hM.p.dU h8 hm) hM.rlt (fun a _ _ a3 _ _ _ _ _ => up2_a _ _ _ a3) (fun k hk => by rw [up2_a _ _ _ (by decide)]) hM.keep) fun a ha => up2_a _ _ _ (by omega)
            · obtain ⟨b0, eb⟩ := Int.eq_ofNat_of_zero_le (show 0 ≤ b by have := (of_decide_eq_true h10).2.2.2.2.1 (by omega); omega)
              subst eb
              rw [← nz b0] at hwas ⊢
              have hb7 : b0 < qsz σ := by have := (of_decide_eq_true h10).2.2.2.2.1 (by omega); omega
              obtain ⟨j, rfl⟩ : ∃ j, a0 = 8 + j := ⟨a0 - 8, by omega⟩
              have hj5 : j < 5 := by omega
              have hm : c0 ≤ tB j := by
                have e : j = 0 ∨ j = 1 ∨ j = 2 ∨ j = 3 ∨ j = 4 := by omega
                have h2 := (of_decide_eq_true h10).2.2.2.1
                rcases e with rfl | rfl | rfl | rfl | rfl <;> exact Int.ofNat_le.mp h2
              have ej2 : ((8 + j : Nat) : Int).toNat - 8 = j := by omega
              have e9 : toldV σ (b0 : Nat) ((8 + j : Nat) : Int) = (qtr σ j b0 : Nat) := by unfold toldV; rw [if_pos (by omega), if_neg (by omega), if_neg (by omega), ej2]; rfl
              rw [e9] at hwas
              have e0 : setAV σ ((8 + j : Nat) : Int) (b0 : Nat) c0 = (qtr σ j b0 : Nat) := by unfold setAV; rw [h10, if_pos rfl, if_neg (by omega), ej2]; rfl
              have e1 : setS σ ((8 + j : Nat) : Int) (b0 : Nat) c0 = wSky σ (qdl σ) (up2 (qtr σ) j b0 c0) (qsz σ) (qrl σ) := by unfold setS; rw [h10, if_pos rfl, if_neg (by omega), ej2]; rfl
              rw [e0, e1]
              refine r_aload_n dX7_set_78 rfl ?_
              refine r_iload_n dX7_set_79 rfl ?_
              refine r_iload_n dX7_set_80 rfl ?_
              refine r_callV2I dX7_set_81 moX7_told w_944 w_945 w_946 (hsh.al rfl (by decide)) cl7 rfl (Nat.le_of_ble_eq_true rfl) (Nat.le_of_ble_eq_true rfl) hwas ?_
              refine r_istore dX7_set_84 (by decide) rfl ?_
              refine r_iload_n dX7_set_86 rfl ?_
              refine r_bipush (v := 8) dX7_set_87 (by decide) ?_
              refine r_nicmp_ge (b := 8)  (tgt := 102) dX7_set_89 (by decide) rfl rfl (by omega) (by omega) (fun h89 => ?_) (fun h89 => absurd h89 (by omega))
              refine r_aload_n dX7_set_102 rfl ?_
              refine r_getR (b := 108) dX7_set_103 f_X7_29 (hsh.al rfl (by decide)) (Or.inl ⟨_, rfl⟩) (hsh.r 102 9 108 (by decide)) (by decide) ?_
              refine r_iconst (v := 5) dX7_set_106 (by decide) ?_
              refine r_iload_n dX7_set_107 rfl ?_
              refine r_nimul (a := 5) dX7_set_108 rfl rfl ?_
              refine r_iload_n dX7_set_109 rfl ?_
              refine r_niadd dX7_set_110 rfl rfl ?_
              refine r_bipush (v := 8) dX7_set_111 (by decide) ?_
              refine r_nisub (b := 8) dX7_set_113 rfl rfl (by omega) ?_
              refine r_iload_n dX7_set_114 rfl ?_
              refine r_iast (j := (5 * b0 + j)) dX7_set_115 (hsh.al rfl (by decide)) (by omega) (by congr 1; omega) ?_
              refine r_iload dX7_set_116 rfl ?_
              refine r_iret dX7_set_118 rfl ?_
              exact PdM.to (hM.sky (hM.p.rU hj5 hb7 hm) hM.rlt (fun a _ _ _ _ a5 _ _ _ => up2_a _ _ _ a5) (fun k hk => by rw [up2_a _ _ _ (by decide)]) (fun hb => ⟨(hM.keep hb).1, fun k hk => by rw [up2_a _ _ _ (by omega)]; exact (hM.keep hb).2 k hk⟩)) fun a ha => up2_a _ _ _ (by omega)
          · obtain ⟨b0, eb0⟩ := Int.eq_ofNat_of_zero_le (show 0 ≤ b by omega)
            subst eb0
            rw [← nz b0]
            have e3b : qtr σ 3 (((b0 : Nat) : Int)).toNat = qtr σ 3 b0 := rfl
            have e2b : qtr σ 2 (((b0 : Nat) : Int)).toNat = qtr σ 2 b0 := rfl
            refine r_iload_n dX7_set_65 rfl ?_
            refine r_aload_n dX7_set_66 rfl ?_
            refine r_iload_n dX7_set_67 rfl ?_
            refine r_iconst (v := 2) dX7_set_68 (by decide) ?_
            refine r_callV2I dX7_set_69 moX7_row w_940 w_942 s_30 (hsh.al rfl (by decide)) cl7 rfl (Nat.le_of_ble_eq_true rfl) (Nat.le_of_ble_eq_true rfl) (S_mRow hN (k := b0) (i := 2) (by omega) (by decide)) ?_
            refine r_zicmp_ge  (tgt := 78) dX7_set_72 (by decide) rfl (nz _) hc (by have := wf.t2 (k := b0) (by omega); unfold inZ; omega) (fun h72 => ?_) (fun h72 => ?_)
            · have h10 : alZ (qtr σ) (qsz σ) (a0 : Nat) (b0 : Nat) c = true := decide_eq_true (by omega)
              have hwas := S_mTold (g := g) (d := d) (J := J) hM (f := (b0 : Nat)) (w := (a0 : Nat)) (by assumption) (by assumption)
              obtain ⟨c0, ec⟩ := Int.eq_ofNat_of_zero_le (show 0 ≤ c by omega)
              subst ec
              rw [← nz c0]
              by_cases h8 : a0 < 8
              · have hm : c0 ≤ dB a0 := by
                  have e : a0 = 0 ∨ a0 = 1 ∨ a0 = 2 ∨ a0 = 3 ∨ a0 = 4 ∨ a0 = 5 ∨ a0 = 6 ∨ a0 = 7 := by omega
                  have h2 := (of_decide_eq_true h10).2.2.2.1
                  rcases e with rfl | rfl | rfl | rfl | rfl | rfl | rfl | rfl <;> exact Int.ofNat_le.mp h2
                have e9 : toldV σ (b0 : Nat) (a0 : Nat) = (qdl σ a0 : Nat) := by unfold toldV; rw [if_pos (by omega), if_neg (by omega), if_pos (by omega)]; rfl
                rw [e9] at hwas
                have e0 : setAV σ (a0 : Nat) (b0 : Nat) c0 = (qdl σ a0 : Nat) := by unfold setAV; rw [h10, if_pos rfl, if_pos (by omega)]; rfl
                have e1 : setS σ (a0 : Nat) (b0 : Nat) c0 = wSky σ (up1 (qdl σ) a0 c0) (qtr σ) (qsz σ) (qrl σ) := by unfold setS; rw [h10, if_pos rfl, if_pos (by omega)]; rfl
                rw [e0, e1]
                refine r_aload_n dX7_set_78 rfl ?_
                refine r_iload_n dX7_set_79 rfl ?_
                refine r_iload_n dX7_set_80 rfl ?_
                refine r_callV2I dX7_set_81 moX7_told w_944 w_945 w_946 (hsh.al rfl (by decide)) cl7 rfl (Nat.le_of_ble_eq_true rfl) (Nat.le_of_ble_eq_true rfl) hwas ?_
                refine r_istore dX7_set_84 (by decide) rfl ?_
                refine r_iload_n dX7_set_86 rfl ?_
                refine r_bipush (v := 8) dX7_set_87 (by decide) ?_
                refine r_nicmp_ge (b := 8)  (tgt := 102) dX7_set_89 (by decide) rfl rfl (by omega) (by omega) (fun h89 => absurd h89 (by omega)) (fun h89 => ?_)
                refine r_aload_n dX7_set_92 rfl ?_
                refine r_getR (b := 106) dX7_set_93 f_X7_23 (hsh.al rfl (by decide)) (Or.inl ⟨_, rfl⟩) (hsh.r 102 7 106 (by decide)) (by decide) ?_
                refine r_iload_n dX7_set_96 rfl ?_
                refine r_iload_n dX7_set_97 rfl ?_
                refine r_iast (j := a0) dX7_set_98 (hsh.al rfl (by decide)) (by omega) rfl ?_
                refine r_goto (tgt := 116) dX7_set_99 (by decide) ?_
                refine r_iload dX7_set_116 rfl ?_
                refine r_iret dX7_set_118 rfl ?_
                exact PdM.to (hM.sky (hM.p.dU h8 hm) hM.rlt (fun a _ _ a3 _ _ _ _ _ => up2_a _ _ _ a3) (fun k hk => by rw [up2_a _ _ _ (by decide)]) hM.keep) fun a ha => up2_a _ _ _ (by omega)
              · have hb7 : b0 < qsz σ := by have := (of_decide_eq_true h10).2.2.2.2.1 (by omega); omega
                obtain ⟨j, rfl⟩ : ∃ j, a0 = 8 + j := ⟨a0 - 8, by omega⟩
                have hj5 : j < 5 := by omega
                have hm : c0 ≤ tB j := by
                  have e : j = 0 ∨ j = 1 ∨ j = 2 ∨ j = 3 ∨ j = 4 := by omega
                  have h2 := (of_decide_eq_true h10).2.2.2.1
                  rcases e with rfl | rfl | rfl | rfl | rfl <;> exact Int.ofNat_le.mp h2
                have ej2 : ((8 + j : Nat) : Int).toNat - 8 = j := by omega
                have e9 : toldV σ (b0 : Nat) ((8 + j : Nat) : Int) = (qtr σ j b0 : Nat) := by unfold toldV; rw [if_pos (by omega), if_neg (by omega), if_neg (by omega), ej2]; rfl
                rw [e9] at hwas
                have e0 : setAV σ ((8 + j : Nat) : Int) (b0 : Nat) c0 = (qtr σ j b0 : Nat) := by unfold setAV; rw [h10, if_pos rfl, if_neg (by omega), ej2]; rfl
                have e1 : setS σ ((8 + j : Nat) : Int) (b0 : Nat) c0 = wSky σ (qdl σ) (up2 (qtr σ) j b0 c0) (qsz σ) (qrl σ) := by unfold setS; rw [h10, if_pos rfl, if_neg (by omega), ej2]; rfl
                rw [e0, e1]
                refine r_aload_n dX7_set_78 rfl ?_
                refine r_iload_n dX7_set_79 rfl ?_
                refine r_iload_n dX7_set_80 rfl ?_
                refine r_callV2I dX7_set_81 moX7_told w_944 w_945 w_946 (hsh.al rfl (by decide)) cl7 rfl (Nat.le_of_ble_eq_true rfl) (Nat.le_of_ble_eq_true rfl) hwas ?_
                refine r_istore dX7_set_84 (by decide) rfl ?_
                refine r_iload_n dX7_set_86 rfl ?_
                refine r_bipush (v := 8) dX7_set_87 (by decide) ?_
                refine r_nicmp_ge (b := 8)  (tgt := 102) dX7_set_89 (by decide) rfl rfl (by omega) (by omega) (fun h89 => ?_) (fun h89 => absurd h89 (by omega))
                refine r_aload_n dX7_set_102 rfl ?_
                refine r_getR (b := 108) dX7_set_103 f_X7_29 (hsh.al rfl (by decide)) (Or.inl ⟨_, rfl⟩) (hsh.r 102 9 108 (by decide)) (by decide) ?_
                refine r_iconst (v := 5) dX7_set_106 (by decide) ?_
                refine r_iload_n dX7_set_107 rfl ?_
                refine r_nimul (a := 5) dX7_set_108 rfl rfl ?_
                refine r_iload_n dX7_set_109 rfl ?_
                refine r_niadd dX7_set_110 rfl rfl ?_
                refine r_bipush (v := 8) dX7_set_111 (by decide) ?_
                refine r_nisub (b := 8) dX7_set_113 rfl rfl (by omega) ?_
                refine r_iload_n dX7_set_114 rfl ?_
                refine r_iast (j := (5 * b0 + j)) dX7_set_115 (hsh.al rfl (by decide)) (by omega) (by congr 1; omega) ?_
                refine r_iload dX7_set_116 rfl ?_
                refine r_iret dX7_set_118 rfl ?_
                exact PdM.to (hM.sky (hM.p.rU hj5 hb7 hm) hM.rlt (fun a _ _ _ _ a5 _ _ _ => up2_a _ _ _ a5) (fun k hk => by rw [up2_a _ _ _ (by decide)]) (fun hb => ⟨(hM.keep hb).1, fun k hk => by rw [up2_a _ _ _ (by omega)]; exact (hM.keep hb).2 k hk⟩)) fun a ha => up2_a _ _ _ (by omega)
            · refine r_bipush (v := (-2)) dX7_set_75 (by decide) ?_
              refine r_iret dX7_set_77 rfl ?_
              have h10 : alZ (qtr σ) (qsz σ) (a0 : Nat) (b0 : Nat) c = false := decide_eq_false (by omega)
              have e0 : setAV σ (a0 : Nat) (b0 : Nat) c = -2 := by unfold setAV; rw [h10, if_neg (by decide)]
              have e1 : setS σ (a0 : Nat) (b0 : Nat) c = σ := by unfold setS; rw [h10, if_neg (by decide)]
              rw [e0, e1]
              exact PdM.rf hM
        · obtain ⟨b0, eb0⟩ := Int.eq_ofNat_of_zero_le (show 0 ≤ b by omega)
          subst eb0
          rw [← nz b0]
          have e3b : qtr σ 3 (((b0 : Nat) : Int)).toNat = qtr σ 3 b0 := rfl
          have e2b : qtr σ 2 (((b0 : Nat) : Int)).toNat = qtr σ 2 b0 := rfl
          refine r_iload_n dX7_set_49 rfl ?_
          refine r_aload_n dX7_set_50 rfl ?_
          refine r_iload_n dX7_set_51 rfl ?_
          refine r_iconst (v := 3) dX7_set_52 (by decide) ?_
          refine r_callV2I dX7_set_53 moX7_row w_940 w_942 s_30 (hsh.al rfl (by decide)) cl7 rfl (Nat.le_of_ble_eq_true rfl) (Nat.le_of_ble_eq_true rfl) (S_mRow hN (k := b0) (i := 3) (by omega) (by decide)) ?_
          refine r_zicmp_gt  (tgt := 75) dX7_set_56 (by decide) rfl (nz _) hc (by have := wf.t3 (k := b0) (by omega); unfold inZ; omega) (fun h56 => ?_) (fun h56 => ?_)
          · refine r_bipush (v := (-2)) dX7_set_75 (by decide) ?_
            refine r_iret dX7_set_77 rfl ?_
            have h10 : alZ (qtr σ) (qsz σ) (a0 : Nat) (b0 : Nat) c = false := decide_eq_false (by omega)
            have e0 : setAV σ (a0 : Nat) (b0 : Nat) c = -2 := by unfold setAV; rw [h10, if_neg (by decide)]
            have e1 : setS σ (a0 : Nat) (b0 : Nat) c = σ := by unfold setS; rw [h10, if_neg (by decide)]
            rw [e0, e1]
            exact PdM.rf hM
          · refine r_iload_n dX7_set_59 rfl ?_
            refine r_bipush (v := 11) dX7_set_60 (by decide) ?_
            refine r_nicmp_ne (b := 11)  (tgt := 78) dX7_set_62 (by decide) rfl rfl (by omega) (by omega) (fun h62 => ?_) (fun h62 => ?_)
            · have h10 : alZ (qtr σ) (qsz σ) (a0 : Nat) (b0 : Nat) c = true := decide_eq_true (by omega)
              have hwas := S_mTold (g := g) (d := d) (J := J) hM (f := (b0 : Nat)) (w := (a0 : Nat)) (by assumption) (by assumption)
              obtain ⟨c0, ec⟩ := Int.eq_ofNat_of_zero_le (show 0 ≤ c by omega)
              subst ec
              rw [← nz c0]
              by_cases h8 : a0 < 8
              · have hm : c0 ≤ dB a0 := by
                  have e : a0 = 0 ∨ a0 = 1 ∨ a0 = 2 ∨ a0 = 3 ∨ a0 = 4 ∨ a0 = 5 ∨ a0 = 6 ∨ a0 = 7 := by omega
                  have h2 := (of_decide_eq_true h10).2.2.2.1
                  rcases e with rfl | rfl | rfl | rfl | rfl | rfl | rfl | rfl <;> exact Int.ofNat_le.mp h2
                have e9 : toldV σ (b0 : Nat) (a0 : Nat) = (qdl σ a0 : Nat) := by unfold toldV; rw [if_pos (by omega), if_neg (by omega), if_pos (by omega)]; rfl
                rw [e9] at hwas
                have e0 : setAV σ (a0 : Nat) (b0 : Nat) c0 = (qdl σ a0 : Nat) := by unfold setAV; rw [h10, if_pos rfl, if_pos (by omega)]; rfl
                have e1 : setS σ (a0 : Nat) (b0 : Nat) c0 = wSky σ (up1 (qdl σ) a0 c0) (qtr σ) (qsz σ) (qrl σ) := by unfold setS; rw [h10, if_pos rfl, if_pos (by omega)]; rfl
                rw [e0, e1]
                refine r_aload_n dX7_set_78 rfl ?_
                refine r_iload_n dX7_set_79 rfl ?_
                refine r_iload_n dX7_set_80 rfl ?_
                refine r_callV2I dX7_set_81 moX7_told w_944 w_945 w_946 (hsh.al rfl (by decide)) cl7 rfl (Nat.le_of_ble_eq_true rfl) (Nat.le_of_ble_eq_true rfl) hwas ?_
                refine r_istore dX7_set_84 (by decide) rfl ?_
                refine r_iload_n dX7_set_86 rfl ?_
                refine r_bipush (v := 8) dX7_set_87 (by decide) ?_
                refine r_nicmp_ge (b := 8)  (tgt := 102) dX7_set_89 (by decide) rfl rfl (by omega) (by omega) (fun h89 => absurd h89 (by omega)) (fun h89 => ?_)
                refine r_aload_n dX7_set_92 rfl ?_
                refine r_getR (b := 106) dX7_set_93 f_X7_23 (hsh.al rfl (by decide)) (Or.inl ⟨_, rfl⟩) (hsh.r 102 7 106 (by decide)) (by decide) ?_
                refine r_iload_n dX7_set_96 rfl ?_
                refine r_iload_n dX7_set_97 rfl ?_
                refine r_iast (j := a0) dX7_set_98 (hsh.al rfl (by decide)) (by omega) rfl ?_
                refine r_goto (tgt := 116) dX7_set_99 (by decide) ?_
                refine r_iload dX7_set_116 rfl ?_
                refine r_iret dX7_set_118 rfl ?_
                exact PdM.to (hM.sky (hM.p.dU h8 hm) hM.rlt (fun a _ _ a3 _ _ _ _ _ => up2_a _ _ _ a3) (fun k hk => by rw [up2_a _ _ _ (by decide)]) hM.keep) fun a ha => up2_a _ _ _ (by omega)
              · have hb7 : b0 < qsz σ := by have := (of_decide_eq_true h10).2.2.2.2.1 (by omega); omega
                obtain ⟨j, rfl⟩ : ∃ j, a0 = 8 + j := ⟨a0 - 8, by omega⟩
                have hj5 : j < 5 := by omega
                have hm : c0 ≤ tB j := by
                  have e : j = 0 ∨ j = 1 ∨ j = 2 ∨ j = 3 ∨ j = 4 := by omega
                  have h2 := (of_decide_eq_true h10).2.2.2.1
                  rcases e with rfl | rfl | rfl | rfl | rfl <;> exact Int.ofNat_le.mp h2
                have ej2 : ((8 + j : Nat) : Int).toNat - 8 = j := by omega
                have e9 : toldV σ (b0 : Nat) ((8 + j : Nat) : Int) = (qtr σ j b0 : Nat) := by unfold toldV; rw [if_pos (by omega), if_neg (by omega), if_neg (by omega), ej2]; rfl
                rw [e9] at hwas
                have e0 : setAV σ ((8 + j : Nat) : Int) (b0 : Nat) c0 = (qtr σ j b0 : Nat) := by unfold setAV; rw [h10, if_pos rfl, if_neg (by omega), ej2]; rfl
                have e1 : setS σ ((8 + j : Nat) : Int) (b0 : Nat) c0 = wSky σ (qdl σ) (up2 (qtr σ) j b0 c0) (qsz σ) (qrl σ) := by unfold setS; rw [h10, if_pos rfl, if_neg (by omega), ej2]; rfl
                rw [e0, e1]
                refine r_aload_n dX7_set_78 rfl ?_
                refine r_iload_n dX7_set_79 rfl ?_
                refine r_iload_n dX7_set_80 rfl ?_
                refine r_callV2I dX7_set_81 moX7_told w_944 w_945 w_946 (hsh.al rfl (by decide)) cl7 rfl (Nat.le_of_ble_eq_true rfl) (Nat.le_of_ble_eq_true rfl) hwas ?_
                refine r_istore dX7_set_84 (by decide) rfl ?_
                refine r_iload_n dX7_set_86 rfl ?_
                refine r_bipush (v := 8) dX7_set_87 (by decide) ?_
                refine r_nicmp_ge (b := 8)  (tgt := 102) dX7_set_89 (by decide) rfl rfl (by omega) (by omega) (fun h89 => ?_) (fun h89 => absurd h89 (by omega))
                refine r_aload_n dX7_set_102 rfl ?_
                refine r_getR (b := 108) dX7_set_103 f_X7_29 (hsh.al rfl (by decide)) (Or.inl ⟨_, rfl⟩) (hsh.r 102 9 108 (by decide)) (by decide) ?_
                refine r_iconst (v := 5) dX7_set_106 (by decide) ?_
                refine r_iload_n dX7_set_107 rfl ?_
                refine r_nimul (a := 5) dX7_set_108 rfl rfl ?_
                refine r_iload_n dX7_set_109 rfl ?_
                refine r_niadd dX7_set_110 rfl rfl ?_
                refine r_bipush (v := 8) dX7_set_111 (by decide) ?_
                refine r_nisub (b := 8) dX7_set_113 rfl rfl (by omega) ?_
                refine r_iload_n dX7_set_114 rfl ?_
                refine r_iast (j := (5 * b0 + j)) dX7_set_115 (hsh.al rfl (by decide)) (by omega) (by congr 1; omega) ?_
                refine r_iload dX7_set_116 rfl ?_
                refine r_iret dX7_set_118 rfl ?_
                exact PdM.to (hM.sky (hM.p.rU hj5 hb7 hm) hM.rlt (fun a _ _ _ _ a5 _ _ _ => up2_a _ _ _ a5) (fun k hk => by rw [up2_a _ _ _ (by decide)]) (fun hb => ⟨(hM.keep hb).1, fun k hk => by rw [up2_a _ _ _ (by omega)]; exact (hM.keep hb).2 k hk⟩)) fun a ha => up2_a _ _ _ (by omega)
            · refine r_iload_n dX7_set_65 rfl ?_
              refine r_aload_n dX7_set_66 rfl ?_
              refine r_iload_n dX7_set_67 rfl ?_
              refine r_iconst (v := 2) dX7_set_68 (by decide) ?_
              refine r_callV2I dX7_set_69 moX7_row w_940 w_942 s_30 (hsh.al rfl (by decide)) cl7 rfl (Nat.le_of_ble_eq_true rfl) (Nat.le_of_ble_eq_true rfl) (S_mRow hN (k := b0) (i := 2) (by omega) (by decide)) ?_
              refine r_zicmp_ge  (tgt := 78) dX7_set_72 (by decide) rfl (nz _) hc (by have := wf.t2 (k := b0) (by omega); unfold inZ; omega) (fun h72 => ?_) (fun h72 => ?_)
              · have h10 : alZ (qtr σ) (qsz σ) (a0 : Nat) (b0 : Nat) c = true := decide_eq_true (by omega)
                have hwas := S_mTold (g := g) (d := d) (J := J) hM (f := (b0 : Nat)) (w := (a0 : Nat)) (by assumption) (by assumption)
                obtain ⟨c0, ec⟩ := Int.eq_ofNat_of_zero_le (show 0 ≤ c by omega)
                subst ec
                rw [← nz c0]
                by_cases h8 : a0 < 8
                · have hm : c0 ≤ dB a0 := by
                    have e : a0 = 0 ∨ a0 = 1 ∨ a0 = 2 ∨ a0 = 3 ∨ a0 = 4 ∨ a0 = 5 ∨ a0 = 6 ∨ a0 = 7 := by omega
                    have h2 := (of_decide_eq_true h10).2.2.2.1
                    rcases e with rfl | rfl | rfl | rfl | rfl | rfl | rfl | rfl <;> exact Int.ofNat_le.mp h2
                  have e9 : toldV σ (b0 : Nat) (a0 : Nat) = (qdl σ a0 : Nat) := by unfold toldV; rw [if_pos (by omega), if_neg (by omega), if_pos (by omega)]; rfl
                  rw [e9] at hwas
                  have e0 : setAV σ (a0 : Nat) (b0 : Nat) c0 = (qdl σ a0 : Nat) := by unfold setAV; rw [h10, if_pos rfl, if_pos (by omega)]; rfl
                  have e1 : setS σ (a0 : Nat) (b0 : Nat) c0 = wSky σ (up1 (qdl σ) a0 c0) (qtr σ) (qsz σ) (qrl σ) := by unfold setS; rw [h10, if_pos rfl, if_pos (by omega)]; rfl
                  rw [e0, e1]
                  refine r_aload_n dX7_set_78 rfl ?_
                  refine r_iload_n dX7_set_79 rfl ?_
                  refine r_iload_n dX7_set_80 rfl ?_
                  refine r_callV2I dX7_set_81 moX7_told w_944 w_945 w_946 (hsh.al rfl (by decide)) cl7 rfl (Nat.le_of_ble_eq_true rfl) (Nat.le_of_ble_eq_true rfl) hwas ?_
                  refine r_istore dX7_set_84 (by decide) rfl ?_
                  refine r_iload_n dX7_set_86 rfl ?_
                  refine r_bipush (v := 8) dX7_set_87 (by decide) ?_
                  refine r_nicmp_ge (b := 8)  (tgt := 102) dX7_set_89 (by decide) rfl rfl (by omega) (by omega) (fun h89 => absurd h89 (by omega)) (fun h89 => ?_)
                  refine r_aload_n dX7_set_92 rfl ?_
                  refine r_getR (b := 106) dX7_set_93 f_X7_23 (hsh.al rfl (by decide)) (Or.inl ⟨_, rfl⟩) (hsh.r 102 7 106 (by decide)) (by decide) ?_
                  refine r_iload_n dX7_set_96 rfl ?_
                  refine r_iload_n dX7_set_97 rfl ?_
                  refine r_iast (j := a0) dX7_set_98 (hsh.al rfl (by decide)) (by omega) rfl ?_
                  refine r_goto (tgt := 116) dX7_set_99 (by decide) ?_
                  refine r_iload dX7_set_116 rfl ?_
                  refine r_iret dX7_set_118 rfl ?_
                  exact PdM.to (hM.sky (hM.p.dU h8 hm) hM.rlt (fun a _ _ a3 _ _ _ _ _ => up2_a _ _ _ a3) (fun k hk => by rw [up2_a _ _ _ (by decide)]) hM.keep) fun a ha => up2_a _ _ _ (by omega)
                · have hb7 : b0 < qsz σ := by have := (of_decide_eq_true h10).2.2.2.2.1 (by omega); omega
                  obtain ⟨j, rfl⟩ : ∃ j, a0 = 8 + j := ⟨a0 - 8, by omega⟩
                  have hj5 : j < 5 := by omega
                  have hm : c0 ≤ tB j := by
                    have e : j = 0 ∨ j = 1 ∨ j = 2 ∨ j = 3 ∨ j = 4 := by omega
                    have h2 := (of_decide_eq_true h10).2.2.2.1
                    rcases e with rfl | rfl | rfl | rfl | rfl <;> exact Int.ofNat_le.mp h2
                  have ej2 : ((8 + j : Nat) : Int).toNat - 8 = j := by omega
                  have e9 : toldV σ (b0 : Nat) ((8 + j : Nat) : Int) = (qtr σ j b0 : Nat) := by unfold toldV; rw [if_pos (by omega), if_neg (by omega), if_neg (by omega), ej2]; rfl
                  rw [e9] at hwas
                  have e0 : setAV σ ((8 + j : Nat) : Int) (b0 : Nat) c0 = (qtr σ j b0 : Nat) := by unfold setAV; rw [h10, if_pos rfl, if_neg (by omega), ej2]; rfl
                  have e1 : setS σ ((8 + j : Nat) : Int) (b0 : Nat) c0 = wSky σ (qdl σ) (up2 (qtr σ) j b0 c0) (qsz σ) (qrl σ) := by unfold setS; rw [h10, if_pos rfl, if_neg (by omega), ej2]; rfl
                  rw [e0, e1]
                  refine r_aload_n dX7_set_78 rfl ?_
                  refine r_iload_n dX7_set_79 rfl ?_
                  refine r_iload_n dX7_set_80 rfl ?_
                  refine r_callV2I dX7_set_81 moX7_told w_944 w_945 w_946 (hsh.al rfl (by decide)) cl7 rfl (Nat.le_of_ble_eq_true rfl) (Nat.le_of_ble_eq_true rfl) hwas ?_
                  refine r_istore dX7_set_84 (by decide) rfl ?_
                  refine r_iload_n dX7_set_86 rfl ?_
                  refine r_bipush (v := 8) dX7_set_87 (by decide) ?_
                  refine r_nicmp_ge (b := 8)  (tgt := 102) dX7_set_89 (by decide) rfl rfl (by omega) (by omega) (fun h89 => ?_) (fun h89 => absurd h89 (by omega))
                  refine r_aload_n dX7_set_102 rfl ?_
                  refine r_getR (b := 108) dX7_set_103 f_X7_29 (hsh.al rfl (by decide)) (Or.inl ⟨_, rfl⟩) (hsh.r 102 9 108 (by decide)) (by decide) ?_
                  refine r_iconst (v := 5) dX7_set_106 (by decide) ?_
                  refine r_iload_n dX7_set_107 rfl ?_
                  refine r_nimul (a := 5) dX7_set_108 rfl rfl ?_
                  refine r_iload_n dX7_set_109 rfl ?_
                  refine r_niadd dX7_set_110 rfl rfl ?_
                  refine r_bipush (v := 8) dX7_set_111 (by decide) ?_
                  refine r_nisub (b := 8) dX7_set_113 rfl rfl (by omega) ?_
                  refine r_iload_n dX7_set_114 rfl ?_
                  refine r_iast (j := (5 * b0 + j)) dX7_set_115 (hsh.al rfl (by decide)) (by omega) (by congr 1; omega) ?_
                  refine r_iload dX7_set_116 rfl ?_
                  refine r_iret dX7_set_118 rfl ?_
                  exact PdM.to (hM.sky (hM.p.rU hj5 hb7 hm) hM.rlt (fun a _ _ _ _ a5 _ _ _ => up2_a _ _ _ a5) (fun k hk => by rw [up2_a _ _ _ (by decide)]) (fun hb => ⟨(hM.keep hb).1, fun k hk => by rw [up2_a _ _ _ (by omega)]; exact (hM.keep hb).2 k hk⟩)) fun a ha => up2_a _ _ _ (by omega)
              · refine r_bipush (v := (-2)) dX7_set_75 (by decide) ?_
                refine r_iret dX7_set_77 rfl ?_
                have h10 : alZ (qtr σ) (qsz σ) (a0 : Nat) (b0 : Nat) c = false := decide_eq_false (by omega)
                have e0 : setAV σ (a0 : Nat) (b0 : Nat) c = -2 := by unfold setAV; rw [h10, if_neg (by decide)]
                have e1 : setS σ (a0 : Nat) (b0 : Nat) c = σ := by unfold setS; rw [h10, if_neg (by decide)]
                rw [e0, e1]
                exact PdM.rf hM
      · rw [decide_eq_false_iff_not] at h37
        refine r_bipush (v := (-2)) dX7_set_40 (by decide) ?_
        refine r_iret dX7_set_42 rfl ?_
        have h10 : alZ (qtr σ) (qsz σ) (a0 : Nat) b c = false := decide_eq_false (by omega)
        have e0 : setAV σ (a0 : Nat) b c = -2 := by unfold setAV; rw [h10, if_neg (by decide)]
        have e1 : setS σ (a0 : Nat) b c = σ := by unfold setS; rw [h10, if_neg (by decide)]
        rw [e0, e1]
        exact PdM.rf hM
    · refine r_aload_n dX7_set_18 rfl ?_
      refine r_iload_n dX7_set_19 rfl ?_
      refine r_callV1I dX7_set_20 moX7_isSight w_933 w_935 s_29 (hsh.al rfl (by decide)) cl7 rfl (Nat.le_of_ble_eq_true rfl) (Nat.le_of_ble_eq_true rfl) (S_mIsSight hsh hN.many hz (a := b) hb) ?_
      refine r_ifb_eq (tgt := 40) dX7_set_23 (by decide) (fun h23 => ?_) (fun h23 => ?_)
      · rw [decide_eq_false_iff_not] at h23
        refine r_bipush (v := (-2)) dX7_set_40 (by decide) ?_
        refine r_iret dX7_set_42 rfl ?_
        have h10 : alZ (qtr σ) (qsz σ) a b c = false := decide_eq_false (by omega)
        have e0 : setAV σ a b c = -2 := by unfold setAV; rw [h10, if_neg (by decide)]
        have e1 : setS σ a b c = σ := by unfold setS; rw [h10, if_neg (by decide)]
        rw [e0, e1]
        exact PdM.rf hM
      · rw [decide_eq_true_eq] at h23
        obtain ⟨a0, ea⟩ := Int.eq_ofNat_of_zero_le (show 0 ≤ a by omega)
        subst ea
        rw [← nz a0]
        have m199 := mostN_le a0
        have em : mostN (((a0 : Nat) : Int)).toNat = mostN a0 := rfl
        refine r_iload_n dX7_set_26 rfl ?_
        refine r_zi2l dX7_set_27 rfl hc ?_
        refine r_lconst (v := 0) dX7_set_28 (by decide) ?_
        refine r_iload_n dX7_set_29 rfl ?_
        refine r_callS1I dX7_set_30 moX7_mostOf w_937 w_938 (Nat.le_of_ble_eq_true rfl) (Nat.le_of_ble_eq_true rfl) (S_mMost (a := a0) (by omega)) ?_
        refine r_zi2l dX7_set_33 (nz _) (by unfold inZ; omega) ?_
        refine r_callS3I dX7_set_34 moX7_in w_930 w_931 (Nat.le_of_ble_eq_true rfl) (Nat.le_of_ble_eq_true rfl) (S_in3 (z := c) (lo := 0) (hi := ((mostN a0 : Nat) : Int)) hc (by decide) rfl (by unfold inZ; omega) (by unfold inZ; omega)) ?_
        refine r_ifb_ne (tgt := 43) dX7_set_37 (by decide) (fun h37 => ?_) (fun h37 => ?_)
        · rw [decide_eq_true_eq] at h37
          refine r_iload_n dX7_set_43 rfl ?_
          refine r_bipush (v := 10) dX7_set_44 (by decide) ?_
          refine r_nicmp_ne (b := 10)  (tgt := 59) dX7_set_46 (by decide) rfl rfl (by omega) (by omega) (fun h46 => ?_) (fun h46 => ?_)
          · refine r_iload_n dX7_set_59 rfl ?_
            refine r_bipush (v := 11) dX7_set_60 (by decide) ?_
            refine r_nicmp_ne (b := 11)  (tgt := 78) dX7_set_62 (by decide) rfl rfl (by omega) (by omega) (fun h62 => ?_) (fun h62 => ?_)
            · have h10 : alZ (qtr σ) (qsz σ) (a0 : Nat) b c = true := decide_eq_true (by omega)
              have hwas := S_mTold (g := g) (d := d) (J := J) hM (f := b) (w := (a0 : Nat)) (by assumption) (by assumption)
              obtain ⟨c0, ec⟩ := Int.eq_ofNat_of_zero_le (show 0 ≤ c by omega)
              subst ec
              rw [← nz c0]
              by_cases h8 : a0 < 8
              · have hm : c0 ≤ dB a0 := by
                  have e : a0 = 0 ∨ a0 = 1 ∨ a0 = 2 ∨ a0 = 3 ∨ a0 = 4 ∨ a0 = 5 ∨ a0 = 6 ∨ a0 = 7 := by omega
                  have h2 := (of_decide_eq_true h10).2.2.2.1
                  rcases e with rfl | rfl | rfl | rfl | rfl | rfl | rfl | rfl <;> exact Int.ofNat_le.mp h2
                have e9 : toldV σ b (a0 : Nat) = (qdl σ a0 : Nat) := by unfold toldV; rw [if_pos (by omega), if_neg (by omega), if_pos (by omega)]; rfl
                rw [e9] at hwas
                have e0 : setAV σ (a0 : Nat) b c0 = (qdl σ a0 : Nat) := by unfold setAV; rw [h10, if_pos rfl, if_pos (by omega)]; rfl
                have e1 : setS σ (a0 : Nat) b c0 = wSky σ (up1 (qdl σ) a0 c0) (qtr σ) (qsz σ) (qrl σ) := by unfold setS; rw [h10, if_pos rfl, if_pos (by omega)]; rfl
                rw [e0, e1]
                refine r_aload_n dX7_set_78 rfl ?_
                refine r_iload_n dX7_set_79 rfl ?_
                refine r_iload_n dX7_set_80 rfl ?_
                refine r_callV2I dX7_set_81 moX7_told w_944 w_945 w_946 (hsh.al rfl (by decide)) cl7 rfl (Nat.le_of_ble_eq_true rfl) (Nat.le_of_ble_eq_true rfl) hwas ?_
                refine r_istore dX7_set_84 (by decide) rfl ?_
                refine r_iload_n dX7_set_86 rfl ?_
                refine r_bipush (v := 8) dX7_set_87 (by decide) ?_
                refine r_nicmp_ge (b := 8)  (tgt := 102) dX7_set_89 (by decide) rfl rfl (by omega) (by omega) (fun h89 => absurd h89 (by omega)) (fun h89 => ?_)
                refine r_aload_n dX7_set_92 rfl ?_
                refine r_getR (b := 106) dX7_set_93 f_X7_23 (hsh.al rfl (by decide)) (Or.inl ⟨_, rfl⟩) (hsh.r 102 7 106 (by decide)) (by decide) ?_
                refine r_iload_n dX7_set_96 rfl ?_
                refine r_iload_n dX7_set_97 rfl ?_
                refine r_iast (j := a0) dX7_set_98 (hsh.al rfl (by decide)) (by omega) rfl ?_
                refine r_goto (tgt := 116) dX7_set_99 (by decide) ?_
                refine r_iload dX7_set_116 rfl ?_
                refine r_iret dX7_set_118 rfl ?_
                exact PdM.to (hM.sky (hM.p.dU h8 hm) hM.rlt (fun a _ _ a3 _ _ _ _ _ => up2_a _ _ _ a3) (fun k hk => by rw [up2_a _ _ _ (by decide)]) hM.keep) fun a ha => up2_a _ _ _ (by omega)
              · obtain ⟨b0, eb⟩ := Int.eq_ofNat_of_zero_le (show 0 ≤ b by have := (of_decide_eq_true h10).2.2.2.2.1 (by omega); omega)
                subst eb
                rw [← nz b0] at hwas ⊢
                have hb7 : b0 < qsz σ := by have := (of_decide_eq_true h10).2.2.2.2.1 (by omega); omega
                obtain ⟨j, rfl⟩ : ∃ j, a0 = 8 + j := ⟨a0 - 8, by omega⟩
                have hj5 : j < 5 := by omega
                have hm : c0 ≤ tB j := by
                  have e : j = 0 ∨ j = 1 ∨ j = 2 ∨ j = 3 ∨ j = 4 := by omega
                  have h2 := (of_decide_eq_true h10).2.2.2.1
                  rcases e with rfl | rfl | rfl | rfl | rfl <;> exact Int.ofNat_le.mp h2
                have ej2 : ((8 + j : Nat) : Int).toNat - 8 = j := by omega
                have e9 : toldV σ (b0 : Nat) ((8 + j : Nat) : Int) = (qtr σ j b0 : Nat) := by unfold toldV; rw [if_pos (by omega), if_neg (by omega), if_neg (by omega), ej2]; rfl
                rw [e9] at hwas
                have e0 : setAV σ ((8 + j : Nat) : Int) (b0 : Nat) c0 = (qtr σ j b0 : Nat) := by unfold setAV; rw [h10, if_pos rfl, if_neg (by omega), ej2]; rfl
                have e1 : setS σ ((8 + j : Nat) : Int) (b0 : Nat) c0 = wSky σ (qdl σ) (up2 (qtr σ) j b0 c0) (qsz σ) (qrl σ) := by unfold setS; rw [h10, if_pos rfl, if_neg (by omega), ej2]; rfl
                rw [e0, e1]
                refine r_aload_n dX7_set_78 rfl ?_
                refine r_iload_n dX7_set_79 rfl ?_
                refine r_iload_n dX7_set_80 rfl ?_
                refine r_callV2I dX7_set_81 moX7_told w_944 w_945 w_946 (hsh.al rfl (by decide)) cl7 rfl (Nat.le_of_ble_eq_true rfl) (Nat.le_of_ble_eq_true rfl) hwas ?_
                refine r_istore dX7_set_84 (by decide) rfl ?_
                refine r_iload_n dX7_set_86 rfl ?_
                refine r_bipush (v := 8) dX7_set_87 (by decide) ?_
                refine r_nicmp_ge (b := 8)  (tgt := 102) dX7_set_89 (by decide) rfl rfl (by omega) (by omega) (fun h89 => ?_) (fun h89 => absurd h89 (by omega))
                refine r_aload_n dX7_set_102 rfl ?_
                refine r_getR (b := 108) dX7_set_103 f_X7_29 (hsh.al rfl (by decide)) (Or.inl ⟨_, rfl⟩) (hsh.r 102 9 108 (by decide)) (by decide) ?_
                refine r_iconst (v := 5) dX7_set_106 (by decide) ?_
                refine r_iload_n dX7_set_107 rfl ?_
                refine r_nimul (a := 5) dX7_set_108 rfl rfl ?_
                refine r_iload_n dX7_set_109 rfl ?_
                refine r_niadd dX7_set_110 rfl rfl ?_
                refine r_bipush (v := 8) dX7_set_111 (by decide) ?_
                refine r_nisub (b := 8) dX7_set_113 rfl rfl (by omega) ?_
                refine r_iload_n dX7_set_114 rfl ?_
                refine r_iast (j := (5 * b0 + j)) dX7_set_115 (hsh.al rfl (by decide)) (by omega) (by congr 1; omega) ?_
                refine r_iload dX7_set_116 rfl ?_
                refine r_iret dX7_set_118 rfl ?_
                exact PdM.to (hM.sky (hM.p.rU hj5 hb7 hm) hM.rlt (fun a _ _ _ _ a5 _ _ _ => up2_a _ _ _ a5) (fun k hk => by rw [up2_a _ _ _ (by decide)]) (fun hb => ⟨(hM.keep hb).1, fun k hk => by rw [up2_a _ _ _ (by omega)]; exact (hM.keep hb).2 k hk⟩)) fun a ha => up2_a _ _ _ (by omega)
            · obtain ⟨b0, eb0⟩ := Int.eq_ofNat_of_zero_le (show 0 ≤ b by omega)
              subst eb0
              rw [← nz b0]
              have e3b : qtr σ 3 (((b0 : Nat) : Int)).toNat = qtr σ 3 b0 := rfl
              have e2b : qtr σ 2 (((b0 : Nat) : Int)).toNat = qtr σ 2 b0 := rfl
              refine r_iload_n dX7_set_65 rfl ?_
              refine r_aload_n dX7_set_66 rfl ?_
              refine r_iload_n dX7_set_67 rfl ?_
              refine r_iconst (v := 2) dX7_set_68 (by decide) ?_
              refine r_callV2I dX7_set_69 moX7_row w_940 w_942 s_30 (hsh.al rfl (by decide)) cl7 rfl (Nat.le_of_ble_eq_true rfl) (Nat.le_of_ble_eq_true rfl) (S_mRow hN (k := b0) (i := 2) (by omega) (by decide)) ?_
              refine r_zicmp_ge  (tgt := 78) dX7_set_72 (by decide) rfl (nz _) hc (by have := wf.t2 (k := b0) (by omega); unfold inZ; omega) (fun h72 => ?_) (fun h72 => ?_)
              · have h10 : alZ (qtr σ) (qsz σ) (a0 : Nat) (b0 : Nat) c = true := decide_eq_true (by omega)
                have hwas := S_mTold (g := g) (d := d) (J := J) hM (f := (b0 : Nat)) (w := (a0 : Nat)) (by assumption) (by assumption)
                obtain ⟨c0, ec⟩ := Int.eq_ofNat_of_zero_le (show 0 ≤ c by omega)
                subst ec
                rw [← nz c0]
                by_cases h8 : a0 < 8
                · have hm : c0 ≤ dB a0 := by
                    have e : a0 = 0 ∨ a0 = 1 ∨ a0 = 2 ∨ a0 = 3 ∨ a0 = 4 ∨ a0 = 5 ∨ a0 = 6 ∨ a0 = 7 := by omega
                    have h2 := (of_decide_eq_true h10).2.2.2.1
                    rcases e with rfl | rfl | rfl | rfl | rfl | rfl | rfl | rfl <;> exact Int.ofNat_le.mp h2
                  have e9 : toldV σ (b0 : Nat) (a0 : Nat) = (qdl σ a0 : Nat) := by unfold toldV; rw [if_pos (by omega), if_neg (by omega), if_pos (by omega)]; rfl
                  rw [e9] at hwas
                  have e0 : setAV σ (a0 : Nat) (b0 : Nat) c0 = (qdl σ a0 : Nat) := by unfold setAV; rw [h10, if_pos rfl, if_pos (by omega)]; rfl
                  have e1 : setS σ (a0 : Nat) (b0 : Nat) c0 = wSky σ (up1 (qdl σ) a0 c0) (qtr σ) (qsz σ) (qrl σ) := by unfold setS; rw [h10, if_pos rfl, if_pos (by omega)]; rfl
                  rw [e0, e1]
                  refine r_aload_n dX7_set_78 rfl ?_
                  refine r_iload_n dX7_set_79 rfl ?_
                  refine r_iload_n dX7_set_80 rfl ?_
                  refine r_callV2I dX7_set_81 moX7_told w_944 w_945 w_946 (hsh.al rfl (by decide)) cl7 rfl (Nat.le_of_ble_eq_true rfl) (Nat.le_of_ble_eq_true rfl) hwas ?_
                  refine r_istore dX7_set_84 (by decide) rfl ?_
                  refine r_iload_n dX7_set_86 rfl ?_
                  refine r_bipush (v := 8) dX7_set_87 (by decide) ?_
                  refine r_nicmp_ge (b := 8)  (tgt := 102) dX7_set_89 (by decide) rfl rfl (by omega) (by omega) (fun h89 => absurd h89 (by omega)) (fun h89 => ?_)
                  refine r_aload_n dX7_set_92 rfl ?_
                  refine r_getR (b := 106) dX7_set_93 f_X7_23 (hsh.al rfl (by decide)) (Or.inl ⟨_, rfl⟩) (hsh.r 102 7 106 (by decide)) (by decide) ?_
                  refine r_iload_n dX7_set_96 rfl ?_
                  refine r_iload_n dX7_set_97 rfl ?_
                  refine r_iast (j := a0) dX7_set_98 (hsh.al rfl (by decide)) (by omega) rfl ?_
                  refine r_goto (tgt := 116) dX7_set_99 (by decide) ?_
                  refine r_iload dX7_set_116 rfl ?_
                  refine r_iret dX7_set_118 rfl ?_
                  exact PdM.to (hM.sky (hM.p.dU h8 hm) hM.rlt (fun a _ _ a3 _ _ _ _ _ => up2_a _ _ _ a3) (fun k hk => by rw [up2_a _ _ _ (by decide)]) hM.keep) fun a ha => up2_a _ _ _ (by omega)
                · have hb7 : b0 < qsz σ := by have := (of_decide_eq_true h10).2.2.2.2.1 (by omega); omega
                  obtain ⟨j, rfl⟩ : ∃ j, a0 = 8 + j := ⟨a0 - 8, by omega⟩
                  have hj5 : j < 5 := by omega
                  have hm : c0 ≤ tB j := by
                    have e : j = 0 ∨ j = 1 ∨ j = 2 ∨ j = 3 ∨ j = 4 := by omega
                    have h2 := (of_decide_eq_true h10).2.2.2.1
                    rcases e with rfl | rfl | rfl | rfl | rfl <;> exact Int.ofNat_le.mp h2
                  have ej2 : ((8 + j : Nat) : Int).toNat - 8 = j := by omega
                  have e9 : toldV σ (b0 : Nat) ((8 + j : Nat) : Int) = (qtr σ j b0 : Nat) := by unfold toldV; rw [if_pos (by omega), if_neg (by omega), if_neg (by omega), ej2]; rfl
                  rw [e9] at hwas
                  have e0 : setAV σ ((8 + j : Nat) : Int) (b0 : Nat) c0 = (qtr σ j b0 : Nat) := by unfold setAV; rw [h10, if_pos rfl, if_neg (by omega), ej2]; rfl
                  have e1 : setS σ ((8 + j : Nat) : Int) (b0 : Nat) c0 = wSky σ (qdl σ) (up2 (qtr σ) j b0 c0) (qsz σ) (qrl σ) := by unfold setS; rw [h10, if_pos rfl, if_neg (by omega), ej2]; rfl
                  rw [e0, e1]
                  refine r_aload_n dX7_set_78 rfl ?_
                  refine r_iload_n dX7_set_79 rfl ?_
                  refine r_iload_n dX7_set_80 rfl ?_
                  refine r_callV2I dX7_set_81 moX7_told w_944 w_945 w_946 (hsh.al rfl (by decide)) cl7 rfl (Nat.le_of_ble_eq_true rfl) (Nat.le_of_ble_eq_true rfl) hwas ?_
                  refine r_istore dX7_set_84 (by decide) rfl ?_
                  refine r_iload_n dX7_set_86 rfl ?_
                  refine r_bipush (v := 8) dX7_set_87 (by decide) ?_
                  refine r_nicmp_ge (b := 8)  (tgt := 102) dX7_set_89 (by decide) rfl rfl (by omega) (by omega) (fun h89 => ?_) (fun h89 => absurd h89 (by omega))
                  refine r_aload_n dX7_set_102 rfl ?_
                  refine r_getR (b := 108) dX7_set_103 f_X7_29 (hsh.al rfl (by decide)) (Or.inl ⟨_, rfl⟩) (hsh.r 102 9 108 (by decide)) (by decide) ?_
                  refine r_iconst (v := 5) dX7_set_106 (by decide) ?_
                  refine r_iload_n dX7_set_107 rfl ?_
                  refine r_nimul (a := 5) dX7_set_108 rfl rfl ?_
                  refine r_iload_n dX7_set_109 rfl ?_
                  refine r_niadd dX7_set_110 rfl rfl ?_
                  refine r_bipush (v := 8) dX7_set_111 (by decide) ?_
                  refine r_nisub (b := 8) dX7_set_113 rfl rfl (by omega) ?_
                  refine r_iload_n dX7_set_114 rfl ?_
                  refine r_iast (j := (5 * b0 + j)) dX7_set_115 (hsh.al rfl (by decide)) (by omega) (by congr 1; omega) ?_
                  refine r_iload dX7_set_116 rfl ?_
                  refine r_iret dX7_set_118 rfl ?_
                  exact PdM.to (hM.sky (hM.p.rU hj5 hb7 hm) hM.rlt (fun a _ _ _ _ a5 _ _ _ => up2_a _ _ _ a5) (fun k hk => by rw [up2_a _ _ _ (by decide)]) (fun hb => ⟨(hM.keep hb).1, fun k hk => by rw [up2_a _ _ _ (by omega)]; exact (hM.keep hb).2 k hk⟩)) fun a ha => up2_a _ _ _ (by omega)
              · refine r_bipush (v := (-2)) dX7_set_75 (by decide) ?_
                refine r_iret dX7_set_77 rfl ?_
                have h10 : alZ (qtr σ) (qsz σ) (a0 : Nat) (b0 : Nat) c = false := decide_eq_false (by omega)
                have e0 : setAV σ (a0 : Nat) (b0 : Nat) c = -2 := by unfold setAV; rw [h10, if_neg (by decide)]
                have e1 : setS σ (a0 : Nat) (b0 : Nat) c = σ := by unfold setS; rw [h10, if_neg (by decide)]
                rw [e0, e1]
                exact PdM.rf hM
          · obtain ⟨b0, eb0⟩ := Int.eq_ofNat_of_zero_le (show 0 ≤ b by omega)
            subst eb0
            rw [← nz b0]
            have e3b : qtr σ 3 (((b0 : Nat) : Int)).toNat = qtr σ 3 b0 := rfl
            have e2b : qtr σ 2 (((b0 : Nat) : Int)).toNat = qtr σ 2 b0 := rfl
            refine r_iload_n dX7_set_49 rfl ?_
            refine r_aload_n dX7_set_50 rfl ?_
            refine r_iload_n dX7_set_51 rfl ?_
            refine r_iconst (v := 3) dX7_set_52 (by decide) ?_
            refine r_callV2I dX7_set_53 moX7_row w_940 w_942 s_30 (hsh.al rfl (by decide)) cl7 rfl (Nat.le_of_ble_eq_true rfl) (Nat.le_of_ble_eq_true rfl) (S_mRow hN (k := b0) (i := 3) (by omega) (by decide)) ?_
            refine r_zicmp_gt  (tgt := 75) dX7_set_56 (by decide) rfl (nz _) hc (by have := wf.t3 (k := b0) (by omega); unfold inZ; omega) (fun h56 => ?_) (fun h56 => ?_)
            · refine r_bipush (v := (-2)) dX7_set_75 (by decide) ?_
              refine r_iret dX7_set_77 rfl ?_
              have h10 : alZ (qtr σ) (qsz σ) (a0 : Nat) (b0 : Nat) c = false := decide_eq_false (by omega)
              have e0 : setAV σ (a0 : Nat) (b0 : Nat) c = -2 := by unfold setAV; rw [h10, if_neg (by decide)]
              have e1 : setS σ (a0 : Nat) (b0 : Nat) c = σ := by unfold setS; rw [h10, if_neg (by decide)]
              rw [e0, e1]
              exact PdM.rf hM
            · refine r_iload_n dX7_set_59 rfl ?_
              refine r_bipush (v := 11) dX7_set_60 (by decide) ?_
              refine r_nicmp_ne (b := 11)  (tgt := 78) dX7_set_62 (by decide) rfl rfl (by omega) (by omega) (fun h62 => ?_) (fun h62 => ?_)
              · have h10 : alZ (qtr σ) (qsz σ) (a0 : Nat) (b0 : Nat) c = true := decide_eq_true (by omega)
                have hwas := S_mTold (g := g) (d := d) (J := J) hM (f := (b0 : Nat)) (w := (a0 : Nat)) (by assumption) (by assumption)
                obtain ⟨c0, ec⟩ := Int.eq_ofNat_of_zero_le (show 0 ≤ c by omega)
                subst ec
                rw [← nz c0]
                by_cases h8 : a0 < 8
                · have hm : c0 ≤ dB a0 := by
                    have e : a0 = 0 ∨ a0 = 1 ∨ a0 = 2 ∨ a0 = 3 ∨ a0 = 4 ∨ a0 = 5 ∨ a0 = 6 ∨ a0 = 7 := by omega
                    have h2 := (of_decide_eq_true h10).2.2.2.1
                    rcases e with rfl | rfl | rfl | rfl | rfl | rfl | rfl | rfl <;> exact Int.ofNat_le.mp h2
                  have e9 : toldV σ (b0 : Nat) (a0 : Nat) = (qdl σ a0 : Nat) := by unfold toldV; rw [if_pos (by omega), if_neg (by omega), if_pos (by omega)]; rfl
                  rw [e9] at hwas
                  have e0 : setAV σ (a0 : Nat) (b0 : Nat) c0 = (qdl σ a0 : Nat) := by unfold setAV; rw [h10, if_pos rfl, if_pos (by omega)]; rfl
                  have e1 : setS σ (a0 : Nat) (b0 : Nat) c0 = wSky σ (up1 (qdl σ) a0 c0) (qtr σ) (qsz σ) (qrl σ) := by unfold setS; rw [h10, if_pos rfl, if_pos (by omega)]; rfl
                  rw [e0, e1]
                  refine r_aload_n dX7_set_78 rfl ?_
                  refine r_iload_n dX7_set_79 rfl ?_
                  refine r_iload_n dX7_set_80 rfl ?_
                  refine r_callV2I dX7_set_81 moX7_told w_944 w_945 w_946 (hsh.al rfl (by decide)) cl7 rfl (Nat.le_of_ble_eq_true rfl) (Nat.le_of_ble_eq_true rfl) hwas ?_
                  refine r_istore dX7_set_84 (by decide) rfl ?_
                  refine r_iload_n dX7_set_86 rfl ?_
                  refine r_bipush (v := 8) dX7_set_87 (by decide) ?_
                  refine r_nicmp_ge (b := 8)  (tgt := 102) dX7_set_89 (by decide) rfl rfl (by omega) (by omega) (fun h89 => absurd h89 (by omega)) (fun h89 => ?_)
                  refine r_aload_n dX7_set_92 rfl ?_
                  refine r_getR (b := 106) dX7_set_93 f_X7_23 (hsh.al rfl (by decide)) (Or.inl ⟨_, rfl⟩) (hsh.r 102 7 106 (by decide)) (by decide) ?_
                  refine r_iload_n dX7_set_96 rfl ?_
                  refine r_iload_n dX7_set_97 rfl ?_
                  refine r_iast (j := a0) dX7_set_98 (hsh.al rfl (by decide)) (by omega) rfl ?_
                  refine r_goto (tgt := 116) dX7_set_99 (by decide) ?_
                  refine r_iload dX7_set_116 rfl ?_
                  refine r_iret dX7_set_118 rfl ?_
                  exact PdM.to (hM.sky (hM.p.dU h8 hm) hM.rlt (fun a _ _ a3 _ _ _ _ _ => up2_a _ _ _ a3) (fun k hk => by rw [up2_a _ _ _ (by decide)]) hM.keep) fun a ha => up2_a _ _ _ (by omega)
                · have hb7 : b0 < qsz σ := by have := (of_decide_eq_true h10).2.2.2.2.1 (by omega); omega
                  obtain ⟨j, rfl⟩ : ∃ j, a0 = 8 + j := ⟨a0 - 8, by omega⟩
                  have hj5 : j < 5 := by omega
                  have hm : c0 ≤ tB j := by
                    have e : j = 0 ∨ j = 1 ∨ j = 2 ∨ j = 3 ∨ j = 4 := by omega
                    have h2 := (of_decide_eq_true h10).2.2.2.1
                    rcases e with rfl | rfl | rfl | rfl | rfl <;> exact Int.ofNat_le.mp h2
                  have ej2 : ((8 + j : Nat) : Int).toNat - 8 = j := by omega
                  have e9 : toldV σ (b0 : Nat) ((8 + j : Nat) : Int) = (qtr σ j b0 : Nat) := by unfold toldV; rw [if_pos (by omega), if_neg (by omega), if_neg (by omega), ej2]; rfl
                  rw [e9] at hwas
                  have e0 : setAV σ ((8 + j : Nat) : Int) (b0 : Nat) c0 = (qtr σ j b0 : Nat) := by unfold setAV; rw [h10, if_pos rfl, if_neg (by omega), ej2]; rfl
                  have e1 : setS σ ((8 + j : Nat) : Int) (b0 : Nat) c0 = wSky σ (qdl σ) (up2 (qtr σ) j b0 c0) (qsz σ) (qrl σ) := by unfold setS; rw [h10, if_pos rfl, if_neg (by omega), ej2]; rfl
                  rw [e0, e1]
                  refine r_aload_n dX7_set_78 rfl ?_
                  refine r_iload_n dX7_set_79 rfl ?_
                  refine r_iload_n dX7_set_80 rfl ?_
                  refine r_callV2I dX7_set_81 moX7_told w_944 w_945 w_946 (hsh.al rfl (by decide)) cl7 rfl (Nat.le_of_ble_eq_true rfl) (Nat.le_of_ble_eq_true rfl) hwas ?_
                  refine r_istore dX7_set_84 (by decide) rfl ?_
                  refine r_iload_n dX7_set_86 rfl ?_
                  refine r_bipush (v := 8) dX7_set_87 (by decide) ?_
                  refine r_nicmp_ge (b := 8)  (tgt := 102) dX7_set_89 (by decide) rfl rfl (by omega) (by omega) (fun h89 => ?_) (fun h89 => absurd h89 (by omega))
                  refine r_aload_n dX7_set_102 rfl ?_
                  refine r_getR (b := 108) dX7_set_103 f_X7_29 (hsh.al rfl (by decide)) (Or.inl ⟨_, rfl⟩) (hsh.r 102 9 108 (by decide)) (by decide) ?_
                  refine r_iconst (v := 5) dX7_set_106 (by decide) ?_
                  refine r_iload_n dX7_set_107 rfl ?_
                  refine r_nimul (a := 5) dX7_set_108 rfl rfl ?_
                  refine r_iload_n dX7_set_109 rfl ?_
                  refine r_niadd dX7_set_110 rfl rfl ?_
                  refine r_bipush (v := 8) dX7_set_111 (by decide) ?_
                  refine r_nisub (b := 8) dX7_set_113 rfl rfl (by omega) ?_
                  refine r_iload_n dX7_set_114 rfl ?_
                  refine r_iast (j := (5 * b0 + j)) dX7_set_115 (hsh.al rfl (by decide)) (by omega) (by congr 1; omega) ?_
                  refine r_iload dX7_set_116 rfl ?_
                  refine r_iret dX7_set_118 rfl ?_
                  exact PdM.to (hM.sky (hM.p.rU hj5 hb7 hm) hM.rlt (fun a _ _ _ _ a5 _ _ _ => up2_a _ _ _ a5) (fun k hk => by rw [up2_a _ _ _ (by decide)]) (fun hb => ⟨(hM.keep hb).1, fun k hk => by rw [up2_a _ _ _ (by omega)]; exact (hM.keep hb).2 k hk⟩)) fun a ha => up2_a _ _ _ (by omega)
              · refine r_iload_n dX7_set_65 rfl ?_
                refine r_aload_n dX7_set_66 rfl ?_
                refine r_iload_n dX7_set_67 rfl ?_
                refine r_iconst (v := 2) dX7_set_68 (by decide) ?_
                refine r_callV2I dX7_set_69 moX7_row w_940 w_942 s_30 (hsh.al rfl (by decide)) cl7 rfl (Nat.le_of_ble_eq_true rfl) (Nat.le_of_ble_eq_true rfl) (S_mRow hN (k := b0) (i := 2) (by omega) (by decide)) ?_
                refine r_zicmp_ge  (tgt := 78) dX7_set_72 (by decide) rfl (nz _) hc (by have := wf.t2 (k := b0) (by omega); unfold inZ; omega) (fun h72 => ?_) (fun h72 => ?_)
                · have h10 : alZ (qtr σ) (qsz σ) (a0 : Nat) (b0 : Nat) c = true := decide_eq_true (by omega)
                  have hwas := S_mTold (g := g) (d := d) (J := J) hM (f := (b0 : Nat)) (w := (a0 : Nat)) (by assumption) (by assumption)
                  obtain ⟨c0, ec⟩ := Int.eq_ofNat_of_zero_le (show 0 ≤ c by omega)
                  subst ec
                  rw [← nz c0]
                  by_cases h8 : a0 < 8
                  · have hm : c0 ≤ dB a0 := by
                      have e : a0 = 0 ∨ a0 = 1 ∨ a0 = 2 ∨ a0 = 3 ∨ a0 = 4 ∨ a0 = 5 ∨ a0 = 6 ∨ a0 = 7 := by omega
                      have h2 := (of_decide_eq_true h10).2.2.2.1
                      rcases e with rfl | rfl | rfl | rfl | rfl | rfl | rfl | rfl <;> exact Int.ofNat_le.mp h2
                    have e9 : toldV σ (b0 : Nat) (a0 : Nat) = (qdl σ a0 : Nat) := by unfold toldV; rw [if_pos (by omega), if_neg (by omega), if_pos (by omega)]; rfl
                    rw [e9] at hwas
                    have e0 : setAV σ (a0 : Nat) (b0 : Nat) c0 = (qdl σ a0 : Nat) := by unfold setAV; rw [h10, if_pos rfl, if_pos (by omega)]; rfl
                    have e1 : setS σ (a0 : Nat) (b0 : Nat) c0 = wSky σ (up1 (qdl σ) a0 c0) (qtr σ) (qsz σ) (qrl σ) := by unfold setS; rw [h10, if_pos rfl, if_pos (by omega)]; rfl
                    rw [e0, e1]
                    refine r_aload_n dX7_set_78 rfl ?_
                    refine r_iload_n dX7_set_79 rfl ?_
                    refine r_iload_n dX7_set_80 rfl ?_
                    refine r_callV2I dX7_set_81 moX7_told w_944 w_945 w_946 (hsh.al rfl (by decide)) cl7 rfl (Nat.le_of_ble_eq_true rfl) (Nat.le_of_ble_eq_true rfl) hwas ?_
                    refine r_istore dX7_set_84 (by decide) rfl ?_
                    refine r_iload_n dX7_set_86 rfl ?_
                    refine r_bipush (v := 8) dX7_set_87 (by decide) ?_
                    refine r_nicmp_ge (b := 8)  (tgt := 102) dX7_set_89 (by decide) rfl rfl (by omega) (by omega) (fun h89 => absurd h89 (by omega)) (fun h89 => ?_)
                    refine r_aload_n dX7_set_92 rfl ?_
                    refine r_getR (b := 106) dX7_set_93 f_X7_23 (hsh.al rfl (by decide)) (Or.inl ⟨_, rfl⟩) (hsh.r 102 7 106 (by decide)) (by decide) ?_
                    refine r_iload_n dX7_set_96 rfl ?_
                    refine r_iload_n dX7_set_97 rfl ?_
                    refine r_iast (j := a0) dX7_set_98 (hsh.al rfl (by decide)) (by omega) rfl ?_
                    refine r_goto (tgt := 116) dX7_set_99 (by decide) ?_
                    refine r_iload dX7_set_116 rfl ?_
                    refine r_iret dX7_set_118 rfl ?_
                    exact PdM.to (hM.sky (hM.p.dU h8 hm) hM.rlt (fun a _ _ a3 _ _ _ _ _ => up2_a _ _ _ a3) (fun k hk => by rw [up2_a _ _ _ (by decide)]) hM.keep) fun a ha => up2_a _ _ _ (by omega)
                  · have hb7 : b0 < qsz σ := by have := (of_decide_eq_true h10).2.2.2.2.1 (by omega); omega
                    obtain ⟨j, rfl⟩ : ∃ j, a0 = 8 + j := ⟨a0 - 8, by omega⟩
                    have hj5 : j < 5 := by omega
                    have hm : c0 ≤ tB j := by
                      have e : j = 0 ∨ j = 1 ∨ j = 2 ∨ j = 3 ∨ j = 4 := by omega
                      have h2 := (of_decide_eq_true h10).2.2.2.1
                      rcases e with rfl | rfl | rfl | rfl | rfl <;> exact Int.ofNat_le.mp h2
                    have ej2 : ((8 + j : Nat) : Int).toNat - 8 = j := by omega
                    have e9 : toldV σ (b0 : Nat) ((8 + j : Nat) : Int) = (qtr σ j b0 : Nat) := by unfold toldV; rw [if_pos (by omega), if_neg (by omega), if_neg (by omega), ej2]; rfl
                    rw [e9] at hwas
                    have e0 : setAV σ ((8 + j : Nat) : Int) (b0 : Nat) c0 = (qtr σ j b0 : Nat) := by unfold setAV; rw [h10, if_pos rfl, if_neg (by omega), ej2]; rfl
                    have e1 : setS σ ((8 + j : Nat) : Int) (b0 : Nat) c0 = wSky σ (qdl σ) (up2 (qtr σ) j b0 c0) (qsz σ) (qrl σ) := by unfold setS; rw [h10, if_pos rfl, if_neg (by omega), ej2]; rfl
                    rw [e0, e1]
                    refine r_aload_n dX7_set_78 rfl ?_
                    refine r_iload_n dX7_set_79 rfl ?_
                    refine r_iload_n dX7_set_80 rfl ?_
                    refine r_callV2I dX7_set_81 moX7_told w_944 w_945 w_946 (hsh.al rfl (by decide)) cl7 rfl (Nat.le_of_ble_eq_true rfl) (Nat.le_of_ble_eq_true rfl) hwas ?_
                    refine r_istore dX7_set_84 (by decide) rfl ?_
                    refine r_iload_n dX7_set_86 rfl ?_
                    refine r_bipush (v := 8) dX7_set_87 (by decide) ?_
                    refine r_nicmp_ge (b := 8)  (tgt := 102) dX7_set_89 (by decide) rfl rfl (by omega) (by omega) (fun h89 => ?_) (fun h89 => absurd h89 (by omega))
                    refine r_aload_n dX7_set_102 rfl ?_
                    refine r_getR (b := 108) dX7_set_103 f_X7_29 (hsh.al rfl (by decide)) (Or.inl ⟨_, rfl⟩) (hsh.r 102 9 108 (by decide)) (by decide) ?_
                    refine r_iconst (v := 5) dX7_set_106 (by decide) ?_
                    refine r_iload_n dX7_set_107 rfl ?_
                    refine r_nimul (a := 5) dX7_set_108 rfl rfl ?_
                    refine r_iload_n dX7_set_109 rfl ?_
                    refine r_niadd dX7_set_110 rfl rfl ?_
                    refine r_bipush (v := 8) dX7_set_111 (by decide) ?_
                    refine r_nisub (b := 8) dX7_set_113 rfl rfl (by omega) ?_
                    refine r_iload_n dX7_set_114 rfl ?_
                    refine r_iast (j := (5 * b0 + j)) dX7_set_115 (hsh.al rfl (by decide)) (by omega) (by congr 1; omega) ?_
                    refine r_iload dX7_set_116 rfl ?_
                    refine r_iret dX7_set_118 rfl ?_
                    exact PdM.to (hM.sky (hM.p.rU hj5 hb7 hm) hM.rlt (fun a _ _ _ _ a5 _ _ _ => up2_a _ _ _ a5) (fun k hk => by rw [up2_a _ _ _ (by decide)]) (fun hb => ⟨(hM.keep hb).1, fun k hk => by rw [up2_a _ _ _ (by omega)]; exact (hM.keep hb).2 k hk⟩)) fun a ha => up2_a _ _ _ (by omega)
                · refine r_bipush (v := (-2)) dX7_set_75 (by decide) ?_
                  refine r_iret dX7_set_77 rfl ?_
                  have h10 : alZ (qtr σ) (qsz σ) (a0 : Nat) (b0 : Nat) c = false := decide_eq_false (by omega)
                  have e0 : setAV σ (a0 : Nat) (b0 : Nat) c = -2 := by unfold setAV; rw [h10, if_neg (by decide)]
                  have e1 : setS σ (a0 : Nat) (b0 : Nat) c = σ := by unfold setS; rw [h10, if_neg (by decide)]
                  rw [e0, e1]
                  exact PdM.rf hM
        · rw [decide_eq_false_iff_not] at h37
          refine r_bipush (v := (-2)) dX7_set_40 (by decide) ?_
          refine r_iret dX7_set_42 rfl ?_
          have h10 : alZ (qtr σ) (qsz σ) (a0 : Nat) b c = false := decide_eq_false (by omega)
          have e0 : setAV σ (a0 : Nat) b c = -2 := by unfold setAV; rw [h10, if_neg (by decide)]
          have e1 : setS σ (a0 : Nat) b c = σ := by unfold setS; rw [h10, if_neg (by decide)]
          rw [e0, e1]
          exact PdM.rf hM
theorem WF.add {dl : Nat → Nat} {tr : Nat → Nat → Nat} {sz rl kd nu sp : Nat} (wf : WF dl tr sz rl) (hk : kd ≤ 5) (hn : nu ≤ 9) (hp : sp ≤ 99) (h7 : sz < 7) : WF dl (addTr tr sz kd nu sp) (sz + 1) rl := by
  have h := (((((wf.upTr (j := 5) (k := sz) (v := kd) hk).upTr (j := 0) (k := sz) (v := nu) hn).upTr (j := 1) (k := sz) (v := sp) hp).upTr (j := 2) (k := sz) (v := 0) (by decide)).upTr (j := 3) (k := sz) (v := 199) (by decide)).upTr (j := 4) (k := sz) (v := 10) (by decide)
  exact ⟨h.1, h.2.1, h7, h.2.2.2⟩
def PSm (n : Nat) (I : TI) (R : TR) (v : Value) (σ : CSt) : TQ := PdM n I R v σ
set_option maxRecDepth 20000 in
set_option maxHeartbeats 4000000 in
theorem S_mSight {g : GP} {d n : Nat} {I : TI} {J : TJ} {R : TR} {σ : CSt} (hM : MdS n I R σ) {a b c : Int} (ha : inZ a) (hb : inZ b) (hc : inZ c) : Wp g (d + 1) mX7_sight 0 [.ref 102, .int (zI a), .int (zI b), .int (zI c), .null] [] 0 0 n I J R (PdM n I R (.int (zI (sighV σ a b c))) (sighS σ a b c)) := by
  have hsh := hM.sh
  have hN := hM.p.mn
  have wf := hM.wf
  have hz := wf.2.2.1
  refine r_iload_n dX7_sight_0 rfl ?_
  refine r_zi2l dX7_sight_1 rfl ha ?_
  refine r_lconst (v := 0) dX7_sight_2 (by decide) ?_
  refine r_ldc2 dX7_sight_3 w_957 ?_
  refine r_callS3I dX7_sight_6 moX7_in w_930 w_931 (Nat.le_of_ble_eq_true rfl) (Nat.le_of_ble_eq_true rfl) (S_in3 (z := a) (lo := 0) (hi := 5) ha (by decide) (by decide) (by unfold inZ; omega) (by unfold inZ; omega)) ?_
  refine r_ifb_eq (tgt := 36) dX7_sight_9 (by decide) (fun h9 => ?_) (fun h9 => ?_)
  · rw [decide_eq_false_iff_not] at h9
    refine r_bipush (v := (-2)) dX7_sight_36 (by decide) ?_
    refine r_iret dX7_sight_38 rfl ?_
    have e0 : sighV σ a b c = -2 := if_neg (by omega)
    have e4 : sighS σ a b c = σ := if_neg (by omega)
    rw [e0, e4]
    exact PdM.rf hM
  · rw [decide_eq_true_eq] at h9
    refine r_iload_n dX7_sight_12 rfl ?_
    refine r_zi2l dX7_sight_13 rfl hb ?_
    refine r_lconst (v := 0) dX7_sight_14 (by decide) ?_
    refine r_ldc2 dX7_sight_15 w_958 ?_
    refine r_callS3I dX7_sight_18 moX7_in w_930 w_931 (Nat.le_of_ble_eq_true rfl) (Nat.le_of_ble_eq_true rfl) (S_in3 (z := b) (lo := 0) (hi := 9) hb (by decide) (by decide) (by unfold inZ; omega) (by unfold inZ; omega)) ?_
    refine r_ifb_eq (tgt := 36) dX7_sight_21 (by decide) (fun h21 => ?_) (fun h21 => ?_)
    · rw [decide_eq_false_iff_not] at h21
      refine r_bipush (v := (-2)) dX7_sight_36 (by decide) ?_
      refine r_iret dX7_sight_38 rfl ?_
      have e0 : sighV σ a b c = -2 := if_neg (by omega)
      have e4 : sighS σ a b c = σ := if_neg (by omega)
      rw [e0, e4]
      exact PdM.rf hM
    · rw [decide_eq_true_eq] at h21
      refine r_iload_n dX7_sight_24 rfl ?_
      refine r_zi2l dX7_sight_25 rfl hc ?_
      refine r_lconst (v := 0) dX7_sight_26 (by decide) ?_
      refine r_ldc2 dX7_sight_27 w_959 ?_
      refine r_callS3I dX7_sight_30 moX7_in w_930 w_931 (Nat.le_of_ble_eq_true rfl) (Nat.le_of_ble_eq_true rfl) (S_in3 (z := c) (lo := 0) (hi := 99) hc (by decide) (by decide) (by unfold inZ; omega) (by unfold inZ; omega)) ?_
      refine r_ifb_ne (tgt := 39) dX7_sight_33 (by decide) (fun h33 => ?_) (fun h33 => ?_)
      · rw [decide_eq_true_eq] at h33
        refine r_aload_n dX7_sight_39 rfl ?_
        refine r_getIE dX7_sight_40 f_X7_70 (hsh.al rfl (by decide)) (Or.inl rfl) hN.many ?_
        refine r_bipush (v := 7) dX7_sight_43 (by decide) ?_
        refine r_nicmp_ne (b := 7)  (tgt := 51) dX7_sight_45 (by decide) rfl rfl (by omega) (by omega) (fun h45 => ?_) (fun h45 => ?_)
        · obtain ⟨a0, ea0⟩ := Int.eq_ofNat_of_zero_le (show 0 ≤ a by omega)
          subst ea0
          rw [← nz a0]
          obtain ⟨b0, eb0⟩ := Int.eq_ofNat_of_zero_le (show 0 ≤ b by omega)
          subst eb0
          rw [← nz b0]
          obtain ⟨c0, ec0⟩ := Int.eq_ofNat_of_zero_le (show 0 ≤ c by omega)
          subst ec0
          rw [← nz c0]
          refine r_iconst (v := 5) dX7_sight_51 (by decide) ?_
          refine r_aload_n dX7_sight_52 rfl ?_
          refine r_getIE dX7_sight_53 f_X7_70 (hsh.al rfl (by decide)) (Or.inl rfl) hN.many ?_
          refine r_nimul (a := 5) dX7_sight_56 rfl rfl ?_
          refine r_istore dX7_sight_57 (by decide) rfl ?_
          refine r_aload_n dX7_sight_59 rfl ?_
          refine r_getR (b := 107) dX7_sight_60 f_X7_26 (hsh.al rfl (by decide)) (Or.inl ⟨_, rfl⟩) (hsh.r 102 8 107 (by decide)) (by decide) ?_
          refine r_aload_n dX7_sight_63 rfl ?_
          refine r_getIE dX7_sight_64 f_X7_70 (hsh.al rfl (by decide)) (Or.inl rfl) hN.many ?_
          refine r_iload_n dX7_sight_67 rfl ?_
          refine r_iast (j := (qsz σ)) dX7_sight_68 (hsh.al rfl (by decide)) (by omega) rfl ?_
          refine r_aload_n dX7_sight_69 rfl ?_
          refine r_getR (b := 108) dX7_sight_70 f_X7_29 (hsh.al rfl (by decide)) (Or.inl ⟨_, rfl⟩) (hsh.r 102 9 108 (by decide)) (by decide) ?_
          refine r_iload dX7_sight_73 rfl ?_
          refine r_iload_n dX7_sight_75 rfl ?_
          refine r_iast (j := (5 * qsz σ)) dX7_sight_76 (hsh.al rfl (by decide)) (by omega) rfl ?_
          refine r_aload_n dX7_sight_77 rfl ?_
          refine r_getR (b := 108) dX7_sight_78 f_X7_29 (hsh.al rfl (by decide)) (Or.inl ⟨_, rfl⟩) (hsh.r 102 9 108 (by decide)) (by decide) ?_
          refine r_iload dX7_sight_81 rfl ?_
          refine r_iconst (v := 1) dX7_sight_83 (by decide) ?_
          refine r_niadd (b := 1) dX7_sight_84 rfl rfl ?_
          refine r_iload_n dX7_sight_85 rfl ?_
          refine r_iast (j := (5 * qsz σ + 1)) dX7_sight_86 (hsh.al rfl (by decide)) (by omega) rfl ?_
          refine r_aload_n dX7_sight_87 rfl ?_
          refine r_getR (b := 108) dX7_sight_88 f_X7_29 (hsh.al rfl (by decide)) (Or.inl ⟨_, rfl⟩) (hsh.r 102 9 108 (by decide)) (by decide) ?_
          refine r_iload dX7_sight_91 rfl ?_
          refine r_iconst (v := 2) dX7_sight_93 (by decide) ?_
          refine r_niadd (b := 2) dX7_sight_94 rfl rfl ?_
          refine r_iconst (v := 0) dX7_sight_95 (by decide) ?_
          refine r_iast (j := (5 * qsz σ + 2)) dX7_sight_96 (hsh.al rfl (by decide)) (by omega) rfl ?_
          refine r_aload_n dX7_sight_97 rfl ?_
          refine r_getR (b := 108) dX7_sight_98 f_X7_29 (hsh.al rfl (by decide)) (Or.inl ⟨_, rfl⟩) (hsh.r 102 9 108 (by decide)) (by decide) ?_
          refine r_iload dX7_sight_101 rfl ?_
          refine r_iconst (v := 3) dX7_sight_103 (by decide) ?_
          refine r_niadd (b := 3) dX7_sight_104 rfl rfl ?_
          refine r_sipush (v := 199) dX7_sight_105 (by decide) ?_
          refine r_iast (j := (5 * qsz σ + 3)) dX7_sight_108 (hsh.al rfl (by decide)) (by omega) rfl ?_
          refine r_aload_n dX7_sight_109 rfl ?_
          refine r_getR (b := 108) dX7_sight_110 f_X7_29 (hsh.al rfl (by decide)) (Or.inl ⟨_, rfl⟩) (hsh.r 102 9 108 (by decide)) (by decide) ?_
          refine r_iload dX7_sight_113 rfl ?_
          refine r_iconst (v := 4) dX7_sight_115 (by decide) ?_
          refine r_niadd (b := 4) dX7_sight_116 rfl rfl ?_
          refine r_bipush (v := 10) dX7_sight_117 (by decide) ?_
          refine r_iast (j := (5 * qsz σ + 4)) dX7_sight_119 (hsh.al rfl (by decide)) (by omega) rfl ?_
          refine r_aload_n dX7_sight_120 rfl ?_
          refine r_dup dX7_sight_121 rfl ?_
          refine r_getIE dX7_sight_122 f_X7_70 (hsh.al rfl (by decide)) (Or.inl rfl) (show _ = nI (qsz σ) by (repeat rw [up2_a _ _ _ (by decide)]); exact hN.many) ?_
          refine r_iconst (v := 1) dX7_sight_125 (by decide) ?_
          refine r_niadd (b := 1) dX7_sight_126 rfl rfl ?_
          refine r_putI dX7_sight_127 f_X7_70 (hsh.al rfl (by decide)) (Or.inl rfl) rfl ?_
          refine r_aload_n dX7_sight_130 rfl ?_
          refine r_getIE dX7_sight_131 f_X7_70 (hsh.al rfl (by decide)) (Or.inl rfl) (up2_at _ _ _ _) ?_
          refine r_iconst (v := 1) dX7_sight_134 (by decide) ?_
          refine r_nisub (b := 1) dX7_sight_135 rfl rfl (by omega) ?_
          refine r_iret dX7_sight_136 rfl ?_
          have e0 : sighV σ a0 b0 c0 = (qsz σ : Nat) := by unfold sighV; rw [if_pos (by omega), if_neg h45]
          have e4 : sighS σ a0 b0 c0 = wSky σ (qdl σ) (addTr (qtr σ) (qsz σ) a0 b0 c0) (qsz σ + 1) (qrl σ) := if_pos ⟨by omega, h45⟩
          rw [e0, e4, ← nz]
          obtain ⟨p1, p2, p3, p4, p5, p6, p7, p8⟩ := hM.p
          refine PdM.to (hM.sky ⟨p1, p2.add (by omega) (by omega) (by omega) (by omega), ?_, fun j hj => ?_, fun k hk => ?_, fun i k hi hk => ?_, ?_, ?_⟩ hM.rlt (fun a _ _ a3 a4 a5 _ _ _ => ?_) (fun k hk => ?_) fun hb => ⟨by have := (hM.keep hb).1; omega, fun k hk => ?_⟩) fun a ha => ?_
          · rw [up2_k _ _ (by decide)]; repeat rw [up2_a _ _ _ (by decide)]
            exact p3
          · repeat rw [up2_a _ _ _ (by decide)]
            exact p4 j hj
          · repeat rw [up2_a _ _ _ (show 107 ≠ 102 by decide)]
            repeat rw [up2_a _ _ _ (show 107 ≠ 108 by decide)]
            by_cases e : k = qsz σ
            · rw [e, up2_at]; unfold addTr; repeat rw [up2_a _ _ _ (by decide)]
              rw [up2_at]
            · rw [up2_k _ _ e, addTr_ne e]; exact p5 k (by omega)
          · rw [up2_a _ _ _ (show 108 ≠ 102 by decide)]
            by_cases e : k = qsz σ
            · subst e
              have e5 : i = 0 ∨ i = 1 ∨ i = 2 ∨ i = 3 ∨ i = 4 := by omega
              rcases e5 with rfl | rfl | rfl | rfl | rfl
              · rw [up2_k _ _ (by omega), up2_k _ _ (by omega), up2_k _ _ (by omega), up2_k _ _ (by omega)]; exact up2_at _ _ _ _ ▸ (by unfold addTr; rw [up2_a _ _ _ (by decide), up2_a _ _ _ (by decide), up2_a _ _ _ (by decide), up2_a _ _ _ (by decide), up2_at])
              · rw [up2_k _ _ (by omega), up2_k _ _ (by omega), up2_k _ _ (by omega), up2_at]; unfold addTr; rw [up2_a _ _ _ (by decide), up2_a _ _ _ (by decide), up2_a _ _ _ (by decide), up2_at]
              · rw [up2_k _ _ (by omega), up2_k _ _ (by omega), up2_at]; unfold addTr; rw [up2_a _ _ _ (by decide), up2_a _ _ _ (by decide), up2_at]; rfl
              · rw [up2_k _ _ (by omega), up2_at]; unfold addTr; rw [up2_a _ _ _ (by decide), up2_at]; rfl
              · rw [up2_at]; unfold addTr; rw [up2_at]; rfl
            · rw [up2_k _ _ (by omega), up2_k _ _ (by omega), up2_k _ _ (by omega), up2_k _ _ (by omega), up2_k _ _ (by omega), up2_a _ _ _ (by decide), addTr_ne e]; exact p6 i k hi (by omega)
          · exact up2_at _ _ _ _
          · rw [up2_k _ _ (by decide)]; repeat rw [up2_a _ _ _ (by decide)]
            exact p8
          · rw [up2_a _ _ _ (by omega), up2_a _ _ _ a5, up2_a _ _ _ a5, up2_a _ _ _ a5, up2_a _ _ _ a5, up2_a _ _ _ a5, up2_a _ _ _ a4]
          · rw [up2_k _ _ (by omega)]; repeat rw [up2_a _ _ _ (by decide)]
          · rw [addTr_ne (by have := (hM.keep hb).1; omega)]; exact (hM.keep hb).2 k hk
          · rw [up2_a _ _ _ (by omega), up2_a _ _ _ (by omega), up2_a _ _ _ (by omega), up2_a _ _ _ (by omega), up2_a _ _ _ (by omega), up2_a _ _ _ (by omega), up2_a _ _ _ (by omega)]
        · refine r_bipush (v := (-4)) dX7_sight_48 (by decide) ?_
          refine r_iret dX7_sight_50 rfl ?_
          have e0 : sighV σ a b c = -4 := by unfold sighV; rw [if_pos (by omega), if_pos h45]
          have e4 : sighS σ a b c = σ := if_neg (fun h => h.2 h45)
          rw [e0, e4]
          exact PdM.rf hM
      · rw [decide_eq_false_iff_not] at h33
        refine r_bipush (v := (-2)) dX7_sight_36 (by decide) ?_
        refine r_iret dX7_sight_38 rfl ?_
        have e0 : sighV σ a b c = -2 := if_neg (by omega)
        have e4 : sighS σ a b c = σ := if_neg (by omega)
        rw [e0, e4]
        exact PdM.rf hM
