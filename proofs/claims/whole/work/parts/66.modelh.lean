/-! the model: a text more -/
section XMt
variable {n : Nat} {I I2 : TI} {R : TR} {σ : CSt}
theorem TxM.keep {I I2 : TI} {tc : Nat} {tv : Nat → TV} (h : TxM I tc tv) (h104 : ∀ i, i < tc → I2 104 i = I 104 i) (h103 : ∀ p, p < 160 * tc → I2 103 p = I 103 p) : TxM I2 tc tv := fun i hi => by
  obtain ⟨b, z, g1, g2, g3, g4, g5⟩ := h i hi
  exact ⟨b, z, g1, by rw [h104 i hi]; exact g2, fun j hj => by rw [h103 _ (by omega)]; exact g3 j hj, g4, g5⟩
theorem MdS.textF (h : MdS n I R σ) (hF : ∀ a, 105 ≤ a → a < 118 → I2 a = I a) (h102 : ∀ k, ((k < 12 ∧ k ≠ 6) ∨ k = 39 ∨ k = 40) → I2 102 k = I 102 k) (h6 : I2 102 6 = nI 0) (h104 : ∀ i, i < qtc σ → I2 104 i = I 104 i) (h103 : ∀ p, p < 160 * qtc σ → I2 103 p = I 103 p) : MdS n I2 R (wTape σ 0 (qtb σ)) := by
  obtain ⟨⟨p1, p2, p3, p4, p5, p6, p7, p8⟩, g2, g3, g4, g5, ⟨t1, t2, t3⟩, ⟨k1, k2⟩, g8⟩ := h
  refine ⟨⟨p1, p2, by rw [h102 11 (by decide)]; exact p3, by rw [hF 106 (by decide) (by decide)]; exact p4, by rw [hF 107 (by decide) (by decide)]; exact p5, by rw [hF 108 (by decide) (by decide)]; exact p6, by rw [h102 10 (by decide)]; exact p7, by rw [h102 4 (by decide)]; exact p8⟩, g2, g3, by rw [h102 3 (by decide)]; exact g4, g5.keep h104 h103, ⟨h6, Nat.zero_le _, fun j hj => absurd hj (Nat.not_lt_zero _)⟩, ⟨by rw [h102 39 (by decide)]; exact k1, ?_⟩, ?_⟩
  · rw [hF 112 (by decide) (by decide), hF 113 (by decide) (by decide), h102 40 (by decide)]; exact k2
  · intro s hs4
    rw [hF 114 (by decide) (by decide), hF 115 (by decide) (by decide), hF 116 (by decide) (by decide), hF 117 (by decide) (by decide)]
    exact g8 s hs4
theorem MdS.textT (h : MdS n I R σ) (htc : qtc σ < 6) (hF : ∀ a, 105 ≤ a → a < 118 → I2 a = I a) (h102 : ∀ k, ((k < 12 ∧ k ≠ 6 ∧ k ≠ 3) ∨ k = 39 ∨ k = 40) → I2 102 k = I 102 k) (h6 : I2 102 6 = nI 0) (h3 : I2 102 3 = nI (qtc σ + 1)) (h104 : ∀ i, i < qtc σ → I2 104 i = I 104 i) (h103 : ∀ p, p < 160 * qtc σ → I2 103 p = I 103 p) (hz : I2 104 (qtc σ) = nI (qtn σ)) (hb : ∀ j, j < qtn σ → I2 103 (160 * qtc σ + j) = nI (qtb σ j) ∧ qtb σ j < 256) (hok : rdOk (qtb σ) (qtn σ) = true) : MdS n I2 R (wText σ) := by
  obtain ⟨⟨p1, p2, p3, p4, p5, p6, p7, p8⟩, g2, g3, g4, g5, ⟨t1, t2, t3⟩, ⟨k1, k2⟩, g8⟩ := h
  refine ⟨⟨p1, p2, by rw [h102 11 (by decide)]; exact p3, by rw [hF 106 (by decide) (by decide)]; exact p4, by rw [hF 107 (by decide) (by decide)]; exact p5, by rw [hF 108 (by decide) (by decide)]; exact p6, by rw [h102 10 (by decide)]; exact p7, by rw [h102 4 (by decide)]; exact p8⟩, Nat.lt_succ_of_lt g2, htc, h3, ?_, ⟨h6, Nat.zero_le _, fun j hj => absurd hj (Nat.not_lt_zero _)⟩, ⟨by rw [h102 39 (by decide)]; exact k1, ?_⟩, ?_⟩
  · intro i hi
    by_cases e : i = qtc σ
    · subst e
      exact ⟨qtb σ, qtn σ, t2, hz, hb, hok, (if_pos rfl).symm⟩
    · have hi2 : i < qtc σ + 1 := hi
      obtain ⟨b, z, c1, c2, c3, c4, c5⟩ := g5 i (by omega)
      exact ⟨b, z, c1, by rw [h104 i (by omega)]; exact c2, fun j hj => by rw [h103 _ (by omega)]; exact c3 j hj, c4, c5.trans (if_neg e).symm⟩
  · rw [hF 112 (by decide) (by decide), hF 113 (by decide) (by decide), h102 40 (by decide)]
    intro hh
    obtain ⟨c1, c2, c3, c4, c5, c6, c7⟩ := k2 hh
    exact ⟨c1, c2, c3, c4, c5, c6, Nat.lt_succ_of_lt c7⟩
  · intro s hs4
    rw [hF 114 (by decide) (by decide), hF 115 (by decide) (by decide), hF 116 (by decide) (by decide), hF 117 (by decide) (by decide)]
    exact g8 s hs4
end XMt
set_option maxRecDepth 20000 in
set_option maxHeartbeats 4000000 in
theorem S_mText {g : GP} {d n : Nat} {I : TI} {J : TJ} {R : TR} {σ : CSt} (hM : MdS n I R σ) : Wp g (d + 46) mX7_text 0 [.ref 102, .null] [] 0 0 n I J R (PdM n I R (.int (zI (textV σ))) (textS σ)) := by
  have hsh := hM.sh
  have htc := hM.tc6
  obtain ⟨t1, t2, t3⟩ := hM.tp
  have loop : qtc σ < 6 → ∀ q i I2 J2, i + q = qtn σ → (∀ a, a ≠ 103 → I2 a = I a) → (∀ p, p < 160 * qtc σ → I2 103 p = I 103 p) → (∀ j, j < i → I2 103 (160 * qtc σ + j) = nI (qtb σ j)) → Wp g (d + 46) mX7_text 14 [.ref 102, .int (nI i)] [] 0 0 n I2 J2 R (PdM n I R (.int (zI (textV σ))) (textS σ)) := by
    intro h6 q
    induction q with
    | zero =>
      intro i I2 J2 hi hF hp hj
      have e : i = qtn σ := hi
      subst e
      have g3 : I2 102 3 = nI (qtc σ) := by rw [hF 102 (by decide)]; exact hM.tcI
      have g6 : I2 102 6 = nI (qtn σ) := by rw [hF 102 (by decide)]; exact t1
      generalize hI1 : (up2 (up2 I2 104 (qtc σ) (nI (qtn σ))) 102 6 0) = I1
      have f1 : ∀ a, a ≠ 102 → a ≠ 104 → I1 a = I2 a := fun a a1 a2 => by rw [← hI1, up2_a _ _ _ a1, up2_a _ _ _ a2]
      have f2 : I1 104 (qtc σ) = nI (qtn σ) := by rw [← hI1, up2_a _ _ _ (by decide), up2_at]
      have f3 : ∀ i, i ≠ qtc σ → I1 104 i = I2 104 i := fun i hi => by rw [← hI1, up2_a _ _ _ (by decide), up2_k _ _ hi]
      have f4 : I1 102 6 = nI 0 := by rw [← hI1, up2_at]; rfl
      have f5 : ∀ k, k ≠ 6 → I1 102 k = I2 102 k := fun k hk => by rw [← hI1, up2_k _ _ hk, up2_a _ _ _ (by decide)]
      have hby : ∀ j, j < qtn σ → I1 103 (160 * qtc σ + j) = nI (qtb σ j) ∧ qtb σ j < 256 := fun j h => by rw [f1 103 (by decide) (by decide)]; exact ⟨hj j h, (t3 j h).2⟩
      refine r_iload_n dX7_text_14 rfl ?_
      refine r_aload_n dX7_text_15 rfl ?_
      refine r_getIE dX7_text_16 f_X7_120 (hsh.al rfl (by decide)) (Or.inl rfl) g6 ?_
      refine r_nicmp_ge  (tgt := 49) dX7_text_19 (by decide) rfl rfl (by omega) (by omega) (fun h19 => ?_) (fun h19 => absurd h19 (by omega))
      refine r_aload_n dX7_text_49 rfl ?_
      refine r_getR (b := 104) dX7_text_50 f_X7_17 (hsh.al rfl (by decide)) (Or.inl ⟨_, rfl⟩) (hsh.r 102 2 104 (by decide)) (by decide) ?_
      refine r_aload_n dX7_text_53 rfl ?_
      refine r_getIE dX7_text_54 f_X7_67 (hsh.al rfl (by decide)) (Or.inl rfl) g3 ?_
      refine r_aload_n dX7_text_57 rfl ?_
      refine r_getIE dX7_text_58 f_X7_120 (hsh.al rfl (by decide)) (Or.inl rfl) ((congrFun (hF 102 (by decide)) 6).trans t1) ?_
      refine r_iast (j := (qtc σ)) dX7_text_61 (hsh.al rfl (by decide)) (by omega) rfl ?_
      refine r_aload_n dX7_text_62 rfl ?_
      refine r_iconst (v := 0) dX7_text_63 (by decide) ?_
      refine r_putI dX7_text_64 f_X7_120 (hsh.al rfl (by decide)) (Or.inl rfl) rfl ?_
      rw [hI1]
      refine r_aload_n dX7_text_67 rfl ?_
      refine r_aload_n dX7_text_68 rfl ?_
      refine r_getIE dX7_text_69 f_X7_67 (hsh.al rfl (by decide)) (Or.inl rfl) (show I1 102 3 = nI (qtc σ) by rw [f5 3 (by decide)]; exact g3) ?_
      refine r_iconst (v := 0) dX7_text_72 (by decide) ?_
      refine r_callV2N dX7_text_73 moX7_read w_983 w_985 s_34 (hsh.al rfl (by decide)) cl7 rfl (Nat.le_of_ble_eq_true rfl) (Nat.le_of_ble_eq_true rfl) (S_mRead (b := qtb σ) (z := qtn σ) (t := qtc σ) (nm := fun j => I1 102 (12 + j)) hsh h6 f2 t2 hby (fun j hj => rfl) 0) (fun r n I3 J R hq => ?_)
      obtain ⟨rfl, rfl, hR, hE⟩ := hq
      rcases hE with ⟨hok, rfl, h25⟩ | ⟨hok, ⟨v, rfl⟩, h25, h26⟩
      · refine r_istore_n dX7_text_76 (by decide) rfl ?_
        refine r_aload_n dX7_text_77 rfl ?_
        refine r_getIE dX7_text_78 f_X7_155 (hsh.al rfl (by decide)) (Or.inr rfl) h25 ?_
        refine r_ifb_eq (tgt := 92) dX7_text_81 (by decide) (fun h81 => ?_) (fun h81 => absurd h81 (by decide))
        refine r_aload_n dX7_text_92 rfl ?_
        refine r_dup dX7_text_93 rfl ?_
        refine r_getIE dX7_text_94 f_X7_67 (hsh.al rfl (by decide)) (Or.inl rfl) (show I3 102 3 = nI (qtc σ) by rw [hR.2 3 (by decide), f5 3 (by decide)]; exact g3) ?_
        refine r_iconst (v := 1) dX7_text_97 (by decide) ?_
        refine r_niadd (b := 1) dX7_text_98 rfl rfl ?_
        refine r_putI dX7_text_99 f_X7_67 (hsh.al rfl (by decide)) (Or.inl rfl) rfl ?_
        refine r_aload_n dX7_text_102 rfl ?_
        refine r_getIE dX7_text_103 f_X7_67 (hsh.al rfl (by decide)) (Or.inl rfl) (up2_at _ _ _ _) ?_
        refine r_iconst (v := 1) dX7_text_106 (by decide) ?_
        refine r_nisub (b := 1) dX7_text_107 rfl rfl (by omega) ?_
        refine r_top (v := nI (qtc σ)) (congrArg nI (by omega)) ?_
        refine r_iret dX7_text_108 rfl ?_
        have e0 : textV σ = (qtc σ : Nat) := by unfold textV; rw [if_neg (by omega), if_pos hok]
        have e4 : textS σ = wText σ := by unfold textS; rw [if_neg (by omega), if_pos hok]
        rw [e0, e4]
        refine PdM.to (hM.textT h6 (fun a a1 a2 => by rw [up2_a _ _ _ (by omega), hR.1 a (by omega), f1 a (by omega) (by omega)]; exact hF a (by omega)) (fun k hk => by rw [up2_k _ _ (by omega), hR.2 k (by omega), f5 k (by omega), hF 102 (by decide)]) (by rw [up2_k _ _ (by decide), hR.2 6 (by decide)]; exact f4) (up2_at _ _ _ _) (fun i hi => by rw [up2_a _ _ _ (by decide), hR.1 104 (by decide), f3 i (by omega), hF 104 (by decide)]) (fun p hp2 => by rw [up2_a _ _ _ (by decide), hR.1 103 (by decide), f1 103 (by decide) (by decide)]; exact hp p hp2) (by rw [up2_a _ _ _ (by decide), hR.1 104 (by decide)]; exact f2) (fun j h => by rw [up2_a _ _ _ (by decide), hR.1 103 (by decide)]; exact hby j h) hok) fun a ha => by rw [up2_a _ _ _ (by omega), hR.1 a (by omega), f1 a (by omega) (by omega)]; exact hF a (by omega)
      · refine r_istore_n dX7_text_76 (by decide) rfl ?_
        refine r_aload_n dX7_text_77 rfl ?_
        refine r_getIE dX7_text_78 f_X7_155 (hsh.al rfl (by decide)) (Or.inr rfl) h25 ?_
        refine r_ifb_eq (tgt := 92) dX7_text_81 (by decide) (fun h81 => absurd h81 (by decide)) (fun h81 => ?_)
        refine r_bipush (v := (-100)) dX7_text_84 (by decide) ?_
        refine r_aload_n dX7_text_86 rfl ?_
        refine r_getIE dX7_text_87 f_X7_158 (hsh.al rfl (by decide)) (Or.inl rfl) h26 ?_
        refine r_zisub (a := (-100)) dX7_text_90 (by decide) (nz _) ?_
        refine r_iret dX7_text_91 rfl ?_
        have e0 : textV σ = -100 - (rdFt (qtb σ) (qtn σ) : Nat) := by unfold textV; rw [if_neg (by omega), if_neg (by rw [hok]; exact Bool.false_ne_true)]
        have e4 : textS σ = wTape σ 0 (qtb σ) := by unfold textS; rw [if_neg (by omega), if_neg (by rw [hok]; exact Bool.false_ne_true)]
        rw [e0, e4]
        exact PdM.to (hM.textF (fun a a1 a2 => by rw [hR.1 a (by omega), f1 a (by omega) (by omega)]; exact hF a (by omega)) (fun k hk => by rw [hR.2 k (by omega), f5 k (by omega), hF 102 (by decide)]) (by rw [hR.2 6 (by decide)]; exact f4) (fun i hi => by rw [hR.1 104 (by decide), f3 i (by omega), hF 104 (by decide)]) (fun p hp2 => by rw [hR.1 103 (by decide), f1 103 (by decide) (by decide)]; exact hp p hp2)) fun a ha => by rw [hR.1 a (by omega), f1 a (by omega) (by omega)]; exact hF a (by omega)
    | succ q ih =>
      intro i I2 J2 hi hF hp hj
      have g3 : I2 102 3 = nI (qtc σ) := by rw [hF 102 (by decide)]; exact hM.tcI
      have g6 : I2 102 6 = nI (qtn σ) := by rw [hF 102 (by decide)]; exact t1
      refine r_iload_n dX7_text_14 rfl ?_
      refine r_aload_n dX7_text_15 rfl ?_
      refine r_getIE dX7_text_16 f_X7_120 (hsh.al rfl (by decide)) (Or.inl rfl) g6 ?_
      refine r_nicmp_ge  (tgt := 49) dX7_text_19 (by decide) rfl rfl (by omega) (by omega) (fun h19 => absurd h19 (by omega)) (fun h19 => ?_)
      refine r_aload_n dX7_text_22 rfl ?_
      refine r_getR (b := 103) dX7_text_23 f_X7_13 (hsh.al rfl (by decide)) (Or.inl ⟨_, rfl⟩) (hsh.r 102 1 103 (by decide)) (by decide) ?_
      refine r_sipush (v := 160) dX7_text_26 (by decide) ?_
      refine r_aload_n dX7_text_29 rfl ?_
      refine r_getIE dX7_text_30 f_X7_67 (hsh.al rfl (by decide)) (Or.inl rfl) g3 ?_
      refine r_nimul (a := 160) dX7_text_33 rfl rfl ?_
      refine r_iload_n dX7_text_34 rfl ?_
      refine r_niadd dX7_text_35 rfl rfl ?_
      refine r_aload_n dX7_text_36 rfl ?_
      refine r_getR (b := 105) dX7_text_37 f_X7_20 (hsh.al rfl (by decide)) (Or.inl ⟨_, rfl⟩) (hsh.r 102 5 105 (by decide)) (by decide) ?_
      refine r_iload_n dX7_text_40 rfl ?_
      refine r_ialdE (j := i) dX7_text_41 (hsh.al rfl (by decide)) (by omega) rfl (show I2 105 i = nI (qtb σ i) by rw [hF 105 (by decide)]; exact (t3 i (by omega)).1) ?_
      refine r_iast (j := (160 * qtc σ + i)) dX7_text_42 (hsh.al rfl (by decide)) (by omega) rfl ?_
      refine r_iincE (b := (i + 1)) dX7_text_43 rfl rfl (nI_succ _).symm rfl ?_
      refine r_goto (tgt := 14) dX7_text_46 (by decide) ?_
      refine ih (i + 1) _ _ (by omega) (fun a ha => by rw [up2_a _ _ _ ha]; exact hF a ha) (fun p h => by rw [up2_k _ _ (by omega)]; exact hp p h) fun j h => ?_
      by_cases e : j = i
      · rw [e, up2_at]
      · rw [up2_k _ _ (by omega)]; exact hj j (by omega)
  refine r_aload_n dX7_text_0 rfl ?_
  refine r_getIE dX7_text_1 f_X7_67 (hsh.al rfl (by decide)) (Or.inl rfl) hM.tcI ?_
  refine r_bipush (v := 6) dX7_text_4 (by decide) ?_
  refine r_nicmp_ne (b := 6)  (tgt := 12) dX7_text_6 (by decide) rfl rfl (by omega) (by omega) (fun h6 => ?_) (fun h6 => ?_)
  · refine r_iconst (v := 0) dX7_text_12 (by decide) ?_
    refine r_istore_n dX7_text_13 (by decide) rfl ?_
    exact loop (by omega) (qtn σ) 0 I J (Nat.zero_add _) (fun _ _ => rfl) (fun _ _ => rfl) (fun j h => absurd h (Nat.not_lt_zero _))
  · refine r_bipush (v := (-4)) dX7_text_9 (by decide) ?_
    refine r_iret dX7_text_11 rfl ?_
    have e0 : textV σ = -4 := if_pos (by omega)
    have e4 : textS σ = σ := if_pos (by omega)
    rw [e0, e4]
    exact PdM.rf hM
