/-! the model: clouds that are drawn, by chance; lists; a text more -/
/-- the four dials of the cloud changed on the way -/
def FrZ (I I2 : TI) : Prop := (∀ a, a ≠ 102 → a ≠ 106 → a ≠ 109 → a ≠ 110 → a ≠ 111 → I2 a = I a) ∧ (∀ k, (k < 12 ∨ 31 < k) → I2 102 k = I 102 k) ∧ ∀ j, (j < 1 ∨ 4 < j) → I2 106 j = I 106 j
theorem FrZ.rf {I : TI} : FrZ I I := ⟨fun _ _ _ _ _ _ => rfl, fun _ _ => rfl, fun _ _ => rfl⟩
theorem FrZ.m {I I1 I2 : TI} (h : FrZ I I1) (h2 : FrMo I1 I2) : FrZ I I2 := ⟨fun a a1 a2 a3 a4 a5 => (h2.1 a a1 a3 a4).trans (h.1 a a1 a2 a3 a4 a5), fun k hk => (h2.2 k hk).trans (h.2.1 k hk), fun j hj => by rw [h2.1 106 (by decide) (by decide) (by decide)]; exact h.2.2 j hj⟩
theorem FrZ.u {I I2 : TI} {w : Nat} {v : Int32} (h : FrZ I I2) (hw : 1 ≤ w ∧ w ≤ 4) : FrZ I (up2 I2 106 w v) := ⟨fun a a1 a2 a3 a4 a5 => by rw [up2_a _ _ _ a2]; exact h.1 a a1 a2 a3 a4 a5, fun k hk => by rw [up2_a _ _ _ (by decide)]; exact h.2.1 k hk, fun j hj => by rw [up2_k _ _ (by omega)]; exact h.2.2 j hj⟩
theorem FrZ.w {I I2 : TI} {w : Nat} {v : Int32} (h : FrZ I I2) : FrZ I (up2 I2 111 w v) := ⟨fun a a1 a2 a3 a4 a5 => by rw [up2_a _ _ _ a5]; exact h.1 a a1 a2 a3 a4 a5, fun k hk => by rw [up2_a _ _ _ (by decide)]; exact h.2.1 k hk, fun j hj => by rw [up2_a _ _ _ (by decide)]; exact h.2.2 j hj⟩
theorem FrZ.v {I I2 : TI} {rl : Nat} {V : TV} (h : FrZ I I2) (hV : TxV I rl V) : TxV I2 rl V := hV.o (h.1 103 (by decide) (by decide) (by decide) (by decide) (by decide)) (h.1 104 (by decide) (by decide) (by decide) (by decide) (by decide))
theorem MdP.dz {n : Nat} {I I2 : TI} {R : TR} {dl dl2 : Nat → Nat} {tr : Nat → Nat → Nat} {sz rl : Nat} (h : MdP n I R dl tr sz rl) (hF : FrZ I I2) (w2 : WF dl2 tr sz rl) (h1 : ∀ j, j < 8 → I2 106 j = nI (dl2 j)) : MdP n I2 R dl2 tr sz rl := by
  obtain ⟨p1, p2, p3, p4, p5, p6, p7, p8⟩ := h
  exact ⟨p1, w2, by rw [hF.2.1 11 (by decide)]; exact p3, h1, fun k hk => by rw [hF.1 107 (by decide) (by decide) (by decide) (by decide) (by decide)]; exact p5 k hk, fun i k hi hk => by rw [hF.1 108 (by decide) (by decide) (by decide) (by decide) (by decide)]; exact p6 i k hi hk, by rw [hF.2.1 10 (by decide)]; exact p7, by rw [hF.2.1 4 (by decide)]; exact p8⟩
/-- what a drawing leaves: all but its own cells -/
def FrY (I I2 : TI) : Prop := (∀ a, a ≠ 102 → a ≠ 109 → a ≠ 110 → a ≠ 111 → I2 a = I a) ∧ ∀ k, (k < 12 ∨ 31 < k) → I2 102 k = I 102 k
theorem FrY.rf {I : TI} : FrY I I := ⟨fun _ _ _ _ _ => rfl, fun _ _ => rfl⟩
theorem FrY.t {I I1 I2 : TI} (h : FrY I I1) (h2 : FrY I1 I2) : FrY I I2 := ⟨fun a a1 a2 a3 a4 => (h2.1 a a1 a2 a3 a4).trans (h.1 a a1 a2 a3 a4), fun k hk => (h2.2 k hk).trans (h.2 k hk)⟩
theorem FrMo.y {I I2 : TI} (h : FrMo I I2) : FrY I I2 := ⟨fun a a1 a2 a3 _ => h.1 a a1 a2 a3, h.2⟩
theorem MdS.y {n : Nat} {I I2 : TI} {R : TR} {σ : CSt} (h : MdS n I R σ) (hF : FrY I I2) : MdS n I2 R σ := by
  have hs := h.sky (I2 := I2) (dl := qdl σ) (tr := qtr σ) (sz := qsz σ) (rl := qrl σ) (by
    obtain ⟨p1, p2, p3, p4, p5, p6, p7, p8⟩ := h.p
    exact ⟨p1, p2, by rw [hF.2 11 (by decide)]; exact p3, by rw [hF.1 106 (by decide) (by decide) (by decide) (by decide)]; exact p4, by rw [hF.1 107 (by decide) (by decide) (by decide) (by decide)]; exact p5, by rw [hF.1 108 (by decide) (by decide) (by decide) (by decide)]; exact p6, by rw [hF.2 10 (by decide)]; exact p7, by rw [hF.2 4 (by decide)]; exact p8⟩) h.rlt (fun a a1 a2 a3 a4 a5 a6 a7 a8 => hF.1 a (by omega) a6 a7 a8) (fun k hk => hF.2 k (by omega)) h.keep
  exact hs
set_option maxRecDepth 20000 in
set_option maxHeartbeats 4000000 in
theorem S_mDraws {g : GP} {d n : Nat} {I : TI} {J : TJ} {R : TR} {σ : CSt} (hM : MdS n I R σ) (seed : Int32) : Wp g (d + 50) mX7_draws 0 [.ref 102, .int seed, .null, .null] [] 0 0 n I J R (PostM n R (some (.int (zI (drawnN σ seed)))) (fun I2 _ => FrY I I2)) := by
  have hsh := hM.sh
  have hN := hM.p.mn
  have hV := hM.v
  have wf := hM.wf
  have hz := wf.2.2.1
  have b1 := wf.d1
  have b2 := wf.d2
  have b3 := wf.d3
  have b4 := wf.d4
  have dn (i : Nat) : (drwN (qdl σ) seed (i + 1)).2 = up1 (drwN (qdl σ) seed i).2 (i + 1) (drwV ((drwN (qdl σ) seed i).1 * 1103515245 + 12345) % (if i + 1 ≤ 2 then 10 else 200)) := rfl
  have dr0 : ∀ i j, i ≤ 4 → i < j → (drwN (qdl σ) seed i).2 j = qdl σ j := by
    intro i
    induction i with
    | zero => intro j _ _; rfl
    | succ i ih =>
      intro j hi hj
      rw [dn, up1_ne _ _ (by omega)]
      exact ih j (by omega) (by omega)
  have back : ∀ q i I2 J2 (x2 : Int32), i + q = 4 → FrZ I I2 → (∀ j, j < 4 → I2 111 j = nI (qdl σ (1 + j))) → (∀ j, 1 ≤ j → j < 1 + i → I2 106 j = I 106 j) → I2 102 29 = zI (drawnN σ seed) → Wp g (d + 50) mX7_draws 71 [.ref 102, .int seed, .int x2, .int (nI i)] [] 0 0 n I2 J2 R (PostM n R (some (.int (zI (drawnN σ seed)))) (fun I2 _ => FrY I I2)) := by
    intro q
    induction q with
    | zero =>
      intro i I2 J2 x2 hi hF hw hd h29
      refine r_iload_n dX7_draws_71 rfl ?_
      refine r_iconst (v := 4) dX7_draws_72 (by decide) ?_
      refine r_nicmp_ge (b := 4)  (tgt := 96) dX7_draws_73 (by decide) rfl rfl (by omega) (by omega) (fun h73 => ?_) (fun h73 => absurd h73 (by omega))
      refine r_aload_n dX7_draws_96 rfl ?_
      refine r_getIE dX7_draws_97 f_X7_248 (hsh.al rfl (by decide)) (Or.inl rfl) h29 ?_
      refine r_iret dX7_draws_100 rfl ?_
      refine ⟨rfl, rfl, rfl, fun a a1 a2 a3 a4 => ?_, hF.2.1⟩
      by_cases e : a = 106
      · subst e
        funext j
        by_cases e2 : 1 ≤ j ∧ j ≤ 4
        · exact hd j e2.1 (by omega)
        · exact hF.2.2 j (by omega)
      · exact hF.1 a a1 e a2 a3 a4
    | succ q ih =>
      intro i I2 J2 x2 hi hF hw hd h29
      refine r_iload_n dX7_draws_71 rfl ?_
      refine r_iconst (v := 4) dX7_draws_72 (by decide) ?_
      refine r_nicmp_ge (b := 4)  (tgt := 96) dX7_draws_73 (by decide) rfl rfl (by omega) (by omega) (fun h73 => absurd h73 (by omega)) (fun h73 => ?_)
      refine r_aload_n dX7_draws_76 rfl ?_
      refine r_getR (b := 106) dX7_draws_77 f_X7_23 (hsh.al rfl (by decide)) (Or.inl ⟨_, rfl⟩) (hsh.r 102 7 106 (by decide)) (by decide) ?_
      refine r_iconst (v := 1) dX7_draws_80 (by decide) ?_
      refine r_iload_n dX7_draws_81 rfl ?_
      refine r_niadd (a := 1) dX7_draws_82 rfl rfl ?_
      refine r_aload_n dX7_draws_83 rfl ?_
      refine r_getR (b := 111) dX7_draws_84 f_X7_38 (hsh.al rfl (by decide)) (Or.inl ⟨_, rfl⟩) (hsh.r 102 36 111 (by decide)) (by decide) ?_
      refine r_iload_n dX7_draws_87 rfl ?_
      refine r_ialdE (j := i) dX7_draws_88 (hsh.al rfl (by decide)) (by omega) rfl (hw i (by omega)) ?_
      refine r_iast (j := (1 + i)) dX7_draws_89 (hsh.al rfl (by decide)) (by omega) rfl ?_
      refine r_iincE (b := (i + 1)) dX7_draws_90 rfl rfl (nI_succ _).symm rfl ?_
      refine r_goto (tgt := 71) dX7_draws_93 (by decide) ?_
      refine ih (i + 1) _ _ _ (by omega) (hF.u (by omega)) (fun j hj => by rw [up2_a _ _ _ (by decide)]; exact hw j hj) (fun j h1 h2 => ?_) (by rw [up2_a _ _ _ (by decide)]; exact h29)
      by_cases e : j = 1 + i
      · rw [e, up2_at]; exact (hM.p.2.2.2.1 (1 + i) (by omega)).symm
      · rw [up2_k _ _ e]; exact hd j h1 (by omega)
  have loop : ∀ q i I2 J2, i + q = 4 → FrZ I I2 → (∀ j, j < i → I2 111 j = nI (qdl σ (1 + j))) → (∀ j, j < 8 → I2 106 j = nI ((drwN (qdl σ) seed i).2 j)) → Wp g (d + 50) mX7_draws 4 [.ref 102, .int seed, .int (drwN (qdl σ) seed i).1, .int (nI i)] [] 0 0 n I2 J2 R (PostM n R (some (.int (zI (drawnN σ seed)))) (fun I2 _ => FrY I I2)) := by
    intro q
    induction q with
    | zero =>
      intro i I2 J2 hi hF hw hd
      have e : i = 4 := hi
      subst e
      have hP := hM.p.dz hF (drwN_wf wf seed 4 (Nat.le_refl _)) hd
      refine r_iload_n dX7_draws_4 rfl ?_
      refine r_iconst (v := 4) dX7_draws_5 (by decide) ?_
      refine r_nicmp_ge (b := 4)  (tgt := 65) dX7_draws_6 (by decide) rfl rfl (by omega) (by omega) (fun h6 => ?_) (fun h6 => absurd h6 (by omega))
      refine r_aload_n dX7_draws_65 rfl ?_
      refine r_callV0N dX7_draws_66 moX7_goesPlain w_1069 w_1071 s_51 (hsh.al rfl (by decide)) cl7 rfl (Nat.le_of_ble_eq_true rfl) (Nat.le_of_ble_eq_true rfl) (S_mPlain hP.mn (hF.v hV)) (fun r n I3 J R hq => ?_)
      obtain ⟨rfl, rfl, rfl, hF3, hW3⟩ := hq
      refine r_iconst (v := 0) dX7_draws_69 (by decide) ?_
      refine r_istore_n dX7_draws_70 (by decide) rfl ?_
      exact back 4 0 I3 J _ rfl (hF.m hF3) (fun j hj => by rw [hF3.1 111 (by decide) (by decide) (by decide)]; exact hw j hj) (fun j h1 h2 => absurd h2 (by omega)) hW3.2.2.1
    | succ q ih =>
      intro i I2 J2 hi hF hw hd
      have hdv := drwV_lt ((drwN (qdl σ) seed i).1 * 1103515245 + 12345)
      refine r_iload_n dX7_draws_4 rfl ?_
      refine r_iconst (v := 4) dX7_draws_5 (by decide) ?_
      refine r_nicmp_ge (b := 4)  (tgt := 65) dX7_draws_6 (by decide) rfl rfl (by omega) (by omega) (fun h6 => absurd h6 (by omega)) (fun h6 => ?_)
      refine r_aload_n dX7_draws_9 rfl ?_
      refine r_getR (b := 111) dX7_draws_10 f_X7_38 (hsh.al rfl (by decide)) (Or.inl ⟨_, rfl⟩) (hsh.r 102 36 111 (by decide)) (by decide) ?_
      refine r_iload_n dX7_draws_13 rfl ?_
      refine r_aload_n dX7_draws_14 rfl ?_
      refine r_getR (b := 106) dX7_draws_15 f_X7_23 (hsh.al rfl (by decide)) (Or.inl ⟨_, rfl⟩) (hsh.r 102 7 106 (by decide)) (by decide) ?_
      refine r_iconst (v := 1) dX7_draws_18 (by decide) ?_
      refine r_iload_n dX7_draws_19 rfl ?_
      refine r_niadd (a := 1) dX7_draws_20 rfl rfl ?_
      refine r_ialdE (j := (1 + i)) dX7_draws_21 (hsh.al rfl (by decide)) (by omega) rfl (show I2 106 (1 + i) = nI (qdl σ (1 + i)) by rw [hd _ (by omega), dr0 i (1 + i) (by omega) (by omega)]) ?_
      refine r_iast (j := i) dX7_draws_22 (hsh.al rfl (by decide)) (by omega) rfl ?_
      refine r_iload_n dX7_draws_23 rfl ?_
      refine r_ldcwI dX7_draws_24 w_1204 ?_
      refine r_imul dX7_draws_27 ?_
      refine r_sipush (v := 12345) dX7_draws_28 (by decide) ?_
      refine r_iadd dX7_draws_31 ?_
      refine r_istore_n dX7_draws_32 (by decide) rfl ?_
      refine r_aload_n dX7_draws_33 rfl ?_
      refine r_getR (b := 106) dX7_draws_34 f_X7_23 (hsh.al rfl (by decide)) (Or.inl ⟨_, rfl⟩) (hsh.r 102 7 106 (by decide)) (by decide) ?_
      refine r_iconst (v := 1) dX7_draws_37 (by decide) ?_
      refine r_iload_n dX7_draws_38 rfl ?_
      refine r_niadd (a := 1) dX7_draws_39 rfl rfl ?_
      refine r_iload_n dX7_draws_40 rfl ?_
      refine r_bipush (v := 9) dX7_draws_41 (by decide) ?_
      refine r_iushr dX7_draws_43 ?_
      refine r_top (v := nI (drwV ((drwN (qdl σ) seed i).1 * 1103515245 + 12345))) (drwV_eq _) ?_
      refine r_iload_n dX7_draws_44 rfl ?_
      refine r_iconst (v := 2) dX7_draws_45 (by decide) ?_
      refine r_nicmp_ge (b := 2)  (tgt := 54) dX7_draws_46 (by decide) rfl rfl (by omega) (by omega) (fun h46 => ?_) (fun h46 => ?_)
      · refine r_sipush (v := 200) dX7_draws_54 (by decide) ?_
        refine r_nirem (b := 200) dX7_draws_57 rfl rfl (by omega) (by omega) (by omega) ?_
        refine r_iast (j := (1 + i)) dX7_draws_58 (hsh.al rfl (by decide)) (by omega) rfl ?_
        refine r_iincE (b := (i + 1)) dX7_draws_59 rfl rfl (nI_succ _).symm rfl ?_
        refine r_goto (tgt := 4) dX7_draws_62 (by decide) ?_
        refine ih (i + 1) _ _ (by omega) ((hF.w).u (by omega)) (fun j hj => ?_) fun j hj => ?_
        · rw [up2_a _ _ _ (by decide)]
          by_cases e : j = i
          · rw [e, up2_at]
          · rw [up2_k _ _ e]; exact hw j (by omega)
        · rw [dn, if_neg (show ¬ i + 1 ≤ 2 by omega)]
          by_cases e : j = i + 1
          · rw [e, up1_at, show i + 1 = 1 + i by omega, up2_at]
          · rw [up1_ne _ _ e, up2_k _ _ (by omega), up2_a _ _ _ (by decide)]; exact hd j hj
      · refine r_bipush (v := 10) dX7_draws_49 (by decide) ?_
        refine r_goto (tgt := 57) dX7_draws_51 (by decide) ?_
        refine r_nirem (b := 10) dX7_draws_57 rfl rfl (by omega) (by omega) (by omega) ?_
        refine r_iast (j := (1 + i)) dX7_draws_58 (hsh.al rfl (by decide)) (by omega) rfl ?_
        refine r_iincE (b := (i + 1)) dX7_draws_59 rfl rfl (nI_succ _).symm rfl ?_
        refine r_goto (tgt := 4) dX7_draws_62 (by decide) ?_
        refine ih (i + 1) _ _ (by omega) ((hF.w).u (by omega)) (fun j hj => ?_) fun j hj => ?_
        · rw [up2_a _ _ _ (by decide)]
          by_cases e : j = i
          · rw [e, up2_at]
          · rw [up2_k _ _ e]; exact hw j (by omega)
        · rw [dn, if_pos (show i + 1 ≤ 2 by omega)]
          by_cases e : j = i + 1
          · rw [e, up1_at, show i + 1 = 1 + i by omega, up2_at]
          · rw [up1_ne _ _ e, up2_k _ _ (by omega), up2_a _ _ _ (by decide)]; exact hd j hj
  refine r_iload_n dX7_draws_0 rfl ?_
  refine r_istore_n dX7_draws_1 (by decide) rfl ?_
  refine r_iconst (v := 0) dX7_draws_2 (by decide) ?_
  refine r_istore_n dX7_draws_3 (by decide) rfl ?_
  exact loop 4 0 I J rfl FrZ.rf (fun j hj => absurd hj (Nat.not_lt_zero _)) hM.p.2.2.2.1
theorem PdM.y {n : Nat} {I I2 : TI} {J2 : TJ} {R : TR} {v : Value} {σ : CSt} (h : MdS n I R σ) (hF : FrY I I2) : PdM n I R v σ (some v) n I2 J2 R := PdM.to (h.y hF) fun a ha => hF.1 a (by omega) (by omega) (by omega) (by omega)
set_option maxRecDepth 20000 in
set_option maxHeartbeats 4000000 in
theorem S_mDrawn {g : GP} {d n : Nat} {I : TI} {J : TJ} {R : TR} {σ : CSt} (hM : MdS n I R σ) (seed : Int32) : Wp g (d + 51) mX7_drawn 0 [.ref 102, .int seed] [] 0 0 n I J R (PdM n I R (.int (zI (drawnN σ seed))) σ) := by
  have hsh := hM.sh
  refine r_aload_n dX7_drawn_0 rfl ?_
  refine r_iload_n dX7_drawn_1 rfl ?_
  refine r_callV1N dX7_drawn_2 moX7_draws w_1200 w_1202 s_67 (hsh.al rfl (by decide)) cl7 rfl (Nat.le_of_ble_eq_true rfl) (Nat.le_of_ble_eq_true rfl) (S_mDraws hM seed) (fun r n I2 J R hq => ?_)
  obtain ⟨rfl, rfl, rfl, hF2⟩ := hq
  refine r_some rfl ?_
  refine r_iret dX7_drawn_5 rfl ?_
  exact PdM.y hM hF2
theorem low_gcd : ∀ a, a < 21 → ∀ b, b < 21 → 1 ≤ b → a ≤ b → lowN a a b b = a / Nat.gcd a b ∧ lowN b a b b = b / Nat.gcd a b := by decide +kernel
theorem l_rem : ∀ a, a < 21 → ∀ b, b < 21 → b ≠ 0 → lI (a : Nat) - lI (a : Nat) / lI (b : Nat) * lI (b : Nat) = lI ((a % b : Nat) : Int) := by decide +kernel
theorem l_div : ∀ a, a < 21 → ∀ b, b < 21 → b ≠ 0 → lI (a : Nat) / lI (b : Nat) = (nI (a / b)).toInt64 := by decide +kernel
theorem lI_ne0 {b : Nat} (h : b < 21) (h0 : b ≠ 0) : ¬ lI (b : Nat) = 0 := fun e => by
  have e2 := (lI_eq (a := (b : Int)) (b := 0) (by unfold inL; omega) (by unfold inL; omega)).mp (by rw [e]; decide)
  omega
theorem lI_add0 {b : Nat} (h : b < 1000) : lI (b : Nat) + 0 = lI (b : Nat) := by
  apply Int64.toInt_inj.mp
  have e0 : (0 : Int64) = lI 0 := by decide
  rw [e0, Int64.toInt_add, lI_toInt (by omega), lI_toInt (by omega), Int.add_zero]
  exact Int.bmod_eq_of_le (by show -(((18446744073709551616 : Nat) : Int) / 2) ≤ _; omega) (by show _ < (((18446744073709551616 : Nat) : Int) + 1) / 2; omega)
theorem lI_add1 {b : Nat} (h : b < 1000) : lI (b : Nat) + 1 = lI ((b + 1 : Nat) : Int) := by
  apply Int64.toInt_inj.mp
  have e1 : (1 : Int64) = lI 1 := by decide
  rw [e1, Int64.toInt_add, lI_toInt (by omega), lI_toInt (by omega), lI_toInt (by omega)]
  rw [Int.bmod_eq_of_le (by show -(((18446744073709551616 : Nat) : Int) / 2) ≤ _; omega) (by show _ < (((18446744073709551616 : Nat) : Int) + 1) / 2; omega)]
  omega
set_option maxRecDepth 20000 in
set_option maxHeartbeats 4000000 in
theorem S_mChance {g : GP} {d n : Nat} {I : TI} {J : TJ} {R : TR} {σ : CSt} (hM : MdS n I R σ) (seed : Int32) {m w : Int} (hm : inZ m) (hw : inZ w) : Wp g (d + 51) mX7_chance 0 [.ref 102, .int seed, .int (zI m), .int (zI w), .null, .null, .null, .null, .null, .null, .null, .null, .null] [] 0 0 n I J R (PdM n I R (.long (chanV σ seed m w)) σ) := by
  have hsh := hM.sh
  have hN := hM.p.mn
  have hV := hM.v
  have wf := hM.wf
  have hz := wf.2.2.1
  have hcl : inZ (clearN σ) := (plainN_ok ((wf.upDl (w := 1) (v := 9) (by decide)).upDl (w := 2) (v := 0) (by decide)) hV.le).inW (by decide)
  have hdr : ∀ s, inZ (drawnN σ s) := fun s => (plainN_ok (drwN_wf wf s 4 (by decide)) hV.le).inW (by decide)
  have euc : ∀ m0, m = (m0 : Nat) → 1 ≤ m0 → m0 ≤ 20 → 0 ≤ w ∧ w < 2 → ∀ x4 I2 J2, FrY I I2 → ∀ q p (x11 : Value), p < 21 → q < 21 → Nat.gcd p q = Nat.gcd (goodN σ seed m0) m0 → Wp g (d + 51) mX7_chance 81 [.ref 102, .int seed, .int (nI m0), .int (zI w), x4, .long (lI (goodN σ seed m0 : Nat)), .null, .long (lI (p : Nat)), .null, .long (lI (q : Nat)), .null, x11, .null] [] 0 0 n I2 J2 R (PdM n I R (.long (chanV σ seed m w)) σ) := by
    intro m0 em h1 h20 hw2 x4 I2 J2 hF q
    have hg := goodN_le σ seed m0
    induction q using Nat.strongRecOn with
    | ind q ih =>
      intro p x11 hp hq he
      by_cases hq0 : q = 0
      · subst hq0
        rw [Nat.gcd_zero_right] at he
        have hp0 : p ≠ 0 := fun e => by
          have h3 := Nat.gcd_pos_of_pos_right (goodN σ seed m0) (show 0 < m0 by omega)
          omega
        obtain ⟨k1, k2⟩ := low_gcd (goodN σ seed m0) (by omega) m0 (by omega) h1 hg
        refine r_lload dX7_chance_81 rfl ?_
        refine r_lconst (v := 0) dX7_chance_83 (by decide) ?_
        refine r_lcmp dX7_chance_84 ?_
        refine r_if_eq (tgt := 106) dX7_chance_85 (by decide) (fun _ => ?_) (fun hx => absurd ((lg_cmp_eq _ _).mpr rfl) hx)
        refine r_iload_n dX7_chance_106 rfl ?_
        refine r_zif_ne (tgt := 118) dX7_chance_107 (by decide) rfl hw (fun h107 => ?_) (fun h107 => ?_)
        · refine r_iload_n dX7_chance_118 rfl ?_
          refine r_zi2l dX7_chance_119 (nz _) (by unfold inZ; omega) ?_
          refine r_lload dX7_chance_120 rfl ?_
          refine r_ldiv dX7_chance_122 (lI_ne0 hp hp0) ?_
          refine r_topL (l_div m0 (by omega) p hp hp0) ?_
          refine r_lret dX7_chance_123 rfl ?_
          have e0 : chanV σ seed m w = (nI (m0 / p)).toInt64 := by
            unfold chanV
            rw [if_pos (by omega), if_neg h107, em, he]
            show (nI (lowN _ (goodN σ seed m0) m0 m0)).toInt64 = _
            rw [Int.toNat_natCast, k2]
          rw [e0]
          exact PdM.y hM hF
        · refine r_lload dX7_chance_110 rfl ?_
          refine r_lload dX7_chance_112 rfl ?_
          refine r_ldiv dX7_chance_114 (lI_ne0 hp hp0) ?_
          refine r_topL (l_div (goodN σ seed m0) (by omega) p hp hp0) ?_
          refine r_goto (tgt := 123) dX7_chance_115 (by decide) ?_
          refine r_lret dX7_chance_123 rfl ?_
          have e0 : chanV σ seed m w = (nI (goodN σ seed m0 / p)).toInt64 := by
            unfold chanV
            rw [if_pos (by omega), if_pos h107, em, he]
            show (nI (lowN _ (goodN σ seed m0) m0 m0)).toInt64 = _
            rw [Int.toNat_natCast, k1]
          rw [e0]
          exact PdM.y hM hF
      · have hne := lI_ne0 hq hq0
        refine r_lload dX7_chance_81 rfl ?_
        refine r_lconst (v := 0) dX7_chance_83 (by decide) ?_
        refine r_lcmp dX7_chance_84 ?_
        refine r_if_eq (tgt := 106) dX7_chance_85 (by decide) (fun hx => absurd ((lg_cmp_eq _ _).mp hx) hne) (fun _ => ?_)
        refine r_lload dX7_chance_88 rfl ?_
        refine r_lload dX7_chance_90 rfl ?_
        refine r_lrem dX7_chance_92 hne ?_
        refine r_topL (l_rem p hp q hq hq0) ?_
        refine r_lstore dX7_chance_93 (by decide) rfl ?_
        refine r_lload dX7_chance_95 rfl ?_
        refine r_lstore dX7_chance_97 (by decide) rfl ?_
        refine r_lload dX7_chance_99 rfl ?_
        refine r_lstore dX7_chance_101 (by decide) rfl ?_
        refine r_goto (tgt := 81) dX7_chance_103 (by decide) ?_
        have hlt := Nat.mod_lt p (show 0 < q by omega)
        exact ih (p % q) hlt q _ hq (by omega) (by rw [← he, Nat.gcd_comm q, ← Nat.gcd_rec, Nat.gcd_comm])
  have loop : ∀ m0, m = (m0 : Nat) → 1 ≤ m0 → m0 ≤ 20 → 0 ≤ w ∧ w < 2 → ∀ q i I2 J2, i + q = m0 → FrY I I2 → Wp g (d + 51) mX7_chance 38 [.ref 102, .int seed, .int (nI m0), .int (zI w), .int (zI (clearN σ)), .long (lI (goodN σ seed i : Nat)), .null, .int (nI i), .null, .null, .null, .null, .null] [] 0 0 n I2 J2 R (PdM n I R (.long (chanV σ seed m w)) σ) := by
    intro m0 em h1 h20 hw2 q
    induction q with
    | zero =>
      intro i I2 J2 hi hF
      have e : i = m0 := hi
      subst e
      have hg := goodN_le σ seed i
      refine r_iload dX7_chance_38 rfl ?_
      refine r_iload_n dX7_chance_40 rfl ?_
      refine r_nicmp_ge  (tgt := 73) dX7_chance_41 (by decide) rfl rfl (by omega) (by omega) (fun h41 => ?_) (fun h41 => absurd h41 (by omega))
      refine r_lload dX7_chance_73 rfl ?_
      refine r_lstore dX7_chance_75 (by decide) rfl ?_
      refine r_iload_n dX7_chance_77 rfl ?_
      refine r_zi2l dX7_chance_78 (nz _) (by unfold inZ; omega) ?_
      refine r_lstore dX7_chance_79 (by decide) rfl ?_
      exact euc i em h1 h20 hw2 _ I2 J2 hF i (goodN σ seed i) _ (by omega) (by omega) rfl
    | succ q ih =>
      intro i I2 J2 hi hF
      have hg := goodN_le σ seed i
      refine r_iload dX7_chance_38 rfl ?_
      refine r_iload_n dX7_chance_40 rfl ?_
      refine r_nicmp_ge  (tgt := 73) dX7_chance_41 (by decide) rfl rfl (by omega) (by omega) (fun h41 => absurd h41 (by omega)) (fun h41 => ?_)
      refine r_lload dX7_chance_44 rfl ?_
      refine r_aload_n dX7_chance_46 rfl ?_
      refine r_iload_n dX7_chance_47 rfl ?_
      refine r_iload dX7_chance_48 rfl ?_
      refine r_iadd dX7_chance_50 ?_
      refine r_callV1N dX7_chance_51 moX7_draws w_1200 w_1202 s_67 (hsh.al rfl (by decide)) cl7 rfl (Nat.le_of_ble_eq_true rfl) (Nat.le_of_ble_eq_true rfl) (S_mDraws (hM.y hF) (seed + nI i)) (fun r n I3 J R hq => ?_)
      obtain ⟨rfl, rfl, rfl, hF3⟩ := hq
      refine r_some rfl ?_
      refine r_iload dX7_chance_54 rfl ?_
      refine r_zicmp_lt  (tgt := 63) dX7_chance_56 (by decide) rfl rfl (hdr _) hcl (fun h56 => ?_) (fun h56 => ?_)
      · refine r_lconst (v := 0) dX7_chance_63 (by decide) ?_
        refine r_ladd dX7_chance_64 ?_
        refine r_topL (lI_add0 (by omega)) ?_
        refine r_lstore dX7_chance_65 (by decide) rfl ?_
        refine r_iincE (b := (i + 1)) dX7_chance_67 rfl rfl (nI_succ _).symm rfl ?_
        refine r_goto (tgt := 38) dX7_chance_70 (by decide) ?_
        have e2 : goodN σ seed (i + 1) = goodN σ seed i := if_neg (by omega)
        have hl := ih (i + 1) I3 J (by omega) (hF.t hF3)
        rw [e2] at hl
        exact hl
      · refine r_lconst (v := 1) dX7_chance_59 (by decide) ?_
        refine r_goto (tgt := 64) dX7_chance_60 (by decide) ?_
        refine r_ladd dX7_chance_64 ?_
        refine r_topL (lI_add1 (by omega)) ?_
        refine r_lstore dX7_chance_65 (by decide) rfl ?_
        refine r_iincE (b := (i + 1)) dX7_chance_67 rfl rfl (nI_succ _).symm rfl ?_
        refine r_goto (tgt := 38) dX7_chance_70 (by decide) ?_
        have e2 : goodN σ seed (i + 1) = goodN σ seed i + 1 := if_pos (by omega)
        have hl := ih (i + 1) I3 J (by omega) (hF.t hF3)
        rw [e2] at hl
        exact hl
  refine r_iload_n dX7_chance_0 rfl ?_
  refine r_zi2l dX7_chance_1 rfl hm ?_
  refine r_lconst (v := 1) dX7_chance_2 (by decide) ?_
  refine r_ldc2 dX7_chance_3 w_1209 ?_
  refine r_callS3I dX7_chance_6 moX7_in w_930 w_931 (Nat.le_of_ble_eq_true rfl) (Nat.le_of_ble_eq_true rfl) (S_in3 (z := m) (lo := 1) (hi := 20) hm (by decide) (by decide) (by unfold inZ; omega) (by unfold inZ; omega)) ?_
  refine r_ifb_eq (tgt := 22) dX7_chance_9 (by decide) (fun h9 => ?_) (fun h9 => ?_)
  · rw [decide_eq_false_iff_not] at h9
    refine r_ldc2 dX7_chance_22 w_1210 ?_
    refine r_lret dX7_chance_25 rfl ?_
    have e0 : chanV σ seed m w = -4611686018427387904 := if_neg (by omega)
    rw [e0]
    exact PdM.rf hM
  · rw [decide_eq_true_eq] at h9
    refine r_iload_n dX7_chance_12 rfl ?_
    refine r_zi2l dX7_chance_13 rfl hw ?_
    refine r_lconst (v := 0) dX7_chance_14 (by decide) ?_
    refine r_lconst (v := 1) dX7_chance_15 (by decide) ?_
    refine r_callS3I dX7_chance_16 moX7_in w_930 w_931 (Nat.le_of_ble_eq_true rfl) (Nat.le_of_ble_eq_true rfl) (S_in3 (z := w) (lo := 0) (hi := 1) hw (by decide) (by decide) (by unfold inZ; omega) (by unfold inZ; omega)) ?_
    refine r_ifb_ne (tgt := 26) dX7_chance_19 (by decide) (fun h19 => ?_) (fun h19 => ?_)
    · rw [decide_eq_true_eq] at h19
      obtain ⟨m0, em⟩ := Int.eq_ofNat_of_zero_le (show 0 ≤ m by omega)
      have em2 : zI m = nI m0 := by rw [em]; rfl
      rw [em2]
      refine r_aload_n dX7_chance_26 rfl ?_
      refine r_callV0N dX7_chance_27 moX7_worthClear w_1162 w_1164 s_62 (hsh.al rfl (by decide)) cl7 rfl (Nat.le_of_ble_eq_true rfl) (Nat.le_of_ble_eq_true rfl) (S_mClear hM) (fun r n I2 J R hq => ?_)
      obtain ⟨rfl, rfl, rfl, hF2⟩ := hq
      refine r_some rfl ?_
      refine r_istore dX7_chance_30 (by decide) rfl ?_
      refine r_lconst (v := 0) dX7_chance_32 (by decide) ?_
      refine r_topL (v := lI (goodN σ seed 0 : Nat)) (show (0 : Int64) = lI ((0 : Nat) : Int) by decide) ?_
      refine r_lstore dX7_chance_33 (by decide) rfl ?_
      refine r_iconst (v := 0) dX7_chance_35 (by decide) ?_
      refine r_istore dX7_chance_36 (by decide) rfl ?_
      exact loop m0 em (by omega) (by omega) (by omega) m0 0 I2 J (Nat.zero_add _) hF2.y
    · rw [decide_eq_false_iff_not] at h19
      refine r_ldc2 dX7_chance_22 w_1210 ?_
      refine r_lret dX7_chance_25 rfl ?_
      have e0 : chanV σ seed m w = -4611686018427387904 := if_neg (by omega)
      rw [e0]
      exact PdM.rf hM
