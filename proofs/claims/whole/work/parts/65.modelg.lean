/-! the model: best; a text more -/
theorem MWk.o {I I2 : TI} {x : NS} (h : MWk I x) (h1 : ∀ k, 27 ≤ k → k ≤ 31 → I2 102 k = I 102 k) (h2 : I2 109 = I 109) (h3 : I2 110 = I 110) : MWk I2 x := by
  obtain ⟨a1, a2, a3, a4, a5, a6, a7⟩ := h
  exact ⟨(h1 27 (by decide) (by decide)).trans a1, (h1 28 (by decide) (by decide)).trans a2, (h1 29 (by decide) (by decide)).trans a3, (h1 30 (by decide) (by decide)).trans a4, (h1 31 (by decide) (by decide)).trans a5, by rw [h2]; exact a6, by rw [h3]; exact a7⟩
/-- what a try of the orders changes -/
def FrBe (I I2 : TI) : Prop := (∀ a, a ≠ 102 → a ≠ 109 → a ≠ 110 → I2 a = I a) ∧ ∀ k, (k < 12 ∨ 35 < k) → I2 102 k = I 102 k
/-- the best so far as the model keeps it -/
def BsM (I : TI) (c : Int32 × Int) : Prop := I 102 35 = c.1 ∧ ((c.1 = -1 ∧ c.2 = -1000000) ∨ (c.1 ≠ -1 ∧ I 102 34 = zI c.2 ∧ inZ c.2))
section XMb
variable {n : Nat} {I I1 I2 : TI} {R : TR} {c : Int32 × Int} {dl : Nat → Nat} {tr : Nat → Nat → Nat} {sz rl k : Nat} {x : Int32} {V : TV} {y : NS} {σ : CSt}
theorem FrBe.rf : FrBe I I := ⟨fun _ _ _ _ => rfl, fun _ _ => rfl⟩
theorem FrBe.t (h : FrBe I I1) (h2 : FrBe I1 I2) : FrBe I I2 := ⟨fun a a1 a2 a3 => (h2.1 a a1 a2 a3).trans (h.1 a a1 a2 a3), fun k hk => (h2.2 k hk).trans (h.2 k hk)⟩
theorem FrBe.m (h : FrBe I I1) (h2 : FrMo I1 I2) : FrBe I I2 := ⟨fun a a1 a2 a3 => (h2.1 a a1 a2 a3).trans (h.1 a a1 a2 a3), fun k hk => (h2.2 k (by omega)).trans (h.2 k hk)⟩
theorem FrBe.u (h : FrBe I I2) (hk : 12 ≤ k ∧ k ≤ 35) : FrBe I (up2 I2 102 k x) := ⟨fun a a1 a2 a3 => by rw [up2_a _ _ _ a1]; exact h.1 a a1 a2 a3, fun j hj => by rw [up2_k _ _ (by omega)]; exact h.2 j hj⟩
theorem FrBe.mn (h : FrBe I I2) (hN : MdN n I R dl tr sz rl) : MdN n I2 R dl tr sz rl := hN.fr (h.1 106 (by decide) (by decide) (by decide)) (h.1 107 (by decide) (by decide) (by decide)) (h.1 108 (by decide) (by decide) (by decide)) (fun k hk => h.2 k (by omega))
theorem FrBe.tv (h : FrBe I I2) (hV : TxV I rl V) : TxV I2 rl V := hV.o (h.1 103 (by decide) (by decide) (by decide)) (h.1 104 (by decide) (by decide) (by decide))
theorem BsM.m (h : BsM I c) (h1 : I2 102 34 = I 102 34) (h2 : I2 102 35 = I 102 35) : BsM I2 c := by
  unfold BsM at *
  rw [h1, h2]; exact h
theorem MWk.back (h : MWk I2 y) (a : NS) : MWk (up2 (up2 (up2 I2 102 27 (nI (nAt a))) 102 28 (nI (nTick a))) 102 29 (zI (nWorth a))) (nAt a, nTick a, nWorth a, nFound y, nWait y, nFi y, nWf y) := by
  obtain ⟨a1, a2, a3, a4, a5, a6, a7⟩ := h
  refine ⟨?_, ?_, ?_, ?_, ?_, ?_, ?_⟩
  · rw [up2_k _ _ (by decide), up2_k _ _ (by decide), up2_at]
  · rw [up2_k _ _ (by decide), up2_at]
  · rw [up2_at]
  · rw [up2_k _ _ (by decide), up2_k _ _ (by decide), up2_k _ _ (by decide)]; exact a4
  · rw [up2_k _ _ (by decide), up2_k _ _ (by decide), up2_k _ _ (by decide)]; exact a5
  · rw [up2_a _ _ _ (by decide), up2_a _ _ _ (by decide), up2_a _ _ _ (by decide)]; exact a6
  · rw [up2_a _ _ _ (by decide), up2_a _ _ _ (by decide), up2_a _ _ _ (by decide)]; exact a7
end XMb
set_option maxRecDepth 20000 in
set_option maxHeartbeats 4000000 in
theorem S_mTries {g : GP} {d n : Nat} {R : TR} {dl : Nat → Nat} {tr : Nat → Nat → Nat} {sz rl : Nat} {V : TV} : ∀ (m place taken digits : Nat) (x : NS) (c : Int32 × Int) (I : TI) (J : TJ), place + m = sz → taken < 128 → bcN taken = place → digits < 10 ^ place → BOK place x → MdN n I R dl tr sz rl → TxV I rl V → MWk I x → BsM I c → Wp g (d + m + 48) mX7_triesFrom 0 [.ref 102, .int (nI place), .int (nI taken), .int (nI digits), .null, .null, .null, .null] [] 0 0 n I J R (PostM n R none (fun I2 _ => FrBe I I2 ∧ (∃ y, MWk I2 y) ∧ BsM I2 (tryN dl tr V sz m place taken digits x c) ∧ (tryN dl tr V sz m place taken digits x c).1 ≠ -1))
  | 0, place, taken, digits, x, c, I, J, hm, ht, hb, hd, hx, hN, hV, hW, hB => by
    have hsh := hN.sh
    have hz := hN.wf.2.2.1
    have e : place = sz := hm
    have hp7 : (10 : Nat) ^ place ≤ 10 ^ 7 := Nat.pow_le_pow_right (by decide) (by omega)
    have hd2 : nI digits ≠ -1 := nI_ne_m1 (by omega)
    obtain ⟨x1, x2, x3, x4⟩ := hx
    have e0 : tryN dl tr V sz 0 place taken digits x c = if c.2 < nWorth x then (nI digits, nWorth x) else c := rfl
    have hlt : c.1 = -1 → c.2 < nWorth x := fun h1 => by
      rcases hB.2 with h | h
      · rw [h.2]; omega
      · exact absurd h1 h.1
    have take : c.2 < nWorth x → (PostM n R none (fun I2 _ => FrBe I I2 ∧ (∃ y, MWk I2 y) ∧ BsM I2 (tryN dl tr V sz 0 place taken digits x c) ∧ (tryN dl tr V sz 0 place taken digits x c).1 ≠ -1)) none n (up2 (up2 I 102 34 (zI (nWorth x))) 102 35 (nI digits)) J R := fun h => by
      rw [e0, if_pos h]
      exact ⟨rfl, rfl, rfl, (FrBe.rf.u (by decide)).u (by decide), ⟨x, hW.o (fun k k1 k2 => by rw [up2_k _ _ (by omega), up2_k _ _ (by omega)]) (by rw [up2_a _ _ _ (by decide), up2_a _ _ _ (by decide)]) (by rw [up2_a _ _ _ (by decide), up2_a _ _ _ (by decide)])⟩, ⟨up2_at _ _ _ _, Or.inr ⟨hd2, by rw [up2_k _ _ (by decide), up2_at], by unfold inZ; show _ ≤ nWorth x ∧ nWorth x < _; omega⟩⟩, hd2⟩
    refine r_iload_n dX7_triesFrom_0 rfl ?_
    refine r_aload_n dX7_triesFrom_1 rfl ?_
    refine r_getIE dX7_triesFrom_2 f_X7_70 (hsh.al rfl (by decide)) (Or.inl rfl) hN.many ?_
    refine r_nicmp_ne  (tgt := 41) dX7_triesFrom_5 (by decide) rfl rfl (by omega) (by omega) (fun h5 => absurd h5 (by omega)) (fun h5 => ?_)
    refine r_aload_n dX7_triesFrom_8 rfl ?_
    refine r_getIE dX7_triesFrom_9 f_X7_307 (hsh.al rfl (by decide)) (Or.inl rfl) hB.1 ?_
    refine r_iconst (v := (-1)) dX7_triesFrom_12 (by decide) ?_
    refine r_icmp_eq (tgt := 27) dX7_triesFrom_13 (by decide) (fun h13 => ?_) (fun h13 => ?_)
    · refine r_aload_n dX7_triesFrom_27 rfl ?_
      refine r_aload_n dX7_triesFrom_28 rfl ?_
      refine r_getIE dX7_triesFrom_29 f_X7_248 (hsh.al rfl (by decide)) (Or.inl rfl) hW.2.2.1 ?_
      refine r_putI dX7_triesFrom_32 f_X7_310 (hsh.al rfl (by decide)) (Or.inl rfl) rfl ?_
      refine r_aload_n dX7_triesFrom_35 rfl ?_
      refine r_iload_n dX7_triesFrom_36 rfl ?_
      refine r_putI dX7_triesFrom_37 f_X7_307 (hsh.al rfl (by decide)) (Or.inl rfl) rfl ?_
      refine r_vret dX7_triesFrom_40 rfl ?_
      exact take (hlt h13)
    · have hB2 : I 102 34 = zI c.2 ∧ inZ c.2 := by
        rcases hB.2 with h | h
        · exact absurd h.1 h13
        · exact h.2
      refine r_aload_n dX7_triesFrom_16 rfl ?_
      refine r_getIE dX7_triesFrom_17 f_X7_248 (hsh.al rfl (by decide)) (Or.inl rfl) hW.2.2.1 ?_
      refine r_aload_n dX7_triesFrom_20 rfl ?_
      refine r_getIE dX7_triesFrom_21 f_X7_310 (hsh.al rfl (by decide)) (Or.inl rfl) hB2.1 ?_
      refine r_zicmp_le  (tgt := 40) dX7_triesFrom_24 (by decide) rfl rfl (by unfold inZ; omega) hB2.2 (fun h24 => ?_) (fun h24 => ?_)
      · refine r_vret dX7_triesFrom_40 rfl ?_
        refine ⟨rfl, rfl, rfl, FrBe.rf, ⟨x, hW⟩, ?_⟩
        rw [e0, if_neg (by omega)]
        exact ⟨hB, h13⟩
      · refine r_aload_n dX7_triesFrom_27 rfl ?_
        refine r_aload_n dX7_triesFrom_28 rfl ?_
        refine r_getIE dX7_triesFrom_29 f_X7_248 (hsh.al rfl (by decide)) (Or.inl rfl) hW.2.2.1 ?_
        refine r_putI dX7_triesFrom_32 f_X7_310 (hsh.al rfl (by decide)) (Or.inl rfl) rfl ?_
        refine r_aload_n dX7_triesFrom_35 rfl ?_
        refine r_iload_n dX7_triesFrom_36 rfl ?_
        refine r_putI dX7_triesFrom_37 f_X7_307 (hsh.al rfl (by decide)) (Or.inl rfl) rfl ?_
        refine r_vret dX7_triesFrom_40 rfl ?_
        exact take (by omega)
  | m + 1, place, taken, digits, x, c, I, J, hm, ht, hb, hd, hx, hN, hV, hW, hB => by
    have hsh := hN.sh
    have wf := hN.wf
    have hz := wf.2.2.1
    obtain ⟨x1, x2, x3, x4⟩ := hx
    have e0 : tryN dl tr V sz (m + 1) place taken digits x c = iterF (fun i c => if taken.testBit i then c else tryN dl tr V sz m (place + 1) (taken ||| 2 ^ i) (digits * 10 + i + 1) (lookN dl tr V i place x) c) sz 0 c := rfl
    have loop : ∀ q i c2 I2 J2, i + q = sz → FrBe I I2 → (∃ y, MWk I2 y) → BsM I2 c2 → (c2.1 ≠ -1 ∨ ∀ j, j < i → taken.testBit j = true) → iterF (fun i c => if taken.testBit i then c else tryN dl tr V sz m (place + 1) (taken ||| 2 ^ i) (digits * 10 + i + 1) (lookN dl tr V i place x) c) q i c2 = iterF (fun i c => if taken.testBit i then c else tryN dl tr V sz m (place + 1) (taken ||| 2 ^ i) (digits * 10 + i + 1) (lookN dl tr V i place x) c) sz 0 c → Wp g (d + (m + 1) + 48) mX7_triesFrom 62 [.ref 102, .int (nI place), .int (nI taken), .int (nI digits), .int (nI (nAt x)), .int (nI (nTick x)), .int (zI (nWorth x)), .int (nI i)] [] 0 0 n I2 J2 R (PostM n R none (fun I2 _ => FrBe I I2 ∧ (∃ y, MWk I2 y) ∧ BsM I2 (tryN dl tr V sz (m + 1) place taken digits x c) ∧ (tryN dl tr V sz (m + 1) place taken digits x c).1 ≠ -1)) := by
      intro q
      induction q with
      | zero =>
        intro i c2 I2 J2 hi hF hY hB2 hne he
        have e : i = sz := hi
        subst e
        have he : c2 = _ := he
        have hN2 := hF.mn hN
        refine r_iload dX7_triesFrom_62 rfl ?_
        refine r_aload_n dX7_triesFrom_64 rfl ?_
        refine r_getIE dX7_triesFrom_65 f_X7_70 (hsh.al rfl (by decide)) (Or.inl rfl) hN2.many ?_
        refine r_nicmp_ge  (tgt := 133) dX7_triesFrom_68 (by decide) rfl rfl (by omega) (by omega) (fun h68 => ?_) (fun h68 => absurd h68 (by omega))
        refine r_vret dX7_triesFrom_133 rfl ?_
        refine ⟨rfl, rfl, rfl, hF, hY, ?_⟩
        rw [e0, ← he]
        refine ⟨hB2, ?_⟩
        rcases hne with h | h
        · exact h
        · exact absurd (all_gone _ (by omega) _ ht h) (by omega)
      | succ q ih =>
        intro i c2 I2 J2 hi hF hY hB2 hne he
        have hN2 := hF.mn hN
        have es : iterF (fun i c => if taken.testBit i then c else tryN dl tr V sz m (place + 1) (taken ||| 2 ^ i) (digits * 10 + i + 1) (lookN dl tr V i place x) c) (q + 1) i c2 = iterF (fun i c => if taken.testBit i then c else tryN dl tr V sz m (place + 1) (taken ||| 2 ^ i) (digits * 10 + i + 1) (lookN dl tr V i place x) c) q (i + 1) ((fun i c => if taken.testBit i then c else tryN dl tr V sz m (place + 1) (taken ||| 2 ^ i) (digits * 10 + i + 1) (lookN dl tr V i place x) c) i c2) := rfl
        rw [es] at he
        refine r_iload dX7_triesFrom_62 rfl ?_
        refine r_aload_n dX7_triesFrom_64 rfl ?_
        refine r_getIE dX7_triesFrom_65 f_X7_70 (hsh.al rfl (by decide)) (Or.inl rfl) hN2.many ?_
        refine r_nicmp_ge  (tgt := 133) dX7_triesFrom_68 (by decide) rfl rfl (by omega) (by omega) (fun h68 => absurd h68 (by omega)) (fun h68 => ?_)
        refine r_iload_n dX7_triesFrom_71 rfl ?_
        refine r_iload dX7_triesFrom_72 rfl ?_
        refine r_ishr dX7_triesFrom_74 ?_
        refine r_iconst (v := 1) dX7_triesFrom_75 (by decide) ?_
        refine r_iand dX7_triesFrom_76 ?_
        refine r_top (v := b2i (taken.testBit i)) (bit_ts _ ht _ (by omega)) ?_
        refine r_ifb_ne (tgt := 127) dX7_triesFrom_77 (by decide) (fun h77 => ?_) (fun h77 => ?_)
        · refine r_iincE (b := (i + 1)) dX7_triesFrom_127 rfl rfl (nI_succ _).symm rfl ?_
          refine r_goto (tgt := 62) dX7_triesFrom_130 (by decide) ?_
          have e3 : (fun i c => if taken.testBit i then c else tryN dl tr V sz m (place + 1) (taken ||| 2 ^ i) (digits * 10 + i + 1) (lookN dl tr V i place x) c) i c2 = c2 := if_pos h77
          rw [e3] at he
          exact ih (i + 1) c2 I2 J2 (by omega) hF hY hB2 (by
            rcases hne with h | h
            · exact Or.inl h
            · refine Or.inr fun j hj => ?_
              by_cases e : j = i
              · rw [e]; exact h77
              · exact h j (by omega)) he
        · refine r_aload_n dX7_triesFrom_80 rfl ?_
          refine r_iload dX7_triesFrom_81 rfl ?_
          refine r_putI dX7_triesFrom_83 f_X7_242 (hsh.al rfl (by decide)) (Or.inl rfl) rfl ?_
          refine r_aload_n dX7_triesFrom_86 rfl ?_
          refine r_iload dX7_triesFrom_87 rfl ?_
          refine r_putI dX7_triesFrom_89 f_X7_245 (hsh.al rfl (by decide)) (Or.inl rfl) rfl ?_
          refine r_aload_n dX7_triesFrom_92 rfl ?_
          refine r_iload dX7_triesFrom_93 rfl ?_
          refine r_putI dX7_triesFrom_95 f_X7_248 (hsh.al rfl (by decide)) (Or.inl rfl) rfl ?_
          refine r_aload_n dX7_triesFrom_98 rfl ?_
          refine r_iload dX7_triesFrom_99 rfl ?_
          refine r_iload_n dX7_triesFrom_101 rfl ?_
          obtain ⟨y, hWy⟩ := hY
          have hW2 := hWy.back x
          have hF4 : FrBe I (up2 (up2 (up2 I2 102 27 (nI (nAt x))) 102 28 (nI (nTick x))) 102 29 (zI (nWorth x))) := ((hF.u (by decide)).u (by decide)).u (by decide)
          refine r_callV2N dX7_triesFrom_102 moX7_looksFor w_1085 w_1087 s_55 (hsh.al rfl (by decide)) cl7 rfl (Nat.le_of_ble_eq_true rfl) (Nat.le_of_ble_eq_true rfl) (S_mLooks (d := d + m + 1) (hF4.mn hN) (hF4.tv hV) hW2 (k := i) (place := place) (by omega) x1 x2) (fun r n I3 J R hq => ?_)
          obtain ⟨rfl, rfl, rfl, hF3, hW3⟩ := hq
          have hB3 : BsM I3 c2 := hB2.m (by rw [hF3.2 34 (by decide), up2_k _ _ (by decide), up2_k _ _ (by decide), up2_k _ _ (by decide)]) (by rw [hF3.2 35 (by decide), up2_k _ _ (by decide), up2_k _ _ (by decide), up2_k _ _ (by decide)])
          refine r_aload_n dX7_triesFrom_105 rfl ?_
          refine r_iload_n dX7_triesFrom_106 rfl ?_
          refine r_iconst (v := 1) dX7_triesFrom_107 (by decide) ?_
          refine r_niadd (b := 1) dX7_triesFrom_108 rfl rfl ?_
          refine r_iload_n dX7_triesFrom_109 rfl ?_
          refine r_iconst (v := 1) dX7_triesFrom_110 (by decide) ?_
          refine r_iload dX7_triesFrom_111 rfl ?_
          refine r_ishl dX7_triesFrom_113 ?_
          refine r_top (v := nI (2 ^ i)) (bit_sh i (by omega)) ?_
          refine r_ior dX7_triesFrom_114 ?_
          refine r_top (v := nI (taken ||| 2 ^ i)) (nI_or _ _) ?_
          refine r_bipush (v := 10) dX7_triesFrom_115 (by decide) ?_
          refine r_iload_n dX7_triesFrom_117 rfl ?_
          refine r_nimul (a := 10) dX7_triesFrom_118 rfl rfl ?_
          refine r_iload dX7_triesFrom_119 rfl ?_
          refine r_niadd dX7_triesFrom_121 rfl rfl ?_
          refine r_iconst (v := 1) dX7_triesFrom_122 (by decide) ?_
          refine r_niadd (b := 1) dX7_triesFrom_123 rfl rfl ?_
          refine r_top (v := nI (digits * 10 + i + 1)) (congrArg nI (by omega)) ?_
          have hF6 := hF4.m hF3
          refine r_callV3N dX7_triesFrom_124 moX7_triesFrom w_1130 w_1132 s_61 (hsh.al rfl (by decide)) cl7 rfl (Nat.le_of_ble_eq_true rfl) (Nat.le_of_ble_eq_true rfl) (S_mTries m (place + 1) (taken ||| 2 ^ i) (digits * 10 + i + 1) (lookN dl tr V i place (nAt x, nTick x, nWorth x, nFound y, nWait y, nFi y, nWf y)) c2 I3 J (by omega) (or_lt ht (by omega)) (by rw [bc_or2 _ ht i (by omega) h77, hb]) (by rw [Nat.pow_succ]; omega) (lookN_bok wf hV.le (by omega) ⟨x1, x2, x3, x4⟩) (hF6.mn hN) (hF6.tv hV) hW3 hB3) (fun r n I4 J R hq => ?_)
          obtain ⟨rfl, rfl, rfl, hF5, hY4, hB4, hn4⟩ := hq
          refine r_iincE (b := (i + 1)) dX7_triesFrom_127 rfl rfl (nI_succ _).symm rfl ?_
          refine r_goto (tgt := 62) dX7_triesFrom_130 (by decide) ?_
          have e3 : (fun i c => if taken.testBit i then c else tryN dl tr V sz m (place + 1) (taken ||| 2 ^ i) (digits * 10 + i + 1) (lookN dl tr V i place x) c) i c2 = tryN dl tr V sz m (place + 1) (taken ||| 2 ^ i) (digits * 10 + i + 1) (lookN dl tr V i place x) c2 := if_neg (by rw [h77]; exact Bool.false_ne_true)
          have e5 : tryN dl tr V sz m (place + 1) (taken ||| 2 ^ i) (digits * 10 + i + 1) (lookN dl tr V i place (nAt x, nTick x, nWorth x, nFound y, nWait y, nFi y, nWf y)) c2 = tryN dl tr V sz m (place + 1) (taken ||| 2 ^ i) (digits * 10 + i + 1) (lookN dl tr V i place x) c2 := tryN_t3 (lookN_t3 ⟨rfl, rfl, rfl⟩)
          rw [e5] at hB4 hn4
          rw [e3] at he
          exact ih (i + 1) _ I4 J (by omega) ((hF4.m hF3).t hF5) hY4 hB4 (Or.inl hn4) he
    refine r_iload_n dX7_triesFrom_0 rfl ?_
    refine r_aload_n dX7_triesFrom_1 rfl ?_
    refine r_getIE dX7_triesFrom_2 f_X7_70 (hsh.al rfl (by decide)) (Or.inl rfl) hN.many ?_
    refine r_nicmp_ne  (tgt := 41) dX7_triesFrom_5 (by decide) rfl rfl (by omega) (by omega) (fun h5 => ?_) (fun h5 => absurd h5 (by omega))
    refine r_aload_n dX7_triesFrom_41 rfl ?_
    refine r_getIE dX7_triesFrom_42 f_X7_242 (hsh.al rfl (by decide)) (Or.inl rfl) hW.1 ?_
    refine r_istore dX7_triesFrom_45 (by decide) rfl ?_
    refine r_aload_n dX7_triesFrom_47 rfl ?_
    refine r_getIE dX7_triesFrom_48 f_X7_245 (hsh.al rfl (by decide)) (Or.inl rfl) hW.2.1 ?_
    refine r_istore dX7_triesFrom_51 (by decide) rfl ?_
    refine r_aload_n dX7_triesFrom_53 rfl ?_
    refine r_getIE dX7_triesFrom_54 f_X7_248 (hsh.al rfl (by decide)) (Or.inl rfl) hW.2.2.1 ?_
    refine r_istore dX7_triesFrom_57 (by decide) rfl ?_
    refine r_iconst (v := 0) dX7_triesFrom_59 (by decide) ?_
    refine r_istore dX7_triesFrom_60 (by decide) rfl ?_
    exact loop sz 0 c I J (Nat.zero_add _) FrBe.rf ⟨x, hW⟩ hB (Or.inr fun j hj => absurd hj (Nat.not_lt_zero _)) rfl
set_option maxRecDepth 20000 in
set_option maxHeartbeats 4000000 in
theorem S_mBest {g : GP} {d n : Nat} {I : TI} {J : TJ} {R : TR} {σ : CSt} (hM : MdS n I R σ) {w : Int} (hw : inZ w) : Wp g (d + 56) mX7_best 0 [.ref 102, .int (zI w)] [] 0 0 n I J R (PdM n I R (.int (bestV σ w)) σ) := by
  have hsh := hM.sh
  have hN := hM.p.mn
  have hV := hM.v
  have wf := hM.wf
  have hz := wf.2.2.1
  refine r_iload_n dX7_best_0 rfl ?_
  refine r_zi2l dX7_best_1 rfl hw ?_
  refine r_lconst (v := 0) dX7_best_2 (by decide) ?_
  refine r_lconst (v := 1) dX7_best_3 (by decide) ?_
  refine r_callS3I dX7_best_4 moX7_in w_930 w_931 (Nat.le_of_ble_eq_true rfl) (Nat.le_of_ble_eq_true rfl) (S_in3 (z := w) (lo := 0) (hi := 1) hw (by decide) (by decide) (by unfold inZ; omega) (by unfold inZ; omega)) ?_
  refine r_ifb_ne (tgt := 14) dX7_best_7 (by decide) (fun h7 => ?_) (fun h7 => ?_)
  · rw [decide_eq_true_eq] at h7
    refine r_aload_n dX7_best_14 rfl ?_
    refine r_callV0N dX7_best_15 moX7_beginsNight w_1081 w_1083 s_54 (hsh.al rfl (by decide)) cl7 rfl (Nat.le_of_ble_eq_true rfl) (Nat.le_of_ble_eq_true rfl) (S_mBegins hN) (fun r n I2 J R hq => ?_)
    obtain ⟨rfl, rfl, rfl, rfl, hF, hW⟩ := hq
    refine r_aload_n dX7_best_18 rfl ?_
    refine r_iconst (v := (-1)) dX7_best_19 (by decide) ?_
    refine r_putI dX7_best_20 f_X7_307 (hsh.al rfl (by decide)) (Or.inl rfl) rfl ?_
    refine r_aload_n dX7_best_23 rfl ?_
    refine r_iconst (v := 0) dX7_best_24 (by decide) ?_
    refine r_iconst (v := 0) dX7_best_25 (by decide) ?_
    refine r_iconst (v := 0) dX7_best_26 (by decide) ?_
    have hF3 : FrBe I (up2 I2 102 35 (-1)) := (FrBe.rf.m hF).u (by decide)
    have hd : d + (7 - qsz σ) + qsz σ + 48 = d + 55 := by omega
    have hT := S_mTries (g := g) (d := d + (7 - qsz σ)) (qsz σ) 0 0 0 (startN (qdl σ)) (-1, -1000000) (up2 I2 102 35 (-1)) J (Nat.zero_add _) (by decide) (by decide) (by decide) (startN_ok wf).b (hF3.mn hN) (hF3.tv hV) (hW.o (fun k k1 k2 => up2_k _ _ (by omega)) (up2_a _ _ _ (by decide)) (up2_a _ _ _ (by decide))) ⟨up2_at _ _ _ _, Or.inl ⟨rfl, rfl⟩⟩
    rw [hd] at hT
    refine r_callV3N dX7_best_27 moX7_triesFrom w_1130 w_1132 s_61 (hsh.al rfl (by decide)) cl7 rfl (Nat.le_of_ble_eq_true rfl) (Nat.le_of_ble_eq_true rfl) hT (fun r n I4 J R hq => ?_)
    obtain ⟨rfl, rfl, rfl, hF5, _, hB, hne⟩ := hq
    have hF4 := hF3.t hF5
    have hB2 : I4 102 34 = zI (bestC σ).2 := by
      rcases hB.2 with h | h
      · exact absurd h.1 hne
      · exact h.2.1
    refine r_iload_n dX7_best_30 rfl ?_
    refine r_zif_ne (tgt := 41) dX7_best_31 (by decide) rfl hw (fun h31 => ?_) (fun h31 => ?_)
    · refine r_aload_n dX7_best_41 rfl ?_
      refine r_getIE dX7_best_42 f_X7_307 (hsh.al rfl (by decide)) (Or.inl rfl) hB.1 ?_
      refine r_iret dX7_best_45 rfl ?_
      have ew : w = 1 := by omega
      subst ew
      have e0 : bestV σ 1 = pickW (bestC σ) 0 := if_pos (by decide)
      rw [e0]
      exact PdM.to (hM.fr2 hsh hsh (fun a a1 _ a3 a4 => hF4.1 a (by omega) a3 a4) fun k hk => hF4.2 k (by omega)) fun a ha => hF4.1 a (by omega) (by omega) (by omega)
    · refine r_aload_n dX7_best_34 rfl ?_
      refine r_getIE dX7_best_35 f_X7_310 (hsh.al rfl (by decide)) (Or.inl rfl) hB2 ?_
      refine r_goto (tgt := 45) dX7_best_38 (by decide) ?_
      refine r_iret dX7_best_45 rfl ?_
      have ew : w = 0 := by omega
      subst ew
      have e0 : bestV σ 0 = pickW (bestC σ) 1 := if_pos (by decide)
      rw [e0]
      exact PdM.to (hM.fr2 hsh hsh (fun a a1 _ a3 a4 => hF4.1 a (by omega) a3 a4) fun k hk => hF4.2 k (by omega)) fun a ha => hF4.1 a (by omega) (by omega) (by omega)
  · rw [decide_eq_false_iff_not] at h7
    refine r_ldcwI dX7_best_10 w_1068 ?_
    refine r_iret dX7_best_13 rfl ?_
    have e0 : bestV σ w = -100000 := if_neg (by omega)
    rw [e0]
    exact PdM.rf hM
