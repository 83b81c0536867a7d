/-! the model: lists and films -/
theorem sh_0 : ∀ k, k < 16 → ((0 : Int32) <<< (nI k &&& 31)) = 0 := by decide +kernel
theorem nI_or0 (a : Nat) : nI a ||| 0 = nI a := (nI_or a 0).trans (congrArg nI (Nat.or_zero a))
theorem ite_ite {α : Type} (p : Prop) [Decidable p] (x a b : α) : (if p then x else if p then a else b) = if p then x else b := by
  by_cases h : p
  · rw [if_pos h, if_pos h]
  · rw [if_neg h, if_neg h, if_neg h]
theorem wSh_sh (σ : CSt) (s : Nat) (a : Int) (b : Nat) (c : Nat → Int32) (x : Int) (y : Nat) (z : Nat → Int32) : wSh (wSh σ s a b c) s x y z = wSh σ s x y z := by
  have e : wSh (wSh σ s a b c) s x y z = (qdl σ, qtr σ, qsz σ, qrl σ, qhas σ, qkd σ, qkt σ, qkz σ, qkr σ, qtc σ, qtv σ, (fun i => if i = s then x else if i = s then a else qso σ i), (fun i => if i = s then y else if i = s then b else qzs σ i), (fun i => if i = s then z else if i = s then c else qit σ i), qtn σ, qtb σ) := rfl
  rw [e]
  simp only [ite_ite]
  rfl
/-- one cell changed on the way -/
def FrOne (w k : Nat) (I I2 : TI) : Prop := (∀ a, a ≠ 102 → a ≠ w → a ≠ 109 → a ≠ 110 → I2 a = I a) ∧ (∀ j, (j < 12 ∨ 31 < j) → (w = 102 → j ≠ k) → I2 102 j = I 102 j) ∧ ∀ j, w ≠ 102 → j ≠ k → I2 w j = I w j
section XMl
variable {n w k : Nat} {I I1 I2 : TI} {R : TR} {dl : Nat → Nat} {tr : Nat → Nat → Nat} {sz rl v : Nat} {x : Int32} {V : TV}
theorem FrOne.rf : FrOne w k I I := ⟨fun _ _ _ _ _ => rfl, fun _ _ _ => rfl, fun _ _ _ => rfl⟩
theorem FrOne.m (h : FrOne w k I I1) (h2 : FrMo I1 I2) (hw : w ≠ 109 ∧ w ≠ 110) : FrOne w k I I2 := ⟨fun a a1 a2 a3 a4 => (h2.1 a a1 a3 a4).trans (h.1 a a1 a2 a3 a4), fun j hj hx => (h2.2 j hj).trans (h.2.1 j hj hx), fun j h1 hj => by rw [h2.1 w h1 hw.1 hw.2]; exact h.2.2 j h1 hj⟩
theorem FrOne.u (h : FrOne w k I I2) : FrOne w k I (up2 I2 w k x) := ⟨fun a a1 a2 a3 a4 => by rw [up2_a _ _ _ a2]; exact h.1 a a1 a2 a3 a4, fun j hj hx => by
  by_cases e : w = 102
  · subst e; rw [up2_k _ _ (hx rfl)]; exact h.2.1 j hj hx
  · rw [up2_a _ _ _ (Ne.symm e)]; exact h.2.1 j hj hx, fun j h1 hj => by rw [up2_k _ _ hj]; exact h.2.2 j h1 hj⟩
theorem FrOne.back (h : FrOne w k I I2) (hv : I w k = x) : FrMo I (up2 I2 w k x) := ⟨fun a a1 a3 a4 => by
  by_cases e : a = w
  · subst e
    funext j
    by_cases e2 : j = k
    · rw [e2, up2_at, hv]
    · rw [up2_k _ _ e2]; exact h.2.2 j a1 e2
  · rw [up2_a _ _ _ e]; exact h.1 a a1 e a3 a4, fun j hj => by
  by_cases e : w = 102
  · subst e
    by_cases e2 : j = k
    · rw [e2, up2_at, hv]
    · rw [up2_k _ _ e2]; exact h.2.1 j hj fun _ => e2
  · rw [up2_a _ _ _ (Ne.symm e)]; exact h.2.1 j hj fun h2 => absurd h2 e⟩
theorem FrOne.tv (h : FrOne w k I I2) (hw : w ≠ 103 ∧ w ≠ 104) (hV : TxV I rl V) : TxV I2 rl V := hV.o (h.1 103 (by decide) (Ne.symm hw.1) (by decide) (by decide)) (h.1 104 (by decide) (Ne.symm hw.2) (by decide) (by decide))
theorem MdP.aD (h : MdP n I R dl tr sz rl) (hF : FrOne 106 0 I I2) (hv : v < 10) (h1 : I2 106 0 = nI v) : MdP n I2 R (up1 dl 0 v) tr sz rl :=
  h.d2 (w := 0) ⟨hF.1, fun k hk => hF.2.1 k hk fun e => absurd e (by decide), fun j hj => hF.2.2 j (by decide) hj⟩ (by decide) (by show v ≤ 9; omega) h1
theorem MdP.aL (h : MdP n I R dl tr sz rl) (hF : FrOne 102 4 I I2) (hv : v < 6) (h1 : I2 102 4 = nI v) : MdP n I2 R dl tr sz v := by
  obtain ⟨p1, p2, p3, p4, p5, p6, p7, p8⟩ := h
  exact ⟨p1, ⟨p2.1, p2.2.1, p2.2.2.1, by omega⟩, by rw [hF.2.1 11 (by decide) (by decide)]; exact p3, by rw [hF.1 106 (by decide) (by decide) (by decide) (by decide)]; exact p4, by rw [hF.1 107 (by decide) (by decide) (by decide) (by decide)]; exact p5, by rw [hF.1 108 (by decide) (by decide) (by decide) (by decide)]; exact p6, by rw [hF.2.1 10 (by decide) (by decide)]; exact p7, h1⟩
theorem MdP.aK (h : MdP n I R dl tr sz rl) (hF : FrOne 107 k I I2) (hv : v < 6) (h1 : I2 107 k = nI v) : MdP n I2 R dl (up2 tr 5 k v) sz rl := by
  obtain ⟨p1, p2, p3, p4, p5, p6, p7, p8⟩ := h
  refine ⟨p1, p2.upTr (by show v ≤ 5; omega), by rw [hF.2.1 11 (by decide) (fun e => absurd e (by decide))]; exact p3, by rw [hF.1 106 (by decide) (by decide) (by decide) (by decide)]; exact p4, fun q hq => ?_, fun i q hi hq => by rw [hF.1 108 (by decide) (by decide) (by decide) (by decide), up2_a _ _ _ (show i ≠ 5 by omega)]; exact p6 i q hi hq, by rw [hF.2.1 10 (by decide) (fun e => absurd e (by decide))]; exact p7, by rw [hF.2.1 4 (by decide) (fun e => absurd e (by decide))]; exact p8⟩
  by_cases e : q = k
  · rw [e, up2_at]; exact h1
  · rw [up2_k _ _ e, hF.2.2 q (by decide) e]; exact p5 q hq
theorem MdP.aR (h : MdP n I R dl tr sz rl) (hF : FrOne 108 (5 * k) I I2) (hv : v < 10) (h1 : I2 108 (5 * k) = nI v) : MdP n I2 R dl (up2 tr 0 k v) sz rl := by
  obtain ⟨p1, p2, p3, p4, p5, p6, p7, p8⟩ := h
  refine ⟨p1, p2.upTr (by show v ≤ 9; omega), by rw [hF.2.1 11 (by decide) (fun e => absurd e (by decide))]; exact p3, by rw [hF.1 106 (by decide) (by decide) (by decide) (by decide)]; exact p4, fun q hq => by rw [hF.1 107 (by decide) (by decide) (by decide) (by decide), up2_a _ _ _ (show 5 ≠ 0 by decide)]; exact p5 q hq, fun i q hi hq => ?_, by rw [hF.2.1 10 (by decide) (fun e => absurd e (by decide))]; exact p7, by rw [hF.2.1 4 (by decide) (fun e => absurd e (by decide))]; exact p8⟩
  by_cases e : 5 * q + i = 5 * k
  · have e1 : q = k := by omega
    have e2 : i = 0 := by omega
    rw [e, e1, e2, up2_at]; exact h1
  · rw [hF.2.2 _ (by decide) e]
    by_cases e1 : i = 0
    · rw [e1, up2_k _ _ (show q ≠ k by omega), ← e1]; exact p6 i q hi hq
    · rw [up2_a _ _ _ e1]; exact p6 i q hi hq
end XMl
set_option maxRecDepth 20000 in
set_option maxHeartbeats 4000000 in
theorem S_mNotSo {g : GP} {d n : Nat} {I : TI} {J : TJ} {R : TR} {dl : Nat → Nat} {tr : Nat → Nat → Nat} {sz rl : Nat} (hN : MdN n I R dl tr sz rl) {V : TV} (hV : TxV I rl V) {s : Nat} (hs : s < 4) {it : Nat → Int32} (hit : ∀ j, j < sz → I 117 (40 * s + j) = it j) : Wp g (d + 50) mX7_notSo 0 [.ref 102, .int (nI s), .null, .null] [] 0 0 n I J R (PostM n R (some (.int (nI (fitN dl tr V sz it)))) (fun I2 _ => FrMo I I2)) := by
  have hsh := hN.sh
  have hz := hN.wf.2.2.1
  have loop : ∀ q i I2 J2, i + q = sz → FrMo I I2 → MWk I2 (plainN dl tr V sz (2 ^ sz - 1)) → Wp g (d + 50) mX7_notSo 8 [.ref 102, .int (nI s), .int (nI (nalN (plainN dl tr V sz (2 ^ sz - 1)) it i)), .int (nI i)] [] 0 0 n I2 J2 R (PostM n R (some (.int (nI (fitN dl tr V sz it)))) (fun I2 _ => FrMo I I2)) := by
    intro q
    induction q with
    | zero =>
      intro i I2 J2 hi hF hW
      have e : i = sz := hi
      subst e
      refine r_iload_n dX7_notSo_8 rfl ?_
      refine r_aload_n dX7_notSo_9 rfl ?_
      refine r_getIE dX7_notSo_10 f_X7_70 (hsh.al rfl (by decide)) (Or.inl rfl) (hN.m hF).many ?_
      refine r_nicmp_ge  (tgt := 52) dX7_notSo_13 (by decide) rfl rfl (by omega) (by omega) (fun h13 => ?_) (fun h13 => absurd h13 (by omega))
      refine r_iload_n dX7_notSo_52 rfl ?_
      refine r_iret dX7_notSo_53 rfl ?_
      exact ⟨rfl, rfl, rfl, hF⟩
    | succ q ih =>
      intro i I2 J2 hi hF hW
      have hi7 : i < 7 := by omega
      refine r_iload_n dX7_notSo_8 rfl ?_
      refine r_aload_n dX7_notSo_9 rfl ?_
      refine r_getIE dX7_notSo_10 f_X7_70 (hsh.al rfl (by decide)) (Or.inl rfl) (hN.m hF).many ?_
      refine r_nicmp_ge  (tgt := 52) dX7_notSo_13 (by decide) rfl rfl (by omega) (by omega) (fun h13 => absurd h13 (by omega)) (fun h13 => ?_)
      refine r_iload_n dX7_notSo_16 rfl ?_
      refine r_aload_n dX7_notSo_17 rfl ?_
      refine r_getR (b := 109) dX7_notSo_18 f_X7_32 (hsh.al rfl (by decide)) (Or.inl ⟨_, rfl⟩) (hsh.r 102 32 109 (by decide)) (by decide) ?_
      refine r_iload_n dX7_notSo_21 rfl ?_
      refine r_ialdE (j := i) dX7_notSo_22 (hsh.al rfl (by decide)) hi7 rfl (hW.2.2.2.2.2.1 i hi7) ?_
      refine r_aload_n dX7_notSo_23 rfl ?_
      refine r_getR (b := 117) dX7_notSo_24 f_X7_60 (hsh.al rfl (by decide)) (Or.inl ⟨_, rfl⟩) (hsh.r 102 44 117 (by decide)) (by decide) ?_
      refine r_bipush (v := 40) dX7_notSo_27 (by decide) ?_
      refine r_iload_n dX7_notSo_29 rfl ?_
      refine r_nimul (a := 40) dX7_notSo_30 rfl rfl ?_
      refine r_iload_n dX7_notSo_31 rfl ?_
      refine r_niadd dX7_notSo_32 rfl rfl ?_
      refine r_ialdE (j := (40 * s + i)) dX7_notSo_33 (hsh.al rfl (by decide)) (by omega) rfl (show I2 117 (40 * s + i) = it i by rw [hF.1 117 (by decide) (by decide) (by decide)]; exact hit i (by omega)) ?_
      refine r_icmp_eq (tgt := 41) dX7_notSo_34 (by decide) (fun h34 => ?_) (fun h34 => ?_)
      · refine r_iconst (v := 0) dX7_notSo_41 (by decide) ?_
        refine r_iload_n dX7_notSo_42 rfl ?_
        refine r_ishl dX7_notSo_43 ?_
        refine r_top (v := 0) (sh_0 i (by omega)) ?_
        refine r_ior dX7_notSo_44 ?_
        refine r_top (v := nI (nalN (plainN dl tr V sz (2 ^ sz - 1)) it i)) (nI_or0 _) ?_
        refine r_istore_n dX7_notSo_45 (by decide) rfl ?_
        refine r_iincE (b := (i + 1)) dX7_notSo_46 rfl rfl (nI_succ _).symm rfl ?_
        refine r_goto (tgt := 8) dX7_notSo_49 (by decide) ?_
        have e2 : nalN (plainN dl tr V sz (2 ^ sz - 1)) it (i + 1) = nalN (plainN dl tr V sz (2 ^ sz - 1)) it i := if_pos h34
        have hg := ih (i + 1) I2 J2 (by omega) hF hW
        rw [e2] at hg
        exact hg
      · refine r_iconst (v := 1) dX7_notSo_37 (by decide) ?_
        refine r_goto (tgt := 42) dX7_notSo_38 (by decide) ?_
        refine r_iload_n dX7_notSo_42 rfl ?_
        refine r_ishl dX7_notSo_43 ?_
        refine r_top (v := nI (2 ^ i)) (bit_sh i (by omega)) ?_
        refine r_ior dX7_notSo_44 ?_
        refine r_top (v := nI (nalN (plainN dl tr V sz (2 ^ sz - 1)) it i ||| 2 ^ i)) (nI_or _ _) ?_
        refine r_istore_n dX7_notSo_45 (by decide) rfl ?_
        refine r_iincE (b := (i + 1)) dX7_notSo_46 rfl rfl (nI_succ _).symm rfl ?_
        refine r_goto (tgt := 8) dX7_notSo_49 (by decide) ?_
        have e2 : nalN (plainN dl tr V sz (2 ^ sz - 1)) it (i + 1) = nalN (plainN dl tr V sz (2 ^ sz - 1)) it i ||| 2 ^ i := if_neg h34
        have hg := ih (i + 1) I2 J2 (by omega) hF hW
        rw [e2] at hg
        exact hg
  refine r_aload_n dX7_notSo_0 rfl ?_
  refine r_callV0N dX7_notSo_1 moX7_goesPlain w_1069 w_1071 s_51 (hsh.al rfl (by decide)) cl7 rfl (Nat.le_of_ble_eq_true rfl) (Nat.le_of_ble_eq_true rfl) (S_mPlain hN hV) (fun r n I2 J R hq => ?_)
  obtain ⟨rfl, rfl, rfl, hF, hW⟩ := hq
  refine r_iconst (v := 0) dX7_notSo_4 (by decide) ?_
  refine r_istore_n dX7_notSo_5 (by decide) rfl ?_
  refine r_iconst (v := 0) dX7_notSo_6 (by decide) ?_
  refine r_istore_n dX7_notSo_7 (by decide) rfl ?_
  exact loop sz 0 I2 J (Nat.zero_add _) hF hW
set_option maxRecDepth 20000 in
set_option maxHeartbeats 4000000 in
theorem S_mSpots {g : GP} {d n : Nat} {I : TI} {J : TJ} {R : TR} {dl : Nat → Nat} {tr : Nat → Nat → Nat} {sz rl : Nat} (hP : MdP n I R dl tr sz rl) {V : TV} (hV : TxV I rl V) {s : Nat} (hs : s < 4) {it : Nat → Int32} (hit : ∀ j, j < sz → I 117 (40 * s + j) = it j) (b : Bool) : Wp g (d + 51) mX7_spotsOf 0 [.ref 102, .int (nI s), .int (b2i b), .null, .null, .null, .null] [] 0 0 n I J R (PostM n R (some (.int (if b then zI (sptN (fun p => decide (fitN (up1 dl 5 p) tr V sz it = 0)) 100).2 else nI (sptN (fun p => decide (fitN (up1 dl 5 p) tr V sz it = 0)) 100).1))) (fun I2 _ => FrMo I I2)) := by
  have hsh := hP.1
  have hz := hP.2.1.2.2.1
  have hd5 : I 106 5 = nI (dl 5) := hP.2.2.2.1 5 (by decide)
  have hle := sptN_le (fun p => decide (fitN (up1 dl 5 p) tr V sz it = 0)) 100
  have loop : ∀ k p m (l : Int) I2 J2, p + k = 100 → FrD 5 I I2 → m + (sptN (fun p => decide (fitN (up1 dl 5 p) tr V sz it = 0)) k).1 = (sptN (fun p => decide (fitN (up1 dl 5 p) tr V sz it = 0)) 100).1 → (l = -1 ∨ (0 ≤ l ∧ l < 100)) → (if l = -1 then (sptN (fun p => decide (fitN (up1 dl 5 p) tr V sz it = 0)) k).2 else l) = (sptN (fun p => decide (fitN (up1 dl 5 p) tr V sz it = 0)) 100).2 → Wp g (d + 51) mX7_spotsOf 16 [.ref 102, .int (nI s), .int (b2i b), .int (nI (dl 5)), .int (nI m), .int (zI l), .int (nI p)] [] 0 0 n I2 J2 R (PostM n R (some (.int (if b then zI (sptN (fun p => decide (fitN (up1 dl 5 p) tr V sz it = 0)) 100).2 else nI (sptN (fun p => decide (fitN (up1 dl 5 p) tr V sz it = 0)) 100).1))) (fun I2 _ => FrMo I I2)) := by
    intro k
    induction k with
    | zero =>
      intro p m l I2 J2 hp hF hm hl he
      have e : p = 100 := hp
      subst e
      have em : m = (sptN (fun p => decide (fitN (up1 dl 5 p) tr V sz it = 0)) 100).1 := hm
      have el : l = (sptN (fun p => decide (fitN (up1 dl 5 p) tr V sz it = 0)) 100).2 := by
        rcases hl with h1 | h1
        · rw [if_pos h1] at he
          exact h1.trans he
        · rw [if_neg (by omega)] at he
          exact he
      refine r_iload dX7_spotsOf_16 rfl ?_
      refine r_bipush (v := 100) dX7_spotsOf_18 (by decide) ?_
      refine r_nicmp_ge (b := 100)  (tgt := 63) dX7_spotsOf_20 (by decide) rfl rfl (by omega) (by omega) (fun h20 => ?_) (fun h20 => absurd h20 (by omega))
      refine r_aload_n dX7_spotsOf_63 rfl ?_
      refine r_getR (b := 106) dX7_spotsOf_64 f_X7_23 (hsh.al rfl (by decide)) (Or.inl ⟨_, rfl⟩) (hsh.r 102 7 106 (by decide)) (by decide) ?_
      refine r_iconst (v := 5) dX7_spotsOf_67 (by decide) ?_
      refine r_iload_n dX7_spotsOf_68 rfl ?_
      refine r_iast (j := 5) dX7_spotsOf_69 (hsh.al rfl (by decide)) (by decide) (by decide) ?_
      refine r_iload_n dX7_spotsOf_70 rfl ?_
      refine r_ifb_eq (tgt := 79) dX7_spotsOf_71 (by decide) (fun h71 => ?_) (fun h71 => ?_)
      · refine r_iload dX7_spotsOf_79 rfl ?_
        refine r_iret dX7_spotsOf_81 rfl ?_
        refine ⟨?_, rfl, rfl, hF.back hd5⟩
        rw [h71, em, if_neg Bool.false_ne_true]
      · refine r_iload dX7_spotsOf_74 rfl ?_
        refine r_goto (tgt := 81) dX7_spotsOf_76 (by decide) ?_
        refine r_iret dX7_spotsOf_81 rfl ?_
        refine ⟨?_, rfl, rfl, hF.back hd5⟩
        rw [h71, el, if_pos rfl]
    | succ k ih =>
      intro p m l I2 J2 hp hF hm hl he
      have hF2 : FrD 5 I (up2 I2 106 5 (nI p)) := hF.u
      have hP2 := hP.d2 hF2 (by decide) (by show p ≤ 99; omega) (up2_at _ _ _ _)
      have hV2 := hF2.v hV
      have hfl : fitN (up1 dl 5 p) tr V sz it < 128 := nalN_lt hz
      have ep : 99 - k = p := by omega
      refine r_iload dX7_spotsOf_16 rfl ?_
      refine r_bipush (v := 100) dX7_spotsOf_18 (by decide) ?_
      refine r_nicmp_ge (b := 100)  (tgt := 63) dX7_spotsOf_20 (by decide) rfl rfl (by omega) (by omega) (fun h20 => absurd h20 (by omega)) (fun h20 => ?_)
      refine r_aload_n dX7_spotsOf_23 rfl ?_
      refine r_getR (b := 106) dX7_spotsOf_24 f_X7_23 (hsh.al rfl (by decide)) (Or.inl ⟨_, rfl⟩) (hsh.r 102 7 106 (by decide)) (by decide) ?_
      refine r_iconst (v := 5) dX7_spotsOf_27 (by decide) ?_
      refine r_iload dX7_spotsOf_28 rfl ?_
      refine r_iast (j := 5) dX7_spotsOf_30 (hsh.al rfl (by decide)) (by decide) (by decide) ?_
      refine r_aload_n dX7_spotsOf_31 rfl ?_
      refine r_iload_n dX7_spotsOf_32 rfl ?_
      refine r_callV1N dX7_spotsOf_33 moX7_notSo w_1170 w_1172 s_63 (hsh.al rfl (by decide)) cl7 rfl (Nat.le_of_ble_eq_true rfl) (Nat.le_of_ble_eq_true rfl) (S_mNotSo hP2.mn hV2 hs (it := it) (fun j hj => by rw [hF2.1 117 (by decide) (by decide) (by decide) (by decide)]; exact hit j hj)) (fun r n I3 J R hq => ?_)
      obtain ⟨rfl, rfl, rfl, hF3⟩ := hq
      refine r_zif_ne (tgt := 57) dX7_spotsOf_36 (by decide) (nz _) (by unfold inZ; omega) (fun h36 => ?_) (fun h36 => ?_)
      · refine r_iincE (b := (p + 1)) dX7_spotsOf_57 rfl rfl (nI_succ _).symm rfl ?_
        refine r_goto (tgt := 16) dX7_spotsOf_60 (by decide) ?_
        have e2 : sptN (fun p => decide (fitN (up1 dl 5 p) tr V sz it = 0)) (k + 1) = sptN (fun p => decide (fitN (up1 dl 5 p) tr V sz it = 0)) k := if_neg (by rw [ep, decide_eq_true_eq]; omega)
        exact ih (p + 1) m l I3 J (by omega) (hF2.m hF3) (by rw [e2] at hm; exact hm) hl (by rw [e2] at he; exact he)
      · refine r_iincE (b := (m + 1)) dX7_spotsOf_39 rfl rfl (nI_succ _).symm rfl ?_
        refine r_iload dX7_spotsOf_42 rfl ?_
        refine r_iconst (v := (-1)) dX7_spotsOf_44 (by decide) ?_
        refine r_zicmp_ne (b := (-1))  (tgt := 53) dX7_spotsOf_45 (by decide) rfl (by decide) (by unfold inZ; omega) (by unfold inZ; omega) (fun h45 => ?_) (fun h45 => ?_)
        · refine r_iload dX7_spotsOf_53 rfl ?_
          refine r_istore dX7_spotsOf_55 (by decide) rfl ?_
          refine r_iincE (b := (p + 1)) dX7_spotsOf_57 rfl rfl (nI_succ _).symm rfl ?_
          refine r_goto (tgt := 16) dX7_spotsOf_60 (by decide) ?_
          have e2 : sptN (fun p => decide (fitN (up1 dl 5 p) tr V sz it = 0)) (k + 1) = ((sptN (fun p => decide (fitN (up1 dl 5 p) tr V sz it = 0)) k).1 + 1, ((99 - k : Nat) : Int)) := if_pos (by rw [ep, decide_eq_true_eq]; omega)
          rw [ep] at e2
          exact ih (p + 1) (m + 1) l I3 J (by omega) (hF2.m hF3) (by rw [e2] at hm; have hm2 : m + ((sptN (fun p => decide (fitN (up1 dl 5 p) tr V sz it = 0)) k).1 + 1) = _ := hm; omega) hl (by rw [if_neg h45] at he; rw [if_neg h45]; exact he)
        · refine r_iload dX7_spotsOf_48 rfl ?_
          refine r_goto (tgt := 55) dX7_spotsOf_50 (by decide) ?_
          refine r_istore dX7_spotsOf_55 (by decide) rfl ?_
          refine r_iincE (b := (p + 1)) dX7_spotsOf_57 rfl rfl (nI_succ _).symm rfl ?_
          refine r_goto (tgt := 16) dX7_spotsOf_60 (by decide) ?_
          have e2 : sptN (fun p => decide (fitN (up1 dl 5 p) tr V sz it = 0)) (k + 1) = ((sptN (fun p => decide (fitN (up1 dl 5 p) tr V sz it = 0)) k).1 + 1, ((99 - k : Nat) : Int)) := if_pos (by rw [ep, decide_eq_true_eq]; omega)
          rw [ep] at e2
          exact ih (p + 1) (m + 1) ((p : Nat) : Int) I3 J (by omega) (hF2.m hF3) (by rw [e2] at hm; have hm2 : m + ((sptN (fun p => decide (fitN (up1 dl 5 p) tr V sz it = 0)) k).1 + 1) = _ := hm; omega) (by omega) (by rw [if_pos h45, e2] at he; rw [if_neg (by omega)]; exact he)
  refine r_aload_n dX7_spotsOf_0 rfl ?_
  refine r_getR (b := 106) dX7_spotsOf_1 f_X7_23 (hsh.al rfl (by decide)) (Or.inl ⟨_, rfl⟩) (hsh.r 102 7 106 (by decide)) (by decide) ?_
  refine r_iconst (v := 5) dX7_spotsOf_4 (by decide) ?_
  refine r_ialdE (j := 5) dX7_spotsOf_5 (hsh.al rfl (by decide)) (by decide) (by decide) hd5 ?_
  refine r_istore_n dX7_spotsOf_6 (by decide) rfl ?_
  refine r_iconst (v := 0) dX7_spotsOf_7 (by decide) ?_
  refine r_istore dX7_spotsOf_8 (by decide) rfl ?_
  refine r_iconst (v := (-1)) dX7_spotsOf_10 (by decide) ?_
  refine r_istore dX7_spotsOf_11 (by decide) rfl ?_
  refine r_iconst (v := 0) dX7_spotsOf_13 (by decide) ?_
  refine r_istore dX7_spotsOf_14 (by decide) rfl ?_
  exact loop 100 0 0 (-1) I J rfl FrD.rf (Nat.zero_add _) (Or.inl rfl) (if_pos rfl)
/-- the cell that a sort of list changes -/
def LyP (w k a0 k0 : Nat) : Prop := (w = 3 ∧ a0 = 106 ∧ k0 = 0) ∨ (w = 4 ∧ a0 = 102 ∧ k0 = 4) ∨ (10 ≤ w ∧ w < 20 ∧ a0 = 107 ∧ k0 = k) ∨ (20 ≤ w ∧ a0 = 108 ∧ k0 = 5 * k)
set_option maxRecDepth 20000 in
set_option maxHeartbeats 4000000 in
theorem S_mLays {g : GP} {d n : Nat} {I : TI} {J : TJ} {R : TR} (hsh : Sh n R) {w k a0 k0 : Nat} (hq : LyP w k a0 k0) (hk : k < 7) (hw : w < 30) (x : Int32) : Wp g d mX7_lays 0 [.ref 102, .int (nI w), .int (nI k), .int x] [] 0 0 n I J R (PostM n R none (fun I2 _ => I2 = up2 I a0 k0 x)) := by
  unfold LyP at hq
  refine r_iload_n dX7_lays_0 rfl ?_
  refine r_iconst (v := 3) dX7_lays_1 (by decide) ?_
  refine r_nicmp_ne (b := 3)  (tgt := 15) dX7_lays_2 (by decide) rfl rfl (by omega) (by omega) (fun h2 => ?_) (fun h2 => ?_)
  · refine r_iload_n dX7_lays_15 rfl ?_
    refine r_iconst (v := 4) dX7_lays_16 (by decide) ?_
    refine r_nicmp_ne (b := 4)  (tgt := 28) dX7_lays_17 (by decide) rfl rfl (by omega) (by omega) (fun h17 => ?_) (fun h17 => ?_)
    · refine r_iload_n dX7_lays_28 rfl ?_
      refine r_bipush (v := 20) dX7_lays_29 (by decide) ?_
      refine r_nicmp_ge (b := 20)  (tgt := 44) dX7_lays_31 (by decide) rfl rfl (by omega) (by omega) (fun h31 => ?_) (fun h31 => ?_)
      · refine r_aload_n dX7_lays_44 rfl ?_
        refine r_getR (b := 108) dX7_lays_45 f_X7_29 (hsh.al rfl (by decide)) (Or.inl ⟨_, rfl⟩) (hsh.r 102 9 108 (by decide)) (by decide) ?_
        refine r_iconst (v := 5) dX7_lays_48 (by decide) ?_
        refine r_iload_n dX7_lays_49 rfl ?_
        refine r_nimul (a := 5) dX7_lays_50 rfl rfl ?_
        refine r_iload_n dX7_lays_51 rfl ?_
        refine r_iast (j := (5 * k)) dX7_lays_52 (hsh.al rfl (by decide)) (by omega) rfl ?_
        refine r_vret dX7_lays_53 rfl ?_
        have e : a0 = 108 ∧ k0 = 5 * k := by omega
        rw [e.1, e.2]
        exact ⟨rfl, rfl, rfl, rfl⟩
      · refine r_aload_n dX7_lays_34 rfl ?_
        refine r_getR (b := 107) dX7_lays_35 f_X7_26 (hsh.al rfl (by decide)) (Or.inl ⟨_, rfl⟩) (hsh.r 102 8 107 (by decide)) (by decide) ?_
        refine r_iload_n dX7_lays_38 rfl ?_
        refine r_iload_n dX7_lays_39 rfl ?_
        refine r_iast (j := k) dX7_lays_40 (hsh.al rfl (by decide)) hk rfl ?_
        refine r_goto (tgt := 53) dX7_lays_41 (by decide) ?_
        refine r_vret dX7_lays_53 rfl ?_
        have e : a0 = 107 ∧ k0 = k := by omega
        rw [e.1, e.2]
        exact ⟨rfl, rfl, rfl, rfl⟩
    · refine r_aload_n dX7_lays_20 rfl ?_
      refine r_iload_n dX7_lays_21 rfl ?_
      refine r_putI dX7_lays_22 f_X7_235 (hsh.al rfl (by decide)) (Or.inl rfl) rfl ?_
      refine r_goto (tgt := 53) dX7_lays_25 (by decide) ?_
      refine r_vret dX7_lays_53 rfl ?_
      have e : a0 = 102 ∧ k0 = 4 := by omega
      rw [e.1, e.2]
      exact ⟨rfl, rfl, rfl, rfl⟩
  · refine r_aload_n dX7_lays_5 rfl ?_
    refine r_getR (b := 106) dX7_lays_6 f_X7_23 (hsh.al rfl (by decide)) (Or.inl ⟨_, rfl⟩) (hsh.r 102 7 106 (by decide)) (by decide) ?_
    refine r_iconst (v := 0) dX7_lays_9 (by decide) ?_
    refine r_iload_n dX7_lays_10 rfl ?_
    refine r_iast (j := 0) dX7_lays_11 (hsh.al rfl (by decide)) (by decide) (by decide) ?_
    refine r_goto (tgt := 53) dX7_lays_12 (by decide) ?_
    refine r_vret dX7_lays_53 rfl ?_
    have e : a0 = 106 ∧ k0 = 0 := by omega
    rw [e.1, e.2]
    exact ⟨rfl, rfl, rfl, rfl⟩
set_option maxRecDepth 20000 in
set_option maxHeartbeats 4000000 in
theorem S_mSort {g : GP} {d n : Nat} {I : TI} {J : TJ} {R : TR} {dl : Nat → Nat} {tr : Nat → Nat → Nat} {sz rl : Nat} (hN : MdN n I R dl tr sz rl) {w k a0 k0 : Nat} (hq : LyP w k a0 k0) (hk : k < 7) (hw : w < 30) (hk2 : 20 ≤ w → k < sz) : Wp g (d + 1) mX7_tellsSort 0 [.ref 102, .int (nI w), .int (nI k)] [] 0 0 n I J R (RetI (I a0 k0) n I J R) := by
  have hsh := hN.sh
  unfold LyP at hq
  refine r_iload_n dX7_tellsSort_0 rfl ?_
  refine r_iconst (v := 3) dX7_tellsSort_1 (by decide) ?_
  refine r_nicmp_ne (b := 3)  (tgt := 14) dX7_tellsSort_2 (by decide) rfl rfl (by omega) (by omega) (fun h2 => ?_) (fun h2 => ?_)
  · refine r_iload_n dX7_tellsSort_14 rfl ?_
    refine r_iconst (v := 4) dX7_tellsSort_15 (by decide) ?_
    refine r_nicmp_ne (b := 4)  (tgt := 26) dX7_tellsSort_16 (by decide) rfl rfl (by omega) (by omega) (fun h16 => ?_) (fun h16 => ?_)
    · refine r_iload_n dX7_tellsSort_26 rfl ?_
      refine r_bipush (v := 20) dX7_tellsSort_27 (by decide) ?_
      refine r_nicmp_ge (b := 20)  (tgt := 41) dX7_tellsSort_29 (by decide) rfl rfl (by omega) (by omega) (fun h29 => ?_) (fun h29 => ?_)
      · refine r_aload_n dX7_tellsSort_41 rfl ?_
        refine r_iload_n dX7_tellsSort_42 rfl ?_
        refine r_iconst (v := 0) dX7_tellsSort_43 (by decide) ?_
        refine r_callV2I dX7_tellsSort_44 moX7_row w_940 w_942 s_30 (hsh.al rfl (by decide)) cl7 rfl (Nat.le_of_ble_eq_true rfl) (Nat.le_of_ble_eq_true rfl) (S_mRow hN (k := k) (i := 0) (hk2 h29) (by decide)) ?_
        refine r_iret dX7_tellsSort_47 rfl ?_
        have e : a0 = 108 ∧ k0 = 5 * k := by omega
        rw [e.1, e.2]
        have e2 : I 108 (5 * k) = nI (tr 0 k) := hN.rw (i := 0) (by decide) (hk2 h29)
        rw [e2]
        exact ⟨rfl, rfl, rfl, rfl, rfl⟩
      · refine r_aload_n dX7_tellsSort_32 rfl ?_
        refine r_getR (b := 107) dX7_tellsSort_33 f_X7_26 (hsh.al rfl (by decide)) (Or.inl ⟨_, rfl⟩) (hsh.r 102 8 107 (by decide)) (by decide) ?_
        refine r_iload_n dX7_tellsSort_36 rfl ?_
        refine r_iald (j := k) dX7_tellsSort_37 (hsh.al rfl (by decide)) hk rfl ?_
        refine r_goto (tgt := 47) dX7_tellsSort_38 (by decide) ?_
        refine r_iret dX7_tellsSort_47 rfl ?_
        have e : a0 = 107 ∧ k0 = k := by omega
        rw [e.1, e.2]
        exact ⟨rfl, rfl, rfl, rfl, rfl⟩
    · refine r_aload_n dX7_tellsSort_19 rfl ?_
      refine r_getI dX7_tellsSort_20 f_X7_235 (hsh.al rfl (by decide)) (Or.inl rfl) ?_
      refine r_goto (tgt := 47) dX7_tellsSort_23 (by decide) ?_
      refine r_iret dX7_tellsSort_47 rfl ?_
      have e : a0 = 102 ∧ k0 = 4 := by omega
      rw [e.1, e.2]
      exact ⟨rfl, rfl, rfl, rfl, rfl⟩
  · refine r_aload_n dX7_tellsSort_5 rfl ?_
    refine r_getR (b := 106) dX7_tellsSort_6 f_X7_23 (hsh.al rfl (by decide)) (Or.inl ⟨_, rfl⟩) (hsh.r 102 7 106 (by decide)) (by decide) ?_
    refine r_iconst (v := 0) dX7_tellsSort_9 (by decide) ?_
    refine r_iald (j := 0) dX7_tellsSort_10 (hsh.al rfl (by decide)) (by decide) (by decide) ?_
    refine r_goto (tgt := 47) dX7_tellsSort_11 (by decide) ?_
    refine r_iret dX7_tellsSort_47 rfl ?_
    have e : a0 = 106 ∧ k0 = 0 := by omega
    rw [e.1, e.2]
    exact ⟨rfl, rfl, rfl, rfl, rfl⟩
set_option maxRecDepth 20000 in
set_option maxHeartbeats 4000000 in
theorem S_mListL {g : GP} {d n : Nat} {I : TI} {R : TR} {Q : TQ} (hsh : Sh n R) {w k a0 k0 s bd sz : Nat} {dlv : Nat → Nat → Nat} {trv : Nat → Nat → Nat → Nat} {rlv : Nat → Nat} {Vv : Nat → TV} {it : Nat → Int32} {F : Nat → Bool} (hMd : ∀ v I2, v < bd → FrOne a0 k0 I I2 → I2 a0 k0 = nI v → MdN n I2 R (dlv v) (trv v) sz (rlv v) ∧ TxV I2 (rlv v) (Vv v)) (hit : ∀ j, j < sz → I 117 (40 * s + j) = it j) (hz : sz ≤ 7) (hbd : bd ≤ 10) (hy : LyP w k a0 k0) (hk : k < 7) (hw : w < 30) (hs : s < 4) (hFv : ∀ v, F v = decide (fitN (dlv v) (trv v) (Vv v) sz it = 0)) (hQ : ∀ I2 J2, FrMo I I2 → Q (some (.int (nI (bitsN F bd)))) n I2 J2 R) : ∀ q v I2 J2, v + q = bd → FrOne a0 k0 I I2 → Wp g (d + 51) mX7_lists 160 [.ref 102, .int (nI s), .int (nI w), .int (nI k), .int (I a0 k0), .int (nI bd), .int (nI (bitsN F v)), .int (nI v)] [] 0 0 n I2 J2 R Q := by
  have ha : (a0 ≠ 109 ∧ a0 ≠ 110) ∧ a0 ≠ 117 := by unfold LyP at hy; omega
  intro q
  induction q with
  | zero =>
    intro v I2 J2 hv hF
    have e : v = bd := hv
    subst e
    refine r_iload dX7_lists_160 rfl ?_
    refine r_iload dX7_lists_162 rfl ?_
    refine r_nicmp_ge  (tgt := 202) dX7_lists_164 (by decide) rfl rfl (by omega) (by omega) (fun h164 => ?_) (fun h164 => absurd h164 (by omega))
    refine r_aload_n dX7_lists_202 rfl ?_
    refine r_iload_n dX7_lists_203 rfl ?_
    refine r_iload_n dX7_lists_204 rfl ?_
    refine r_iload dX7_lists_205 rfl ?_
    refine r_callV3N dX7_lists_207 moX7_lays w_1182 w_1184 s_66 (hsh.al rfl (by decide)) cl7 rfl (Nat.le_of_ble_eq_true rfl) (Nat.le_of_ble_eq_true rfl) (S_mLays hsh hy hk hw (I a0 k0)) (fun r n I3 J R hq => ?_)
    obtain ⟨rfl, rfl, rfl, rfl⟩ := hq
    refine r_iload dX7_lists_210 rfl ?_
    refine r_iret dX7_lists_212 rfl ?_
    exact hQ _ _ (hF.back rfl)
  | succ q ih =>
    intro v I2 J2 hv hF
    have hF2 : FrOne a0 k0 I (up2 I2 a0 k0 (nI v)) := hF.u
    obtain ⟨hN2, hV2⟩ := hMd v _ (by omega) hF2 (up2_at _ _ _ _)
    have hfl : fitN (dlv v) (trv v) (Vv v) sz it < 128 := nalN_lt hz
    refine r_iload dX7_lists_160 rfl ?_
    refine r_iload dX7_lists_162 rfl ?_
    refine r_nicmp_ge  (tgt := 202) dX7_lists_164 (by decide) rfl rfl (by omega) (by omega) (fun h164 => absurd h164 (by omega)) (fun h164 => ?_)
    refine r_aload_n dX7_lists_167 rfl ?_
    refine r_iload_n dX7_lists_168 rfl ?_
    refine r_iload_n dX7_lists_169 rfl ?_
    refine r_iload dX7_lists_170 rfl ?_
    refine r_callV3N dX7_lists_172 moX7_lays w_1182 w_1184 s_66 (hsh.al rfl (by decide)) cl7 rfl (Nat.le_of_ble_eq_true rfl) (Nat.le_of_ble_eq_true rfl) (S_mLays hsh hy hk hw (nI v)) (fun r n I3 J R hq => ?_)
    obtain ⟨rfl, rfl, rfl, rfl⟩ := hq
    refine r_iload dX7_lists_175 rfl ?_
    refine r_aload_n dX7_lists_177 rfl ?_
    refine r_iload_n dX7_lists_178 rfl ?_
    refine r_callV1N dX7_lists_179 moX7_notSo w_1170 w_1172 s_63 (hsh.al rfl (by decide)) cl7 rfl (Nat.le_of_ble_eq_true rfl) (Nat.le_of_ble_eq_true rfl) (S_mNotSo hN2 hV2 hs (it := it) (fun j hj => by rw [hF2.1 117 (by decide) (Ne.symm ha.2) (by decide) (by decide)]; exact hit j hj)) (fun r n I4 J R hq => ?_)
    obtain ⟨rfl, rfl, rfl, hF4⟩ := hq
    refine r_zif_ne (tgt := 189) dX7_lists_182 (by decide) (nz _) (by unfold inZ; omega) (fun h182 => ?_) (fun h182 => ?_)
    · refine r_iconst (v := 0) dX7_lists_189 (by decide) ?_
      refine r_iload dX7_lists_190 rfl ?_
      refine r_ishl dX7_lists_192 ?_
      refine r_top (v := 0) (sh_0 v (by omega)) ?_
      refine r_ior dX7_lists_193 ?_
      refine r_top (v := nI (bitsN F v)) (nI_or0 _) ?_
      refine r_istore dX7_lists_194 (by decide) rfl ?_
      refine r_iincE (b := (v + 1)) dX7_lists_196 rfl rfl (nI_succ _).symm rfl ?_
      refine r_goto (tgt := 160) dX7_lists_199 (by decide) ?_
      have e2 : bitsN F (v + 1) = bitsN F v := if_neg (by rw [hFv, decide_eq_true_eq]; omega)
      have hg := ih (v + 1) I4 J (by omega) (hF2.m hF4 ha.1)
      rw [e2] at hg
      exact hg
    · refine r_iconst (v := 1) dX7_lists_185 (by decide) ?_
      refine r_goto (tgt := 190) dX7_lists_186 (by decide) ?_
      refine r_iload dX7_lists_190 rfl ?_
      refine r_ishl dX7_lists_192 ?_
      refine r_top (v := nI (2 ^ v)) (bit_sh2 v (by omega)) ?_
      refine r_ior dX7_lists_193 ?_
      refine r_top (v := nI (bitsN F v ||| 2 ^ v)) (nI_or _ _) ?_
      refine r_istore dX7_lists_194 (by decide) rfl ?_
      refine r_iincE (b := (v + 1)) dX7_lists_196 rfl rfl (nI_succ _).symm rfl ?_
      refine r_goto (tgt := 160) dX7_lists_199 (by decide) ?_
      have e2 : bitsN F (v + 1) = bitsN F v ||| 2 ^ v := if_pos (by rw [hFv, decide_eq_true_eq]; omega)
      have hg := ih (v + 1) I4 J (by omega) (hF2.m hF4 ha.1)
      rw [e2] at hg
      exact hg
set_option maxRecDepth 20000 in
set_option maxHeartbeats 4000000 in
theorem S_mLists {g : GP} {d n : Nat} {I : TI} {J : TJ} {R : TR} {σ : CSt} (hM : MdS n I R σ) {s w : Int} (hs : inZ s) (hw : inZ w) : Wp g (d + 52) mX7_lists 0 [.ref 102, .int (zI s), .int (zI w), .null, .null, .null, .null, .null] [] 0 0 n I J R (PdM n I R (.int (zI (listV σ s w))) σ) := by
  have hsh := hM.sh
  have hN := hM.p.mn
  have hV := hM.v
  have wf := hM.wf
  have hz := wf.2.2.1
  have fin : ∀ (s0 w0 : Nat), s0 < 4 → (w0 < 5 ∨ (10 ≤ w0 ∧ w0 < 30 ∧ w0 % 10 < qsz σ)) → Wp g (d + 52) mX7_lists 47 [.ref 102, .int (nI s0), .int (nI w0), .null, .null, .null, .null, .null] [] 0 0 n I J R (PdM n I R (.int (zI (listV σ (s0 : Nat) (w0 : Nat)))) σ) := by
    intro s0 w0 hs4 hw0
    have hask : (asksS (qsz σ) (w0 : Nat) = true ∨ (0 ≤ ((w0 : Nat) : Int) ∧ ((w0 : Nat) : Int) < 5)) := by
      by_cases e : w0 < 5
      · exact Or.inr ⟨by omega, by omega⟩
      · exact Or.inl (decide_eq_true ⟨by omega, by omega, by omega⟩)
    have hc : 0 ≤ ((s0 : Nat) : Int) ∧ ((s0 : Nat) : Int) < 4 ∧ (asksS (qsz σ) (w0 : Nat) = true ∨ (0 ≤ ((w0 : Nat) : Int) ∧ ((w0 : Nat) : Int) < 5)) := ⟨by omega, by omega, hask⟩
    obtain ⟨t1, b1, t234⟩ := hM.sht s0 hs4
    refine r_aload_n dX7_lists_47 rfl ?_
    refine r_getR (b := 114) dX7_lists_48 f_X7_50 (hsh.al rfl (by decide)) (Or.inl ⟨_, rfl⟩) (hsh.r 102 41 114 (by decide)) (by decide) ?_
    refine r_iload_n dX7_lists_51 rfl ?_
    refine r_zald (j := s0) dX7_lists_52 (hsh.al rfl (by decide)) (by omega) rfl ?_
    refine r_top t1 ?_
    refine r_ifb_ne (tgt := 59) dX7_lists_53 (by decide) (fun h53 => ?_) (fun h53 => ?_)
    · rw [decide_eq_true_eq] at h53
      obtain ⟨t2, t3, t4⟩ := t234 h53
      refine r_aload_n dX7_lists_59 rfl ?_
      refine r_getR (b := 116) dX7_lists_60 f_X7_57 (hsh.al rfl (by decide)) (Or.inl ⟨_, rfl⟩) (hsh.r 102 43 116 (by decide)) (by decide) ?_
      refine r_iload_n dX7_lists_63 rfl ?_
      refine r_ialdE (j := s0) dX7_lists_64 (hsh.al rfl (by decide)) hs4 rfl t3 ?_
      refine r_aload_n dX7_lists_65 rfl ?_
      refine r_getIE dX7_lists_66 f_X7_70 (hsh.al rfl (by decide)) (Or.inl rfl) hN.many ?_
      refine r_nicmp_eq  (tgt := 75) dX7_lists_69 (by decide) rfl rfl (by omega) (by omega) (fun h69 => ?_) (fun h69 => ?_)
      · refine r_iload_n dX7_lists_75 rfl ?_
        refine r_iconst (v := 3) dX7_lists_76 (by decide) ?_
        refine r_nicmp_ge (b := 3)  (tgt := 108) dX7_lists_77 (by decide) rfl rfl (by omega) (by omega) (fun h77 => ?_) (fun h77 => ?_)
        · have h6 := hM.tc6
          have hit : ∀ j, j < qsz σ → I 117 (40 * s0 + j) = qit σ s0 j := fun j hj => t4 j (by omega)
          have hk4 : w0 = 3 ∨ w0 = 4 ∨ (10 ≤ w0 ∧ w0 < 20) ∨ (20 ≤ w0 ∧ w0 < 30) := by omega
          rcases hk4 with hk4 | hk4 | hk4 | hk4
          · have hy : LyP w0 (w0 % 10) 106 0 := by unfold LyP; omega
            have e0 : listV σ (s0 : Nat) (w0 : Nat) = (bitsN (fun v => decide (fitN (up1 (qdl σ) 0 v) (qtr σ) (qtv σ (qrl σ)) (qsz σ) (qit σ s0) = 0)) 10 : Nat) := by unfold listV lisV; rw [if_pos hc, Int.toNat_natCast, if_neg h53, if_pos h69, if_neg (by omega), if_neg (by omega), if_neg (by omega), if_pos (by omega)]
            rw [e0]
            refine r_iload_n dX7_lists_108 rfl ?_
            refine r_bipush (v := 10) dX7_lists_109 (by decide) ?_
            refine r_nirem (b := 10) dX7_lists_111 rfl rfl (by omega) (by omega) (by omega) ?_
            refine r_istore_n dX7_lists_112 (by decide) rfl ?_
            refine r_aload_n dX7_lists_113 rfl ?_
            refine r_iload_n dX7_lists_114 rfl ?_
            refine r_iload_n dX7_lists_115 rfl ?_
            refine r_callV2I dX7_lists_116 moX7_tellsSort w_1178 w_1180 s_65 (hsh.al rfl (by decide)) cl7 rfl (Nat.le_of_ble_eq_true rfl) (Nat.le_of_ble_eq_true rfl) (S_mSort hN hy (by omega) (by omega) (fun _ => by omega)) ?_
            refine r_istore dX7_lists_119 (by decide) rfl ?_
            refine r_iload_n dX7_lists_121 rfl ?_
            refine r_iconst (v := 4) dX7_lists_122 (by decide) ?_
            refine r_nicmp_ne (b := 4)  (tgt := 133) dX7_lists_123 (by decide) rfl rfl (by omega) (by omega) (fun h123 => ?_) (fun h123 => absurd h123 (by omega))
            refine r_iload_n dX7_lists_133 rfl ?_
            refine r_bipush (v := 9) dX7_lists_134 (by decide) ?_
            refine r_nicmp_le (b := 9)  (tgt := 150) dX7_lists_136 (by decide) rfl rfl (by omega) (by omega) (fun h136 => ?_) (fun h136 => absurd h136 (by omega))
            refine r_bipush (v := 10) dX7_lists_150 (by decide) ?_
            refine r_istore dX7_lists_152 (by decide) rfl ?_
            refine r_iconst (v := 0) dX7_lists_154 (by decide) ?_
            refine r_istore dX7_lists_155 (by decide) rfl ?_
            refine r_iconst (v := 0) dX7_lists_157 (by decide) ?_
            refine r_istore dX7_lists_158 (by decide) rfl ?_
            exact S_mListL (d := d + 1) (F := (fun v => decide (fitN (up1 (qdl σ) 0 v) (qtr σ) (qtv σ (qrl σ)) (qsz σ) (qit σ s0) = 0))) (dlv := (fun v => up1 (qdl σ) 0 v)) (trv := (fun _ => qtr σ)) (rlv := (fun _ => qrl σ)) (Vv := (fun _ => qtv σ (qrl σ))) (it := qit σ s0) hsh (fun v I2 hv hF2 h2 => ⟨(hM.p.aD hF2 (by omega) h2).mn, (hF2.tv (by omega) hV)⟩) hit hz (by decide) hy (by omega) (by omega) hs4 (fun v => rfl) (fun I2 J2 hF2 => PdM.of hM hF2) 10 0 I J (Nat.zero_add _) FrOne.rf
          · have hy : LyP w0 (w0 % 10) 102 4 := by unfold LyP; omega
            have e0 : listV σ (s0 : Nat) (w0 : Nat) = (bitsN (fun v => decide (fitN (qdl σ) (qtr σ) (qtv σ v) (qsz σ) (qit σ s0) = 0)) (qtc σ) : Nat) := by unfold listV lisV; rw [if_pos hc, Int.toNat_natCast, if_neg h53, if_pos h69, if_neg (by omega), if_neg (by omega), if_neg (by omega), if_neg (by omega), if_pos (by omega)]
            rw [e0]
            refine r_iload_n dX7_lists_108 rfl ?_
            refine r_bipush (v := 10) dX7_lists_109 (by decide) ?_
            refine r_nirem (b := 10) dX7_lists_111 rfl rfl (by omega) (by omega) (by omega) ?_
            refine r_istore_n dX7_lists_112 (by decide) rfl ?_
            refine r_aload_n dX7_lists_113 rfl ?_
            refine r_iload_n dX7_lists_114 rfl ?_
            refine r_iload_n dX7_lists_115 rfl ?_
            refine r_callV2I dX7_lists_116 moX7_tellsSort w_1178 w_1180 s_65 (hsh.al rfl (by decide)) cl7 rfl (Nat.le_of_ble_eq_true rfl) (Nat.le_of_ble_eq_true rfl) (S_mSort hN hy (by omega) (by omega) (fun _ => by omega)) ?_
            refine r_istore dX7_lists_119 (by decide) rfl ?_
            refine r_iload_n dX7_lists_121 rfl ?_
            refine r_iconst (v := 4) dX7_lists_122 (by decide) ?_
            refine r_nicmp_ne (b := 4)  (tgt := 133) dX7_lists_123 (by decide) rfl rfl (by omega) (by omega) (fun h123 => absurd h123 (by omega)) (fun h123 => ?_)
            refine r_aload_n dX7_lists_126 rfl ?_
            refine r_getIE dX7_lists_127 f_X7_67 (hsh.al rfl (by decide)) (Or.inl rfl) hM.tcI ?_
            refine r_goto (tgt := 152) dX7_lists_130 (by decide) ?_
            refine r_istore dX7_lists_152 (by decide) rfl ?_
            refine r_iconst (v := 0) dX7_lists_154 (by decide) ?_
            refine r_istore dX7_lists_155 (by decide) rfl ?_
            refine r_iconst (v := 0) dX7_lists_157 (by decide) ?_
            refine r_istore dX7_lists_158 (by decide) rfl ?_
            exact S_mListL (d := d + 1) (F := (fun v => decide (fitN (qdl σ) (qtr σ) (qtv σ v) (qsz σ) (qit σ s0) = 0))) (dlv := (fun _ => qdl σ)) (trv := (fun _ => qtr σ)) (rlv := (fun v => v)) (Vv := (fun v => qtv σ v)) (it := qit σ s0) hsh (fun v I2 hv hF2 h2 => ⟨(hM.p.aL hF2 (by omega) h2).mn, (hF2.tv (by omega) (hM.tx.v (by omega) h6))⟩) hit hz (by omega) hy (by omega) (by omega) hs4 (fun v => rfl) (fun I2 J2 hF2 => PdM.of hM hF2) (qtc σ) 0 I J (Nat.zero_add _) FrOne.rf
          · have hy : LyP w0 (w0 % 10) 107 (w0 % 10) := by unfold LyP; omega
            have e0 : listV σ (s0 : Nat) (w0 : Nat) = (bitsN (fun v => decide (fitN (qdl σ) (up2 (qtr σ) 5 (w0 % 10) v) (qtv σ (qrl σ)) (qsz σ) (qit σ s0) = 0)) 6 : Nat) := by unfold listV lisV; rw [if_pos hc, Int.toNat_natCast, if_neg h53, if_pos h69, if_neg (by omega), if_neg (by omega), if_neg (by omega), if_neg (by omega), if_neg (by omega), if_pos (by omega), Int.toNat_natCast]
            rw [e0]
            refine r_iload_n dX7_lists_108 rfl ?_
            refine r_bipush (v := 10) dX7_lists_109 (by decide) ?_
            refine r_nirem (b := 10) dX7_lists_111 rfl rfl (by omega) (by omega) (by omega) ?_
            refine r_istore_n dX7_lists_112 (by decide) rfl ?_
            refine r_aload_n dX7_lists_113 rfl ?_
            refine r_iload_n dX7_lists_114 rfl ?_
            refine r_iload_n dX7_lists_115 rfl ?_
            refine r_callV2I dX7_lists_116 moX7_tellsSort w_1178 w_1180 s_65 (hsh.al rfl (by decide)) cl7 rfl (Nat.le_of_ble_eq_true rfl) (Nat.le_of_ble_eq_true rfl) (S_mSort hN hy (by omega) (by omega) (fun _ => by omega)) ?_
            refine r_istore dX7_lists_119 (by decide) rfl ?_
            refine r_iload_n dX7_lists_121 rfl ?_
            refine r_iconst (v := 4) dX7_lists_122 (by decide) ?_
            refine r_nicmp_ne (b := 4)  (tgt := 133) dX7_lists_123 (by decide) rfl rfl (by omega) (by omega) (fun h123 => ?_) (fun h123 => absurd h123 (by omega))
            refine r_iload_n dX7_lists_133 rfl ?_
            refine r_bipush (v := 9) dX7_lists_134 (by decide) ?_
            refine r_nicmp_le (b := 9)  (tgt := 150) dX7_lists_136 (by decide) rfl rfl (by omega) (by omega) (fun h136 => absurd h136 (by omega)) (fun h136 => ?_)
            refine r_iload_n dX7_lists_139 rfl ?_
            refine r_bipush (v := 20) dX7_lists_140 (by decide) ?_
            refine r_nicmp_ge (b := 20)  (tgt := 150) dX7_lists_142 (by decide) rfl rfl (by omega) (by omega) (fun h142 => absurd h142 (by omega)) (fun h142 => ?_)
            refine r_bipush (v := 6) dX7_lists_145 (by decide) ?_
            refine r_goto (tgt := 152) dX7_lists_147 (by decide) ?_
            refine r_istore dX7_lists_152 (by decide) rfl ?_
            refine r_iconst (v := 0) dX7_lists_154 (by decide) ?_
            refine r_istore dX7_lists_155 (by decide) rfl ?_
            refine r_iconst (v := 0) dX7_lists_157 (by decide) ?_
            refine r_istore dX7_lists_158 (by decide) rfl ?_
            exact S_mListL (d := d + 1) (F := (fun v => decide (fitN (qdl σ) (up2 (qtr σ) 5 (w0 % 10) v) (qtv σ (qrl σ)) (qsz σ) (qit σ s0) = 0))) (dlv := (fun _ => qdl σ)) (trv := (fun v => up2 (qtr σ) 5 (w0 % 10) v)) (rlv := (fun _ => qrl σ)) (Vv := (fun _ => qtv σ (qrl σ))) (it := qit σ s0) hsh (fun v I2 hv hF2 h2 => ⟨(hM.p.aK hF2 (by omega) h2).mn, (hF2.tv (by omega) hV)⟩) hit hz (by decide) hy (by omega) (by omega) hs4 (fun v => rfl) (fun I2 J2 hF2 => PdM.of hM hF2) 6 0 I J (Nat.zero_add _) FrOne.rf
          · have hy : LyP w0 (w0 % 10) 108 (5 * (w0 % 10)) := by unfold LyP; omega
            have e0 : listV σ (s0 : Nat) (w0 : Nat) = (bitsN (fun v => decide (fitN (qdl σ) (up2 (qtr σ) 0 (w0 % 10) v) (qtv σ (qrl σ)) (qsz σ) (qit σ s0) = 0)) 10 : Nat) := by unfold listV lisV; rw [if_pos hc, Int.toNat_natCast, if_neg h53, if_pos h69, if_neg (by omega), if_neg (by omega), if_neg (by omega), if_neg (by omega), if_neg (by omega), if_neg (by omega), Int.toNat_natCast]
            rw [e0]
            refine r_iload_n dX7_lists_108 rfl ?_
            refine r_bipush (v := 10) dX7_lists_109 (by decide) ?_
            refine r_nirem (b := 10) dX7_lists_111 rfl rfl (by omega) (by omega) (by omega) ?_
            refine r_istore_n dX7_lists_112 (by decide) rfl ?_
            refine r_aload_n dX7_lists_113 rfl ?_
            refine r_iload_n dX7_lists_114 rfl ?_
            refine r_iload_n dX7_lists_115 rfl ?_
            refine r_callV2I dX7_lists_116 moX7_tellsSort w_1178 w_1180 s_65 (hsh.al rfl (by decide)) cl7 rfl (Nat.le_of_ble_eq_true rfl) (Nat.le_of_ble_eq_true rfl) (S_mSort hN hy (by omega) (by omega) (fun _ => by omega)) ?_
            refine r_istore dX7_lists_119 (by decide) rfl ?_
            refine r_iload_n dX7_lists_121 rfl ?_
            refine r_iconst (v := 4) dX7_lists_122 (by decide) ?_
            refine r_nicmp_ne (b := 4)  (tgt := 133) dX7_lists_123 (by decide) rfl rfl (by omega) (by omega) (fun h123 => ?_) (fun h123 => absurd h123 (by omega))
            refine r_iload_n dX7_lists_133 rfl ?_
            refine r_bipush (v := 9) dX7_lists_134 (by decide) ?_
            refine r_nicmp_le (b := 9)  (tgt := 150) dX7_lists_136 (by decide) rfl rfl (by omega) (by omega) (fun h136 => absurd h136 (by omega)) (fun h136 => ?_)
            refine r_iload_n dX7_lists_139 rfl ?_
            refine r_bipush (v := 20) dX7_lists_140 (by decide) ?_
            refine r_nicmp_ge (b := 20)  (tgt := 150) dX7_lists_142 (by decide) rfl rfl (by omega) (by omega) (fun h142 => ?_) (fun h142 => absurd h142 (by omega))
            refine r_bipush (v := 10) dX7_lists_150 (by decide) ?_
            refine r_istore dX7_lists_152 (by decide) rfl ?_
            refine r_iconst (v := 0) dX7_lists_154 (by decide) ?_
            refine r_istore dX7_lists_155 (by decide) rfl ?_
            refine r_iconst (v := 0) dX7_lists_157 (by decide) ?_
            refine r_istore dX7_lists_158 (by decide) rfl ?_
            exact S_mListL (d := d + 1) (F := (fun v => decide (fitN (qdl σ) (up2 (qtr σ) 0 (w0 % 10) v) (qtv σ (qrl σ)) (qsz σ) (qit σ s0) = 0))) (dlv := (fun _ => qdl σ)) (trv := (fun v => up2 (qtr σ) 0 (w0 % 10) v)) (rlv := (fun _ => qrl σ)) (Vv := (fun _ => qtv σ (qrl σ))) (it := qit σ s0) hsh (fun v I2 hv hF2 h2 => ⟨(hM.p.aR hF2 (by omega) h2).mn, (hF2.tv (by omega) hV)⟩) hit hz (by decide) hy (by omega) (by omega) hs4 (fun v => rfl) (fun I2 J2 hF2 => PdM.of hM hF2) 10 0 I J (Nat.zero_add _) FrOne.rf
        · refine r_iload_n dX7_lists_80 rfl ?_
          refine r_zif_ne (tgt := 92) dX7_lists_81 (by decide) (nz _) (by unfold inZ; omega) (fun h81 => ?_) (fun h81 => ?_)
          · refine r_aload_n dX7_lists_92 rfl ?_
            refine r_iload_n dX7_lists_93 rfl ?_
            refine r_iload_n dX7_lists_94 rfl ?_
            refine r_iconst (v := 2) dX7_lists_95 (by decide) ?_
            refine r_nicmp_ne (b := 2)  (tgt := 103) dX7_lists_96 (by decide) rfl rfl (by omega) (by omega) (fun h96 => ?_) (fun h96 => ?_)
            · refine r_iconst (v := 0) dX7_lists_103 (by decide) ?_
              refine r_callV2N dX7_lists_104 moX7_spotsOf w_1174 w_1176 s_64 (hsh.al rfl (by decide)) cl7 rfl (Nat.le_of_ble_eq_true rfl) (Nat.le_of_ble_eq_true rfl) (S_mSpots (d := d) hM.p hV hs4 (it := qit σ s0) (fun j hj => t4 j (by omega)) false) (fun r n I5 J R hq => ?_)
              obtain ⟨rfl, rfl, rfl, hF5⟩ := hq
              refine r_iret dX7_lists_107 rfl ?_
              have e0 : listV σ (s0 : Nat) (w0 : Nat) = ((sptN (fun p => decide (fitN (up1 (qdl σ) 5 p) (qtr σ) (qtv σ (qrl σ)) (qsz σ) (qit σ s0) = 0)) 100).1 : Nat) := by unfold listV lisV; rw [if_pos hc, Int.toNat_natCast, if_neg h53, if_pos h69, if_neg (by omega), if_pos (by omega)]
              rw [e0]
              exact PdM.of hM hF5
            · refine r_iconst (v := 1) dX7_lists_99 (by decide) ?_
              refine r_goto (tgt := 104) dX7_lists_100 (by decide) ?_
              refine r_callV2N dX7_lists_104 moX7_spotsOf w_1174 w_1176 s_64 (hsh.al rfl (by decide)) cl7 rfl (Nat.le_of_ble_eq_true rfl) (Nat.le_of_ble_eq_true rfl) (S_mSpots (d := d) hM.p hV hs4 (it := qit σ s0) (fun j hj => t4 j (by omega)) true) (fun r n I5 J R hq => ?_)
              obtain ⟨rfl, rfl, rfl, hF5⟩ := hq
              refine r_iret dX7_lists_107 rfl ?_
              have e0 : listV σ (s0 : Nat) (w0 : Nat) = (sptN (fun p => decide (fitN (up1 (qdl σ) 5 p) (qtr σ) (qtv σ (qrl σ)) (qsz σ) (qit σ s0) = 0)) 100).2 := by unfold listV lisV; rw [if_pos hc, Int.toNat_natCast, if_neg h53, if_pos h69, if_neg (by omega), if_neg (by omega), if_pos (by omega)]
              rw [e0]
              exact PdM.of hM hF5
          · refine r_aload_n dX7_lists_84 rfl ?_
            refine r_iload_n dX7_lists_85 rfl ?_
            refine r_callV1N dX7_lists_86 moX7_notSo w_1170 w_1172 s_63 (hsh.al rfl (by decide)) cl7 rfl (Nat.le_of_ble_eq_true rfl) (Nat.le_of_ble_eq_true rfl) (S_mNotSo (d := d + 1) hN hV hs4 (it := qit σ s0) (fun j hj => t4 j (by omega))) (fun r n I5 J R hq => ?_)
            obtain ⟨rfl, rfl, rfl, hF5⟩ := hq
            refine r_goto (tgt := 107) dX7_lists_89 (by decide) ?_
            refine r_iret dX7_lists_107 rfl ?_
            have e0 : listV σ (s0 : Nat) (w0 : Nat) = (fitN (qdl σ) (qtr σ) (qtv σ (qrl σ)) (qsz σ) (qit σ s0) : Nat) := by unfold listV lisV; rw [if_pos hc, Int.toNat_natCast, if_neg h53, if_pos h69, if_pos (by omega)]
            rw [e0]
            exact PdM.of hM hF5
      · refine r_bipush (v := (-2)) dX7_lists_72 (by decide) ?_
        refine r_iret dX7_lists_74 rfl ?_
        have e0 : listV σ (s0 : Nat) (w0 : Nat) = -2 := by unfold listV; rw [if_pos hc, Int.toNat_natCast, if_neg h53, if_neg h69]
        rw [e0]
        exact PdM.rf hM
    · rw [decide_eq_false_iff_not, Decidable.not_not] at h53
      refine r_bipush (v := (-11)) dX7_lists_56 (by decide) ?_
      refine r_iret dX7_lists_58 rfl ?_
      have e0 : listV σ (s0 : Nat) (w0 : Nat) = -11 := by unfold listV; rw [if_pos hc, Int.toNat_natCast, if_pos h53]
      rw [e0]
      exact PdM.rf hM
  refine r_iload_n dX7_lists_0 rfl ?_
  refine r_callS1I dX7_lists_1 moX7_isSheet w_1118 w_1119 (Nat.le_of_ble_eq_true rfl) (Nat.le_of_ble_eq_true rfl) (S_mIsSheet hs) ?_
  refine r_ifb_eq (tgt := 44) dX7_lists_4 (by decide) (fun h4 => ?_) (fun h4 => ?_)
  · rw [decide_eq_false_iff_not] at h4
    refine r_bipush (v := (-2)) dX7_lists_44 (by decide) ?_
    refine r_iret dX7_lists_46 rfl ?_
    have e0 : listV σ s w = -2 := if_neg (fun h => by have h2 := h.2.2; unfold asksS at h2; rw [decide_eq_true_eq] at h2; omega)
    rw [e0]
    exact PdM.rf hM
  · rw [decide_eq_true_eq] at h4
    refine r_iload_n dX7_lists_7 rfl ?_
    refine r_zi2l dX7_lists_8 rfl hw ?_
    refine r_lconst (v := 0) dX7_lists_9 (by decide) ?_
    refine r_ldc2 dX7_lists_10 w_1066 ?_
    refine r_callS3I dX7_lists_13 moX7_in w_930 w_931 (Nat.le_of_ble_eq_true rfl) (Nat.le_of_ble_eq_true rfl) (S_in3 (z := w) (lo := 0) (hi := 4) hw (by decide) (by decide) (by unfold inZ; omega) (by unfold inZ; omega)) ?_
    refine r_ifb_ne (tgt := 47) dX7_lists_16 (by decide) (fun h16 => ?_) (fun h16 => ?_)
    · rw [decide_eq_true_eq] at h16
      obtain ⟨s0, es0⟩ := Int.eq_ofNat_of_zero_le (show 0 ≤ s by omega)
      subst es0
      rw [← nz s0]
      obtain ⟨w0, ew0⟩ := Int.eq_ofNat_of_zero_le (show 0 ≤ w by omega)
      subst ew0
      rw [← nz w0]
      exact fin s0 w0 (by omega) (Or.inl (by omega))
    · rw [decide_eq_false_iff_not] at h16
      refine r_iload_n dX7_lists_19 rfl ?_
      refine r_zi2l dX7_lists_20 rfl hw ?_
      refine r_ldc2 dX7_lists_21 w_999 ?_
      refine r_ldc2 dX7_lists_24 w_1067 ?_
      refine r_callS3I dX7_lists_27 moX7_in w_930 w_931 (Nat.le_of_ble_eq_true rfl) (Nat.le_of_ble_eq_true rfl) (S_in3 (z := w) (lo := 10) (hi := 29) hw (by decide) (by decide) (by unfold inZ; omega) (by unfold inZ; omega)) ?_
      refine r_ifb_eq (tgt := 44) dX7_lists_30 (by decide) (fun h30 => ?_) (fun h30 => ?_)
      · rw [decide_eq_false_iff_not] at h30
        refine r_bipush (v := (-2)) dX7_lists_44 (by decide) ?_
        refine r_iret dX7_lists_46 rfl ?_
        have e0 : listV σ s w = -2 := if_neg (fun h => by have h2 := h.2.2; unfold asksS at h2; rw [decide_eq_true_eq] at h2; omega)
        rw [e0]
        exact PdM.rf hM
      · rw [decide_eq_true_eq] at h30
        obtain ⟨w0, ew0⟩ := Int.eq_ofNat_of_zero_le (show 0 ≤ w by omega)
        subst ew0
        rw [← nz w0]
        refine r_aload_n dX7_lists_33 rfl ?_
        refine r_iload_n dX7_lists_34 rfl ?_
        refine r_bipush (v := 10) dX7_lists_35 (by decide) ?_
        refine r_nirem (b := 10) dX7_lists_37 rfl rfl (by omega) (by omega) (by omega) ?_
        refine r_callV1I dX7_lists_38 moX7_isSight w_933 w_935 s_29 (hsh.al rfl (by decide)) cl7 rfl (Nat.le_of_ble_eq_true rfl) (Nat.le_of_ble_eq_true rfl) (S_mIsSight hsh hN.many hz (a := ((w0 % 10 : Nat) : Int)) (by unfold inZ; omega)) ?_
        refine r_ifb_ne (tgt := 47) dX7_lists_41 (by decide) (fun h41 => ?_) (fun h41 => ?_)
        · rw [decide_eq_true_eq] at h41
          obtain ⟨s0, es0⟩ := Int.eq_ofNat_of_zero_le (show 0 ≤ s by omega)
          subst es0
          rw [← nz s0]
          exact fin s0 w0 (by omega) (Or.inr ⟨by omega, by omega, by omega⟩)
        · rw [decide_eq_false_iff_not] at h41
          refine r_bipush (v := (-2)) dX7_lists_44 (by decide) ?_
          refine r_iret dX7_lists_46 rfl ?_
          have e0 : listV σ s ((w0 : Nat) : Int) = -2 := if_neg (fun h => by have h2 := h.2.2; unfold asksS at h2; rw [decide_eq_true_eq] at h2; omega)
          rw [e0]
          exact PdM.rf hM
set_option maxRecDepth 20000 in
set_option maxHeartbeats 4000000 in
theorem S_mFilm {g : GP} {d n : Nat} {I : TI} {J : TJ} {R : TR} {σ : CSt} (hM : MdS n I R σ) {s : Int} (hs : inZ s) : Wp g (d + 50) mX7_film 0 [.ref 102, .int (zI s), .null] [] 0 0 n I J R (PdM n I R (.int (zI (filmV σ s))) (filmS σ s)) := by
  have hsh := hM.sh
  have hN := hM.p.mn
  have hV := hM.v
  have wf := hM.wf
  have hz := wf.2.2.1
  have loop : ∀ s0, s0 < 4 → ∀ I1 I3, FrMo I I1 → MWk I1 (plC σ) → MdS n I3 R (wSh σ s0 1 (qsz σ) (fun _ => 0)) → (∀ a, a ≠ 114 → a ≠ 115 → a ≠ 116 → a ≠ 117 → I3 a = I1 a) → ∀ q i I2 J2, i + q = qsz σ → (∀ a, a ≠ 117 → I2 a = I3 a) → (∀ p, (p < 40 * s0 ∨ 40 * s0 + 40 ≤ p) → I2 117 p = I3 117 p) → (∀ j, j < i → I2 117 (40 * s0 + j) = zI (nFi (plC σ) j)) → Wp g (d + 50) mX7_film 27 [.ref 102, .int (nI s0), .int (nI i)] [] 0 0 n I2 J2 R (PdM n I R (.int (zI (filmV σ (s0 : Nat)))) (filmS σ (s0 : Nat))) := by
    intro s0 hs4 I1 I3 hF1 hW1 hM3 hF3 q
    obtain ⟨t1, b1, t234⟩ := hM3.sht s0 hs4
    have ez : qso (wSh σ s0 1 (qsz σ) (fun _ => 0)) s0 = 1 := if_pos rfl
    have ez2 : qzs (wSh σ s0 1 (qsz σ) (fun _ => 0)) s0 = qsz σ := if_pos rfl
    rw [ez] at t1 t234
    rw [ez2] at t234
    obtain ⟨t2, t3, t4⟩ := t234 (by decide)
    have hmn : I3 102 10 = nI (qsz σ) := hM3.p.mn.many
    induction q with
    | zero =>
      intro i I2 J2 hi hF hp hj
      have e : i = qsz σ := hi
      subst e
      have e0 : filmV σ (s0 : Nat) = (qsz σ : Nat) := if_pos (by omega)
      have e4 : filmS σ (s0 : Nat) = wSh σ s0 1 (qsz σ) (fun j => if j < qsz σ then zI (nFi (plC σ) j) else 0) := if_pos (by omega)
      rw [e0, e4, ← wSh_sh σ s0 1 (qsz σ) (fun _ => 0)]
      refine r_iload_n dX7_film_27 rfl ?_
      refine r_aload_n dX7_film_28 rfl ?_
      refine r_getIE dX7_film_29 f_X7_70 (hsh.al rfl (by decide)) (Or.inl rfl) (show I2 102 10 = nI (qsz σ) by rw [hF 102 (by decide)]; exact hmn) ?_
      refine r_nicmp_ge  (tgt := 58) dX7_film_32 (by decide) rfl rfl (by omega) (by omega) (fun h32 => ?_) (fun h32 => absurd h32 (by omega))
      refine r_aload_n dX7_film_58 rfl ?_
      refine r_getIE dX7_film_59 f_X7_70 (hsh.al rfl (by decide)) (Or.inl rfl) (show I2 102 10 = nI (qsz σ) by rw [hF 102 (by decide)]; exact hmn) ?_
      refine r_iret dX7_film_62 rfl ?_
      refine PdM.to (hM3.shU hs4 ⟨by omega, by omega, by omega⟩ (fun a a1 a2 a3 a4 a5 a6 => hF a a6) (hF 102 (by decide)) (by rw [hF 114 (by decide)]; exact t1) (fun _ => ⟨by rw [hF 115 (by decide)]; exact t2, by rw [hF 116 (by decide)]; exact t3, fun j hj2 => by rw [if_pos hj2]; exact hj j hj2⟩) fun q hq hq4 => ⟨by rw [hF 114 (by decide)], by rw [hF 115 (by decide)], by rw [hF 116 (by decide)], fun j hj2 => hp _ (by omega)⟩) fun a ha => by rw [hF a (by omega), hF3 a (by omega) (by omega) (by omega) (by omega)]; exact hF1.1 a (by omega) (by omega) (by omega)
    | succ q ih =>
      intro i I2 J2 hi hF hp hj
      have hi7 : i < 7 := by omega
      refine r_iload_n dX7_film_27 rfl ?_
      refine r_aload_n dX7_film_28 rfl ?_
      refine r_getIE dX7_film_29 f_X7_70 (hsh.al rfl (by decide)) (Or.inl rfl) (show I2 102 10 = nI (qsz σ) by rw [hF 102 (by decide)]; exact hmn) ?_
      refine r_nicmp_ge  (tgt := 58) dX7_film_32 (by decide) rfl rfl (by omega) (by omega) (fun h32 => absurd h32 (by omega)) (fun h32 => ?_)
      refine r_aload_n dX7_film_35 rfl ?_
      refine r_getR (b := 117) dX7_film_36 f_X7_60 (hsh.al rfl (by decide)) (Or.inl ⟨_, rfl⟩) (hsh.r 102 44 117 (by decide)) (by decide) ?_
      refine r_bipush (v := 40) dX7_film_39 (by decide) ?_
      refine r_iload_n dX7_film_41 rfl ?_
      refine r_nimul (a := 40) dX7_film_42 rfl rfl ?_
      refine r_iload_n dX7_film_43 rfl ?_
      refine r_niadd dX7_film_44 rfl rfl ?_
      refine r_aload_n dX7_film_45 rfl ?_
      refine r_getR (b := 109) dX7_film_46 f_X7_32 (hsh.al rfl (by decide)) (Or.inl ⟨_, rfl⟩) (hsh.r 102 32 109 (by decide)) (by decide) ?_
      refine r_iload_n dX7_film_49 rfl ?_
      refine r_ialdE (j := i) dX7_film_50 (hsh.al rfl (by decide)) hi7 rfl (show I2 109 i = zI (nFi (plC σ) i) by rw [hF 109 (by decide), hF3 109 (by decide) (by decide) (by decide) (by decide)]; exact hW1.2.2.2.2.2.1 i hi7) ?_
      refine r_iast (j := (40 * s0 + i)) dX7_film_51 (hsh.al rfl (by decide)) (by omega) rfl ?_
      refine r_iincE (b := (i + 1)) dX7_film_52 rfl rfl (nI_succ _).symm rfl ?_
      refine r_goto (tgt := 27) dX7_film_55 (by decide) ?_
      refine ih (i + 1) _ _ (by omega) (fun a ha => by rw [up2_a _ _ _ ha]; exact hF a ha) (fun p h => by rw [up2_k _ _ (by omega)]; exact hp p h) fun j h => ?_
      by_cases e : j = i
      · rw [e, up2_at]
      · rw [up2_k _ _ (by omega)]; exact hj j (by omega)
  refine r_iload_n dX7_film_0 rfl ?_
  refine r_callS1I dX7_film_1 moX7_isSheet w_1118 w_1119 (Nat.le_of_ble_eq_true rfl) (Nat.le_of_ble_eq_true rfl) (S_mIsSheet hs) ?_
  refine r_ifb_ne (tgt := 10) dX7_film_4 (by decide) (fun h4 => ?_) (fun h4 => ?_)
  · rw [decide_eq_true_eq] at h4
    obtain ⟨s0, es0⟩ := Int.eq_ofNat_of_zero_le (show 0 ≤ s by omega)
    subst es0
    rw [← nz s0]
    have hs4 : s0 < 4 := by omega
    refine r_aload_n dX7_film_10 rfl ?_
    refine r_callV0N dX7_film_11 moX7_goesPlain w_1069 w_1071 s_51 (hsh.al rfl (by decide)) cl7 rfl (Nat.le_of_ble_eq_true rfl) (Nat.le_of_ble_eq_true rfl) (S_mPlain hN hV) (fun r n I1 J R hq => ?_)
    obtain ⟨rfl, rfl, rfl, hF1, hW1⟩ := hq
    have hM1 := hM.fr hF1
    refine r_aload_n dX7_film_14 rfl ?_
    refine r_iload_n dX7_film_15 rfl ?_
    refine r_iconst (v := 1) dX7_film_16 (by decide) ?_
    refine r_aload_n dX7_film_17 rfl ?_
    refine r_getIE dX7_film_18 f_X7_70 (hsh.al rfl (by decide)) (Or.inl rfl) hM1.p.mn.many ?_
    refine r_callV3N dX7_film_21 moX7_sheet w_1190 w_1191 w_1192 (hsh.al rfl (by decide)) cl7 rfl (Nat.le_of_ble_eq_true rfl) (Nat.le_of_ble_eq_true rfl) (S_mSheet (d := d + 47) hM1 (s := ((s0 : Nat) : Int)) (so := 1) (m := ((qsz σ : Nat) : Int)) (by unfold inZ; omega) (by unfold inZ; omega) (by unfold inZ; omega)) (fun r n I3 J R hq => ?_)
    obtain ⟨⟨rfl, rfl, rfl, hM3, hL3⟩, hF3⟩ := hq
    have e4 : sheeS σ ((s0 : Nat) : Int) 1 ((qsz σ : Nat) : Int) = wSh σ s0 1 (qsz σ) (fun _ => 0) := by unfold sheeS; rw [if_pos (by omega), if_neg (by omega), if_neg (by omega), if_neg (by omega)]; rfl
    rw [e4] at hM3
    refine r_pop dX7_film_24 rfl ?_
    refine r_iconst (v := 0) dX7_film_25 (by decide) ?_
    refine r_istore_n dX7_film_26 (by decide) rfl ?_
    exact loop s0 hs4 I1 I3 hF1 hW1 hM3 hF3 (qsz σ) 0 I3 J (Nat.zero_add _) (fun _ _ => rfl) (fun _ _ => rfl) (fun j h => absurd h (Nat.not_lt_zero _))
  · rw [decide_eq_false_iff_not] at h4
    refine r_bipush (v := (-2)) dX7_film_7 (by decide) ?_
    refine r_iret dX7_film_9 rfl ?_
    have e0 : filmV σ s = -2 := if_neg (by omega)
    have e4 : filmS σ s = σ := if_neg (by omega)
    rw [e0, e4]
    exact PdM.rf hM
