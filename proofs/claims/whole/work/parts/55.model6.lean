/-! the model: its parts, a whole text, what a rule says -/
set_option maxRecDepth 20000 in
set_option maxHeartbeats 4000000 in
theorem S_mPart {g : GP} {d n : Nat} {I : TI} {J : TJ} {R : TR} {b : Nat → Nat} {z f : Nat} {nm : Nat → Int32} {st : LexS} {key : Int} (hk : 258 ≤ key ∧ key ≤ 260) (hQ : MrQ n I J R b z f nm 0 st) : Wp g (d + 44) mX7_part 0 [.ref 102, .int (b2i (decide (st.2.2.1 = key))), .null] [] 0 0 n I J R (MrP n I R b z f nm 0 (prtB b z key st)) := by
  have hsh := hQ.sh
  have hE := (S_mLevel (g := g) (n := n) (R := R) (b := b) (z := z) (f := f) (nm := nm) 5 0 rfl (d + 30) (by omega)).2.2
  refine r_iload_n dX7_part_0 rfl ?_
  refine r_ifb_ne (tgt := 8) dX7_part_1 (by decide) (fun h1 => ?_) (fun h1 => ?_)
  · have h1 := of_decide_eq_true h1
    refine r_aload_n dX7_part_8 rfl ?_
    refine r_getIE dX7_part_9 f_X7_155 (hsh.al rfl (by decide)) (Or.inr rfl) hQ.ok ?_
    refine r_ifb_ne (tgt := 19) dX7_part_12 (by decide) (fun h12 => absurd h12 (by decide)) (fun h12 => ?_)
    refine r_aload_n dX7_part_15 rfl ?_
    refine r_callV0N dX7_part_16 moX7_next w_987 w_989 s_35 (hsh.al rfl (by decide)) cl7 rfl (Nat.le_of_ble_eq_true rfl) (Nat.le_of_ble_eq_true rfl) (S_mNext (b := b) (z := z) (p := (st).2.1) hQ.sh hQ.tx (hQ.here (by omega) (by omega)) hQ.lx.2.2.1) (fun r n I3 J R hq => ?_)
    obtain ⟨rfl, rfl, rfl, hF, hR⟩ := hq
    have hQ3 := hQ.nx hF hR
    refine r_aload_n dX7_part_19 rfl ?_
    refine r_getIE dX7_part_20 f_X7_155 (hsh.al rfl (by decide)) (Or.inr rfl) hQ3.ok ?_
    refine r_ifb_eq (tgt := 30) dX7_part_23 (by decide) (fun h23 => ?_) (fun h23 => absurd h23 (by decide))
    refine r_aload_n dX7_part_30 rfl ?_
    refine r_callV0N dX7_part_31 moX7_either w_1016 w_1018 s_41 (hsh.al rfl (by decide)) cl7 rfl (Nat.le_of_ble_eq_true rfl) (Nat.le_of_ble_eq_true rfl) (hE _ _ _ hQ3) (fun r n I4 J R hq => ?_)
    obtain ⟨rfl, rfl, hF4, hc⟩ := hq
    rcases hc with ⟨h1b, rfl, hQ4⟩ | ⟨h1b, ⟨x, rfl⟩, hb, hf⟩
    · refine r_some rfl ?_
      by_cases h59 : (eitB (avB b z) (levB (avB b z) 5) (avB b z st)).2.1.2.2.1 = 59
      · refine r_istore_n dX7_part_34 (by decide) rfl ?_
        refine r_aload_n dX7_part_35 rfl ?_
        refine r_bipush (v := 59) dX7_part_36 (by decide) ?_
        refine r_top (v := zI 59) (by decide) ?_
        refine r_callV1I dX7_part_38 moX7_isSign w_1044 w_1046 s_48 (hsh.al rfl (by decide)) cl7 rfl (Nat.le_of_ble_eq_true rfl) (Nat.le_of_ble_eq_true rfl) (S_mIsSign (s := 59) hsh hQ4.rd hQ4.ok (by decide)) ?_
        refine r_ifb_ne (tgt := 48) dX7_part_41 (by decide) (fun h41 => ?_) (fun h41 => absurd h59 (of_decide_eq_false h41))
        refine r_aload_n dX7_part_48 rfl ?_
        refine r_getIE dX7_part_49 f_X7_155 (hsh.al rfl (by decide)) (Or.inr rfl) hQ4.ok ?_
        refine r_ifb_ne (tgt := 59) dX7_part_52 (by decide) (fun h52 => absurd h52 (by decide)) (fun h52 => ?_)
        refine r_aload_n dX7_part_55 rfl ?_
        refine r_callV0N dX7_part_56 moX7_next w_987 w_989 s_35 (hsh.al rfl (by decide)) cl7 rfl (Nat.le_of_ble_eq_true rfl) (Nat.le_of_ble_eq_true rfl) (S_mNext (b := b) (z := z) (p := ((eitB (avB b z) (levB (avB b z) 5) (avB b z st)).2.1).2.1) hQ4.sh hQ4.tx (hQ4.here (by omega) (by omega)) hQ4.lx.2.2.1) (fun r n I6 J R hq => ?_)
        obtain ⟨rfl, rfl, rfl, hF6, hR6⟩ := hq
        refine r_iload_n dX7_part_59 rfl ?_
        refine r_iret dX7_part_60 rfl ?_
        have e : prtB b z key st = (true, avB b z (eitB (avB b z) (levB (avB b z) 5) (avB b z st)).2.1, (eitB (avB b z) (levB (avB b z) 5) (avB b z st)).2.2.1, (eitB (avB b z) (levB (avB b z) 5) (avB b z st)).2.2.2) := by
          unfold prtB endPB
          rw [if_pos h1, if_pos ⟨h1b, h59⟩]
        rw [e]
        exact ⟨rfl, rfl, hF.p.t (hF4.t hF6.p), Or.inl ⟨rfl, rfl, hQ4.nx hF6 hR6⟩⟩
      · refine r_istore_n dX7_part_34 (by decide) rfl ?_
        refine r_aload_n dX7_part_35 rfl ?_
        refine r_bipush (v := 59) dX7_part_36 (by decide) ?_
        refine r_top (v := zI 59) (by decide) ?_
        refine r_callV1I dX7_part_38 moX7_isSign w_1044 w_1046 s_48 (hsh.al rfl (by decide)) cl7 rfl (Nat.le_of_ble_eq_true rfl) (Nat.le_of_ble_eq_true rfl) (S_mIsSign (s := 59) hsh hQ4.rd hQ4.ok (by decide)) ?_
        refine r_ifb_ne (tgt := 48) dX7_part_41 (by decide) (fun h41 => absurd (of_decide_eq_true h41) h59) (fun h41 => ?_)
        refine r_aload_n dX7_part_44 rfl ?_
        refine r_callV0W dX7_part_45 moX7_fail w_1012 w_1014 s_40 (hsh.al rfl (by decide)) cl7 rfl (Nat.le_of_ble_eq_true rfl) (Nat.le_of_ble_eq_true rfl) (S_mFail0 hsh hQ4.ok hQ4.at) ?_
        refine r_aload_n dX7_part_48 rfl ?_
        refine r_getIE dX7_part_49 f_X7_155 (hsh.al rfl (by decide)) (Or.inr rfl) (show _ = b2i true from (up2_k _ _ (by decide)).trans (up2_at _ _ _ _)) ?_
        refine r_ifb_ne (tgt := 59) dX7_part_52 (by decide) (fun h52 => ?_) (fun h52 => absurd h52 (by decide))
        refine r_iload_n dX7_part_59 rfl ?_
        refine r_iret dX7_part_60 rfl ?_
        have e : prtB b z key st = (false, (eitB (avB b z) (levB (avB b z) 5) (avB b z st)).2.1, (eitB (avB b z) (levB (avB b z) 5) (avB b z st)).2.2.1, (eitB (avB b z) (levB (avB b z) 5) (avB b z st)).2.2.2) := by
          unfold prtB endPB
          rw [if_pos h1, if_neg (fun h => h59 h.2)]
        rw [e]
        exact ⟨rfl, rfl, hF.p.t ((hF4.u (by decide)).u (by decide)), Or.inr ⟨rfl, ⟨_, rfl⟩, (up2_k _ _ (by decide)).trans (up2_at _ _ _ _), up2_at _ _ _ _⟩⟩
    · refine r_some rfl ?_
      refine r_istore_n dX7_part_34 (by decide) rfl ?_
      refine r_aload_n dX7_part_35 rfl ?_
      refine r_bipush (v := 59) dX7_part_36 (by decide) ?_
      refine r_callV1I dX7_part_38 moX7_isSign w_1044 w_1046 s_48 (hsh.al rfl (by decide)) cl7 rfl (Nat.le_of_ble_eq_true rfl) (Nat.le_of_ble_eq_true rfl) (S_mIsSignB hsh hb) ?_
      refine r_ifb_ne (tgt := 48) dX7_part_41 (by decide) (fun h41 => absurd h41 (by decide)) (fun h41 => ?_)
      refine r_aload_n dX7_part_44 rfl ?_
      refine r_callV0W dX7_part_45 moX7_fail w_1012 w_1014 s_40 (hsh.al rfl (by decide)) cl7 rfl (Nat.le_of_ble_eq_true rfl) (Nat.le_of_ble_eq_true rfl) (S_mFail1 hsh hb) ?_
      refine r_aload_n dX7_part_48 rfl ?_
      refine r_getIE dX7_part_49 f_X7_155 (hsh.al rfl (by decide)) (Or.inr rfl) hb ?_
      refine r_ifb_ne (tgt := 59) dX7_part_52 (by decide) (fun h52 => ?_) (fun h52 => absurd h52 (by decide))
      refine r_iload_n dX7_part_59 rfl ?_
      refine r_iret dX7_part_60 rfl ?_
      have e : prtB b z key st = (false, (eitB (avB b z) (levB (avB b z) 5) (avB b z st)).2.1, (eitB (avB b z) (levB (avB b z) 5) (avB b z st)).2.2.1, (eitB (avB b z) (levB (avB b z) 5) (avB b z st)).2.2.2) := by
        unfold prtB endPB
        rw [if_pos h1, if_neg (fun h => by rw [h1b] at h; exact absurd h.1 (by decide))]
      rw [e]
      exact ⟨rfl, rfl, hF.p.t hF4, Or.inr ⟨rfl, ⟨_, rfl⟩, hb, hf⟩⟩
  · have h1 := of_decide_eq_false h1
    refine r_aload_n dX7_part_4 rfl ?_
    refine r_callV0W dX7_part_5 moX7_fail w_1012 w_1014 s_40 (hsh.al rfl (by decide)) cl7 rfl (Nat.le_of_ble_eq_true rfl) (Nat.le_of_ble_eq_true rfl) (S_mFail0 hsh hQ.ok hQ.at) ?_
    refine r_aload_n dX7_part_8 rfl ?_
    refine r_getIE dX7_part_9 f_X7_155 (hsh.al rfl (by decide)) (Or.inr rfl) (show _ = b2i true from (up2_k _ _ (by decide)).trans (up2_at _ _ _ _)) ?_
    refine r_ifb_ne (tgt := 19) dX7_part_12 (by decide) (fun h12 => ?_) (fun h12 => absurd h12 (by decide))
    refine r_aload_n dX7_part_19 rfl ?_
    refine r_getIE dX7_part_20 f_X7_155 (hsh.al rfl (by decide)) (Or.inr rfl) (show _ = b2i true from (up2_k _ _ (by decide)).trans (up2_at _ _ _ _)) ?_
    refine r_ifb_eq (tgt := 30) dX7_part_23 (by decide) (fun h23 => absurd h23 (by decide)) (fun h23 => ?_)
    refine r_iconst (v := 0) dX7_part_26 (by decide) ?_
    refine r_goto (tgt := 34) dX7_part_27 (by decide) ?_
    refine r_istore_n dX7_part_34 (by decide) rfl ?_
    refine r_aload_n dX7_part_35 rfl ?_
    refine r_bipush (v := 59) dX7_part_36 (by decide) ?_
    refine r_callV1I dX7_part_38 moX7_isSign w_1044 w_1046 s_48 (hsh.al rfl (by decide)) cl7 rfl (Nat.le_of_ble_eq_true rfl) (Nat.le_of_ble_eq_true rfl) (S_mIsSignB hsh (show _ = b2i true from (up2_k _ _ (by decide)).trans (up2_at _ _ _ _))) ?_
    refine r_ifb_ne (tgt := 48) dX7_part_41 (by decide) (fun h41 => absurd h41 (by decide)) (fun h41 => ?_)
    refine r_aload_n dX7_part_44 rfl ?_
    refine r_callV0W dX7_part_45 moX7_fail w_1012 w_1014 s_40 (hsh.al rfl (by decide)) cl7 rfl (Nat.le_of_ble_eq_true rfl) (Nat.le_of_ble_eq_true rfl) (S_mFail1 hsh (show _ = b2i true from (up2_k _ _ (by decide)).trans (up2_at _ _ _ _))) ?_
    refine r_aload_n dX7_part_48 rfl ?_
    refine r_getIE dX7_part_49 f_X7_155 (hsh.al rfl (by decide)) (Or.inr rfl) (show _ = b2i true from (up2_k _ _ (by decide)).trans (up2_at _ _ _ _)) ?_
    refine r_ifb_ne (tgt := 59) dX7_part_52 (by decide) (fun h52 => ?_) (fun h52 => absurd h52 (by decide))
    refine r_iload_n dX7_part_59 rfl ?_
    refine r_iret dX7_part_60 rfl ?_
    have e : prtB b z key st = flP st := if_neg h1
    rw [e]
    exact ⟨rfl, rfl, (FrP.rf.u (by decide)).u (by decide), Or.inr ⟨rfl, ⟨_, rfl⟩, (up2_k _ _ (by decide)).trans (up2_at _ _ _ _), up2_at _ _ _ _⟩⟩
theorem S_mPart0 {g : GP} {d n : Nat} {I : TI} {J : TJ} {R : TR} {b : Nat → Nat} {z f : Nat} {nm : Nat → Int32} (hQ : MrQ n I J R b z f nm 0 (lexN b z 0)) : Wp g (d + 44) mX7_part 0 [.ref 102, .int (b2i (decide ((lexN b z 0).2.2.1 = 258))), .null] [] 0 0 n I J R (MrP n I R b z f nm 0 (rd0 b z)) := S_mPart (key := 258) (by decide) hQ
theorem S_mPart1 {g : GP} {d n : Nat} {I : TI} {J : TJ} {R : TR} {b : Nat → Nat} {z f : Nat} {nm : Nat → Int32} (hQ : MrQ n I J R b z f nm 0 (rd0 b z).2.1) : Wp g (d + 44) mX7_part 0 [.ref 102, .int (b2i (decide ((rd0 b z).2.1.2.2.1 = 259))), .null] [] 0 0 n I J R (MrP n I R b z f nm 0 (rd1 b z)) := S_mPart (key := 259) (by decide) hQ
theorem S_mPart2 {g : GP} {d n : Nat} {I : TI} {J : TJ} {R : TR} {b : Nat → Nat} {z f : Nat} {nm : Nat → Int32} (hQ : MrQ n I J R b z f nm 0 (rd1 b z).2.1) : Wp g (d + 44) mX7_part 0 [.ref 102, .int (b2i (decide ((rd1 b z).2.1.2.2.1 = 260))), .null] [] 0 0 n I J R (MrP n I R b z f nm 0 (rd2 b z)) := S_mPart (key := 260) (by decide) hQ
def rdV (b : Nat → Nat) (z : Nat) (nm : Nat → Int32) (x : Int32) : Int32 := if x = 0 then (rd0 b z).2.2.2 nm else if x = 1 then (rd1 b z).2.2.2 nm else (rd2 b z).2.2.2 nm
def FrRd (I I2 : TI) : Prop := (∀ a, a ≠ 102 → I2 a = I a) ∧ ∀ k, (k < 18 ∨ 26 < k) → I2 102 k = I 102 k
theorem FrRd.rf {I : TI} : FrRd I I := ⟨fun _ _ => rfl, fun _ _ => rfl⟩
theorem FrRd.u {I I2 : TI} (h : FrRd I I2) {k : Nat} {v : Int32} (hk : 18 ≤ k ∧ k ≤ 26) : FrRd I (up2 I2 102 k v) := ⟨fun a ha => by rw [up2_a _ _ _ ha]; exact h.1 a ha, fun j hj => by rw [up2_k _ _ (by omega)]; exact h.2 j hj⟩
theorem FrRd.p {I I1 I2 : TI} (h : FrRd I I1) (h2 : FrP I1 I2) : FrRd I I2 := ⟨fun a ha => (h2.1 a ha).trans (h.1 a ha), fun k hk => (h2.2 k (by omega)).trans (h.2 k hk)⟩
def MrE (n : Nat) (I : TI) (R : TR) (b : Nat → Nat) (z : Nat) (nm : Nat → Int32) (x : Int32) : TQ := fun rr n2 I2 J2 R2 => n2 = n ∧ R2 = R ∧ FrRd I I2 ∧ ((rdOk b z = true ∧ rr = some (.int (rdV b z nm x)) ∧ I2 102 25 = b2i false) ∨ (rdOk b z = false ∧ (∃ v, rr = some (.int v)) ∧ I2 102 25 = b2i true ∧ I2 102 26 = nI (rdFt b z)))
set_option maxRecDepth 20000 in
set_option maxHeartbeats 4000000 in
theorem S_mRead {g : GP} {d n : Nat} {I : TI} {J : TJ} {R : TR} {b : Nat → Nat} {z t : Nat} {nm : Nat → Int32} (hsh : Sh n R) (ht : t < 6) (h104 : I 104 t = nI z) (hz : z ≤ 160) (hby : ∀ j, j < z → I 103 (160 * t + j) = nI (b j) ∧ b j < 256) (hnm : ∀ j, j < 6 → I 102 (12 + j) = nm j) (x : Int32) : Wp g (d + 45) mX7_read 0 [.ref 102, .int (nI t), .int x, .null, .null, .null] [] 0 0 n I J R (MrE n I R b z nm x) := by
  have hU : FrRd I (up2 (up2 (up2 (up2 (up2 I 102 18 (nI (160 * t))) 102 19 (nI z)) 102 20 0) 102 24 0) 102 25 0) := ((((FrRd.rf.u (by decide)).u (by decide)).u (by decide)).u (by decide)).u (by decide)
  have u18 : (up2 (up2 (up2 (up2 (up2 I 102 18 (nI (160 * t))) 102 19 (nI z)) 102 20 0) 102 24 0) 102 25 0) 102 18 = nI (160 * t) := by rw [up2_k _ _ (by decide), up2_k _ _ (by decide), up2_k _ _ (by decide), up2_k _ _ (by decide), up2_at]
  have u19 : (up2 (up2 (up2 (up2 (up2 I 102 18 (nI (160 * t))) 102 19 (nI z)) 102 20 0) 102 24 0) 102 25 0) 102 19 = nI z := by rw [up2_k _ _ (by decide), up2_k _ _ (by decide), up2_k _ _ (by decide), up2_at]
  have u20 : (up2 (up2 (up2 (up2 (up2 I 102 18 (nI (160 * t))) 102 19 (nI z)) 102 20 0) 102 24 0) 102 25 0) 102 20 = nI 0 := by rw [up2_k _ _ (by decide), up2_k _ _ (by decide), up2_at]; rfl
  have u24 : (up2 (up2 (up2 (up2 (up2 I 102 18 (nI (160 * t))) 102 19 (nI z)) 102 20 0) 102 24 0) 102 25 0) 102 24 = nI 0 := by rw [up2_k _ _ (by decide), up2_at]; rfl
  have u25 : (up2 (up2 (up2 (up2 (up2 I 102 18 (nI (160 * t))) 102 19 (nI z)) 102 20 0) 102 24 0) 102 25 0) 102 25 = b2i false := by rw [up2_at]; rfl
  have hTx : MTx (up2 (up2 (up2 (up2 (up2 I 102 18 (nI (160 * t))) 102 19 (nI z)) 102 20 0) 102 24 0) 102 25 0) b z (160 * t) := ⟨u19, hz, u18, by omega, fun j hj => by rw [hU.1 103 (by decide)]; exact hby j hj⟩
  refine r_aload_n dX7_read_0 rfl ?_
  refine r_sipush (v := 160) dX7_read_1 (by decide) ?_
  refine r_iload_n dX7_read_4 rfl ?_
  refine r_nimul (a := 160) dX7_read_5 rfl rfl ?_
  refine r_putI dX7_read_6 f_X7_126 (hsh.al rfl (by decide)) (Or.inl rfl) rfl ?_
  refine r_aload_n dX7_read_9 rfl ?_
  refine r_aload_n dX7_read_10 rfl ?_
  refine r_getR (b := 104) dX7_read_11 f_X7_17 (hsh.al rfl (by decide)) (Or.inl ⟨_, rfl⟩) (hsh.r 102 2 104 (by decide)) (by decide) ?_
  refine r_iload_n dX7_read_14 rfl ?_
  refine r_ialdE (j := t) dX7_read_15 (hsh.al rfl (by decide)) (by omega) rfl ((congrFun (up2_a _ _ _ (by decide)) t).trans h104) ?_
  refine r_putI dX7_read_16 f_X7_123 (hsh.al rfl (by decide)) (Or.inl rfl) rfl ?_
  refine r_aload_n dX7_read_19 rfl ?_
  refine r_iconst (v := 0) dX7_read_20 (by decide) ?_
  refine r_putI dX7_read_21 f_X7_129 (hsh.al rfl (by decide)) (Or.inl rfl) rfl ?_
  refine r_aload_n dX7_read_24 rfl ?_
  refine r_iconst (v := 0) dX7_read_25 (by decide) ?_
  refine r_putI dX7_read_26 f_X7_164 (hsh.al rfl (by decide)) (Or.inl rfl) rfl ?_
  refine r_aload_n dX7_read_29 rfl ?_
  refine r_iconst (v := 0) dX7_read_30 (by decide) ?_
  refine r_putZ dX7_read_31 f_X7_155 (hsh.al rfl (by decide)) (Or.inl rfl) rfl (by decide) ?_
  refine r_aload_n dX7_read_34 rfl ?_
  refine r_callV0N dX7_read_35 moX7_next w_987 w_989 s_35 (hsh.al rfl (by decide)) cl7 rfl (Nat.le_of_ble_eq_true rfl) (Nat.le_of_ble_eq_true rfl) (S_mNext (b := b) (z := z) (p := 0) hsh hTx u20 (Nat.zero_le _)) (fun r n I3 J R hq => ?_)
  obtain ⟨rfl, rfl, rfl, hF, hR⟩ := hq
  have hQ : MrQ n I3 J R b z (160 * t) nm 0 (lexN b z 0) := ⟨hsh, hTx.f hF, hR, (lexN_ok (Nat.zero_le _)).1, (hF.2 24 (by decide) (by decide) (by decide)).trans u24, by decide, (hF.2 25 (by decide) (by decide) (by decide)).trans u25, fun j hj => by rw [hF.2 _ (by omega) (by omega) (by omega), hU.2 _ (by omega)]; exact hnm j hj⟩
  refine r_aload_n dX7_read_38 rfl ?_
  refine r_aload_n dX7_read_39 rfl ?_
  refine r_bipush (v := 116) dX7_read_40 (by decide) ?_
  refine r_bipush (v := 117) dX7_read_42 (by decide) ?_
  refine r_bipush (v := 114) dX7_read_44 (by decide) ?_
  refine r_bipush (v := 110) dX7_read_46 (by decide) ?_
  refine r_bipush (v := 115) dX7_read_48 (by decide) ?_
  refine r_iconst (v := 0) dX7_read_50 (by decide) ?_
  refine r_iconst (v := 0) dX7_read_51 (by decide) ?_
  refine r_iconst (v := 0) dX7_read_52 (by decide) ?_
  refine r_callV8I dX7_read_53 moX7_isWord w_1000 w_1002 s_37 (hsh.al rfl (by decide)) cl7 rfl (Nat.le_of_ble_eq_true rfl) (Nat.le_of_ble_eq_true rfl) (S_mIsWord (j := 6) hsh hQ.tx hQ.rd hQ.lx hQ.ok (by decide) rfl rfl rfl rfl rfl rfl rfl rfl) ?_
  refine r_top (v := b2i (decide ((lexN b z 0).2.2.1 = 258))) (by congr 1; exact decide_eq_decide.mpr (wcd_k hQ.lx (by decide) (by decide))) ?_
  refine r_callV1N dX7_read_56 moX7_part w_1008 w_1010 s_39 (hsh.al rfl (by decide)) cl7 rfl (Nat.le_of_ble_eq_true rfl) (Nat.le_of_ble_eq_true rfl) (S_mPart0 hQ) (fun r n I4 J R hq => ?_)
  obtain ⟨rfl, rfl, hF4, hc⟩ := hq
  rcases hc with ⟨h1b, rfl, hQ4⟩ | ⟨h1b, ⟨x, rfl⟩, hb, hf⟩
  · refine r_some rfl ?_
    refine r_istore_n dX7_read_59 (by decide) rfl ?_
    refine r_aload_n dX7_read_60 rfl ?_
    refine r_getIE dX7_read_61 f_X7_155 (hsh.al rfl (by decide)) (Or.inr rfl) hQ4.ok ?_
    refine r_ifb_eq (tgt := 71) dX7_read_64 (by decide) (fun h64 => ?_) (fun h64 => absurd h64 (by decide))
    refine r_aload_n dX7_read_71 rfl ?_
    refine r_aload_n dX7_read_72 rfl ?_
    refine r_bipush (v := 102) dX7_read_73 (by decide) ?_
    refine r_bipush (v := 105) dX7_read_75 (by decide) ?_
    refine r_bipush (v := 110) dX7_read_77 (by decide) ?_
    refine r_bipush (v := 100) dX7_read_79 (by decide) ?_
    refine r_bipush (v := 115) dX7_read_81 (by decide) ?_
    refine r_iconst (v := 0) dX7_read_83 (by decide) ?_
    refine r_iconst (v := 0) dX7_read_84 (by decide) ?_
    refine r_iconst (v := 0) dX7_read_85 (by decide) ?_
    refine r_callV8I dX7_read_86 moX7_isWord w_1000 w_1002 s_37 (hsh.al rfl (by decide)) cl7 rfl (Nat.le_of_ble_eq_true rfl) (Nat.le_of_ble_eq_true rfl) (S_mIsWord (j := 7) hsh hQ4.tx hQ4.rd hQ4.lx hQ4.ok (by decide) rfl rfl rfl rfl rfl rfl rfl rfl) ?_
    refine r_top (v := b2i (decide ((rd0 b z).2.1.2.2.1 = 259))) (by congr 1; exact decide_eq_decide.mpr (wcd_k hQ4.lx (by decide) (by decide))) ?_
    refine r_callV1N dX7_read_89 moX7_part w_1008 w_1010 s_39 (hsh.al rfl (by decide)) cl7 rfl (Nat.le_of_ble_eq_true rfl) (Nat.le_of_ble_eq_true rfl) (S_mPart1 hQ4) (fun r n I5 J R hq => ?_)
    obtain ⟨rfl, rfl, hF5, hc⟩ := hq
    rcases hc with ⟨h1c, rfl, hQ5⟩ | ⟨h1c, ⟨x, rfl⟩, hb, hf⟩
    · refine r_some rfl ?_
      refine r_istore dX7_read_92 (by decide) rfl ?_
      refine r_aload_n dX7_read_94 rfl ?_
      refine r_getIE dX7_read_95 f_X7_155 (hsh.al rfl (by decide)) (Or.inr rfl) hQ5.ok ?_
      refine r_ifb_eq (tgt := 105) dX7_read_98 (by decide) (fun h98 => ?_) (fun h98 => absurd h98 (by decide))
      refine r_aload_n dX7_read_105 rfl ?_
      refine r_aload_n dX7_read_106 rfl ?_
      refine r_bipush (v := 119) dX7_read_107 (by decide) ?_
      refine r_bipush (v := 97) dX7_read_109 (by decide) ?_
      refine r_bipush (v := 105) dX7_read_111 (by decide) ?_
      refine r_bipush (v := 116) dX7_read_113 (by decide) ?_
      refine r_bipush (v := 115) dX7_read_115 (by decide) ?_
      refine r_iconst (v := 0) dX7_read_117 (by decide) ?_
      refine r_iconst (v := 0) dX7_read_118 (by decide) ?_
      refine r_iconst (v := 0) dX7_read_119 (by decide) ?_
      refine r_callV8I dX7_read_120 moX7_isWord w_1000 w_1002 s_37 (hsh.al rfl (by decide)) cl7 rfl (Nat.le_of_ble_eq_true rfl) (Nat.le_of_ble_eq_true rfl) (S_mIsWord (j := 8) hsh hQ5.tx hQ5.rd hQ5.lx hQ5.ok (by decide) rfl rfl rfl rfl rfl rfl rfl rfl) ?_
      refine r_top (v := b2i (decide ((rd1 b z).2.1.2.2.1 = 260))) (by congr 1; exact decide_eq_decide.mpr (wcd_k hQ5.lx (by decide) (by decide))) ?_
      refine r_callV1N dX7_read_123 moX7_part w_1008 w_1010 s_39 (hsh.al rfl (by decide)) cl7 rfl (Nat.le_of_ble_eq_true rfl) (Nat.le_of_ble_eq_true rfl) (S_mPart2 hQ5) (fun r n I6 J R hq => ?_)
      obtain ⟨rfl, rfl, hF6, hc⟩ := hq
      rcases hc with ⟨h1d, rfl, hQ6⟩ | ⟨h1d, ⟨x, rfl⟩, hb, hf⟩
      · refine r_some rfl ?_
        rcases hQ6.rd.2 with ⟨h21, htk⟩ | ⟨h21, h20, htk, hva, hlt, hle⟩ | ⟨h21, h20, htk, hJ⟩ | ⟨h21, h20, htk, htk2, hJ⟩ | ⟨h21, htk⟩
        · have hok : rdOk b z = true := by unfold rdOk; rw [h1b, h1c, h1d, decide_eq_true htk]; rfl
          refine r_istore dX7_read_126 (by decide) rfl ?_
          refine r_aload_n dX7_read_128 rfl ?_
          refine r_getIE dX7_read_129 f_X7_155 (hsh.al rfl (by decide)) (Or.inr rfl) hQ6.ok ?_
          refine r_ifb_ne (tgt := 146) dX7_read_132 (by decide) (fun h132 => absurd h132 (by decide)) (fun h132 => ?_)
          refine r_aload_n dX7_read_135 rfl ?_
          refine r_getIE dX7_read_136 f_X7_138 (hsh.al rfl (by decide)) (Or.inl rfl) h21 ?_
          refine r_if_eq (tgt := 146) dX7_read_139 (by decide) (fun h139 => ?_) (fun h139 => absurd (by decide) h139)
          refine r_iload_n dX7_read_146 rfl ?_
          refine r_if_ne (tgt := 154) dX7_read_147 (by decide) (fun h147 => ?_) (fun h147 => ?_)
          · refine r_iload_n dX7_read_154 rfl ?_
            refine r_iconst (v := 1) dX7_read_155 (by decide) ?_
            refine r_icmp_ne (tgt := 164) dX7_read_156 (by decide) (fun h156 => ?_) (fun h156 => ?_)
            · refine r_iload dX7_read_164 rfl ?_
              refine r_iret dX7_read_166 rfl ?_
              exact ⟨rfl, rfl, (((((hU.p hF.p).p hF4).p hF5).p hF6)), Or.inl ⟨hok, congrArg (fun x => some (Value.int x)) (by unfold rdV; rw [if_neg h147, if_neg h156]), hQ6.ok⟩⟩
            · refine r_iload dX7_read_159 rfl ?_
              refine r_goto (tgt := 166) dX7_read_161 (by decide) ?_
              refine r_iret dX7_read_166 rfl ?_
              exact ⟨rfl, rfl, (((((hU.p hF.p).p hF4).p hF5).p hF6)), Or.inl ⟨hok, congrArg (fun x => some (Value.int x)) (by unfold rdV; rw [if_neg h147, if_pos h156]), hQ6.ok⟩⟩
          · refine r_iload_n dX7_read_150 rfl ?_
            refine r_goto (tgt := 166) dX7_read_151 (by decide) ?_
            refine r_iret dX7_read_166 rfl ?_
            exact ⟨rfl, rfl, (((((hU.p hF.p).p hF4).p hF5).p hF6)), Or.inl ⟨hok, congrArg (fun x => some (Value.int x)) (by unfold rdV; rw [if_pos h147]), hQ6.ok⟩⟩
        · have hne : ¬ (rd2 b z).2.1.2.2.1 = -1 := by rw [htk]; unfold tkW; (repeat' split) <;> omega
          have hno : rdOk b z = false := by unfold rdOk; rw [decide_eq_false hne, Bool.and_false]
          have hft : rdFt b z = (rd2 b z).2.1.1 := by unfold rdFt; rw [h1b, h1c, if_neg (by decide), if_neg (by decide)]
          refine r_istore dX7_read_126 (by decide) rfl ?_
          refine r_aload_n dX7_read_128 rfl ?_
          refine r_getIE dX7_read_129 f_X7_155 (hsh.al rfl (by decide)) (Or.inr rfl) hQ6.ok ?_
          refine r_ifb_ne (tgt := 146) dX7_read_132 (by decide) (fun h132 => absurd h132 (by decide)) (fun h132 => ?_)
          refine r_aload_n dX7_read_135 rfl ?_
          refine r_getIE dX7_read_136 f_X7_138 (hsh.al rfl (by decide)) (Or.inl rfl) h21 ?_
          refine r_if_eq (tgt := 146) dX7_read_139 (by decide) (fun h139 => absurd h139 (by decide)) (fun h139 => ?_)
          refine r_aload_n dX7_read_142 rfl ?_
          refine r_callV0W dX7_read_143 moX7_fail w_1012 w_1014 s_40 (hsh.al rfl (by decide)) cl7 rfl (Nat.le_of_ble_eq_true rfl) (Nat.le_of_ble_eq_true rfl) (S_mFail0 hsh hQ6.ok hQ6.at) ?_
          refine r_iload_n dX7_read_146 rfl ?_
          refine r_if_ne (tgt := 154) dX7_read_147 (by decide) (fun h147 => ?_) (fun h147 => ?_)
          · refine r_iload_n dX7_read_154 rfl ?_
            refine r_iconst (v := 1) dX7_read_155 (by decide) ?_
            refine r_icmp_ne (tgt := 164) dX7_read_156 (by decide) (fun h156 => ?_) (fun h156 => ?_)
            · refine r_iload dX7_read_164 rfl ?_
              refine r_iret dX7_read_166 rfl ?_
              exact ⟨rfl, rfl, ((((((hU.p hF.p).p hF4).p hF5).p hF6)).u (by decide)).u (by decide), Or.inr ⟨hno, ⟨_, rfl⟩, (up2_k _ _ (by decide)).trans (up2_at _ _ _ _), (by rw [hft]; exact up2_at _ _ _ _)⟩⟩
            · refine r_iload dX7_read_159 rfl ?_
              refine r_goto (tgt := 166) dX7_read_161 (by decide) ?_
              refine r_iret dX7_read_166 rfl ?_
              exact ⟨rfl, rfl, ((((((hU.p hF.p).p hF4).p hF5).p hF6)).u (by decide)).u (by decide), Or.inr ⟨hno, ⟨_, rfl⟩, (up2_k _ _ (by decide)).trans (up2_at _ _ _ _), (by rw [hft]; exact up2_at _ _ _ _)⟩⟩
          · refine r_iload_n dX7_read_150 rfl ?_
            refine r_goto (tgt := 166) dX7_read_151 (by decide) ?_
            refine r_iret dX7_read_166 rfl ?_
            exact ⟨rfl, rfl, ((((((hU.p hF.p).p hF4).p hF5).p hF6)).u (by decide)).u (by decide), Or.inr ⟨hno, ⟨_, rfl⟩, (up2_k _ _ (by decide)).trans (up2_at _ _ _ _), (by rw [hft]; exact up2_at _ _ _ _)⟩⟩
        · have hne : ¬ (rd2 b z).2.1.2.2.1 = -1 := by omega
          have hno : rdOk b z = false := by unfold rdOk; rw [decide_eq_false hne, Bool.and_false]
          have hft : rdFt b z = (rd2 b z).2.1.1 := by unfold rdFt; rw [h1b, h1c, if_neg (by decide), if_neg (by decide)]
          refine r_istore dX7_read_126 (by decide) rfl ?_
          refine r_aload_n dX7_read_128 rfl ?_
          refine r_getIE dX7_read_129 f_X7_155 (hsh.al rfl (by decide)) (Or.inr rfl) hQ6.ok ?_
          refine r_ifb_ne (tgt := 146) dX7_read_132 (by decide) (fun h132 => absurd h132 (by decide)) (fun h132 => ?_)
          refine r_aload_n dX7_read_135 rfl ?_
          refine r_getIE dX7_read_136 f_X7_138 (hsh.al rfl (by decide)) (Or.inl rfl) h21 ?_
          refine r_if_eq (tgt := 146) dX7_read_139 (by decide) (fun h139 => absurd h139 (by decide)) (fun h139 => ?_)
          refine r_aload_n dX7_read_142 rfl ?_
          refine r_callV0W dX7_read_143 moX7_fail w_1012 w_1014 s_40 (hsh.al rfl (by decide)) cl7 rfl (Nat.le_of_ble_eq_true rfl) (Nat.le_of_ble_eq_true rfl) (S_mFail0 hsh hQ6.ok hQ6.at) ?_
          refine r_iload_n dX7_read_146 rfl ?_
          refine r_if_ne (tgt := 154) dX7_read_147 (by decide) (fun h147 => ?_) (fun h147 => ?_)
          · refine r_iload_n dX7_read_154 rfl ?_
            refine r_iconst (v := 1) dX7_read_155 (by decide) ?_
            refine r_icmp_ne (tgt := 164) dX7_read_156 (by decide) (fun h156 => ?_) (fun h156 => ?_)
            · refine r_iload dX7_read_164 rfl ?_
              refine r_iret dX7_read_166 rfl ?_
              exact ⟨rfl, rfl, ((((((hU.p hF.p).p hF4).p hF5).p hF6)).u (by decide)).u (by decide), Or.inr ⟨hno, ⟨_, rfl⟩, (up2_k _ _ (by decide)).trans (up2_at _ _ _ _), (by rw [hft]; exact up2_at _ _ _ _)⟩⟩
            · refine r_iload dX7_read_159 rfl ?_
              refine r_goto (tgt := 166) dX7_read_161 (by decide) ?_
              refine r_iret dX7_read_166 rfl ?_
              exact ⟨rfl, rfl, ((((((hU.p hF.p).p hF4).p hF5).p hF6)).u (by decide)).u (by decide), Or.inr ⟨hno, ⟨_, rfl⟩, (up2_k _ _ (by decide)).trans (up2_at _ _ _ _), (by rw [hft]; exact up2_at _ _ _ _)⟩⟩
          · refine r_iload_n dX7_read_150 rfl ?_
            refine r_goto (tgt := 166) dX7_read_151 (by decide) ?_
            refine r_iret dX7_read_166 rfl ?_
            exact ⟨rfl, rfl, ((((((hU.p hF.p).p hF4).p hF5).p hF6)).u (by decide)).u (by decide), Or.inr ⟨hno, ⟨_, rfl⟩, (up2_k _ _ (by decide)).trans (up2_at _ _ _ _), (by rw [hft]; exact up2_at _ _ _ _)⟩⟩
        · have hne : ¬ (rd2 b z).2.1.2.2.1 = -1 := by omega
          have hno : rdOk b z = false := by unfold rdOk; rw [decide_eq_false hne, Bool.and_false]
          have hft : rdFt b z = (rd2 b z).2.1.1 := by unfold rdFt; rw [h1b, h1c, if_neg (by decide), if_neg (by decide)]
          refine r_istore dX7_read_126 (by decide) rfl ?_
          refine r_aload_n dX7_read_128 rfl ?_
          refine r_getIE dX7_read_129 f_X7_155 (hsh.al rfl (by decide)) (Or.inr rfl) hQ6.ok ?_
          refine r_ifb_ne (tgt := 146) dX7_read_132 (by decide) (fun h132 => absurd h132 (by decide)) (fun h132 => ?_)
          refine r_aload_n dX7_read_135 rfl ?_
          refine r_getIE dX7_read_136 f_X7_138 (hsh.al rfl (by decide)) (Or.inl rfl) h21 ?_
          refine r_if_eq (tgt := 146) dX7_read_139 (by decide) (fun h139 => absurd h139 (by decide)) (fun h139 => ?_)
          refine r_aload_n dX7_read_142 rfl ?_
          refine r_callV0W dX7_read_143 moX7_fail w_1012 w_1014 s_40 (hsh.al rfl (by decide)) cl7 rfl (Nat.le_of_ble_eq_true rfl) (Nat.le_of_ble_eq_true rfl) (S_mFail0 hsh hQ6.ok hQ6.at) ?_
          refine r_iload_n dX7_read_146 rfl ?_
          refine r_if_ne (tgt := 154) dX7_read_147 (by decide) (fun h147 => ?_) (fun h147 => ?_)
          · refine r_iload_n dX7_read_154 rfl ?_
            refine r_iconst (v := 1) dX7_read_155 (by decide) ?_
            refine r_icmp_ne (tgt := 164) dX7_read_156 (by decide) (fun h156 => ?_) (fun h156 => ?_)
            · refine r_iload dX7_read_164 rfl ?_
              refine r_iret dX7_read_166 rfl ?_
              exact ⟨rfl, rfl, ((((((hU.p hF.p).p hF4).p hF5).p hF6)).u (by decide)).u (by decide), Or.inr ⟨hno, ⟨_, rfl⟩, (up2_k _ _ (by decide)).trans (up2_at _ _ _ _), (by rw [hft]; exact up2_at _ _ _ _)⟩⟩
            · refine r_iload dX7_read_159 rfl ?_
              refine r_goto (tgt := 166) dX7_read_161 (by decide) ?_
              refine r_iret dX7_read_166 rfl ?_
              exact ⟨rfl, rfl, ((((((hU.p hF.p).p hF4).p hF5).p hF6)).u (by decide)).u (by decide), Or.inr ⟨hno, ⟨_, rfl⟩, (up2_k _ _ (by decide)).trans (up2_at _ _ _ _), (by rw [hft]; exact up2_at _ _ _ _)⟩⟩
          · refine r_iload_n dX7_read_150 rfl ?_
            refine r_goto (tgt := 166) dX7_read_151 (by decide) ?_
            refine r_iret dX7_read_166 rfl ?_
            exact ⟨rfl, rfl, ((((((hU.p hF.p).p hF4).p hF5).p hF6)).u (by decide)).u (by decide), Or.inr ⟨hno, ⟨_, rfl⟩, (up2_k _ _ (by decide)).trans (up2_at _ _ _ _), (by rw [hft]; exact up2_at _ _ _ _)⟩⟩
        · have hne : ¬ (rd2 b z).2.1.2.2.1 = -1 := by omega
          have hno : rdOk b z = false := by unfold rdOk; rw [decide_eq_false hne, Bool.and_false]
          have hft : rdFt b z = (rd2 b z).2.1.1 := by unfold rdFt; rw [h1b, h1c, if_neg (by decide), if_neg (by decide)]
          refine r_istore dX7_read_126 (by decide) rfl ?_
          refine r_aload_n dX7_read_128 rfl ?_
          refine r_getIE dX7_read_129 f_X7_155 (hsh.al rfl (by decide)) (Or.inr rfl) hQ6.ok ?_
          refine r_ifb_ne (tgt := 146) dX7_read_132 (by decide) (fun h132 => absurd h132 (by decide)) (fun h132 => ?_)
          refine r_aload_n dX7_read_135 rfl ?_
          refine r_getIE dX7_read_136 f_X7_138 (hsh.al rfl (by decide)) (Or.inl rfl) h21 ?_
          refine r_if_eq (tgt := 146) dX7_read_139 (by decide) (fun h139 => absurd h139 (by decide)) (fun h139 => ?_)
          refine r_aload_n dX7_read_142 rfl ?_
          refine r_callV0W dX7_read_143 moX7_fail w_1012 w_1014 s_40 (hsh.al rfl (by decide)) cl7 rfl (Nat.le_of_ble_eq_true rfl) (Nat.le_of_ble_eq_true rfl) (S_mFail0 hsh hQ6.ok hQ6.at) ?_
          refine r_iload_n dX7_read_146 rfl ?_
          refine r_if_ne (tgt := 154) dX7_read_147 (by decide) (fun h147 => ?_) (fun h147 => ?_)
          · refine r_iload_n dX7_read_154 rfl ?_
            refine r_iconst (v := 1) dX7_read_155 (by decide) ?_
            refine r_icmp_ne (tgt := 164) dX7_read_156 (by decide) (fun h156 => ?_) (fun h156 => ?_)
            · refine r_iload dX7_read_164 rfl ?_
              refine r_iret dX7_read_166 rfl ?_
              exact ⟨rfl, rfl, ((((((hU.p hF.p).p hF4).p hF5).p hF6)).u (by decide)).u (by decide), Or.inr ⟨hno, ⟨_, rfl⟩, (up2_k _ _ (by decide)).trans (up2_at _ _ _ _), (by rw [hft]; exact up2_at _ _ _ _)⟩⟩
            · refine r_iload dX7_read_159 rfl ?_
              refine r_goto (tgt := 166) dX7_read_161 (by decide) ?_
              refine r_iret dX7_read_166 rfl ?_
              exact ⟨rfl, rfl, ((((((hU.p hF.p).p hF4).p hF5).p hF6)).u (by decide)).u (by decide), Or.inr ⟨hno, ⟨_, rfl⟩, (up2_k _ _ (by decide)).trans (up2_at _ _ _ _), (by rw [hft]; exact up2_at _ _ _ _)⟩⟩
          · refine r_iload_n dX7_read_150 rfl ?_
            refine r_goto (tgt := 166) dX7_read_151 (by decide) ?_
            refine r_iret dX7_read_166 rfl ?_
            exact ⟨rfl, rfl, ((((((hU.p hF.p).p hF4).p hF5).p hF6)).u (by decide)).u (by decide), Or.inr ⟨hno, ⟨_, rfl⟩, (up2_k _ _ (by decide)).trans (up2_at _ _ _ _), (by rw [hft]; exact up2_at _ _ _ _)⟩⟩
      · refine r_some rfl ?_
        have hno : rdOk b z = false := by unfold rdOk; rw [h1d, Bool.and_false]; rfl
        have hft : rdFt b z = (rd2 b z).2.1.1 := by unfold rdFt; rw [h1b, h1c, if_neg (by decide), if_neg (by decide)]
        refine r_istore dX7_read_126 (by decide) rfl ?_
        refine r_aload_n dX7_read_128 rfl ?_
        refine r_getIE dX7_read_129 f_X7_155 (hsh.al rfl (by decide)) (Or.inr rfl) hb ?_
        refine r_ifb_ne (tgt := 146) dX7_read_132 (by decide) (fun h132 => ?_) (fun h132 => absurd h132 (by decide))
        refine r_iload_n dX7_read_146 rfl ?_
        refine r_if_ne (tgt := 154) dX7_read_147 (by decide) (fun h147 => ?_) (fun h147 => ?_)
        · refine r_iload_n dX7_read_154 rfl ?_
          refine r_iconst (v := 1) dX7_read_155 (by decide) ?_
          refine r_icmp_ne (tgt := 164) dX7_read_156 (by decide) (fun h156 => ?_) (fun h156 => ?_)
          · refine r_iload dX7_read_164 rfl ?_
            refine r_iret dX7_read_166 rfl ?_
            exact ⟨rfl, rfl, (((((hU.p hF.p).p hF4).p hF5).p hF6)), Or.inr ⟨hno, ⟨_, rfl⟩, hb, (by rw [hft]; exact hf)⟩⟩
          · refine r_iload dX7_read_159 rfl ?_
            refine r_goto (tgt := 166) dX7_read_161 (by decide) ?_
            refine r_iret dX7_read_166 rfl ?_
            exact ⟨rfl, rfl, (((((hU.p hF.p).p hF4).p hF5).p hF6)), Or.inr ⟨hno, ⟨_, rfl⟩, hb, (by rw [hft]; exact hf)⟩⟩
        · refine r_iload_n dX7_read_150 rfl ?_
          refine r_goto (tgt := 166) dX7_read_151 (by decide) ?_
          refine r_iret dX7_read_166 rfl ?_
          exact ⟨rfl, rfl, (((((hU.p hF.p).p hF4).p hF5).p hF6)), Or.inr ⟨hno, ⟨_, rfl⟩, hb, (by rw [hft]; exact hf)⟩⟩
    · refine r_some rfl ?_
      have hno : rdOk b z = false := by unfold rdOk; rw [h1c, Bool.and_false]; rfl
      have hft : rdFt b z = (rd1 b z).2.1.1 := by unfold rdFt; rw [h1b, h1c, if_neg (by decide), if_pos rfl]
      refine r_istore dX7_read_92 (by decide) rfl ?_
      refine r_aload_n dX7_read_94 rfl ?_
      refine r_getIE dX7_read_95 f_X7_155 (hsh.al rfl (by decide)) (Or.inr rfl) hb ?_
      refine r_ifb_eq (tgt := 105) dX7_read_98 (by decide) (fun h98 => absurd h98 (by decide)) (fun h98 => ?_)
      refine r_iconst (v := 0) dX7_read_101 (by decide) ?_
      refine r_goto (tgt := 126) dX7_read_102 (by decide) ?_
      refine r_istore dX7_read_126 (by decide) rfl ?_
      refine r_aload_n dX7_read_128 rfl ?_
      refine r_getIE dX7_read_129 f_X7_155 (hsh.al rfl (by decide)) (Or.inr rfl) hb ?_
      refine r_ifb_ne (tgt := 146) dX7_read_132 (by decide) (fun h132 => ?_) (fun h132 => absurd h132 (by decide))
      refine r_iload_n dX7_read_146 rfl ?_
      refine r_if_ne (tgt := 154) dX7_read_147 (by decide) (fun h147 => ?_) (fun h147 => ?_)
      · refine r_iload_n dX7_read_154 rfl ?_
        refine r_iconst (v := 1) dX7_read_155 (by decide) ?_
        refine r_icmp_ne (tgt := 164) dX7_read_156 (by decide) (fun h156 => ?_) (fun h156 => ?_)
        · refine r_iload dX7_read_164 rfl ?_
          refine r_iret dX7_read_166 rfl ?_
          exact ⟨rfl, rfl, ((((hU.p hF.p).p hF4).p hF5)), Or.inr ⟨hno, ⟨_, rfl⟩, hb, (by rw [hft]; exact hf)⟩⟩
        · refine r_iload dX7_read_159 rfl ?_
          refine r_goto (tgt := 166) dX7_read_161 (by decide) ?_
          refine r_iret dX7_read_166 rfl ?_
          exact ⟨rfl, rfl, ((((hU.p hF.p).p hF4).p hF5)), Or.inr ⟨hno, ⟨_, rfl⟩, hb, (by rw [hft]; exact hf)⟩⟩
      · refine r_iload_n dX7_read_150 rfl ?_
        refine r_goto (tgt := 166) dX7_read_151 (by decide) ?_
        refine r_iret dX7_read_166 rfl ?_
        exact ⟨rfl, rfl, ((((hU.p hF.p).p hF4).p hF5)), Or.inr ⟨hno, ⟨_, rfl⟩, hb, (by rw [hft]; exact hf)⟩⟩
  · refine r_some rfl ?_
    have hno : rdOk b z = false := by unfold rdOk; rw [h1b]; rfl
    have hft : rdFt b z = (rd0 b z).2.1.1 := by unfold rdFt; rw [h1b, if_pos rfl]
    refine r_istore_n dX7_read_59 (by decide) rfl ?_
    refine r_aload_n dX7_read_60 rfl ?_
    refine r_getIE dX7_read_61 f_X7_155 (hsh.al rfl (by decide)) (Or.inr rfl) hb ?_
    refine r_ifb_eq (tgt := 71) dX7_read_64 (by decide) (fun h64 => absurd h64 (by decide)) (fun h64 => ?_)
    refine r_iconst (v := 0) dX7_read_67 (by decide) ?_
    refine r_goto (tgt := 92) dX7_read_68 (by decide) ?_
    refine r_istore dX7_read_92 (by decide) rfl ?_
    refine r_aload_n dX7_read_94 rfl ?_
    refine r_getIE dX7_read_95 f_X7_155 (hsh.al rfl (by decide)) (Or.inr rfl) hb ?_
    refine r_ifb_eq (tgt := 105) dX7_read_98 (by decide) (fun h98 => absurd h98 (by decide)) (fun h98 => ?_)
    refine r_iconst (v := 0) dX7_read_101 (by decide) ?_
    refine r_goto (tgt := 126) dX7_read_102 (by decide) ?_
    refine r_istore dX7_read_126 (by decide) rfl ?_
    refine r_aload_n dX7_read_128 rfl ?_
    refine r_getIE dX7_read_129 f_X7_155 (hsh.al rfl (by decide)) (Or.inr rfl) hb ?_
    refine r_ifb_ne (tgt := 146) dX7_read_132 (by decide) (fun h132 => ?_) (fun h132 => absurd h132 (by decide))
    refine r_iload_n dX7_read_146 rfl ?_
    refine r_if_ne (tgt := 154) dX7_read_147 (by decide) (fun h147 => ?_) (fun h147 => ?_)
    · refine r_iload_n dX7_read_154 rfl ?_
      refine r_iconst (v := 1) dX7_read_155 (by decide) ?_
      refine r_icmp_ne (tgt := 164) dX7_read_156 (by decide) (fun h156 => ?_) (fun h156 => ?_)
      · refine r_iload dX7_read_164 rfl ?_
        refine r_iret dX7_read_166 rfl ?_
        exact ⟨rfl, rfl, ((hU.p hF.p).p hF4), Or.inr ⟨hno, ⟨_, rfl⟩, hb, (by rw [hft]; exact hf)⟩⟩
      · refine r_iload dX7_read_159 rfl ?_
        refine r_goto (tgt := 166) dX7_read_161 (by decide) ?_
        refine r_iret dX7_read_166 rfl ?_
        exact ⟨rfl, rfl, ((hU.p hF.p).p hF4), Or.inr ⟨hno, ⟨_, rfl⟩, hb, (by rw [hft]; exact hf)⟩⟩
    · refine r_iload_n dX7_read_150 rfl ?_
      refine r_goto (tgt := 166) dX7_read_151 (by decide) ?_
      refine r_iret dX7_read_166 rfl ?_
      exact ⟨rfl, rfl, ((hU.p hF.p).p hF4), Or.inr ⟨hno, ⟨_, rfl⟩, hb, (by rw [hft]; exact hf)⟩⟩
def TxV (I : TI) (rl : Nat) (V : TV) : Prop := rl < 6 ∧ ∃ (b : Nat → Nat) (z : Nat), z ≤ 160 ∧ I 104 rl = nI z ∧ (∀ j, j < z → I 103 (160 * rl + j) = nI (b j) ∧ b j < 256) ∧ rdOk b z = true ∧ rdTV b z = V
def FrSy (I I2 : TI) : Prop := (∀ a, a ≠ 102 → I2 a = I a) ∧ ∀ k, (k < 12 ∨ 26 < k) → I2 102 k = I 102 k
theorem rdTV_at {b : Nat → Nat} {z p : Nat} (hp : p < 3) (nm : Nat → Int32) : rdTV b z p nm = clP p [rdV b z nm (nI p)] := by
  have e : p = 0 ∨ p = 1 ∨ p = 2 := by omega
  rcases e with rfl | rfl | rfl <;> rfl
set_option maxRecDepth 20000 in
set_option maxHeartbeats 4000000 in
theorem S_mSays {g : GP} {d n : Nat} {I : TI} {J : TJ} {R : TR} {dl : Nat → Nat} {tr : Nat → Nat → Nat} {sz rl : Nat} (hN : MdN n I R dl tr sz rl) {V : TV} (hV : TxV I rl V) {p k tick far place : Nat} (hp : p < 3) (hk : k < sz) : Wp g (d + 46) mX7_says 0 [.ref 102, .int (nI p), .int (nI k), .int (nI tick), .int (nI far), .int (nI place)] [] 0 0 n I J R (PostM n R (some (.int (nI (V p (nmN tick far (dl 0) (tr 0 k) (tr 1 k / 10) place))))) (fun I2 _ => FrSy I I2)) := by
  have hsh := hN.sh
  have wf := hN.wf
  have hz := wf.2.2.1
  have b1 := wf.t1 (k := k) (by omega)
  obtain ⟨h6, b, z, hz2, h104, hby, hok, hTV⟩ := hV
  have w3 : MdN n (up2 (up2 (up2 I 102 12 (nI tick)) 102 13 (nI far)) 102 14 (nI (dl 0))) R dl tr sz rl := hN.fr (up2_rf (by decide) (up2_rf (by decide) (up2_a _ _ _ (by decide)))) (up2_rf (by decide) (up2_rf (by decide) (up2_a _ _ _ (by decide)))) (up2_rf (by decide) (up2_rf (by decide) (up2_a _ _ _ (by decide)))) (fun q hq => by rw [up2_k _ _ (by omega), up2_k _ _ (by omega), up2_k _ _ (by omega)])
  have w4 : MdN n (up2 (up2 (up2 (up2 I 102 12 (nI tick)) 102 13 (nI far)) 102 14 (nI (dl 0))) 102 15 (nI (tr 0 k))) R dl tr sz rl := w3.fr (up2_a _ _ _ (by decide)) (up2_a _ _ _ (by decide)) (up2_a _ _ _ (by decide)) (fun q hq => up2_k _ _ (by omega))
  have hO : ∀ a, a ≠ 102 → (up2 (up2 (up2 (up2 (up2 (up2 I 102 12 (nI tick)) 102 13 (nI far)) 102 14 (nI (dl 0))) 102 15 (nI (tr 0 k))) 102 16 (nI (tr 1 k / 10))) 102 17 (nI place)) a = I a := fun a ha => by rw [up2_a _ _ _ ha, up2_a _ _ _ ha, up2_a _ _ _ ha, up2_a _ _ _ ha, up2_a _ _ _ ha, up2_a _ _ _ ha]
  have hO2 : ∀ q, (q < 12 ∨ 17 < q) → (up2 (up2 (up2 (up2 (up2 (up2 I 102 12 (nI tick)) 102 13 (nI far)) 102 14 (nI (dl 0))) 102 15 (nI (tr 0 k))) 102 16 (nI (tr 1 k / 10))) 102 17 (nI place)) 102 q = I 102 q := fun q hq => by rw [up2_k _ _ (by omega), up2_k _ _ (by omega), up2_k _ _ (by omega), up2_k _ _ (by omega), up2_k _ _ (by omega), up2_k _ _ (by omega)]
  have hnm : ∀ j, j < 6 → (up2 (up2 (up2 (up2 (up2 (up2 I 102 12 (nI tick)) 102 13 (nI far)) 102 14 (nI (dl 0))) 102 15 (nI (tr 0 k))) 102 16 (nI (tr 1 k / 10))) 102 17 (nI place)) 102 (12 + j) = nmN tick far (dl 0) (tr 0 k) (tr 1 k / 10) place j := fun j hj => by
    have e : j = 0 ∨ j = 1 ∨ j = 2 ∨ j = 3 ∨ j = 4 ∨ j = 5 := by omega
    rcases e with rfl | rfl | rfl | rfl | rfl | rfl
    · rw [up2_k _ _ (by decide), up2_k _ _ (by decide), up2_k _ _ (by decide), up2_k _ _ (by decide), up2_k _ _ (by decide), up2_at]; rfl
    · rw [up2_k _ _ (by decide), up2_k _ _ (by decide), up2_k _ _ (by decide), up2_k _ _ (by decide), up2_at]; rfl
    · rw [up2_k _ _ (by decide), up2_k _ _ (by decide), up2_k _ _ (by decide), up2_at]; rfl
    · rw [up2_k _ _ (by decide), up2_k _ _ (by decide), up2_at]; rfl
    · rw [up2_k _ _ (by decide), up2_at]; rfl
    · rw [up2_at]; rfl
  refine r_aload_n dX7_says_0 rfl ?_
  refine r_iload_n dX7_says_1 rfl ?_
  refine r_putI dX7_says_2 f_X7_177 (hsh.al rfl (by decide)) (Or.inl rfl) rfl ?_
  refine r_aload_n dX7_says_5 rfl ?_
  refine r_iload dX7_says_6 rfl ?_
  refine r_putI dX7_says_8 f_X7_180 (hsh.al rfl (by decide)) (Or.inl rfl) rfl ?_
  refine r_aload_n dX7_says_11 rfl ?_
  refine r_aload_n dX7_says_12 rfl ?_
  refine r_getR (b := 106) dX7_says_13 f_X7_23 (hsh.al rfl (by decide)) (Or.inl ⟨_, rfl⟩) (hsh.r 102 7 106 (by decide)) (by decide) ?_
  refine r_iconst (v := 0) dX7_says_16 (by decide) ?_
  refine r_ialdE (j := 0) dX7_says_17 (hsh.al rfl (by decide)) (by decide) (by decide) ((congrFun (up2_rf (by decide) (up2_a _ _ _ (by decide))) 0).trans hN.d0) ?_
  refine r_putI dX7_says_18 f_X7_183 (hsh.al rfl (by decide)) (Or.inl rfl) rfl ?_
  refine r_aload_n dX7_says_21 rfl ?_
  refine r_aload_n dX7_says_22 rfl ?_
  refine r_iload_n dX7_says_23 rfl ?_
  refine r_iconst (v := 0) dX7_says_24 (by decide) ?_
  refine r_callV2I dX7_says_25 moX7_row w_940 w_942 s_30 (hsh.al rfl (by decide)) cl7 rfl (Nat.le_of_ble_eq_true rfl) (Nat.le_of_ble_eq_true rfl) (S_mRow w3 (k := k) (i := 0) hk (by decide)) ?_
  refine r_putI dX7_says_28 f_X7_186 (hsh.al rfl (by decide)) (Or.inl rfl) rfl ?_
  refine r_aload_n dX7_says_31 rfl ?_
  refine r_aload_n dX7_says_32 rfl ?_
  refine r_iload_n dX7_says_33 rfl ?_
  refine r_iconst (v := 1) dX7_says_34 (by decide) ?_
  refine r_callV2I dX7_says_35 moX7_row w_940 w_942 s_30 (hsh.al rfl (by decide)) cl7 rfl (Nat.le_of_ble_eq_true rfl) (Nat.le_of_ble_eq_true rfl) (S_mRow w4 (k := k) (i := 1) hk (by decide)) ?_
  refine r_bipush (v := 10) dX7_says_38 (by decide) ?_
  refine r_nidiv (b := 10) dX7_says_40 rfl rfl (by omega) (by omega) (by omega) ?_
  refine r_putI dX7_says_41 f_X7_189 (hsh.al rfl (by decide)) (Or.inl rfl) rfl ?_
  refine r_aload_n dX7_says_44 rfl ?_
  refine r_iload dX7_says_45 rfl ?_
  refine r_putI dX7_says_47 f_X7_192 (hsh.al rfl (by decide)) (Or.inl rfl) rfl ?_
  refine r_aload_n dX7_says_50 rfl ?_
  refine r_aload_n dX7_says_51 rfl ?_
  refine r_getIE dX7_says_52 f_X7_235 (hsh.al rfl (by decide)) (Or.inl rfl) ((hO2 4 (by decide)).trans hN.rule) ?_
  refine r_iload_n dX7_says_55 rfl ?_
  refine r_callV2N dX7_says_56 moX7_read w_983 w_985 s_34 (hsh.al rfl (by decide)) cl7 rfl (Nat.le_of_ble_eq_true rfl) (Nat.le_of_ble_eq_true rfl) (S_mRead (b := b) (z := z) hsh h6 (by rw [hO 104 (by decide)]; exact h104) hz2 (fun j hj => by rw [hO 103 (by decide)]; exact hby j hj) hnm (nI p)) (fun r n I2 J R hq => ?_)
  obtain ⟨rfl, rfl, hF, hc⟩ := hq
  rcases hc with ⟨_, rfl, _⟩ | ⟨hno, _⟩
  rotate_left
  · rw [hok] at hno; exact absurd hno (by decide)
  refine r_some rfl ?_
  have hFs : FrSy I I2 := ⟨fun a ha => (hF.1 a ha).trans (hO a ha), fun q hq => (hF.2 q (by omega)).trans (hO2 q (by omega))⟩
  have e : p = 0 ∨ p = 1 ∨ p = 2 := by omega
  rcases e with rfl | rfl | rfl
  · refine r_iload_n dX7_says_59 rfl ?_
    refine r_iconst (v := 1) dX7_says_60 (by decide) ?_
    refine r_nicmp_ne (a := 0) (b := 1)  (tgt := 68) dX7_says_61 (by decide) rfl rfl (by omega) (by omega) (fun h61 => ?_) (fun h61 => absurd h61 (by omega))
    refine r_iconst (v := 0) dX7_says_68 (by decide) ?_
    refine r_top (v := nI (lvN 0)) (by decide) ?_
    refine r_iload_n dX7_says_69 rfl ?_
    refine r_if_ne (tgt := 78) dX7_says_70 (by decide) (fun h70 => absurd rfl h70) (fun h70 => ?_)
    refine r_bipush (v := 50) dX7_says_73 (by decide) ?_
    refine r_top (v := nI (mvN 0)) (by decide) ?_
    refine r_goto (tgt := 90) dX7_says_75 (by decide) ?_
    refine r_callS3I dX7_says_90 moX7_within w_1096 w_1097 (Nat.le_of_ble_eq_true rfl) (Nat.le_of_ble_eq_true rfl) (S_mWithin (p := 0) (by decide) _) ?_
    refine r_iret dX7_says_93 rfl ?_
    rw [← hTV, rdTV_at (by decide)]
    exact ⟨rfl, rfl, rfl, hFs⟩
  · refine r_iload_n dX7_says_59 rfl ?_
    refine r_iconst (v := 1) dX7_says_60 (by decide) ?_
    refine r_nicmp_ne (a := 1) (b := 1)  (tgt := 68) dX7_says_61 (by decide) rfl rfl (by omega) (by omega) (fun h61 => absurd h61 (by omega)) (fun h61 => ?_)
    refine r_iconst (v := 1) dX7_says_64 (by decide) ?_
    refine r_top (v := nI (lvN 1)) (by decide) ?_
    refine r_goto (tgt := 69) dX7_says_65 (by decide) ?_
    refine r_iload_n dX7_says_69 rfl ?_
    refine r_if_ne (tgt := 78) dX7_says_70 (by decide) (fun h70 => ?_) (fun h70 => absurd h70 (by decide))
    refine r_iload_n dX7_says_78 rfl ?_
    refine r_iconst (v := 1) dX7_says_79 (by decide) ?_
    refine r_nicmp_ne (a := 1) (b := 1)  (tgt := 88) dX7_says_80 (by decide) rfl rfl (by omega) (by omega) (fun h80 => absurd h80 (by omega)) (fun h80 => ?_)
    refine r_bipush (v := 99) dX7_says_83 (by decide) ?_
    refine r_top (v := nI (mvN 1)) (by decide) ?_
    refine r_goto (tgt := 90) dX7_says_85 (by decide) ?_
    refine r_callS3I dX7_says_90 moX7_within w_1096 w_1097 (Nat.le_of_ble_eq_true rfl) (Nat.le_of_ble_eq_true rfl) (S_mWithin (p := 1) (by decide) _) ?_
    refine r_iret dX7_says_93 rfl ?_
    rw [← hTV, rdTV_at (by decide)]
    exact ⟨rfl, rfl, rfl, hFs⟩
  · refine r_iload_n dX7_says_59 rfl ?_
    refine r_iconst (v := 1) dX7_says_60 (by decide) ?_
    refine r_nicmp_ne (a := 2) (b := 1)  (tgt := 68) dX7_says_61 (by decide) rfl rfl (by omega) (by omega) (fun h61 => ?_) (fun h61 => absurd h61 (by omega))
    refine r_iconst (v := 0) dX7_says_68 (by decide) ?_
    refine r_top (v := nI (lvN 2)) (by decide) ?_
    refine r_iload_n dX7_says_69 rfl ?_
    refine r_if_ne (tgt := 78) dX7_says_70 (by decide) (fun h70 => ?_) (fun h70 => absurd h70 (by decide))
    refine r_iload_n dX7_says_78 rfl ?_
    refine r_iconst (v := 1) dX7_says_79 (by decide) ?_
    refine r_nicmp_ne (a := 2) (b := 1)  (tgt := 88) dX7_says_80 (by decide) rfl rfl (by omega) (by omega) (fun h80 => ?_) (fun h80 => absurd h80 (by omega))
    refine r_bipush (v := 9) dX7_says_88 (by decide) ?_
    refine r_top (v := nI (mvN 2)) (by decide) ?_
    refine r_callS3I dX7_says_90 moX7_within w_1096 w_1097 (Nat.le_of_ble_eq_true rfl) (Nat.le_of_ble_eq_true rfl) (S_mWithin (p := 2) (by decide) _) ?_
    refine r_iret dX7_says_93 rfl ?_
    rw [← hTV, rdTV_at (by decide)]
    exact ⟨rfl, rfl, rfl, hFs⟩
