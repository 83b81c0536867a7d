/-! the class reads a text -/
theorem op_dec (op : Nat) : nI (op + 1) - 1 = nI op := by
  show nI (op + 1) - nI 1 = nI op
  rw [pk_sub (by omega)]
  rfl
theorem RdQ.fl {n : Nat} {I : TI} {R : TR} {b : Nat → Nat} {z t op sz : Nat} {st : LexS} (h : RdQ n I R b z t op sz st) : RdP t I I op sz (flP st) := RdP.fl h
set_option maxRecDepth 20000 in
set_option maxHeartbeats 4000000 in
theorem S_readNegated0 {g : GP} {d n : Nat} {J : TJ} {R : TR} {b : Nat → Nat} {z t : Nat} {I : TI} {st : LexS} {sz : Nat} (hQ : RdQ n I R b z t 5 sz st) : Wp g (d + 7) mX1_readNegated 0 [.ref 64, .null] [] 0 0 n I J R (PostI n J R (some (.int (b2i (flP st).1))) (fun I2 => RdP t I I2 5 sz (flP st))) := by
  have hsh := hQ.sh
  have ht := hQ.tx
  have htg := text_ge ht
  have hb := hQ.bd
  refine r_aload_n dX1_readNegated_0 rfl ?_
  refine r_callV0I dX1_readNegated_1 moX1_opens w_383 w_385 s_14 (hsh.al rfl (by decide)) cl1 rfl (Nat.le_of_ble_eq_true rfl) (Nat.le_of_ble_eq_true rfl) (S_opens0 hsh hQ.opI) ?_
  refine r_ifb_ne (tgt := 9) dX1_readNegated_4 (by decide) (fun h4 => absurd h4 (by decide)) (fun h4 => ?_)
  refine r_iconst (v := 0) dX1_readNegated_7 (by decide) ?_
  refine r_bret (b := false) dX1_readNegated_8 rfl ?_ ?_
  · rfl
  · exact ⟨rfl, rfl, rfl, rfl, hQ.fl⟩
set_option maxRecDepth 20000 in
set_option maxHeartbeats 4000000 in
theorem S_readEnclosed0 {g : GP} {d n : Nat} {J : TJ} {R : TR} {b : Nat → Nat} {z t : Nat} {I : TI} {st : LexS} {sz : Nat} (hQ : RdQ n I R b z t 5 sz st) : Wp g (d + 7) mX1_readEnclosed 0 [.ref 64, .null] [] 0 0 n I J R (PostI n J R (some (.int (b2i (flP st).1))) (fun I2 => RdP t I I2 5 sz (flP st))) := by
  have hsh := hQ.sh
  have ht := hQ.tx
  have htg := text_ge ht
  have hb := hQ.bd
  refine r_aload_n dX1_readEnclosed_0 rfl ?_
  refine r_callV0I dX1_readEnclosed_1 moX1_opens w_383 w_385 s_14 (hsh.al rfl (by decide)) cl1 rfl (Nat.le_of_ble_eq_true rfl) (Nat.le_of_ble_eq_true rfl) (S_opens0 hsh hQ.opI) ?_
  refine r_ifb_ne (tgt := 9) dX1_readEnclosed_4 (by decide) (fun h4 => absurd h4 (by decide)) (fun h4 => ?_)
  refine r_iconst (v := 0) dX1_readEnclosed_7 (by decide) ?_
  refine r_bret (b := false) dX1_readEnclosed_8 rfl ?_ ?_
  · rfl
  · exact ⟨rfl, rfl, rfl, rfl, hQ.fl⟩
set_option maxRecDepth 20000 in
set_option maxHeartbeats 4000000 in
theorem S_readNegated1 {g : GP} {d n : Nat} {J : TJ} {R : TR} {b : Nat → Nat} {z t op : Nat} {f : LexS → POut} (ho : op < 5) (hg : PGd z f) (hs : RdC g (d + 6) mX1_readOne [.ref 64] n J R b z t (op + 1) f) {I : TI} {st : LexS} {sz : Nat} (hQ : RdQ n I R b z t op sz st) (hne : st.2.2.1 ≠ -1) : Wp g (d + 7) mX1_readNegated 0 [.ref 64, .null] [] 0 0 n I J R (PostI n J R (some (.int (b2i (ngP (f (avB b z st))).1))) (fun I2 => RdP t I I2 op sz (ngP (f (avB b z st))))) := by
  have hsh := hQ.sh
  have ht := hQ.tx
  have htg := text_ge ht
  have hb := hQ.bd
  refine r_aload_n dX1_readNegated_0 rfl ?_
  refine r_callV0I dX1_readNegated_1 moX1_opens w_383 w_385 s_14 (hsh.al rfl (by decide)) cl1 rfl (Nat.le_of_ble_eq_true rfl) (Nat.le_of_ble_eq_true rfl) (S_opens1 hsh hQ.opI ho) ?_
  refine r_ifb_ne (tgt := 9) dX1_readNegated_4 (by decide) (fun h4 => ?_) (fun h4 => absurd h4 (by decide))
  refine r_aload_n dX1_readNegated_9 rfl ?_
  have hQ1 := hQ.opU (op := op + 1) (by omega)
  refine r_callV0N dX1_readNegated_10 moX1_advance w_258 w_260 s_0 (hsh.al rfl (by decide)) cl1 rfl (Nat.le_of_ble_eq_true rfl) (Nat.le_of_ble_eq_true rfl) (S_advance hQ1.sh hQ1.tp hQ1.str hQ1.rd.2.1 hQ1.lx.2.2.1) (fun r n I3 J R hq => ?_)
  obtain ⟨rfl, rfl, rfl, rfl, hF, hS⟩ := hq
  have hQ2 := hQ1.av hF hS
  have ha := av_ok (b := b) hQ.lx
  have hA : ∀ a, a ≠ 64 → I3 a = I a := fun a h => (hF.1 a h).trans (up2_a _ _ _ h)
  have hA1 : I3 64 1 = I 64 1 := (hF.2 1 (by decide) (by decide) (by decide) (by decide)).trans (up2_k _ _ (by decide))
  refine r_aload_n dX1_readNegated_13 rfl ?_
  refine r_callV0N dX1_readNegated_14 moX1_readOne w_375 w_377 s_12 (hsh.al rfl (by decide)) cl1 rfl (Nat.le_of_ble_eq_true rfl) (Nat.le_of_ble_eq_true rfl) (hs _ _ _ hQ2) (fun r n I4 J R hq => ?_)
  obtain ⟨rfl, rfl, rfl, rfl, hP4⟩ := hq
  refine r_some rfl ?_
  refine r_istore_n dX1_readNegated_17 (by decide) rfl ?_
  refine r_aload_n dX1_readNegated_18 rfl ?_
  refine r_dup dX1_readNegated_19 rfl ?_
  refine r_getI dX1_readNegated_20 f_X1_38 (hsh.al rfl (by decide)) (Or.inl rfl) ?_
  refine r_iconst (v := 1) dX1_readNegated_23 (by decide) ?_
  refine r_isub dX1_readNegated_24 ?_
  refine r_putI dX1_readNegated_25 f_X1_38 (hsh.al rfl (by decide)) (Or.inl rfl) rfl ?_
  refine r_aload_n dX1_readNegated_28 rfl ?_
  refine r_getR (b := t) dX1_readNegated_29 f_X1_22 (hsh.al rfl (by decide)) (Or.inr ⟨_, rfl⟩) hQ.r2 (by omega) ?_
  refine r_bipush (v := (-7)) dX1_readNegated_32 (by decide) ?_
  obtain ⟨s2, hs2, e2⟩ := hP4.2.2.1
  refine r_top (v := zI (-7)) (by decide) ?_
  refine r_callV1W dX1_readNegated_34 moX4_add w_387 w_388 w_389 (hsh.t0 ht) cl4 rfl (Nat.le_of_ble_eq_true rfl) (Nat.le_of_ble_eq_true rfl) (S_addM hsh ht ((congrFun (up2_a _ _ _ (by omega)) 2).trans e2) hs2 _) ?_
  refine r_iload_n dX1_readNegated_37 rfl ?_
  refine r_bret (b := (f (avB b z st)).1) dX1_readNegated_38 rfl ?_ ?_
  · rfl
  · have hg3 := hg _ ha.1
    have hcap : (f (avB b z st)).1 = true → sz + (f (avB b z st)).2.2.1.length < 160 := fun h => by
      have c1 := (hg3.2.2 h).1
      have c2 := hQ.le
      have c3 := ha.2.2 hne
      have c4 := hg3.1.1
      have c5 := hQ.tp.2.1
      omega
    exact ⟨rfl, rfl, rfl, rfl, RdP.un ht hA hA1 hP4 (fun a h => up2_a _ _ _ h) (fun j h => up2_k _ _ h) (fun h => by rw [up2_at, (hP4.2.2.2.2 h).2.1]; exact op_dec op) hcap hs2 e2 rfl rfl rfl⟩
set_option maxRecDepth 20000 in
set_option maxHeartbeats 4000000 in
theorem S_readEnclosed1 {g : GP} {d n : Nat} {J : TJ} {R : TR} {b : Nat → Nat} {z t op : Nat} {f : LexS → POut} (ho : op < 5) (hg : PGd z f) (hs : RdC g (d + 6) mX1_readEither [.ref 64, .null, .null] n J R b z t (op + 1) f) {I : TI} {st : LexS} {sz : Nat} (hQ : RdQ n I R b z t op sz st) (hne : st.2.2.1 ≠ -1) : Wp g (d + 7) mX1_readEnclosed 0 [.ref 64, .null] [] 0 0 n I J R (PostI n J R (some (.int (b2i (endPB (avB b z) 41 (f (avB b z st))).1))) (fun I2 => RdP t I I2 op sz (endPB (avB b z) 41 (f (avB b z st))))) := by
  have hsh := hQ.sh
  have ht := hQ.tx
  have htg := text_ge ht
  have hb := hQ.bd
  refine r_aload_n dX1_readEnclosed_0 rfl ?_
  refine r_callV0I dX1_readEnclosed_1 moX1_opens w_383 w_385 s_14 (hsh.al rfl (by decide)) cl1 rfl (Nat.le_of_ble_eq_true rfl) (Nat.le_of_ble_eq_true rfl) (S_opens1 hsh hQ.opI ho) ?_
  refine r_ifb_ne (tgt := 9) dX1_readEnclosed_4 (by decide) (fun h4 => ?_) (fun h4 => absurd h4 (by decide))
  refine r_aload_n dX1_readEnclosed_9 rfl ?_
  have hQ1 := hQ.opU (op := op + 1) (by omega)
  refine r_callV0N dX1_readEnclosed_10 moX1_advance w_258 w_260 s_0 (hsh.al rfl (by decide)) cl1 rfl (Nat.le_of_ble_eq_true rfl) (Nat.le_of_ble_eq_true rfl) (S_advance hQ1.sh hQ1.tp hQ1.str hQ1.rd.2.1 hQ1.lx.2.2.1) (fun r n I3 J R hq => ?_)
  obtain ⟨rfl, rfl, rfl, rfl, hF, hS⟩ := hq
  have hQ2 := hQ1.av hF hS
  have ha := av_ok (b := b) hQ.lx
  have hA : ∀ a, a ≠ 64 → I3 a = I a := fun a h => (hF.1 a h).trans (up2_a _ _ _ h)
  have hA1 : I3 64 1 = I 64 1 := (hF.2 1 (by decide) (by decide) (by decide) (by decide)).trans (up2_k _ _ (by decide))
  refine r_aload_n dX1_readEnclosed_13 rfl ?_
  refine r_callV0N dX1_readEnclosed_14 moX1_readEither w_351 w_353 s_6 (hsh.al rfl (by decide)) cl1 rfl (Nat.le_of_ble_eq_true rfl) (Nat.le_of_ble_eq_true rfl) (hs _ _ _ hQ2) (fun r n I4 J R hq => ?_)
  obtain ⟨rfl, rfl, rfl, rfl, hP4⟩ := hq
  refine r_some rfl ?_
  refine r_ifb_eq (tgt := 33) dX1_readEnclosed_17 (by decide) (fun h17 => ?_) (fun h17 => ?_)
  · refine r_iconst (v := 0) dX1_readEnclosed_33 (by decide) ?_
    have e : endPB (avB b z) 41 (f (avB b z st)) = (false, (f (avB b z st)).2.1, (f (avB b z st)).2.2.1, (f (avB b z st)).2.2.2) := if_neg (fun h => by rw [h17] at h; exact absurd h.1 (by decide))
    refine r_istore_n dX1_readEnclosed_34 (by decide) rfl ?_
    refine r_aload_n dX1_readEnclosed_35 rfl ?_
    refine r_dup dX1_readEnclosed_36 rfl ?_
    refine r_getI dX1_readEnclosed_37 f_X1_38 (hsh.al rfl (by decide)) (Or.inl rfl) ?_
    refine r_iconst (v := 1) dX1_readEnclosed_40 (by decide) ?_
    refine r_isub dX1_readEnclosed_41 ?_
    refine r_putI dX1_readEnclosed_42 f_X1_38 (hsh.al rfl (by decide)) (Or.inl rfl) rfl ?_
    refine r_iload_n dX1_readEnclosed_45 rfl ?_
    refine r_if_eq (tgt := 53) dX1_readEnclosed_46 (by decide) (fun h46 => ?_) (fun h46 => absurd (by decide) h46)
    refine r_iload_n dX1_readEnclosed_53 rfl ?_
    refine r_bret (b := (endPB (avB b z) 41 (f (avB b z st))).1) dX1_readEnclosed_54 rfl ?_ ?_
    · rw [e]; rfl
    · rw [e]
      exact ⟨rfl, rfl, rfl, rfl, RdP.enc ht hA hA1 hP4 (fun a h => up2_a _ _ _ h) (up2_k _ _ (by decide)) rfl ((up2_k _ _ (by decide)).trans hP4.2.2.2.1) fun h => absurd h Bool.false_ne_true⟩
  · have hQ4 := hQ2.go (by omega) (hg _ ha.1) hP4 h17
    have hb4 := hQ4.bd
    refine r_aload_n dX1_readEnclosed_20 rfl ?_
    refine r_getIE dX1_readEnclosed_21 f_X1_32 (hsh.al rfl (by decide)) (Or.inl rfl) hQ4.rd.2.2.1 ?_
    refine r_bipush (v := 41) dX1_readEnclosed_24 (by decide) ?_
    refine r_zicmp_ne (b := 41)  (tgt := 33) dX1_readEnclosed_26 (by decide) rfl (by decide) (by unfold inZ; omega) (by unfold inZ; omega) (fun h26 => ?_) (fun h26 => ?_)
    · refine r_iconst (v := 0) dX1_readEnclosed_33 (by decide) ?_
      have e : endPB (avB b z) 41 (f (avB b z st)) = (false, (f (avB b z st)).2.1, (f (avB b z st)).2.2.1, (f (avB b z st)).2.2.2) := if_neg (fun h => h26 h.2)
      refine r_istore_n dX1_readEnclosed_34 (by decide) rfl ?_
      refine r_aload_n dX1_readEnclosed_35 rfl ?_
      refine r_dup dX1_readEnclosed_36 rfl ?_
      refine r_getI dX1_readEnclosed_37 f_X1_38 (hsh.al rfl (by decide)) (Or.inl rfl) ?_
      refine r_iconst (v := 1) dX1_readEnclosed_40 (by decide) ?_
      refine r_isub dX1_readEnclosed_41 ?_
      refine r_putI dX1_readEnclosed_42 f_X1_38 (hsh.al rfl (by decide)) (Or.inl rfl) rfl ?_
      refine r_iload_n dX1_readEnclosed_45 rfl ?_
      refine r_if_eq (tgt := 53) dX1_readEnclosed_46 (by decide) (fun h46 => ?_) (fun h46 => absurd (by decide) h46)
      refine r_iload_n dX1_readEnclosed_53 rfl ?_
      refine r_bret (b := (endPB (avB b z) 41 (f (avB b z st))).1) dX1_readEnclosed_54 rfl ?_ ?_
      · rw [e]; rfl
      · rw [e]
        exact ⟨rfl, rfl, rfl, rfl, RdP.enc ht hA hA1 hP4 (fun a h => up2_a _ _ _ h) (up2_k _ _ (by decide)) rfl ((up2_k _ _ (by decide)).trans hP4.2.2.2.1) fun h => absurd h Bool.false_ne_true⟩
    · refine r_iconst (v := 1) dX1_readEnclosed_29 (by decide) ?_
      refine r_goto (tgt := 34) dX1_readEnclosed_30 (by decide) ?_
      have e : endPB (avB b z) 41 (f (avB b z st)) = (true, avB b z (f (avB b z st)).2.1, (f (avB b z st)).2.2.1, (f (avB b z st)).2.2.2) := if_pos ⟨h17, h26⟩
      refine r_istore_n dX1_readEnclosed_34 (by decide) rfl ?_
      refine r_aload_n dX1_readEnclosed_35 rfl ?_
      refine r_dup dX1_readEnclosed_36 rfl ?_
      refine r_getI dX1_readEnclosed_37 f_X1_38 (hsh.al rfl (by decide)) (Or.inl rfl) ?_
      refine r_iconst (v := 1) dX1_readEnclosed_40 (by decide) ?_
      refine r_isub dX1_readEnclosed_41 ?_
      refine r_top (v := nI op) (by rw [hQ4.opI]; exact op_dec op) ?_
      refine r_putI dX1_readEnclosed_42 f_X1_38 (hsh.al rfl (by decide)) (Or.inl rfl) rfl ?_
      refine r_iload_n dX1_readEnclosed_45 rfl ?_
      refine r_if_eq (tgt := 53) dX1_readEnclosed_46 (by decide) (fun h46 => absurd h46 (by decide)) (fun h46 => ?_)
      refine r_aload_n dX1_readEnclosed_49 rfl ?_
      have hQ5 := hQ4.opU (op := op) (by omega)
      refine r_callV0N dX1_readEnclosed_50 moX1_advance w_258 w_260 s_0 (hsh.al rfl (by decide)) cl1 rfl (Nat.le_of_ble_eq_true rfl) (Nat.le_of_ble_eq_true rfl) (S_advance hQ5.sh hQ5.tp hQ5.str hQ5.rd.2.1 hQ5.lx.2.2.1) (fun r n I6 J R hq => ?_)
      obtain ⟨rfl, rfl, rfl, rfl, hF5, hS5⟩ := hq
      refine r_iload_n dX1_readEnclosed_53 rfl ?_
      refine r_bret (b := (endPB (avB b z) 41 (f (avB b z st))).1) dX1_readEnclosed_54 rfl ?_ ?_
      · rw [e]; rfl
      · rw [e]
        exact ⟨rfl, rfl, rfl, rfl, RdP.enc ht hA hA1 hP4 (fun a h => (hF5.1 a h).trans (up2_a _ _ _ h)) ((hF5.2 1 (by decide) (by decide) (by decide) (by decide)).trans (up2_k _ _ (by decide))) rfl hS5.1 fun _ => ⟨h17, hS5, (hF5.2 7 (by decide) (by decide) (by decide) (by decide)).trans (up2_at _ _ _ _)⟩⟩
set_option maxRecDepth 20000 in
set_option maxHeartbeats 4000000 in
theorem S_readNot0 {g : GP} {d n : Nat} {J : TJ} {R : TR} {b : Nat → Nat} {z t : Nat} {c : LexS → POut} (hs : RdC g (d + 6) mX1_readComparison [.ref 64, .null, .null] n J R b z t 5 c) : RdC g (d + 7) mX1_readNot [.ref 64, .null] n J R b z t 5 (fun st => (if st.2.2.1 = 263 then flP st else c st)) := by
  intro I st sz hQ
  have hsh := hQ.sh
  have ht := hQ.tx
  have htg := text_ge ht
  have hb := hQ.bd
  show Wp g (d + 7) mX1_readNot 0 [.ref 64, .null] [] 0 0 n I J R (PostI n J R (some (.int (b2i ((if st.2.2.1 = 263 then flP st else c st)).1))) (fun I2 => RdP t I I2 5 sz ((if st.2.2.1 = 263 then flP st else c st))))
  refine r_aload_n dX1_readNot_0 rfl ?_
  refine r_getIE dX1_readNot_1 f_X1_32 (hsh.al rfl (by decide)) (Or.inl rfl) hQ.rd.2.2.1 ?_
  refine r_sipush (v := 263) dX1_readNot_4 (by decide) ?_
  refine r_zicmp_eq (b := 263)  (tgt := 15) dX1_readNot_7 (by decide) rfl (by decide) (by unfold inZ; omega) (by unfold inZ; omega) (fun h7 => ?_) (fun h7 => ?_)
  · rw [if_pos h7]
    have hne : st.2.2.1 ≠ -1 := by omega
    refine r_aload_n dX1_readNot_15 rfl ?_
    refine r_callV0I dX1_readNot_16 moX1_opens w_383 w_385 s_14 (hsh.al rfl (by decide)) cl1 rfl (Nat.le_of_ble_eq_true rfl) (Nat.le_of_ble_eq_true rfl) (S_opens0 hsh hQ.opI) ?_
    refine r_ifb_ne (tgt := 24) dX1_readNot_19 (by decide) (fun h19 => absurd h19 (by decide)) (fun h19 => ?_)
    refine r_iconst (v := 0) dX1_readNot_22 (by decide) ?_
    refine r_bret (b := false) dX1_readNot_23 rfl ?_ ?_
    · rfl
    · exact ⟨rfl, rfl, rfl, rfl, hQ.fl⟩
  · rw [if_neg h7]
    refine r_aload_n dX1_readNot_10 rfl ?_
    refine r_callV0N dX1_readNot_11 moX1_readComparison w_363 w_365 s_9 (hsh.al rfl (by decide)) cl1 rfl (Nat.le_of_ble_eq_true rfl) (Nat.le_of_ble_eq_true rfl) (hs _ _ _ hQ) (fun r n I2 J R hq => ?_)
    obtain ⟨rfl, rfl, rfl, rfl, hP⟩ := hq
    refine r_some rfl ?_
    refine r_bret (b := (c st).1) dX1_readNot_14 rfl ?_ ?_
    · rfl
    · exact ⟨rfl, rfl, rfl, rfl, hP⟩
set_option maxRecDepth 20000 in
set_option maxHeartbeats 4000000 in
theorem S_readNot1 {g : GP} {d n : Nat} {J : TJ} {R : TR} {b : Nat → Nat} {z t op : Nat} {c : LexS → POut} {f : LexS → POut} (ho : op < 5) (hg : PGd z f) (hn : RdC g (d + 6) mX1_readNot [.ref 64, .null] n J R b z t (op + 1) f) (hs : RdC g (d + 6) mX1_readComparison [.ref 64, .null, .null] n J R b z t op c) : RdC g (d + 7) mX1_readNot [.ref 64, .null] n J R b z t op (fun st => (if st.2.2.1 = 263 then ntP (f (avB b z st)) else c st)) := by
  intro I st sz hQ
  have hsh := hQ.sh
  have ht := hQ.tx
  have htg := text_ge ht
  have hb := hQ.bd
  show Wp g (d + 7) mX1_readNot 0 [.ref 64, .null] [] 0 0 n I J R (PostI n J R (some (.int (b2i ((if st.2.2.1 = 263 then ntP (f (avB b z st)) else c st)).1))) (fun I2 => RdP t I I2 op sz ((if st.2.2.1 = 263 then ntP (f (avB b z st)) else c st))))
  refine r_aload_n dX1_readNot_0 rfl ?_
  refine r_getIE dX1_readNot_1 f_X1_32 (hsh.al rfl (by decide)) (Or.inl rfl) hQ.rd.2.2.1 ?_
  refine r_sipush (v := 263) dX1_readNot_4 (by decide) ?_
  refine r_zicmp_eq (b := 263)  (tgt := 15) dX1_readNot_7 (by decide) rfl (by decide) (by unfold inZ; omega) (by unfold inZ; omega) (fun h7 => ?_) (fun h7 => ?_)
  · rw [if_pos h7]
    have hne : st.2.2.1 ≠ -1 := by omega
    refine r_aload_n dX1_readNot_15 rfl ?_
    refine r_callV0I dX1_readNot_16 moX1_opens w_383 w_385 s_14 (hsh.al rfl (by decide)) cl1 rfl (Nat.le_of_ble_eq_true rfl) (Nat.le_of_ble_eq_true rfl) (S_opens1 hsh hQ.opI ho) ?_
    refine r_ifb_ne (tgt := 24) dX1_readNot_19 (by decide) (fun h19 => ?_) (fun h19 => absurd h19 (by decide))
    refine r_aload_n dX1_readNot_24 rfl ?_
    have hQ1 := hQ.opU (op := op + 1) (by omega)
    refine r_callV0N dX1_readNot_25 moX1_advance w_258 w_260 s_0 (hsh.al rfl (by decide)) cl1 rfl (Nat.le_of_ble_eq_true rfl) (Nat.le_of_ble_eq_true rfl) (S_advance hQ1.sh hQ1.tp hQ1.str hQ1.rd.2.1 hQ1.lx.2.2.1) (fun r n I3 J R hq => ?_)
    obtain ⟨rfl, rfl, rfl, rfl, hF, hS⟩ := hq
    have hQ2 := hQ1.av hF hS
    have ha := av_ok (b := b) hQ.lx
    have hA : ∀ a, a ≠ 64 → I3 a = I a := fun a h => (hF.1 a h).trans (up2_a _ _ _ h)
    have hA1 : I3 64 1 = I 64 1 := (hF.2 1 (by decide) (by decide) (by decide) (by decide)).trans (up2_k _ _ (by decide))
    refine r_aload_n dX1_readNot_28 rfl ?_
    refine r_callV0N dX1_readNot_29 moX1_readNot w_359 w_361 s_8 (hsh.al rfl (by decide)) cl1 rfl (Nat.le_of_ble_eq_true rfl) (Nat.le_of_ble_eq_true rfl) (hn _ _ _ hQ2) (fun r n I4 J R hq => ?_)
    obtain ⟨rfl, rfl, rfl, rfl, hP4⟩ := hq
    refine r_some rfl ?_
    refine r_istore_n dX1_readNot_32 (by decide) rfl ?_
    refine r_aload_n dX1_readNot_33 rfl ?_
    refine r_dup dX1_readNot_34 rfl ?_
    refine r_getI dX1_readNot_35 f_X1_38 (hsh.al rfl (by decide)) (Or.inl rfl) ?_
    refine r_iconst (v := 1) dX1_readNot_38 (by decide) ?_
    refine r_isub dX1_readNot_39 ?_
    refine r_putI dX1_readNot_40 f_X1_38 (hsh.al rfl (by decide)) (Or.inl rfl) rfl ?_
    refine r_aload_n dX1_readNot_43 rfl ?_
    refine r_getR (b := t) dX1_readNot_44 f_X1_22 (hsh.al rfl (by decide)) (Or.inr ⟨_, rfl⟩) hQ.r2 (by omega) ?_
    refine r_bipush (v := (-8)) dX1_readNot_47 (by decide) ?_
    obtain ⟨s2, hs2, e2⟩ := hP4.2.2.1
    refine r_top (v := zI (-8)) (by decide) ?_
    refine r_callV1W dX1_readNot_49 moX4_add w_387 w_388 w_389 (hsh.t0 ht) cl4 rfl (Nat.le_of_ble_eq_true rfl) (Nat.le_of_ble_eq_true rfl) (S_addM hsh ht ((congrFun (up2_a _ _ _ (by omega)) 2).trans e2) hs2 _) ?_
    refine r_iload_n dX1_readNot_52 rfl ?_
    refine r_bret (b := (f (avB b z st)).1) dX1_readNot_53 rfl ?_ ?_
    · rfl
    · have hg3 := hg _ ha.1
      have hcap : (f (avB b z st)).1 = true → sz + (f (avB b z st)).2.2.1.length < 160 := fun h => by
        have c1 := (hg3.2.2 h).1
        have c2 := hQ.le
        have c3 := ha.2.2 hne
        have c4 := hg3.1.1
        have c5 := hQ.tp.2.1
        omega
      exact ⟨rfl, rfl, rfl, rfl, RdP.un ht hA hA1 hP4 (fun a h => up2_a _ _ _ h) (fun j h => up2_k _ _ h) (fun h => by rw [up2_at, (hP4.2.2.2.2 h).2.1]; exact op_dec op) hcap hs2 e2 rfl rfl rfl⟩
  · rw [if_neg h7]
    refine r_aload_n dX1_readNot_10 rfl ?_
    refine r_callV0N dX1_readNot_11 moX1_readComparison w_363 w_365 s_9 (hsh.al rfl (by decide)) cl1 rfl (Nat.le_of_ble_eq_true rfl) (Nat.le_of_ble_eq_true rfl) (hs _ _ _ hQ) (fun r n I2 J R hq => ?_)
    obtain ⟨rfl, rfl, rfl, rfl, hP⟩ := hq
    refine r_some rfl ?_
    refine r_bret (b := (c st).1) dX1_readNot_14 rfl ?_ ?_
    · rfl
    · exact ⟨rfl, rfl, rfl, rfl, hP⟩
def UnC (g : GP) (D : Nat) (M : MD) (ls : List Value) (n : Nat) (J : TJ) (R : TR) (b : Nat → Nat) (z t op : Nat) (f : LexS → POut) : Prop := ∀ (I : TI) (st : LexS) (sz : Nat), RdQ n I R b z t op sz st → st.2.2.1 ≠ -1 → Wp g D M 0 ls [] 0 0 n I J R (PostI n J R (some (.int (b2i (f st).1))) (fun I2 => RdP t I I2 op sz (f st)))
def negO (av : LexS → LexS) (o : Lev) (st : LexS) : POut := match o with
  | none => flP st
  | some q => ngP (q.1 (av st))
def encO (av : LexS → LexS) (o : Lev) (st : LexS) : POut := match o with
  | none => flP st
  | some q => endPB av 41 (q.2.2 (av st))
theorem oneP_eq (av : LexS → LexS) (o : Lev) (st : LexS) : onePB av o st = if st.2.2.1 = 45 then negO av o st else if st.2.2.1 = 40 then encO av o st else if st.2.2.1 = 256 then (true, av st, [nI st.2.2.2], fun _ => nI st.2.2.2) else if st.2.2.1 = 257 then (true, av st, [zI (-1 - (st.2.2.2 : Int))], fun nm => nm st.2.2.2) else flP st := rfl
set_option maxRecDepth 20000 in
set_option maxHeartbeats 4000000 in
theorem S_readOne {g : GP} {d n : Nat} {J : TJ} {R : TR} {b : Nat → Nat} {z t op : Nat} {o : Lev} (hN : UnC g (d + 6) mX1_readNegated [.ref 64, .null] n J R b z t op (negO (avB b z) o)) (hE : UnC g (d + 6) mX1_readEnclosed [.ref 64, .null] n J R b z t op (encO (avB b z) o)) : RdC g (d + 7) mX1_readOne [.ref 64] n J R b z t op (onePB (avB b z) o) := by
  intro I st sz hQ
  have hsh := hQ.sh
  have ht := hQ.tx
  have htg := text_ge ht
  have hb := hQ.bd
  rw [oneP_eq]
  have hlt : st.2.2.1 ≠ -1 → sz < 160 := fun h => by
    have c1 := hQ.le
    have c2 := hQ.lx.2.2.2.1 h
    have c3 := hQ.lx.2.2.1
    have c4 := hQ.tp.2.1
    omega
  refine r_aload_n dX1_readOne_0 rfl ?_
  refine r_getIE dX1_readOne_1 f_X1_32 (hsh.al rfl (by decide)) (Or.inl rfl) hQ.rd.2.2.1 ?_
  refine r_bipush (v := 45) dX1_readOne_4 (by decide) ?_
  refine r_zicmp_ne (b := 45)  (tgt := 14) dX1_readOne_6 (by decide) rfl (by decide) (by unfold inZ; omega) (by unfold inZ; omega) (fun h6 => ?_) (fun h6 => ?_)
  · rw [if_neg h6]
    refine r_aload_n dX1_readOne_14 rfl ?_
    refine r_getIE dX1_readOne_15 f_X1_32 (hsh.al rfl (by decide)) (Or.inl rfl) hQ.rd.2.2.1 ?_
    refine r_bipush (v := 40) dX1_readOne_18 (by decide) ?_
    refine r_zicmp_ne (b := 40)  (tgt := 28) dX1_readOne_20 (by decide) rfl (by decide) (by unfold inZ; omega) (by unfold inZ; omega) (fun h20 => ?_) (fun h20 => ?_)
    · rw [if_neg h20]
      refine r_aload_n dX1_readOne_28 rfl ?_
      refine r_getIE dX1_readOne_29 f_X1_32 (hsh.al rfl (by decide)) (Or.inl rfl) hQ.rd.2.2.1 ?_
      refine r_sipush (v := 256) dX1_readOne_32 (by decide) ?_
      refine r_zicmp_eq (b := 256)  (tgt := 50) dX1_readOne_35 (by decide) rfl (by decide) (by unfold inZ; omega) (by unfold inZ; omega) (fun h35 => ?_) (fun h35 => ?_)
      · rw [if_pos h35]
        refine r_aload_n dX1_readOne_50 rfl ?_
        refine r_getR (b := t) dX1_readOne_51 f_X1_22 (hsh.al rfl (by decide)) (Or.inr ⟨_, rfl⟩) hQ.r2 (by omega) ?_
        refine r_aload_n dX1_readOne_54 rfl ?_
        refine r_getIE dX1_readOne_55 f_X1_32 (hsh.al rfl (by decide)) (Or.inl rfl) hQ.rd.2.2.1 ?_
        refine r_sipush (v := 256) dX1_readOne_58 (by decide) ?_
        refine r_zicmp_ne (b := 256)  (tgt := 71) dX1_readOne_61 (by decide) rfl (by decide) (by unfold inZ; omega) (by unfold inZ; omega) (fun h61 => absurd h35 h61) (fun h61 => ?_)
        refine r_aload_n dX1_readOne_64 rfl ?_
        refine r_getIE dX1_readOne_65 f_X1_35 (hsh.al rfl (by decide)) (Or.inl rfl) (hQ.rd.2.2.2 (Or.inl h35)) ?_
        refine r_goto (tgt := 77) dX1_readOne_68 (by decide) ?_
        have hl := hlt (by omega)
        refine r_callV1W dX1_readOne_77 moX4_add w_387 w_388 w_389 (hsh.t0 ht) cl4 rfl (Nat.le_of_ble_eq_true rfl) (Nat.le_of_ble_eq_true rfl) (S_addM hsh ht hQ.szI hQ.z160 _) ?_
        refine r_aload_n dX1_readOne_80 rfl ?_
        refine r_callV0N dX1_readOne_81 moX1_advance w_258 w_260 s_0 (hsh.al rfl (by decide)) cl1 rfl (Nat.le_of_ble_eq_true rfl) (Nat.le_of_ble_eq_true rfl) (S_advance (b := b) (z := z) (p := st.2.1) hsh ⟨by rw [addI_o (by omega) (by omega)]; exact hQ.tp.1, hQ.tp.2.1, fun j hj => by have hx := hQ.tx; unfold isText at hx; rw [addI_o (by omega) (by omega)]; exact hQ.tp.2.2 j hj⟩ (hQ.str.fr fun a h => addI_o (by omega) (by omega)) (by rw [addI_o (by omega) (by omega)]; exact hQ.rd.2.1) hQ.lx.2.2.1) (fun r n I3 J R hq => ?_)
        obtain ⟨rfl, rfl, rfl, rfl, hF, hS⟩ := hq
        refine r_iconst (v := 1) dX1_readOne_84 (by decide) ?_
        refine r_bret (b := true) dX1_readOne_85 rfl ?_ ?_
        · rfl
        · exact ⟨rfl, rfl, rfl, rfl, RdP.leaf hQ hl hF hS⟩
      · rw [if_neg h35]
        refine r_aload_n dX1_readOne_38 rfl ?_
        refine r_getIE dX1_readOne_39 f_X1_32 (hsh.al rfl (by decide)) (Or.inl rfl) hQ.rd.2.2.1 ?_
        refine r_sipush (v := 257) dX1_readOne_42 (by decide) ?_
        refine r_zicmp_eq (b := 257)  (tgt := 50) dX1_readOne_45 (by decide) rfl (by decide) (by unfold inZ; omega) (by unfold inZ; omega) (fun h45 => ?_) (fun h45 => ?_)
        · rw [if_pos h45]
          refine r_aload_n dX1_readOne_50 rfl ?_
          refine r_getR (b := t) dX1_readOne_51 f_X1_22 (hsh.al rfl (by decide)) (Or.inr ⟨_, rfl⟩) hQ.r2 (by omega) ?_
          refine r_aload_n dX1_readOne_54 rfl ?_
          refine r_getIE dX1_readOne_55 f_X1_32 (hsh.al rfl (by decide)) (Or.inl rfl) hQ.rd.2.2.1 ?_
          refine r_sipush (v := 256) dX1_readOne_58 (by decide) ?_
          refine r_zicmp_ne (b := 256)  (tgt := 71) dX1_readOne_61 (by decide) rfl (by decide) (by unfold inZ; omega) (by unfold inZ; omega) (fun h61 => ?_) (fun h61 => absurd h61 h35)
          refine r_iconst (v := (-1)) dX1_readOne_71 (by decide) ?_
          refine r_aload_n dX1_readOne_72 rfl ?_
          refine r_getIE dX1_readOne_73 f_X1_35 (hsh.al rfl (by decide)) (Or.inl rfl) (hQ.rd.2.2.2 (Or.inr h45)) ?_
          refine r_isub dX1_readOne_76 ?_
          have hl := hlt (by omega)
          refine r_top (v := zI (-1 - (st.2.2.2 : Int))) ?_ ?_
          · have em : (-1 : Int32) = zI (-1) := by decide
            rw [em, nz]
            exact zI_sub _ _
          refine r_callV1W dX1_readOne_77 moX4_add w_387 w_388 w_389 (hsh.t0 ht) cl4 rfl (Nat.le_of_ble_eq_true rfl) (Nat.le_of_ble_eq_true rfl) (S_addM hsh ht hQ.szI hQ.z160 _) ?_
          refine r_aload_n dX1_readOne_80 rfl ?_
          refine r_callV0N dX1_readOne_81 moX1_advance w_258 w_260 s_0 (hsh.al rfl (by decide)) cl1 rfl (Nat.le_of_ble_eq_true rfl) (Nat.le_of_ble_eq_true rfl) (S_advance (b := b) (z := z) (p := st.2.1) hsh ⟨by rw [addI_o (by omega) (by omega)]; exact hQ.tp.1, hQ.tp.2.1, fun j hj => by have hx := hQ.tx; unfold isText at hx; rw [addI_o (by omega) (by omega)]; exact hQ.tp.2.2 j hj⟩ (hQ.str.fr fun a h => addI_o (by omega) (by omega)) (by rw [addI_o (by omega) (by omega)]; exact hQ.rd.2.1) hQ.lx.2.2.1) (fun r n I3 J R hq => ?_)
          obtain ⟨rfl, rfl, rfl, rfl, hF, hS⟩ := hq
          refine r_iconst (v := 1) dX1_readOne_84 (by decide) ?_
          refine r_bret (b := true) dX1_readOne_85 rfl ?_ ?_
          · rfl
          · exact ⟨rfl, rfl, rfl, rfl, RdP.leaf hQ hl hF hS⟩
        · rw [if_neg h45]
          refine r_iconst (v := 0) dX1_readOne_48 (by decide) ?_
          refine r_bret (b := false) dX1_readOne_49 rfl ?_ ?_
          · rfl
          · exact ⟨rfl, rfl, rfl, rfl, hQ.fl⟩
    · rw [if_pos h20]
      refine r_aload_n dX1_readOne_23 rfl ?_
      refine r_callV0N dX1_readOne_24 moX1_readEnclosed w_391 w_393 s_15 (hsh.al rfl (by decide)) cl1 rfl (Nat.le_of_ble_eq_true rfl) (Nat.le_of_ble_eq_true rfl) (hE _ _ _ hQ (by omega)) (fun r n I2 J R hq => ?_)
      obtain ⟨rfl, rfl, rfl, rfl, hP⟩ := hq
      refine r_some rfl ?_
      refine r_bret (b := (encO (avB b z) o st).1) dX1_readOne_27 rfl ?_ ?_
      · rfl
      · exact ⟨rfl, rfl, rfl, rfl, hP⟩
  · rw [if_pos h6]
    refine r_aload_n dX1_readOne_9 rfl ?_
    refine r_callV0N dX1_readOne_10 moX1_readNegated w_379 w_381 s_13 (hsh.al rfl (by decide)) cl1 rfl (Nat.le_of_ble_eq_true rfl) (Nat.le_of_ble_eq_true rfl) (hN _ _ _ hQ (by omega)) (fun r n I2 J R hq => ?_)
    obtain ⟨rfl, rfl, rfl, rfl, hP⟩ := hq
    refine r_some rfl ?_
    refine r_bret (b := (negO (avB b z) o st).1) dX1_readOne_13 rfl ?_ ?_
    · rfl
    · exact ⟨rfl, rfl, rfl, rfl, hP⟩
theorem S_level {g : GP} {n : Nat} {J : TJ} {R : TR} {b : Nat → Nat} {z t : Nat} : ∀ k op, op + k = 5 → ∀ d, 8 * k ≤ d → RdC g (d + 10) mX1_readOne [.ref 64] n J R b z t op (onePB (avB b z) (levB (avB b z) k)) ∧ RdC g (d + 14) mX1_readNot [.ref 64, .null] n J R b z t op (notB (avB b z) (levB (avB b z) k)) ∧ RdC g (d + 16) mX1_readEither [.ref 64, .null, .null] n J R b z t op (eitB (avB b z) (levB (avB b z) k)) := by
  have fin : ∀ (o : Lev) op d, LvOK z o → RdC g (d + 10) mX1_readOne [.ref 64] n J R b z t op (onePB (avB b z) o) → (RdC g (d + 13) mX1_readComparison [.ref 64, .null, .null] n J R b z t op (cmpB (avB b z) o) → RdC g (d + 14) mX1_readNot [.ref 64, .null] n J R b z t op (notB (avB b z) o)) → RdC g (d + 10) mX1_readOne [.ref 64] n J R b z t op (onePB (avB b z) o) ∧ RdC g (d + 14) mX1_readNot [.ref 64, .null] n J R b z t op (notB (avB b z) o) ∧ RdC g (d + 16) mX1_readEither [.ref 64, .null, .null] n J R b z t op (eitB (avB b z) o) := by
    intro o op d ho h1 h2
    have c2 := S_readTerm (d := d + 4) (onePB_gd (b := b) ho) h1
    have c3 := S_readSum (d := d + 5) (timB_gd (b := b) ho) c2
    have c4 := S_readCmp (d := d + 6) (sumPB_gd (b := b) ho) c3
    have c5 := h2 c4
    have c6 := S_readBoth (d := d + 8) (notB_gd (b := b) ho) c5
    have c7 := S_readEither (d := d + 9) (botB_gd (b := b) ho) c6
    exact ⟨h1, c5, c7⟩
  intro k
  induction k with
  | zero =>
    intro op ho d hd
    have e : op = 5 := ho
    subst e
    refine fin none 5 d (levB_ok (b := b) 0) ?_ fun c => S_readNot0 (d := d + 7) c
    exact S_readOne (d := d + 3) (o := none) (fun I st sz hQ _ => S_readNegated0 hQ) (fun I st sz hQ _ => S_readEnclosed0 hQ)
  | succ k ih =>
    intro op ho d hd
    obtain ⟨e, rfl⟩ : ∃ e, d = e + 8 := ⟨d - 8, by omega⟩
    have h1 := ih (op + 1) (by omega) (e + 6) (by omega)
    have h2 := ih (op + 1) (by omega) (e + 7) (by omega)
    have h3 := ih (op + 1) (by omega) e (by omega)
    have hk := levB_ok (b := b) (z := z) k
    refine fin (levB (avB b z) (k + 1)) op (e + 8) (levB_ok (b := b) (k + 1)) ?_ fun c => S_readNot1 (d := e + 15) (by omega) (notB_gd (b := b) hk) h2.2.1 c
    exact S_readOne (d := e + 11) (o := levB (avB b z) (k + 1)) (fun I st sz hQ hne => S_readNegated1 (d := e + 10) (by omega) (onePB_gd (b := b) hk) h1.1 hQ hne) (fun I st sz hQ hne => S_readEnclosed1 (d := e + 10) (by omega) (eitB_gd (b := b) hk) h3.2.2 hQ hne)
set_option maxRecDepth 20000 in
set_option maxHeartbeats 4000000 in
theorem S_readPart {g : GP} {d n : Nat} {J : TJ} {R : TR} {b : Nat → Nat} {z t : Nat} {I : TI} {st : LexS} {sz p : Nat} {key : Int} (hk : 258 ≤ key ∧ key ≤ 260) (hp : p < 3) (hQ : RdQ n I R b z t 0 sz st) : Wp g (d + 60) mX1_readPart 0 [.ref 64, .int (zI key), .int (nI p)] [] 0 0 n I J R (PostI n J R (some (.int (b2i (prtB b z key st).1))) (fun I2 => ∃ I3, RdP t I I3 0 sz (prtB b z key st) ∧ I2 = if (prtB b z key st).1 = true then up2 I3 (t + 2) p (nI (sz + (prtB b z key st).2.2.1.length)) else I3)) := by
  have hsh := hQ.sh
  have ht := hQ.tx
  have htg := text_ge ht
  have hb := hQ.bd
  have hE := (S_level (g := g) (n := n) (J := J) (R := R) (b := b) (z := z) (t := t) 5 0 rfl (d + 43) (by omega)).2.2
  have hgE := eitB_gd (b := b) (levB_ok (b := b) (z := z) 5)
  have ha := av_ok (b := b) hQ.lx
  by_cases hkey : st.2.2.1 = key
  · refine r_aload_n dX1_readPart_0 rfl ?_
    refine r_iload_n dX1_readPart_1 rfl ?_
    refine r_callV1N dX1_readPart_2 moX1_passes w_347 w_349 s_5 (hsh.al rfl (by decide)) cl1 rfl (Nat.le_of_ble_eq_true rfl) (Nat.le_of_ble_eq_true rfl) (S_passes1 hQ (w := key) (by unfold inZ; omega) hkey) (fun r n I3 J R hq => ?_)
    obtain ⟨rfl, rfl, rfl, rfl, hF, hS⟩ := hq
    refine r_some rfl ?_
    refine r_ifb_eq (tgt := 24) dX1_readPart_5 (by decide) (fun h5 => absurd h5 (by decide)) (fun h5 => ?_)
    refine r_aload_n dX1_readPart_8 rfl ?_
    have hQ3 := hQ.av hF hS
    refine r_callV0N dX1_readPart_9 moX1_readEither w_351 w_353 s_6 (hsh.al rfl (by decide)) cl1 rfl (Nat.le_of_ble_eq_true rfl) (Nat.le_of_ble_eq_true rfl) (hE _ _ _ hQ3) (fun r n I4 J R hq => ?_)
    obtain ⟨rfl, rfl, rfl, rfl, hP4⟩ := hq
    refine r_some rfl ?_
    refine r_ifb_eq (tgt := 24) dX1_readPart_12 (by decide) (fun h12 => ?_) (fun h12 => ?_)
    · refine r_iconst (v := 0) dX1_readPart_24 (by decide) ?_
      refine r_bret (b := false) dX1_readPart_25 rfl ?_ ?_
      · rfl
      · have e : prtB b z key st = (false, (eitB (avB b z) (levB (avB b z) 5) (avB b z st)).2.1, (eitB (avB b z) (levB (avB b z) 5) (avB b z st)).2.2.1, (eitB (avB b z) (levB (avB b z) 5) (avB b z st)).2.2.2) := by
          unfold prtB endPB
          rw [if_pos hkey, if_neg (fun h => by rw [h12] at h; exact absurd h.1 (by decide))]
        rw [e]
        refine ⟨rfl, rfl, rfl, rfl, I4, ?_, (if_neg Bool.false_ne_true).symm⟩
        exact RdP.enc ht (fun a h => hF.1 a h) (hF.2 1 (by decide) (by decide) (by decide) (by decide)) hP4 (fun a h => rfl) rfl rfl hP4.2.2.2.1 fun h => absurd h Bool.false_ne_true
    · have hQ4 := hQ3.go (by decide) (hgE _ ha.1) hP4 h12
      by_cases h59 : (eitB (avB b z) (levB (avB b z) 5) (avB b z st)).2.1.2.2.1 = 59
      · refine r_aload_n dX1_readPart_15 rfl ?_
        refine r_bipush (v := 59) dX1_readPart_16 (by decide) ?_
        refine r_top (v := zI 59) (by decide) ?_
        refine r_callV1N dX1_readPart_18 moX1_passes w_347 w_349 s_5 (hsh.al rfl (by decide)) cl1 rfl (Nat.le_of_ble_eq_true rfl) (Nat.le_of_ble_eq_true rfl) (S_passes1 hQ4 (w := 59) (by unfold inZ; omega) h59) (fun r n I5 J R hq => ?_)
        obtain ⟨rfl, rfl, rfl, rfl, hF5, hS5⟩ := hq
        refine r_some rfl ?_
        refine r_ifb_ne (tgt := 26) dX1_readPart_21 (by decide) (fun h21 => ?_) (fun h21 => absurd h21 (by decide))
        refine r_aload_n dX1_readPart_26 rfl ?_
        refine r_getR (b := t) dX1_readPart_27 f_X1_22 (hsh.al rfl (by decide)) (Or.inr ⟨_, rfl⟩) hQ.r2 (by omega) ?_
        refine r_iload_n dX1_readPart_30 rfl ?_
        refine r_callV1W dX1_readPart_31 moX4_endPart w_395 w_396 w_397 (hsh.t0 ht) cl4 rfl (Nat.le_of_ble_eq_true rfl) (Nat.le_of_ble_eq_true rfl) (S_endPart hsh ht (s := sz + (eitB (avB b z) (levB (avB b z) 5) (avB b z st)).2.2.1.length) ((congrFun (hF5.1 t (by omega)) 2).trans hQ4.szI) hp) ?_
        refine r_iconst (v := 1) dX1_readPart_34 (by decide) ?_
        refine r_bret (b := true) dX1_readPart_35 rfl ?_ ?_
        · rfl
        · have e : prtB b z key st = (true, avB b z (eitB (avB b z) (levB (avB b z) 5) (avB b z st)).2.1, (eitB (avB b z) (levB (avB b z) 5) (avB b z st)).2.2.1, (eitB (avB b z) (levB (avB b z) 5) (avB b z st)).2.2.2) := by
            unfold prtB endPB
            rw [if_pos hkey, if_pos ⟨h12, h59⟩]
          rw [e]
          refine ⟨rfl, rfl, rfl, rfl, I5, ?_, (if_pos rfl).symm⟩
          exact RdP.enc ht (fun a h => hF.1 a h) (hF.2 1 (by decide) (by decide) (by decide) (by decide)) hP4 (fun a h => hF5.1 a h) (hF5.2 1 (by decide) (by decide) (by decide) (by decide)) rfl hS5.1 fun _ => ⟨h12, hS5, (hF5.2 7 (by decide) (by decide) (by decide) (by decide)).trans hQ4.opI⟩
      · refine r_aload_n dX1_readPart_15 rfl ?_
        refine r_bipush (v := 59) dX1_readPart_16 (by decide) ?_
        refine r_top (v := zI 59) (by decide) ?_
        refine r_callV1I dX1_readPart_18 moX1_passes w_347 w_349 s_5 (hsh.al rfl (by decide)) cl1 rfl (Nat.le_of_ble_eq_true rfl) (Nat.le_of_ble_eq_true rfl) (S_passes0 hQ4 (w := 59) (by unfold inZ; omega) h59) ?_
        refine r_ifb_ne (tgt := 26) dX1_readPart_21 (by decide) (fun h21 => absurd h21 (by decide)) (fun h21 => ?_)
        refine r_iconst (v := 0) dX1_readPart_24 (by decide) ?_
        refine r_bret (b := false) dX1_readPart_25 rfl ?_ ?_
        · rfl
        · have e : prtB b z key st = (false, (eitB (avB b z) (levB (avB b z) 5) (avB b z st)).2.1, (eitB (avB b z) (levB (avB b z) 5) (avB b z st)).2.2.1, (eitB (avB b z) (levB (avB b z) 5) (avB b z st)).2.2.2) := by
            unfold prtB endPB
            rw [if_pos hkey, if_neg (fun h => h59 h.2)]
          rw [e]
          refine ⟨rfl, rfl, rfl, rfl, I4, ?_, (if_neg Bool.false_ne_true).symm⟩
          exact RdP.enc ht (fun a h => hF.1 a h) (hF.2 1 (by decide) (by decide) (by decide) (by decide)) hP4 (fun a h => rfl) rfl rfl hP4.2.2.2.1 fun h => absurd h Bool.false_ne_true
  · refine r_aload_n dX1_readPart_0 rfl ?_
    refine r_iload_n dX1_readPart_1 rfl ?_
    refine r_callV1I dX1_readPart_2 moX1_passes w_347 w_349 s_5 (hsh.al rfl (by decide)) cl1 rfl (Nat.le_of_ble_eq_true rfl) (Nat.le_of_ble_eq_true rfl) (S_passes0 hQ (w := key) (by unfold inZ; omega) hkey) ?_
    refine r_ifb_eq (tgt := 24) dX1_readPart_5 (by decide) (fun h5 => ?_) (fun h5 => absurd h5 (by decide))
    refine r_iconst (v := 0) dX1_readPart_24 (by decide) ?_
    refine r_bret (b := false) dX1_readPart_25 rfl ?_ ?_
    · rfl
    · have e : prtB b z key st = flP st := if_neg hkey
      rw [e]
      exact ⟨rfl, rfl, rfl, rfl, I, hQ.fl, (if_neg Bool.false_ne_true).symm⟩
