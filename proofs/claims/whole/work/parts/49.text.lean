/-! text: a text more, or the place of its fault -/
def ansT (b : Nat → Nat) (z : Nat) : Int := if rdOk b z = true then -1 else (rdFt b z : Nat)
theorem rdFt_le (b : Nat → Nat) (z : Nat) : rdFt b z ≤ z := by
  unfold rdFt
  split
  · exact rd0_gd.1.1
  · split
    · exact rd1_gd.1.1
    · exact rd2_gd.1.1
theorem ansT_in {b : Nat → Nat} {z : Nat} (h : z ≤ 160) : -1 ≤ ansT b z ∧ ansT b z ≤ 160 := by
  have := rdFt_le b z
  unfold ansT
  split <;> omega
def enT (a b c : Nat) : Nat → Nat := fun p => [a, a + b, a + b + c].getD p 0
theorem tv_of {mk : Nat → Int} {m0 m1 m2 : List Int32} {f0 f1 f2 : (Nat → Int32) → Int32} (h0 : ∀ j, j < m0.length → mk j = (m0.getD j 0).toInt) (h1 : ∀ j, j < m1.length → mk (m0.length + j) = (m1.getD j 0).toInt) (h2 : ∀ j, j < m2.length → mk (m0.length + m1.length + j) = (m2.getD j 0).toInt)
    (v0 : ∀ nm k, evL nm m0 k = f0 nm :: k) (v1 : ∀ nm k, evL nm m1 k = f1 nm :: k) (v2 : ∀ nm k, evL nm m2 k = f2 nm :: k) : tvN mk (enT m0.length m1.length m2.length) = fun p nm => clP p (if p = 0 then [f0 nm] else if p = 1 then [f1 nm] else if p = 2 then [f2 nm] else []) := by
  funext p nm
  unfold tvN
  match p with
  | 0 =>
    show clP 0 (evR nm mk (m0.length - 0) 0 []) = clP 0 [f0 nm]
    rw [Nat.sub_zero, evR_evL (fun j hj => by rw [Nat.zero_add]; exact h0 j hj), v0]
  | 1 =>
    show clP 1 (evR nm mk (m0.length + m1.length - m0.length) m0.length []) = clP 1 [f1 nm]
    rw [Nat.add_sub_cancel_left, evR_evL h1, v1]
  | 2 =>
    show clP 2 (evR nm mk (m0.length + m1.length + m2.length - (m0.length + m1.length)) (m0.length + m1.length) []) = clP 2 [f2 nm]
    rw [Nat.add_sub_cancel_left, evR_evL h2, v2]
  | 3 =>
    show clP 3 (evR nm mk (0 - (m0.length + m1.length + m2.length)) _ []) = clP 3 []
    rw [Nat.zero_sub]
    rfl
  | p + 4 =>
    show clP (p + 4) (evR nm mk (0 - 0) 0 []) = clP (p + 4) []
    rfl
theorem RdQ.endU {n : Nat} {I : TI} {R : TR} {b : Nat → Nat} {z t op sz p : Nat} {st : LexS} {v : Int32} (h : RdQ n I R b z t op sz st) : RdQ n (up2 I (t + 2) p v) R b z t op sz st := by
  have htg := text_ge h.tx
  have htx := h.tx
  refine ⟨h.sh, h.tx, h.r2, ⟨by rw [up2_a _ _ _ (by omega)]; exact h.tp.1, h.tp.2.1, fun j hj => by rw [up2_a _ _ _ (by omega)]; exact h.tp.2.2 j hj⟩, h.str.fr fun a ha => up2_a _ _ _ (by omega), ?_, h.lx, by rw [up2_a _ _ _ (by omega)]; exact h.opI, h.o5, by rw [up2_a _ _ _ (by omega)]; exact h.szI, h.le⟩
  obtain ⟨g1, g2, g3, g4⟩ := h.rd
  unfold RdS
  rw [up2_a _ _ _ (by omega)]
  exact ⟨g1, g2, g3, g4⟩
/-- what the reading of a text leaves -/
def RdI (n : Nat) (I : TI) (J : TJ) (R : TR) (b : Nat → Nat) (z t : Nat) : TQ := fun r n2 I2 J2 R2 => r = some (.int (zI (ansT b z))) ∧ n2 = n ∧ J2 = J ∧ R2 = up2 R 64 2 t ∧ (∀ a, a ≠ 64 → a ≠ t → a ≠ t + 1 → a ≠ t + 2 → I2 a = I a) ∧ I2 64 1 = 0 ∧ (rdOk b z = true → ∃ en, TextOK I2 t en ∧ tvN (mkA I2 t) en = rdTV b z)
theorem up2_rf {α : Type} {f f2 : Nat → Nat → α} {a k x : Nat} {v : α} (h : x ≠ a) (e : f2 x = f x) : up2 f2 a k v x = f x := by rw [up2_a _ _ _ h]; exact e
theorem S_part0 {g : GP} {d n : Nat} {I : TI} {J : TJ} {R : TR} {b : Nat → Nat} {z t sz : Nat} (hQ : RdQ n I R b z t 0 sz (lexN b z 0)) : Wp g (d + 60) mX1_readPart 0 [.ref 64, .int (zI 258), .int (nI 0)] [] 0 0 n I J R (PostI n J R (some (.int (b2i (rd0 b z).1))) (fun I2 => ∃ I3, RdP t I I3 0 sz (rd0 b z) ∧ I2 = if (rd0 b z).1 = true then up2 I3 (t + 2) 0 (nI (sz + (rd0 b z).2.2.1.length)) else I3)) := S_readPart (key := 258) (p := 0) (by decide) (by decide) hQ
theorem S_part1 {g : GP} {d n : Nat} {I : TI} {J : TJ} {R : TR} {b : Nat → Nat} {z t sz : Nat} (hQ : RdQ n I R b z t 0 sz (rd0 b z).2.1) : Wp g (d + 60) mX1_readPart 0 [.ref 64, .int (zI 259), .int (nI 1)] [] 0 0 n I J R (PostI n J R (some (.int (b2i (rd1 b z).1))) (fun I2 => ∃ I3, RdP t I I3 0 sz (rd1 b z) ∧ I2 = if (rd1 b z).1 = true then up2 I3 (t + 2) 1 (nI (sz + (rd1 b z).2.2.1.length)) else I3)) := S_readPart (key := 259) (p := 1) (by decide) (by decide) hQ
theorem S_part2 {g : GP} {d n : Nat} {I : TI} {J : TJ} {R : TR} {b : Nat → Nat} {z t sz : Nat} (hQ : RdQ n I R b z t 0 sz (rd1 b z).2.1) : Wp g (d + 60) mX1_readPart 0 [.ref 64, .int (zI 260), .int (nI 2)] [] 0 0 n I J R (PostI n J R (some (.int (b2i (rd2 b z).1))) (fun I2 => ∃ I3, RdP t I I3 0 sz (rd2 b z) ∧ I2 = if (rd2 b z).1 = true then up2 I3 (t + 2) 2 (nI (sz + (rd2 b z).2.2.1.length)) else I3)) := S_readPart (key := 260) (p := 2) (by decide) (by decide) hQ
set_option maxRecDepth 20000 in
set_option maxHeartbeats 4000000 in
theorem S_readInto {g : GP} {d n : Nat} {I : TI} {J : TJ} {R : TR} {b : Nat → Nat} {z t : Nat} (hsh : Shw n R) (ht : isText t) (hT : TpOK I b z) (hS : STR I) : Wp g (d + 61) mX1_readInto 0 [.ref 64, .ref t, .null] [] 0 0 n I J R (RdI n I J R b z t) := by
  have htg := text_ge ht
  have htx := ht
  unfold isText at htx
  have hz := hT.2.1
  have hsh := hsh.up (a := 64) (k := 2) t (by decide)
  have hI3 : ∀ a, a ≠ 64 → a ≠ t → up2 (up2 (up2 I t 2 0) 64 4 0) 64 7 0 a = I a := fun a h1 h2 => by rw [up2_a _ _ _ h1, up2_a _ _ _ h1, up2_a _ _ _ h2]
  have hI31 : up2 (up2 (up2 I t 2 0) 64 4 0) 64 7 0 64 1 = I 64 1 := by rw [up2_k _ _ (by decide), up2_k _ _ (by decide), up2_a _ _ _ (by omega)]
  have hT3 : TpOK (up2 (up2 (up2 I t 2 0) 64 4 0) 64 7 0) b z := ⟨hI31.trans hT.1, hT.2.1, fun j hj => by rw [hI3 65 (by decide) (by omega)]; exact hT.2.2 j hj⟩
  have hS3 : STR (up2 (up2 (up2 I t 2 0) 64 4 0) 64 7 0) := hS.fr fun a ha => hI3 a (by omega) (by omega)
  have hr0 := rd0_gd (b := b) (z := z)
  have hr1 := rd1_gd (b := b) (z := z)
  have hr2 := rd2_gd (b := b) (z := z)
  refine r_aload_n dX1_readInto_0 rfl ?_
  refine r_aload_n dX1_readInto_1 rfl ?_
  refine r_putR dX1_readInto_2 f_X1_22 (hsh.al rfl (by decide)) (Or.inl rfl) (Or.inr ⟨_, rfl⟩) (by omega) ?_
  refine r_aload_n dX1_readInto_5 rfl ?_
  refine r_getR (b := t) dX1_readInto_6 f_X1_22 (hsh.al rfl (by decide)) (Or.inr ⟨_, rfl⟩) (up2_at _ _ _ _) (by omega) ?_
  refine r_callV0W dX1_readInto_9 moX4_empty w_254 w_255 w_256 (hsh.t0 ht) cl4 rfl (Nat.le_of_ble_eq_true rfl) (Nat.le_of_ble_eq_true rfl) (S_emptyM hsh ht) ?_
  refine r_aload_n dX1_readInto_12 rfl ?_
  refine r_iconst (v := 0) dX1_readInto_13 (by decide) ?_
  refine r_putI dX1_readInto_14 f_X1_29 (hsh.al rfl (by decide)) (Or.inl rfl) rfl ?_
  refine r_aload_n dX1_readInto_17 rfl ?_
  refine r_iconst (v := 0) dX1_readInto_18 (by decide) ?_
  refine r_putI dX1_readInto_19 f_X1_38 (hsh.al rfl (by decide)) (Or.inl rfl) rfl ?_
  refine r_aload_n dX1_readInto_22 rfl ?_
  refine r_callV0N dX1_readInto_23 moX1_advance w_258 w_260 s_0 (hsh.al rfl (by decide)) cl1 rfl (Nat.le_of_ble_eq_true rfl) (Nat.le_of_ble_eq_true rfl) (S_advance (b := b) (z := z) (p := 0) hsh hT3 hS3 (by rw [up2_k _ _ (by decide), up2_at]; rfl) (Nat.zero_le _)) (fun r n I4 J R hq => ?_)
  obtain ⟨rfl, rfl, rfl, rfl, hF4, hS4⟩ := hq
  have hQ0 : RdQ n I4 (up2 R 64 2 t) b z t 0 0 (lexN b z 0) := ⟨hsh, ht, up2_at _ _ _ _, hT3.f hF4, hS3.f hF4, hS4, (lexN_ok (Nat.zero_le _)).1, (hF4.2 7 (by decide) (by decide) (by decide) (by decide)).trans (up2_at _ _ _ _), by decide, by rw [hF4.1 t (by omega), up2_a _ _ _ (by omega), up2_a _ _ _ (by omega), up2_at]; rfl, Nat.zero_le _⟩
  refine r_aload_n dX1_readInto_26 rfl ?_
  refine r_sipush (v := 258) dX1_readInto_27 (by decide) ?_
  refine r_top (v := zI 258) (by decide) ?_
  refine r_iconst (v := 0) dX1_readInto_30 (by decide) ?_
  refine r_top (v := nI 0) (by decide) ?_
  refine r_callV2N dX1_readInto_31 moX1_readPart w_343 w_345 s_4 (hsh.al rfl (by decide)) cl1 rfl (Nat.le_of_ble_eq_true rfl) (Nat.le_of_ble_eq_true rfl) (S_part0 hQ0) (fun r n I5x J R hq => ?_)
  obtain ⟨rfl, rfl, rfl, rfl, I5, hP5, e5⟩ := hq
  refine r_some rfl ?_
  refine r_ifb_eq (tgt := 71) dX1_readInto_34 (by decide) (fun h34 => ?_) (fun h34 => ?_)
  · rw [if_neg (by show ¬ ((rd0 b z).1 = true); rw [h34]; decide)] at e5
    subst e5
    have hno : rdOk b z = false := by unfold rdOk; rw [h34]; rfl
    have hft : rdFt b z = (rd0 b z).2.1.1 := by unfold rdFt; rw [h34, if_pos rfl]
    have ea : ansT b z = (rdFt b z : Nat) := if_neg (by rw [hno]; decide)
    refine r_iconst (v := 0) dX1_readInto_71 (by decide) ?_
    refine r_istore_n dX1_readInto_72 (by decide) rfl ?_
    refine r_aload_n dX1_readInto_73 rfl ?_
    refine r_iconst (v := 0) dX1_readInto_74 (by decide) ?_
    refine r_putI dX1_readInto_75 f_X1_15 (hsh.al rfl (by decide)) (Or.inl rfl) rfl ?_
    refine r_iload_n dX1_readInto_78 rfl ?_
    refine r_if_eq (tgt := 86) dX1_readInto_79 (by decide) (fun h79 => ?_) (fun h79 => absurd (by decide) h79)
    refine r_aload_n dX1_readInto_86 rfl ?_
    refine r_getIE dX1_readInto_87 f_X1_26 (hsh.al rfl (by decide)) (Or.inl rfl) ((up2_k _ _ (by decide)).trans hP5.2.2.2.1) ?_
    refine r_iret dX1_readInto_90 rfl ?_
    rw [← hft, nz, ← ea]
    exact ⟨rfl, rfl, rfl, rfl, fun a a1 a2 a3 a4 => by rw [up2_a _ _ _ a1, hP5.1 a a1 a2 a3]; exact (hF4.1 a a1).trans (hI3 a a1 a2), up2_at _ _ _ _, fun h => by rw [hno] at h; exact absurd h (by decide)⟩
  · rw [if_pos h34] at e5
    subst e5
    have hQ1 := (hQ0.go (by decide) hr0 hP5 h34).endU (p := 0) (v := nI (0 + (rd0 b z).2.2.1.length))
    refine r_aload_n dX1_readInto_37 rfl ?_
    refine r_sipush (v := 259) dX1_readInto_38 (by decide) ?_
    refine r_top (v := zI 259) (by decide) ?_
    refine r_iconst (v := 1) dX1_readInto_41 (by decide) ?_
    refine r_top (v := nI 1) (by decide) ?_
    refine r_callV2N dX1_readInto_42 moX1_readPart w_343 w_345 s_4 (hsh.al rfl (by decide)) cl1 rfl (Nat.le_of_ble_eq_true rfl) (Nat.le_of_ble_eq_true rfl) (S_part1 hQ1) (fun r n I6x J R hq => ?_)
    obtain ⟨rfl, rfl, rfl, rfl, I6, hP6, e6⟩ := hq
    refine r_some rfl ?_
    refine r_ifb_eq (tgt := 71) dX1_readInto_45 (by decide) (fun h45 => ?_) (fun h45 => ?_)
    · rw [if_neg (by show ¬ ((rd1 b z).1 = true); rw [h45]; decide)] at e6
      subst e6
      have hno : rdOk b z = false := by unfold rdOk; rw [h45, Bool.and_false]; rfl
      have hft : rdFt b z = (rd1 b z).2.1.1 := by unfold rdFt; rw [h34, h45, if_neg (by decide), if_pos rfl]
      have ea : ansT b z = (rdFt b z : Nat) := if_neg (by rw [hno]; decide)
      refine r_iconst (v := 0) dX1_readInto_71 (by decide) ?_
      refine r_istore_n dX1_readInto_72 (by decide) rfl ?_
      refine r_aload_n dX1_readInto_73 rfl ?_
      refine r_iconst (v := 0) dX1_readInto_74 (by decide) ?_
      refine r_putI dX1_readInto_75 f_X1_15 (hsh.al rfl (by decide)) (Or.inl rfl) rfl ?_
      refine r_iload_n dX1_readInto_78 rfl ?_
      refine r_if_eq (tgt := 86) dX1_readInto_79 (by decide) (fun h79 => ?_) (fun h79 => absurd (by decide) h79)
      refine r_aload_n dX1_readInto_86 rfl ?_
      refine r_getIE dX1_readInto_87 f_X1_26 (hsh.al rfl (by decide)) (Or.inl rfl) ((up2_k _ _ (by decide)).trans hP6.2.2.2.1) ?_
      refine r_iret dX1_readInto_90 rfl ?_
      rw [← hft, nz, ← ea]
      exact ⟨rfl, rfl, rfl, rfl, fun a a1 a2 a3 a4 => by rw [up2_a _ _ _ a1, hP6.1 a a1 a2 a3, up2_a _ _ _ a4, hP5.1 a a1 a2 a3]; exact (hF4.1 a a1).trans (hI3 a a1 a2), up2_at _ _ _ _, fun h => by rw [hno] at h; exact absurd h (by decide)⟩
    · rw [if_pos h45] at e6
      subst e6
      have hQ2 := (hQ1.go (by decide) hr1 hP6 h45).endU (p := 1) (v := nI (0 + (rd0 b z).2.2.1.length + (rd1 b z).2.2.1.length))
      refine r_aload_n dX1_readInto_48 rfl ?_
      refine r_sipush (v := 260) dX1_readInto_49 (by decide) ?_
      refine r_top (v := zI 260) (by decide) ?_
      refine r_iconst (v := 2) dX1_readInto_52 (by decide) ?_
      refine r_top (v := nI 2) (by decide) ?_
      refine r_callV2N dX1_readInto_53 moX1_readPart w_343 w_345 s_4 (hsh.al rfl (by decide)) cl1 rfl (Nat.le_of_ble_eq_true rfl) (Nat.le_of_ble_eq_true rfl) (S_part2 hQ2) (fun r n I7x J R hq => ?_)
      obtain ⟨rfl, rfl, rfl, rfl, I7, hP7, e7⟩ := hq
      refine r_some rfl ?_
      refine r_ifb_eq (tgt := 71) dX1_readInto_56 (by decide) (fun h56 => ?_) (fun h56 => ?_)
      · rw [if_neg (by show ¬ ((rd2 b z).1 = true); rw [h56]; decide)] at e7
        subst e7
        have hno : rdOk b z = false := by unfold rdOk; rw [h56, Bool.and_false]; rfl
        have hft : rdFt b z = (rd2 b z).2.1.1 := by unfold rdFt; rw [h34, h45, if_neg (by decide), if_neg (by decide)]
        have ea : ansT b z = (rdFt b z : Nat) := if_neg (by rw [hno]; decide)
        refine r_iconst (v := 0) dX1_readInto_71 (by decide) ?_
        refine r_istore_n dX1_readInto_72 (by decide) rfl ?_
        refine r_aload_n dX1_readInto_73 rfl ?_
        refine r_iconst (v := 0) dX1_readInto_74 (by decide) ?_
        refine r_putI dX1_readInto_75 f_X1_15 (hsh.al rfl (by decide)) (Or.inl rfl) rfl ?_
        refine r_iload_n dX1_readInto_78 rfl ?_
        refine r_if_eq (tgt := 86) dX1_readInto_79 (by decide) (fun h79 => ?_) (fun h79 => absurd (by decide) h79)
        refine r_aload_n dX1_readInto_86 rfl ?_
        refine r_getIE dX1_readInto_87 f_X1_26 (hsh.al rfl (by decide)) (Or.inl rfl) ((up2_k _ _ (by decide)).trans hP7.2.2.2.1) ?_
        refine r_iret dX1_readInto_90 rfl ?_
        rw [← hft, nz, ← ea]
        exact ⟨rfl, rfl, rfl, rfl, fun a a1 a2 a3 a4 => by rw [up2_a _ _ _ a1, hP7.1 a a1 a2 a3, up2_a _ _ _ a4, hP6.1 a a1 a2 a3, up2_a _ _ _ a4, hP5.1 a a1 a2 a3]; exact (hF4.1 a a1).trans (hI3 a a1 a2), up2_at _ _ _ _, fun h => by rw [hno] at h; exact absurd h (by decide)⟩
      · rw [if_pos h56] at e7
        subst e7
        have hQ3 := (hQ2.go (by decide) hr2 hP7 h56).endU (p := 2) (v := nI (0 + (rd0 b z).2.2.1.length + (rd1 b z).2.2.1.length + (rd2 b z).2.2.1.length))
        have hb3 := hQ3.bd
        refine r_aload_n dX1_readInto_59 rfl ?_
        refine r_getIE dX1_readInto_60 f_X1_32 (hsh.al rfl (by decide)) (Or.inl rfl) hQ3.rd.2.2.1 ?_
        refine r_iconst (v := (-1)) dX1_readInto_63 (by decide) ?_
        refine r_zicmp_ne (b := (-1))  (tgt := 71) dX1_readInto_64 (by decide) rfl (by decide) (by unfold inZ; omega) (by unfold inZ; omega) (fun h64 => ?_) (fun h64 => ?_)
        · have hno : rdOk b z = false := by unfold rdOk; rw [decide_eq_false h64, Bool.and_false]
          have hft : rdFt b z = (rd2 b z).2.1.1 := by unfold rdFt; rw [h34, h45, if_neg (by decide), if_neg (by decide)]
          have ea : ansT b z = (rdFt b z : Nat) := if_neg (by rw [hno]; decide)
          refine r_iconst (v := 0) dX1_readInto_71 (by decide) ?_
          refine r_istore_n dX1_readInto_72 (by decide) rfl ?_
          refine r_aload_n dX1_readInto_73 rfl ?_
          refine r_iconst (v := 0) dX1_readInto_74 (by decide) ?_
          refine r_putI dX1_readInto_75 f_X1_15 (hsh.al rfl (by decide)) (Or.inl rfl) rfl ?_
          refine r_iload_n dX1_readInto_78 rfl ?_
          refine r_if_eq (tgt := 86) dX1_readInto_79 (by decide) (fun h79 => ?_) (fun h79 => absurd (by decide) h79)
          refine r_aload_n dX1_readInto_86 rfl ?_
          refine r_getIE dX1_readInto_87 f_X1_26 (hsh.al rfl (by decide)) (Or.inl rfl) ((up2_k _ _ (by decide)).trans ((congrFun (up2_a _ _ _ (by omega)) 3).trans hP7.2.2.2.1)) ?_
          refine r_iret dX1_readInto_90 rfl ?_
          rw [← hft, nz, ← ea]
          exact ⟨rfl, rfl, rfl, rfl, fun a a1 a2 a3 a4 => by rw [up2_a _ _ _ a1, up2_a _ _ _ a4, hP7.1 a a1 a2 a3, up2_a _ _ _ a4, hP6.1 a a1 a2 a3, up2_a _ _ _ a4, hP5.1 a a1 a2 a3]; exact (hF4.1 a a1).trans (hI3 a a1 a2), up2_at _ _ _ _, fun h => by rw [hno] at h; exact absurd h (by decide)⟩
        · refine r_iconst (v := 1) dX1_readInto_67 (by decide) ?_
          refine r_goto (tgt := 72) dX1_readInto_68 (by decide) ?_
          refine r_istore_n dX1_readInto_72 (by decide) rfl ?_
          refine r_aload_n dX1_readInto_73 rfl ?_
          refine r_iconst (v := 0) dX1_readInto_74 (by decide) ?_
          refine r_putI dX1_readInto_75 f_X1_15 (hsh.al rfl (by decide)) (Or.inl rfl) rfl ?_
          refine r_iload_n dX1_readInto_78 rfl ?_
          refine r_if_eq (tgt := 86) dX1_readInto_79 (by decide) (fun h79 => absurd h79 (by decide)) (fun h79 => ?_)
          refine r_iconst (v := (-1)) dX1_readInto_82 (by decide) ?_
          refine r_goto (tgt := 90) dX1_readInto_83 (by decide) ?_
          refine r_iret dX1_readInto_90 rfl ?_
          have hok : rdOk b z = true := by unfold rdOk; rw [h34, h45, h56, decide_eq_true h64]; rfl
          have ea : ansT b z = -1 := if_pos hok
          refine ⟨by rw [ea]; rfl, rfl, rfl, rfl, fun a a1 a2 a3 a4 => by rw [up2_a _ _ _ a1, up2_a _ _ _ a4, hP7.1 a a1 a2 a3, up2_a _ _ _ a4, hP6.1 a a1 a2 a3, up2_a _ _ _ a4, hP5.1 a a1 a2 a3]; exact (hF4.1 a a1).trans (hI3 a a1 a2), up2_at _ _ _ _, fun _ => ⟨enT (rd0 b z).2.2.1.length (rd1 b z).2.2.1.length (rd2 b z).2.2.1.length, ?_, ?_⟩⟩
          · refine ⟨fun p hp => ?_, ?_, ?_, ?_⟩
            · have e3 : p = 0 ∨ p = 1 ∨ p = 2 := by omega
              rcases e3 with rfl | rfl | rfl
              · rw [up2_a _ _ _ (by omega), up2_k _ _ (by decide), hP7.1 _ (by omega) (by omega) (by omega), up2_k _ _ (by decide), hP6.1 _ (by omega) (by omega) (by omega), up2_at, Nat.zero_add]; rfl
              · rw [up2_a _ _ _ (by omega), up2_k _ _ (by decide), hP7.1 _ (by omega) (by omega) (by omega), up2_at, Nat.zero_add]; rfl
              · rw [up2_a _ _ _ (by omega), up2_at, Nat.zero_add]; rfl
            · show (rd0 b z).2.2.1.length ≤ (rd0 b z).2.2.1.length + (rd1 b z).2.2.1.length; omega
            · show (rd0 b z).2.2.1.length + (rd1 b z).2.2.1.length ≤ (rd0 b z).2.2.1.length + (rd1 b z).2.2.1.length + (rd2 b z).2.2.1.length; omega
            · show (rd0 b z).2.2.1.length + (rd1 b z).2.2.1.length + (rd2 b z).2.2.1.length ≤ 160
              have c1 := (hr0.2.2 h34).1
              have c2 := (hr1.2.2 h45).1
              have c3 := (hr2.2.2 h56).1
              have c4 := hr2.1.1
              omega
          · have k0 := hP5.2.2.2.2 h34
            have k1 := hP6.2.2.2.2 h45
            have k2 := hP7.2.2.2.2 h56
            simp only [Nat.zero_add] at k0 k1 k2
            refine tv_of (fun j hj => ?_) (fun j hj => ?_) (fun j hj => ?_) (hr0.2.2 h34).2 (hr1.2.2 h45).2 (hr2.2.2 h56).2
            · show Int32.toInt (up2 _ 64 1 _ (t + 1) j) = _
              rw [up2_a _ _ _ (by omega), up2_a _ _ _ (by omega), k2.2.2.2.1 j (by omega), up2_a _ _ _ (by omega), k1.2.2.2.1 j hj, up2_a _ _ _ (by omega), k0.2.2.2.2 j hj]
            · show Int32.toInt (up2 _ 64 1 _ (t + 1) ((rd0 b z).2.2.1.length + j)) = _
              rw [up2_a _ _ _ (by omega), up2_a _ _ _ (by omega), k2.2.2.2.1 _ (by omega), up2_a _ _ _ (by omega), k1.2.2.2.2 j hj]
            · show Int32.toInt (up2 _ 64 1 _ (t + 1) ((rd0 b z).2.2.1.length + (rd1 b z).2.2.1.length + j)) = _
              rw [up2_a _ _ _ (by omega), up2_a _ _ _ (by omega), k2.2.2.2.2 j hj]
def wText (σ : CSt) : CSt := (qdl σ, qtr σ, qsz σ, qrl σ, qhas σ, qkd σ, qkt σ, qkz σ, qkr σ, qtc σ + 1, (fun i => if i = qtc σ then rdTV (qtb σ) (qtn σ) else qtv σ i), qso σ, qzs σ, qit σ, 0, qtb σ)
def textV (σ : CSt) : Int := if 6 ≤ qtc σ then -4 else if rdOk (qtb σ) (qtn σ) = true then (qtc σ : Nat) else -100 - (rdFt (qtb σ) (qtn σ) : Nat)
def textS (σ : CSt) : CSt := if 6 ≤ qtc σ then σ else if rdOk (qtb σ) (qtn σ) = true then wText σ else wTape σ 0 (qtb σ)
theorem CS.textF {n : Nat} {I I2 : TI} {R R2 : TR} {σ : CSt} (h : CS n I R σ) (hs : Sh n R2) (h6 : qtc σ < 6) (hF : ∀ a, a ≠ 64 → a ≠ 71 + 3 * qtc σ → a ≠ 71 + 3 * qtc σ + 1 → a ≠ 71 + 3 * qtc σ + 2 → I2 a = I a) (h1 : I2 64 1 = 0) : CS n I2 R2 (wTape σ 0 (qtb σ)) := by
  have hh : ∀ a, a < 64 → I2 a = I a := fun a ha => hF a (by omega) (by omega) (by omega) (by omega)
  have hm : ∀ a, 89 ≤ a → I2 a = I a := fun a ha => hF a (by omega) (by omega) (by omega) (by omega)
  exact ⟨hs, h.k13.out fun a ha => hh a (by unfold inS at ha; omega), h.rlt, ⟨h.tx.1, fun i hi => by
            have hi : i < qtc σ := hi
            obtain ⟨en, g1, g2⟩ := h.tx.2 i hi
            have e2 : ∀ j, j < 3 → I2 (71 + 3 * i + j) = I (71 + 3 * i + j) := fun j hj => hF _ (by omega) (by omega) (by omega) (by omega)
            refine ⟨en, ⟨fun p hp => by rw [e2 2 (by decide)]; exact g1.1 p hp, g1.2⟩, ?_⟩
            show tvN (mkA I2 (71 + 3 * i)) en = qtv σ i
            rw [← g2]
            have e3 : mkA I2 (71 + 3 * i) = mkA I (71 + 3 * i) := by unfold mkA; rw [e2 1 (by decide)]
            rw [e3]⟩, ⟨fun p hp => by rw [hh _ (by decide)]; exact h.ks.1 p hp, fun p hp => by rw [hh _ (by decide)]; exact h.ks.2 p hp⟩,
          fun k hk => by rw [hh _ (by decide)]; exact h.ka k hk, fun j hj => by rw [hh _ (by decide)]; exact h.mo j hj, by rw [hh 12 (by decide)]; exact h.tcI, by rw [hh 12 (by decide)]; exact h.hasI,
          fun hb => ⟨(h.img hb).1.out fun a ha => hh a (by unfold inS at ha; omega), (h.img hb).2⟩,
          fun i hi => by
            obtain ⟨⟨s0, s1, s2⟩, hj⟩ := h.sht i hi
            have e1 : I2 (89 + 2 * i) = I (89 + 2 * i) := hm _ (by omega)
            have e2 : I2 (89 + 2 * i + 1) = I (89 + 2 * i + 1) := hm _ (by omega)
            exact ⟨⟨by rw [e1]; exact s0, by rw [e1]; exact s1, s2⟩, fun j hj2 => by rw [e2]; exact hj j hj2⟩,
          h1, Nat.zero_le _, fun j hj => absurd hj (Nat.not_lt_zero _), h.str.fr fun a ha => hh a (by omega)⟩
theorem CS.textO {n : Nat} {I2 : TI} {R2 : TR} {σ : CSt} (h : CS n I2 R2 (wTape σ 0 (qtb σ))) (h6 : qtc σ < 6) (hx : ∃ en, TextOK I2 (71 + 3 * qtc σ) en ∧ tvN (mkA I2 (71 + 3 * qtc σ)) en = rdTV (qtb σ) (qtn σ)) : CS n (up2 I2 12 6 (nI (qtc σ + 1))) R2 (wText σ) := by
  have hh : ∀ a, a ≠ 12 → up2 I2 12 6 (nI (qtc σ + 1)) a = I2 a := fun a ha => up2_a _ _ _ ha
  have rl : qrl σ < qtc σ := h.rlt
  exact ⟨h.sh, h.k13.out fun a ha => hh a (by unfold inS at ha; omega), by show qrl σ < qtc σ + 1; omega, ⟨h6, fun i hi => by
            have hi2 : i < qtc σ + 1 := hi
            by_cases e : i = qtc σ
            · subst e
              obtain ⟨en, g1, g2⟩ := hx
              refine ⟨en, ⟨fun p hp => by rw [hh _ (by omega)]; exact g1.1 p hp, g1.2⟩, ?_⟩
              show tvN (mkA (up2 I2 12 6 (nI (qtc σ + 1))) _) en = (if qtc σ = qtc σ then _ else _)
              rw [if_pos rfl, ← g2]
              have e3 : mkA (up2 I2 12 6 (nI (qtc σ + 1))) (71 + 3 * qtc σ) = mkA I2 (71 + 3 * qtc σ) := by unfold mkA; rw [hh _ (by omega)]
              rw [e3]
            · obtain ⟨en, g1, g2⟩ := h.tx.2 i (by show i < qtc σ; omega)
              refine ⟨en, ⟨fun p hp => by rw [hh _ (by omega)]; exact g1.1 p hp, g1.2⟩, ?_⟩
              show tvN (mkA (up2 I2 12 6 (nI (qtc σ + 1))) _) en = (if i = qtc σ then _ else qtv σ i)
              rw [if_neg e]
              have e3 : mkA (up2 I2 12 6 (nI (qtc σ + 1))) (71 + 3 * i) = mkA I2 (71 + 3 * i) := by unfold mkA; rw [hh _ (by omega)]
              rw [e3]
              exact g2⟩, ⟨fun p hp => by rw [hh _ (by decide)]; exact h.ks.1 p hp, fun p hp => by rw [hh _ (by decide)]; exact h.ks.2 p hp⟩,
          fun k hk => by rw [hh _ (by decide)]; exact h.ka k hk, fun j hj => by rw [hh _ (by decide)]; exact h.mo j hj, up2_at _ _ _ _, by rw [up2_k _ _ (by decide)]; exact h.hasI,
          fun hb => ⟨(h.img hb).1.out fun a ha => hh a (by unfold inS at ha; omega), by have := (h.img hb).2; show qkr σ < qtc σ + 1; have e : qkr σ < qtc σ := this; omega⟩,
          fun i hi => by
            obtain ⟨⟨s0, s1, s2⟩, hj⟩ := h.sht i hi
            have e1 := hh (89 + 2 * i) (by omega)
            have e2 := hh (89 + 2 * i + 1) (by omega)
            exact ⟨⟨by rw [e1]; exact s0, by rw [e1]; exact s1, s2⟩, fun j hj2 => by rw [e2]; exact hj j hj2⟩,
          by rw [hh 64 (by decide)]; exact h.tnI, Nat.zero_le _, fun j hj => absurd hj (Nat.not_lt_zero _), h.str.fr fun a ha => hh a (by omega)⟩
set_option maxRecDepth 20000 in
set_option maxHeartbeats 4000000 in
theorem S_text {g : GP} {d n : Nat} {I : TI} {J : TJ} {R : TR} {σ : CSt} (hC : CS n I R σ) : Wp g (d + 62) mX6_text 0 [.ref 12, .null] [] 0 0 n I J R (PB n I J R (.int (zI (textV σ))) (textS σ)) := by
  have hsh := hC.sh
  have htc := hC.tx.1
  have han := ansT_in (b := qtb σ) hC.tnB
  refine r_aload_n dX6_text_0 rfl ?_
  refine r_getIE dX6_text_1 f_X6_39 (hsh.al rfl (by decide)) (Or.inl rfl) hC.tcI ?_
  refine r_bipush (v := 6) dX6_text_4 (by decide) ?_
  refine r_nicmp_lt (b := 6)  (tgt := 12) dX6_text_6 (by decide) rfl rfl (by omega) (by omega) (fun h6 => ?_) (fun h6 => ?_)
  · have ht := isText_at (j := qtc σ) (by omega)
    refine r_aload_n dX6_text_12 rfl ?_
    refine r_getR (b := 64) dX6_text_13 f_X6_29 (hsh.al rfl (by decide)) (Or.inr ⟨_, rfl⟩) (hsh.r 12 4 64 (by decide)) (by decide) ?_
    refine r_aload_n dX6_text_16 rfl ?_
    refine r_getR (b := 69) dX6_text_17 f_X6_35 (hsh.al rfl (by decide)) (Or.inl ⟨_, rfl⟩) (hsh.r 12 5 69 (by decide)) (by decide) ?_
    refine r_aload_n dX6_text_20 rfl ?_
    refine r_getIE dX6_text_21 f_X6_39 (hsh.al rfl (by decide)) (Or.inl rfl) hC.tcI ?_
    refine r_aald (j := (qtc σ)) (b := (71 + 3 * qtc σ)) dX6_text_24 (hsh.al rfl (by decide)) (Or.inr (Or.inl rfl)) (by omega) rfl (hsh.txA (by omega)) (by omega) ?_
    refine r_callV1N dX6_text_25 moX1_readInto w_250 w_251 w_252 (hsh.al rfl (by decide)) cl1 rfl (Nat.le_of_ble_eq_true rfl) (Nat.le_of_ble_eq_true rfl) (S_readInto (b := qtb σ) (z := qtn σ) hsh.w ht ⟨hC.tnI, hC.tnB, hC.tbI⟩ hC.str) (fun r n I2 J R hq => ?_)
    obtain ⟨rfl, rfl, rfl, rfl, g1, g2, g3⟩ := hq
    have hsh2 := hsh.up (a := 64) (k := 2) (71 + 3 * qtc σ) (by decide)
    have g12 : I2 12 6 = nI (qtc σ) := by rw [g1 12 (by decide) (by omega) (by omega) (by omega)]; exact hC.tcI
    refine r_some rfl ?_
    refine r_istore_n dX6_text_28 (by decide) rfl ?_
    refine r_iload_n dX6_text_29 rfl ?_
    refine r_iconst (v := (-1)) dX6_text_30 (by decide) ?_
    refine r_zicmp_eq (b := (-1))  (tgt := 39) dX6_text_31 (by decide) rfl (by decide) (by unfold inZ; omega) (by unfold inZ; omega) (fun h31 => ?_) (fun h31 => ?_)
    · refine r_aload_n dX6_text_39 rfl ?_
      refine r_dup dX6_text_40 rfl ?_
      refine r_getIE dX6_text_41 f_X6_39 (hsh.al rfl (by decide)) (Or.inl rfl) g12 ?_
      refine r_iconst (v := 1) dX6_text_44 (by decide) ?_
      refine r_niadd (b := 1) dX6_text_45 rfl rfl ?_
      refine r_putI dX6_text_46 f_X6_39 (hsh.al rfl (by decide)) (Or.inl rfl) rfl ?_
      refine r_aload_n dX6_text_49 rfl ?_
      refine r_getIE dX6_text_50 f_X6_39 (hsh.al rfl (by decide)) (Or.inl rfl) (up2_at _ _ _ _) ?_
      refine r_iconst (v := 1) dX6_text_53 (by decide) ?_
      refine r_nisub (b := 1) dX6_text_54 rfl rfl (by omega) ?_
      refine r_iret dX6_text_55 rfl ?_
      have hok : rdOk (qtb σ) (qtn σ) = true := by
        cases hx : rdOk (qtb σ) (qtn σ)
        · have ea : ansT (qtb σ) (qtn σ) = (rdFt (qtb σ) (qtn σ) : Nat) := if_neg (by rw [hx]; decide)
          omega
        · rfl
      have e0 : textV σ = (qtc σ : Nat) := by unfold textV; rw [if_neg (by omega), if_pos hok]
      have e4 : textS σ = wText σ := by unfold textS; rw [if_neg (by omega), if_pos hok]
      rw [e0, e4, ← nz]
      exact PB.to ((hC.textF hsh2 (by omega) g1 g2).textO (by omega) (g3 hok)) fun a h1 h2 => ⟨by rw [up2_a _ _ _ (by omega)]; exact g1 a (by omega) (by omega) (by omega) (by omega), up2_a _ _ _ (by omega)⟩
    · refine r_bipush (v := (-100)) dX6_text_34 (by decide) ?_
      refine r_iload_n dX6_text_36 rfl ?_
      refine r_zisub (a := (-100)) dX6_text_37 (by decide) rfl ?_
      refine r_iret dX6_text_38 rfl ?_
      have hno : ¬ rdOk (qtb σ) (qtn σ) = true := fun h => h31 (if_pos h)
      have e0 : textV σ = -100 - (rdFt (qtb σ) (qtn σ) : Nat) := by unfold textV; rw [if_neg (by omega), if_neg hno]
      have e4 : textS σ = wTape σ 0 (qtb σ) := by unfold textS; rw [if_neg (by omega), if_neg hno]
      have ea : ansT (qtb σ) (qtn σ) = (rdFt (qtb σ) (qtn σ) : Nat) := if_neg hno
      rw [e0, e4, ea]
      exact PB.to (hC.textF hsh2 (by omega) g1 g2) fun a h1 h2 => ⟨g1 a (by omega) (by omega) (by omega) (by omega), up2_a _ _ _ (by omega)⟩
  · refine r_bipush (v := (-4)) dX6_text_9 (by decide) ?_
    refine r_iret dX6_text_11 rfl ?_
    have e0 : textV σ = -4 := if_pos (by omega)
    have e4 : textS σ = σ := if_pos (by omega)
    rw [e0, e4]
    exact PB.rf hC
