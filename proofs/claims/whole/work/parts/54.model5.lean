/-! the model: terms, sums, comparisons, the joined -/
theorem MrQ.tw {n : Nat} {I : TI} {J : TJ} {R : TR} {b : Nat → Nat} {z f op : Nat} {nm : Nat → Int32} {st : LexS} (h : MrQ n I J R b z f nm op st) (h1 : 40 ≤ st.2.2.1) (h2 : st.2.2.1 ≤ 61) : J 102 23 = lI st.2.2.1 := by
  rcases h.rd.2 with ⟨_, h3⟩ | ⟨_, _, h3, _⟩ | ⟨_, _, h3, _⟩ | ⟨_, _, _, _, h3⟩ | ⟨_, h3⟩
  · omega
  · exfalso
    rw [h3] at h1 h2
    unfold tkW at h1 h2
    split at h1
    · omega
    · split at h1 <;> omega
  · omega
  · exact h3
  · omega
theorem MrQ.end {n : Nat} {I : TI} {J : TJ} {R : TR} {b : Nat → Nat} {z f op : Nat} {nm : Nat → Int32} {st : LexS} (h : MrQ n I J R b z f nm op st) (h1 : z ≤ st.1) : st.2.2.1 = -1 := by
  have h4 := h.lx.2.2.2.1
  have h3 := h.lx.2.2.1
  omega
set_option maxRecDepth 20000 in
set_option maxHeartbeats 4000000 in
theorem S_mterm {g : GP} {d n : Nat} {R : TR} {b : Nat → Nat} {z f op : Nat} {nm : Nat → Int32} {q : LexS → POut} (hg : PGd z q) (hs : MrC g (d + 3) mX7_atom [.ref 102, .null] n R b z f nm op q) : MrC g (d + 4) mX7_term [.ref 102, .null] n R b z f nm op (fun st => loopP (avB b z) opTim q 160 (q st)) := by
  intro I J st hQ
  have hsh := hQ.sh
  have hz := hQ.tx.2.1
  have exF : ∀ F I2 J2 r v , r.1 = false → I2 102 25 = b2i true → I2 102 26 = nI r.2.1.1 → FrP I I2 → Wp g (d + 4) mX7_term 5 [.ref 102, .int v] [] 0 0 n I2 J2 R (MrP n I R b z f nm op (loopP (avB b z) opTim q F r)) := by
    intro F I2 J2 r v  h1 hb hf hF
    rw [loopP_f h1]
    refine r_aload_n dX7_term_5 rfl ?_
    refine r_bipush (v := 42) dX7_term_6 (by decide) ?_
    refine r_callV1I dX7_term_8 moX7_isSign w_1044 w_1046 s_48 (hsh.al rfl (by decide)) cl7 rfl (Nat.le_of_ble_eq_true rfl) (Nat.le_of_ble_eq_true rfl) (S_mIsSignB hsh hb) ?_
    refine r_ifb_eq (tgt := 28) dX7_term_11 (by decide) (fun h11 => ?_) (fun h11 => absurd h11 (by decide))
    refine r_iload_n dX7_term_28 rfl ?_
    refine r_iret dX7_term_29 rfl ?_
    exact ⟨rfl, rfl, hF, Or.inr ⟨h1, ⟨_, rfl⟩, hb, hf⟩⟩
  have exN : ∀ F I2 J2 r v , r.1 = true → v = r.2.2.2 nm → opTim r.2.1.2.2.1 = 0 → MrQ n I2 J2 R b z f nm op r.2.1 → FrP I I2 → Wp g (d + 4) mX7_term 5 [.ref 102, .int v] [] 0 0 n I2 J2 R (MrP n I R b z f nm op (loopP (avB b z) opTim q F r)) := by
    intro F I2 J2 r v  h1 hv h0 hQ2 hF
    subst hv
    rw [loopP_0 h0]
    have hn42 : r.2.1.2.2.1 ≠ 42 := fun e => by rw [e] at h0; exact absurd h0 (by decide)
    refine r_aload_n dX7_term_5 rfl ?_
    refine r_bipush (v := 42) dX7_term_6 (by decide) ?_
    refine r_top (v := zI 42) (by decide) ?_
    refine r_callV1I dX7_term_8 moX7_isSign w_1044 w_1046 s_48 (hsh.al rfl (by decide)) cl7 rfl (Nat.le_of_ble_eq_true rfl) (Nat.le_of_ble_eq_true rfl) (S_mIsSign (s := 42) hsh hQ2.rd hQ2.ok (by decide)) ?_
    refine r_ifb_eq (tgt := 28) dX7_term_11 (by decide) (fun h11 => ?_) (fun h11 => absurd (of_decide_eq_true h11) hn42)
    refine r_iload_n dX7_term_28 rfl ?_
    refine r_iret dX7_term_29 rfl ?_
    exact ⟨rfl, rfl, hF, Or.inl ⟨h1, rfl, hQ2⟩⟩
  have loop : ∀ F I2 J2 r v , z ≤ r.2.1.1 + F → PGr z st r → FrP I I2 → ((r.1 = true ∧ v = r.2.2.2 nm ∧ MrQ n I2 J2 R b z f nm op r.2.1) ∨ (r.1 = false ∧ I2 102 25 = b2i true ∧ I2 102 26 = nI r.2.1.1)) → Wp g (d + 4) mX7_term 5 [.ref 102, .int v] [] 0 0 n I2 J2 R (MrP n I R b z f nm op (loopP (avB b z) opTim q F r)) := by
    intro F
    induction F with
    | zero =>
      intro I2 J2 r v  hzr hr hF hc
      rcases hc with ⟨h1, hv, hQ2⟩ | ⟨h1, hb, hf⟩
      · have he := hQ2.end hzr
        exact exN 0 I2 J2 r v  h1 hv (by rw [he]; decide) hQ2 hF
      · exact exF 0 I2 J2 r v  h1 hb hf hF
    | succ F ih =>
      intro I2 J2 r v  hzr hr hF hc
      rcases hc with ⟨h1, hv, hQ2⟩ | ⟨h1, hb, hf⟩
      · by_cases h0 : opTim r.2.1.2.2.1 = 0
        · exact exN (F + 1) I2 J2 r v  h1 hv h0 hQ2 hF
        · subst hv
          have htk : r.2.1.2.2.1 = 42 := by
            unfold opTim at h0
            split at h0
            · assumption
            · exact absurd rfl h0
          have ho : opTim r.2.1.2.2.1 = -15 := by rw [htk]; decide
          rw [loopP_s h1 ho (by decide) F]
          refine r_aload_n dX7_term_5 rfl ?_
          refine r_bipush (v := 42) dX7_term_6 (by decide) ?_
          refine r_top (v := zI 42) (by decide) ?_
          refine r_callV1I dX7_term_8 moX7_isSign w_1044 w_1046 s_48 (hsh.al rfl (by decide)) cl7 rfl (Nat.le_of_ble_eq_true rfl) (Nat.le_of_ble_eq_true rfl) (S_mIsSign (s := 42) hsh hQ2.rd hQ2.ok (by decide)) ?_
          refine r_ifb_eq (tgt := 28) dX7_term_11 (by decide) (fun h11 => absurd htk (of_decide_eq_false h11)) (fun h11 => ?_)
          refine r_aload_n dX7_term_14 rfl ?_
          refine r_callV0N dX7_term_15 moX7_next w_987 w_989 s_35 (hsh.al rfl (by decide)) cl7 rfl (Nat.le_of_ble_eq_true rfl) (Nat.le_of_ble_eq_true rfl) (S_mNext (b := b) (z := z) (p := (r.2.1).2.1) hQ2.sh hQ2.tx (hQ2.here (by omega) (by omega)) hQ2.lx.2.2.1) (fun r n I3 J R hq => ?_)
          obtain ⟨rfl, rfl, rfl, hF3, hR3⟩ := hq
          have hQ3 := hQ2.nx hF3 hR3
          have ha := av_ok (b := b) hQ2.lx
          have hg3 := hg _ ha.1
          have ha2 := ha.2.2 (by omega)
          have hjg := jnP_gd (m := -15) ⟨by decide, by decide⟩ hr h1 hg3 ha2
          have hzr2 : z ≤ (q (avB b z r.2.1)).2.1.1 + F := by have := hg3.2.1; omega
          refine r_iload_n dX7_term_18 rfl ?_
          refine r_aload_n dX7_term_19 rfl ?_
          refine r_callV0N dX7_term_20 moX7_atom w_1040 w_1042 s_47 (hsh.al rfl (by decide)) cl7 rfl (Nat.le_of_ble_eq_true rfl) (Nat.le_of_ble_eq_true rfl) (hs _ _ _ hQ3) (fun r n I4 J R hq => ?_)
          obtain ⟨rfl, rfl, hF4, hc⟩ := hq
          rcases hc with ⟨h1b, rfl, hQ4⟩ | ⟨h1b, ⟨x, rfl⟩, hb, hf⟩
          · refine r_some rfl ?_
            refine r_imul dX7_term_23 ?_
            refine r_istore_n dX7_term_24 (by decide) rfl ?_
            refine r_goto (tgt := 5) dX7_term_25 (by decide) ?_
            exact ih _ _ _ _  hzr2 hjg (hF.t (hF3.p.t hF4)) (Or.inl ⟨h1b, rfl, hQ4⟩)
          · refine r_some rfl ?_
            refine r_imul dX7_term_23 ?_
            refine r_istore_n dX7_term_24 (by decide) rfl ?_
            refine r_goto (tgt := 5) dX7_term_25 (by decide) ?_
            exact ih _ _ _ _  hzr2 hjg (hF.t (hF3.p.t hF4)) (Or.inr ⟨h1b, hb, hf⟩)
      · exact exF (F + 1) I2 J2 r v  h1 hb hf hF
  refine r_aload_n dX7_term_0 rfl ?_
  refine r_callV0N dX7_term_1 moX7_atom w_1040 w_1042 s_47 (hsh.al rfl (by decide)) cl7 rfl (Nat.le_of_ble_eq_true rfl) (Nat.le_of_ble_eq_true rfl) (hs _ _ _ hQ) (fun r n I4 J R hq => ?_)
  obtain ⟨rfl, rfl, hF4, hc⟩ := hq
  rcases hc with ⟨h1b, rfl, hQ4⟩ | ⟨h1b, ⟨x, rfl⟩, hb, hf⟩
  · refine r_some rfl ?_
    refine r_istore_n dX7_term_4 (by decide) rfl ?_
    exact loop 160 _ _ _ _  (by omega) (hg st hQ.lx) hF4 (Or.inl ⟨h1b, rfl, hQ4⟩)
  · refine r_some rfl ?_
    refine r_istore_n dX7_term_4 (by decide) rfl ?_
    exact loop 160 _ _ _ _  (by omega) (hg st hQ.lx) hF4 (Or.inr ⟨h1b, hb, hf⟩)
set_option maxRecDepth 20000 in
set_option maxHeartbeats 4000000 in
theorem S_madded {g : GP} {d n : Nat} {R : TR} {b : Nat → Nat} {z f op : Nat} {nm : Nat → Int32} {q : LexS → POut} (hg : PGd z q) (hs : MrC g (d + 3) mX7_term [.ref 102, .null] n R b z f nm op q) : MrC g (d + 4) mX7_added [.ref 102, .null, .null, .null] n R b z f nm op (fun st => loopP (avB b z) opSum q 160 (q st)) := by
  intro I J st hQ
  have hsh := hQ.sh
  have hz := hQ.tx.2.1
  have exF : ∀ F I2 J2 r v x2 x3, r.1 = false → I2 102 25 = b2i true → I2 102 26 = nI r.2.1.1 → FrP I I2 → Wp g (d + 4) mX7_added 5 [.ref 102, .int v, x2, x3] [] 0 0 n I2 J2 R (MrP n I R b z f nm op (loopP (avB b z) opSum q F r)) := by
    intro F I2 J2 r v x2 x3 h1 hb hf hF
    rw [loopP_f h1]
    refine r_aload_n dX7_added_5 rfl ?_
    refine r_bipush (v := 43) dX7_added_6 (by decide) ?_
    refine r_callV1I dX7_added_8 moX7_isSign w_1044 w_1046 s_48 (hsh.al rfl (by decide)) cl7 rfl (Nat.le_of_ble_eq_true rfl) (Nat.le_of_ble_eq_true rfl) (S_mIsSignB hsh hb) ?_
    refine r_ifb_ne (tgt := 23) dX7_added_11 (by decide) (fun h11 => absurd h11 (by decide)) (fun h11 => ?_)
    refine r_aload_n dX7_added_14 rfl ?_
    refine r_bipush (v := 45) dX7_added_15 (by decide) ?_
    refine r_callV1I dX7_added_17 moX7_isSign w_1044 w_1046 s_48 (hsh.al rfl (by decide)) cl7 rfl (Nat.le_of_ble_eq_true rfl) (Nat.le_of_ble_eq_true rfl) (S_mIsSignB hsh hb) ?_
    refine r_ifb_eq (tgt := 66) dX7_added_20 (by decide) (fun h20 => ?_) (fun h20 => absurd h20 (by decide))
    refine r_iload_n dX7_added_66 rfl ?_
    refine r_iret dX7_added_67 rfl ?_
    exact ⟨rfl, rfl, hF, Or.inr ⟨h1, ⟨_, rfl⟩, hb, hf⟩⟩
  have exN : ∀ F I2 J2 r v x2 x3, r.1 = true → v = r.2.2.2 nm → opSum r.2.1.2.2.1 = 0 → MrQ n I2 J2 R b z f nm op r.2.1 → FrP I I2 → Wp g (d + 4) mX7_added 5 [.ref 102, .int v, x2, x3] [] 0 0 n I2 J2 R (MrP n I R b z f nm op (loopP (avB b z) opSum q F r)) := by
    intro F I2 J2 r v x2 x3 h1 hv h0 hQ2 hF
    subst hv
    rw [loopP_0 h0]
    have hn43 : r.2.1.2.2.1 ≠ 43 := fun e => by rw [e] at h0; exact absurd h0 (by decide)
    have hn45 : r.2.1.2.2.1 ≠ 45 := fun e => by rw [e] at h0; exact absurd h0 (by decide)
    refine r_aload_n dX7_added_5 rfl ?_
    refine r_bipush (v := 43) dX7_added_6 (by decide) ?_
    refine r_top (v := zI 43) (by decide) ?_
    refine r_callV1I dX7_added_8 moX7_isSign w_1044 w_1046 s_48 (hsh.al rfl (by decide)) cl7 rfl (Nat.le_of_ble_eq_true rfl) (Nat.le_of_ble_eq_true rfl) (S_mIsSign (s := 43) hsh hQ2.rd hQ2.ok (by decide)) ?_
    refine r_ifb_ne (tgt := 23) dX7_added_11 (by decide) (fun h11 => absurd (of_decide_eq_true h11) hn43) (fun h11 => ?_)
    refine r_aload_n dX7_added_14 rfl ?_
    refine r_bipush (v := 45) dX7_added_15 (by decide) ?_
    refine r_top (v := zI 45) (by decide) ?_
    refine r_callV1I dX7_added_17 moX7_isSign w_1044 w_1046 s_48 (hsh.al rfl (by decide)) cl7 rfl (Nat.le_of_ble_eq_true rfl) (Nat.le_of_ble_eq_true rfl) (S_mIsSign (s := 45) hsh hQ2.rd hQ2.ok (by decide)) ?_
    refine r_ifb_eq (tgt := 66) dX7_added_20 (by decide) (fun h20 => ?_) (fun h20 => absurd (of_decide_eq_true h20) hn45)
    refine r_iload_n dX7_added_66 rfl ?_
    refine r_iret dX7_added_67 rfl ?_
    exact ⟨rfl, rfl, hF, Or.inl ⟨h1, rfl, hQ2⟩⟩
  have loop : ∀ F I2 J2 r v x2 x3, z ≤ r.2.1.1 + F → PGr z st r → FrP I I2 → ((r.1 = true ∧ v = r.2.2.2 nm ∧ MrQ n I2 J2 R b z f nm op r.2.1) ∨ (r.1 = false ∧ I2 102 25 = b2i true ∧ I2 102 26 = nI r.2.1.1)) → Wp g (d + 4) mX7_added 5 [.ref 102, .int v, x2, x3] [] 0 0 n I2 J2 R (MrP n I R b z f nm op (loopP (avB b z) opSum q F r)) := by
    intro F
    induction F with
    | zero =>
      intro I2 J2 r v x2 x3 hzr hr hF hc
      rcases hc with ⟨h1, hv, hQ2⟩ | ⟨h1, hb, hf⟩
      · have he := hQ2.end hzr
        exact exN 0 I2 J2 r v x2 x3 h1 hv (by rw [he]; decide) hQ2 hF
      · exact exF 0 I2 J2 r v x2 x3 h1 hb hf hF
    | succ F ih =>
      intro I2 J2 r v x2 x3 hzr hr hF hc
      rcases hc with ⟨h1, hv, hQ2⟩ | ⟨h1, hb, hf⟩
      · by_cases h0 : opSum r.2.1.2.2.1 = 0
        · exact exN (F + 1) I2 J2 r v x2 x3 h1 hv h0 hQ2 hF
        · subst hv
          have htk : r.2.1.2.2.1 = 43 ∨ r.2.1.2.2.1 = 45 := by
            unfold opSum at h0
            split at h0
            · left; assumption
            · split at h0
              · right; assumption
              · exact absurd rfl h0
          rcases htk with htk | htk
          · have ho : opSum r.2.1.2.2.1 = -13 := by rw [htk]; decide
            rw [loopP_s h1 ho (by decide) F]
            refine r_aload_n dX7_added_5 rfl ?_
            refine r_bipush (v := 43) dX7_added_6 (by decide) ?_
            refine r_top (v := zI 43) (by decide) ?_
            refine r_callV1I dX7_added_8 moX7_isSign w_1044 w_1046 s_48 (hsh.al rfl (by decide)) cl7 rfl (Nat.le_of_ble_eq_true rfl) (Nat.le_of_ble_eq_true rfl) (S_mIsSign (s := 43) hsh hQ2.rd hQ2.ok (by decide)) ?_
            refine r_ifb_ne (tgt := 23) dX7_added_11 (by decide) (fun h11 => ?_) (fun h11 => absurd htk (of_decide_eq_false h11))
            refine r_aload_n dX7_added_23 rfl ?_
            refine r_getJ dX7_added_24 f_X7_149 (hsh.al rfl (by decide)) rfl ?_
            refine r_topL ((hQ2.tw (by omega) (by omega)).trans (by rw [htk])) ?_
            refine r_ldc2 dX7_added_27 w_1052 ?_
            refine r_lcmp dX7_added_30 ?_
            refine r_top (v := 0) (by decide) ?_
            refine r_if_ne (tgt := 38) dX7_added_31 (by decide) (fun h31 => absurd rfl h31) (fun h31 => ?_)
            refine r_iconst (v := 1) dX7_added_34 (by decide) ?_
            refine r_goto (tgt := 39) dX7_added_35 (by decide) ?_
            refine r_istore_n dX7_added_39 (by decide) rfl ?_
            refine r_aload_n dX7_added_40 rfl ?_
            refine r_callV0N dX7_added_41 moX7_next w_987 w_989 s_35 (hsh.al rfl (by decide)) cl7 rfl (Nat.le_of_ble_eq_true rfl) (Nat.le_of_ble_eq_true rfl) (S_mNext (b := b) (z := z) (p := (r.2.1).2.1) hQ2.sh hQ2.tx (hQ2.here (by omega) (by omega)) hQ2.lx.2.2.1) (fun r n I3 J R hq => ?_)
            obtain ⟨rfl, rfl, rfl, hF3, hR3⟩ := hq
            have hQ3 := hQ2.nx hF3 hR3
            have ha := av_ok (b := b) hQ2.lx
            have hg3 := hg _ ha.1
            have ha2 := ha.2.2 (by omega)
            have hjg := jnP_gd (m := -13) ⟨by decide, by decide⟩ hr h1 hg3 ha2
            have hzr2 : z ≤ (q (avB b z r.2.1)).2.1.1 + F := by have := hg3.2.1; omega
            refine r_aload_n dX7_added_44 rfl ?_
            refine r_callV0N dX7_added_45 moX7_term w_1036 w_1038 s_46 (hsh.al rfl (by decide)) cl7 rfl (Nat.le_of_ble_eq_true rfl) (Nat.le_of_ble_eq_true rfl) (hs _ _ _ hQ3) (fun r n I4 J R hq => ?_)
            obtain ⟨rfl, rfl, hF4, hc⟩ := hq
            rcases hc with ⟨h1b, rfl, hQ4⟩ | ⟨h1b, ⟨x, rfl⟩, hb, hf⟩
            · refine r_some rfl ?_
              refine r_istore_n dX7_added_48 (by decide) rfl ?_
              refine r_iload_n dX7_added_49 rfl ?_
              refine r_if_eq (tgt := 59) dX7_added_50 (by decide) (fun h50 => absurd h50 (by decide)) (fun h50 => ?_)
              refine r_iload_n dX7_added_53 rfl ?_
              refine r_iload_n dX7_added_54 rfl ?_
              refine r_iadd dX7_added_55 ?_
              refine r_goto (tgt := 62) dX7_added_56 (by decide) ?_
              refine r_istore_n dX7_added_62 (by decide) rfl ?_
              refine r_goto (tgt := 5) dX7_added_63 (by decide) ?_
              exact ih _ _ _ _ _ _ hzr2 hjg (hF.t (hF3.p.t hF4)) (Or.inl ⟨h1b, rfl, hQ4⟩)
            · refine r_some rfl ?_
              refine r_istore_n dX7_added_48 (by decide) rfl ?_
              refine r_iload_n dX7_added_49 rfl ?_
              refine r_if_eq (tgt := 59) dX7_added_50 (by decide) (fun h50 => absurd h50 (by decide)) (fun h50 => ?_)
              refine r_iload_n dX7_added_53 rfl ?_
              refine r_iload_n dX7_added_54 rfl ?_
              refine r_iadd dX7_added_55 ?_
              refine r_goto (tgt := 62) dX7_added_56 (by decide) ?_
              refine r_istore_n dX7_added_62 (by decide) rfl ?_
              refine r_goto (tgt := 5) dX7_added_63 (by decide) ?_
              exact ih _ _ _ _ _ _ hzr2 hjg (hF.t (hF3.p.t hF4)) (Or.inr ⟨h1b, hb, hf⟩)
          · have ho : opSum r.2.1.2.2.1 = -14 := by rw [htk]; decide
            rw [loopP_s h1 ho (by decide) F]
            refine r_aload_n dX7_added_5 rfl ?_
            refine r_bipush (v := 43) dX7_added_6 (by decide) ?_
            refine r_top (v := zI 43) (by decide) ?_
            refine r_callV1I dX7_added_8 moX7_isSign w_1044 w_1046 s_48 (hsh.al rfl (by decide)) cl7 rfl (Nat.le_of_ble_eq_true rfl) (Nat.le_of_ble_eq_true rfl) (S_mIsSign (s := 43) hsh hQ2.rd hQ2.ok (by decide)) ?_
            refine r_ifb_ne (tgt := 23) dX7_added_11 (by decide) (fun h11 => absurd (of_decide_eq_true h11) (by omega)) (fun h11 => ?_)
            refine r_aload_n dX7_added_14 rfl ?_
            refine r_bipush (v := 45) dX7_added_15 (by decide) ?_
            refine r_top (v := zI 45) (by decide) ?_
            refine r_callV1I dX7_added_17 moX7_isSign w_1044 w_1046 s_48 (hsh.al rfl (by decide)) cl7 rfl (Nat.le_of_ble_eq_true rfl) (Nat.le_of_ble_eq_true rfl) (S_mIsSign (s := 45) hsh hQ2.rd hQ2.ok (by decide)) ?_
            refine r_ifb_eq (tgt := 66) dX7_added_20 (by decide) (fun h20 => absurd htk (of_decide_eq_false h20)) (fun h20 => ?_)
            refine r_aload_n dX7_added_23 rfl ?_
            refine r_getJ dX7_added_24 f_X7_149 (hsh.al rfl (by decide)) rfl ?_
            refine r_topL ((hQ2.tw (by omega) (by omega)).trans (by rw [htk])) ?_
            refine r_ldc2 dX7_added_27 w_1052 ?_
            refine r_lcmp dX7_added_30 ?_
            refine r_top (v := 1) (by decide) ?_
            refine r_if_ne (tgt := 38) dX7_added_31 (by decide) (fun h31 => ?_) (fun h31 => absurd h31 (by decide))
            refine r_iconst (v := 0) dX7_added_38 (by decide) ?_
            refine r_istore_n dX7_added_39 (by decide) rfl ?_
            refine r_aload_n dX7_added_40 rfl ?_
            refine r_callV0N dX7_added_41 moX7_next w_987 w_989 s_35 (hsh.al rfl (by decide)) cl7 rfl (Nat.le_of_ble_eq_true rfl) (Nat.le_of_ble_eq_true rfl) (S_mNext (b := b) (z := z) (p := (r.2.1).2.1) hQ2.sh hQ2.tx (hQ2.here (by omega) (by omega)) hQ2.lx.2.2.1) (fun r n I3 J R hq => ?_)
            obtain ⟨rfl, rfl, rfl, hF3, hR3⟩ := hq
            have hQ3 := hQ2.nx hF3 hR3
            have ha := av_ok (b := b) hQ2.lx
            have hg3 := hg _ ha.1
            have ha2 := ha.2.2 (by omega)
            have hjg := jnP_gd (m := -14) ⟨by decide, by decide⟩ hr h1 hg3 ha2
            have hzr2 : z ≤ (q (avB b z r.2.1)).2.1.1 + F := by have := hg3.2.1; omega
            refine r_aload_n dX7_added_44 rfl ?_
            refine r_callV0N dX7_added_45 moX7_term w_1036 w_1038 s_46 (hsh.al rfl (by decide)) cl7 rfl (Nat.le_of_ble_eq_true rfl) (Nat.le_of_ble_eq_true rfl) (hs _ _ _ hQ3) (fun r n I4 J R hq => ?_)
            obtain ⟨rfl, rfl, hF4, hc⟩ := hq
            rcases hc with ⟨h1b, rfl, hQ4⟩ | ⟨h1b, ⟨x, rfl⟩, hb, hf⟩
            · refine r_some rfl ?_
              refine r_istore_n dX7_added_48 (by decide) rfl ?_
              refine r_iload_n dX7_added_49 rfl ?_
              refine r_if_eq (tgt := 59) dX7_added_50 (by decide) (fun h50 => ?_) (fun h50 => absurd (by decide) h50)
              refine r_iload_n dX7_added_59 rfl ?_
              refine r_iload_n dX7_added_60 rfl ?_
              refine r_isub dX7_added_61 ?_
              refine r_istore_n dX7_added_62 (by decide) rfl ?_
              refine r_goto (tgt := 5) dX7_added_63 (by decide) ?_
              exact ih _ _ _ _ _ _ hzr2 hjg (hF.t (hF3.p.t hF4)) (Or.inl ⟨h1b, rfl, hQ4⟩)
            · refine r_some rfl ?_
              refine r_istore_n dX7_added_48 (by decide) rfl ?_
              refine r_iload_n dX7_added_49 rfl ?_
              refine r_if_eq (tgt := 59) dX7_added_50 (by decide) (fun h50 => ?_) (fun h50 => absurd (by decide) h50)
              refine r_iload_n dX7_added_59 rfl ?_
              refine r_iload_n dX7_added_60 rfl ?_
              refine r_isub dX7_added_61 ?_
              refine r_istore_n dX7_added_62 (by decide) rfl ?_
              refine r_goto (tgt := 5) dX7_added_63 (by decide) ?_
              exact ih _ _ _ _ _ _ hzr2 hjg (hF.t (hF3.p.t hF4)) (Or.inr ⟨h1b, hb, hf⟩)
      · exact exF (F + 1) I2 J2 r v x2 x3 h1 hb hf hF
  refine r_aload_n dX7_added_0 rfl ?_
  refine r_callV0N dX7_added_1 moX7_term w_1036 w_1038 s_46 (hsh.al rfl (by decide)) cl7 rfl (Nat.le_of_ble_eq_true rfl) (Nat.le_of_ble_eq_true rfl) (hs _ _ _ hQ) (fun r n I4 J R hq => ?_)
  obtain ⟨rfl, rfl, hF4, hc⟩ := hq
  rcases hc with ⟨h1b, rfl, hQ4⟩ | ⟨h1b, ⟨x, rfl⟩, hb, hf⟩
  · refine r_some rfl ?_
    refine r_istore_n dX7_added_4 (by decide) rfl ?_
    exact loop 160 _ _ _ _ _ _ (by omega) (hg st hQ.lx) hF4 (Or.inl ⟨h1b, rfl, hQ4⟩)
  · refine r_some rfl ?_
    refine r_istore_n dX7_added_4 (by decide) rfl ?_
    exact loop 160 _ _ _ _ _ _ (by omega) (hg st hQ.lx) hF4 (Or.inr ⟨h1b, hb, hf⟩)
set_option maxRecDepth 20000 in
set_option maxHeartbeats 4000000 in
theorem S_mboth {g : GP} {d n : Nat} {R : TR} {b : Nat → Nat} {z f op : Nat} {nm : Nat → Int32} {q : LexS → POut} (hg : PGd z q) (hs : MrC g (d + 3) mX7_not [.ref 102, .null, .null, .null] n R b z f nm op q) : MrC g (d + 4) mX7_both [.ref 102, .null, .null] n R b z f nm op (fun st => loopP (avB b z) opAnd q 160 (q st)) := by
  intro I J st hQ
  have hsh := hQ.sh
  have hz := hQ.tx.2.1
  have exF : ∀ F I2 J2 r v x2, r.1 = false → I2 102 25 = b2i true → I2 102 26 = nI r.2.1.1 → FrP I I2 → Wp g (d + 4) mX7_both 5 [.ref 102, .int v, x2] [] 0 0 n I2 J2 R (MrP n I R b z f nm op (loopP (avB b z) opAnd q F r)) := by
    intro F I2 J2 r v x2 h1 hb hf hF
    rw [loopP_f h1]
    refine r_aload_n dX7_both_5 rfl ?_
    refine r_bipush (v := 97) dX7_both_6 (by decide) ?_
    refine r_bipush (v := 110) dX7_both_8 (by decide) ?_
    refine r_bipush (v := 100) dX7_both_10 (by decide) ?_
    refine r_iconst (v := 0) dX7_both_12 (by decide) ?_
    refine r_iconst (v := 0) dX7_both_13 (by decide) ?_
    refine r_iconst (v := 0) dX7_both_14 (by decide) ?_
    refine r_iconst (v := 0) dX7_both_15 (by decide) ?_
    refine r_iconst (v := 0) dX7_both_16 (by decide) ?_
    refine r_callV8I dX7_both_17 moX7_isWord w_1000 w_1002 s_37 (hsh.al rfl (by decide)) cl7 rfl (Nat.le_of_ble_eq_true rfl) (Nat.le_of_ble_eq_true rfl) (S_mIsWordB hsh hb) ?_
    refine r_ifb_eq (tgt := 49) dX7_both_20 (by decide) (fun h20 => ?_) (fun h20 => absurd h20 (by decide))
    refine r_iload_n dX7_both_49 rfl ?_
    refine r_iret dX7_both_50 rfl ?_
    exact ⟨rfl, rfl, hF, Or.inr ⟨h1, ⟨_, rfl⟩, hb, hf⟩⟩
  have exN : ∀ F I2 J2 r v x2, r.1 = true → v = r.2.2.2 nm → opAnd r.2.1.2.2.1 = 0 → MrQ n I2 J2 R b z f nm op r.2.1 → FrP I I2 → Wp g (d + 4) mX7_both 5 [.ref 102, .int v, x2] [] 0 0 n I2 J2 R (MrP n I R b z f nm op (loopP (avB b z) opAnd q F r)) := by
    intro F I2 J2 r v x2 h1 hv h0 hQ2 hF
    subst hv
    rw [loopP_0 h0]
    have hn262 : r.2.1.2.2.1 ≠ 262 := fun e => by rw [e] at h0; exact absurd h0 (by decide)
    refine r_aload_n dX7_both_5 rfl ?_
    refine r_bipush (v := 97) dX7_both_6 (by decide) ?_
    refine r_bipush (v := 110) dX7_both_8 (by decide) ?_
    refine r_bipush (v := 100) dX7_both_10 (by decide) ?_
    refine r_iconst (v := 0) dX7_both_12 (by decide) ?_
    refine r_iconst (v := 0) dX7_both_13 (by decide) ?_
    refine r_iconst (v := 0) dX7_both_14 (by decide) ?_
    refine r_iconst (v := 0) dX7_both_15 (by decide) ?_
    refine r_iconst (v := 0) dX7_both_16 (by decide) ?_
    refine r_callV8I dX7_both_17 moX7_isWord w_1000 w_1002 s_37 (hsh.al rfl (by decide)) cl7 rfl (Nat.le_of_ble_eq_true rfl) (Nat.le_of_ble_eq_true rfl) (S_mIsWord (j := 10) hsh hQ2.tx hQ2.rd hQ2.lx hQ2.ok (by decide) rfl rfl rfl rfl rfl rfl rfl rfl) ?_
    refine r_ifb_eq (tgt := 49) dX7_both_20 (by decide) (fun h20 => ?_) (fun h20 => absurd (of_decide_eq_true h20) (fun e => hn262 ((wcd_k hQ2.lx (by decide) (by decide)).mp e)))
    refine r_iload_n dX7_both_49 rfl ?_
    refine r_iret dX7_both_50 rfl ?_
    exact ⟨rfl, rfl, hF, Or.inl ⟨h1, rfl, hQ2⟩⟩
  have loop : ∀ F I2 J2 r v x2, z ≤ r.2.1.1 + F → PGr z st r → FrP I I2 → ((r.1 = true ∧ v = r.2.2.2 nm ∧ MrQ n I2 J2 R b z f nm op r.2.1) ∨ (r.1 = false ∧ I2 102 25 = b2i true ∧ I2 102 26 = nI r.2.1.1)) → Wp g (d + 4) mX7_both 5 [.ref 102, .int v, x2] [] 0 0 n I2 J2 R (MrP n I R b z f nm op (loopP (avB b z) opAnd q F r)) := by
    intro F
    induction F with
    | zero =>
      intro I2 J2 r v x2 hzr hr hF hc
      rcases hc with ⟨h1, hv, hQ2⟩ | ⟨h1, hb, hf⟩
      · have he := hQ2.end hzr
        exact exN 0 I2 J2 r v x2 h1 hv (by rw [he]; decide) hQ2 hF
      · exact exF 0 I2 J2 r v x2 h1 hb hf hF
    | succ F ih =>
      intro I2 J2 r v x2 hzr hr hF hc
      rcases hc with ⟨h1, hv, hQ2⟩ | ⟨h1, hb, hf⟩
      · by_cases h0 : opAnd r.2.1.2.2.1 = 0
        · exact exN (F + 1) I2 J2 r v x2 h1 hv h0 hQ2 hF
        · subst hv
          have htk : r.2.1.2.2.1 = 262 := by
            unfold opAnd at h0
            split at h0
            · assumption
            · exact absurd rfl h0
          have ho : opAnd r.2.1.2.2.1 = -10 := by rw [htk]; decide
          rw [loopP_s h1 ho (by decide) F]
          refine r_aload_n dX7_both_5 rfl ?_
          refine r_bipush (v := 97) dX7_both_6 (by decide) ?_
          refine r_bipush (v := 110) dX7_both_8 (by decide) ?_
          refine r_bipush (v := 100) dX7_both_10 (by decide) ?_
          refine r_iconst (v := 0) dX7_both_12 (by decide) ?_
          refine r_iconst (v := 0) dX7_both_13 (by decide) ?_
          refine r_iconst (v := 0) dX7_both_14 (by decide) ?_
          refine r_iconst (v := 0) dX7_both_15 (by decide) ?_
          refine r_iconst (v := 0) dX7_both_16 (by decide) ?_
          refine r_callV8I dX7_both_17 moX7_isWord w_1000 w_1002 s_37 (hsh.al rfl (by decide)) cl7 rfl (Nat.le_of_ble_eq_true rfl) (Nat.le_of_ble_eq_true rfl) (S_mIsWord (j := 10) hsh hQ2.tx hQ2.rd hQ2.lx hQ2.ok (by decide) rfl rfl rfl rfl rfl rfl rfl rfl) ?_
          refine r_ifb_eq (tgt := 49) dX7_both_20 (by decide) (fun h20 => absurd ((wcd_k hQ2.lx (by decide) (by decide)).mpr htk) (of_decide_eq_false h20)) (fun h20 => ?_)
          refine r_aload_n dX7_both_23 rfl ?_
          refine r_callV0N dX7_both_24 moX7_next w_987 w_989 s_35 (hsh.al rfl (by decide)) cl7 rfl (Nat.le_of_ble_eq_true rfl) (Nat.le_of_ble_eq_true rfl) (S_mNext (b := b) (z := z) (p := (r.2.1).2.1) hQ2.sh hQ2.tx (hQ2.here (by omega) (by omega)) hQ2.lx.2.2.1) (fun r n I3 J R hq => ?_)
          obtain ⟨rfl, rfl, rfl, hF3, hR3⟩ := hq
          have hQ3 := hQ2.nx hF3 hR3
          have ha := av_ok (b := b) hQ2.lx
          have hg3 := hg _ ha.1
          have ha2 := ha.2.2 (by omega)
          have hjg := jnP_gd (m := -10) ⟨by decide, by decide⟩ hr h1 hg3 ha2
          have hzr2 : z ≤ (q (avB b z r.2.1)).2.1.1 + F := by have := hg3.2.1; omega
          refine r_aload_n dX7_both_27 rfl ?_
          refine r_callV0N dX7_both_28 moX7_not w_1024 w_1026 s_43 (hsh.al rfl (by decide)) cl7 rfl (Nat.le_of_ble_eq_true rfl) (Nat.le_of_ble_eq_true rfl) (hs _ _ _ hQ3) (fun r n I4 J R hq => ?_)
          obtain ⟨rfl, rfl, hF4, hc⟩ := hq
          rcases hc with ⟨h1b, rfl, hQ4⟩ | ⟨h1b, ⟨x, rfl⟩, hb, hf⟩
          · refine r_some rfl ?_
            refine r_istore_n dX7_both_31 (by decide) rfl ?_
            refine r_iload_n dX7_both_32 rfl ?_
            refine r_if_eq (tgt := 44) dX7_both_33 (by decide) (fun h33 => ?_) (fun h33 => ?_)
            · refine r_iconst (v := 0) dX7_both_44 (by decide) ?_
              refine r_istore_n dX7_both_45 (by decide) rfl ?_
              refine r_goto (tgt := 5) dX7_both_46 (by decide) ?_
              exact ih _ _ _ _ _ hzr2 hjg (hF.t (hF3.p.t hF4)) (Or.inl ⟨h1b, (by show (0 : Int32) = b2i (decide (_ ≠ 0) && decide (_ ≠ 0)); rw [decide_eq_false (fun e => e h33)]; rfl), hQ4⟩)
            · refine r_iload_n dX7_both_36 rfl ?_
              refine r_if_eq (tgt := 44) dX7_both_37 (by decide) (fun h37 => ?_) (fun h37 => ?_)
              · refine r_iconst (v := 0) dX7_both_44 (by decide) ?_
                refine r_istore_n dX7_both_45 (by decide) rfl ?_
                refine r_goto (tgt := 5) dX7_both_46 (by decide) ?_
                exact ih _ _ _ _ _ hzr2 hjg (hF.t (hF3.p.t hF4)) (Or.inl ⟨h1b, (by show (0 : Int32) = b2i (decide (_ ≠ 0) && decide (_ ≠ 0)); rw [decide_eq_false (p := (q (avB b z r.2.1)).2.2.2 nm ≠ 0) (fun e => e h37), Bool.and_false]; rfl), hQ4⟩)
              · refine r_iconst (v := 1) dX7_both_40 (by decide) ?_
                refine r_goto (tgt := 45) dX7_both_41 (by decide) ?_
                refine r_istore_n dX7_both_45 (by decide) rfl ?_
                refine r_goto (tgt := 5) dX7_both_46 (by decide) ?_
                exact ih _ _ _ _ _ hzr2 hjg (hF.t (hF3.p.t hF4)) (Or.inl ⟨h1b, (by show (1 : Int32) = b2i (decide (_ ≠ 0) && decide (_ ≠ 0)); rw [decide_eq_true h33, decide_eq_true h37]; rfl), hQ4⟩)
          · refine r_some rfl ?_
            refine r_istore_n dX7_both_31 (by decide) rfl ?_
            refine r_iload_n dX7_both_32 rfl ?_
            refine r_if_eq (tgt := 44) dX7_both_33 (by decide) (fun h33 => ?_) (fun h33 => ?_)
            · refine r_iconst (v := 0) dX7_both_44 (by decide) ?_
              refine r_istore_n dX7_both_45 (by decide) rfl ?_
              refine r_goto (tgt := 5) dX7_both_46 (by decide) ?_
              exact ih _ _ _ _ _ hzr2 hjg (hF.t (hF3.p.t hF4)) (Or.inr ⟨h1b, hb, hf⟩)
            · refine r_iload_n dX7_both_36 rfl ?_
              refine r_if_eq (tgt := 44) dX7_both_37 (by decide) (fun h37 => ?_) (fun h37 => ?_)
              · refine r_iconst (v := 0) dX7_both_44 (by decide) ?_
                refine r_istore_n dX7_both_45 (by decide) rfl ?_
                refine r_goto (tgt := 5) dX7_both_46 (by decide) ?_
                exact ih _ _ _ _ _ hzr2 hjg (hF.t (hF3.p.t hF4)) (Or.inr ⟨h1b, hb, hf⟩)
              · refine r_iconst (v := 1) dX7_both_40 (by decide) ?_
                refine r_goto (tgt := 45) dX7_both_41 (by decide) ?_
                refine r_istore_n dX7_both_45 (by decide) rfl ?_
                refine r_goto (tgt := 5) dX7_both_46 (by decide) ?_
                exact ih _ _ _ _ _ hzr2 hjg (hF.t (hF3.p.t hF4)) (Or.inr ⟨h1b, hb, hf⟩)
      · exact exF (F + 1) I2 J2 r v x2 h1 hb hf hF
  refine r_aload_n dX7_both_0 rfl ?_
  refine r_callV0N dX7_both_1 moX7_not w_1024 w_1026 s_43 (hsh.al rfl (by decide)) cl7 rfl (Nat.le_of_ble_eq_true rfl) (Nat.le_of_ble_eq_true rfl) (hs _ _ _ hQ) (fun r n I4 J R hq => ?_)
  obtain ⟨rfl, rfl, hF4, hc⟩ := hq
  rcases hc with ⟨h1b, rfl, hQ4⟩ | ⟨h1b, ⟨x, rfl⟩, hb, hf⟩
  · refine r_some rfl ?_
    refine r_istore_n dX7_both_4 (by decide) rfl ?_
    exact loop 160 _ _ _ _ _ (by omega) (hg st hQ.lx) hF4 (Or.inl ⟨h1b, rfl, hQ4⟩)
  · refine r_some rfl ?_
    refine r_istore_n dX7_both_4 (by decide) rfl ?_
    exact loop 160 _ _ _ _ _ (by omega) (hg st hQ.lx) hF4 (Or.inr ⟨h1b, hb, hf⟩)
set_option maxRecDepth 20000 in
set_option maxHeartbeats 4000000 in
theorem S_meither {g : GP} {d n : Nat} {R : TR} {b : Nat → Nat} {z f op : Nat} {nm : Nat → Int32} {q : LexS → POut} (hg : PGd z q) (hs : MrC g (d + 3) mX7_both [.ref 102, .null, .null] n R b z f nm op q) : MrC g (d + 4) mX7_either [.ref 102, .null, .null] n R b z f nm op (fun st => loopP (avB b z) opOr q 160 (q st)) := by
  intro I J st hQ
  have hsh := hQ.sh
  have hz := hQ.tx.2.1
  have exF : ∀ F I2 J2 r v x2, r.1 = false → I2 102 25 = b2i true → I2 102 26 = nI r.2.1.1 → FrP I I2 → Wp g (d + 4) mX7_either 5 [.ref 102, .int v, x2] [] 0 0 n I2 J2 R (MrP n I R b z f nm op (loopP (avB b z) opOr q F r)) := by
    intro F I2 J2 r v x2 h1 hb hf hF
    rw [loopP_f h1]
    refine r_aload_n dX7_either_5 rfl ?_
    refine r_bipush (v := 111) dX7_either_6 (by decide) ?_
    refine r_bipush (v := 114) dX7_either_8 (by decide) ?_
    refine r_iconst (v := 0) dX7_either_10 (by decide) ?_
    refine r_iconst (v := 0) dX7_either_11 (by decide) ?_
    refine r_iconst (v := 0) dX7_either_12 (by decide) ?_
    refine r_iconst (v := 0) dX7_either_13 (by decide) ?_
    refine r_iconst (v := 0) dX7_either_14 (by decide) ?_
    refine r_iconst (v := 0) dX7_either_15 (by decide) ?_
    refine r_callV8I dX7_either_16 moX7_isWord w_1000 w_1002 s_37 (hsh.al rfl (by decide)) cl7 rfl (Nat.le_of_ble_eq_true rfl) (Nat.le_of_ble_eq_true rfl) (S_mIsWordB hsh hb) ?_
    refine r_ifb_eq (tgt := 48) dX7_either_19 (by decide) (fun h19 => ?_) (fun h19 => absurd h19 (by decide))
    refine r_iload_n dX7_either_48 rfl ?_
    refine r_iret dX7_either_49 rfl ?_
    exact ⟨rfl, rfl, hF, Or.inr ⟨h1, ⟨_, rfl⟩, hb, hf⟩⟩
  have exN : ∀ F I2 J2 r v x2, r.1 = true → v = r.2.2.2 nm → opOr r.2.1.2.2.1 = 0 → MrQ n I2 J2 R b z f nm op r.2.1 → FrP I I2 → Wp g (d + 4) mX7_either 5 [.ref 102, .int v, x2] [] 0 0 n I2 J2 R (MrP n I R b z f nm op (loopP (avB b z) opOr q F r)) := by
    intro F I2 J2 r v x2 h1 hv h0 hQ2 hF
    subst hv
    rw [loopP_0 h0]
    have hn261 : r.2.1.2.2.1 ≠ 261 := fun e => by rw [e] at h0; exact absurd h0 (by decide)
    refine r_aload_n dX7_either_5 rfl ?_
    refine r_bipush (v := 111) dX7_either_6 (by decide) ?_
    refine r_bipush (v := 114) dX7_either_8 (by decide) ?_
    refine r_iconst (v := 0) dX7_either_10 (by decide) ?_
    refine r_iconst (v := 0) dX7_either_11 (by decide) ?_
    refine r_iconst (v := 0) dX7_either_12 (by decide) ?_
    refine r_iconst (v := 0) dX7_either_13 (by decide) ?_
    refine r_iconst (v := 0) dX7_either_14 (by decide) ?_
    refine r_iconst (v := 0) dX7_either_15 (by decide) ?_
    refine r_callV8I dX7_either_16 moX7_isWord w_1000 w_1002 s_37 (hsh.al rfl (by decide)) cl7 rfl (Nat.le_of_ble_eq_true rfl) (Nat.le_of_ble_eq_true rfl) (S_mIsWord (j := 9) hsh hQ2.tx hQ2.rd hQ2.lx hQ2.ok (by decide) rfl rfl rfl rfl rfl rfl rfl rfl) ?_
    refine r_ifb_eq (tgt := 48) dX7_either_19 (by decide) (fun h19 => ?_) (fun h19 => absurd (of_decide_eq_true h19) (fun e => hn261 ((wcd_k hQ2.lx (by decide) (by decide)).mp e)))
    refine r_iload_n dX7_either_48 rfl ?_
    refine r_iret dX7_either_49 rfl ?_
    exact ⟨rfl, rfl, hF, Or.inl ⟨h1, rfl, hQ2⟩⟩
  have loop : ∀ F I2 J2 r v x2, z ≤ r.2.1.1 + F → PGr z st r → FrP I I2 → ((r.1 = true ∧ v = r.2.2.2 nm ∧ MrQ n I2 J2 R b z f nm op r.2.1) ∨ (r.1 = false ∧ I2 102 25 = b2i true ∧ I2 102 26 = nI r.2.1.1)) → Wp g (d + 4) mX7_either 5 [.ref 102, .int v, x2] [] 0 0 n I2 J2 R (MrP n I R b z f nm op (loopP (avB b z) opOr q F r)) := by
    intro F
    induction F with
    | zero =>
      intro I2 J2 r v x2 hzr hr hF hc
      rcases hc with ⟨h1, hv, hQ2⟩ | ⟨h1, hb, hf⟩
      · have he := hQ2.end hzr
        exact exN 0 I2 J2 r v x2 h1 hv (by rw [he]; decide) hQ2 hF
      · exact exF 0 I2 J2 r v x2 h1 hb hf hF
    | succ F ih =>
      intro I2 J2 r v x2 hzr hr hF hc
      rcases hc with ⟨h1, hv, hQ2⟩ | ⟨h1, hb, hf⟩
      · by_cases h0 : opOr r.2.1.2.2.1 = 0
        · exact exN (F + 1) I2 J2 r v x2 h1 hv h0 hQ2 hF
        · subst hv
          have htk : r.2.1.2.2.1 = 261 := by
            unfold opOr at h0
            split at h0
            · assumption
            · exact absurd rfl h0
          have ho : opOr r.2.1.2.2.1 = -9 := by rw [htk]; decide
          rw [loopP_s h1 ho (by decide) F]
          refine r_aload_n dX7_either_5 rfl ?_
          refine r_bipush (v := 111) dX7_either_6 (by decide) ?_
          refine r_bipush (v := 114) dX7_either_8 (by decide) ?_
          refine r_iconst (v := 0) dX7_either_10 (by decide) ?_
          refine r_iconst (v := 0) dX7_either_11 (by decide) ?_
          refine r_iconst (v := 0) dX7_either_12 (by decide) ?_
          refine r_iconst (v := 0) dX7_either_13 (by decide) ?_
          refine r_iconst (v := 0) dX7_either_14 (by decide) ?_
          refine r_iconst (v := 0) dX7_either_15 (by decide) ?_
          refine r_callV8I dX7_either_16 moX7_isWord w_1000 w_1002 s_37 (hsh.al rfl (by decide)) cl7 rfl (Nat.le_of_ble_eq_true rfl) (Nat.le_of_ble_eq_true rfl) (S_mIsWord (j := 9) hsh hQ2.tx hQ2.rd hQ2.lx hQ2.ok (by decide) rfl rfl rfl rfl rfl rfl rfl rfl) ?_
          refine r_ifb_eq (tgt := 48) dX7_either_19 (by decide) (fun h19 => absurd ((wcd_k hQ2.lx (by decide) (by decide)).mpr htk) (of_decide_eq_false h19)) (fun h19 => ?_)
          refine r_aload_n dX7_either_22 rfl ?_
          refine r_callV0N dX7_either_23 moX7_next w_987 w_989 s_35 (hsh.al rfl (by decide)) cl7 rfl (Nat.le_of_ble_eq_true rfl) (Nat.le_of_ble_eq_true rfl) (S_mNext (b := b) (z := z) (p := (r.2.1).2.1) hQ2.sh hQ2.tx (hQ2.here (by omega) (by omega)) hQ2.lx.2.2.1) (fun r n I3 J R hq => ?_)
          obtain ⟨rfl, rfl, rfl, hF3, hR3⟩ := hq
          have hQ3 := hQ2.nx hF3 hR3
          have ha := av_ok (b := b) hQ2.lx
          have hg3 := hg _ ha.1
          have ha2 := ha.2.2 (by omega)
          have hjg := jnP_gd (m := -9) ⟨by decide, by decide⟩ hr h1 hg3 ha2
          have hzr2 : z ≤ (q (avB b z r.2.1)).2.1.1 + F := by have := hg3.2.1; omega
          refine r_aload_n dX7_either_26 rfl ?_
          refine r_callV0N dX7_either_27 moX7_both w_1020 w_1022 s_42 (hsh.al rfl (by decide)) cl7 rfl (Nat.le_of_ble_eq_true rfl) (Nat.le_of_ble_eq_true rfl) (hs _ _ _ hQ3) (fun r n I4 J R hq => ?_)
          obtain ⟨rfl, rfl, hF4, hc⟩ := hq
          rcases hc with ⟨h1b, rfl, hQ4⟩ | ⟨h1b, ⟨x, rfl⟩, hb, hf⟩
          · refine r_some rfl ?_
            refine r_istore_n dX7_either_30 (by decide) rfl ?_
            refine r_iload_n dX7_either_31 rfl ?_
            refine r_if_ne (tgt := 39) dX7_either_32 (by decide) (fun h32 => ?_) (fun h32 => ?_)
            · refine r_iconst (v := 1) dX7_either_39 (by decide) ?_
              refine r_goto (tgt := 44) dX7_either_40 (by decide) ?_
              refine r_istore_n dX7_either_44 (by decide) rfl ?_
              refine r_goto (tgt := 5) dX7_either_45 (by decide) ?_
              exact ih _ _ _ _ _ hzr2 hjg (hF.t (hF3.p.t hF4)) (Or.inl ⟨h1b, (by show (1 : Int32) = b2i (decide (_ ≠ 0) || decide (_ ≠ 0)); rw [decide_eq_true h32]; rfl), hQ4⟩)
            · refine r_iload_n dX7_either_35 rfl ?_
              refine r_if_eq (tgt := 43) dX7_either_36 (by decide) (fun h36 => ?_) (fun h36 => ?_)
              · refine r_iconst (v := 0) dX7_either_43 (by decide) ?_
                refine r_istore_n dX7_either_44 (by decide) rfl ?_
                refine r_goto (tgt := 5) dX7_either_45 (by decide) ?_
                exact ih _ _ _ _ _ hzr2 hjg (hF.t (hF3.p.t hF4)) (Or.inl ⟨h1b, (by show (0 : Int32) = b2i (decide (_ ≠ 0) || decide (_ ≠ 0)); rw [decide_eq_false (fun e => e h32), decide_eq_false (p := (q (avB b z r.2.1)).2.2.2 nm ≠ 0) (fun e => e h36)]; rfl), hQ4⟩)
              · refine r_iconst (v := 1) dX7_either_39 (by decide) ?_
                refine r_goto (tgt := 44) dX7_either_40 (by decide) ?_
                refine r_istore_n dX7_either_44 (by decide) rfl ?_
                refine r_goto (tgt := 5) dX7_either_45 (by decide) ?_
                exact ih _ _ _ _ _ hzr2 hjg (hF.t (hF3.p.t hF4)) (Or.inl ⟨h1b, (by show (1 : Int32) = b2i (decide (_ ≠ 0) || decide (_ ≠ 0)); rw [decide_eq_true (p := (q (avB b z r.2.1)).2.2.2 nm ≠ 0) h36, Bool.or_true]; rfl), hQ4⟩)
          · refine r_some rfl ?_
            refine r_istore_n dX7_either_30 (by decide) rfl ?_
            refine r_iload_n dX7_either_31 rfl ?_
            refine r_if_ne (tgt := 39) dX7_either_32 (by decide) (fun h32 => ?_) (fun h32 => ?_)
            · refine r_iconst (v := 1) dX7_either_39 (by decide) ?_
              refine r_goto (tgt := 44) dX7_either_40 (by decide) ?_
              refine r_istore_n dX7_either_44 (by decide) rfl ?_
              refine r_goto (tgt := 5) dX7_either_45 (by decide) ?_
              exact ih _ _ _ _ _ hzr2 hjg (hF.t (hF3.p.t hF4)) (Or.inr ⟨h1b, hb, hf⟩)
            · refine r_iload_n dX7_either_35 rfl ?_
              refine r_if_eq (tgt := 43) dX7_either_36 (by decide) (fun h36 => ?_) (fun h36 => ?_)
              · refine r_iconst (v := 0) dX7_either_43 (by decide) ?_
                refine r_istore_n dX7_either_44 (by decide) rfl ?_
                refine r_goto (tgt := 5) dX7_either_45 (by decide) ?_
                exact ih _ _ _ _ _ hzr2 hjg (hF.t (hF3.p.t hF4)) (Or.inr ⟨h1b, hb, hf⟩)
              · refine r_iconst (v := 1) dX7_either_39 (by decide) ?_
                refine r_goto (tgt := 44) dX7_either_40 (by decide) ?_
                refine r_istore_n dX7_either_44 (by decide) rfl ?_
                refine r_goto (tgt := 5) dX7_either_45 (by decide) ?_
                exact ih _ _ _ _ _ hzr2 hjg (hF.t (hF3.p.t hF4)) (Or.inr ⟨h1b, hb, hf⟩)
      · exact exF (F + 1) I2 J2 r v x2 h1 hb hf hF
  refine r_aload_n dX7_either_0 rfl ?_
  refine r_callV0N dX7_either_1 moX7_both w_1020 w_1022 s_42 (hsh.al rfl (by decide)) cl7 rfl (Nat.le_of_ble_eq_true rfl) (Nat.le_of_ble_eq_true rfl) (hs _ _ _ hQ) (fun r n I4 J R hq => ?_)
  obtain ⟨rfl, rfl, hF4, hc⟩ := hq
  rcases hc with ⟨h1b, rfl, hQ4⟩ | ⟨h1b, ⟨x, rfl⟩, hb, hf⟩
  · refine r_some rfl ?_
    refine r_istore_n dX7_either_4 (by decide) rfl ?_
    exact loop 160 _ _ _ _ _ (by omega) (hg st hQ.lx) hF4 (Or.inl ⟨h1b, rfl, hQ4⟩)
  · refine r_some rfl ?_
    refine r_istore_n dX7_either_4 (by decide) rfl ?_
    exact loop 160 _ _ _ _ _ (by omega) (hg st hQ.lx) hF4 (Or.inr ⟨h1b, hb, hf⟩)
def ntO (av : LexS → LexS) (o : Lev) (st : LexS) : POut := match o with
  | none => flP st
  | some q => ntP (q.2.1 (av st))
theorem notB_eq (av : LexS → LexS) (o : Lev) (st : LexS) : notB av o st = if st.2.2.1 = 263 then ntO av o st else cmpB av o st := rfl
set_option maxRecDepth 20000 in
set_option maxHeartbeats 4000000 in
theorem S_mNt0 {g : GP} {d n : Nat} {I : TI} {J : TJ} {R : TR} {b : Nat → Nat} {z f : Nat} {nm : Nat → Int32} {st : LexS} (hQ : MrQ n I J R b z f nm 5 st) : Wp g (d + 3) mX7_not 18 [.ref 102, .null, .null, .null] [] 0 0 n I J R (MrP n I R b z f nm 5 (flP st)) := by
  have hsh := hQ.sh
  refine r_aload_n dX7_not_18 rfl ?_
  refine r_callV0I dX7_not_19 moX7_opens w_1028 w_1030 s_44 (hsh.al rfl (by decide)) cl7 rfl (Nat.le_of_ble_eq_true rfl) (Nat.le_of_ble_eq_true rfl) (S_mOpens0 hQ) ?_
  refine r_ifb_ne (tgt := 27) dX7_not_22 (by decide) (fun h22 => absurd h22 (by decide)) (fun h22 => ?_)
  refine r_iconst (v := 0) dX7_not_25 (by decide) ?_
  refine r_iret dX7_not_26 rfl ?_
  exact ⟨rfl, rfl, (FrP.rf.u (by decide)).u (by decide), Or.inr ⟨rfl, ⟨_, rfl⟩, (up2_k _ _ (by decide)).trans (up2_at _ _ _ _), up2_at _ _ _ _⟩⟩
set_option maxRecDepth 20000 in
set_option maxHeartbeats 4000000 in
theorem S_mNt1 {g : GP} {d n : Nat} {I : TI} {J : TJ} {R : TR} {b : Nat → Nat} {z f op : Nat} {nm : Nat → Int32} {st : LexS} (hQ : MrQ n I J R b z f nm op st) (htk : st.2.2.1 = 263) (ho : op < 5) {q : LexS → POut} (hs : MrC g (d + 2) mX7_not [.ref 102, .null, .null, .null] n R b z f nm (op + 1) q) : Wp g (d + 3) mX7_not 18 [.ref 102, .null, .null, .null] [] 0 0 n I J R (MrP n I R b z f nm op (ntP (q (avB b z st)))) := by
  have hsh := hQ.sh
  refine r_aload_n dX7_not_18 rfl ?_
  refine r_callV0N dX7_not_19 moX7_opens w_1028 w_1030 s_44 (hsh.al rfl (by decide)) cl7 rfl (Nat.le_of_ble_eq_true rfl) (Nat.le_of_ble_eq_true rfl) (S_mOpens1 hQ ho (by omega) (by omega)) (fun r n I2 J R hq => ?_)
  obtain ⟨rfl, rfl, rfl, hF2, hQ2⟩ := hq
  refine r_some rfl ?_
  refine r_ifb_ne (tgt := 27) dX7_not_22 (by decide) (fun h22 => ?_) (fun h22 => absurd h22 (by decide))
  refine r_aload_n dX7_not_27 rfl ?_
  refine r_callV0N dX7_not_28 moX7_not w_1024 w_1026 s_43 (hsh.al rfl (by decide)) cl7 rfl (Nat.le_of_ble_eq_true rfl) (Nat.le_of_ble_eq_true rfl) (hs _ _ _ hQ2) (fun r n I4 J R hq => ?_)
  obtain ⟨rfl, rfl, hF4, hc⟩ := hq
  rcases hc with ⟨h1b, rfl, hQ4⟩ | ⟨h1b, ⟨x, rfl⟩, hb, hf⟩
  · refine r_some rfl ?_
    refine r_istore_n dX7_not_31 (by decide) rfl ?_
    refine r_aload_n dX7_not_32 rfl ?_
    refine r_dup dX7_not_33 rfl ?_
    refine r_getIE dX7_not_34 f_X7_164 (hsh.al rfl (by decide)) (Or.inl rfl) hQ4.opI ?_
    refine r_iconst (v := 1) dX7_not_37 (by decide) ?_
    refine r_nisub (b := 1) dX7_not_38 rfl rfl (by omega) ?_
    rw [Nat.add_sub_cancel]
    refine r_putI dX7_not_39 f_X7_164 (hsh.al rfl (by decide)) (Or.inl rfl) rfl ?_
    have hQ5 := hQ4.opU (op := op) (by omega)
    refine r_iload_n dX7_not_42 rfl ?_
    refine r_if_ne (tgt := 50) dX7_not_43 (by decide) (fun h43 => ?_) (fun h43 => ?_)
    · refine r_iconst (v := 0) dX7_not_50 (by decide) ?_
      refine r_iret dX7_not_51 rfl ?_
      exact ⟨rfl, rfl, hF2.t (hF4.u (by decide)), Or.inl ⟨h1b, congrArg (fun x => some (Value.int x)) (by show (0 : Int32) = b2i (decide (_ = 0)); rw [decide_eq_false h43]; rfl), hQ5⟩⟩
    · refine r_iconst (v := 1) dX7_not_46 (by decide) ?_
      refine r_goto (tgt := 51) dX7_not_47 (by decide) ?_
      refine r_iret dX7_not_51 rfl ?_
      exact ⟨rfl, rfl, hF2.t (hF4.u (by decide)), Or.inl ⟨h1b, congrArg (fun x => some (Value.int x)) (by show (1 : Int32) = b2i (decide (_ = 0)); rw [decide_eq_true h43]; rfl), hQ5⟩⟩
  · refine r_some rfl ?_
    refine r_istore_n dX7_not_31 (by decide) rfl ?_
    refine r_aload_n dX7_not_32 rfl ?_
    refine r_dup dX7_not_33 rfl ?_
    refine r_getI dX7_not_34 f_X7_164 (hsh.al rfl (by decide)) (Or.inl rfl) ?_
    refine r_iconst (v := 1) dX7_not_37 (by decide) ?_
    refine r_isub dX7_not_38 ?_
    refine r_putI dX7_not_39 f_X7_164 (hsh.al rfl (by decide)) (Or.inl rfl) rfl ?_
    refine r_iload_n dX7_not_42 rfl ?_
    refine r_if_ne (tgt := 50) dX7_not_43 (by decide) (fun h43 => ?_) (fun h43 => ?_)
    · refine r_iconst (v := 0) dX7_not_50 (by decide) ?_
      refine r_iret dX7_not_51 rfl ?_
      exact ⟨rfl, rfl, hF2.t (hF4.u (by decide)), Or.inr ⟨h1b, ⟨_, rfl⟩, (up2_k _ _ (by decide)).trans hb, (up2_k _ _ (by decide)).trans hf⟩⟩
    · refine r_iconst (v := 1) dX7_not_46 (by decide) ?_
      refine r_goto (tgt := 51) dX7_not_47 (by decide) ?_
      refine r_iret dX7_not_51 rfl ?_
      exact ⟨rfl, rfl, hF2.t (hF4.u (by decide)), Or.inr ⟨h1b, ⟨_, rfl⟩, (up2_k _ _ (by decide)).trans hb, (up2_k _ _ (by decide)).trans hf⟩⟩
set_option maxRecDepth 20000 in
set_option maxHeartbeats 4000000 in
theorem S_mNot {g : GP} {d n : Nat} {R : TR} {b : Nat → Nat} {z f op : Nat} {nm : Nat → Int32} {o : Lev} {q : LexS → POut} (hg : PGd z q) (hX : ∀ (I : TI) (J : TJ) (st : LexS), MrQ n I J R b z f nm op st → st.2.2.1 = 263 → Wp g (d + 4) mX7_not 18 [.ref 102, .null, .null, .null] [] 0 0 n I J R (MrP n I R b z f nm op (ntO (avB b z) o st))) (hs : MrC g (d + 3) mX7_added [.ref 102, .null, .null, .null] n R b z f nm op q) : MrC g (d + 4) mX7_not [.ref 102, .null, .null, .null] n R b z f nm op (fun st => if st.2.2.1 = 263 then ntO (avB b z) o st else loopP (avB b z) opCmp q 1 (q st)) := by
  intro I J st hQ
  have hsh := hQ.sh
  show Wp g (d + 4) mX7_not 0 [.ref 102, .null, .null, .null] [] 0 0 n I J R (MrP n I R b z f nm op (if st.2.2.1 = 263 then ntO (avB b z) o st else loopP (avB b z) opCmp q 1 (q st)))
  refine r_aload_n dX7_not_0 rfl ?_
  refine r_bipush (v := 110) dX7_not_1 (by decide) ?_
  refine r_bipush (v := 111) dX7_not_3 (by decide) ?_
  refine r_bipush (v := 116) dX7_not_5 (by decide) ?_
  refine r_iconst (v := 0) dX7_not_7 (by decide) ?_
  refine r_iconst (v := 0) dX7_not_8 (by decide) ?_
  refine r_iconst (v := 0) dX7_not_9 (by decide) ?_
  refine r_iconst (v := 0) dX7_not_10 (by decide) ?_
  refine r_iconst (v := 0) dX7_not_11 (by decide) ?_
  refine r_callV8I dX7_not_12 moX7_isWord w_1000 w_1002 s_37 (hsh.al rfl (by decide)) cl7 rfl (Nat.le_of_ble_eq_true rfl) (Nat.le_of_ble_eq_true rfl) (S_mIsWord (j := 11) hsh hQ.tx hQ.rd hQ.lx hQ.ok (by decide) rfl rfl rfl rfl rfl rfl rfl rfl) ?_
  refine r_ifb_eq (tgt := 52) dX7_not_15 (by decide) (fun h15 => ?_) (fun h15 => ?_)
  · rw [decide_eq_false_iff_not, wcd_k hQ.lx (by decide) (by decide)] at h15
    have h15 : ¬ st.2.2.1 = 263 := by omega
    rw [if_neg h15]
    refine r_aload_n dX7_not_52 rfl ?_
    refine r_callV0N dX7_not_53 moX7_added w_1032 w_1034 s_45 (hsh.al rfl (by decide)) cl7 rfl (Nat.le_of_ble_eq_true rfl) (Nat.le_of_ble_eq_true rfl) (hs _ _ _ hQ) (fun r n I4 J R hq => ?_)
    obtain ⟨rfl, rfl, hF4, hc⟩ := hq
    rcases hc with ⟨h1b, rfl, hQ4⟩ | ⟨h1b, ⟨x, rfl⟩, hb, hf⟩
    · refine r_some rfl ?_
      by_cases htk : (q st).2.1.2.2.1 = 60
      · have ho : opCmp (q st).2.1.2.2.1 = -11 := by rw [htk]; decide
        have e : loopP (avB b z) opCmp q 1 (q st) = jnP (-11) (q st) (q (avB b z (q st).2.1)) := loopP_s h1b ho (by decide) 0
        rw [e]
        refine r_istore_n dX7_not_56 (by decide) rfl ?_
        refine r_aload_n dX7_not_57 rfl ?_
        refine r_bipush (v := 60) dX7_not_58 (by decide) ?_
        refine r_top (v := zI 60) (by decide) ?_
        refine r_callV1I dX7_not_60 moX7_isSign w_1044 w_1046 s_48 (hsh.al rfl (by decide)) cl7 rfl (Nat.le_of_ble_eq_true rfl) (Nat.le_of_ble_eq_true rfl) (S_mIsSign (s := 60) hsh hQ4.rd hQ4.ok (by decide)) ?_
        refine r_ifb_ne (tgt := 77) dX7_not_63 (by decide) (fun h63 => ?_) (fun h63 => absurd htk (of_decide_eq_false h63))
        refine r_aload_n dX7_not_77 rfl ?_
        refine r_getJ dX7_not_78 f_X7_149 (hsh.al rfl (by decide)) rfl ?_
        refine r_topL ((hQ4.tw (by omega) (by omega)).trans (by rw [htk])) ?_
        refine r_ldc2 dX7_not_81 w_1053 ?_
        refine r_lcmp dX7_not_84 ?_
        refine r_top (v := 0) (by decide) ?_
        refine r_if_ne (tgt := 92) dX7_not_85 (by decide) (fun h85 => absurd rfl h85) (fun h85 => ?_)
        refine r_iconst (v := 1) dX7_not_88 (by decide) ?_
        refine r_goto (tgt := 93) dX7_not_89 (by decide) ?_
        refine r_istore_n dX7_not_93 (by decide) rfl ?_
        refine r_aload_n dX7_not_94 rfl ?_
        refine r_callV0N dX7_not_95 moX7_next w_987 w_989 s_35 (hsh.al rfl (by decide)) cl7 rfl (Nat.le_of_ble_eq_true rfl) (Nat.le_of_ble_eq_true rfl) (S_mNext (b := b) (z := z) (p := ((q st).2.1).2.1) hQ4.sh hQ4.tx (hQ4.here (by omega) (by omega)) hQ4.lx.2.2.1) (fun r n I5 J R hq => ?_)
        obtain ⟨rfl, rfl, rfl, hF5, hR5⟩ := hq
        have hQ5 := hQ4.nx hF5 hR5
        refine r_aload_n dX7_not_98 rfl ?_
        refine r_callV0N dX7_not_99 moX7_added w_1032 w_1034 s_45 (hsh.al rfl (by decide)) cl7 rfl (Nat.le_of_ble_eq_true rfl) (Nat.le_of_ble_eq_true rfl) (hs _ _ _ hQ5) (fun r n I6 J R hq => ?_)
        obtain ⟨rfl, rfl, hF6, hc⟩ := hq
        rcases hc with ⟨h1c, rfl, hQ6⟩ | ⟨h1c, ⟨x, rfl⟩, hb, hf⟩
        · refine r_some rfl ?_
          refine r_istore_n dX7_not_102 (by decide) rfl ?_
          refine r_iload_n dX7_not_103 rfl ?_
          refine r_if_eq (tgt := 115) dX7_not_104 (by decide) (fun h104 => absurd h104 (by decide)) (fun h104 => ?_)
          refine r_iload_n dX7_not_107 rfl ?_
          refine r_iload_n dX7_not_108 rfl ?_
          refine r_icmp_ge (tgt := 124) dX7_not_109 (by decide) (fun h109 => ?_) (fun h109 => ?_)
          · refine r_iconst (v := 0) dX7_not_124 (by decide) ?_
            refine r_iret dX7_not_125 rfl ?_
            exact ⟨rfl, rfl, hF4.t (hF5.p.t hF6), Or.inl ⟨h1c, congrArg (fun x => some (Value.int x)) (by show (0 : Int32) = b2i (decide (_ < _)); rw [decide_eq_false (Int32.not_lt.mpr h109)]; rfl), hQ6⟩⟩
          · refine r_goto (tgt := 120) dX7_not_112 (by decide) ?_
            refine r_iconst (v := 1) dX7_not_120 (by decide) ?_
            refine r_goto (tgt := 125) dX7_not_121 (by decide) ?_
            refine r_iret dX7_not_125 rfl ?_
            exact ⟨rfl, rfl, hF4.t (hF5.p.t hF6), Or.inl ⟨h1c, congrArg (fun x => some (Value.int x)) (by show (1 : Int32) = b2i (decide (_ < _)); rw [decide_eq_true (Int32.not_le.mp h109)]; rfl), hQ6⟩⟩
        · refine r_some rfl ?_
          refine r_istore_n dX7_not_102 (by decide) rfl ?_
          refine r_iload_n dX7_not_103 rfl ?_
          refine r_if_eq (tgt := 115) dX7_not_104 (by decide) (fun h104 => absurd h104 (by decide)) (fun h104 => ?_)
          refine r_iload_n dX7_not_107 rfl ?_
          refine r_iload_n dX7_not_108 rfl ?_
          refine r_icmp_ge (tgt := 124) dX7_not_109 (by decide) (fun h109 => ?_) (fun h109 => ?_)
          · refine r_iconst (v := 0) dX7_not_124 (by decide) ?_
            refine r_iret dX7_not_125 rfl ?_
            exact ⟨rfl, rfl, hF4.t (hF5.p.t hF6), Or.inr ⟨h1c, ⟨_, rfl⟩, hb, hf⟩⟩
          · refine r_goto (tgt := 120) dX7_not_112 (by decide) ?_
            refine r_iconst (v := 1) dX7_not_120 (by decide) ?_
            refine r_goto (tgt := 125) dX7_not_121 (by decide) ?_
            refine r_iret dX7_not_125 rfl ?_
            exact ⟨rfl, rfl, hF4.t (hF5.p.t hF6), Or.inr ⟨h1c, ⟨_, rfl⟩, hb, hf⟩⟩
      · have hn60 := htk
        by_cases htk : (q st).2.1.2.2.1 = 61
        · have ho : opCmp (q st).2.1.2.2.1 = -12 := by rw [htk]; decide
          have e : loopP (avB b z) opCmp q 1 (q st) = jnP (-12) (q st) (q (avB b z (q st).2.1)) := loopP_s h1b ho (by decide) 0
          rw [e]
          refine r_istore_n dX7_not_56 (by decide) rfl ?_
          refine r_aload_n dX7_not_57 rfl ?_
          refine r_bipush (v := 60) dX7_not_58 (by decide) ?_
          refine r_top (v := zI 60) (by decide) ?_
          refine r_callV1I dX7_not_60 moX7_isSign w_1044 w_1046 s_48 (hsh.al rfl (by decide)) cl7 rfl (Nat.le_of_ble_eq_true rfl) (Nat.le_of_ble_eq_true rfl) (S_mIsSign (s := 60) hsh hQ4.rd hQ4.ok (by decide)) ?_
          refine r_ifb_ne (tgt := 77) dX7_not_63 (by decide) (fun h63 => absurd (of_decide_eq_true h63) (by omega)) (fun h63 => ?_)
          refine r_aload_n dX7_not_66 rfl ?_
          refine r_bipush (v := 61) dX7_not_67 (by decide) ?_
          refine r_top (v := zI 61) (by decide) ?_
          refine r_callV1I dX7_not_69 moX7_isSign w_1044 w_1046 s_48 (hsh.al rfl (by decide)) cl7 rfl (Nat.le_of_ble_eq_true rfl) (Nat.le_of_ble_eq_true rfl) (S_mIsSign (s := 61) hsh hQ4.rd hQ4.ok (by decide)) ?_
          refine r_ifb_ne (tgt := 77) dX7_not_72 (by decide) (fun h72 => ?_) (fun h72 => absurd htk (of_decide_eq_false h72))
          refine r_aload_n dX7_not_77 rfl ?_
          refine r_getJ dX7_not_78 f_X7_149 (hsh.al rfl (by decide)) rfl ?_
          refine r_topL ((hQ4.tw (by omega) (by omega)).trans (by rw [htk])) ?_
          refine r_ldc2 dX7_not_81 w_1053 ?_
          refine r_lcmp dX7_not_84 ?_
          refine r_top (v := 1) (by decide) ?_
          refine r_if_ne (tgt := 92) dX7_not_85 (by decide) (fun h85 => ?_) (fun h85 => absurd h85 (by decide))
          refine r_iconst (v := 0) dX7_not_92 (by decide) ?_
          refine r_istore_n dX7_not_93 (by decide) rfl ?_
          refine r_aload_n dX7_not_94 rfl ?_
          refine r_callV0N dX7_not_95 moX7_next w_987 w_989 s_35 (hsh.al rfl (by decide)) cl7 rfl (Nat.le_of_ble_eq_true rfl) (Nat.le_of_ble_eq_true rfl) (S_mNext (b := b) (z := z) (p := ((q st).2.1).2.1) hQ4.sh hQ4.tx (hQ4.here (by omega) (by omega)) hQ4.lx.2.2.1) (fun r n I5 J R hq => ?_)
          obtain ⟨rfl, rfl, rfl, hF5, hR5⟩ := hq
          have hQ5 := hQ4.nx hF5 hR5
          refine r_aload_n dX7_not_98 rfl ?_
          refine r_callV0N dX7_not_99 moX7_added w_1032 w_1034 s_45 (hsh.al rfl (by decide)) cl7 rfl (Nat.le_of_ble_eq_true rfl) (Nat.le_of_ble_eq_true rfl) (hs _ _ _ hQ5) (fun r n I6 J R hq => ?_)
          obtain ⟨rfl, rfl, hF6, hc⟩ := hq
          rcases hc with ⟨h1c, rfl, hQ6⟩ | ⟨h1c, ⟨x, rfl⟩, hb, hf⟩
          · refine r_some rfl ?_
            refine r_istore_n dX7_not_102 (by decide) rfl ?_
            refine r_iload_n dX7_not_103 rfl ?_
            refine r_if_eq (tgt := 115) dX7_not_104 (by decide) (fun h104 => ?_) (fun h104 => absurd (by decide) h104)
            refine r_iload_n dX7_not_115 rfl ?_
            refine r_iload_n dX7_not_116 rfl ?_
            refine r_icmp_ne (tgt := 124) dX7_not_117 (by decide) (fun h117 => ?_) (fun h117 => ?_)
            · refine r_iconst (v := 0) dX7_not_124 (by decide) ?_
              refine r_iret dX7_not_125 rfl ?_
              exact ⟨rfl, rfl, hF4.t (hF5.p.t hF6), Or.inl ⟨h1c, congrArg (fun x => some (Value.int x)) (by show (0 : Int32) = b2i (decide (_ = _)); rw [decide_eq_false h117]; rfl), hQ6⟩⟩
            · refine r_iconst (v := 1) dX7_not_120 (by decide) ?_
              refine r_goto (tgt := 125) dX7_not_121 (by decide) ?_
              refine r_iret dX7_not_125 rfl ?_
              exact ⟨rfl, rfl, hF4.t (hF5.p.t hF6), Or.inl ⟨h1c, congrArg (fun x => some (Value.int x)) (by show (1 : Int32) = b2i (decide (_ = _)); rw [decide_eq_true h117]; rfl), hQ6⟩⟩
          · refine r_some rfl ?_
            refine r_istore_n dX7_not_102 (by decide) rfl ?_
            refine r_iload_n dX7_not_103 rfl ?_
            refine r_if_eq (tgt := 115) dX7_not_104 (by decide) (fun h104 => ?_) (fun h104 => absurd (by decide) h104)
            refine r_iload_n dX7_not_115 rfl ?_
            refine r_iload_n dX7_not_116 rfl ?_
            refine r_icmp_ne (tgt := 124) dX7_not_117 (by decide) (fun h117 => ?_) (fun h117 => ?_)
            · refine r_iconst (v := 0) dX7_not_124 (by decide) ?_
              refine r_iret dX7_not_125 rfl ?_
              exact ⟨rfl, rfl, hF4.t (hF5.p.t hF6), Or.inr ⟨h1c, ⟨_, rfl⟩, hb, hf⟩⟩
            · refine r_iconst (v := 1) dX7_not_120 (by decide) ?_
              refine r_goto (tgt := 125) dX7_not_121 (by decide) ?_
              refine r_iret dX7_not_125 rfl ?_
              exact ⟨rfl, rfl, hF4.t (hF5.p.t hF6), Or.inr ⟨h1c, ⟨_, rfl⟩, hb, hf⟩⟩
        · have e : loopP (avB b z) opCmp q 1 (q st) = q st := loopP_0 (by unfold opCmp; rw [if_neg hn60, if_neg htk]) 1
          rw [e]
          refine r_istore_n dX7_not_56 (by decide) rfl ?_
          refine r_aload_n dX7_not_57 rfl ?_
          refine r_bipush (v := 60) dX7_not_58 (by decide) ?_
          refine r_top (v := zI 60) (by decide) ?_
          refine r_callV1I dX7_not_60 moX7_isSign w_1044 w_1046 s_48 (hsh.al rfl (by decide)) cl7 rfl (Nat.le_of_ble_eq_true rfl) (Nat.le_of_ble_eq_true rfl) (S_mIsSign (s := 60) hsh hQ4.rd hQ4.ok (by decide)) ?_
          refine r_ifb_ne (tgt := 77) dX7_not_63 (by decide) (fun h63 => absurd (of_decide_eq_true h63) hn60) (fun h63 => ?_)
          refine r_aload_n dX7_not_66 rfl ?_
          refine r_bipush (v := 61) dX7_not_67 (by decide) ?_
          refine r_top (v := zI 61) (by decide) ?_
          refine r_callV1I dX7_not_69 moX7_isSign w_1044 w_1046 s_48 (hsh.al rfl (by decide)) cl7 rfl (Nat.le_of_ble_eq_true rfl) (Nat.le_of_ble_eq_true rfl) (S_mIsSign (s := 61) hsh hQ4.rd hQ4.ok (by decide)) ?_
          refine r_ifb_ne (tgt := 77) dX7_not_72 (by decide) (fun h72 => absurd (of_decide_eq_true h72) htk) (fun h72 => ?_)
          refine r_iload_n dX7_not_75 rfl ?_
          refine r_iret dX7_not_76 rfl ?_
          exact ⟨rfl, rfl, hF4, Or.inl ⟨h1b, rfl, hQ4⟩⟩
    · refine r_some rfl ?_
      have e : loopP (avB b z) opCmp q 1 (q st) = q st := loopP_f h1b 1
      rw [e]
      refine r_istore_n dX7_not_56 (by decide) rfl ?_
      refine r_aload_n dX7_not_57 rfl ?_
      refine r_bipush (v := 60) dX7_not_58 (by decide) ?_
      refine r_callV1I dX7_not_60 moX7_isSign w_1044 w_1046 s_48 (hsh.al rfl (by decide)) cl7 rfl (Nat.le_of_ble_eq_true rfl) (Nat.le_of_ble_eq_true rfl) (S_mIsSignB hsh hb) ?_
      refine r_ifb_ne (tgt := 77) dX7_not_63 (by decide) (fun h63 => absurd h63 (by decide)) (fun h63 => ?_)
      refine r_aload_n dX7_not_66 rfl ?_
      refine r_bipush (v := 61) dX7_not_67 (by decide) ?_
      refine r_callV1I dX7_not_69 moX7_isSign w_1044 w_1046 s_48 (hsh.al rfl (by decide)) cl7 rfl (Nat.le_of_ble_eq_true rfl) (Nat.le_of_ble_eq_true rfl) (S_mIsSignB hsh hb) ?_
      refine r_ifb_ne (tgt := 77) dX7_not_72 (by decide) (fun h72 => absurd h72 (by decide)) (fun h72 => ?_)
      refine r_iload_n dX7_not_75 rfl ?_
      refine r_iret dX7_not_76 rfl ?_
      exact ⟨rfl, rfl, hF4, Or.inr ⟨h1b, ⟨_, rfl⟩, hb, hf⟩⟩
  · rw [decide_eq_true_eq, wcd_k hQ.lx (by decide) (by decide)] at h15
    have h15 : st.2.2.1 = 263 := by omega
    rw [if_pos h15]
    exact hX _ _ _ hQ h15
theorem S_mLevel {g : GP} {n : Nat} {R : TR} {b : Nat → Nat} {z f : Nat} {nm : Nat → Int32} : ∀ k op, op + k = 5 → ∀ d, 6 * k ≤ d → MrC g (d + 8) mX7_atom [.ref 102, .null] n R b z f nm op (onePB (avB b z) (levB (avB b z) k)) ∧ MrC g (d + 11) mX7_not [.ref 102, .null, .null, .null] n R b z f nm op (notB (avB b z) (levB (avB b z) k)) ∧ MrC g (d + 13) mX7_either [.ref 102, .null, .null] n R b z f nm op (eitB (avB b z) (levB (avB b z) k)) := by
  have fin : ∀ (o : Lev) op d, LvOK z o → MrC g (d + 8) mX7_atom [.ref 102, .null] n R b z f nm op (onePB (avB b z) o) → (∀ (I : TI) (J : TJ) (st : LexS), MrQ n I J R b z f nm op st → st.2.2.1 = 263 → Wp g (d + 11) mX7_not 18 [.ref 102, .null, .null, .null] [] 0 0 n I J R (MrP n I R b z f nm op (ntO (avB b z) o st))) → MrC g (d + 8) mX7_atom [.ref 102, .null] n R b z f nm op (onePB (avB b z) o) ∧ MrC g (d + 11) mX7_not [.ref 102, .null, .null, .null] n R b z f nm op (notB (avB b z) o) ∧ MrC g (d + 13) mX7_either [.ref 102, .null, .null] n R b z f nm op (eitB (avB b z) o) := by
    intro o op d ho h1 h2
    have c2 := S_mterm (d := d + 5) (onePB_gd (b := b) ho) h1
    have c3 := S_madded (d := d + 6) (timB_gd (b := b) ho) c2
    have c5 : MrC g (d + 11) mX7_not [.ref 102, .null, .null, .null] n R b z f nm op (notB (avB b z) o) := S_mNot (d := d + 7) (o := o) (sumPB_gd (b := b) ho) h2 c3
    have c6 := S_mboth (d := d + 8) (notB_gd (b := b) ho) c5
    have c7 := S_meither (d := d + 9) (botB_gd (b := b) ho) c6
    exact ⟨h1, c5, c7⟩
  intro k
  induction k with
  | zero =>
    intro op ho d hd
    have e : op = 5 := ho
    subst e
    refine fin none 5 d (levB_ok (b := b) 0) ?_ fun I J st hQ _ => S_mNt0 (d := d + 8) hQ
    exact S_mAtom (d := d + 4) (o := none) (fun I J st hQ _ => S_mAt110 (d := d + 5) hQ 0) (fun I J st hQ _ => S_mAt460 (d := d + 5) hQ 0)
  | succ k ih =>
    intro op ho d hd
    obtain ⟨e, rfl⟩ : ∃ e, d = e + 6 := ⟨d - 6, by omega⟩
    have h1 := ih (op + 1) (by omega) (e + 5) (by omega)
    have h3 := ih (op + 1) (by omega) e (by omega)
    refine fin (levB (avB b z) (k + 1)) op (e + 6) (levB_ok (b := b) (k + 1)) ?_ fun I J st hQ htk => S_mNt1 (d := e + 14) hQ htk (by omega) h1.2.1
    exact S_mAtom (d := e + 10) (o := levB (avB b z) (k + 1)) (fun I J st hQ htk => S_mAt111 (d := e + 11) hQ htk (by omega) h1.1 0) (fun I J st hQ htk => S_mAt461 (d := e + 11) hQ htk (by omega) h3.2.2 0)
