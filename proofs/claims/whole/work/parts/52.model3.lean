/-! the model: which word, which sign it is at -/
theorem wdN_sp (b : Nat → Nat) (s len : Nat) : (wdN b s len = 12 ∧ ∀ i, i < 12 → wdIs b s len i = false) ∨ (wdN b s len < 12 ∧ wdIs b s len (wdN b s len) = true) := by
  unfold wdN
  cases h0 : wdIs b s len 0
  · skip
    cases h1 : wdIs b s len 1
    · skip
      cases h2 : wdIs b s len 2
      · skip
        cases h3 : wdIs b s len 3
        · skip
          cases h4 : wdIs b s len 4
          · skip
            cases h5 : wdIs b s len 5
            · skip
              cases h6 : wdIs b s len 6
              · skip
                cases h7 : wdIs b s len 7
                · skip
                  cases h8 : wdIs b s len 8
                  · skip
                    cases h9 : wdIs b s len 9
                    · skip
                      cases h10 : wdIs b s len 10
                      · skip
                        cases h11 : wdIs b s len 11
                        · exact Or.inl ⟨rfl, fun i hi => by
                            have e : i = 0 ∨ i = 1 ∨ i = 2 ∨ i = 3 ∨ i = 4 ∨ i = 5 ∨ i = 6 ∨ i = 7 ∨ i = 8 ∨ i = 9 ∨ i = 10 ∨ i = 11 := by omega
                            rcases e with rfl | rfl | rfl | rfl | rfl | rfl | rfl | rfl | rfl | rfl | rfl | rfl <;> assumption⟩
                        · exact Or.inr ⟨by show 11 < 12; decide, h11⟩
                      · exact Or.inr ⟨by show 10 < 12; decide, h10⟩
                    · exact Or.inr ⟨by show 9 < 12; decide, h9⟩
                  · exact Or.inr ⟨by show 8 < 12; decide, h8⟩
                · exact Or.inr ⟨by show 7 < 12; decide, h7⟩
              · exact Or.inr ⟨by show 6 < 12; decide, h6⟩
            · exact Or.inr ⟨by show 5 < 12; decide, h5⟩
          · exact Or.inr ⟨by show 4 < 12; decide, h4⟩
        · exact Or.inr ⟨by show 3 < 12; decide, h3⟩
      · exact Or.inr ⟨by show 2 < 12; decide, h2⟩
    · exact Or.inr ⟨by show 1 < 12; decide, h1⟩
  · exact Or.inr ⟨by show 0 < 12; decide, h0⟩
theorem wds_ne : ∀ i, i < 12 → ∀ j, j < 12 → wdsL.getD i [] = wdsL.getD j [] → i = j := by decide +kernel
theorem wdN_le (b : Nat → Nat) (s len : Nat) : wdN b s len ≤ 12 := by rcases wdN_sp b s len with h | h <;> omega
theorem wdN_iff {b : Nat → Nat} {s len j : Nat} (hj : j < 12) : wdN b s len = j ↔ wdIs b s len j = true := by
  constructor
  · intro h
    rcases wdN_sp b s len with h2 | h2
    · omega
    · rw [← h]; exact h2.2
  · intro h
    rcases wdN_sp b s len with h2 | h2
    · rw [h2.2 j hj] at h; exact absurd h (by decide)
    · have h3 := of_decide_eq_true h2.2
      have h4 := of_decide_eq_true h
      exact wds_ne _ h2.1 j hj (h3.trans h4.symm)
def wdPad (j i : Nat) : Nat := (wdsL.getD j []).getD i 0
theorem wds_len : ∀ j, j < 12 → (wdsL.getD j []).length ≤ 8 ∧ 1 ≤ (wdsL.getD j []).length ∧ ∀ i, i < (wdsL.getD j []).length → 97 ≤ (wdsL.getD j []).getD i 0 ∧ (wdsL.getD j []).getD i 0 < 128 := by decide +kernel
theorem wdPad_lt : ∀ j, j < 12 → ∀ i, i < 8 → wdPad j i < 128 := by decide +kernel
def ltAt (b : Nat → Nat) (s len i : Nat) : Nat := if i < len then b (s + i) else 0
theorem pad_iff {b : Nat → Nat} {s len j : Nat} (hj : j < 12) (hb : ∀ k, k < len → 97 ≤ b (s + k)) : wdN b s len = j ↔ (len ≤ 8 ∧ ∀ i, i < 8 → ltAt b s len i = wdPad j i) := by
  rw [wdN_iff hj]
  unfold wdIs wdPad
  obtain ⟨q1, q2, q3⟩ := wds_len j hj
  generalize wdsL.getD j [] = W at q1 q2 q3
  have hlen : (wdLt b s len).length = len := by unfold wdLt; rw [List.length_map, List.length_range]
  have hat : ∀ i, i < len → (wdLt b s len).getD i 0 = b (s + i) := fun i hi => by
    unfold wdLt
    rw [List.getD_eq_getElem?_getD, List.getElem?_map, List.getElem?_range hi]
    rfl
  rw [decide_eq_true_eq]
  constructor
  · intro h
    have e : W.length = len := by rw [h, hlen]
    refine ⟨by omega, fun i hi => ?_⟩
    unfold ltAt
    by_cases hl : i < len
    · rw [if_pos hl, h, hat i hl]
    · rw [if_neg hl, List.getD_eq_getElem?_getD, List.getElem?_eq_none (by omega)]
      rfl
  · intro h
    obtain ⟨h8, h⟩ := h
    have e : W.length = len := by
      apply Nat.le_antisymm
      · apply Nat.le_of_not_lt
        intro hl
        have a1 := h len (by omega)
        unfold ltAt at a1
        rw [if_neg (by omega)] at a1
        have a2 := (q3 len hl).1
        omega
      · apply Nat.le_of_not_lt
        intro hl
        have a1 := h W.length (by omega)
        unfold ltAt at a1
        rw [if_pos hl, List.getD_eq_getElem?_getD, List.getElem?_eq_none (Nat.le_refl _)] at a1
        have a2 := hb W.length hl
        have a3 : b (s + W.length) = 0 := a1
        omega
    apply List.ext_getElem?
    intro i
    by_cases hl : i < len
    · have a1 := h i (by omega)
      unfold ltAt at a1
      rw [if_pos hl] at a1
      have a2 := hat i hl
      rw [List.getD_eq_getElem?_getD, List.getElem?_eq_getElem (by omega)] at a2
      rw [List.getD_eq_getElem?_getD, List.getElem?_eq_getElem (by omega)] at a1
      rw [List.getElem?_eq_getElem (by omega), List.getElem?_eq_getElem (by omega)]
      congr 1
      exact a1.symm.trans a2.symm
    · rw [List.getElem?_eq_none (by omega), List.getElem?_eq_none (by omega)]
/-- which word stands at hand: 12 is none -/
def wcdN (st : LexS) : Nat := if st.2.2.1 = 257 then st.2.2.2 else if 258 ≤ st.2.2.1 ∧ st.2.2.1 ≤ 263 then (st.2.2.1 - 252).toNat else 12
theorem wcdN_w {st : LexS} {j : Nat} (h1 : st.2.2.1 = tkW j) (h2 : st.2.2.2 = j) (hj : j ≤ 12) : wcdN st = j := by
  unfold wcdN
  rw [h1, h2]
  unfold tkW
  by_cases h6 : j < 6
  · rw [if_pos h6, if_pos rfl]
  · by_cases h12 : j < 12
    · rw [if_neg h6, if_pos h12, if_neg (by omega), if_pos (by omega)]
      omega
    · rw [if_neg h6, if_neg h12, if_neg (by decide), if_neg (by decide)]
      omega
theorem wcdN_n {st : LexS} (h : st.2.2.1 < 257) : wcdN st = 12 := by
  unfold wcdN
  rw [if_neg (by omega), if_neg (by omega)]
set_option maxRecDepth 20000 in
set_option maxHeartbeats 4000000 in
theorem S_mFail0 {g : GP} {d n : Nat} {I : TI} {J : TJ} {R : TR} {v : Int32} (hsh : Sh n R) (hb : I 102 25 = b2i false) (h22 : I 102 22 = v) : Wp g d mX7_fail 0 [.ref 102] [] 0 0 n I J R (RetV n (up2 (up2 I 102 25 1) 102 26 v) J R) := by
  refine r_aload_n dX7_fail_0 rfl ?_
  refine r_getIE dX7_fail_1 f_X7_155 (hsh.al rfl (by decide)) (Or.inr rfl) hb ?_
  refine r_ifb_ne (tgt := 20) dX7_fail_4 (by decide) (fun h4 => absurd h4 (by decide)) (fun h4 => ?_)
  refine r_aload_n dX7_fail_7 rfl ?_
  refine r_iconst (v := 1) dX7_fail_8 (by decide) ?_
  refine r_putZ dX7_fail_9 f_X7_155 (hsh.al rfl (by decide)) (Or.inl rfl) rfl (by decide) ?_
  refine r_aload_n dX7_fail_12 rfl ?_
  refine r_aload_n dX7_fail_13 rfl ?_
  refine r_getIE dX7_fail_14 f_X7_135 (hsh.al rfl (by decide)) (Or.inl rfl) ((up2_k _ _ (by decide)).trans h22) ?_
  refine r_putI dX7_fail_17 f_X7_158 (hsh.al rfl (by decide)) (Or.inl rfl) rfl ?_
  refine r_vret dX7_fail_20 rfl ?_
  exact retV
set_option maxRecDepth 20000 in
set_option maxHeartbeats 4000000 in
theorem S_mFail1 {g : GP} {d n : Nat} {I : TI} {J : TJ} {R : TR} (hsh : Sh n R) (hb : I 102 25 = b2i true) : Wp g d mX7_fail 0 [.ref 102] [] 0 0 n I J R (RetV n I J R) := by
  refine r_aload_n dX7_fail_0 rfl ?_
  refine r_getIE dX7_fail_1 f_X7_155 (hsh.al rfl (by decide)) (Or.inr rfl) hb ?_
  refine r_ifb_ne (tgt := 20) dX7_fail_4 (by decide) (fun h4 => ?_) (fun h4 => absurd h4 (by decide))
  refine r_vret dX7_fail_20 rfl ?_
  exact retV
set_option maxRecDepth 20000 in
set_option maxHeartbeats 4000000 in
theorem S_mIsLetter {g : GP} {d n : Nat} {I : TI} {J : TJ} {R : TR} {b : Nat → Nat} {z f s e i c : Nat} (hsh : Sh n R) (hT : MTx I b z f) (h22 : I 102 22 = nI s) (h20 : I 102 20 = nI e) (hse : s ≤ e) (hez : e ≤ z) (hi : i < 8) (hc : c < 128) : Wp g (d + 1) mX7_isLetter 0 [.ref 102, .int (nI i), .int (nI c)] [] 0 0 n I J R (RetI (b2i (decide (ltAt b s (e - s) i = c))) n I J R) := by
  have hz := hT.2.1
  refine r_aload_n dX7_isLetter_0 rfl ?_
  refine r_getIE dX7_isLetter_1 f_X7_135 (hsh.al rfl (by decide)) (Or.inl rfl) h22 ?_
  refine r_iload_n dX7_isLetter_4 rfl ?_
  refine r_niadd dX7_isLetter_5 rfl rfl ?_
  refine r_aload_n dX7_isLetter_6 rfl ?_
  refine r_getIE dX7_isLetter_7 f_X7_129 (hsh.al rfl (by decide)) (Or.inl rfl) h20 ?_
  refine r_nicmp_ge  (tgt := 35) dX7_isLetter_10 (by decide) rfl rfl (by omega) (by omega) (fun h10 => ?_) (fun h10 => ?_)
  · refine r_iload_n dX7_isLetter_35 rfl ?_
    refine r_zif_ne (tgt := 43) dX7_isLetter_36 (by decide) (nz _) (by unfold inZ; omega) (fun h36 => ?_) (fun h36 => ?_)
    · refine r_iconst (v := 0) dX7_isLetter_43 (by decide) ?_
      refine r_bret (b := decide (ltAt b s (e - s) i = c)) dX7_isLetter_44 rfl ?_ ?_
      · refine b2i_0 ?_
        unfold ltAt
        rw [if_neg (by omega)]
        exact decide_eq_false (by omega)
      · exact ⟨rfl, rfl, rfl, rfl, rfl⟩
    · refine r_iconst (v := 1) dX7_isLetter_39 (by decide) ?_
      refine r_goto (tgt := 44) dX7_isLetter_40 (by decide) ?_
      refine r_bret (b := decide (ltAt b s (e - s) i = c)) dX7_isLetter_44 rfl ?_ ?_
      · refine b2i_1 ?_
        unfold ltAt
        rw [if_neg (by omega)]
        exact decide_eq_true (by omega)
      · exact ⟨rfl, rfl, rfl, rfl, rfl⟩
  · refine r_aload_n dX7_isLetter_13 rfl ?_
    refine r_aload_n dX7_isLetter_14 rfl ?_
    refine r_getIE dX7_isLetter_15 f_X7_135 (hsh.al rfl (by decide)) (Or.inl rfl) h22 ?_
    refine r_iload_n dX7_isLetter_18 rfl ?_
    refine r_niadd dX7_isLetter_19 rfl rfl ?_
    refine r_callV1I dX7_isLetter_20 moX7_byteAt w_991 w_993 s_36 (hsh.al rfl (by decide)) cl7 rfl (Nat.le_of_ble_eq_true rfl) (Nat.le_of_ble_eq_true rfl) (S_byteAt hsh hT (i := s + i) (by omega)) ?_
    have hb2 := (hT.2.2.2.2 (s + i) (by omega)).2
    refine r_top (v := nI (b (s + i))) (by unfold byZ; rw [if_pos (show s + i < z by omega)]; rfl) ?_
    refine r_iload_n dX7_isLetter_23 rfl ?_
    refine r_nicmp_ne  (tgt := 31) dX7_isLetter_24 (by decide) rfl rfl (by omega) (by omega) (fun h24 => ?_) (fun h24 => ?_)
    · refine r_iconst (v := 0) dX7_isLetter_31 (by decide) ?_
      refine r_goto (tgt := 44) dX7_isLetter_32 (by decide) ?_
      refine r_bret (b := decide (ltAt b s (e - s) i = c)) dX7_isLetter_44 rfl ?_ ?_
      · refine b2i_0 ?_
        unfold ltAt
        rw [if_pos (by omega)]
        exact decide_eq_false (by omega)
      · exact ⟨rfl, rfl, rfl, rfl, rfl⟩
    · refine r_iconst (v := 1) dX7_isLetter_27 (by decide) ?_
      refine r_goto (tgt := 44) dX7_isLetter_28 (by decide) ?_
      refine r_bret (b := decide (ltAt b s (e - s) i = c)) dX7_isLetter_44 rfl ?_ ?_
      · refine b2i_1 ?_
        unfold ltAt
        rw [if_pos (by omega)]
        exact decide_eq_true (by omega)
      · exact ⟨rfl, rfl, rfl, rfl, rfl⟩
set_option maxRecDepth 20000 in
set_option maxHeartbeats 4000000 in
theorem S_mIsWord {g : GP} {d n : Nat} {I : TI} {J : TJ} {R : TR} {b : Nat → Nat} {z f j : Nat} {st : LexS} {x0 : Int32} {x1 : Int32} {x2 : Int32} {x3 : Int32} {x4 : Int32} {x5 : Int32} {x6 : Int32} {x7 : Int32} (hsh : Sh n R) (hT : MTx I b z f) (hR : MRd I J b st) (hL : LxOK z st) (hb : I 102 25 = b2i false) (hj : j < 12) (hx0 : x0 = nI (wdPad j 0)) (hx1 : x1 = nI (wdPad j 1)) (hx2 : x2 = nI (wdPad j 2)) (hx3 : x3 = nI (wdPad j 3)) (hx4 : x4 = nI (wdPad j 4)) (hx5 : x5 = nI (wdPad j 5)) (hx6 : x6 = nI (wdPad j 6)) (hx7 : x7 = nI (wdPad j 7)) : Wp g (d + 2) mX7_isWord 0 [.ref 102, .int x0, .int x1, .int x2, .int x3, .int x4, .int x5, .int x6, .int x7] [] 0 0 n I J R (RetI (b2i (decide (wcdN st = j))) n I J R) := by
  have hz := hT.2.1
  obtain ⟨h22, hR⟩ := hR
  have hpl := wdPad_lt j hj
  subst hx0 hx1 hx2 hx3 hx4 hx5 hx6 hx7
  rcases hR with ⟨h21, htk⟩ | ⟨h21, h20, htk, hva, hlt, hle⟩ | ⟨h21, h20, htk, hJ⟩ | ⟨h21, h20, htk, htk2, hJ⟩ | ⟨h21, htk⟩
  · refine r_aload_n dX7_isWord_0 rfl ?_
    refine r_getIE dX7_isWord_1 f_X7_155 (hsh.al rfl (by decide)) (Or.inr rfl) hb ?_
    refine r_ifb_ne (tgt := 112) dX7_isWord_4 (by decide) (fun h4 => absurd h4 (by decide)) (fun h4 => ?_)
    refine r_aload_n dX7_isWord_7 rfl ?_
    refine r_getIE dX7_isWord_8 f_X7_138 (hsh.al rfl (by decide)) (Or.inl rfl) h21 ?_
    refine r_iconst (v := 1) dX7_isWord_11 (by decide) ?_
    refine r_nicmp_ne (a := 0) (b := 1)  (tgt := 112) dX7_isWord_12 (by decide) rfl rfl (by omega) (by omega) (fun h12 => ?_) (fun h12 => absurd h12 (by omega))
    refine r_iconst (v := 0) dX7_isWord_112 (by decide) ?_
    refine r_bret (b := decide (wcdN st = j)) dX7_isWord_113 rfl ?_ ?_
    · refine b2i_0 ?_
      rw [wcdN_n (by omega)]
      exact decide_eq_false (by omega)
    · exact ⟨rfl, rfl, rfl, rfl, rfl⟩
  · have hwc : wcdN st = wdN b st.1 (st.2.1 - st.1) := wcdN_w htk hva (wdN_le _ _ _)
    have hpi := pad_iff (b := b) (s := st.1) (len := st.2.1 - st.1) hj fun k hk => (isLeB_iff.mp (hle (st.1 + k) (by omega) (by omega))).1
    have hse : st.1 ≤ st.2.1 := Nat.le_of_lt hlt
    have hez := hL.2.2.1
    refine r_aload_n dX7_isWord_0 rfl ?_
    refine r_getIE dX7_isWord_1 f_X7_155 (hsh.al rfl (by decide)) (Or.inr rfl) hb ?_
    refine r_ifb_ne (tgt := 112) dX7_isWord_4 (by decide) (fun h4 => absurd h4 (by decide)) (fun h4 => ?_)
    refine r_aload_n dX7_isWord_7 rfl ?_
    refine r_getIE dX7_isWord_8 f_X7_138 (hsh.al rfl (by decide)) (Or.inl rfl) h21 ?_
    refine r_iconst (v := 1) dX7_isWord_11 (by decide) ?_
    refine r_nicmp_ne (a := 1) (b := 1)  (tgt := 112) dX7_isWord_12 (by decide) rfl rfl (by omega) (by omega) (fun h12 => absurd h12 (by omega)) (fun h12 => ?_)
    refine r_aload_n dX7_isWord_15 rfl ?_
    refine r_getIE dX7_isWord_16 f_X7_129 (hsh.al rfl (by decide)) (Or.inl rfl) h20 ?_
    refine r_aload_n dX7_isWord_19 rfl ?_
    refine r_getIE dX7_isWord_20 f_X7_135 (hsh.al rfl (by decide)) (Or.inl rfl) h22 ?_
    refine r_bipush (v := 8) dX7_isWord_23 (by decide) ?_
    refine r_niadd (b := 8) dX7_isWord_25 rfl rfl ?_
    refine r_nicmp_gt  (tgt := 112) dX7_isWord_26 (by decide) rfl rfl (by omega) (by omega) (fun h26 => ?_) (fun h26 => ?_)
    · refine r_iconst (v := 0) dX7_isWord_112 (by decide) ?_
      refine r_bret (b := decide (wcdN st = j)) dX7_isWord_113 rfl ?_ ?_
      · refine b2i_0 ?_
        rw [hwc]
        refine decide_eq_false (fun h => ?_)
        have h8 := (hpi.mp h).1
        omega
      · exact ⟨rfl, rfl, rfl, rfl, rfl⟩
    · refine r_aload_n dX7_isWord_29 rfl ?_
      refine r_iconst (v := 0) dX7_isWord_30 (by decide) ?_
      refine r_iload_n dX7_isWord_31 rfl ?_
      refine r_callV2I dX7_isWord_32 moX7_isLetter w_1004 w_1006 s_38 (hsh.al rfl (by decide)) cl7 rfl (Nat.le_of_ble_eq_true rfl) (Nat.le_of_ble_eq_true rfl) (S_mIsLetter hsh hT h22 h20 hse hez (i := 0) (by decide) (hpl 0 (by decide))) ?_
      refine r_ifb_eq (tgt := 112) dX7_isWord_35 (by decide) (fun h35 => ?_) (fun h35 => ?_)
      · refine r_iconst (v := 0) dX7_isWord_112 (by decide) ?_
        refine r_bret (b := decide (wcdN st = j)) dX7_isWord_113 rfl ?_ ?_
        · refine b2i_0 ?_
          rw [hwc]
          refine decide_eq_false (fun h => ?_)
          exact absurd ((hpi.mp h).2 0 (by decide)) (of_decide_eq_false h35)
        · exact ⟨rfl, rfl, rfl, rfl, rfl⟩
      · refine r_aload_n dX7_isWord_38 rfl ?_
        refine r_iconst (v := 1) dX7_isWord_39 (by decide) ?_
        refine r_iload_n dX7_isWord_40 rfl ?_
        refine r_callV2I dX7_isWord_41 moX7_isLetter w_1004 w_1006 s_38 (hsh.al rfl (by decide)) cl7 rfl (Nat.le_of_ble_eq_true rfl) (Nat.le_of_ble_eq_true rfl) (S_mIsLetter hsh hT h22 h20 hse hez (i := 1) (by decide) (hpl 1 (by decide))) ?_
        refine r_ifb_eq (tgt := 112) dX7_isWord_44 (by decide) (fun h44 => ?_) (fun h44 => ?_)
        · refine r_iconst (v := 0) dX7_isWord_112 (by decide) ?_
          refine r_bret (b := decide (wcdN st = j)) dX7_isWord_113 rfl ?_ ?_
          · refine b2i_0 ?_
            rw [hwc]
            refine decide_eq_false (fun h => ?_)
            exact absurd ((hpi.mp h).2 1 (by decide)) (of_decide_eq_false h44)
          · exact ⟨rfl, rfl, rfl, rfl, rfl⟩
        · refine r_aload_n dX7_isWord_47 rfl ?_
          refine r_iconst (v := 2) dX7_isWord_48 (by decide) ?_
          refine r_iload_n dX7_isWord_49 rfl ?_
          refine r_callV2I dX7_isWord_50 moX7_isLetter w_1004 w_1006 s_38 (hsh.al rfl (by decide)) cl7 rfl (Nat.le_of_ble_eq_true rfl) (Nat.le_of_ble_eq_true rfl) (S_mIsLetter hsh hT h22 h20 hse hez (i := 2) (by decide) (hpl 2 (by decide))) ?_
          refine r_ifb_eq (tgt := 112) dX7_isWord_53 (by decide) (fun h53 => ?_) (fun h53 => ?_)
          · refine r_iconst (v := 0) dX7_isWord_112 (by decide) ?_
            refine r_bret (b := decide (wcdN st = j)) dX7_isWord_113 rfl ?_ ?_
            · refine b2i_0 ?_
              rw [hwc]
              refine decide_eq_false (fun h => ?_)
              exact absurd ((hpi.mp h).2 2 (by decide)) (of_decide_eq_false h53)
            · exact ⟨rfl, rfl, rfl, rfl, rfl⟩
          · refine r_aload_n dX7_isWord_56 rfl ?_
            refine r_iconst (v := 3) dX7_isWord_57 (by decide) ?_
            refine r_iload dX7_isWord_58 rfl ?_
            refine r_callV2I dX7_isWord_60 moX7_isLetter w_1004 w_1006 s_38 (hsh.al rfl (by decide)) cl7 rfl (Nat.le_of_ble_eq_true rfl) (Nat.le_of_ble_eq_true rfl) (S_mIsLetter hsh hT h22 h20 hse hez (i := 3) (by decide) (hpl 3 (by decide))) ?_
            refine r_ifb_eq (tgt := 112) dX7_isWord_63 (by decide) (fun h63 => ?_) (fun h63 => ?_)
            · refine r_iconst (v := 0) dX7_isWord_112 (by decide) ?_
              refine r_bret (b := decide (wcdN st = j)) dX7_isWord_113 rfl ?_ ?_
              · refine b2i_0 ?_
                rw [hwc]
                refine decide_eq_false (fun h => ?_)
                exact absurd ((hpi.mp h).2 3 (by decide)) (of_decide_eq_false h63)
              · exact ⟨rfl, rfl, rfl, rfl, rfl⟩
            · refine r_aload_n dX7_isWord_66 rfl ?_
              refine r_iconst (v := 4) dX7_isWord_67 (by decide) ?_
              refine r_iload dX7_isWord_68 rfl ?_
              refine r_callV2I dX7_isWord_70 moX7_isLetter w_1004 w_1006 s_38 (hsh.al rfl (by decide)) cl7 rfl (Nat.le_of_ble_eq_true rfl) (Nat.le_of_ble_eq_true rfl) (S_mIsLetter hsh hT h22 h20 hse hez (i := 4) (by decide) (hpl 4 (by decide))) ?_
              refine r_ifb_eq (tgt := 112) dX7_isWord_73 (by decide) (fun h73 => ?_) (fun h73 => ?_)
              · refine r_iconst (v := 0) dX7_isWord_112 (by decide) ?_
                refine r_bret (b := decide (wcdN st = j)) dX7_isWord_113 rfl ?_ ?_
                · refine b2i_0 ?_
                  rw [hwc]
                  refine decide_eq_false (fun h => ?_)
                  exact absurd ((hpi.mp h).2 4 (by decide)) (of_decide_eq_false h73)
                · exact ⟨rfl, rfl, rfl, rfl, rfl⟩
              · refine r_aload_n dX7_isWord_76 rfl ?_
                refine r_iconst (v := 5) dX7_isWord_77 (by decide) ?_
                refine r_iload dX7_isWord_78 rfl ?_
                refine r_callV2I dX7_isWord_80 moX7_isLetter w_1004 w_1006 s_38 (hsh.al rfl (by decide)) cl7 rfl (Nat.le_of_ble_eq_true rfl) (Nat.le_of_ble_eq_true rfl) (S_mIsLetter hsh hT h22 h20 hse hez (i := 5) (by decide) (hpl 5 (by decide))) ?_
                refine r_ifb_eq (tgt := 112) dX7_isWord_83 (by decide) (fun h83 => ?_) (fun h83 => ?_)
                · refine r_iconst (v := 0) dX7_isWord_112 (by decide) ?_
                  refine r_bret (b := decide (wcdN st = j)) dX7_isWord_113 rfl ?_ ?_
                  · refine b2i_0 ?_
                    rw [hwc]
                    refine decide_eq_false (fun h => ?_)
                    exact absurd ((hpi.mp h).2 5 (by decide)) (of_decide_eq_false h83)
                  · exact ⟨rfl, rfl, rfl, rfl, rfl⟩
                · refine r_aload_n dX7_isWord_86 rfl ?_
                  refine r_bipush (v := 6) dX7_isWord_87 (by decide) ?_
                  refine r_iload dX7_isWord_89 rfl ?_
                  refine r_callV2I dX7_isWord_91 moX7_isLetter w_1004 w_1006 s_38 (hsh.al rfl (by decide)) cl7 rfl (Nat.le_of_ble_eq_true rfl) (Nat.le_of_ble_eq_true rfl) (S_mIsLetter hsh hT h22 h20 hse hez (i := 6) (by decide) (hpl 6 (by decide))) ?_
                  refine r_ifb_eq (tgt := 112) dX7_isWord_94 (by decide) (fun h94 => ?_) (fun h94 => ?_)
                  · refine r_iconst (v := 0) dX7_isWord_112 (by decide) ?_
                    refine r_bret (b := decide (wcdN st = j)) dX7_isWord_113 rfl ?_ ?_
                    · refine b2i_0 ?_
                      rw [hwc]
                      refine decide_eq_false (fun h => ?_)
                      exact absurd ((hpi.mp h).2 6 (by decide)) (of_decide_eq_false h94)
                    · exact ⟨rfl, rfl, rfl, rfl, rfl⟩
                  · refine r_aload_n dX7_isWord_97 rfl ?_
                    refine r_bipush (v := 7) dX7_isWord_98 (by decide) ?_
                    refine r_iload dX7_isWord_100 rfl ?_
                    refine r_callV2I dX7_isWord_102 moX7_isLetter w_1004 w_1006 s_38 (hsh.al rfl (by decide)) cl7 rfl (Nat.le_of_ble_eq_true rfl) (Nat.le_of_ble_eq_true rfl) (S_mIsLetter hsh hT h22 h20 hse hez (i := 7) (by decide) (hpl 7 (by decide))) ?_
                    refine r_ifb_eq (tgt := 112) dX7_isWord_105 (by decide) (fun h105 => ?_) (fun h105 => ?_)
                    · refine r_iconst (v := 0) dX7_isWord_112 (by decide) ?_
                      refine r_bret (b := decide (wcdN st = j)) dX7_isWord_113 rfl ?_ ?_
                      · refine b2i_0 ?_
                        rw [hwc]
                        refine decide_eq_false (fun h => ?_)
                        exact absurd ((hpi.mp h).2 7 (by decide)) (of_decide_eq_false h105)
                      · exact ⟨rfl, rfl, rfl, rfl, rfl⟩
                    · refine r_iconst (v := 1) dX7_isWord_108 (by decide) ?_
                      refine r_goto (tgt := 113) dX7_isWord_109 (by decide) ?_
                      refine r_bret (b := decide (wcdN st = j)) dX7_isWord_113 rfl ?_ ?_
                      · refine b2i_1 ?_
                        have e0 := of_decide_eq_true h35
                        have e1 := of_decide_eq_true h44
                        have e2 := of_decide_eq_true h53
                        have e3 := of_decide_eq_true h63
                        have e4 := of_decide_eq_true h73
                        have e5 := of_decide_eq_true h83
                        have e6 := of_decide_eq_true h94
                        have e7 := of_decide_eq_true h105
                        rw [hwc]
                        refine decide_eq_true (hpi.mpr ⟨by omega, fun i hi => ?_⟩)
                        have e : i = 0 ∨ i = 1 ∨ i = 2 ∨ i = 3 ∨ i = 4 ∨ i = 5 ∨ i = 6 ∨ i = 7 := by omega
                        rcases e with rfl | rfl | rfl | rfl | rfl | rfl | rfl | rfl <;> assumption
                      · exact ⟨rfl, rfl, rfl, rfl, rfl⟩
  · refine r_aload_n dX7_isWord_0 rfl ?_
    refine r_getIE dX7_isWord_1 f_X7_155 (hsh.al rfl (by decide)) (Or.inr rfl) hb ?_
    refine r_ifb_ne (tgt := 112) dX7_isWord_4 (by decide) (fun h4 => absurd h4 (by decide)) (fun h4 => ?_)
    refine r_aload_n dX7_isWord_7 rfl ?_
    refine r_getIE dX7_isWord_8 f_X7_138 (hsh.al rfl (by decide)) (Or.inl rfl) h21 ?_
    refine r_iconst (v := 1) dX7_isWord_11 (by decide) ?_
    refine r_nicmp_ne (a := 2) (b := 1)  (tgt := 112) dX7_isWord_12 (by decide) rfl rfl (by omega) (by omega) (fun h12 => ?_) (fun h12 => absurd h12 (by omega))
    refine r_iconst (v := 0) dX7_isWord_112 (by decide) ?_
    refine r_bret (b := decide (wcdN st = j)) dX7_isWord_113 rfl ?_ ?_
    · refine b2i_0 ?_
      rw [wcdN_n (by omega)]
      exact decide_eq_false (by omega)
    · exact ⟨rfl, rfl, rfl, rfl, rfl⟩
  · refine r_aload_n dX7_isWord_0 rfl ?_
    refine r_getIE dX7_isWord_1 f_X7_155 (hsh.al rfl (by decide)) (Or.inr rfl) hb ?_
    refine r_ifb_ne (tgt := 112) dX7_isWord_4 (by decide) (fun h4 => absurd h4 (by decide)) (fun h4 => ?_)
    refine r_aload_n dX7_isWord_7 rfl ?_
    refine r_getIE dX7_isWord_8 f_X7_138 (hsh.al rfl (by decide)) (Or.inl rfl) h21 ?_
    refine r_iconst (v := 1) dX7_isWord_11 (by decide) ?_
    refine r_nicmp_ne (a := 3) (b := 1)  (tgt := 112) dX7_isWord_12 (by decide) rfl rfl (by omega) (by omega) (fun h12 => ?_) (fun h12 => absurd h12 (by omega))
    refine r_iconst (v := 0) dX7_isWord_112 (by decide) ?_
    refine r_bret (b := decide (wcdN st = j)) dX7_isWord_113 rfl ?_ ?_
    · refine b2i_0 ?_
      rw [wcdN_n (by omega)]
      exact decide_eq_false (by omega)
    · exact ⟨rfl, rfl, rfl, rfl, rfl⟩
  · refine r_aload_n dX7_isWord_0 rfl ?_
    refine r_getIE dX7_isWord_1 f_X7_155 (hsh.al rfl (by decide)) (Or.inr rfl) hb ?_
    refine r_ifb_ne (tgt := 112) dX7_isWord_4 (by decide) (fun h4 => absurd h4 (by decide)) (fun h4 => ?_)
    refine r_aload_n dX7_isWord_7 rfl ?_
    refine r_getIE dX7_isWord_8 f_X7_138 (hsh.al rfl (by decide)) (Or.inl rfl) h21 ?_
    refine r_iconst (v := 1) dX7_isWord_11 (by decide) ?_
    refine r_nicmp_ne (a := 4) (b := 1)  (tgt := 112) dX7_isWord_12 (by decide) rfl rfl (by omega) (by omega) (fun h12 => ?_) (fun h12 => absurd h12 (by omega))
    refine r_iconst (v := 0) dX7_isWord_112 (by decide) ?_
    refine r_bret (b := decide (wcdN st = j)) dX7_isWord_113 rfl ?_ ?_
    · refine b2i_0 ?_
      rw [wcdN_n (by omega)]
      exact decide_eq_false (by omega)
    · exact ⟨rfl, rfl, rfl, rfl, rfl⟩
set_option maxRecDepth 20000 in
set_option maxHeartbeats 4000000 in
theorem S_mIsWordB {g : GP} {d n : Nat} {I : TI} {J : TJ} {R : TR} {x0 : Int32} {x1 : Int32} {x2 : Int32} {x3 : Int32} {x4 : Int32} {x5 : Int32} {x6 : Int32} {x7 : Int32} (hsh : Sh n R) (hb : I 102 25 = b2i true) : Wp g (d + 2) mX7_isWord 0 [.ref 102, .int x0, .int x1, .int x2, .int x3, .int x4, .int x5, .int x6, .int x7] [] 0 0 n I J R (RetI (b2i false) n I J R) := by
  refine r_aload_n dX7_isWord_0 rfl ?_
  refine r_getIE dX7_isWord_1 f_X7_155 (hsh.al rfl (by decide)) (Or.inr rfl) hb ?_
  refine r_ifb_ne (tgt := 112) dX7_isWord_4 (by decide) (fun h4 => ?_) (fun h4 => absurd h4 (by decide))
  refine r_iconst (v := 0) dX7_isWord_112 (by decide) ?_
  refine r_bret (b := false) dX7_isWord_113 rfl ?_ ?_
  · rfl
  · exact ⟨rfl, rfl, rfl, rfl, rfl⟩
set_option maxRecDepth 20000 in
set_option maxHeartbeats 4000000 in
theorem S_mIsSign {g : GP} {d n : Nat} {I : TI} {J : TJ} {R : TR} {b : Nat → Nat} {st : LexS} {s : Int} (hsh : Sh n R) (hR : MRd I J b st) (hb : I 102 25 = b2i false) (hs : 40 ≤ s ∧ s ≤ 61) : Wp g (d + 2) mX7_isSign 0 [.ref 102, .int (zI s)] [] 0 0 n I J R (RetI (b2i (decide (st.2.2.1 = s))) n I J R) := by
  obtain ⟨h22, hR⟩ := hR
  rcases hR with ⟨h21, htk⟩ | ⟨h21, h20, htk, hva, hlt, hle⟩ | ⟨h21, h20, htk, hJ⟩ | ⟨h21, h20, htk, htk2, hJ⟩ | ⟨h21, htk⟩
  · refine r_aload_n dX7_isSign_0 rfl ?_
    refine r_getIE dX7_isSign_1 f_X7_155 (hsh.al rfl (by decide)) (Or.inr rfl) hb ?_
    refine r_ifb_ne (tgt := 29) dX7_isSign_4 (by decide) (fun h4 => absurd h4 (by decide)) (fun h4 => ?_)
    refine r_aload_n dX7_isSign_7 rfl ?_
    refine r_getIE dX7_isSign_8 f_X7_138 (hsh.al rfl (by decide)) (Or.inl rfl) h21 ?_
    refine r_iconst (v := 3) dX7_isSign_11 (by decide) ?_
    refine r_nicmp_ne (a := 0) (b := 3)  (tgt := 29) dX7_isSign_12 (by decide) rfl rfl (by omega) (by omega) (fun h12 => ?_) (fun h12 => absurd h12 (by omega))
    refine r_iconst (v := 0) dX7_isSign_29 (by decide) ?_
    refine r_bret (b := decide (st.2.2.1 = s)) dX7_isSign_30 rfl ?_ ?_
    · refine b2i_0 (decide_eq_false ?_)
      omega
    · exact ⟨rfl, rfl, rfl, rfl, rfl⟩
  · refine r_aload_n dX7_isSign_0 rfl ?_
    refine r_getIE dX7_isSign_1 f_X7_155 (hsh.al rfl (by decide)) (Or.inr rfl) hb ?_
    refine r_ifb_ne (tgt := 29) dX7_isSign_4 (by decide) (fun h4 => absurd h4 (by decide)) (fun h4 => ?_)
    refine r_aload_n dX7_isSign_7 rfl ?_
    refine r_getIE dX7_isSign_8 f_X7_138 (hsh.al rfl (by decide)) (Or.inl rfl) h21 ?_
    refine r_iconst (v := 3) dX7_isSign_11 (by decide) ?_
    refine r_nicmp_ne (a := 1) (b := 3)  (tgt := 29) dX7_isSign_12 (by decide) rfl rfl (by omega) (by omega) (fun h12 => ?_) (fun h12 => absurd h12 (by omega))
    refine r_iconst (v := 0) dX7_isSign_29 (by decide) ?_
    refine r_bret (b := decide (st.2.2.1 = s)) dX7_isSign_30 rfl ?_ ?_
    · refine b2i_0 (decide_eq_false ?_)
      rw [htk]
      unfold tkW
      (repeat' split) <;> omega
    · exact ⟨rfl, rfl, rfl, rfl, rfl⟩
  · refine r_aload_n dX7_isSign_0 rfl ?_
    refine r_getIE dX7_isSign_1 f_X7_155 (hsh.al rfl (by decide)) (Or.inr rfl) hb ?_
    refine r_ifb_ne (tgt := 29) dX7_isSign_4 (by decide) (fun h4 => absurd h4 (by decide)) (fun h4 => ?_)
    refine r_aload_n dX7_isSign_7 rfl ?_
    refine r_getIE dX7_isSign_8 f_X7_138 (hsh.al rfl (by decide)) (Or.inl rfl) h21 ?_
    refine r_iconst (v := 3) dX7_isSign_11 (by decide) ?_
    refine r_nicmp_ne (a := 2) (b := 3)  (tgt := 29) dX7_isSign_12 (by decide) rfl rfl (by omega) (by omega) (fun h12 => ?_) (fun h12 => absurd h12 (by omega))
    refine r_iconst (v := 0) dX7_isSign_29 (by decide) ?_
    refine r_bret (b := decide (st.2.2.1 = s)) dX7_isSign_30 rfl ?_ ?_
    · refine b2i_0 (decide_eq_false ?_)
      omega
    · exact ⟨rfl, rfl, rfl, rfl, rfl⟩
  · refine r_aload_n dX7_isSign_0 rfl ?_
    refine r_getIE dX7_isSign_1 f_X7_155 (hsh.al rfl (by decide)) (Or.inr rfl) hb ?_
    refine r_ifb_ne (tgt := 29) dX7_isSign_4 (by decide) (fun h4 => absurd h4 (by decide)) (fun h4 => ?_)
    refine r_aload_n dX7_isSign_7 rfl ?_
    refine r_getIE dX7_isSign_8 f_X7_138 (hsh.al rfl (by decide)) (Or.inl rfl) h21 ?_
    refine r_iconst (v := 3) dX7_isSign_11 (by decide) ?_
    refine r_nicmp_ne (a := 3) (b := 3)  (tgt := 29) dX7_isSign_12 (by decide) rfl rfl (by omega) (by omega) (fun h12 => absurd h12 (by omega)) (fun h12 => ?_)
    refine r_aload_n dX7_isSign_15 rfl ?_
    refine r_getJ dX7_isSign_16 f_X7_149 (hsh.al rfl (by decide)) rfl ?_
    refine r_topL hJ ?_
    refine r_iload_n dX7_isSign_19 rfl ?_
    refine r_zi2l dX7_isSign_20 rfl (by unfold inZ; omega) ?_
    refine r_lcmp dX7_isSign_21 ?_
    refine r_if_ne (tgt := 29) dX7_isSign_22 (by decide) (fun h22_ => ?_) (fun h22_ => ?_)
    · refine r_iconst (v := 0) dX7_isSign_29 (by decide) ?_
      refine r_bret (b := decide (st.2.2.1 = s)) dX7_isSign_30 rfl ?_ ?_
      · refine b2i_0 (decide_eq_false ?_)
        have hi := (lg_cmp_eq (lI st.2.2.1) (lI s)).trans (lI_eq (a := st.2.2.1) (b := s) (by unfold inL; omega) (by unfold inL; omega))
        exact fun e => h22_ (hi.mpr e)
      · exact ⟨rfl, rfl, rfl, rfl, rfl⟩
    · refine r_iconst (v := 1) dX7_isSign_25 (by decide) ?_
      refine r_goto (tgt := 30) dX7_isSign_26 (by decide) ?_
      refine r_bret (b := decide (st.2.2.1 = s)) dX7_isSign_30 rfl ?_ ?_
      · refine b2i_1 (decide_eq_true ?_)
        have hi := (lg_cmp_eq (lI st.2.2.1) (lI s)).trans (lI_eq (a := st.2.2.1) (b := s) (by unfold inL; omega) (by unfold inL; omega))
        exact hi.mp h22_
      · exact ⟨rfl, rfl, rfl, rfl, rfl⟩
  · refine r_aload_n dX7_isSign_0 rfl ?_
    refine r_getIE dX7_isSign_1 f_X7_155 (hsh.al rfl (by decide)) (Or.inr rfl) hb ?_
    refine r_ifb_ne (tgt := 29) dX7_isSign_4 (by decide) (fun h4 => absurd h4 (by decide)) (fun h4 => ?_)
    refine r_aload_n dX7_isSign_7 rfl ?_
    refine r_getIE dX7_isSign_8 f_X7_138 (hsh.al rfl (by decide)) (Or.inl rfl) h21 ?_
    refine r_iconst (v := 3) dX7_isSign_11 (by decide) ?_
    refine r_nicmp_ne (a := 4) (b := 3)  (tgt := 29) dX7_isSign_12 (by decide) rfl rfl (by omega) (by omega) (fun h12 => ?_) (fun h12 => absurd h12 (by omega))
    refine r_iconst (v := 0) dX7_isSign_29 (by decide) ?_
    refine r_bret (b := decide (st.2.2.1 = s)) dX7_isSign_30 rfl ?_ ?_
    · refine b2i_0 (decide_eq_false ?_)
      omega
    · exact ⟨rfl, rfl, rfl, rfl, rfl⟩
set_option maxRecDepth 20000 in
set_option maxHeartbeats 4000000 in
theorem S_mIsSignB {g : GP} {d n : Nat} {I : TI} {J : TJ} {R : TR} {x : Int32} (hsh : Sh n R) (hb : I 102 25 = b2i true) : Wp g (d + 2) mX7_isSign 0 [.ref 102, .int x] [] 0 0 n I J R (RetI (b2i false) n I J R) := by
  refine r_aload_n dX7_isSign_0 rfl ?_
  refine r_getIE dX7_isSign_1 f_X7_155 (hsh.al rfl (by decide)) (Or.inr rfl) hb ?_
  refine r_ifb_ne (tgt := 29) dX7_isSign_4 (by decide) (fun h4 => ?_) (fun h4 => absurd h4 (by decide))
  refine r_iconst (v := 0) dX7_isSign_29 (by decide) ?_
  refine r_bret (b := false) dX7_isSign_30 rfl ?_ ?_
  · rfl
  · exact ⟨rfl, rfl, rfl, rfl, rfl⟩
