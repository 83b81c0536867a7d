theorem bw_z {a : Int} {N : Nat} {b : Int32} (hb : b = nI N) (ha : inZ a) (hN : N < 2 ^ 31) : bw (zI a) b = decide (0 ≤ a ∧ a < N) := by
  have h0 : inZ 0 := by unfold inZ; omega
  have hn : inZ (N : Int) := by unfold inZ; omega
  subst hb
  have e1 : (0 : Int32) ≤ zI a ↔ 0 ≤ a := zI_le h0 ha
  have e2 : zI a < nI N ↔ a < (N : Int) := zI_lt ha hn
  unfold bw
  simp only [e1, e2]
  by_cases h1 : 0 ≤ a <;> by_cases h2 : a < (N : Int) <;> simp [h1, h2]
theorem bz_t {a : Int} {N : Nat} {b : Int32} (h : bw (zI a) b = true) (hb : b = nI N) (ha : inZ a) (hN : N < 2 ^ 31) : ∃ k : Nat, k < N ∧ a = (k : Int) := by
  rw [bw_z hb ha hN, decide_eq_true_eq] at h
  exact ⟨a.toNat, by omega, by omega⟩
theorem bz_f {a : Int} {N : Nat} {b : Int32} (h : bw (zI a) b = false) (hb : b = nI N) (ha : inZ a) (hN : N < 2 ^ 31) : ¬ (0 ≤ a ∧ a < N) := by
  rw [bw_z hb ha hN, decide_eq_false_iff_not] at h
  exact h
def mostN (j : Nat) : Nat := [9, 9, 9, 199, 199, 99, 199, 199, 9, 99, 199, 199, 99].getD j 0
def chD (I : TI) (s w : Nat) (v : Int32) (sz : Nat) : TI := if 1 ≤ w ∧ w ≤ 4 then up2 (up2 I (s + 1) w v) s 9 (nI (2 ^ sz - 1)) else up2 I (s + 1) w v
def chT (I : TI) (s j k : Nat) (v : Int32) (sl : Nat) : TI := up2 (up2 I (s + 3 + j) k v) s 9 (nI (sl ||| 2 ^ k))
theorem S_all2 {g : GP} {d n : Nat} {I : TI} {J : TJ} {R : TR} {s sz : Nat} (hsh : Sh n R) (hs : isSky s) (hz : I s 10 = nI sz) (bz : sz ≤ 7) : Wp g d mX3_all 0 [.ref s] [] 0 0 n I J R (RetI (nI (2 ^ sz - 1)) n I J R) := by
  refine r_iconst (v := 1) dX3_all_0 (by decide) ?_
  refine r_aload_n dX3_all_1 rfl ?_
  refine r_getIE dX3_all_2 f_X3_45 (hsh.k0 hs) (Or.inl rfl) hz ?_
  refine r_ishl dX3_all_5 ?_
  refine r_iconst (v := 1) dX3_all_6 (by decide) ?_
  refine r_isub dX3_all_7 ?_
  refine r_iret dX3_all_8 rfl ?_
  refine retI ?_
  have e : sz = 0 ∨ sz = 1 ∨ sz = 2 ∨ sz = 3 ∨ sz = 4 ∨ sz = 5 ∨ sz = 6 ∨ sz = 7 := by omega
  rcases e with rfl | rfl | rfl | rfl | rfl | rfl | rfl | rfl <;> decide
set_option maxRecDepth 20000 in
set_option maxHeartbeats 4000000 in
theorem S_changeD {g : GP} {d n : Nat} {I : TI} {J : TJ} {R : TR} {s : Nat} {dl : Nat → Nat} {tr : Nat → Nat → Nat} {sz rl : Nat} (hsh : Sh n R) (hs : isSky s) (hA : SkyAt I s dl tr sz rl) (wf : WF dl tr sz rl) {w : Nat} (hw : w < 8) (x v : Int32) : Wp g (d + 2) mX3_change 0 [.ref s, .int (nI w), .int x, .int v, .null] [] 0 0 n I J R (RetI (nI (dl w)) n (chD I s w v sz) J R) := by
  refine r_aload_n dX3_change_0 rfl ?_
  refine r_iload_n dX3_change_1 rfl ?_
  refine r_iload_n dX3_change_2 rfl ?_
  refine r_callV2I dX3_change_3 moX3_get w_442 w_443 w_444 (hsh.k0 hs) cl3 rfl (Nat.le_of_ble_eq_true rfl) (Nat.le_of_ble_eq_true rfl) (S_getD hsh hs hA wf hw x) ?_
  refine r_istore dX3_change_6 (by decide) rfl ?_
  refine r_iload_n dX3_change_8 rfl ?_
  refine r_bipush (v := 8) dX3_change_9 (by decide) ?_
  refine r_callSN2I dX3_change_11 moX6_isBelow (by decide) w_400 (Nat.le_of_ble_eq_true rfl) (Nat.le_of_ble_eq_true rfl) (S_isBelow _ _) ?_
  refine r_ifb_eq (tgt := 45) dX3_change_14 (by decide) (fun h14 => by rw [bw_nt (b := 8) (N := 8) rfl (by decide) hw] at h14; cases h14) (fun h14 => ?_)
  refine r_aload_n dX3_change_17 rfl ?_
  refine r_getR (b := (s + 1)) dX3_change_18 f_X3_9 (hsh.k0 hs) (Or.inl ⟨_, rfl⟩) (hsh.kr0 hs) (by omega) ?_
  refine r_iload_n dX3_change_21 rfl ?_
  refine r_iload_n dX3_change_22 rfl ?_
  refine r_iast (j := w) dX3_change_23 (hsh.k1 hs) hw rfl ?_
  refine r_iload_n dX3_change_24 rfl ?_
  refine r_iconst (v := 1) dX3_change_25 (by decide) ?_
  refine r_nicmp_lt (b := 1)  (tgt := 90) dX3_change_26 (by decide) rfl rfl (by omega) (by omega) (fun h26 => ?_) (fun h26 => ?_)
  · refine r_iload dX3_change_90 rfl ?_
    refine r_iret dX3_change_92 rfl ?_
    refine ⟨rfl, rfl, ?_, rfl, rfl⟩
    unfold chD
    first | (rw [if_pos (by omega)]; done) | rw [if_neg (by omega)]
  · refine r_iload_n dX3_change_29 rfl ?_
    refine r_iconst (v := 4) dX3_change_30 (by decide) ?_
    refine r_nicmp_gt (b := 4)  (tgt := 90) dX3_change_31 (by decide) rfl rfl (by omega) (by omega) (fun h31 => ?_) (fun h31 => ?_)
    · refine r_iload dX3_change_90 rfl ?_
      refine r_iret dX3_change_92 rfl ?_
      refine ⟨rfl, rfl, ?_, rfl, rfl⟩
      unfold chD
      first | (rw [if_pos (by omega)]; done) | rw [if_neg (by omega)]
    · refine r_aload_n dX3_change_34 rfl ?_
      refine r_aload_n dX3_change_35 rfl ?_
      refine r_callV0I dX3_change_36 moX3_all w_450 w_451 w_452 (hsh.k0 hs) cl3 rfl (Nat.le_of_ble_eq_true rfl) (Nat.le_of_ble_eq_true rfl) (S_all2 hsh hs (sz := sz) (by rw [up2_a _ _ _ (by omega)]; exact hA.2.2.1) wf.2.2.1) ?_
      refine r_putI dX3_change_39 f_X3_41 (hsh.k0 hs) (Or.inl rfl) rfl ?_
      refine r_goto (tgt := 90) dX3_change_42 (by decide) ?_
      refine r_iload dX3_change_90 rfl ?_
      refine r_iret dX3_change_92 rfl ?_
      refine ⟨rfl, rfl, ?_, rfl, rfl⟩
      unfold chD
      first | (rw [if_pos (by omega)]; done) | rw [if_neg (by omega)]
set_option maxRecDepth 20000 in
set_option maxHeartbeats 4000000 in
theorem S_changeT {g : GP} {d n : Nat} {I : TI} {J : TJ} {R : TR} {s : Nat} {dl : Nat → Nat} {tr : Nat → Nat → Nat} {sz rl : Nat} (hsh : Sh n R) (hs : isSky s) (hA : SkyAt I s dl tr sz rl) (wf : WF dl tr sz rl) {j k sl : Nat} (hj : j < 6) (hk : k < 7) (v : Int32) (hst : I s 9 = nI sl) : Wp g (d + 2) mX3_change 0 [.ref s, .int (nI (8 + j)), .int (nI k), .int v, .null] [] 0 0 n I J R (RetI (nI (tr j k)) n (chT I s j k v sl) J R) := by
  refine r_aload_n dX3_change_0 rfl ?_
  refine r_iload_n dX3_change_1 rfl ?_
  refine r_iload_n dX3_change_2 rfl ?_
  refine r_callV2I dX3_change_3 moX3_get w_442 w_443 w_444 (hsh.k0 hs) cl3 rfl (Nat.le_of_ble_eq_true rfl) (Nat.le_of_ble_eq_true rfl) (S_getT hsh hs hA wf hj hk) ?_
  refine r_istore dX3_change_6 (by decide) rfl ?_
  refine r_iload_n dX3_change_8 rfl ?_
  refine r_bipush (v := 8) dX3_change_9 (by decide) ?_
  refine r_callSN2I dX3_change_11 moX6_isBelow (by decide) w_400 (Nat.le_of_ble_eq_true rfl) (Nat.le_of_ble_eq_true rfl) (S_isBelow _ _) ?_
  refine r_ifb_eq (tgt := 45) dX3_change_14 (by decide) (fun h14 => ?_) (fun h14 => by rw [bw_nf (b := 8) (N := 8) rfl (by omega) (by decide) (by omega)] at h14; cases h14)
  refine r_iload_n dX3_change_45 rfl ?_
  refine r_bipush (v := 8) dX3_change_46 (by decide) ?_
  refine r_nisub (b := 8) dX3_change_48 rfl rfl (by omega) ?_
  refine r_bipush (v := 6) dX3_change_49 (by decide) ?_
  refine r_callSN2I dX3_change_51 moX6_isBelow (by decide) w_400 (Nat.le_of_ble_eq_true rfl) (Nat.le_of_ble_eq_true rfl) (S_isBelow _ _) ?_
  refine r_ifb_eq (tgt := 90) dX3_change_54 (by decide) (fun h54 => by rw [bw_nt (b := 6) (N := 6) rfl (by decide) (by omega)] at h54; cases h54) (fun h54 => ?_)
  refine r_iload_n dX3_change_57 rfl ?_
  refine r_bipush (v := 7) dX3_change_58 (by decide) ?_
  refine r_callSN2I dX3_change_60 moX6_isBelow (by decide) w_400 (Nat.le_of_ble_eq_true rfl) (Nat.le_of_ble_eq_true rfl) (S_isBelow _ _) ?_
  refine r_ifb_eq (tgt := 90) dX3_change_63 (by decide) (fun h63 => by rw [bw_nt (b := 7) (N := 7) rfl (by decide) hk] at h63; cases h63) (fun h63 => ?_)
  refine r_aload_n dX3_change_66 rfl ?_
  refine r_getR (b := (s + 2)) dX3_change_67 f_X3_17 (hsh.k0 hs) (Or.inl ⟨_, rfl⟩) (hsh.kr1 hs) (by omega) ?_
  refine r_iload_n dX3_change_70 rfl ?_
  refine r_bipush (v := 8) dX3_change_71 (by decide) ?_
  refine r_nisub (b := 8) dX3_change_73 rfl rfl (by omega) ?_
  refine r_aald (j := j) (b := (s + 3 + j)) dX3_change_74 (hsh.k2 hs) (Or.inl rfl) hj (by rw [Nat.add_sub_cancel_left]) (hsh.krt hs hj) (by omega) ?_
  refine r_iload_n dX3_change_75 rfl ?_
  refine r_iload_n dX3_change_76 rfl ?_
  refine r_iast (j := k) dX3_change_77 (hsh.kt hs hj) hk rfl ?_
  refine r_aload_n dX3_change_78 rfl ?_
  refine r_dup dX3_change_79 rfl ?_
  refine r_getIE dX3_change_80 f_X3_41 (hsh.k0 hs) (Or.inl rfl) (show up2 I (s + 3 + j) k v s 9 = nI sl by rw [up2_a _ _ _ (by omega)]; exact hst) ?_
  refine r_iconst (v := 1) dX3_change_83 (by decide) ?_
  refine r_iload_n dX3_change_84 rfl ?_
  refine r_ishl dX3_change_85 ?_
  refine r_top (v := nI (2 ^ k)) (bit_sh k (by omega)) ?_
  refine r_ior dX3_change_86 ?_
  refine r_top (v := nI (sl ||| 2 ^ k)) (nI_or _ _) ?_
  refine r_putI dX3_change_87 f_X3_41 (hsh.k0 hs) (Or.inl rfl) rfl ?_
  refine r_iload dX3_change_90 rfl ?_
  refine r_iret dX3_change_92 rfl ?_
  exact ⟨rfl, rfl, rfl, rfl, rfl⟩
def alZ (tr : Nat → Nat → Nat) (sz : Nat) (a b c : Int) : Bool := decide (0 ≤ a ∧ a < 13 ∧ 0 ≤ c ∧ c ≤ mostN a.toNat ∧ (8 ≤ a → 0 ≤ b ∧ b < sz) ∧ (a = 10 → c ≤ tr 3 b.toNat) ∧ (a = 11 → tr 2 b.toNat ≤ c))
theorem mostN_le (j : Nat) : mostN j ≤ 199 := by
  unfold mostN
  have h : ∀ q ∈ [9, 9, 9, 199, 199, 99, 199, 199, 9, 99, 199, 199, 99], q ≤ 199 := by decide
  rw [List.getD_eq_getElem?_getD]
  cases e : [9, 9, 9, 199, 199, 99, 199, 199, 9, 99, 199, 199, 99][j]? with
  | none => exact Nat.zero_le _
  | some q => exact h q (List.mem_of_getElem? e)
set_option maxRecDepth 20000 in
set_option maxHeartbeats 4000000 in
theorem S_allows {g : GP} {d n : Nat} {I : TI} {J : TJ} {R : TR} {s : Nat} {dl : Nat → Nat} {tr : Nat → Nat → Nat} {sz rl : Nat} (hsh : Sh n R) (hs : isSky s) (hA : SkyAt I s dl tr sz rl) (wf : WF dl tr sz rl) (hM : ∀ j, j < 13 → I 2 j = nI (mostN j)) {a b c : Int} (ha : inZ a) (hb : inZ b) (hc : inZ c) : Wp g (d + 2) mX3_allows 0 [.ref s, .int (zI a), .int (zI b), .int (zI c)] [] 0 0 n I J R (RetI (b2i (alZ tr sz a b c)) n I J R) := by
  have bz := wf.2.2.1
  refine r_iload_n dX3_allows_0 rfl ?_
  refine getsN_core (q := ("AHundredSights", "MOST", "[I", .null)) (v := .ref 2) dX3_allows_1 (fun g => by simp [zsL, cv, ad, RX6, RX4]) (by decide) ?_
  refine r_alenS dX3_allows_4 rfl ?_
  refine r_callSN2I dX3_allows_5 moX6_isBelow (by decide) w_400 (Nat.le_of_ble_eq_true rfl) (Nat.le_of_ble_eq_true rfl) (S_isBelow _ _) ?_
  refine r_ifb_eq (tgt := 24) dX3_allows_8 (by decide) (fun h8 => ?_) (fun h8 => ?_)
  · have h8 := bz_f (N := 13) h8 rfl ha (by decide)
    refine r_iconst (v := 0) dX3_allows_24 (by decide) ?_
    refine r_bret (b := alZ tr sz a b c) dX3_allows_25 rfl ?_ ?_
    · refine b2i_0 ?_
      unfold alZ
      simp only [decide_eq_true_eq, decide_eq_false_iff_not]
      omega
    · exact ⟨rfl, rfl, rfl, rfl, rfl⟩
  · obtain ⟨w, hw, hwa⟩ := bz_t (N := 13) h8 rfl ha (by decide)
    have hm := mostN_le w
    refine r_iload_n dX3_allows_11 rfl ?_
    refine r_zif_lt (tgt := 24) dX3_allows_12 (by decide) rfl hc (fun h12 => ?_) (fun h12 => ?_)
    · refine r_iconst (v := 0) dX3_allows_24 (by decide) ?_
      refine r_bret (b := alZ tr sz a b c) dX3_allows_25 rfl ?_ ?_
      · refine b2i_0 ?_
        unfold alZ
        simp only [decide_eq_true_eq, decide_eq_false_iff_not]
        have ew : a.toNat = w := by omega
        rw [ew]
        omega
      · exact ⟨rfl, rfl, rfl, rfl, rfl⟩
    · refine r_iload_n dX3_allows_15 rfl ?_
      refine getsN_core (q := ("AHundredSights", "MOST", "[I", .null)) (v := .ref 2) dX3_allows_16 (fun g => by simp [zsL, cv, ad, RX6, RX4]) (by decide) ?_
      refine r_iload_n dX3_allows_19 rfl ?_
      refine r_ialdSE (j := w) dX3_allows_20 rfl hw (by decide) (by rw [hwa]; rfl) (hM w hw) ?_
      refine r_zicmp_le  (tgt := 26) dX3_allows_21 (by decide) rfl (nz _) hc (by unfold inZ; omega) (fun h21 => ?_) (fun h21 => ?_)
      · refine r_iload_n dX3_allows_26 rfl ?_
        refine r_bipush (v := 8) dX3_allows_27 (by decide) ?_
        refine r_zicmp_lt (b := 8)  (tgt := 45) dX3_allows_29 (by decide) rfl (by decide) ha (by unfold inZ; omega) (fun h29 => ?_) (fun h29 => ?_)
        · refine r_iload_n dX3_allows_45 rfl ?_
          refine r_bipush (v := 10) dX3_allows_46 (by decide) ?_
          refine r_zicmp_ne (b := 10)  (tgt := 62) dX3_allows_48 (by decide) rfl (by decide) ha (by unfold inZ; omega) (fun h48 => ?_) (fun h48 => absurd h48 (by omega))
          refine r_iload_n dX3_allows_62 rfl ?_
          refine r_bipush (v := 11) dX3_allows_63 (by decide) ?_
          refine r_zicmp_ne (b := 11)  (tgt := 79) dX3_allows_65 (by decide) rfl (by decide) ha (by unfold inZ; omega) (fun h65 => ?_) (fun h65 => absurd h65 (by omega))
          refine r_iconst (v := 1) dX3_allows_79 (by decide) ?_
          refine r_goto (tgt := 84) dX3_allows_80 (by decide) ?_
          refine r_bret (b := alZ tr sz a b c) dX3_allows_84 rfl ?_ ?_
          · refine b2i_1 ?_
            unfold alZ
            simp only [decide_eq_true_eq, decide_eq_false_iff_not]
            have ew : a.toNat = w := by omega
            rw [ew]
            omega
          · exact ⟨rfl, rfl, rfl, rfl, rfl⟩
        · refine r_iload_n dX3_allows_32 rfl ?_
          refine r_aload_n dX3_allows_33 rfl ?_
          refine r_getIE dX3_allows_34 f_X3_45 (hsh.k0 hs) (Or.inl rfl) hA.2.2.1 ?_
          refine r_callSN2I dX3_allows_37 moX6_isBelow (by decide) w_400 (Nat.le_of_ble_eq_true rfl) (Nat.le_of_ble_eq_true rfl) (S_isBelow _ _) ?_
          refine r_ifb_ne (tgt := 45) dX3_allows_40 (by decide) (fun h40 => ?_) (fun h40 => ?_)
          · obtain ⟨k, hk, hkb⟩ := bz_t (N := sz) h40 rfl hb (by omega)
            have b2 := wf.t2 (k := k) (by omega)
            have b3 := wf.t3 (k := k) (by omega)
            refine r_iload_n dX3_allows_45 rfl ?_
            refine r_bipush (v := 10) dX3_allows_46 (by decide) ?_
            refine r_zicmp_ne (b := 10)  (tgt := 62) dX3_allows_48 (by decide) rfl (by decide) ha (by unfold inZ; omega) (fun h48 => ?_) (fun h48 => ?_)
            · refine r_iload_n dX3_allows_62 rfl ?_
              refine r_bipush (v := 11) dX3_allows_63 (by decide) ?_
              refine r_zicmp_ne (b := 11)  (tgt := 79) dX3_allows_65 (by decide) rfl (by decide) ha (by unfold inZ; omega) (fun h65 => ?_) (fun h65 => ?_)
              · refine r_iconst (v := 1) dX3_allows_79 (by decide) ?_
                refine r_goto (tgt := 84) dX3_allows_80 (by decide) ?_
                refine r_bret (b := alZ tr sz a b c) dX3_allows_84 rfl ?_ ?_
                · refine b2i_1 ?_
                  unfold alZ
                  simp only [decide_eq_true_eq, decide_eq_false_iff_not]
                  have ew : a.toNat = w := by omega
                  rw [ew]
                  have ek : b.toNat = k := by omega
                  rw [ek]
                  omega
                · exact ⟨rfl, rfl, rfl, rfl, rfl⟩
              · refine r_iload_n dX3_allows_68 rfl ?_
                refine r_aload_n dX3_allows_69 rfl ?_
                refine r_bipush (v := 10) dX3_allows_70 (by decide) ?_
                refine r_iload_n dX3_allows_72 rfl ?_
                refine r_top (v := nI k) (by rw [hkb]; rfl) ?_
                refine r_callV2I dX3_allows_73 moX3_get w_442 w_443 w_444 (hsh.k0 hs) cl3 rfl (Nat.le_of_ble_eq_true rfl) (Nat.le_of_ble_eq_true rfl) (S_getT hsh hs hA wf (j := 2) (k := k) (by decide) (by omega)) ?_
                refine r_zicmp_lt  (tgt := 83) dX3_allows_76 (by decide) rfl (nz _) hc (by unfold inZ; omega) (fun h76 => ?_) (fun h76 => ?_)
                · refine r_iconst (v := 0) dX3_allows_83 (by decide) ?_
                  refine r_bret (b := alZ tr sz a b c) dX3_allows_84 rfl ?_ ?_
                  · refine b2i_0 ?_
                    unfold alZ
                    simp only [decide_eq_true_eq, decide_eq_false_iff_not]
                    have ew : a.toNat = w := by omega
                    rw [ew]
                    have ek : b.toNat = k := by omega
                    rw [ek]
                    omega
                  · exact ⟨rfl, rfl, rfl, rfl, rfl⟩
                · refine r_iconst (v := 1) dX3_allows_79 (by decide) ?_
                  refine r_goto (tgt := 84) dX3_allows_80 (by decide) ?_
                  refine r_bret (b := alZ tr sz a b c) dX3_allows_84 rfl ?_ ?_
                  · refine b2i_1 ?_
                    unfold alZ
                    simp only [decide_eq_true_eq, decide_eq_false_iff_not]
                    have ew : a.toNat = w := by omega
                    rw [ew]
                    have ek : b.toNat = k := by omega
                    rw [ek]
                    omega
                  · exact ⟨rfl, rfl, rfl, rfl, rfl⟩
            · refine r_iload_n dX3_allows_51 rfl ?_
              refine r_aload_n dX3_allows_52 rfl ?_
              refine r_bipush (v := 11) dX3_allows_53 (by decide) ?_
              refine r_iload_n dX3_allows_55 rfl ?_
              refine r_top (v := nI k) (by rw [hkb]; rfl) ?_
              refine r_callV2I dX3_allows_56 moX3_get w_442 w_443 w_444 (hsh.k0 hs) cl3 rfl (Nat.le_of_ble_eq_true rfl) (Nat.le_of_ble_eq_true rfl) (S_getT hsh hs hA wf (j := 3) (k := k) (by decide) (by omega)) ?_
              refine r_zicmp_gt  (tgt := 83) dX3_allows_59 (by decide) rfl (nz _) hc (by unfold inZ; omega) (fun h59 => ?_) (fun h59 => ?_)
              · refine r_iconst (v := 0) dX3_allows_83 (by decide) ?_
                refine r_bret (b := alZ tr sz a b c) dX3_allows_84 rfl ?_ ?_
                · refine b2i_0 ?_
                  unfold alZ
                  simp only [decide_eq_true_eq, decide_eq_false_iff_not]
                  have ew : a.toNat = w := by omega
                  rw [ew]
                  have ek : b.toNat = k := by omega
                  rw [ek]
                  omega
                · exact ⟨rfl, rfl, rfl, rfl, rfl⟩
              · refine r_iload_n dX3_allows_62 rfl ?_
                refine r_bipush (v := 11) dX3_allows_63 (by decide) ?_
                refine r_zicmp_ne (b := 11)  (tgt := 79) dX3_allows_65 (by decide) rfl (by decide) ha (by unfold inZ; omega) (fun h65 => ?_) (fun h65 => absurd h65 (by omega))
                refine r_iconst (v := 1) dX3_allows_79 (by decide) ?_
                refine r_goto (tgt := 84) dX3_allows_80 (by decide) ?_
                refine r_bret (b := alZ tr sz a b c) dX3_allows_84 rfl ?_ ?_
                · refine b2i_1 ?_
                  unfold alZ
                  simp only [decide_eq_true_eq, decide_eq_false_iff_not]
                  have ew : a.toNat = w := by omega
                  rw [ew]
                  have ek : b.toNat = k := by omega
                  rw [ek]
                  omega
                · exact ⟨rfl, rfl, rfl, rfl, rfl⟩
          · have h40 := bz_f (N := sz) h40 rfl hb (by omega)
            refine r_iconst (v := 0) dX3_allows_43 (by decide) ?_
            refine r_bret (b := alZ tr sz a b c) dX3_allows_44 rfl ?_ ?_
            · refine b2i_0 ?_
              unfold alZ
              simp only [decide_eq_true_eq, decide_eq_false_iff_not]
              have ew : a.toNat = w := by omega
              rw [ew]
              omega
            · exact ⟨rfl, rfl, rfl, rfl, rfl⟩
      · refine r_iconst (v := 0) dX3_allows_24 (by decide) ?_
        refine r_bret (b := alZ tr sz a b c) dX3_allows_25 rfl ?_ ?_
        · refine b2i_0 ?_
          unfold alZ
          simp only [decide_eq_true_eq, decide_eq_false_iff_not]
          have ew : a.toNat = w := by omega
          rw [ew]
          omega
        · exact ⟨rfl, rfl, rfl, rfl, rfl⟩
