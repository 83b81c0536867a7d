/-! what a sky is: its numbers, and what they say -/
def dB (j : Nat) : Nat := [9, 9, 9, 199, 199, 99, 199, 199].getD j 0
def tB (i : Nat) : Nat := [9, 99, 199, 199, 99, 5].getD i 0
def SkyAt (I : TI) (s : Nat) (dl : Nat → Nat) (tr : Nat → Nat → Nat) (sz rl : Nat) : Prop := (∀ j, j < 8 → I (s + 1) j = nI (dl j)) ∧ (∀ i k, i < 6 → k < 7 → I (s + 3 + i) k = nI (tr i k)) ∧ I s 10 = nI sz ∧ I s 11 = nI rl
def WF (dl : Nat → Nat) (tr : Nat → Nat → Nat) (sz rl : Nat) : Prop := (∀ j, j < 8 → dl j ≤ dB j) ∧ (∀ i k, i < 6 → k < 7 → tr i k ≤ tB i) ∧ sz ≤ 7 ∧ rl ≤ 5
section XSk
variable {I : TI} {s : Nat} {dl : Nat → Nat} {tr : Nat → Nat → Nat} {sz rl : Nat}
theorem SkyAt.d (h : SkyAt I s dl tr sz rl) {j : Nat} (hj : j < 8) : I (s + 1) j = nI (dl j) := h.1 j hj
theorem SkyAt.t0 (h : SkyAt I s dl tr sz rl) {k : Nat} (hk : k < 7) : I (s + 3) k = nI (tr 0 k) := h.2.1 0 k (by decide) hk
theorem WF.t0 (h : WF dl tr sz rl) {k : Nat} (hk : k < 7) : tr 0 k ≤ 9 := h.2.1 0 k (by decide) hk
theorem SkyAt.t1 (h : SkyAt I s dl tr sz rl) {k : Nat} (hk : k < 7) : I (s + 4) k = nI (tr 1 k) := h.2.1 1 k (by decide) hk
theorem WF.t1 (h : WF dl tr sz rl) {k : Nat} (hk : k < 7) : tr 1 k ≤ 99 := h.2.1 1 k (by decide) hk
theorem SkyAt.t2 (h : SkyAt I s dl tr sz rl) {k : Nat} (hk : k < 7) : I (s + 5) k = nI (tr 2 k) := h.2.1 2 k (by decide) hk
theorem WF.t2 (h : WF dl tr sz rl) {k : Nat} (hk : k < 7) : tr 2 k ≤ 199 := h.2.1 2 k (by decide) hk
theorem SkyAt.t3 (h : SkyAt I s dl tr sz rl) {k : Nat} (hk : k < 7) : I (s + 6) k = nI (tr 3 k) := h.2.1 3 k (by decide) hk
theorem WF.t3 (h : WF dl tr sz rl) {k : Nat} (hk : k < 7) : tr 3 k ≤ 199 := h.2.1 3 k (by decide) hk
theorem SkyAt.t4 (h : SkyAt I s dl tr sz rl) {k : Nat} (hk : k < 7) : I (s + 7) k = nI (tr 4 k) := h.2.1 4 k (by decide) hk
theorem WF.t4 (h : WF dl tr sz rl) {k : Nat} (hk : k < 7) : tr 4 k ≤ 99 := h.2.1 4 k (by decide) hk
theorem SkyAt.t5 (h : SkyAt I s dl tr sz rl) {k : Nat} (hk : k < 7) : I (s + 8) k = nI (tr 5 k) := h.2.1 5 k (by decide) hk
theorem WF.t5 (h : WF dl tr sz rl) {k : Nat} (hk : k < 7) : tr 5 k ≤ 5 := h.2.1 5 k (by decide) hk
theorem WF.d0 (h : WF dl tr sz rl) : dl 0 ≤ 9 := h.1 0 (by decide)
theorem WF.d1 (h : WF dl tr sz rl) : dl 1 ≤ 9 := h.1 1 (by decide)
theorem WF.d2 (h : WF dl tr sz rl) : dl 2 ≤ 9 := h.1 2 (by decide)
theorem WF.d3 (h : WF dl tr sz rl) : dl 3 ≤ 199 := h.1 3 (by decide)
theorem WF.d4 (h : WF dl tr sz rl) : dl 4 ≤ 199 := h.1 4 (by decide)
theorem WF.d5 (h : WF dl tr sz rl) : dl 5 ≤ 99 := h.1 5 (by decide)
theorem WF.d6 (h : WF dl tr sz rl) : dl 6 ≤ 199 := h.1 6 (by decide)
theorem WF.d7 (h : WF dl tr sz rl) : dl 7 ≤ 199 := h.1 7 (by decide)
end XSk
def upN (tr : Nat → Nat → Nat) (k t : Nat) : Bool :=
  if t < tr 2 k then false
  else if tr 5 k = 1 ∨ tr 5 k = 3 then decide (t ≤ tr 3 k) && decide (tr 2 k + tr 0 k ≤ t)
  else if tr 5 k = 2 ∨ tr 5 k = 4 then decide (t ≤ tr 3 k + tr 0 k)
  else if tr 5 k = 5 then decide (t ≤ tr 3 k) && decide (t % (tr 0 k + 2) ≠ 0)
  else decide (t ≤ tr 3 k)
def clN (dl : Nat → Nat) (tr : Nat → Nat → Nat) (k t : Nat) : Bool := decide (dl 1 ≤ tr 1 k % 10) && decide (tr 1 k % 10 ≤ dl 2) && decide (dl 3 ≤ t) && decide (t ≤ dl 4)
def needN (dl : Nat → Nat) (tr : Nat → Nat → Nat) (k v : Nat) : Nat :=
  let x := if tr 5 k = 1 then v + dl 0 else if tr 5 k = 2 then v / 2 else if tr 5 k = 3 then 2 * (v + dl 0) else if tr 5 k = 4 then v / 2 + tr 0 k else v
  if x < 1 then 1 else x
def payN (tr : Nat → Nat → Nat) (k : Nat) : Nat := if tr 5 k = 1 then tr 4 k + tr 0 k else if tr 5 k = 3 then 2 * (tr 4 k + tr 0 k) else if tr 5 k = 4 then tr 4 k + 1 else tr 4 k
set_option maxRecDepth 20000 in
set_option maxHeartbeats 2000000 in
theorem S_isBelow {g : GP} {d n : Nat} {I : TI} {J : TJ} {R : TR} (x b : Int32) : Wp g d mX6_isBelow 0 [.int x, .int b] [] 0 0 n I J R (RetI (b2i (bw x b)) n I J R) := by
  refine r_iload_n dX6_isBelow_0 rfl ?_
  refine r_if_lt (tgt := 13) dX6_isBelow_1 (by decide) (fun h1 => ?_) (fun h1 => ?_)
  · refine r_iconst (v := 0) dX6_isBelow_13 (by decide) ?_
    refine r_bret (b := bw x b) dX6_isBelow_14 rfl ?_ ?_
    · first | exact b2i_1 (bw_t (by rw [Int32.not_lt] at h1; exact h1) (by rw [Int32.not_le] at h6; exact h6)) | exact b2i_0 (bw_f1 h1) | exact b2i_0 (bw_f2 (by rw [Int32.not_lt]; exact h6))
    · exact ⟨rfl, rfl, rfl, rfl, rfl⟩
  · refine r_iload_n dX6_isBelow_4 rfl ?_
    refine r_iload_n dX6_isBelow_5 rfl ?_
    refine r_icmp_ge (tgt := 13) dX6_isBelow_6 (by decide) (fun h6 => ?_) (fun h6 => ?_)
    · refine r_iconst (v := 0) dX6_isBelow_13 (by decide) ?_
      refine r_bret (b := bw x b) dX6_isBelow_14 rfl ?_ ?_
      · first | exact b2i_1 (bw_t (by rw [Int32.not_lt] at h1; exact h1) (by rw [Int32.not_le] at h6; exact h6)) | exact b2i_0 (bw_f1 h1) | exact b2i_0 (bw_f2 (by rw [Int32.not_lt]; exact h6))
      · exact ⟨rfl, rfl, rfl, rfl, rfl⟩
    · refine r_iconst (v := 1) dX6_isBelow_9 (by decide) ?_
      refine r_goto (tgt := 14) dX6_isBelow_10 (by decide) ?_
      refine r_bret (b := bw x b) dX6_isBelow_14 rfl ?_ ?_
      · first | exact b2i_1 (bw_t (by rw [Int32.not_lt] at h1; exact h1) (by rw [Int32.not_le] at h6; exact h6)) | exact b2i_0 (bw_f1 h1) | exact b2i_0 (bw_f2 (by rw [Int32.not_lt]; exact h6))
      · exact ⟨rfl, rfl, rfl, rfl, rfl⟩
set_option maxRecDepth 20000 in
set_option maxHeartbeats 2000000 in
theorem S_all {g : GP} {d n : Nat} {I : TI} {J : TJ} {R : TR} {s : Nat} {dl : Nat → Nat} {tr : Nat → Nat → Nat} {sz rl : Nat} (hsh : Sh n R) (hs : isSky s) (hA : SkyAt I s dl tr sz rl) (wf : WF dl tr sz rl) : Wp g d mX3_all 0 [.ref s] [] 0 0 n I J R (RetI (nI (2 ^ sz - 1)) n I J R) := by
  have bz := wf.2.2.1
  refine r_iconst (v := 1) dX3_all_0 (by decide) ?_
  refine r_aload_n dX3_all_1 rfl ?_
  refine r_getIE dX3_all_2 f_X3_45 (hsh.k0 hs) (Or.inl rfl) hA.2.2.1 ?_
  refine r_ishl dX3_all_5 ?_
  refine r_iconst (v := 1) dX3_all_6 (by decide) ?_
  refine r_isub dX3_all_7 ?_
  refine r_iret dX3_all_8 rfl ?_
  refine retI ?_
  have e : sz = 0 ∨ sz = 1 ∨ sz = 2 ∨ sz = 3 ∨ sz = 4 ∨ sz = 5 ∨ sz = 6 ∨ sz = 7 := by omega
  rcases e with rfl | rfl | rfl | rfl | rfl | rfl | rfl | rfl <;> decide
set_option maxRecDepth 20000 in
set_option maxHeartbeats 2000000 in
theorem S_getD {g : GP} {d n : Nat} {I : TI} {J : TJ} {R : TR} {s : Nat} {dl : Nat → Nat} {tr : Nat → Nat → Nat} {sz rl : Nat} (hsh : Sh n R) (hs : isSky s) (hA : SkyAt I s dl tr sz rl) (wf : WF dl tr sz rl) {w : Nat} (hw : w < 8) (x : Int32) : Wp g (d + 1) mX3_get 0 [.ref s, .int (nI w), .int x, .null] [] 0 0 n I J R (RetI (nI (dl w)) n I J R) := by
  refine r_iload_n dX3_get_0 rfl ?_
  refine r_bipush (v := 8) dX3_get_1 (by decide) ?_
  refine r_callSN2I dX3_get_3 moX6_isBelow (by decide) w_400 (Nat.le_of_ble_eq_true rfl) (Nat.le_of_ble_eq_true rfl) (S_isBelow _ _) ?_
  refine r_ifb_eq (tgt := 16) dX3_get_6 (by decide) (fun h6 => by rw [bw_nt (b := 8) (N := 8) rfl (by decide) hw] at h6; cases h6) (fun h6 => ?_)
  refine r_aload_n dX3_get_9 rfl ?_
  refine r_getR (b := (s + 1)) dX3_get_10 f_X3_9 (hsh.k0 hs) (Or.inl ⟨_, rfl⟩) (hsh.kr0 hs) (by omega) ?_
  refine r_iload_n dX3_get_13 rfl ?_
  refine r_ialdE (j := w) dX3_get_14 (hsh.k1 hs) hw rfl (hA.d hw) ?_
  refine r_iret dX3_get_15 rfl ?_
  exact retI rfl
set_option maxRecDepth 20000 in
set_option maxHeartbeats 2000000 in
theorem S_getT {g : GP} {d n : Nat} {I : TI} {J : TJ} {R : TR} {s : Nat} {dl : Nat → Nat} {tr : Nat → Nat → Nat} {sz rl : Nat} (hsh : Sh n R) (hs : isSky s) (hA : SkyAt I s dl tr sz rl) (wf : WF dl tr sz rl) {j k : Nat} (hj : j < 6) (hk : k < 7) : Wp g (d + 1) mX3_get 0 [.ref s, .int (nI (8 + j)), .int (nI k), .null] [] 0 0 n I J R (RetI (nI (tr j k)) n I J R) := by
  refine r_iload_n dX3_get_0 rfl ?_
  refine r_bipush (v := 8) dX3_get_1 (by decide) ?_
  refine r_callSN2I dX3_get_3 moX6_isBelow (by decide) w_400 (Nat.le_of_ble_eq_true rfl) (Nat.le_of_ble_eq_true rfl) (S_isBelow _ _) ?_
  refine r_ifb_eq (tgt := 16) dX3_get_6 (by decide) (fun h6 => ?_) (fun h6 => by rw [bw_nf (b := 8) (N := 8) rfl (by omega) (by decide) (by omega)] at h6; cases h6)
  refine r_iload_n dX3_get_16 rfl ?_
  refine r_bipush (v := 8) dX3_get_17 (by decide) ?_
  refine r_nisub (b := 8) dX3_get_19 rfl rfl (by omega) ?_
  refine r_bipush (v := 6) dX3_get_20 (by decide) ?_
  refine r_callSN2I dX3_get_22 moX6_isBelow (by decide) w_400 (Nat.le_of_ble_eq_true rfl) (Nat.le_of_ble_eq_true rfl) (S_isBelow _ _) ?_
  refine r_ifb_eq (tgt := 41) dX3_get_25 (by decide) (fun h25 => by rw [bw_nt (b := 6) (N := 6) rfl (by decide) (by omega)] at h25; cases h25) (fun h25 => ?_)
  refine r_iload_n dX3_get_28 rfl ?_
  refine r_bipush (v := 7) dX3_get_29 (by decide) ?_
  refine r_callSN2I dX3_get_31 moX6_isBelow (by decide) w_400 (Nat.le_of_ble_eq_true rfl) (Nat.le_of_ble_eq_true rfl) (S_isBelow _ _) ?_
  refine r_ifb_eq (tgt := 41) dX3_get_34 (by decide) (fun h34 => by rw [bw_nt (b := 7) (N := 7) rfl (by decide) hk] at h34; cases h34) (fun h34 => ?_)
  refine r_iconst (v := 1) dX3_get_37 (by decide) ?_
  refine r_goto (tgt := 42) dX3_get_38 (by decide) ?_
  refine r_istore_n dX3_get_42 (by decide) rfl ?_
  refine r_iload_n dX3_get_43 rfl ?_
  refine r_if_eq (tgt := 61) dX3_get_44 (by decide) (fun h44 => absurd h44 (by decide)) (fun h44 => ?_)
  refine r_aload_n dX3_get_47 rfl ?_
  refine r_getR (b := (s + 2)) dX3_get_48 f_X3_17 (hsh.k0 hs) (Or.inl ⟨_, rfl⟩) (hsh.kr1 hs) (by omega) ?_
  refine r_iload_n dX3_get_51 rfl ?_
  refine r_bipush (v := 8) dX3_get_52 (by decide) ?_
  refine r_nisub (b := 8) dX3_get_54 rfl rfl (by omega) ?_
  refine r_aald (j := j) (b := (s + 3 + j)) dX3_get_55 (hsh.k2 hs) (Or.inl rfl) hj (by rw [Nat.add_sub_cancel_left]) (hsh.krt hs hj) (by omega) ?_
  refine r_iload_n dX3_get_56 rfl ?_
  refine r_ialdE (j := k) dX3_get_57 (hsh.kt hs hj) hk rfl (hA.2.1 j k hj hk) ?_
  refine r_goto (tgt := 63) dX3_get_58 (by decide) ?_
  refine r_iret dX3_get_63 rfl ?_
  exact retI rfl
