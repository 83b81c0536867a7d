/-! what the changes do to a sky -/
def SkyOK (I : TI) (s : Nat) (dl : Nat → Nat) (tr : Nat → Nat → Nat) (sz rl : Nat) : Prop := SkyAt I s dl tr sz rl ∧ WF dl tr sz rl ∧ ∃ sl, ClOK I s dl tr sz sl
def up1 (f : Nat → Nat) (w v : Nat) : Nat → Nat := fun j => if j = w then v else f j
theorem up1_at (f : Nat → Nat) (w v : Nat) : up1 f w v w = v := if_pos rfl
theorem up1_ne (f : Nat → Nat) {w j : Nat} (v : Nat) (h : j ≠ w) : up1 f w v j = f j := if_neg h
theorem SkyOK.out {I I2 : TI} {s : Nat} {dl : Nat → Nat} {tr : Nat → Nat → Nat} {sz rl : Nat} (h : SkyOK I s dl tr sz rl) (hF : ∀ a, inS s a → I2 a = I a) : SkyOK I2 s dl tr sz rl := by
  obtain ⟨hA, wf, sl, hC⟩ := h
  have hz := wf.2.2.1
  refine ⟨⟨fun j hj => ?_, fun i k hi hk => ?_, ?_, ?_⟩, wf, sl, ?_, hC.2.1, fun k hk hb t ht => ?_⟩
  · rw [hF _ ⟨by omega, by omega⟩]; exact hA.1 j hj
  · rw [hF _ ⟨by omega, by omega⟩]; exact hA.2.1 i k hi hk
  · rw [hF _ ⟨by omega, by omega⟩]; exact hA.2.2.1
  · rw [hF _ ⟨by omega, by omega⟩]; exact hA.2.2.2
  · rw [hF _ ⟨by omega, by omega⟩]; exact hC.1
  · rw [hF _ ⟨by omega, by omega⟩]; exact hC.2.2 k hk hb t ht
theorem SkyOK.beg {I I2 : TI} {R2 : TR} {s : Nat} {dl : Nat → Nat} {tr : Nat → Nat → Nat} {sz rl : Nat} {x : NS} (hs : isSky s) (h : SkyOK I s dl tr sz rl) (hB : BegP I s dl tr sz rl x I2 R2) : SkyOK I2 s dl tr sz rl := ⟨h.1.nt hs hB.2.2.1, h.2.1, 0, hB.2.1⟩
theorem FrNt.oth {s o : Nat} {I I2 : TI} (hs : isSky s) (ho : isSky o) (hne : o ≠ s) (hF : FrNt s I I2) : ∀ a, inS o a → I2 a = I a := fun a ha => by
  have h := inS_no hs ho (fun e => hne e.symm) ha
  have hl := sky_lt ho
  have h1 := ha.2
  unfold inS at h
  exact hF.1 a (by omega) (fun j hj => by omega) (by omega)
theorem visN_dl {dl dl2 : Nat → Nat} {tr : Nat → Nat → Nat} {k : Nat} (h : ∀ j, 1 ≤ j → j ≤ 4 → dl2 j = dl j) : visN dl2 tr k = visN dl tr k := by
  funext t
  unfold visN clN
  rw [h 1 (by decide) (by decide), h 2 (by decide) (by decide), h 3 (by decide) (by decide), h 4 (by decide) (by decide)]
theorem visN_tr {dl : Nat → Nat} {tr tr2 : Nat → Nat → Nat} {k : Nat} (h : ∀ i, tr2 i k = tr i k) : visN dl tr2 k = visN dl tr k := by
  funext t
  unfold visN clN upN
  rw [h 0, h 1, h 2, h 3, h 5]
theorem RowOK.vis {I I2 : TI} {s : Nat} {dl dl2 : Nat → Nat} {tr tr2 : Nat → Nat → Nat} {k : Nat} (h : RowOK I s dl tr k) (hv : visN dl2 tr2 k = visN dl tr k) (hF : I2 (s + 10 + k) = I (s + 10 + k)) : RowOK I2 s dl2 tr2 k := fun t ht => by rw [hF, hv]; exact h t ht
theorem tb_all {sz k : Nat} (h : k < sz) : (2 ^ sz - 1).testBit k = true := by rw [Nat.testBit_two_pow_sub_one]; exact decide_eq_true h
theorem p2_lt {sz : Nat} (h : sz ≤ 7) : 2 ^ sz - 1 < 128 := by
  have := Nat.pow_le_pow_right (n := 2) (by decide) h
  omega
theorem SkyOK.upD {I : TI} {s : Nat} {dl : Nat → Nat} {tr : Nat → Nat → Nat} {sz rl w v : Nat} (h : SkyOK I s dl tr sz rl) (hw : w < 8) (hv : v ≤ dB w) : SkyOK (chD I s w (nI v) sz) s (up1 dl w v) tr sz rl := by
  obtain ⟨hA, wf, sl, hC⟩ := h
  have hz := wf.2.2.1
  have e : ∀ a, a ≠ s → a ≠ s + 1 → chD I s w (nI v) sz a = I a := fun a h1 h2 => by
    unfold chD; split
    · rw [up2_a _ _ _ h1, up2_a _ _ _ h2]
    · rw [up2_a _ _ _ h2]
  have e2 : ∀ j, j ≠ 9 → chD I s w (nI v) sz s j = I s j := fun j hj => by
    unfold chD; split
    · rw [up2_k _ _ hj, up2_a _ _ _ (by omega)]
    · rw [up2_a _ _ _ (by omega)]
  have e3 : ∀ j, chD I s w (nI v) sz (s + 1) j = if j = w then nI v else I (s + 1) j := fun j => by
    have e4 : chD I s w (nI v) sz (s + 1) = up2 I (s + 1) w (nI v) (s + 1) := by
      unfold chD; split
      · rw [up2_a _ _ _ (by omega)]
      · rfl
    rw [e4]
    by_cases hj : j = w
    · subst hj; rw [up2_at, if_pos rfl]
    · rw [up2_k _ _ hj, if_neg hj]
  refine ⟨⟨fun j hj => ?_, fun i k hi hk => ?_, ?_, ?_⟩, ⟨fun j hj => ?_, wf.2.1, wf.2.2⟩, ?_⟩
  · rw [e3 j]; unfold up1; split
    · rfl
    · exact hA.1 j hj
  · rw [e _ (by omega) (by omega)]; exact hA.2.1 i k hi hk
  · rw [e2 _ (by decide)]; exact hA.2.2.1
  · rw [e2 _ (by decide)]; exact hA.2.2.2
  · unfold up1; split
    · rename_i hjw; rw [hjw]; exact hv
    · exact wf.1 j hj
  · by_cases hc : 1 ≤ w ∧ w ≤ 4
    · refine ⟨2 ^ sz - 1, ?_, p2_lt hz, fun k hk hb => ?_⟩
      · unfold chD; rw [if_pos hc, up2_at]
      · rw [tb_all hk] at hb; cases hb
    · refine ⟨sl, ?_, hC.2.1, fun k hk hb => (hC.2.2 k hk hb).vis (visN_dl fun j h1 h2 => up1_ne _ _ (by omega)) (e _ (by omega) (by omega))⟩
      unfold chD; rw [if_neg hc, up2_a _ _ _ (by omega)]; exact hC.1
theorem up2_kk {tr : Nat → Nat → Nat} {j k v q : Nat} (h : q ≠ k) (i : Nat) : up2 tr j k v i q = tr i q := by
  by_cases e : i = j
  · subst e; rw [up2_k _ _ h]
  · rw [up2_a _ _ _ e]
theorem WF.upTr {dl : Nat → Nat} {tr : Nat → Nat → Nat} {sz rl j k v : Nat} (wf : WF dl tr sz rl) (hv : v ≤ tB j) : WF dl (up2 tr j k v) sz rl := ⟨wf.1, fun i q hi hq => by
  by_cases e : i = j
  · subst e
    by_cases e2 : q = k
    · subst e2; rw [up2_at]; exact hv
    · rw [up2_k _ _ e2]; exact wf.2.1 i q hi hq
  · rw [up2_a _ _ _ e]; exact wf.2.1 i q hi hq, wf.2.2⟩
theorem tb_or {sl k q : Nat} (h : (sl ||| 2 ^ k).testBit q = false) : q ≠ k ∧ sl.testBit q = false := by
  rw [Nat.testBit_or, Bool.or_eq_false_iff] at h
  refine ⟨fun e => ?_, h.1⟩
  subst e
  rw [Nat.testBit_two_pow_self] at h
  exact absurd h.2 (by decide)
theorem or_lt {sl k : Nat} (h : sl < 128) (hk : k < 7) : sl ||| 2 ^ k < 128 := Nat.or_lt_two_pow (n := 7) h (by
  have := Nat.pow_lt_pow_right (a := 2) (by decide) hk
  exact this)
theorem SkyOK.upT {I : TI} {s : Nat} {dl : Nat → Nat} {tr : Nat → Nat → Nat} {sz rl j k v : Nat} (h : SkyOK I s dl tr sz rl) {sl : Nat} (hC : ClOK I s dl tr sz sl) (hj : j < 6) (hk : k < 7) (hv : v ≤ tB j) : SkyOK (chT I s j k (nI v) sl) s dl (up2 tr j k v) sz rl := by
  obtain ⟨hA, wf, _⟩ := h
  have hz := wf.2.2.1
  refine ⟨hA.upTr hj, wf.upTr hv, sl ||| 2 ^ k, ?_, or_lt hC.2.1 hk, fun q hq hb => ?_⟩
  · unfold chT; rw [up2_at]
  · have hb2 := tb_or hb
    refine (hC.2.2 q hq hb2.2).vis (visN_tr (up2_kk hb2.1)) ?_
    unfold chT
    rw [up2_a _ _ _ (by omega), up2_a _ _ _ (by omega)]
theorem addTr_ne {tr : Nat → Nat → Nat} {k kd nu sp q : Nat} (h : q ≠ k) (i : Nat) : addTr tr k kd nu sp i q = tr i q := by
  unfold addTr
  rw [up2_kk h, up2_kk h, up2_kk h, up2_kk h, up2_kk h, up2_kk h]
theorem SkyOK.addS {I I2 : TI} {s : Nat} {dl : Nat → Nat} {tr : Nat → Nat → Nat} {sz rl sl kd nu sp : Nat} (h : SkyOK I s dl tr sz rl) (hC : ClOK I s dl tr sz sl) (hk : kd ≤ 5) (hn : nu ≤ 9) (hp : sp ≤ 99) (h7 : sz < 7) (h1 : SkyAt I2 s dl (addTr tr sz kd nu sp) (sz + 1) rl) (h2 : AddOK s sl sz I I2) : SkyOK I2 s dl (addTr tr sz kd nu sp) (sz + 1) rl := by
  obtain ⟨hA, wf, _⟩ := h
  have hw : WF dl (addTr tr sz kd nu sp) sz rl := by
    unfold addTr
    exact (((((wf.upTr hk).upTr hn).upTr hp).upTr (Nat.zero_le _)).upTr (by decide)).upTr (by decide)
  refine ⟨h1, ⟨hw.1, hw.2.1, h7, hw.2.2.2⟩, sl ||| 2 ^ sz, h2.2.2.2, or_lt hC.2.1 h7, fun q hq hb => ?_⟩
  have hb2 := tb_or hb
  exact (hC.2.2 q (by omega) hb2.2).vis (visN_tr (addTr_ne hb2.1)) (h2.1 _ (by omega) (fun i hi => by omega))
theorem SkyOK.take {I I2 : TI} {s o : Nat} {dl : Nat → Nat} {tr : Nat → Nat → Nat} {sz rl : Nat} (h : SkyOK I o dl tr sz rl) (hT : TakeOK s o I I2) : SkyOK I2 s dl tr sz rl := by
  obtain ⟨hA, wf, sl, hC⟩ := h
  have hz := wf.2.2.1
  obtain ⟨t1, t2, t3, t4, t5, t6, t7⟩ := hT
  refine ⟨⟨fun j hj => ?_, fun i k hi hk => ?_, ?_, ?_⟩, wf, sl, ?_, hC.2.1, fun k hk hb t ht => ?_⟩
  · rw [t2 j hj]; exact hA.1 j hj
  · rw [t3 i hi k hk]; exact hA.2.1 i k hi hk
  · rw [t6]; exact hA.2.2.1
  · rw [t7]; exact hA.2.2.2
  · rw [t5]; exact hC.1
  · rw [t4 k (by omega) t ht]; exact hC.2.2 k hk hb t ht
theorem SkyOK.upRl {I : TI} {s : Nat} {dl : Nat → Nat} {tr : Nat → Nat → Nat} {sz rl v : Nat} (h : SkyOK I s dl tr sz rl) (hv : v ≤ 5) : SkyOK (up2 I s 11 (nI v)) s dl tr sz v := by
  obtain ⟨hA, wf, sl, hC⟩ := h
  refine ⟨⟨fun j hj => ?_, fun i k hi hk => ?_, ?_, up2_at _ _ _ _⟩, ⟨wf.1, wf.2.1, wf.2.2.1, hv⟩, sl, ?_, hC.2.1, fun k hk hb t ht => ?_⟩
  · rw [up2_a _ _ _ (by omega)]; exact hA.1 j hj
  · rw [up2_a _ _ _ (by omega)]; exact hA.2.1 i k hi hk
  · rw [up2_k _ _ (by decide)]; exact hA.2.2.1
  · rw [up2_k _ _ (by decide)]; exact hC.1
  · rw [up2_a _ _ _ (by omega)]; exact hC.2.2 k hk hb t ht
