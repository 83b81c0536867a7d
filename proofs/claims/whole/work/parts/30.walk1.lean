/-! the walk: what a night is -/
theorem r_some {g : GP} {d : Nat} {M : MD} {pc : Nat} {L rest : List Value} {bc bs n : Nat} {I : TI} {J : TJ} {R : TR} {Q : TQ} {v w : Int32} (h : v = w) (K : Wp g d M pc L (.int w :: rest) bc bs n I J R Q) : Wp g d M pc L ((some (Value.int v)).toList ++ rest) bc bs n I J R Q := by rw [h]; exact K
def FrW (I I' : TI) : Prop := ∀ a, a < 97 ∨ 101 < a → I' a = I a
theorem FrW.rf {I : TI} : FrW I I := fun _ _ => rfl
theorem FrW.u {I I' : TI} (h : FrW I I') {b k : Nat} {v : Int32} (hb : 97 ≤ b ∧ b ≤ 101) : FrW I (up2 I' b k v) := fun a ha => by rw [up2_a _ _ _ (by omega)]; exact h a ha
theorem FrW.t {I I' I2 : TI} (h : FrW I I') (h2 : FrW I' I2) : FrW I I2 := fun a ha => (h2 a ha).trans (h a ha)
theorem FrW.ofA {I I' : TI} {b : Nat} (h : FrA b I I') (hb : 97 ≤ b ∧ b ≤ 101) : FrW I I' := fun a ha => h a (by omega)
theorem sky_lt {s : Nat} (hs : isSky s) : s + 16 < 97 := by rcases hs with rfl | rfl | rfl <;> decide
theorem text_lt {t : Nat} (ht : isText t) : t + 2 < 97 := by rcases ht with rfl | rfl | rfl | rfl | rfl | rfl | rfl <;> decide
theorem SkyAt.w {I I' : TI} {s : Nat} {dl : Nat → Nat} {tr : Nat → Nat → Nat} {sz rl : Nat} (hs : isSky s) (h : SkyAt I s dl tr sz rl) (hF : FrW I I') : SkyAt I' s dl tr sz rl := by
  have hl := sky_lt hs
  refine ⟨fun j hj => ?_, fun i k hi hk => ?_, ?_, ?_⟩
  · rw [hF _ (by omega)]; exact h.1 j hj
  · rw [hF _ (by omega)]; exact h.2.1 i k hi hk
  · rw [hF _ (by omega)]; exact h.2.2.1
  · rw [hF _ (by omega)]; exact h.2.2.2
theorem RowOK.w {I I' : TI} {s : Nat} {dl : Nat → Nat} {tr : Nat → Nat → Nat} {k : Nat} (hs : isSky s) (hk : k < 7) (h : RowOK I s dl tr k) (hF : FrW I I') : RowOK I' s dl tr k := fun t ht => by
  have hl := sky_lt hs
  rw [hF _ (by omega)]; exact h t ht
theorem TextOK.w {I I' : TI} {t : Nat} {en : Nat → Nat} (ht : isText t) (h : TextOK I t en) (hF : FrW I I') : TextOK I' t en := ⟨fun p hp => by have := text_lt ht; rw [hF _ (by omega)]; exact h.1 p hp, h.2⟩
theorem mkA_w {I I' : TI} {t : Nat} (ht : isText t) (hF : FrW I I') : mkA I' t = mkA I t := by
  have := text_lt ht
  unfold mkA
  rw [hF _ (by omega)]
/-- the bounds of a text's parts, which the class keeps in two rows -/
def KS (I : TI) : Prop := (∀ p, p < 3 → I 4 p = nI (lvN p)) ∧ ∀ p, p < 3 → I 5 p = nI (mvN p)
theorem KS.w {I I' : TI} (h : KS I) (hF : FrW I I') : KS I' := ⟨fun p hp => by rw [hF _ (by omega)]; exact h.1 p hp, fun p hp => by rw [hF _ (by omega)]; exact h.2 p hp⟩
theorem evS_congr {nm nm' : Nat → Int32} (h : ∀ j, j < 6 → nm j = nm' j) (z : Int) (st : List Int32) : evS nm z st = evS nm' z st := by
  unfold evS
  split
  · split
    · rfl
    · rw [h _ (by omega)]
  · rfl
theorem evR_congr {nm nm' : Nat → Int32} (h : ∀ j, j < 6 → nm j = nm' j) (mk : Nat → Int) : ∀ m i st, evR nm mk m i st = evR nm' mk m i st
  | 0, _, _ => rfl
  | m + 1, i, st => by
    show evR nm mk m (i + 1) (evS nm (mk i) st) = evR nm' mk m (i + 1) (evS nm' (mk i) st)
    rw [evS_congr h, evR_congr h mk m]
theorem tvN_congr {nm nm' : Nat → Int32} (h : ∀ j, j < 6 → nm j = nm' j) (mk : Nat → Int) (en : Nat → Nat) (p : Nat) : tvN mk en p nm = tvN mk en p nm' := by unfold tvN; rw [evR_congr h]
theorem clP_le (p : Nat) (st : List Int32) : clP p st ≤ 99 := by
  have h := mvN_le p
  unfold clP
  simp only
  generalize hw : (if (st.headD 0).toInt < (lvN p : Int) then (lvN p : Int) else (st.headD 0).toInt) = w
  split <;> omega
theorem tvN_le (mk : Nat → Int) (en : Nat → Nat) (p : Nat) (nm : Nat → Int32) : tvN mk en p nm ≤ 99 := clP_le _ _
/-- one who goes through a night: where, when, worth, found, waited, found in, waited for -/
abbrev NS : Type := Nat × Nat × Int × Nat × Nat × (Nat → Int) × (Nat → Int)
abbrev nAt (x : NS) : Nat := x.1
abbrev nTick (x : NS) : Nat := x.2.1
abbrev nWorth (x : NS) : Int := x.2.2.1
abbrev nFound (x : NS) : Nat := x.2.2.2.1
abbrev nWait (x : NS) : Nat := x.2.2.2.2.1
abbrev nFi (x : NS) : Nat → Int := x.2.2.2.2.2.1
abbrev nWf (x : NS) : Nat → Int := x.2.2.2.2.2.2
def WkAt (I : TI) (x : NS) : Prop := I 97 7 = nI (nAt x) ∧ I 97 8 = nI (nTick x) ∧ I 97 9 = zI (nWorth x) ∧ I 97 10 = nI (nFound x) ∧ I 97 11 = nI (nWait x) ∧ (∀ k, k < 7 → I 100 k = zI (nFi x k)) ∧ ∀ k, k < 7 → I 101 k = zI (nWf x k)
def nmN (a b c d e f : Nat) : Nat → Int32 := fun j => nI ([a, b, c, d, e, f].getD j 0)
def upZ (f : Nat → Int) (k : Nat) (v : Int) : Nat → Int := fun j => if j = k then v else f j
theorem upZ_at (f : Nat → Int) (k : Nat) (v : Int) : upZ f k v k = v := if_pos rfl
theorem upZ_ne (f : Nat → Int) {k j : Nat} (v : Int) (h : j ≠ k) : upZ f k v j = f j := if_neg h
def farN (a b : Nat) : Nat :=
  let dx := (((a % 10 : Nat) : Int) - ((b % 10 : Nat) : Int)).natAbs
  let dy := (((a / 10 : Nat) : Int) - ((b / 10 : Nat) : Int)).natAbs
  if dx < dy then dy else dx
abbrev TV : Type := Nat → (Nat → Int32) → Nat
/-- he looks for sight k, which is the place-th -/
def lookN (dl : Nat → Nat) (tr : Nat → Nat → Nat) (V : TV) (k place : Nat) (x : NS) : NS :=
  let far := farN (nAt x) (tr 1 k)
  let t1 := nTick x + V 0 (nmN (nTick x) far (dl 0) (tr 0 k) (tr 1 k / 10) place)
  let nm := nmN t1 far (dl 0) (tr 0 k) (tr 1 k / 10) place
  let need := needN dl tr k (V 1 nm)
  match fstN (visN dl tr k) need (if 199 < t1 + dl 7 then 199 else t1 + dl 7) (200 - t1) t1 with
  | none => x
  | some w => (tr 1 k, w + need, nWorth x - (((w - t1 : Nat) : Int) * (V 2 nm : Nat)) + (payN tr k : Nat), nFound x ||| 2 ^ k, nWait x + (w - t1), upZ (nFi x) k (((w + need : Nat) : Int) - 1), upZ (nWf x) k ((w - t1 : Nat) : Int))
theorem fstN_ge {f : Nat → Bool} {needs last : Nat} : ∀ {m t w : Nat}, fstN f needs last m t = some w → t ≤ w ∧ w ≤ last ∧ needs ≤ rlF f (200 - w)
  | 0, _, _, h => by cases h
  | m + 1, t, w, h => by
    unfold fstN at h
    split at h
    · split at h
      · cases h; exact ⟨Nat.le_refl _, by assumption, by assumption⟩
      · have := fstN_ge h; exact ⟨by omega, this.2⟩
    · cases h
/-- what a night goes by: the sky, its rows of clear, the text that is the rule -/
def NC (n : Nat) (I : TI) (R : TR) (s t : Nat) (en dl : Nat → Nat) (tr : Nat → Nat → Nat) (sz rl : Nat) : Prop := Sh n R ∧ isSky s ∧ isText t ∧ SkyAt I s dl tr sz rl ∧ WF dl tr sz rl ∧ (∀ k, k < sz → RowOK I s dl tr k) ∧ TextOK I t en ∧ R 97 5 = s ∧ R 97 6 = t ∧ KS I
theorem NC.w {n : Nat} {I I' : TI} {R : TR} {s t : Nat} {en dl : Nat → Nat} {tr : Nat → Nat → Nat} {sz rl : Nat} (h : NC n I R s t en dl tr sz rl) (hF : FrW I I') : NC n I' R s t en dl tr sz rl := by
  obtain ⟨h1, h2, h3, h4, h5, h6, h7, h8, h9, h10⟩ := h
  have hz := h5.2.2.1
  exact ⟨h1, h2, h3, h4.w h2 hF, h5, fun k hk => (h6 k hk).w h2 (by omega) hF, h7.w h3 hF, h8, h9, h10.w hF⟩
theorem nI_sub1 (a : Nat) : nI a - 1 = zI ((a : Int) - 1) := zI_sub (a : Int) 1
theorem ad_97 {k j : Nat} {I : TI} {v : Int32} (h : j ≠ k) : up2 I 97 k v 97 j = I 97 j := up2_k _ _ h
theorem needN_le {dl : Nat → Nat} {tr : Nat → Nat → Nat} {sz rl k v : Nat} (wf : WF dl tr sz rl) (hk : k < 7) (hv : v ≤ 99) : needN dl tr k v ≤ 300 := by
  have b0 := wf.t0 hk
  have q0 := wf.d0
  unfold needN
  simp only
  generalize hx : (if tr 5 k = 1 then v + dl 0 else if tr 5 k = 2 then v / 2 else if tr 5 k = 3 then 2 * (v + dl 0) else if tr 5 k = 4 then v / 2 + tr 0 k else v) = x
  have hb : x ≤ 300 := by
    rw [← hx]
    split
    · omega
    · split
      · omega
      · split
        · omega
        · split <;> omega
  split <;> omega
theorem nI_ne_m1 {w : Nat} (hw : w < 2 ^ 31) : ¬ nI w = -1 := by
  intro e
  have h1 : inZ (w : Int) := by unfold inZ; omega
  have h2 : inZ (-1) := by unfold inZ; omega
  have := (zI_eq h1 h2).mp e
  omega
section XLk
variable {dl : Nat → Nat} {tr : Nat → Nat → Nat} {V : TV} {k place v0 v1 nd : Nat} {x : NS}
theorem lookN_none (h0 : V 0 (nmN (nTick x) (farN (nAt x) (tr 1 k)) (dl 0) (tr 0 k) (tr 1 k / 10) place) = v0) (h1 : V 1 (nmN (nTick x + v0) (farN (nAt x) (tr 1 k)) (dl 0) (tr 0 k) (tr 1 k / 10) place) = v1) (hn : needN dl tr k v1 = nd) (hf : fstN (visN dl tr k) nd (if 199 < nTick x + v0 + dl 7 then 199 else nTick x + v0 + dl 7) (200 - (nTick x + v0)) (nTick x + v0) = none) : lookN dl tr V k place x = x := by
  subst h0 h1 hn
  unfold lookN
  simp only
  rw [hf]
theorem lookN_some {w v2 : Nat} (h0 : V 0 (nmN (nTick x) (farN (nAt x) (tr 1 k)) (dl 0) (tr 0 k) (tr 1 k / 10) place) = v0) (h1 : V 1 (nmN (nTick x + v0) (farN (nAt x) (tr 1 k)) (dl 0) (tr 0 k) (tr 1 k / 10) place) = v1) (hn : needN dl tr k v1 = nd) (hf : fstN (visN dl tr k) nd (if 199 < nTick x + v0 + dl 7 then 199 else nTick x + v0 + dl 7) (200 - (nTick x + v0)) (nTick x + v0) = some w) (h2 : V 2 (nmN (nTick x + v0) (farN (nAt x) (tr 1 k)) (dl 0) (tr 0 k) (tr 1 k / 10) place) = v2) : lookN dl tr V k place x = (tr 1 k, w + nd, nWorth x - (((w - (nTick x + v0) : Nat) : Int) * (v2 : Nat)) + (payN tr k : Nat), nFound x ||| 2 ^ k, nWait x + (w - (nTick x + v0)), upZ (nFi x) k (((w + nd : Nat) : Int) - 1), upZ (nWf x) k ((w - (nTick x + v0) : Nat) : Int)) := by
  subst h0 h1 hn h2
  unfold lookN
  simp only
  rw [hf]
end XLk
set_option maxRecDepth 20000 in
set_option maxHeartbeats 4000000 in
theorem S_lookFor {g : GP} {d n : Nat} {I : TI} {J : TJ} {R : TR} {s t : Nat} {en dl : Nat → Nat} {tr : Nat → Nat → Nat} {sz rl : Nat} (hN : NC n I R s t en dl tr sz rl) {k place : Nat} {x : NS} (hk : k < sz) (hp : place < 100) (hW : WkAt I x) (hat : nAt x < 100) (htk : nTick x < 10000) : Wp g (d + 3) mX5_lookFor 0 [.ref 97, .int (nI k), .int (nI place), .null, .null, .null, .null, .null] [] 0 0 n I J R (PostI n J R none (fun I2 => WkAt I2 (lookN dl tr (tvN (mkA I t) en) k place x) ∧ FrW I I2)) := by
  obtain ⟨hsh, hs, ht, hA, wf, hrow, hT, h5, h6, hKS⟩ := hN
  have hz := wf.2.2.1
  have hk7 : k < 7 := by omega
  have b0 := wf.t0 hk7
  have b1 := wf.t1 hk7
  have q0 := wf.d0
  have q7 := wf.d7
  have hsl := sky_lt hs
  have htl := text_lt ht
  have hs0 : s ≠ 0 := by rcases hs with rfl | rfl | rfl <;> decide
  have ht0 : t ≠ 0 := by rcases ht with rfl | rfl | rfl | rfl | rfl | rfl | rfl <;> decide
  obtain ⟨w7, w8, w9, w10, w11, w100, w101⟩ := hW
  refine r_iload_n dX5_lookFor_0 rfl ?_
  refine r_bipush (v := 7) dX5_lookFor_1 (by decide) ?_
  refine r_callSN2I dX5_lookFor_3 moX6_isBelow (by decide) w_400 (Nat.le_of_ble_eq_true rfl) (Nat.le_of_ble_eq_true rfl) (S_isBelow _ _) ?_
  refine r_ifb_ne (tgt := 10) dX5_lookFor_6 (by decide) (fun hb6 => ?_) (fun hb6 => by rw [bw_nt (b := 7) (N := 7) rfl (by decide) hk7] at hb6; cases hb6)
  refine r_aload_n dX5_lookFor_10 rfl ?_
  refine r_getR (b := s) dX5_lookFor_11 f_X5_46 (hsh.al rfl (by decide)) (Or.inr ⟨_, rfl⟩) h5 hs0 ?_
  refine r_bipush (v := 9) dX5_lookFor_14 (by decide) ?_
  refine r_iload_n dX5_lookFor_16 rfl ?_
  refine r_callV2I dX5_lookFor_17 moX3_get w_527 w_443 w_444 (hsh.k0 hs) cl3 rfl (Nat.le_of_ble_eq_true rfl) (Nat.le_of_ble_eq_true rfl) (S_getT hsh hs (hA.w hs FrW.rf) wf (j := 1) (k := k) (by decide) hk7) ?_
  refine r_istore_n dX5_lookFor_20 (by decide) rfl ?_
  refine r_aload_n dX5_lookFor_21 rfl ?_
  refine r_getR (b := 98) dX5_lookFor_22 f_X5_11 (hsh.al rfl (by decide)) (Or.inl ⟨_, rfl⟩) (hsh.r 97 1 98 (by decide)) (by decide) ?_
  refine r_iconst (v := 0) dX5_lookFor_25 (by decide) ?_
  refine r_aload_n dX5_lookFor_26 rfl ?_
  refine r_getIE dX5_lookFor_27 f_X5_30 (hsh.al rfl (by decide)) (Or.inl rfl) w8 ?_
  refine r_iast (j := 0) dX5_lookFor_30 (hsh.al rfl (by decide)) (by decide) (by decide) ?_
  refine r_aload_n dX5_lookFor_31 rfl ?_
  refine r_getR (b := 98) dX5_lookFor_32 f_X5_11 (hsh.al rfl (by decide)) (Or.inl ⟨_, rfl⟩) (hsh.r 97 1 98 (by decide)) (by decide) ?_
  refine r_iconst (v := 1) dX5_lookFor_35 (by decide) ?_
  refine r_aload_n dX5_lookFor_36 rfl ?_
  refine r_getIE dX5_lookFor_37 f_X5_26 (hsh.al rfl (by decide)) (Or.inl rfl) (by simp only [up2, if_neg (show ¬ (97 : Nat) = 98 by decide)]; exact w7) ?_
  refine r_bipush (v := 10) dX5_lookFor_40 (by decide) ?_
  refine r_nirem (b := 10) dX5_lookFor_42 rfl rfl (by omega) (by omega) (by omega) ?_
  refine r_iload_n dX5_lookFor_43 rfl ?_
  refine r_bipush (v := 10) dX5_lookFor_44 (by decide) ?_
  refine r_nirem (b := 10) dX5_lookFor_46 rfl rfl (by omega) (by omega) (by omega) ?_
  refine r_zisub dX5_lookFor_47 (nz _) (nz _) ?_
  refine r_zabs dX5_lookFor_48 w_535 (Nat.le_of_ble_eq_true rfl) rfl (by unfold inZ; omega) ?_
  refine r_aload_n dX5_lookFor_51 rfl ?_
  refine r_getIE dX5_lookFor_52 f_X5_26 (hsh.al rfl (by decide)) (Or.inl rfl) (by simp only [up2, if_neg (show ¬ (97 : Nat) = 98 by decide)]; exact w7) ?_
  refine r_bipush (v := 10) dX5_lookFor_55 (by decide) ?_
  refine r_nidiv (b := 10) dX5_lookFor_57 rfl rfl (by omega) (by omega) (by omega) ?_
  refine r_iload_n dX5_lookFor_58 rfl ?_
  refine r_bipush (v := 10) dX5_lookFor_59 (by decide) ?_
  refine r_nidiv (b := 10) dX5_lookFor_61 rfl rfl (by omega) (by omega) (by omega) ?_
  refine r_zisub dX5_lookFor_62 (nz _) (nz _) ?_
  refine r_zabs dX5_lookFor_63 w_535 (Nat.le_of_ble_eq_true rfl) rfl (by unfold inZ; omega) ?_
  refine r_nmmax dX5_lookFor_66 w_538 (Nat.le_of_ble_eq_true rfl) rfl rfl (by omega) (by omega) ?_
  refine r_iast (j := 1) dX5_lookFor_69 (hsh.al rfl (by decide)) (by decide) (by decide) ?_
  refine r_aload_n dX5_lookFor_70 rfl ?_
  refine r_getR (b := 98) dX5_lookFor_71 f_X5_11 (hsh.al rfl (by decide)) (Or.inl ⟨_, rfl⟩) (hsh.r 97 1 98 (by decide)) (by decide) ?_
  refine r_iconst (v := 2) dX5_lookFor_74 (by decide) ?_
  refine r_aload_n dX5_lookFor_75 rfl ?_
  refine r_getR (b := s) dX5_lookFor_76 f_X5_46 (hsh.al rfl (by decide)) (Or.inr ⟨_, rfl⟩) h5 hs0 ?_
  refine r_iconst (v := 0) dX5_lookFor_79 (by decide) ?_
  refine r_iconst (v := 0) dX5_lookFor_80 (by decide) ?_
  refine r_callV2I dX5_lookFor_81 moX3_get w_527 w_443 w_444 (hsh.k0 hs) cl3 rfl (Nat.le_of_ble_eq_true rfl) (Nat.le_of_ble_eq_true rfl) (S_getD hsh hs (hA.w hs ((FrW.rf.u (by decide)).u (by decide))) wf (w := 0) (by decide) 0) ?_
  refine r_iast (j := 2) dX5_lookFor_84 (hsh.al rfl (by decide)) (by decide) (by decide) ?_
  refine r_aload_n dX5_lookFor_85 rfl ?_
  refine r_getR (b := 98) dX5_lookFor_86 f_X5_11 (hsh.al rfl (by decide)) (Or.inl ⟨_, rfl⟩) (hsh.r 97 1 98 (by decide)) (by decide) ?_
  refine r_iconst (v := 3) dX5_lookFor_89 (by decide) ?_
  refine r_aload_n dX5_lookFor_90 rfl ?_
  refine r_getR (b := s) dX5_lookFor_91 f_X5_46 (hsh.al rfl (by decide)) (Or.inr ⟨_, rfl⟩) h5 hs0 ?_
  refine r_bipush (v := 8) dX5_lookFor_94 (by decide) ?_
  refine r_iload_n dX5_lookFor_96 rfl ?_
  refine r_callV2I dX5_lookFor_97 moX3_get w_527 w_443 w_444 (hsh.k0 hs) cl3 rfl (Nat.le_of_ble_eq_true rfl) (Nat.le_of_ble_eq_true rfl) (S_getT hsh hs (hA.w hs (((FrW.rf.u (by decide)).u (by decide)).u (by decide))) wf (j := 0) (k := k) (by decide) hk7) ?_
  refine r_iast (j := 3) dX5_lookFor_100 (hsh.al rfl (by decide)) (by decide) (by decide) ?_
  refine r_aload_n dX5_lookFor_101 rfl ?_
  refine r_getR (b := 98) dX5_lookFor_102 f_X5_11 (hsh.al rfl (by decide)) (Or.inl ⟨_, rfl⟩) (hsh.r 97 1 98 (by decide)) (by decide) ?_
  refine r_iconst (v := 4) dX5_lookFor_105 (by decide) ?_
  refine r_iload_n dX5_lookFor_106 rfl ?_
  refine r_bipush (v := 10) dX5_lookFor_107 (by decide) ?_
  refine r_nidiv (b := 10) dX5_lookFor_109 rfl rfl (by omega) (by omega) (by omega) ?_
  refine r_iast (j := 4) dX5_lookFor_110 (hsh.al rfl (by decide)) (by decide) (by decide) ?_
  refine r_aload_n dX5_lookFor_111 rfl ?_
  refine r_getR (b := 98) dX5_lookFor_112 f_X5_11 (hsh.al rfl (by decide)) (Or.inl ⟨_, rfl⟩) (hsh.r 97 1 98 (by decide)) (by decide) ?_
  refine r_iconst (v := 5) dX5_lookFor_115 (by decide) ?_
  refine r_iload_n dX5_lookFor_116 rfl ?_
  refine r_iast (j := 5) dX5_lookFor_117 (hsh.al rfl (by decide)) (by decide) (by decide) ?_
  refine r_aload_n dX5_lookFor_118 rfl ?_
  refine r_getIE dX5_lookFor_119 f_X5_30 (hsh.al rfl (by decide)) (Or.inl rfl) (by simp only [up2, if_neg (show ¬ (97 : Nat) = 98 by decide)]; exact w8) ?_
  refine r_aload_n dX5_lookFor_122 rfl ?_
  refine r_getR (b := t) dX5_lookFor_123 f_X5_51 (hsh.al rfl (by decide)) (Or.inr ⟨_, rfl⟩) h6 ht0 ?_
  refine r_iconst (v := 0) dX5_lookFor_126 (by decide) ?_
  refine r_aload_n dX5_lookFor_127 rfl ?_
  refine r_getR (b := 98) dX5_lookFor_128 f_X5_11 (hsh.al rfl (by decide)) (Or.inl ⟨_, rfl⟩) (hsh.r 97 1 98 (by decide)) (by decide) ?_
  refine r_aload_n dX5_lookFor_131 rfl ?_
  refine r_getR (b := 99) dX5_lookFor_132 f_X5_17 (hsh.al rfl (by decide)) (Or.inl ⟨_, rfl⟩) (hsh.r 97 2 99 (by decide)) (by decide) ?_
  refine r_callV3N dX5_lookFor_135 moX4_value w_539 w_540 w_541 (hsh.t0 ht) cl4 rfl (Nat.le_of_ble_eq_true rfl) (Nat.le_of_ble_eq_true rfl) (S_value (en := en) hsh ht (hT.w ht ((((((FrW.rf.u (by decide)).u (by decide)).u (by decide)).u (by decide)).u (by decide)).u (by decide))) (p := 0) (by decide) ((hKS.w ((((((FrW.rf.u (by decide)).u (by decide)).u (by decide)).u (by decide)).u (by decide)).u (by decide))).1 0 (by decide)) ((hKS.w ((((((FrW.rf.u (by decide)).u (by decide)).u (by decide)).u (by decide)).u (by decide)).u (by decide))).2 0 (by decide))) (fun r n I2 J R hq => ?_)
  obtain ⟨rfl, rfl, rfl, rfl, f1⟩ := hq
  have g1 : FrW I I2 := (((((((FrW.rf.u (by decide)).u (by decide)).u (by decide)).u (by decide)).u (by decide)).u (by decide))).t (FrW.ofA f1 (by decide))
  have k1 : ∀ a, a ≠ 98 → a ≠ 99 → I2 a = I a := fun a h8 h9 => by rw [f1 a h9]; simp only [up2, if_neg h8]
  have m1 : ∀ j, j < 6 → I2 98 j = (nmN (nTick x) (farN (nAt x) (tr 1 k)) (dl 0) (tr 0 k) (tr 1 k / 10) place) j := fun j hj => by
    rw [f1 98 (by decide)]
    have e : j = 0 ∨ j = 1 ∨ j = 2 ∨ j = 3 ∨ j = 4 ∨ j = 5 := by omega
    rcases e with rfl | rfl | rfl | rfl | rfl | rfl <;> rfl
  refine r_some (w := nI (tvN (mkA I t) en 0 (nmN (nTick x) (farN (nAt x) (tr 1 k)) (dl 0) (tr 0 k) (tr 1 k / 10) place))) (by rw [mkA_w ht ((((((FrW.rf.u (by decide)).u (by decide)).u (by decide)).u (by decide)).u (by decide)).u (by decide))]; congr 1; exact tvN_congr (fun j hj => by rw [← m1 j hj, f1 98 (by decide)]) _ _ _) ?_
  generalize hv0 : tvN (mkA I t) en 0 (nmN (nTick x) (farN (nAt x) (tr 1 k)) (dl 0) (tr 0 k) (tr 1 k / 10) place) = v0
  have bv0 : v0 ≤ 99 := by rw [← hv0]; exact tvN_le _ _ _ _
  refine r_niadd dX5_lookFor_138 rfl rfl ?_
  refine r_istore dX5_lookFor_139 (by decide) rfl ?_
  refine r_aload_n dX5_lookFor_141 rfl ?_
  refine r_getR (b := 98) dX5_lookFor_142 f_X5_11 (hsh.al rfl (by decide)) (Or.inl ⟨_, rfl⟩) (hsh.r 97 1 98 (by decide)) (by decide) ?_
  refine r_iconst (v := 0) dX5_lookFor_145 (by decide) ?_
  refine r_iload dX5_lookFor_146 rfl ?_
  refine r_iast (j := 0) dX5_lookFor_148 (hsh.al rfl (by decide)) (by decide) (by decide) ?_
  refine r_aload_n dX5_lookFor_149 rfl ?_
  refine r_getR (b := s) dX5_lookFor_150 f_X5_46 (hsh.al rfl (by decide)) (Or.inr ⟨_, rfl⟩) h5 hs0 ?_
  refine r_iload_n dX5_lookFor_153 rfl ?_
  refine r_aload_n dX5_lookFor_154 rfl ?_
  refine r_getR (b := t) dX5_lookFor_155 f_X5_51 (hsh.al rfl (by decide)) (Or.inr ⟨_, rfl⟩) h6 ht0 ?_
  refine r_iconst (v := 1) dX5_lookFor_158 (by decide) ?_
  refine r_aload_n dX5_lookFor_159 rfl ?_
  refine r_getR (b := 98) dX5_lookFor_160 f_X5_11 (hsh.al rfl (by decide)) (Or.inl ⟨_, rfl⟩) (hsh.r 97 1 98 (by decide)) (by decide) ?_
  refine r_aload_n dX5_lookFor_163 rfl ?_
  refine r_getR (b := 99) dX5_lookFor_164 f_X5_17 (hsh.al rfl (by decide)) (Or.inl ⟨_, rfl⟩) (hsh.r 97 2 99 (by decide)) (by decide) ?_
  refine r_callV3N dX5_lookFor_167 moX4_value w_539 w_540 w_541 (hsh.t0 ht) cl4 rfl (Nat.le_of_ble_eq_true rfl) (Nat.le_of_ble_eq_true rfl) (S_value (en := en) hsh ht (hT.w ht (g1.u (by decide))) (p := 1) (by decide) ((hKS.w (g1.u (by decide))).1 1 (by decide)) ((hKS.w (g1.u (by decide))).2 1 (by decide))) (fun r n I3 J R hq => ?_)
  obtain ⟨rfl, rfl, rfl, rfl, f2⟩ := hq
  have g2 : FrW I I3 := ((g1.u (by decide))).t (FrW.ofA f2 (by decide))
  have k2 : ∀ a, a ≠ 98 → a ≠ 99 → I3 a = I a := fun a h8 h9 => by rw [f2 a h9, up2_a _ _ _ h8]; exact k1 a h8 h9
  have m2 : ∀ j, j < 6 → I3 98 j = (nmN (nTick x + v0) (farN (nAt x) (tr 1 k)) (dl 0) (tr 0 k) (tr 1 k / 10) place) j := fun j hj => by
    rw [f2 98 (by decide)]
    have e : j = 0 ∨ j = 1 ∨ j = 2 ∨ j = 3 ∨ j = 4 ∨ j = 5 := by omega
    rcases e with rfl | e
    · exact up2_at _ _ _ _
    · rw [up2_k _ _ (by omega), m1 j hj]; rcases e with rfl | rfl | rfl | rfl | rfl <;> rfl
  refine r_some (w := nI (tvN (mkA I t) en 1 (nmN (nTick x + v0) (farN (nAt x) (tr 1 k)) (dl 0) (tr 0 k) (tr 1 k / 10) place))) (by rw [mkA_w ht (g1.u (by decide))]; congr 1; exact tvN_congr (fun j hj => by rw [← m2 j hj, f2 98 (by decide)]) _ _ _) ?_
  generalize hv1 : tvN (mkA I t) en 1 (nmN (nTick x + v0) (farN (nAt x) (tr 1 k)) (dl 0) (tr 0 k) (tr 1 k / 10) place) = v1
  have bv1 : v1 ≤ 99 := by rw [← hv1]; exact tvN_le _ _ _ _
  refine r_callV2I dX5_lookFor_170 moX3_needs w_552 w_553 w_554 (hsh.k0 hs) cl3 rfl (Nat.le_of_ble_eq_true rfl) (Nat.le_of_ble_eq_true rfl) (S_needs hsh hs (hA.w hs g2) wf hk7 (v := v1) (by omega)) ?_
  have bnd := needN_le wf hk7 (v := v1) bv1
  generalize hnd : needN dl tr k v1 = nd at bnd ⊢
  refine r_istore dX5_lookFor_173 (by decide) rfl ?_
  refine r_aload_n dX5_lookFor_175 rfl ?_
  refine r_getR (b := s) dX5_lookFor_176 f_X5_46 (hsh.al rfl (by decide)) (Or.inr ⟨_, rfl⟩) h5 hs0 ?_
  refine r_iload_n dX5_lookFor_179 rfl ?_
  refine r_iload dX5_lookFor_180 rfl ?_
  refine r_iload dX5_lookFor_182 rfl ?_
  refine r_callV3I dX5_lookFor_184 moX3_firstClear w_556 w_557 w_558 (hsh.k0 hs) cl3 rfl (Nat.le_of_ble_eq_true rfl) (Nat.le_of_ble_eq_true rfl) (S_firstClear hsh hs (hA.w hs g2) wf (t0 := nTick x + v0) (nd := nd) hk7 (by omega) (by omega) ((hrow k hk).w hs hk7 g2)) ?_
  rcases hfo : fstN (visN dl tr k) nd (if 199 < nTick x + v0 + dl 7 then 199 else nTick x + v0 + dl 7) (200 - (nTick x + v0)) (nTick x + v0) with _ | w
  · refine r_top (v := (-1)) rfl ?_
    refine r_istore dX5_lookFor_187 (by decide) rfl ?_
    refine r_iload dX5_lookFor_189 rfl ?_
    refine r_iconst (v := (-1)) dX5_lookFor_191 (by decide) ?_
    refine r_icmp_ne (tgt := 196) dX5_lookFor_192 (by decide) (fun h192 => absurd rfl h192) (fun h192 => ?_)
    refine r_vret dX5_lookFor_195 rfl ?_
    rw [lookN_none hv0 hv1 hnd hfo]
    refine ⟨rfl, rfl, rfl, rfl, ⟨?_, ?_, ?_, ?_, ?_, fun q hq => ?_, fun q hq => ?_⟩, g2⟩
    · rw [k2 97 (by decide) (by decide)]; exact w7
    · rw [k2 97 (by decide) (by decide)]; exact w8
    · rw [k2 97 (by decide) (by decide)]; exact w9
    · rw [k2 97 (by decide) (by decide)]; exact w10
    · rw [k2 97 (by decide) (by decide)]; exact w11
    · rw [k2 100 (by decide) (by decide)]; exact w100 q hq
    · rw [k2 101 (by decide) (by decide)]; exact w101 q hq
  · refine r_top (v := nI w) rfl ?_
    obtain ⟨hw1, hw2, hw3⟩ := fstN_ge hfo
    have hrl := rlF_le (visN dl tr k) (200 - w)
    have hw199 : w ≤ 199 := by split at hw2 <;> omega
    have tail : ∀ (I5 : TI) (wo : Int), (∀ a, a ≠ 97 → a ≠ 98 → a ≠ 99 → I5 a = I a) → FrW I I5 → (∀ j, j ≠ 9 → I5 97 j = I 97 j) → I5 97 9 = zI wo → wo = nWorth x - (((w - (nTick x + v0) : Nat) : Int) * (tvN (mkA I t) en 2 (nmN (nTick x + v0) (farN (nAt x) (tr 1 k)) (dl 0) (tr 0 k) (tr 1 k / 10) place) : Nat)) → Wp g (d + 3) mX5_lookFor 236 [.ref 97, .int (nI k), .int (nI place), .int (nI (tr 1 k)), .int (nI (nTick x + v0)), .int (nI nd), .int (nI w), .int (nI (w - (nTick x + v0)))] [] 0 0 n I5 J R (PostI n J R none (fun I2 => WkAt I2 (lookN dl tr (tvN (mkA I t) en) k place x) ∧ FrW I I2)) := by
      intro I5 wo iF g5 i97 i9 iw
      refine r_aload_n dX5_lookFor_236 rfl ?_
      refine r_dup dX5_lookFor_237 rfl ?_
      refine r_getIE dX5_lookFor_238 f_X5_33 (hsh.al rfl (by decide)) (Or.inl rfl) i9 ?_
      refine r_aload_n dX5_lookFor_241 rfl ?_
      refine r_getR (b := s) dX5_lookFor_242 f_X5_46 (hsh.al rfl (by decide)) (Or.inr ⟨_, rfl⟩) h5 hs0 ?_
      refine r_iload_n dX5_lookFor_245 rfl ?_
      refine r_callV1I dX5_lookFor_246 moX3_pays w_561 w_469 w_470 (hsh.k0 hs) cl3 rfl (Nat.le_of_ble_eq_true rfl) (Nat.le_of_ble_eq_true rfl) (S_pays hsh hs (hA.w hs g5) wf hk7) ?_
      refine r_ziadd dX5_lookFor_249 rfl (nz _) ?_
      refine r_putI dX5_lookFor_250 f_X5_33 (hsh.al rfl (by decide)) (Or.inl rfl) rfl ?_
      refine r_aload_n dX5_lookFor_253 rfl ?_
      refine r_dup dX5_lookFor_254 rfl ?_
      refine r_getIE dX5_lookFor_255 f_X5_39 (hsh.al rfl (by decide)) (Or.inl rfl) (show up2 I5 97 9 _ 97 11 = nI (nWait x) by rw [up2_k _ _ (by decide), i97 _ (by decide)]; exact w11) ?_
      refine r_iload dX5_lookFor_258 rfl ?_
      refine r_niadd dX5_lookFor_260 rfl rfl ?_
      refine r_putI dX5_lookFor_261 f_X5_39 (hsh.al rfl (by decide)) (Or.inl rfl) rfl ?_
      refine r_aload_n dX5_lookFor_264 rfl ?_
      refine r_dup dX5_lookFor_265 rfl ?_
      refine r_getIE dX5_lookFor_266 f_X5_36 (hsh.al rfl (by decide)) (Or.inl rfl) (show up2 (up2 I5 97 9 _) 97 11 _ 97 10 = nI (nFound x) by rw [up2_k _ _ (by decide), up2_k _ _ (by decide), i97 _ (by decide)]; exact w10) ?_
      refine r_iconst (v := 1) dX5_lookFor_269 (by decide) ?_
      refine r_iload_n dX5_lookFor_270 rfl ?_
      refine r_ishl dX5_lookFor_271 ?_
      refine r_top (v := nI (2 ^ k)) (bit_sh k (by omega)) ?_
      refine r_ior dX5_lookFor_272 ?_
      refine r_top (v := nI (nFound x ||| 2 ^ k)) (nI_or _ _) ?_
      refine r_putI dX5_lookFor_273 f_X5_36 (hsh.al rfl (by decide)) (Or.inl rfl) rfl ?_
      refine r_aload_n dX5_lookFor_276 rfl ?_
      refine r_getR (b := 101) dX5_lookFor_277 f_X5_23 (hsh.al rfl (by decide)) (Or.inl ⟨_, rfl⟩) (hsh.r 97 4 101 (by decide)) (by decide) ?_
      refine r_iload_n dX5_lookFor_280 rfl ?_
      refine r_iload dX5_lookFor_281 rfl ?_
      refine r_iast (j := k) dX5_lookFor_283 (hsh.al rfl (by decide)) hk7 rfl ?_
      refine r_aload_n dX5_lookFor_284 rfl ?_
      refine r_iload_n dX5_lookFor_285 rfl ?_
      refine r_putI dX5_lookFor_286 f_X5_26 (hsh.al rfl (by decide)) (Or.inl rfl) rfl ?_
      refine r_aload_n dX5_lookFor_289 rfl ?_
      refine r_iload dX5_lookFor_290 rfl ?_
      refine r_iload dX5_lookFor_292 rfl ?_
      refine r_niadd dX5_lookFor_294 rfl rfl ?_
      refine r_putI dX5_lookFor_295 f_X5_30 (hsh.al rfl (by decide)) (Or.inl rfl) rfl ?_
      refine r_aload_n dX5_lookFor_298 rfl ?_
      refine r_getR (b := 100) dX5_lookFor_299 f_X5_20 (hsh.al rfl (by decide)) (Or.inl ⟨_, rfl⟩) (hsh.r 97 3 100 (by decide)) (by decide) ?_
      refine r_iload_n dX5_lookFor_302 rfl ?_
      refine r_aload_n dX5_lookFor_303 rfl ?_
      refine r_getIE dX5_lookFor_304 f_X5_30 (hsh.al rfl (by decide)) (Or.inl rfl) (show up2 _ 97 8 (nI (w + nd)) 97 8 = nI (w + nd) from up2_at _ _ _ _) ?_
      refine r_iconst (v := 1) dX5_lookFor_307 (by decide) ?_
      refine r_zisub (b := 1) dX5_lookFor_308 (nz _) (by decide) ?_
      refine r_iast (j := k) dX5_lookFor_309 (hsh.al rfl (by decide)) hk7 rfl ?_
      refine r_vret dX5_lookFor_310 rfl ?_
      have e := lookN_some (place := place) hv0 hv1 hnd hfo rfl
      refine ⟨rfl, rfl, rfl, rfl, ?_, (((((((g5.u (by decide)).u (by decide)).u (by decide)).u (by decide)).u (by decide)).u (by decide)).u (by decide))⟩
      rw [e]
      subst iw
      refine ⟨?_, ?_, ?_, ?_, ?_, fun q hq => ?_, fun q hq => ?_⟩
      · rfl
      · rfl
      · rfl
      · rfl
      · rfl
      · by_cases e2 : q = k
        · subst e2; rw [up2_at]; exact congrArg zI (upZ_at _ _ _).symm
        · rw [up2_k _ _ e2, up2_a _ _ _ (by decide), up2_a _ _ _ (by decide), up2_a _ _ _ (by decide), up2_a _ _ _ (by decide), up2_a _ _ _ (by decide), up2_a _ _ _ (by decide), iF 100 (by decide) (by decide) (by decide)]; exact (w100 q hq).trans (congrArg zI (upZ_ne _ _ e2).symm)
      · rw [up2_a _ _ _ (by decide), up2_a _ _ _ (by decide), up2_a _ _ _ (by decide)]
        by_cases e2 : q = k
        · subst e2; rw [up2_at, nz]; exact congrArg zI (upZ_at _ _ _).symm
        · rw [up2_k _ _ e2, up2_a _ _ _ (by decide), up2_a _ _ _ (by decide), up2_a _ _ _ (by decide), iF 101 (by decide) (by decide) (by decide)]; exact (w101 q hq).trans (congrArg zI (upZ_ne _ _ e2).symm)
    refine r_istore dX5_lookFor_187 (by decide) rfl ?_
    refine r_iload dX5_lookFor_189 rfl ?_
    refine r_iconst (v := (-1)) dX5_lookFor_191 (by decide) ?_
    refine r_icmp_ne (tgt := 196) dX5_lookFor_192 (by decide) (fun h192 => ?_) (fun h192 => absurd h192 (nI_ne_m1 (by omega)))
    refine r_iload dX5_lookFor_196 rfl ?_
    refine r_iload dX5_lookFor_198 rfl ?_
    refine r_nisub dX5_lookFor_200 rfl rfl hw1 ?_
    refine r_istore dX5_lookFor_201 (by decide) rfl ?_
    refine r_iload dX5_lookFor_203 rfl ?_
    refine r_zif_le (tgt := 236) dX5_lookFor_205 (by decide) (nz _) (by unfold inZ; omega) (fun h205 => ?_) (fun h205 => ?_)
    · exact tail I3 (nWorth x) (fun a _ h8 h9 => k2 a h8 h9) g2 (fun j _ => by rw [k2 97 (by decide) (by decide)]) (by rw [k2 97 (by decide) (by decide)]; exact w9) (by have e0 : w - (nTick x + v0) = 0 := (by omega); rw [e0]; simp)
    · refine r_aload_n dX5_lookFor_208 rfl ?_
      refine r_dup dX5_lookFor_209 rfl ?_
      refine r_getIE dX5_lookFor_210 f_X5_33 (hsh.al rfl (by decide)) (Or.inl rfl) ((congrFun (k2 97 (by decide) (by decide)) 9).trans w9) ?_
      refine r_iload dX5_lookFor_213 rfl ?_
      refine r_aload_n dX5_lookFor_215 rfl ?_
      refine r_getR (b := t) dX5_lookFor_216 f_X5_51 (hsh.al rfl (by decide)) (Or.inr ⟨_, rfl⟩) h6 ht0 ?_
      refine r_iconst (v := 2) dX5_lookFor_219 (by decide) ?_
      refine r_aload_n dX5_lookFor_220 rfl ?_
      refine r_getR (b := 98) dX5_lookFor_221 f_X5_11 (hsh.al rfl (by decide)) (Or.inl ⟨_, rfl⟩) (hsh.r 97 1 98 (by decide)) (by decide) ?_
      refine r_aload_n dX5_lookFor_224 rfl ?_
      refine r_getR (b := 99) dX5_lookFor_225 f_X5_17 (hsh.al rfl (by decide)) (Or.inl ⟨_, rfl⟩) (hsh.r 97 2 99 (by decide)) (by decide) ?_
      refine r_callV3N dX5_lookFor_228 moX4_value w_539 w_540 w_541 (hsh.t0 ht) cl4 rfl (Nat.le_of_ble_eq_true rfl) (Nat.le_of_ble_eq_true rfl) (S_value (en := en) hsh ht (hT.w ht g2) (p := 2) (by decide) ((hKS.w g2).1 2 (by decide)) ((hKS.w g2).2 2 (by decide))) (fun r n I4 J R hq => ?_)
      obtain ⟨rfl, rfl, rfl, rfl, f3⟩ := hq
      have g3 : FrW I I4 := (g2).t (FrW.ofA f3 (by decide))
      have k3 : ∀ a, a ≠ 98 → a ≠ 99 → I4 a = I a := fun a h8 h9 => (f3 a h9).trans (k2 a h8 h9)
      have m3 : ∀ j, j < 6 → I4 98 j = (nmN (nTick x + v0) (farN (nAt x) (tr 1 k)) (dl 0) (tr 0 k) (tr 1 k / 10) place) j := fun j hj => by rw [f3 98 (by decide)]; exact m2 j hj
      refine r_some (w := nI (tvN (mkA I t) en 2 (nmN (nTick x + v0) (farN (nAt x) (tr 1 k)) (dl 0) (tr 0 k) (tr 1 k / 10) place))) (by rw [mkA_w ht g2]; congr 1; exact tvN_congr (fun j hj => by rw [← m3 j hj, f3 98 (by decide)]) _ _ _) ?_
      generalize hv2 : tvN (mkA I t) en 2 (nmN (nTick x + v0) (farN (nAt x) (tr 1 k)) (dl 0) (tr 0 k) (tr 1 k / 10) place) = v2
      have bv2 : v2 ≤ 99 := by rw [← hv2]; exact tvN_le _ _ _ _
      refine r_nimul dX5_lookFor_231 rfl rfl ?_
      refine r_zisub dX5_lookFor_232 rfl (nz _) ?_
      refine r_putI dX5_lookFor_233 f_X5_33 (hsh.al rfl (by decide)) (Or.inl rfl) rfl ?_
      exact tail _ _ (fun a h7 h8 h9 => by rw [up2_a _ _ _ h7]; exact k3 a h8 h9) (g3.u (by decide)) (fun j hj => by rw [up2_k _ _ hj, k3 97 (by decide) (by decide)]) (up2_at _ _ _ _) (by rw [hv2]; simp)
