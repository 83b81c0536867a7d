theorem nI_dec (m : Nat) : nI m + Int32.ofInt (-1) = zI ((m : Int) - 1) := zI_add (m : Int) (-1)
theorem rl_step {f : Nat → Bool} {m : Nat} (hm : m < 200) : rlF f (200 - m) = if f m then rlF f (200 - (m + 1)) + 1 else 0 := by
  have e : 200 - m = (200 - (m + 1)) + 1 := by omega
  rw [e]
  show (if f (199 - (200 - (m + 1))) then _ else _) = _
  rw [show 199 - (200 - (m + 1)) = m by omega]
/-- nothing but the rows of clear has changed -/
def FrC (s : Nat) (I I' : TI) : Prop := ∀ a, (∀ j, j < 7 → a ≠ s + 10 + j) → I' a = I a
theorem FrC.rf {s : Nat} {I : TI} : FrC s I I := fun _ _ => rfl
theorem SkyAt.fr {I I' : TI} {s : Nat} {dl : Nat → Nat} {tr : Nat → Nat → Nat} {sz rl : Nat} (h : SkyAt I s dl tr sz rl) (hf : FrC s I I') : SkyAt I' s dl tr sz rl := by
  refine ⟨fun j hj => ?_, fun i k hi hk => ?_, ?_, ?_⟩
  · rw [hf (s + 1) (fun j _ => by omega)]; exact h.1 j hj
  · rw [hf (s + 3 + i) (fun j _ => by omega)]; exact h.2.1 i k hi hk
  · rw [hf s (fun j _ => by omega)]; exact h.2.2.1
  · rw [hf s (fun j _ => by omega)]; exact h.2.2.2
theorem RowOK.up {I : TI} {s : Nat} {dl : Nat → Nat} {tr : Nat → Nat → Nat} {k i m : Nat} {v : Int32} (h : RowOK I s dl tr k) (hk : k ≠ i) : RowOK (up2 I (s + 10 + i) m v) s dl tr k := fun t ht => by
  rw [up2_a _ _ _ (by omega)]; exact h t ht
theorem FrC.up {s : Nat} {I I' : TI} {i m : Nat} {v : Int32} (h : FrC s I I') (hi : i < 7) : FrC s I (up2 I' (s + 10 + i) m v) := fun a ha => by
  rw [up2_a _ _ _ (ha i hi)]; exact h a ha
/-- what lookAhead does -/
def LAok (s : Nat) (dl : Nat → Nat) (tr : Nat → Nat → Nat) (sz : Nat) (I I' : TI) : Prop := (∀ a, a ≠ s → (∀ j, j < 7 → a ≠ s + 10 + j) → I' a = I a) ∧ (∀ j, j ≠ 9 → I' s j = I s j) ∧ ClOK I' s dl tr sz 0
def PostI (n : Nat) (J : TJ) (R : TR) (r0 : Option Value) (P : TI → Prop) : TQ := fun r n' I' J' R' => r = r0 ∧ n' = n ∧ J' = J ∧ R' = R ∧ P I'
set_option maxRecDepth 20000 in
set_option maxHeartbeats 4000000 in
theorem S_lookAhead {g : GP} {d n : Nat} {I : TI} {J : TJ} {R : TR} {s : Nat} {dl : Nat → Nat} {tr : Nat → Nat → Nat} {sz rl : Nat} (hsh : Sh n R) (hs : isSky s) (hA : SkyAt I s dl tr sz rl) (wf : WF dl tr sz rl) {sl : Nat} (hC : ClOK I s dl tr sz sl) : Wp g (d + 2) mX3_lookAhead 0 [.ref s, .null, .null, .null] [] 0 0 n I J R (PostI n J R none (LAok s dl tr sz I)) := by
  have bz := wf.2.2.1
  obtain ⟨hsl, h128, hrows⟩ := hC
  have inner : ∀ i, i < sz → ∀ m I2, m ≤ 200 → FrC s I I2 → (∀ k, k < sz → k ≠ i → (k < i ∨ sl.testBit k = false) → RowOK I2 s dl tr k) → (∀ t, m ≤ t → t < 200 → I2 (s + 10 + i) t = nI (rlF (visN dl tr i) (200 - t))) →
      (∀ I3 u v, FrC s I I3 → (∀ k, k < sz → (k < i + 1 ∨ sl.testBit k = false) → RowOK I3 s dl tr k) → Wp g (d + 2) mX3_lookAhead 81 [.ref s, .int (nI i), u, v] [] 0 0 n I3 J R (PostI n J R none (LAok s dl tr sz I))) →
      Wp g (d + 2) mX3_lookAhead 36 [.ref s, .int (nI i), .int (nI (rlF (visN dl tr i) (200 - m))), .int (zI ((m : Int) - 1))] [] 0 0 n I2 J R (PostI n J R none (LAok s dl tr sz I)) := by
    intro i hi m
    induction m with
    | zero =>
      intro I2 hm hF hD hR hx
      refine r_iload_n dX3_lookAhead_36 rfl ?_
      refine r_zif_lt (tgt := 81) dX3_lookAhead_37 (by decide) rfl (by unfold inZ; omega) (fun h37 => ?_) (fun h37 => absurd h37 (by omega))
      refine hx I2 _ _ hF (fun k hk hk2 => ?_)
      by_cases e : k = i
      · subst e; exact fun t ht => hR t (Nat.zero_le _) ht
      · exact hD k hk e (by rcases hk2 with h | h; exact Or.inl (by omega); exact Or.inr h)
    | succ m ih =>
      intro I2 hm hF hD hR hx
      have hA2 := hA.fr hF
      have e : zI (((m + 1 : Nat) : Int) - 1) = nI m := by rw [nz]; congr 1; omega
      rw [e]
      refine r_iload_n dX3_lookAhead_36 rfl ?_
      refine r_zif_lt (tgt := 81) dX3_lookAhead_37 (by decide) (nz _) (by unfold inZ; omega) (fun h37 => absurd h37 (by omega)) (fun h37 => ?_)
      refine r_aload_n dX3_lookAhead_40 rfl ?_
      refine r_iload_n dX3_lookAhead_41 rfl ?_
      refine r_iload_n dX3_lookAhead_42 rfl ?_
      refine r_callV2I dX3_lookAhead_43 moX3_isUp w_524 w_478 w_479 (hsh.k0 hs) cl3 rfl (Nat.le_of_ble_eq_true rfl) (Nat.le_of_ble_eq_true rfl) (S_isUp hsh hs hA2 wf (k := i) (by omega) (t := m) (by omega)) ?_
      refine r_ifb_eq (tgt := 64) dX3_lookAhead_46 (by decide) (fun h46 => ?_) (fun h46 => ?_)
      · refine r_iconst (v := 0) dX3_lookAhead_64 (by decide) ?_
        refine r_top (v := nI (rlF (visN dl tr i) (200 - m))) (by rw [rl_step (m := m) (by omega)]; first | (simp [visN, h46, h55]; done) | (simp [visN, h46, h55, nI_0]; done) | (simp [visN, h46, nI_0]; done)) ?_
        refine r_istore_n dX3_lookAhead_65 (by decide) rfl ?_
        refine r_aload_n dX3_lookAhead_66 rfl ?_
        refine r_getR (b := (s + 9)) dX3_lookAhead_67 f_X3_38 (hsh.k0 hs) (Or.inl ⟨_, rfl⟩) (hsh.kr8 hs) (by omega) ?_
        refine r_iload_n dX3_lookAhead_70 rfl ?_
        refine r_aald (j := i) (b := (s + 10 + i)) dX3_lookAhead_71 (hsh.k9 hs) (Or.inl rfl) (by omega) rfl (hsh.krc hs (show i < 7 by omega)) (by omega) ?_
        refine r_iload_n dX3_lookAhead_72 rfl ?_
        refine r_iload_n dX3_lookAhead_73 rfl ?_
        refine r_iast (j := m) dX3_lookAhead_74 (hsh.kc hs (show i < 7 by omega)) (by omega) rfl ?_
        refine r_iinc dX3_lookAhead_75 rfl (nI_dec m) rfl ?_
        refine r_goto (tgt := 36) dX3_lookAhead_78 (by decide) ?_
        refine ih _ (by omega) (hF.up (by omega)) (fun k hk hk1 hk2 => (hD k hk hk1 hk2).up hk1) (fun t ht1 ht2 => ?_) hx
        by_cases e2 : t = m
        · subst e2; rw [up2_at]
        · rw [up2_k _ _ e2]; exact hR t (by omega) ht2
      · refine r_aload_n dX3_lookAhead_49 rfl ?_
        refine r_iload_n dX3_lookAhead_50 rfl ?_
        refine r_iload_n dX3_lookAhead_51 rfl ?_
        refine r_callV2I dX3_lookAhead_52 moX3_isClouded w_525 w_483 w_484 (hsh.k0 hs) cl3 rfl (Nat.le_of_ble_eq_true rfl) (Nat.le_of_ble_eq_true rfl) (S_isClouded hsh hs hA2 wf (k := i) (by omega) (t := m) (by omega)) ?_
        refine r_ifb_ne (tgt := 64) dX3_lookAhead_55 (by decide) (fun h55 => ?_) (fun h55 => ?_)
        · refine r_iconst (v := 0) dX3_lookAhead_64 (by decide) ?_
          refine r_top (v := nI (rlF (visN dl tr i) (200 - m))) (by rw [rl_step (m := m) (by omega)]; first | (simp [visN, h46, h55]; done) | (simp [visN, h46, h55, nI_0]; done) | (simp [visN, h46, nI_0]; done)) ?_
          refine r_istore_n dX3_lookAhead_65 (by decide) rfl ?_
          refine r_aload_n dX3_lookAhead_66 rfl ?_
          refine r_getR (b := (s + 9)) dX3_lookAhead_67 f_X3_38 (hsh.k0 hs) (Or.inl ⟨_, rfl⟩) (hsh.kr8 hs) (by omega) ?_
          refine r_iload_n dX3_lookAhead_70 rfl ?_
          refine r_aald (j := i) (b := (s + 10 + i)) dX3_lookAhead_71 (hsh.k9 hs) (Or.inl rfl) (by omega) rfl (hsh.krc hs (show i < 7 by omega)) (by omega) ?_
          refine r_iload_n dX3_lookAhead_72 rfl ?_
          refine r_iload_n dX3_lookAhead_73 rfl ?_
          refine r_iast (j := m) dX3_lookAhead_74 (hsh.kc hs (show i < 7 by omega)) (by omega) rfl ?_
          refine r_iinc dX3_lookAhead_75 rfl (nI_dec m) rfl ?_
          refine r_goto (tgt := 36) dX3_lookAhead_78 (by decide) ?_
          refine ih _ (by omega) (hF.up (by omega)) (fun k hk hk1 hk2 => (hD k hk hk1 hk2).up hk1) (fun t ht1 ht2 => ?_) hx
          by_cases e2 : t = m
          · subst e2; rw [up2_at]
          · rw [up2_k _ _ e2]; exact hR t (by omega) ht2
        · refine r_iload_n dX3_lookAhead_58 rfl ?_
          refine r_iconst (v := 1) dX3_lookAhead_59 (by decide) ?_
          refine r_niadd (b := 1) dX3_lookAhead_60 rfl rfl ?_
          refine r_goto (tgt := 65) dX3_lookAhead_61 (by decide) ?_
          refine r_top (v := nI (rlF (visN dl tr i) (200 - m))) (by rw [rl_step (m := m) (by omega)]; first | (simp [visN, h46, h55]; done) | (simp [visN, h46, h55, nI_0]; done) | (simp [visN, h46, nI_0]; done)) ?_
          refine r_istore_n dX3_lookAhead_65 (by decide) rfl ?_
          refine r_aload_n dX3_lookAhead_66 rfl ?_
          refine r_getR (b := (s + 9)) dX3_lookAhead_67 f_X3_38 (hsh.k0 hs) (Or.inl ⟨_, rfl⟩) (hsh.kr8 hs) (by omega) ?_
          refine r_iload_n dX3_lookAhead_70 rfl ?_
          refine r_aald (j := i) (b := (s + 10 + i)) dX3_lookAhead_71 (hsh.k9 hs) (Or.inl rfl) (by omega) rfl (hsh.krc hs (show i < 7 by omega)) (by omega) ?_
          refine r_iload_n dX3_lookAhead_72 rfl ?_
          refine r_iload_n dX3_lookAhead_73 rfl ?_
          refine r_iast (j := m) dX3_lookAhead_74 (hsh.kc hs (show i < 7 by omega)) (by omega) rfl ?_
          refine r_iinc dX3_lookAhead_75 rfl (nI_dec m) rfl ?_
          refine r_goto (tgt := 36) dX3_lookAhead_78 (by decide) ?_
          refine ih _ (by omega) (hF.up (by omega)) (fun k hk hk1 hk2 => (hD k hk hk1 hk2).up hk1) (fun t ht1 ht2 => ?_) hx
          by_cases e2 : t = m
          · subst e2; rw [up2_at]
          · rw [up2_k _ _ e2]; exact hR t (by omega) ht2
  have outer : ∀ m i I2 u v, i + m = sz → FrC s I I2 → (∀ k, k < sz → (k < i ∨ sl.testBit k = false) → RowOK I2 s dl tr k) → Wp g (d + 2) mX3_lookAhead 2 [.ref s, .int (nI i), u, v] [] 0 0 n I2 J R (PostI n J R none (LAok s dl tr sz I)) := by
    intro m
    induction m with
    | zero =>
      intro i I2 u v hi hF hD
      have hA2 := hA.fr hF
      refine r_iload_n dX3_lookAhead_2 rfl ?_
      refine r_aload_n dX3_lookAhead_3 rfl ?_
      refine r_getIE dX3_lookAhead_4 f_X3_45 (hsh.k0 hs) (Or.inl rfl) hA2.2.2.1 ?_
      refine r_nicmp_ge  (tgt := 87) dX3_lookAhead_7 (by decide) rfl rfl (by omega) (by omega) (fun h7 => ?_) (fun h7 => absurd h7 (by omega))
      refine r_aload_n dX3_lookAhead_87 rfl ?_
      refine r_iconst (v := 0) dX3_lookAhead_88 (by decide) ?_
      refine r_putI dX3_lookAhead_89 f_X3_41 (hsh.k0 hs) (Or.inl rfl) rfl ?_
      refine r_vret dX3_lookAhead_92 rfl ?_
      refine ⟨rfl, rfl, rfl, rfl, fun a h1 h2 => ?_, fun j hj => ?_, up2_at _ _ _ _, by decide, fun k hk _ t ht => ?_⟩
      · rw [up2_a _ _ _ h1]; exact hF a h2
      · rw [up2_k _ _ hj, hF s (fun j _ => by omega)]
      · rw [up2_a _ _ _ (by omega)]; exact hD k hk (Or.inl (by omega)) t ht
    | succ m ih =>
      intro i I2 u v hi hF hD
      have hA2 := hA.fr hF
      have hsl2 : I2 s 9 = nI sl := by rw [hF s (fun j _ => by omega)]; exact hsl
      refine r_iload_n dX3_lookAhead_2 rfl ?_
      refine r_aload_n dX3_lookAhead_3 rfl ?_
      refine r_getIE dX3_lookAhead_4 f_X3_45 (hsh.k0 hs) (Or.inl rfl) hA2.2.2.1 ?_
      refine r_nicmp_ge  (tgt := 87) dX3_lookAhead_7 (by decide) rfl rfl (by omega) (by omega) (fun h7 => absurd h7 (by omega)) (fun h7 => ?_)
      refine r_iload_n dX3_lookAhead_10 rfl ?_
      refine r_bipush (v := 7) dX3_lookAhead_11 (by decide) ?_
      refine r_nicmp_ge (b := 7)  (tgt := 87) dX3_lookAhead_13 (by decide) rfl rfl (by omega) (by omega) (fun h13 => absurd h13 (by omega)) (fun h13 => ?_)
      refine r_aload_n dX3_lookAhead_16 rfl ?_
      refine r_getIE dX3_lookAhead_17 f_X3_41 (hsh.k0 hs) (Or.inl rfl) hsl2 ?_
      refine r_iload_n dX3_lookAhead_20 rfl ?_
      refine r_ishr dX3_lookAhead_21 ?_
      refine r_iconst (v := 1) dX3_lookAhead_22 (by decide) ?_
      refine r_iand dX3_lookAhead_23 ?_
      refine r_top (v := b2i (sl.testBit i)) (bit_ts _ h128 _ (by omega)) ?_
      refine r_ifb_ne (tgt := 30) dX3_lookAhead_24 (by decide) (fun h24 => ?_) (fun h24 => ?_)
      · refine r_iconst (v := 0) dX3_lookAhead_30 (by decide) ?_
        refine r_istore_n dX3_lookAhead_31 (by decide) rfl ?_
        refine r_sipush (v := 199) dX3_lookAhead_32 (by decide) ?_
        refine r_istore_n dX3_lookAhead_35 (by decide) rfl ?_
        refine inner i (by omega) 200 I2 (Nat.le_refl _) hF (fun k hk hk1 hk2 => hD k hk hk2) (fun t h1 h2 => by omega) (fun I3 u3 v3 hF3 hD3 => ?_)
        refine r_iincE (b := (i + 1)) dX3_lookAhead_81 rfl rfl (nI_succ _).symm rfl ?_
        refine r_goto (tgt := 2) dX3_lookAhead_84 (by decide) ?_
        exact ih (i + 1) I3 u3 v3 (by omega) hF3 hD3
      · refine r_goto (tgt := 81) dX3_lookAhead_27 (by decide) ?_
        refine r_iincE (b := (i + 1)) dX3_lookAhead_81 rfl rfl (nI_succ _).symm rfl ?_
        refine r_goto (tgt := 2) dX3_lookAhead_84 (by decide) ?_
        exact ih (i + 1) I2 u v (by omega) hF (fun k hk hk2 => hD k hk (by rcases hk2 with h | h; exact (by rcases Nat.lt_or_ge k i with q | q; exact Or.inl q; exact Or.inr (by rw [show k = i by omega]; exact h24)); exact Or.inr h))
  refine r_iconst (v := 0) dX3_lookAhead_0 (by decide) ?_
  refine r_istore_n dX3_lookAhead_1 (by decide) rfl ?_
  exact outer sz 0 I _ _ (by omega) FrC.rf (fun k hk hk2 => hrows k hk (by rcases hk2 with h | h; exact absurd h (by omega); exact h))
