/-! the model: a night -/
theorem rl_run {f : Nat → Bool} {s : Nat} : ∀ j, s + j ≤ 200 → (∀ i, s ≤ i → i < s + j → f i = true) → rlF f (200 - s) = rlF f (200 - (s + j)) + j
  | 0, _, _ => rfl
  | j + 1, h, hf => by
    rw [rl_run j (by omega) fun i h1 h2 => hf i h1 (by omega), rl_step (m := s + j) (by omega), if_pos (hf (s + j) (by omega) (by omega)), show s + (j + 1) = s + j + 1 by omega]
    omega
theorem fst_none {f : Nat → Bool} {nd last t : Nat} (h : last < t) : ∀ m, fstN f nd last m t = none
  | 0 => rfl
  | m + 1 => if_neg (by omega)
theorem fst_some {f : Nat → Bool} {nd last t : Nat} (h : t ≤ last) (ht : t < 200) (h2 : nd ≤ rlF f (200 - t)) : fstN f nd last (200 - t) t = some t := by
  rw [show 200 - t = (200 - (t + 1)) + 1 by omega] at h2 ⊢
  unfold fstN
  rw [if_pos h, show 200 - t = (200 - (t + 1)) + 1 by omega, if_pos h2]
theorem fst_skip {f : Nat → Bool} {nd last : Nat} : ∀ j a, a + j ≤ 200 → (∀ s, a ≤ s → s < a + j → rlF f (200 - s) < nd) → fstN f nd last (200 - a) a = fstN f nd last (200 - (a + j)) (a + j)
  | 0, _, _, _ => rfl
  | j + 1, a, h, hs => by
    have h0 := hs a (Nat.le_refl _) (by omega)
    have ih := fst_skip (f := f) (nd := nd) (last := last) j (a + 1) (by omega) fun s h1 h2 => hs s (by omega) (by omega)
    rw [show a + 1 + j = a + (j + 1) by omega] at ih
    rw [← ih]
    have e : 200 - a = (200 - (a + 1)) + 1 := by omega
    by_cases hl : a ≤ last
    · have e2 : fstN f nd last ((200 - (a + 1)) + 1) a = if a ≤ last then (if nd ≤ rlF f (200 - a) then some a else fstN f nd last (200 - (a + 1)) (a + 1)) else none := rfl
      rw [e, e2, if_pos hl, if_neg (by omega)]
    · rw [fst_none (by omega), fst_none (by omega)]
def MWk (I : TI) (x : NS) : Prop := I 102 27 = nI (nAt x) ∧ I 102 28 = nI (nTick x) ∧ I 102 29 = zI (nWorth x) ∧ I 102 30 = nI (nFound x) ∧ I 102 31 = nI (nWait x) ∧ (∀ k, k < 7 → I 109 k = zI (nFi x k)) ∧ ∀ k, k < 7 → I 110 k = zI (nWf x k)
def FrMo (I I2 : TI) : Prop := (∀ a, a ≠ 102 → a ≠ 109 → a ≠ 110 → I2 a = I a) ∧ ∀ k, (k < 12 ∨ 31 < k) → I2 102 k = I 102 k
theorem FrMo.rf {I : TI} : FrMo I I := ⟨fun _ _ _ _ => rfl, fun _ _ => rfl⟩
theorem FrMo.t {I I1 I2 : TI} (h : FrMo I I1) (h2 : FrMo I1 I2) : FrMo I I2 := ⟨fun a a1 a2 a3 => (h2.1 a a1 a2 a3).trans (h.1 a a1 a2 a3), fun k hk => (h2.2 k hk).trans (h.2 k hk)⟩
theorem FrMo.u {I I2 : TI} (h : FrMo I I2) {k : Nat} {v : Int32} (hk : 12 ≤ k ∧ k ≤ 31) : FrMo I (up2 I2 102 k v) := ⟨fun a a1 a2 a3 => by rw [up2_a _ _ _ a1]; exact h.1 a a1 a2 a3, fun j hj => by rw [up2_k _ _ (by omega)]; exact h.2 j hj⟩
theorem FrMo.o {I I2 : TI} (h : FrMo I I2) {a k : Nat} {v : Int32} (ha : a = 109 ∨ a = 110) : FrMo I (up2 I2 a k v) := ⟨fun a2 h1 h2 h3 => by rw [up2_a _ _ _ (by omega)]; exact h.1 a2 h1 h2 h3, fun j hj => by rw [up2_a _ _ _ (by omega)]; exact h.2 j hj⟩
theorem FrSy.m {I I2 : TI} (h : FrSy I I2) : FrMo I I2 := ⟨fun a a1 _ _ => h.1 a a1, fun k hk => h.2 k (by omega)⟩
section XMw
variable {n : Nat} {I I2 : TI} {R : TR} {dl : Nat → Nat} {tr : Nat → Nat → Nat} {sz rl : Nat} {V : TV} {x : NS}
theorem MdN.m (h : MdN n I R dl tr sz rl) (hF : FrMo I I2) : MdN n I2 R dl tr sz rl := h.fr (hF.1 106 (by decide) (by decide) (by decide)) (hF.1 107 (by decide) (by decide) (by decide)) (hF.1 108 (by decide) (by decide) (by decide)) (fun k hk => hF.2 k (by omega))
theorem TxV.m (h : TxV I rl V) (hF : FrMo I I2) : TxV I2 rl V := by
  obtain ⟨h6, b, z, h1, h2, h3, h4⟩ := h
  exact ⟨h6, b, z, h1, by rw [hF.1 104 (by decide) (by decide) (by decide)]; exact h2, fun j hj => by rw [hF.1 103 (by decide) (by decide) (by decide)]; exact h3 j hj, h4⟩
theorem MWk.s (h : MWk I x) (hF : FrSy I I2) : MWk I2 x := by
  unfold MWk at *
  rw [hF.2 27 (by decide), hF.2 28 (by decide), hF.2 29 (by decide), hF.2 30 (by decide), hF.2 31 (by decide), hF.1 109 (by decide), hF.1 110 (by decide)]
  exact h
theorem TxV.le (h : TxV I rl V) (p : Nat) (nm : Nat → Int32) : V p nm ≤ 99 := by
  obtain ⟨h6, b, z, h1, h2, h3, h4, h5⟩ := h
  rw [← h5]; exact rdTV_le _ _
end XMw
set_option maxRecDepth 20000 in
set_option maxHeartbeats 4000000 in
theorem S_mFirst {g : GP} {d n : Nat} {I : TI} {J : TJ} {R : TR} {dl : Nat → Nat} {tr : Nat → Nat → Nat} {sz rl : Nat} (hN : MdN n I R dl tr sz rl) {k t0 nd : Nat} (hk : k < sz) (ht : t0 < 100000) (hn : 1 ≤ nd ∧ nd < 100000) : Wp g (d + 2) mX7_firstFrom 0 [.ref 102, .int (nI k), .int (nI t0), .int (nI nd), .null, .null] [] 0 0 n I J R (RetI (oI (fstN (visN dl tr k) nd (if 199 < t0 + dl 7 then 199 else t0 + dl 7) (200 - t0) t0)) n I J R) := by
  have hsh := hN.sh
  have wf := hN.wf
  have hz := wf.2.2.1
  have m7 := wf.d7
  have hla : (if 199 < t0 + dl 7 then 199 else t0 + dl 7) ≤ 199 ∧ (if 199 < t0 + dl 7 then 199 else t0 + dl 7) ≤ t0 + dl 7 ∧ ∀ s, s ≤ 199 → s ≤ t0 + dl 7 → s ≤ (if 199 < t0 + dl 7 then 199 else t0 + dl 7) := by
    split
    · exact ⟨by omega, by omega, fun s h1 h2 => h1⟩
    · exact ⟨by omega, by omega, fun s h1 h2 => h2⟩
  generalize (if 199 < t0 + dl 7 then 199 else t0 + dl 7) = last at hla
  obtain ⟨hl1, hl2, hl3⟩ := hla
  have loop : ∀ q t run, t + q = 200 → run ≤ t → t0 ≤ t - run → run < nd → (∀ i, t - run ≤ i → i < t → visN dl tr k i = true) → fstN (visN dl tr k) nd last (200 - t0) t0 = fstN (visN dl tr k) nd last (200 - (t - run)) (t - run) → Wp g (d + 2) mX7_firstFrom 6 [.ref 102, .int (nI k), .int (nI t0), .int (nI nd), .int (nI run), .int (nI t)] [] 0 0 n I J R (RetI (oI (fstN (visN dl tr k) nd last (200 - t0) t0)) n I J R) := by
    intro q
    induction q with
    | zero =>
      intro t run hq hrt ht0 hrn hvis he
      refine r_iload dX7_firstFrom_6 rfl ?_
      refine r_sipush (v := 200) dX7_firstFrom_8 (by decide) ?_
      refine r_nicmp_ge (b := 200)  (tgt := 98) dX7_firstFrom_11 (by decide) rfl rfl (by omega) (by omega) (fun h11 => ?_) (fun h11 => absurd h11 (by omega))
      refine r_iconst (v := (-1)) dX7_firstFrom_98 (by decide) ?_
      refine r_iret dX7_firstFrom_99 rfl ?_
      refine retI ?_
      rw [he, fst_skip run (t - run) (by omega) fun s h1 h2 => by have := rlF_le (visN dl tr k) (200 - s); omega, show t - run + run = 200 by omega]
      rfl
    | succ q ih =>
      intro t run hq hrt ht0 hrn hvis he
      have hrl := rl_run (f := visN dl tr k) (s := t - run) run (by omega) fun i h1 h2 => hvis i h1 (by omega)
      rw [show t - run + run = t by omega] at hrl
      have hst := rl_step (f := visN dl tr k) (m := t) (by omega)
      refine r_iload dX7_firstFrom_6 rfl ?_
      refine r_sipush (v := 200) dX7_firstFrom_8 (by decide) ?_
      refine r_nicmp_ge (b := 200)  (tgt := 98) dX7_firstFrom_11 (by decide) rfl rfl (by omega) (by omega) (fun h11 => absurd h11 (by omega)) (fun h11 => ?_)
      refine r_iload dX7_firstFrom_14 rfl ?_
      refine r_iload dX7_firstFrom_16 rfl ?_
      refine r_nisub dX7_firstFrom_18 rfl rfl (by omega) ?_
      refine r_iload_n dX7_firstFrom_19 rfl ?_
      refine r_aload_n dX7_firstFrom_20 rfl ?_
      refine r_getR (b := 106) dX7_firstFrom_21 f_X7_23 (hsh.al rfl (by decide)) (Or.inl ⟨_, rfl⟩) (hsh.r 102 7 106 (by decide)) (by decide) ?_
      refine r_bipush (v := 7) dX7_firstFrom_24 (by decide) ?_
      refine r_ialdE (j := 7) dX7_firstFrom_26 (hsh.al rfl (by decide)) (by decide) (by decide) hN.d7 ?_
      refine r_niadd dX7_firstFrom_27 rfl rfl ?_
      refine r_nicmp_gt  (tgt := 98) dX7_firstFrom_28 (by decide) rfl rfl (by omega) (by omega) (fun h28 => ?_) (fun h28 => ?_)
      · refine r_iconst (v := (-1)) dX7_firstFrom_98 (by decide) ?_
        refine r_iret dX7_firstFrom_99 rfl ?_
        refine retI ?_
        rw [he, fst_none (by omega)]
        rfl
      · refine r_aload_n dX7_firstFrom_31 rfl ?_
        refine r_iload_n dX7_firstFrom_32 rfl ?_
        refine r_iload dX7_firstFrom_33 rfl ?_
        refine r_callV2I dX7_firstFrom_35 moX7_isUp w_966 w_968 s_32 (hsh.al rfl (by decide)) cl7 rfl (Nat.le_of_ble_eq_true rfl) (Nat.le_of_ble_eq_true rfl) (S_mIsUp hN (k := k) (t := t) hk (by omega)) ?_
        refine r_ifb_eq (tgt := 58) dX7_firstFrom_38 (by decide) (fun h38 => ?_) (fun h38 => ?_)
        · refine r_iconst (v := 0) dX7_firstFrom_58 (by decide) ?_
          refine r_istore dX7_firstFrom_59 (by decide) rfl ?_
          refine r_iload dX7_firstFrom_61 rfl ?_
          refine r_iload_n dX7_firstFrom_63 rfl ?_
          refine r_nicmp_ne (a := 0)  (tgt := 92) dX7_firstFrom_64 (by decide) rfl rfl (by omega) (by omega) (fun h64 => ?_) (fun h64 => absurd h64 (by omega))
          refine r_iincE (b := (t + 1)) dX7_firstFrom_92 rfl rfl (nI_succ _).symm rfl ?_
          refine r_goto (tgt := 6) dX7_firstFrom_95 (by decide) ?_
          have hv : visN dl tr k t = false := by unfold visN; rw [h38]; rfl
          rw [hv, if_neg (by decide)] at hst
          have hsk := fst_skip (f := visN dl tr k) (nd := nd) (last := last) (run + 1) (t - run) (by omega) fun s h1 h2 => by
            have h4 := rl_run (f := visN dl tr k) (s := s) (t - s) (by omega) fun i h5 h6 => hvis i (by omega) (by omega)
            rw [show s + (t - s) = t by omega] at h4
            omega
          rw [show t - run + (run + 1) = t + 1 by omega] at hsk
          exact ih (t + 1) 0 (by omega) (by omega) (by omega) (by omega) (fun i h1 h2 => absurd h1 (by omega)) (by rw [Nat.sub_zero, he, hsk])
        · refine r_aload_n dX7_firstFrom_41 rfl ?_
          refine r_iload_n dX7_firstFrom_42 rfl ?_
          refine r_iload dX7_firstFrom_43 rfl ?_
          refine r_callV2I dX7_firstFrom_45 moX7_isClouded w_970 w_972 s_33 (hsh.al rfl (by decide)) cl7 rfl (Nat.le_of_ble_eq_true rfl) (Nat.le_of_ble_eq_true rfl) (S_mIsCl hN (k := k) (t := t) hk (by omega)) ?_
          refine r_ifb_ne (tgt := 58) dX7_firstFrom_48 (by decide) (fun h48 => ?_) (fun h48 => ?_)
          · refine r_iconst (v := 0) dX7_firstFrom_58 (by decide) ?_
            refine r_istore dX7_firstFrom_59 (by decide) rfl ?_
            refine r_iload dX7_firstFrom_61 rfl ?_
            refine r_iload_n dX7_firstFrom_63 rfl ?_
            refine r_nicmp_ne (a := 0)  (tgt := 92) dX7_firstFrom_64 (by decide) rfl rfl (by omega) (by omega) (fun h64 => ?_) (fun h64 => absurd h64 (by omega))
            refine r_iincE (b := (t + 1)) dX7_firstFrom_92 rfl rfl (nI_succ _).symm rfl ?_
            refine r_goto (tgt := 6) dX7_firstFrom_95 (by decide) ?_
            have hv : visN dl tr k t = false := by unfold visN; rw [h38, h48]; rfl
            rw [hv, if_neg (by decide)] at hst
            have hsk := fst_skip (f := visN dl tr k) (nd := nd) (last := last) (run + 1) (t - run) (by omega) fun s h1 h2 => by
              have h4 := rl_run (f := visN dl tr k) (s := s) (t - s) (by omega) fun i h5 h6 => hvis i (by omega) (by omega)
              rw [show s + (t - s) = t by omega] at h4
              omega
            rw [show t - run + (run + 1) = t + 1 by omega] at hsk
            exact ih (t + 1) 0 (by omega) (by omega) (by omega) (by omega) (fun i h1 h2 => absurd h1 (by omega)) (by rw [Nat.sub_zero, he, hsk])
          · refine r_iload dX7_firstFrom_51 rfl ?_
            refine r_iconst (v := 1) dX7_firstFrom_53 (by decide) ?_
            refine r_niadd (b := 1) dX7_firstFrom_54 rfl rfl ?_
            refine r_goto (tgt := 59) dX7_firstFrom_55 (by decide) ?_
            refine r_istore dX7_firstFrom_59 (by decide) rfl ?_
            refine r_iload dX7_firstFrom_61 rfl ?_
            refine r_iload_n dX7_firstFrom_63 rfl ?_
            refine r_nicmp_ne  (tgt := 92) dX7_firstFrom_64 (by decide) rfl rfl (by omega) (by omega) (fun h64 => ?_) (fun h64 => ?_)
            · refine r_iincE (b := (t + 1)) dX7_firstFrom_92 rfl rfl (nI_succ _).symm rfl ?_
              refine r_goto (tgt := 6) dX7_firstFrom_95 (by decide) ?_
              have hv : visN dl tr k t = true := by unfold visN; rw [h38, h48]; rfl
              refine ih (t + 1) (run + 1) (by omega) (by omega) (by omega) (by omega) (fun i h1 h2 => ?_) (by rw [show t + 1 - (run + 1) = t - run by omega]; exact he)
              by_cases e : i = t
              · rw [e]; exact hv
              · exact hvis i (by omega) (by omega)
            · refine r_iload dX7_firstFrom_67 rfl ?_
              refine r_iload_n dX7_firstFrom_69 rfl ?_
              refine r_zisub dX7_firstFrom_70 (nz _) (nz _) ?_
              refine r_iconst (v := 1) dX7_firstFrom_71 (by decide) ?_
              refine r_ziadd (b := 1) dX7_firstFrom_72 rfl (by decide) ?_
              refine r_iload_n dX7_firstFrom_73 rfl ?_
              refine r_aload_n dX7_firstFrom_74 rfl ?_
              refine r_getR (b := 106) dX7_firstFrom_75 f_X7_23 (hsh.al rfl (by decide)) (Or.inl ⟨_, rfl⟩) (hsh.r 102 7 106 (by decide)) (by decide) ?_
              refine r_bipush (v := 7) dX7_firstFrom_78 (by decide) ?_
              refine r_ialdE (j := 7) dX7_firstFrom_80 (hsh.al rfl (by decide)) (by decide) (by decide) hN.d7 ?_
              refine r_niadd dX7_firstFrom_81 rfl rfl ?_
              refine r_zicmp_gt  (tgt := 92) dX7_firstFrom_82 (by decide) rfl (nz _) (by unfold inZ; omega) (by unfold inZ; omega) (fun h82 => absurd h82 (by omega)) (fun h82 => ?_)
              refine r_iload dX7_firstFrom_85 rfl ?_
              refine r_iload_n dX7_firstFrom_87 rfl ?_
              refine r_zisub dX7_firstFrom_88 (nz _) (nz _) ?_
              refine r_iconst (v := 1) dX7_firstFrom_89 (by decide) ?_
              refine r_ziadd (b := 1) dX7_firstFrom_90 rfl (by decide) ?_
              refine r_iret dX7_firstFrom_91 rfl ?_
              have hv : visN dl tr k t = true := by unfold visN; rw [h38, h48]; rfl
              rw [hv, if_pos rfl] at hst
              refine retI ?_
              rw [he, fst_some (t := t - run) (hl3 _ (by omega) (by omega)) (by omega) (by omega)]
              show _ = nI (t - run)
              rw [nz]
              congr 1
              omega
  refine r_iconst (v := 0) dX7_firstFrom_0 (by decide) ?_
  refine r_istore dX7_firstFrom_1 (by decide) rfl ?_
  refine r_iload_n dX7_firstFrom_3 rfl ?_
  refine r_istore dX7_firstFrom_4 (by decide) rfl ?_
  by_cases h2 : t0 < 200
  · exact loop (200 - t0) t0 0 (by omega) (by omega) (by omega) (by omega) (fun i h1 h2 => absurd h1 (by omega)) rfl
  · refine r_iload dX7_firstFrom_6 rfl ?_
    refine r_sipush (v := 200) dX7_firstFrom_8 (by decide) ?_
    refine r_nicmp_ge (b := 200)  (tgt := 98) dX7_firstFrom_11 (by decide) rfl rfl (by omega) (by omega) (fun h11 => ?_) (fun h11 => absurd h11 (by omega))
    refine r_iconst (v := (-1)) dX7_firstFrom_98 (by decide) ?_
    refine r_iret dX7_firstFrom_99 rfl ?_
    refine retI ?_
    rw [show 200 - t0 = 0 by omega]
    rfl
set_option maxRecDepth 20000 in
set_option maxHeartbeats 4000000 in
theorem S_mBegins {g : GP} {d n : Nat} {I : TI} {J : TJ} {R : TR} {dl : Nat → Nat} {tr : Nat → Nat → Nat} {sz rl : Nat} (hN : MdN n I R dl tr sz rl) : Wp g d mX7_beginsNight 0 [.ref 102, .null] [] 0 0 n I J R (PostI n J R none (fun I2 => FrMo I I2 ∧ MWk I2 (startN dl))) := by
  have hsh := hN.sh
  have wf := hN.wf
  have hz := wf.2.2.1
  have m7 := wf.d7
  have loop : ∀ q i I2, i + q = 7 → FrMo I I2 → I2 102 27 = nI (dl 5) → I2 102 28 = nI (dl 6) → I2 102 29 = zI 0 → I2 102 30 = nI 0 → I2 102 31 = nI 0 → (∀ j, j < i → I2 109 j = zI (-1)) → (∀ j, j < i → I2 110 j = zI (-1)) → Wp g d mX7_beginsNight 38 [.ref 102, .int (nI i)] [] 0 0 n I2 J R (PostI n J R none (fun I2 => FrMo I I2 ∧ MWk I2 (startN dl))) := by
    intro q
    induction q with
    | zero =>
      intro i I2 hi hF g1 g2 g3 g4 g5 g6 g7
      refine r_iload_n dX7_beginsNight_38 rfl ?_
      refine r_bipush (v := 7) dX7_beginsNight_39 (by decide) ?_
      refine r_nicmp_ge (b := 7)  (tgt := 64) dX7_beginsNight_41 (by decide) rfl rfl (by omega) (by omega) (fun h41 => ?_) (fun h41 => absurd h41 (by omega))
      refine r_vret dX7_beginsNight_64 rfl ?_
      exact ⟨rfl, rfl, rfl, rfl, hF, g1, g2, g3, g4, g5, fun k hk => g6 k (by omega), fun k hk => g7 k (by omega)⟩
    | succ q ih =>
      intro i I2 hi hF g1 g2 g3 g4 g5 g6 g7
      have e1 : ∀ k, up2 (up2 I2 109 i (-1)) 110 i (-1) 102 k = I2 102 k := fun k => by rw [up2_a _ _ _ (by decide), up2_a _ _ _ (by decide)]
      refine r_iload_n dX7_beginsNight_38 rfl ?_
      refine r_bipush (v := 7) dX7_beginsNight_39 (by decide) ?_
      refine r_nicmp_ge (b := 7)  (tgt := 64) dX7_beginsNight_41 (by decide) rfl rfl (by omega) (by omega) (fun h41 => absurd h41 (by omega)) (fun h41 => ?_)
      refine r_aload_n dX7_beginsNight_44 rfl ?_
      refine r_getR (b := 109) dX7_beginsNight_45 f_X7_32 (hsh.al rfl (by decide)) (Or.inl ⟨_, rfl⟩) (hsh.r 102 32 109 (by decide)) (by decide) ?_
      refine r_iload_n dX7_beginsNight_48 rfl ?_
      refine r_iconst (v := (-1)) dX7_beginsNight_49 (by decide) ?_
      refine r_iast (j := i) dX7_beginsNight_50 (hsh.al rfl (by decide)) (by omega) rfl ?_
      refine r_aload_n dX7_beginsNight_51 rfl ?_
      refine r_getR (b := 110) dX7_beginsNight_52 f_X7_35 (hsh.al rfl (by decide)) (Or.inl ⟨_, rfl⟩) (hsh.r 102 33 110 (by decide)) (by decide) ?_
      refine r_iload_n dX7_beginsNight_55 rfl ?_
      refine r_iconst (v := (-1)) dX7_beginsNight_56 (by decide) ?_
      refine r_iast (j := i) dX7_beginsNight_57 (hsh.al rfl (by decide)) (by omega) rfl ?_
      refine r_iincE (b := (i + 1)) dX7_beginsNight_58 rfl rfl (nI_succ _).symm rfl ?_
      refine r_goto (tgt := 38) dX7_beginsNight_61 (by decide) ?_
      refine ih (i + 1) _ (by omega) ((hF.o (Or.inl rfl)).o (Or.inr rfl)) ((e1 27).trans g1) ((e1 28).trans g2) ((e1 29).trans g3) ((e1 30).trans g4) ((e1 31).trans g5) (fun j hj => ?_) fun j hj => ?_
      · rw [up2_a _ _ _ (by decide)]
        by_cases e : j = i
        · rw [e, up2_at]; decide
        · rw [up2_k _ _ e]; exact g6 j (by omega)
      · by_cases e : j = i
        · rw [e, up2_at]; decide
        · rw [up2_k _ _ e, up2_a _ _ _ (by decide)]; exact g7 j (by omega)
  refine r_aload_n dX7_beginsNight_0 rfl ?_
  refine r_aload_n dX7_beginsNight_1 rfl ?_
  refine r_getR (b := 106) dX7_beginsNight_2 f_X7_23 (hsh.al rfl (by decide)) (Or.inl ⟨_, rfl⟩) (hsh.r 102 7 106 (by decide)) (by decide) ?_
  refine r_iconst (v := 5) dX7_beginsNight_5 (by decide) ?_
  refine r_ialdE (j := 5) dX7_beginsNight_6 (hsh.al rfl (by decide)) (by decide) (by decide) hN.d5 ?_
  refine r_putI dX7_beginsNight_7 f_X7_242 (hsh.al rfl (by decide)) (Or.inl rfl) rfl ?_
  refine r_aload_n dX7_beginsNight_10 rfl ?_
  refine r_aload_n dX7_beginsNight_11 rfl ?_
  refine r_getR (b := 106) dX7_beginsNight_12 f_X7_23 (hsh.al rfl (by decide)) (Or.inl ⟨_, rfl⟩) (hsh.r 102 7 106 (by decide)) (by decide) ?_
  refine r_bipush (v := 6) dX7_beginsNight_15 (by decide) ?_
  refine r_ialdE (j := 6) dX7_beginsNight_17 (hsh.al rfl (by decide)) (by decide) (by decide) ((congrFun (up2_a _ _ _ (by decide)) 6).trans hN.d6) ?_
  refine r_putI dX7_beginsNight_18 f_X7_245 (hsh.al rfl (by decide)) (Or.inl rfl) rfl ?_
  refine r_aload_n dX7_beginsNight_21 rfl ?_
  refine r_iconst (v := 0) dX7_beginsNight_22 (by decide) ?_
  refine r_putI dX7_beginsNight_23 f_X7_248 (hsh.al rfl (by decide)) (Or.inl rfl) rfl ?_
  refine r_aload_n dX7_beginsNight_26 rfl ?_
  refine r_iconst (v := 0) dX7_beginsNight_27 (by decide) ?_
  refine r_putI dX7_beginsNight_28 f_X7_251 (hsh.al rfl (by decide)) (Or.inl rfl) rfl ?_
  refine r_aload_n dX7_beginsNight_31 rfl ?_
  refine r_iconst (v := 0) dX7_beginsNight_32 (by decide) ?_
  refine r_putI dX7_beginsNight_33 f_X7_254 (hsh.al rfl (by decide)) (Or.inl rfl) rfl ?_
  refine r_iconst (v := 0) dX7_beginsNight_36 (by decide) ?_
  refine r_istore_n dX7_beginsNight_37 (by decide) rfl ?_
  refine loop 7 0 _ rfl (((((FrMo.rf.u (by decide)).u (by decide)).u (by decide)).u (by decide)).u (by decide)) ?_ ?_ ?_ ?_ ?_ (fun j hj => absurd hj (Nat.not_lt_zero _)) fun j hj => absurd hj (Nat.not_lt_zero _)
  · rw [up2_k _ _ (by decide), up2_k _ _ (by decide), up2_k _ _ (by decide), up2_k _ _ (by decide), up2_at]
  · rw [up2_k _ _ (by decide), up2_k _ _ (by decide), up2_k _ _ (by decide), up2_at]
  · rw [up2_k _ _ (by decide), up2_k _ _ (by decide), up2_at]; rfl
  · rw [up2_k _ _ (by decide), up2_at]; rfl
  · rw [up2_at]; rfl
set_option maxRecDepth 20000 in
set_option maxHeartbeats 4000000 in
theorem S_mLooks {g : GP} {d n : Nat} {I : TI} {J : TJ} {R : TR} {dl : Nat → Nat} {tr : Nat → Nat → Nat} {sz rl : Nat} (hN : MdN n I R dl tr sz rl) {V : TV} (hV : TxV I rl V) {x : NS} (hW : MWk I x) {k place : Nat} (hk : k < sz) (hat : nAt x < 100) (htk : nTick x < 10000) : Wp g (d + 47) mX7_looksFor 0 [.ref 102, .int (nI k), .int (nI place), .null, .null, .null, .null] [] 0 0 n I J R (PostM n R none (fun I2 _ => FrMo I I2 ∧ MWk I2 (lookN dl tr V k place x))) := by
  have hsh := hN.sh
  have wf := hN.wf
  have hz := wf.2.2.1
  have m7 := wf.d7
  have hVl := hV.le
  have b1 := wf.t1 (k := k) (by omega)
  generalize hv0 : V 0 (nmN (nTick x) (farN (nAt x) (tr 1 k)) (dl 0) (tr 0 k) (tr 1 k / 10) place) = v0
  have l0 : v0 ≤ 99 := by rw [← hv0]; exact hVl _ _
  generalize hv1 : V 1 (nmN (nTick x + v0) (farN (nAt x) (tr 1 k)) (dl 0) (tr 0 k) (tr 1 k / 10) place) = v1
  have l1 : v1 ≤ 99 := by rw [← hv1]; exact hVl _ _
  generalize hnd : needN dl tr k v1 = nd
  have l2 : nd ≤ 300 := by rw [← hnd]; exact needN_le wf (by omega) l1
  have l3 : 1 ≤ nd := by rw [← hnd]; unfold needN; simp only; (repeat' split) <;> omega
  refine r_aload_n dX7_looksFor_0 rfl ?_
  refine r_getIE dX7_looksFor_1 f_X7_242 (hsh.al rfl (by decide)) (Or.inl rfl) hW.1 ?_
  refine r_aload_n dX7_looksFor_4 rfl ?_
  refine r_iload_n dX7_looksFor_5 rfl ?_
  refine r_iconst (v := 1) dX7_looksFor_6 (by decide) ?_
  refine r_callV2I dX7_looksFor_7 moX7_row w_940 w_942 s_30 (hsh.al rfl (by decide)) cl7 rfl (Nat.le_of_ble_eq_true rfl) (Nat.le_of_ble_eq_true rfl) (S_mRow hN (k := k) (i := 1) hk (by decide)) ?_
  refine r_callS2I dX7_looksFor_10 moX7_farOf w_1089 w_1090 (Nat.le_of_ble_eq_true rfl) (Nat.le_of_ble_eq_true rfl) (S_mFar (a := nAt x) (b := tr 1 k) (by omega) (by omega)) ?_
  refine r_istore_n dX7_looksFor_13 (by decide) rfl ?_
  refine r_aload_n dX7_looksFor_14 rfl ?_
  refine r_getIE dX7_looksFor_15 f_X7_245 (hsh.al rfl (by decide)) (Or.inl rfl) hW.2.1 ?_
  refine r_aload_n dX7_looksFor_18 rfl ?_
  refine r_iconst (v := 0) dX7_looksFor_19 (by decide) ?_
  refine r_iload_n dX7_looksFor_20 rfl ?_
  refine r_aload_n dX7_looksFor_21 rfl ?_
  refine r_getIE dX7_looksFor_22 f_X7_245 (hsh.al rfl (by decide)) (Or.inl rfl) hW.2.1 ?_
  refine r_iload_n dX7_looksFor_25 rfl ?_
  refine r_iload_n dX7_looksFor_26 rfl ?_
  refine r_callV5N dX7_looksFor_27 moX7_says w_1092 w_1094 s_56 (hsh.al rfl (by decide)) cl7 rfl (Nat.le_of_ble_eq_true rfl) (Nat.le_of_ble_eq_true rfl) (S_mSays hN hV (p := 0) (k := k) (tick := nTick x) (far := farN (nAt x) (tr 1 k)) (place := place) (by decide) hk) (fun r n I2 J R hq => ?_)
  obtain ⟨rfl, rfl, rfl, hF2⟩ := hq
  have hN2 := hN.m hF2.m
  have hV2 := hV.m hF2.m
  have hW2 := hW.s hF2
  rw [hv0]
  refine r_some rfl ?_
  refine r_niadd dX7_looksFor_30 rfl rfl ?_
  refine r_istore dX7_looksFor_31 (by decide) rfl ?_
  refine r_aload_n dX7_looksFor_33 rfl ?_
  refine r_iload_n dX7_looksFor_34 rfl ?_
  refine r_aload_n dX7_looksFor_35 rfl ?_
  refine r_iconst (v := 1) dX7_looksFor_36 (by decide) ?_
  refine r_iload_n dX7_looksFor_37 rfl ?_
  refine r_iload dX7_looksFor_38 rfl ?_
  refine r_iload_n dX7_looksFor_40 rfl ?_
  refine r_iload_n dX7_looksFor_41 rfl ?_
  refine r_callV5N dX7_looksFor_42 moX7_says w_1092 w_1094 s_56 (hsh.al rfl (by decide)) cl7 rfl (Nat.le_of_ble_eq_true rfl) (Nat.le_of_ble_eq_true rfl) (S_mSays hN2 hV2 (p := 1) (k := k) (tick := nTick x + v0) (far := farN (nAt x) (tr 1 k)) (place := place) (by decide) hk) (fun r n I3 J R hq => ?_)
  obtain ⟨rfl, rfl, rfl, hF3⟩ := hq
  have hN3 := hN2.m hF3.m
  have hV3 := hV2.m hF3.m
  have hW3 := hW2.s hF3
  rw [hv1]
  refine r_some rfl ?_
  refine r_callV2I dX7_looksFor_45 moX7_needsOf w_1099 w_1101 s_57 (hsh.al rfl (by decide)) cl7 rfl (Nat.le_of_ble_eq_true rfl) (Nat.le_of_ble_eq_true rfl) (S_mNeeds hN3 (k := k) (v := v1) hk l1) ?_
  rw [hnd]
  refine r_istore dX7_looksFor_48 (by decide) rfl ?_
  refine r_aload_n dX7_looksFor_50 rfl ?_
  refine r_iload_n dX7_looksFor_51 rfl ?_
  refine r_iload dX7_looksFor_52 rfl ?_
  refine r_iload dX7_looksFor_54 rfl ?_
  refine r_callV3I dX7_looksFor_56 moX7_firstFrom w_1103 w_1105 s_58 (hsh.al rfl (by decide)) cl7 rfl (Nat.le_of_ble_eq_true rfl) (Nat.le_of_ble_eq_true rfl) (S_mFirst hN3 (k := k) (t0 := nTick x + v0) (nd := nd) hk (by omega) ⟨l3, by omega⟩) ?_
  refine r_istore dX7_looksFor_59 (by decide) rfl ?_
  rcases hfo : fstN (visN dl tr k) nd (if 199 < nTick x + v0 + dl 7 then 199 else nTick x + v0 + dl 7) (200 - (nTick x + v0)) (nTick x + v0) with _ | w
  · refine r_iload dX7_looksFor_61 rfl ?_
    refine r_iconst (v := (-1)) dX7_looksFor_63 (by decide) ?_
    refine r_icmp_ne (tgt := 68) dX7_looksFor_64 (by decide) (fun h64 => absurd rfl h64) (fun h64 => ?_)
    refine r_vret dX7_looksFor_67 rfl ?_
    rw [lookN_none hv0 hv1 hnd hfo]
    exact ⟨rfl, rfl, rfl, hF2.m.t hF3.m, hW3⟩
  · obtain ⟨w1, w2, w3⟩ := fstN_ge hfo
    have w4 : w ≤ 199 := by
      refine Nat.le_trans w2 ?_
      split <;> omega
    have e := lookN_some (place := place) hv0 hv1 hnd hfo rfl
    generalize hv2 : V 2 (nmN (nTick x + v0) (farN (nAt x) (tr 1 k)) (dl 0) (tr 0 k) (tr 1 k / 10) place) = v2 at e
    have l4 : v2 ≤ 99 := by rw [← hv2]; exact hVl _ _
    rw [e]
    refine r_iload dX7_looksFor_61 rfl ?_
    refine r_iconst (v := (-1)) dX7_looksFor_63 (by decide) ?_
    refine r_icmp_ne (tgt := 68) dX7_looksFor_64 (by decide) (fun h64 => ?_) (fun h64 => absurd h64 (nI_ne_m1 (by omega)))
    refine r_aload_n dX7_looksFor_68 rfl ?_
    refine r_dup dX7_looksFor_69 rfl ?_
    refine r_getIE dX7_looksFor_70 f_X7_248 (hsh.al rfl (by decide)) (Or.inl rfl) hW3.2.2.1 ?_
    refine r_aload_n dX7_looksFor_73 rfl ?_
    refine r_iload_n dX7_looksFor_74 rfl ?_
    refine r_callV1I dX7_looksFor_75 moX7_paysOf w_949 w_951 s_31 (hsh.al rfl (by decide)) cl7 rfl (Nat.le_of_ble_eq_true rfl) (Nat.le_of_ble_eq_true rfl) (S_mPays hN3 (k := k) hk) ?_
    refine r_aload_n dX7_looksFor_78 rfl ?_
    refine r_iconst (v := 2) dX7_looksFor_79 (by decide) ?_
    refine r_iload_n dX7_looksFor_80 rfl ?_
    refine r_iload dX7_looksFor_81 rfl ?_
    refine r_iload_n dX7_looksFor_83 rfl ?_
    refine r_iload_n dX7_looksFor_84 rfl ?_
    refine r_callV5N dX7_looksFor_85 moX7_says w_1092 w_1094 s_56 (hsh.al rfl (by decide)) cl7 rfl (Nat.le_of_ble_eq_true rfl) (Nat.le_of_ble_eq_true rfl) (S_mSays hN3 hV3 (p := 2) (k := k) (tick := nTick x + v0) (far := farN (nAt x) (tr 1 k)) (place := place) (by decide) hk) (fun r n I4 J R hq => ?_)
    obtain ⟨rfl, rfl, rfl, hF4⟩ := hq
    have hN4 := hN3.m hF4.m
    have hW4 := hW3.s hF4
    rw [hv2]
    refine r_some rfl ?_
    refine r_iload dX7_looksFor_88 rfl ?_
    refine r_iload dX7_looksFor_90 rfl ?_
    refine r_nisub dX7_looksFor_92 rfl rfl (by omega) ?_
    refine r_nimul dX7_looksFor_93 rfl rfl ?_
    refine r_zisub dX7_looksFor_94 (nz _) (nz _) ?_
    refine r_ziadd dX7_looksFor_95 rfl rfl ?_
    refine r_top (v := zI (nWorth x - (((w - (nTick x + v0) : Nat) : Int) * (v2 : Nat)) + (payN tr k : Nat))) (by congr 1; rw [← Int.natCast_mul, Nat.mul_comm v2]; omega) ?_
    refine r_putI dX7_looksFor_96 f_X7_248 (hsh.al rfl (by decide)) (Or.inl rfl) rfl ?_
    refine r_aload_n dX7_looksFor_99 rfl ?_
    refine r_dup dX7_looksFor_100 rfl ?_
    refine r_getIE dX7_looksFor_101 f_X7_251 (hsh.al rfl (by decide)) (Or.inl rfl) ((up2_k _ _ (by decide)).trans hW4.2.2.2.1) ?_
    refine r_iconst (v := 1) dX7_looksFor_104 (by decide) ?_
    refine r_iload_n dX7_looksFor_105 rfl ?_
    refine r_ishl dX7_looksFor_106 ?_
    refine r_top (v := nI (2 ^ k)) (bit_sh k (by omega)) ?_
    refine r_ior dX7_looksFor_107 ?_
    refine r_top (v := nI (nFound x ||| 2 ^ k)) (nI_or _ _) ?_
    refine r_putI dX7_looksFor_108 f_X7_251 (hsh.al rfl (by decide)) (Or.inl rfl) rfl ?_
    refine r_aload_n dX7_looksFor_111 rfl ?_
    refine r_dup dX7_looksFor_112 rfl ?_
    refine r_getIE dX7_looksFor_113 f_X7_254 (hsh.al rfl (by decide)) (Or.inl rfl) ((up2_k _ _ (by decide)).trans ((up2_k _ _ (by decide)).trans hW4.2.2.2.2.1)) ?_
    refine r_iload dX7_looksFor_116 rfl ?_
    refine r_iload dX7_looksFor_118 rfl ?_
    refine r_nisub dX7_looksFor_120 rfl rfl (by omega) ?_
    refine r_niadd dX7_looksFor_121 rfl rfl ?_
    refine r_putI dX7_looksFor_122 f_X7_254 (hsh.al rfl (by decide)) (Or.inl rfl) rfl ?_
    refine r_aload_n dX7_looksFor_125 rfl ?_
    refine r_getR (b := 109) dX7_looksFor_126 f_X7_32 (hsh.al rfl (by decide)) (Or.inl ⟨_, rfl⟩) (hsh.r 102 32 109 (by decide)) (by decide) ?_
    refine r_iload_n dX7_looksFor_129 rfl ?_
    refine r_iload dX7_looksFor_130 rfl ?_
    refine r_iload dX7_looksFor_132 rfl ?_
    refine r_niadd dX7_looksFor_134 rfl rfl ?_
    refine r_iconst (v := 1) dX7_looksFor_135 (by decide) ?_
    refine r_zisub (b := 1) dX7_looksFor_136 (nz _) (by decide) ?_
    refine r_iast (j := k) dX7_looksFor_137 (hsh.al rfl (by decide)) (by omega) rfl ?_
    refine r_aload_n dX7_looksFor_138 rfl ?_
    refine r_getR (b := 110) dX7_looksFor_139 f_X7_35 (hsh.al rfl (by decide)) (Or.inl ⟨_, rfl⟩) (hsh.r 102 33 110 (by decide)) (by decide) ?_
    refine r_iload_n dX7_looksFor_142 rfl ?_
    refine r_iload dX7_looksFor_143 rfl ?_
    refine r_iload dX7_looksFor_145 rfl ?_
    refine r_nisub dX7_looksFor_147 rfl rfl (by omega) ?_
    refine r_iast (j := k) dX7_looksFor_148 (hsh.al rfl (by decide)) (by omega) rfl ?_
    refine r_aload_n dX7_looksFor_149 rfl ?_
    have hN5 : MdN n (up2 (up2 (up2 (up2 (up2 I4 102 29 (zI (nWorth x - (((w - (nTick x + v0) : Nat) : Int) * (v2 : Nat)) + (payN tr k : Nat)))) 102 30 (nI (nFound x ||| 2 ^ k))) 102 31 (nI (nWait x + (w - (nTick x + v0))))) 109 k (zI (((w + nd : Nat) : Int) - 1))) 110 k (nI (w - (nTick x + v0)))) R dl tr sz rl := hN4.m (((((FrMo.rf.u (by decide)).u (by decide)).u (by decide)).o (Or.inl rfl)).o (Or.inr rfl))
    refine r_aload_n dX7_looksFor_150 rfl ?_
    refine r_iload_n dX7_looksFor_151 rfl ?_
    refine r_iconst (v := 1) dX7_looksFor_152 (by decide) ?_
    refine r_callV2I dX7_looksFor_153 moX7_row w_940 w_942 s_30 (hsh.al rfl (by decide)) cl7 rfl (Nat.le_of_ble_eq_true rfl) (Nat.le_of_ble_eq_true rfl) (S_mRow hN5 (k := k) (i := 1) hk (by decide)) ?_
    refine r_putI dX7_looksFor_156 f_X7_242 (hsh.al rfl (by decide)) (Or.inl rfl) rfl ?_
    refine r_aload_n dX7_looksFor_159 rfl ?_
    refine r_iload dX7_looksFor_160 rfl ?_
    refine r_iload dX7_looksFor_162 rfl ?_
    refine r_niadd dX7_looksFor_164 rfl rfl ?_
    refine r_putI dX7_looksFor_165 f_X7_245 (hsh.al rfl (by decide)) (Or.inl rfl) rfl ?_
    refine r_vret dX7_looksFor_168 rfl ?_
    refine ⟨rfl, rfl, rfl, ?_, ?_⟩
    · exact (hF2.m.t (hF3.m.t hF4.m)).t (((((((FrMo.rf.u (by decide)).u (by decide)).u (by decide)).o (Or.inl rfl)).o (Or.inr rfl)).u (by decide)).u (by decide))
    · refine ⟨?_, ?_, ?_, ?_, ?_, fun q hq => ?_, fun q hq => ?_⟩
      · rw [up2_k _ _ (by decide), up2_at]
      · exact up2_at _ _ _ _
      · rw [up2_k _ _ (by decide), up2_k _ _ (by decide), up2_a _ _ _ (by decide), up2_a _ _ _ (by decide), up2_k _ _ (by decide), up2_k _ _ (by decide), up2_at]
      · rw [up2_k _ _ (by decide), up2_k _ _ (by decide), up2_a _ _ _ (by decide), up2_a _ _ _ (by decide), up2_k _ _ (by decide), up2_at]
      · rw [up2_k _ _ (by decide), up2_k _ _ (by decide), up2_a _ _ _ (by decide), up2_a _ _ _ (by decide), up2_at]
      · rw [up2_a _ _ _ (by decide), up2_a _ _ _ (by decide), up2_a _ _ _ (by decide)]
        show _ = zI (upZ (nFi x) k (((w + nd : Nat) : Int) - 1) q)
        by_cases e9 : q = k
        · rw [e9, up2_at, upZ_at]
        · rw [up2_k _ _ e9, up2_a _ _ _ (by decide), up2_a _ _ _ (by decide), up2_a _ _ _ (by decide), upZ_ne _ _ e9]; exact hW4.2.2.2.2.2.1 q hq
      · rw [up2_a _ _ _ (by decide), up2_a _ _ _ (by decide)]
        show _ = zI (upZ (nWf x) k ((w - (nTick x + v0) : Nat) : Int) q)
        by_cases e9 : q = k
        · rw [e9, up2_at, upZ_at]; rfl
        · rw [up2_k _ _ e9, up2_a _ _ _ (by decide), up2_a _ _ _ (by decide), up2_a _ _ _ (by decide), up2_a _ _ _ (by decide), upZ_ne _ _ e9]; exact hW4.2.2.2.2.2.2 q hq
