/-! setting, late, chance, order -/
theorem bcN_le (f : Nat) : bcN f ≤ 7 := Nat.le_trans (List.length_filter_le _ _) (by simp)
def setpN (dl : Nat → Nat) (tr : Nat → Nat → Nat) (V : TV) (sz : Nat) : Nat → Nat × Nat × NS
  | 0 => (0, 0, startN dl)
  | i + 1 => ((setpN dl tr V sz i).1 ||| 2 ^ (ftsN tr (setpN dl tr V sz i).1 sz).1, (setpN dl tr V sz i).2.1 * 10 + (ftsN tr (setpN dl tr V sz i).1 sz).1 + 1, lookN dl tr V (ftsN tr (setpN dl tr V sz i).1 sz).1 i (setpN dl tr V sz i).2.2)
theorem setpN_ok {dl : Nat → Nat} {tr : Nat → Nat → Nat} {sz rl : Nat} (wf : WF dl tr sz rl) {V : TV} (hV : ∀ p nm, V p nm ≤ 99) : ∀ i, i ≤ sz → (setpN dl tr V sz i).1 < 128 ∧ NOK i (setpN dl tr V sz i).2.2
  | 0, _ => ⟨by show 0 < 128; decide, startN_ok wf⟩
  | i + 1, h => by
    have ih := setpN_ok wf hV i (by omega)
    have hf := ftsN_lt (tr := tr) (gone := (setpN dl tr V sz i).1) (sz := sz) sz (Nat.le_refl _)
    have hz := wf.2.2.1
    exact ⟨or_lt ih.1 (by omega), lookN_ok wf hV (by omega) ih.2⟩
def setgN (σ : CSt) (i : Nat) : Nat × Nat × NS := setpN (qdl σ) (qtr σ) (qtv σ (qrl σ)) (qsz σ) i
def setgV (σ : CSt) (w : Int) : Int := if 0 ≤ w ∧ w < 2 then (if w = 0 then nWorth (setgN σ (qsz σ)).2.2 else ((setgN σ (qsz σ)).2.1 : Nat)) else -100000
def lateF (σ : CSt) (t : Nat) : Nat := bcN (nFound (plainN (up1 (qdl σ) 6 t) (qtr σ) (qtv σ (qrl σ)) (qsz σ) (2 ^ qsz σ - 1)))
def nowN (σ : CSt) : Nat := bcN (nFound (plC σ))
def lateN (f : Nat → Nat) (now : Nat) : Nat → Int
  | 0 => -1
  | m + 1 => if now ≤ f m then (m : Int) else lateN f now m
def lateV (σ : CSt) : Int := lateN (lateF σ) (nowN σ) 200
theorem WF.upDl {dl : Nat → Nat} {tr : Nat → Nat → Nat} {sz rl w v : Nat} (wf : WF dl tr sz rl) (hv : v ≤ dB w) : WF (up1 dl w v) tr sz rl := ⟨fun j hj => by
  unfold up1
  split
  · rename_i e; rw [e]; exact hv
  · exact wf.1 j hj, wf.2⟩
theorem drwN_wf {dl : Nat → Nat} {tr : Nat → Nat → Nat} {sz rl : Nat} (wf : WF dl tr sz rl) (seed : Int32) : ∀ i, i ≤ 4 → WF (drwN dl seed i).2 tr sz rl
  | 0, _ => wf
  | i + 1, h => by
    refine (drwN_wf wf seed i (by omega)).upDl ?_
    have e : i = 0 ∨ i = 1 ∨ i = 2 ∨ i = 3 := by omega
    have h1 := Nat.mod_lt (drwV ((drwN dl seed i).1 * 1103515245 + 12345)) (show 0 < 10 by decide)
    have h2 := Nat.mod_lt (drwV ((drwN dl seed i).1 * 1103515245 + 12345)) (show 0 < 200 by decide)
    rcases e with rfl | rfl | rfl | rfl
    · exact Nat.le_of_lt_succ h1
    · exact Nat.le_of_lt_succ h1
    · exact Nat.le_of_lt_succ h2
    · exact Nat.le_of_lt_succ h2
def goodN (σ : CSt) (seed : Int32) : Nat → Nat
  | 0 => 0
  | i + 1 => if clearN σ ≤ drawnN σ (seed + nI i) then goodN σ seed i + 1 else goodN σ seed i
theorem goodN_le (σ : CSt) (seed : Int32) : ∀ i, goodN σ seed i ≤ i
  | 0 => Nat.le_refl _
  | i + 1 => by
    have := goodN_le σ seed i
    unfold goodN
    split <;> omega
def chanV (σ : CSt) (seed : Int32) (m w : Int) : Int64 := if 1 ≤ m ∧ m ≤ 20 ∧ 0 ≤ w ∧ w < 2 then (nI (lowN (if w = 0 then goodN σ seed m.toNat else m.toNat) (goodN σ seed m.toNat) m.toNat m.toNat)).toInt64 else -4611686018427387904
def ordrN (dl : Nat → Nat) (tr : Nat → Nat → Nat) (V : TV) (it : Nat → Int32) : Nat → NS
  | 0 => startN dl
  | i + 1 => lookN dl tr V (it i).toInt.toNat i (ordrN dl tr V it i)
theorem tellN_it {it it2 : Nat → Int32} {sz : Nat} : ∀ {m i told : Nat}, (∀ j, j < i + m → it j = it2 j) → tellN it sz m i told = tellN it2 sz m i told
  | 0, _, _, _ => rfl
  | m + 1, i, told, h => by
    show (if bw (it i) (nI sz) then tellN it sz m (i + 1) (told ||| 2 ^ (it i).toInt.toNat) else false) = (if bw (it2 i) (nI sz) then tellN it2 sz m (i + 1) (told ||| 2 ^ (it2 i).toInt.toNat) else false)
    rw [h i (by omega), tellN_it (m := m) (i := i + 1) fun j hj => h j (by omega)]
theorem eachN_it {it it2 : Nat → Int32} {so : Int} {z sz : Nat} (h : ∀ j, j < 40 → it j = it2 j) (hz : sz ≤ 7) : eachN so z it sz = eachN so z it2 sz := by
  unfold eachN
  rw [tellN_it fun j hj => h j (by omega)]
theorem ordrN_ok {dl : Nat → Nat} {tr : Nat → Nat → Nat} {sz rl : Nat} (wf : WF dl tr sz rl) {V : TV} (hV : ∀ p nm, V p nm ≤ 99) {it : Nat → Int32} : ∀ i, (∀ j, j < i → (it j).toInt.toNat < 7) → NOK i (ordrN dl tr V it i)
  | 0, _ => startN_ok wf
  | i + 1, h => lookN_ok wf hV (h i (by omega)) (ordrN_ok wf hV i fun j hj => h j (by omega))
def ordrV (σ : CSt) (s w : Int) : Int := if 0 ≤ s ∧ s < 4 ∧ asksN (qsz σ) w = true ∧ eachN (qso σ s.toNat) (qzs σ s.toNat) (qit σ s.toNat) (qsz σ) = true then ansN (ordrN (qdl σ) (qtr σ) (qtv σ (qrl σ)) (qit σ s.toNat) (qsz σ)) w.toNat else -100000
set_option maxRecDepth 20000 in
set_option maxHeartbeats 4000000 in
theorem S_setting {g : GP} {d n : Nat} {I : TI} {J : TJ} {R : TR} {σ : CSt} (hC : CS n I R σ) {w : Int} (hw : inZ w) : Wp g (d + 5) mX6_setting 0 [.ref 12, .int (zI w), .null, .null, .null, .null] [] 0 0 n I J R (PB n I J R (.int (zI (setgV σ w))) σ) := by
  have hsh := hC.sh
  have hA := hC.k13.1
  have wf := hC.k13.2.1
  have hz := wf.2.2.1
  have h13 : isSky 13 := Or.inl rfl
  have h47 : isSky 47 := Or.inr (Or.inr rfl)
  have hn := hsh.1
  have e1 : bw (zI w) 2 = decide (0 ≤ w ∧ w < (2 : Nat)) := bw_z rfl hw (by decide)
  have loop : 0 ≤ w ∧ w < 2 → ∀ q i v I2 R2, i + q = qsz σ → FrR R R2 → BegP I 13 (qdl σ) (qtr σ) (qsz σ) (qrl σ) (setgN σ i).2.2 I2 R2 → Wp g (d + 5) mX6_setting 29 [.ref 12, .int (zI w), .int (nI (setgN σ i).1), .int (nI (setgN σ i).2.1), .int (nI i), v] [] 0 0 n I2 J R2 (PB n I J R (.int (zI (setgV σ w))) σ) := by
    intro hw2 q
    induction q with
    | zero =>
      intro i v I2 R2 hi hR hB
      have hsh := hsh.fr hR
      have hA2 := hA.nt h13 hB.2.2.1
      have e : i = qsz σ := by omega
      subst e
      refine r_iload dX6_setting_29 rfl ?_
      refine r_aload_n dX6_setting_31 rfl ?_
      refine r_getR (b := 13) dX6_setting_32 f_X6_10 (hsh.al rfl (by decide)) (Or.inr ⟨_, rfl⟩) (hsh.r 12 0 13 (by decide)) (by decide) ?_
      refine r_getIE dX6_setting_35 f_X6_95 (hsh.al rfl (by decide)) (Or.inl rfl) hA2.2.2.1 ?_
      refine r_nicmp_ge  (tgt := 82) dX6_setting_38 (by decide) rfl rfl (by omega) (by omega) (fun h38 => ?_) (fun h38 => absurd h38 (by omega))
      refine r_iload_n dX6_setting_82 rfl ?_
      refine r_zif_ne (tgt := 96) dX6_setting_83 (by decide) rfl hw (fun h83 => ?_) (fun h83 => ?_)
      · refine r_iload_n dX6_setting_96 rfl ?_
        refine r_iret dX6_setting_97 rfl ?_
        have e0 : setgV σ w = ((setgN σ (qsz σ)).2.1 : Nat) := by unfold setgV; rw [if_pos hw2, if_neg h83]
        rw [e0, ← nz]
        exact PB.of hC hR (hC.k13.beg h13 hB) (FrX.rf.nt (Or.inl rfl) hB.2.2.1)
      · refine r_aload_n dX6_setting_86 rfl ?_
        refine r_getR (b := 97) dX6_setting_87 f_X6_56 (hsh.al rfl (by decide)) (Or.inr ⟨_, rfl⟩) (hsh.r 12 7 97 (by decide)) (by decide) ?_
        refine r_getIE dX6_setting_90 f_X6_159 (hsh.al rfl (by decide)) (Or.inl rfl) hB.1.2.2.1 ?_
        refine r_goto (tgt := 97) dX6_setting_93 (by decide) ?_
        refine r_iret dX6_setting_97 rfl ?_
        have e0 : setgV σ w = nWorth (setgN σ (qsz σ)).2.2 := by unfold setgV; rw [if_pos hw2, if_pos h83]
        rw [e0]
        exact PB.of hC hR (hC.k13.beg h13 hB) (FrX.rf.nt (Or.inl rfl) hB.2.2.1)
    | succ q ih =>
      intro i v I2 R2 hi hR hB
      have hsh0 := hsh
      have hsh := hsh.fr hR
      have hA2 := hA.nt h13 hB.2.2.1
      have hok := setpN_ok wf (hC.tx.le hC.rlt) i (by omega)
      have hf := ftsN_lt (tr := qtr σ) (gone := (setgN σ i).1) (sz := qsz σ) (qsz σ) (Nat.le_refl _)
      refine r_iload dX6_setting_29 rfl ?_
      refine r_aload_n dX6_setting_31 rfl ?_
      refine r_getR (b := 13) dX6_setting_32 f_X6_10 (hsh.al rfl (by decide)) (Or.inr ⟨_, rfl⟩) (hsh.r 12 0 13 (by decide)) (by decide) ?_
      refine r_getIE dX6_setting_35 f_X6_95 (hsh.al rfl (by decide)) (Or.inl rfl) hA2.2.2.1 ?_
      refine r_nicmp_ge  (tgt := 82) dX6_setting_38 (by decide) rfl rfl (by omega) (by omega) (fun h38 => absurd h38 (by omega)) (fun h38 => ?_)
      refine r_aload_n dX6_setting_41 rfl ?_
      refine r_iload_n dX6_setting_42 rfl ?_
      refine r_callV1I dX6_setting_43 moX6_firstToSet w_631 w_633 s_19 (hsh.al rfl (by decide)) cl6 rfl (Nat.le_of_ble_eq_true rfl) (Nat.le_of_ble_eq_true rfl) (S_firstToSet hsh hA2 wf hok.1) ?_
      refine r_istore dX6_setting_46 (by decide) rfl ?_
      refine r_iload_n dX6_setting_48 rfl ?_
      refine r_iconst (v := 1) dX6_setting_49 (by decide) ?_
      refine r_iload dX6_setting_50 rfl ?_
      refine r_ishl dX6_setting_52 ?_
      refine r_top (v := nI (2 ^ (ftsN (qtr σ) (setgN σ i).1 (qsz σ)).1)) (bit_sh _ (by omega)) ?_
      refine r_ior dX6_setting_53 ?_
      refine r_top (v := nI ((setgN σ i).1 ||| 2 ^ (ftsN (qtr σ) (setgN σ i).1 (qsz σ)).1)) (nI_or _ _) ?_
      refine r_istore_n dX6_setting_54 (by decide) rfl ?_
      refine r_iload_n dX6_setting_55 rfl ?_
      refine r_bipush (v := 10) dX6_setting_56 (by decide) ?_
      refine r_nimul (b := 10) dX6_setting_58 rfl rfl ?_
      refine r_iload dX6_setting_59 rfl ?_
      refine r_niadd dX6_setting_61 rfl rfl ?_
      refine r_iconst (v := 1) dX6_setting_62 (by decide) ?_
      refine r_niadd (b := 1) dX6_setting_63 rfl rfl ?_
      refine r_istore_n dX6_setting_64 (by decide) rfl ?_
      refine r_aload_n dX6_setting_65 rfl ?_
      refine r_getR (b := 97) dX6_setting_66 f_X6_56 (hsh.al rfl (by decide)) (Or.inr ⟨_, rfl⟩) (hsh.r 12 7 97 (by decide)) (by decide) ?_
      refine r_iload dX6_setting_69 rfl ?_
      refine r_iload dX6_setting_71 rfl ?_
      refine r_callV2N dX6_setting_73 moX5_lookFor w_591 w_532 w_533 (hsh.al rfl (by decide)) cl5 rfl (Nat.le_of_ble_eq_true rfl) (Nat.le_of_ble_eq_true rfl) (S_look hsh0 h13 hC.k13 hC.tx hC.rlt hC.ks (k := (ftsN (qtr σ) (setgN σ i).1 (qsz σ)).1) (place := i) (by omega) (by omega) hR hB hok.2.1 hok.2.2.1) (fun r n I4 J R hq => ?_)
      obtain ⟨rfl, rfl, rfl, rfl, hB4⟩ := hq
      refine r_iincE (b := (i + 1)) dX6_setting_76 rfl rfl (nI_succ _).symm rfl ?_
      refine r_goto (tgt := 29) dX6_setting_79 (by decide) ?_
      exact ih (i + 1) _ _ _ (by omega) hR hB4
  refine r_iload_n dX6_setting_0 rfl ?_
  refine r_iconst (v := 2) dX6_setting_1 (by decide) ?_
  refine r_callS2I dX6_setting_2 moX6_isBelow w_458 w_400 (Nat.le_of_ble_eq_true rfl) (Nat.le_of_ble_eq_true rfl) (S_isBelow _ _) ?_
  refine r_ifb_ne (tgt := 11) dX6_setting_5 (by decide) (fun h5 => ?_) (fun h5 => ?_)
  · rw [e1, decide_eq_true_eq] at h5
    refine r_iconst (v := 0) dX6_setting_11 (by decide) ?_
    refine r_istore_n dX6_setting_12 (by decide) rfl ?_
    refine r_iconst (v := 0) dX6_setting_13 (by decide) ?_
    refine r_istore_n dX6_setting_14 (by decide) rfl ?_
    refine r_aload_n dX6_setting_15 rfl ?_
    refine r_getR (b := 97) dX6_setting_16 f_X6_56 (hsh.al rfl (by decide)) (Or.inr ⟨_, rfl⟩) (hsh.r 12 7 97 (by decide)) (by decide) ?_
    refine r_aload_n dX6_setting_19 rfl ?_
    refine r_getR (b := 13) dX6_setting_20 f_X6_10 (hsh.al rfl (by decide)) (Or.inr ⟨_, rfl⟩) (hsh.r 12 0 13 (by decide)) (by decide) ?_
    refine r_callV1N dX6_setting_23 moX5_begin w_590 w_517 w_518 (hsh.al rfl (by decide)) cl5 rfl (Nat.le_of_ble_eq_true rfl) (Nat.le_of_ble_eq_true rfl) (S_beg hsh h13 hC.k13 hC.tx hC.rlt hC.ks) (fun r n I2 J R hq => ?_)
    obtain ⟨rfl, rfl, rfl, fR, hB⟩ := hq
    refine r_iconst (v := 0) dX6_setting_26 (by decide) ?_
    refine r_istore dX6_setting_27 (by decide) rfl ?_
    exact loop h5 (qsz σ) 0 _ _ _ (Nat.zero_add _) fR hB
  · rw [e1, decide_eq_false_iff_not] at h5
    refine r_ldcI dX6_setting_8 w_510 ?_
    refine r_iret dX6_setting_10 rfl ?_
    have e0 : setgV σ w = -100000 := if_neg (by omega)
    rw [e0]
    exact PB.rf hC
set_option maxRecDepth 20000 in
set_option maxHeartbeats 4000000 in
theorem S_late {g : GP} {d n : Nat} {I : TI} {J : TJ} {R : TR} {σ : CSt} (hC : CS n I R σ) : Wp g (d + 6) mX6_late 0 [.ref 12, .null, .null] [] 0 0 n I J R (PB n I J R (.int (zI (lateV σ))) σ) := by
  have hsh := hC.sh
  have hA := hC.k13.1
  have wf := hC.k13.2.1
  have hz := wf.2.2.1
  have h13 : isSky 13 := Or.inl rfl
  have h47 : isSky 47 := Or.inr (Or.inr rfl)
  have hn := hsh.1
  have hb1 := bcN_le (nFound (plC σ))
  have loop : ∀ q I2 R2, q ≤ 200 → FrR R R2 → (∃ p, SkyOK I2 47 (up1 (qdl σ) 6 p) (qtr σ) (qsz σ) (qrl σ)) → SkyOK I2 13 (qdl σ) (qtr σ) (qsz σ) (qrl σ) → FrX I I2 → lateN (lateF σ) (nowN σ) q = lateV σ → Wp g (d + 6) mX6_late 24 [.ref 12, .int (nI (nowN σ)), .int (zI ((q : Int) - 1))] [] 0 0 n I2 J R2 (PB n I J R (.int (zI (lateV σ))) σ) := by
    intro q
    induction q with
    | zero =>
      intro I2 R2 hi hR hp hK2 fX he
      refine r_iload_n dX6_late_24 rfl ?_
      refine r_zif_lt (tgt := 60) dX6_late_25 (by decide) rfl (by unfold inZ; omega) (fun h25 => ?_) (fun h25 => absurd h25 (by omega))
      refine r_iconst (v := (-1)) dX6_late_60 (by decide) ?_
      refine r_iret dX6_late_61 rfl ?_
      rw [← he]
      exact PB.of hC hR hK2 fX
    | succ q ih =>
      intro I2 R2 hi hR hp hK2 fX he
      obtain ⟨p, hp⟩ := hp
      have hsh := hsh.fr hR
      have e : zI (((q + 1 : Nat) : Int) - 1) = nI q := by rw [nz]; congr 1; omega
      rw [e]
      have k2 := hp.upD (w := 6) (v := q) (by decide) (by show q ≤ 199; omega)
      rw [up1_up1] at k2
      have f2 : FrX I (chD I2 47 6 (nI q) (qsz σ)) := fX.in chD_in
      have hK3 := hK2.of47 (I2 := chD I2 47 6 (nI q) (qsz σ)) chD_in
      have hb2 : lateF σ q ≤ 7 := bcN_le _
      have hb3 : nowN σ ≤ 7 := bcN_le _
      refine r_iload_n dX6_late_24 rfl ?_
      refine r_zif_lt (tgt := 60) dX6_late_25 (by decide) (nz _) (by unfold inZ; omega) (fun h25 => absurd h25 (by omega)) (fun h25 => ?_)
      refine r_aload_n dX6_late_28 rfl ?_
      refine r_getR (b := 47) dX6_late_29 f_X6_19 (hsh.al rfl (by decide)) (Or.inr ⟨_, rfl⟩) (hsh.r 12 2 47 (by decide)) (by decide) ?_
      refine r_bipush (v := 6) dX6_late_32 (by decide) ?_
      refine r_iconst (v := 0) dX6_late_34 (by decide) ?_
      refine r_iload_n dX6_late_35 rfl ?_
      refine r_callV3I dX6_late_36 moX3_change w_446 w_447 w_448 (hsh.al rfl (by decide)) cl3 rfl (Nat.le_of_ble_eq_true rfl) (Nat.le_of_ble_eq_true rfl) (S_changeD hsh h47 hp.1 hp.2.1 (w := 6) (by decide) 0 _) ?_
      refine r_pop dX6_late_39 rfl ?_
      refine r_aload_n dX6_late_40 rfl ?_
      refine r_aload_n dX6_late_41 rfl ?_
      refine r_getR (b := 47) dX6_late_42 f_X6_19 (hsh.al rfl (by decide)) (Or.inr ⟨_, rfl⟩) (hsh.r 12 2 47 (by decide)) (by decide) ?_
      refine r_callV1N dX6_late_45 moX6_foundPlain w_639 w_641 s_20 (hsh.al rfl (by decide)) cl6 rfl (Nat.le_of_ble_eq_true rfl) (Nat.le_of_ble_eq_true rfl) (S_foundPlain hsh h47 k2 (f2.tx hC.tx) hC.rlt (f2.ks hC.ks)) (fun r n I3 J R hq => ?_)
      obtain ⟨rfl, rfl, rfl, fR, hB⟩ := hq
      refine r_some (w := nI (lateF σ q)) rfl ?_
      refine r_iload_n dX6_late_48 rfl ?_
      refine r_nicmp_lt  (tgt := 54) dX6_late_49 (by decide) rfl rfl (by omega) (by omega) (fun h49 => ?_) (fun h49 => ?_)
      · refine r_iinc dX6_late_54 rfl (nI_dec q) rfl ?_
        refine r_goto (tgt := 24) dX6_late_57 (by decide) ?_
        have e2 : lateN (lateF σ) (nowN σ) (q + 1) = lateN (lateF σ) (nowN σ) q := if_neg (by omega)
        exact ih I3 _ (by omega) (hR.t fR) ⟨q, k2.beg h47 hB⟩ (hK3.out hB.2.2.1.in47) (f2.nt (Or.inr rfl) hB.2.2.1) (by rw [← e2]; exact he)
      · refine r_iload_n dX6_late_52 rfl ?_
        refine r_iret dX6_late_53 rfl ?_
        have e2 : lateN (lateF σ) (nowN σ) (q + 1) = (q : Int) := if_pos (by omega)
        rw [← he, e2, ← nz]
        exact PB.of hC (hR.t fR) (hK3.out hB.2.2.1.in47) (f2.nt (Or.inr rfl) hB.2.2.1)
  refine r_aload_n dX6_late_0 rfl ?_
  refine r_aload_n dX6_late_1 rfl ?_
  refine r_getR (b := 13) dX6_late_2 f_X6_10 (hsh.al rfl (by decide)) (Or.inr ⟨_, rfl⟩) (hsh.r 12 0 13 (by decide)) (by decide) ?_
  refine r_callV1N dX6_late_5 moX6_foundPlain w_639 w_641 s_20 (hsh.al rfl (by decide)) cl6 rfl (Nat.le_of_ble_eq_true rfl) (Nat.le_of_ble_eq_true rfl) (S_foundPlain hsh h13 hC.k13 hC.tx hC.rlt hC.ks) (fun r n I2 J R hq => ?_)
  obtain ⟨rfl, rfl, rfl, fR, hB⟩ := hq
  have k13 := hC.k13.beg h13 hB
  have fX : FrX I I2 := FrX.rf.nt (Or.inl rfl) hB.2.2.1
  have hsh := hsh.fr fR
  refine r_some (w := nI (nowN σ)) rfl ?_
  refine r_istore_n dX6_late_8 (by decide) rfl ?_
  refine r_aload_n dX6_late_9 rfl ?_
  refine r_getR (b := 47) dX6_late_10 f_X6_19 (hsh.al rfl (by decide)) (Or.inr ⟨_, rfl⟩) (hsh.r 12 2 47 (by decide)) (by decide) ?_
  refine r_aload_n dX6_late_13 rfl ?_
  refine r_getR (b := 13) dX6_late_14 f_X6_10 (hsh.al rfl (by decide)) (Or.inr ⟨_, rfl⟩) (hsh.r 12 0 13 (by decide)) (by decide) ?_
  refine r_callV1N dX6_late_17 moX3_takeAfter w_644 w_645 w_646 (hsh.al rfl (by decide)) cl3 rfl (Nat.le_of_ble_eq_true rfl) (Nat.le_of_ble_eq_true rfl) (S_takeAfter (s := 47) (o := 13) hsh h47 h13 (by decide)) (fun r n I3 J R hq => ?_)
  obtain ⟨rfl, rfl, rfl, rfl, f1⟩ := hq
  refine r_sipush (v := 199) dX6_late_20 (by decide) ?_
  refine r_istore_n dX6_late_23 (by decide) rfl ?_
  exact loop 200 _ _ (Nat.le_refl _) fR ⟨qdl σ 6, by rw [up1_self]; exact k13.take f1⟩ (k13.of47 f1.1) (fX.tk f1) rfl
set_option maxRecDepth 20000 in
set_option maxHeartbeats 4000000 in
theorem S_chance {g : GP} {d n : Nat} {I : TI} {J : TJ} {R : TR} {σ : CSt} (hC : CS n I R σ) (seed : Int32) {m w : Int} (hm : inZ m) (hw : inZ w) : Wp g (d + 6) mX6_chance 0 [.ref 12, .int seed, .int (zI m), .int (zI w), .null, .null, .null] [] 0 0 n I J R (PB n I J R (.long (chanV σ seed m w)) σ) := by
  have hsh := hC.sh
  have hA := hC.k13.1
  have wf := hC.k13.2.1
  have hz := wf.2.2.1
  have h13 : isSky 13 := Or.inl rfl
  have h47 : isSky 47 := Or.inr (Or.inr rfl)
  have hn := hsh.1
  have e1 : bw (zI w) 2 = decide (0 ≤ w ∧ w < (2 : Nat)) := bw_z rfl hw (by decide)
  have hcl : inZ (clearN σ) := (plainN_ok ((wf.upDl (w := 1) (v := 9) (by decide)).upDl (w := 2) (v := 0) (by decide)) (hC.tx.le hC.rlt)).inW (by decide)
  have hdr : ∀ s, inZ (drawnN σ s) := fun s => (plainN_ok (drwN_wf wf s 4 (by decide)) (hC.tx.le hC.rlt)).inW (by decide)
  have loop : ∀ m0, m = (m0 : Nat) → 1 ≤ m0 → m0 ≤ 20 → 0 ≤ w ∧ w < 2 → ∀ q i I2 R2, i + q = m0 → FrR R R2 → SkyOK I2 13 (qdl σ) (qtr σ) (qsz σ) (qrl σ) → FrX I I2 → Wp g (d + 6) mX6_chance 35 [.ref 12, .int seed, .int (nI m0), .int (zI w), .int (zI (clearN σ)), .int (nI (goodN σ seed i)), .int (nI i)] [] 0 0 n I2 J R2 (PB n I J R (.long (chanV σ seed m w)) σ) := by
    intro m0 em hm1 hm2 hw2 q
    induction q with
    | zero =>
      intro i I2 R2 hi hR hK2 fX
      have hg := goodN_le σ seed i
      have e : i = m0 := by omega
      subst e
      refine r_iload dX6_chance_35 rfl ?_
      refine r_iload_n dX6_chance_37 rfl ?_
      refine r_nicmp_ge  (tgt := 63) dX6_chance_38 (by decide) rfl rfl (by omega) (by omega) (fun h38 => ?_) (fun h38 => absurd h38 (by omega))
      refine r_iload_n dX6_chance_63 rfl ?_
      refine r_zif_ne (tgt := 79) dX6_chance_64 (by decide) rfl hw (fun h64 => ?_) (fun h64 => ?_)
      · refine r_iload_n dX6_chance_79 rfl ?_
        refine r_iload dX6_chance_80 rfl ?_
        refine r_iload_n dX6_chance_82 rfl ?_
        refine r_callS3I dX6_chance_83 moX6_inLowestTerms w_730 w_731 (Nat.le_of_ble_eq_true rfl) (Nat.le_of_ble_eq_true rfl) (S_inLowestTerms (pa := i) (ab := goodN σ seed i) (be := i) (by omega) (by omega) (by omega) (by omega)) ?_
        refine r_i2l dX6_chance_86 ?_
        refine r_lret dX6_chance_87 rfl ?_
        have e0 : chanV σ seed m w = (nI (lowN i (goodN σ seed i) i i)).toInt64 := by
          unfold chanV
          rw [if_pos (by omega), if_neg h64, em]; rfl
        rw [e0]
        exact PB.of hC hR hK2 fX
      · refine r_iload dX6_chance_67 rfl ?_
        refine r_iload dX6_chance_69 rfl ?_
        refine r_iload_n dX6_chance_71 rfl ?_
        refine r_callS3I dX6_chance_72 moX6_inLowestTerms w_730 w_731 (Nat.le_of_ble_eq_true rfl) (Nat.le_of_ble_eq_true rfl) (S_inLowestTerms (pa := goodN σ seed i) (ab := goodN σ seed i) (be := i) (by omega) (by omega) (by omega) (by omega)) ?_
        refine r_i2l dX6_chance_75 ?_
        refine r_goto (tgt := 87) dX6_chance_76 (by decide) ?_
        refine r_lret dX6_chance_87 rfl ?_
        have e0 : chanV σ seed m w = (nI (lowN (goodN σ seed i) (goodN σ seed i) i i)).toInt64 := by
          unfold chanV
          rw [if_pos (by omega), if_pos h64, em]; rfl
        rw [e0]
        exact PB.of hC hR hK2 fX
    | succ q ih =>
      intro i I2 R2 hi hR hK2 fX
      have hsh := hsh.fr hR
      refine r_iload dX6_chance_35 rfl ?_
      refine r_iload_n dX6_chance_37 rfl ?_
      refine r_nicmp_ge  (tgt := 63) dX6_chance_38 (by decide) rfl rfl (by omega) (by omega) (fun h38 => absurd h38 (by omega)) (fun h38 => ?_)
      refine r_aload_n dX6_chance_41 rfl ?_
      refine r_iload_n dX6_chance_42 rfl ?_
      refine r_iload dX6_chance_43 rfl ?_
      refine r_iadd dX6_chance_45 ?_
      refine r_callV1N dX6_chance_46 moX6_worthDrawn w_720 w_722 s_27 (hsh.al rfl (by decide)) cl6 rfl (Nat.le_of_ble_eq_true rfl) (Nat.le_of_ble_eq_true rfl) (S_worthDrawn hsh hK2 (fX.tx hC.tx) hC.rlt (fX.ks hC.ks) (seed + nI i)) (fun r n I3 J R hq => ?_)
      obtain ⟨rfl, rfl, rfl, fR, hP⟩ := hq
      refine r_some (w := zI (drawnN σ (seed + nI i))) rfl ?_
      refine r_iload dX6_chance_49 rfl ?_
      refine r_zicmp_lt  (tgt := 57) dX6_chance_51 (by decide) rfl rfl (hdr _) hcl (fun h51 => ?_) (fun h51 => ?_)
      · refine r_iincE (b := (i + 1)) dX6_chance_57 rfl rfl (nI_succ _).symm rfl ?_
        refine r_goto (tgt := 35) dX6_chance_60 (by decide) ?_
        have e2 : goodN σ seed (i + 1) = goodN σ seed i := if_neg (by omega)
        have hg := ih (i + 1) I3 _ (by omega) (hR.t fR) hP.1 (fX.t hP.2)
        rw [e2] at hg
        exact hg
      · refine r_iincE (b := (goodN σ seed i + 1)) dX6_chance_54 rfl rfl (nI_succ _).symm rfl ?_
        refine r_iincE (b := (i + 1)) dX6_chance_57 rfl rfl (nI_succ _).symm rfl ?_
        refine r_goto (tgt := 35) dX6_chance_60 (by decide) ?_
        have e2 : goodN σ seed (i + 1) = goodN σ seed i + 1 := if_pos (by omega)
        have hg := ih (i + 1) I3 _ (by omega) (hR.t fR) hP.1 (fX.t hP.2)
        rw [e2] at hg
        exact hg
  refine r_iload_n dX6_chance_0 rfl ?_
  refine r_iconst (v := 1) dX6_chance_1 (by decide) ?_
  refine r_zicmp_lt (b := 1)  (tgt := 19) dX6_chance_2 (by decide) rfl (by decide) hm (by unfold inZ; omega) (fun h2 => ?_) (fun h2 => ?_)
  · refine r_ldc2 dX6_chance_19 w_729 ?_
    refine r_lret dX6_chance_22 rfl ?_
    have e0 : chanV σ seed m w = -4611686018427387904 := if_neg (by omega)
    rw [e0]
    exact PB.rf hC
  · refine r_iload_n dX6_chance_5 rfl ?_
    refine r_bipush (v := 20) dX6_chance_6 (by decide) ?_
    refine r_zicmp_gt (b := 20)  (tgt := 19) dX6_chance_8 (by decide) rfl (by decide) hm (by unfold inZ; omega) (fun h8 => ?_) (fun h8 => ?_)
    · refine r_ldc2 dX6_chance_19 w_729 ?_
      refine r_lret dX6_chance_22 rfl ?_
      have e0 : chanV σ seed m w = -4611686018427387904 := if_neg (by omega)
      rw [e0]
      exact PB.rf hC
    · refine r_iload_n dX6_chance_11 rfl ?_
      refine r_iconst (v := 2) dX6_chance_12 (by decide) ?_
      refine r_callS2I dX6_chance_13 moX6_isBelow w_458 w_400 (Nat.le_of_ble_eq_true rfl) (Nat.le_of_ble_eq_true rfl) (S_isBelow _ _) ?_
      refine r_ifb_ne (tgt := 23) dX6_chance_16 (by decide) (fun h16 => ?_) (fun h16 => ?_)
      · rw [e1, decide_eq_true_eq] at h16
        obtain ⟨m0, em⟩ := Int.eq_ofNat_of_zero_le (show 0 ≤ m by omega)
        have em2 : zI m = nI m0 := by rw [em]; rfl
        rw [em2]
        refine r_aload_n dX6_chance_23 rfl ?_
        refine r_callV0N dX6_chance_24 moX6_worthWithoutCloud w_675 w_677 s_22 (hsh.al rfl (by decide)) cl6 rfl (Nat.le_of_ble_eq_true rfl) (Nat.le_of_ble_eq_true rfl) (S_worthWithoutCloud hsh hC.k13 hC.tx hC.rlt hC.ks) (fun r n I2 J R hq => ?_)
        obtain ⟨rfl, rfl, rfl, fR, hP⟩ := hq
        refine r_some (w := zI (clearN σ)) rfl ?_
        refine r_istore dX6_chance_27 (by decide) rfl ?_
        refine r_iconst (v := 0) dX6_chance_29 (by decide) ?_
        refine r_istore dX6_chance_30 (by decide) rfl ?_
        refine r_iconst (v := 0) dX6_chance_32 (by decide) ?_
        refine r_istore dX6_chance_33 (by decide) rfl ?_
        exact loop m0 em (by omega) (by omega) h16 m0 0 I2 _ (Nat.zero_add _) fR hP.1 hP.2
      · rw [e1, decide_eq_false_iff_not] at h16
        refine r_ldc2 dX6_chance_19 w_729 ?_
        refine r_lret dX6_chance_22 rfl ?_
        have e0 : chanV σ seed m w = -4611686018427387904 := if_neg (by omega)
        rw [e0]
        exact PB.rf hC
set_option maxRecDepth 20000 in
set_option maxHeartbeats 4000000 in
theorem S_order {g : GP} {d n : Nat} {I : TI} {J : TJ} {R : TR} {σ : CSt} (hC : CS n I R σ) {s w : Int} (hs : inZ s) (hw : inZ w) : Wp g (d + 5) mX6_order 0 [.ref 12, .int (zI s), .int (zI w), .null, .null] [] 0 0 n I J R (PB n I J R (.int (zI (ordrV σ s w))) σ) := by
  have hsh := hC.sh
  have hA := hC.k13.1
  have wf := hC.k13.2.1
  have hz := wf.2.2.1
  have h13 : isSky 13 := Or.inl rfl
  have h47 : isSky 47 := Or.inr (Or.inr rfl)
  have hn := hsh.1
  have e1 : bw (zI s) 4 = decide (0 ≤ s ∧ s < (4 : Nat)) := bw_z rfl hs (by decide)
  have loop : ∀ s0, s = (s0 : Nat) → s0 < 4 → asksN (qsz σ) w = true → eachN (qso σ s0) (qzs σ s0) (qit σ s0) (qsz σ) = true → ∀ q i I2 R2, i + q = qsz σ → FrR R R2 → BegP I 13 (qdl σ) (qtr σ) (qsz σ) (qrl σ) (ordrN (qdl σ) (qtr σ) (qtv σ (qrl σ)) (qit σ s0) i) I2 R2 → Wp g (d + 5) mX6_order 51 [.ref 12, .int (zI s), .int (zI w), .ref (89 + 2 * s0), .int (nI i)] [] 0 0 n I2 J R2 (PB n I J R (.int (zI (ordrV σ s w))) σ) := by
    intro s0 es hs4 ha he q
    have hh := isSheet_at hs4
    have he2 := he
    unfold eachN at he2
    rw [Bool.and_eq_true, Bool.and_eq_true, decide_eq_true_eq, decide_eq_true_eq] at he2
    obtain ⟨⟨_, ez⟩, hte⟩ := he2
    have hin : ∀ j, j < qsz σ → ∃ k, k < qsz σ ∧ qit σ s0 j = nI k := fun j hj => bw_ex rfl (by omega) (tellN_in hte j (Nat.zero_le _) (by omega))
    have hok : ∀ i, i ≤ qsz σ → NOK i (ordrN (qdl σ) (qtr σ) (qtv σ (qrl σ)) (qit σ s0) i) := fun i hi => ordrN_ok wf (hC.tx.le hC.rlt) i fun j hj => by
      obtain ⟨k, hk, ek⟩ := hin j (by omega)
      rw [ek, nI_tn (by omega)]; omega
    induction q with
    | zero =>
      intro i I2 R2 hi hR hB
      have hsh := hsh.fr hR
      have fX : FrX I I2 := FrX.rf.nt (Or.inl rfl) hB.2.2.1
      have hC2 := hC.fr hsh (hC.k13.beg h13 hB) fX.b
      have hS := (hC2.sht s0 hs4).1
      have e : i = qsz σ := by omega
      subst e
      have hk := of_decide_eq_true ha
      obtain ⟨w0, ew⟩ := Int.eq_ofNat_of_zero_le (show 0 ≤ w by omega)
      have ew2 : zI w = nI w0 := by rw [ew]; rfl
      rw [ew2]
      have hk0 : w0 < 5 ∨ (10 ≤ w0 ∧ w0 < 30 ∧ w0 % 10 < 7) := by omega
      have e0 : ordrV σ s w = ansN (ordrN (qdl σ) (qtr σ) (qtv σ (qrl σ)) (qit σ s0) (qsz σ)) w0 := by
        unfold ordrV
        rw [es, ew]
        exact if_pos ⟨by omega, by omega, by rw [← ew]; exact ha, he⟩
      rw [e0]
      refine r_iload dX6_order_51 rfl ?_
      refine r_aload_n dX6_order_53 rfl ?_
      refine r_getIE dX6_order_54 f_X6_137 (hsh.h0 hh) (Or.inl rfl) hS.2.1 ?_
      refine r_nicmp_ge  (tgt := 81) dX6_order_57 (by decide) rfl rfl (by omega) (by omega) (fun h57 => ?_) (fun h57 => absurd h57 (by omega))
      refine r_aload_n dX6_order_81 rfl ?_
      refine r_getR (b := 97) dX6_order_82 f_X6_56 (hsh.al rfl (by decide)) (Or.inr ⟨_, rfl⟩) (hsh.r 12 7 97 (by decide)) (by decide) ?_
      refine r_iload_n dX6_order_85 rfl ?_
      refine r_callV1I dX6_order_86 moX5_answer w_562 w_563 w_564 (hsh.al rfl (by decide)) cl5 rfl (Nat.le_of_ble_eq_true rfl) (Nat.le_of_ble_eq_true rfl) (S_answer hsh hB.1 hk0 (hok _ (Nat.le_refl _)).2.2.1) ?_
      refine r_iret dX6_order_89 rfl ?_
      exact PB.of hC hR (hC.k13.beg h13 hB) fX
    | succ q ih =>
      intro i I2 R2 hi hR hB
      have hsh0 := hsh
      have hsh := hsh.fr hR
      have fX : FrX I I2 := FrX.rf.nt (Or.inl rfl) hB.2.2.1
      have hC2 := hC.fr hsh (hC.k13.beg h13 hB) fX.b
      obtain ⟨hS, hit⟩ := hC2.sht s0 hs4
      have hoi := hok i (by omega)
      obtain ⟨k, hk, ek⟩ := hin i (by omega)
      refine r_iload dX6_order_51 rfl ?_
      refine r_aload_n dX6_order_53 rfl ?_
      refine r_getIE dX6_order_54 f_X6_137 (hsh.h0 hh) (Or.inl rfl) hS.2.1 ?_
      refine r_nicmp_ge  (tgt := 81) dX6_order_57 (by decide) rfl rfl (by omega) (by omega) (fun h57 => absurd h57 (by omega)) (fun h57 => ?_)
      refine r_aload_n dX6_order_60 rfl ?_
      refine r_getR (b := 97) dX6_order_61 f_X6_56 (hsh.al rfl (by decide)) (Or.inr ⟨_, rfl⟩) (hsh.r 12 7 97 (by decide)) (by decide) ?_
      refine r_aload_n dX6_order_64 rfl ?_
      refine r_iload dX6_order_65 rfl ?_
      refine r_callV1I dX6_order_67 moX2_item w_585 w_586 w_587 (hsh.h0 hh) cl2 rfl (Nat.le_of_ble_eq_true rfl) (Nat.le_of_ble_eq_true rfl) (S_item hsh hh hS (i := i) (by omega)) ?_
      refine r_top (v := nI k) (by rw [hit i (by omega), ek]) ?_
      refine r_iload dX6_order_70 rfl ?_
      refine r_callV2N dX6_order_72 moX5_lookFor w_591 w_532 w_533 (hsh.al rfl (by decide)) cl5 rfl (Nat.le_of_ble_eq_true rfl) (Nat.le_of_ble_eq_true rfl) (S_look hsh0 h13 hC.k13 hC.tx hC.rlt hC.ks (k := k) (place := i) (by omega) (by omega) hR hB hoi.1 hoi.2.1) (fun r n I4 J R hq => ?_)
      obtain ⟨rfl, rfl, rfl, rfl, hB4⟩ := hq
      refine r_iincE (b := (i + 1)) dX6_order_75 rfl rfl (nI_succ _).symm rfl ?_
      refine r_goto (tgt := 51) dX6_order_78 (by decide) ?_
      refine ih (i + 1) _ _ (by omega) hR ?_
      show BegP I 13 _ _ _ _ (lookN _ _ _ (qit σ s0 i).toInt.toNat i _) _ _
      rw [ek, nI_tn (by omega)]
      exact hB4
  refine r_iload_n dX6_order_0 rfl ?_
  refine r_iconst (v := 4) dX6_order_1 (by decide) ?_
  refine r_callS2I dX6_order_2 moX6_isBelow w_458 w_400 (Nat.le_of_ble_eq_true rfl) (Nat.le_of_ble_eq_true rfl) (S_isBelow _ _) ?_
  refine r_ifb_eq (tgt := 16) dX6_order_5 (by decide) (fun h5 => ?_) (fun h5 => ?_)
  · rw [e1, decide_eq_false_iff_not] at h5
    refine r_ldcI dX6_order_16 w_510 ?_
    refine r_iret dX6_order_18 rfl ?_
    have e0 : ordrV σ s w = -100000 := if_neg (by omega)
    rw [e0]
    exact PB.rf hC
  · rw [e1, decide_eq_true_eq] at h5
    refine r_aload_n dX6_order_8 rfl ?_
    refine r_iload_n dX6_order_9 rfl ?_
    refine r_callV1I dX6_order_10 moX6_asksOfNight w_502 w_504 s_16 (hsh.al rfl (by decide)) cl6 rfl (Nat.le_of_ble_eq_true rfl) (Nat.le_of_ble_eq_true rfl) (S_asksOfNight hsh hA wf hw) ?_
    refine r_ifb_ne (tgt := 19) dX6_order_13 (by decide) (fun h13_ => ?_) (fun h13_ => ?_)
    · refine r_aload_n dX6_order_19 rfl ?_
      obtain ⟨s0, es⟩ := Int.eq_ofNat_of_zero_le (show 0 ≤ s by omega)
      have hs4 : s0 < 4 := by omega
      have hh := isSheet_at hs4
      obtain ⟨hS, hit⟩ := hC.sht s0 hs4
      refine r_getR (b := 70) dX6_order_20 f_X6_45 (hsh.al rfl (by decide)) (Or.inl ⟨_, rfl⟩) (hsh.r 12 8 70 (by decide)) (by decide) ?_
      refine r_iload_n dX6_order_23 rfl ?_
      refine r_aald (j := s0) (b := (89 + 2 * s0)) dX6_order_24 (hsh.al rfl (by decide)) (Or.inr (Or.inr rfl)) hs4 (by rw [es]; rfl) (hsh.shA hs4) (by omega) ?_
      refine r_astore_n dX6_order_25 (by decide) rfl ?_
      refine r_aload_n dX6_order_26 rfl ?_
      refine r_aload_n dX6_order_27 rfl ?_
      refine r_callV1I dX6_order_28 moX6_tellsEachOnce w_577 w_579 s_18 (hsh.al rfl (by decide)) cl6 rfl (Nat.le_of_ble_eq_true rfl) (Nat.le_of_ble_eq_true rfl) (S_tellsEachOnce hsh hA wf hh hS) ?_
      refine r_ifb_ne (tgt := 37) dX6_order_31 (by decide) (fun h31 => ?_) (fun h31 => ?_)
      · rw [eachN_it hit hz] at h31
        refine r_aload_n dX6_order_37 rfl ?_
        refine r_getR (b := 97) dX6_order_38 f_X6_56 (hsh.al rfl (by decide)) (Or.inr ⟨_, rfl⟩) (hsh.r 12 7 97 (by decide)) (by decide) ?_
        refine r_aload_n dX6_order_41 rfl ?_
        refine r_getR (b := 13) dX6_order_42 f_X6_10 (hsh.al rfl (by decide)) (Or.inr ⟨_, rfl⟩) (hsh.r 12 0 13 (by decide)) (by decide) ?_
        refine r_callV1N dX6_order_45 moX5_begin w_590 w_517 w_518 (hsh.al rfl (by decide)) cl5 rfl (Nat.le_of_ble_eq_true rfl) (Nat.le_of_ble_eq_true rfl) (S_beg hsh h13 hC.k13 hC.tx hC.rlt hC.ks) (fun r n I2 J R hq => ?_)
        obtain ⟨rfl, rfl, rfl, fR, hB⟩ := hq
        refine r_iconst (v := 0) dX6_order_48 (by decide) ?_
        refine r_istore dX6_order_49 (by decide) rfl ?_
        exact loop s0 es hs4 h13_ h31 (qsz σ) 0 I2 _ (Nat.zero_add _) fR hB
      · rw [eachN_it hit hz] at h31
        refine r_ldcI dX6_order_34 w_510 ?_
        refine r_iret dX6_order_36 rfl ?_
        have e0 : ordrV σ s w = -100000 := if_neg (by rw [es]; intro h; rw [show (((s0 : Nat) : Int)).toNat = s0 from rfl, h31] at h; exact absurd h.2.2.2 (by decide))
        rw [e0]
        exact PB.rf hC
    · refine r_ldcI dX6_order_16 w_510 ?_
      refine r_iret dX6_order_18 rfl ?_
      have e0 : ordrV σ s w = -100000 := if_neg (by rw [h13_]; simp)
      rw [e0]
      exact PB.rf hC
