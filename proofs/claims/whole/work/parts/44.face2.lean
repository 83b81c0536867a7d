/-! film, copy, sights, lists -/
theorem narS_1 {z : Int} (h : -32768 ≤ z ∧ z < 32768) : narS 1 (zI z) = zI z := by
  unfold narS
  rw [if_neg (by decide), if_pos rfl]
  apply Int32.toInt_inj.mp
  rw [Int16.toInt_toInt32, Int32.toInt_toInt16, zI_toInt (by unfold inZ; omega)]
  exact Int.bmod_eq_of_le (by show -(((65536 : Nat) : Int) / 2) ≤ z; omega) (by show z < (((65536 : Nat) : Int) + 1) / 2; omega)
theorem sighS_sh (σ : CSt) (a b c : Int) : qso (sighS σ a b c) = qso σ ∧ qzs (sighS σ a b c) = qzs σ ∧ qit (sighS σ a b c) = qit σ := by
  unfold sighS
  split <;> exact ⟨rfl, rfl, rfl⟩
theorem sighV_in {σ : CSt} (hz : qsz σ ≤ 7) (a b c : Int) : -4 ≤ sighV σ a b c ∧ sighV σ a b c ≤ 7 := by
  unfold sighV
  split
  · split <;> omega
  · omega
def sgsN (s : Nat) : Nat → Int → Nat → CSt → Int × CSt
  | 0, _, came, σ => ((came : Int), σ)
  | m + 1, i, came, σ => if 0 ≤ i ∧ 0 ≤ (3 : Int) ∧ i ≤ qzs σ s ∧ 3 ≤ qzs σ s - i then sgsN s m (i + 3) (if 0 ≤ sighV σ (qit σ s i.toNat).toInt (qit σ s (i.toNat + 1)).toInt (qit σ s (i.toNat + 2)).toInt then came + 1 else came) (sighS σ (qit σ s i.toNat).toInt (qit σ s (i.toNat + 1)).toInt (qit σ s (i.toNat + 2)).toInt) else (-12, σ)
def sigsV (σ : CSt) (s so f m : Int) : Int × CSt := if 0 ≤ s ∧ s < 4 ∧ 0 ≤ so ∧ so ≤ 2 ∧ 0 ≤ m ∧ m < 8 then (if qso σ s.toNat = -1 then (-11, σ) else if qso σ s.toNat ≠ so then (-13, σ) else sgsN s.toNat m.toNat f 0 σ) else (-2, σ)
def filmV (σ : CSt) (s : Int) : Int := if 0 ≤ s ∧ s < 4 then (qsz σ : Nat) else -2
theorem nalN_it {x : NS} {it it2 : Nat → Int32} : ∀ {i : Nat}, (∀ j, j < i → it j = it2 j) → nalN x it i = nalN x it2 i
  | 0, _ => rfl
  | i + 1, h => by
    show (if zI (nFi x i) = it i then nalN x it i else nalN x it i ||| 2 ^ i) = (if zI (nFi x i) = it2 i then nalN x it2 i else nalN x it2 i ||| 2 ^ i)
    rw [h i (by omega), nalN_it (i := i) fun j hj => h j (by omega)]
theorem fitN_it {dl : Nat → Nat} {tr : Nat → Nat → Nat} {V : TV} {sz : Nat} {it it2 : Nat → Int32} (h : ∀ j, j < sz → it j = it2 j) : fitN dl tr V sz it = fitN dl tr V sz it2 := nalN_it h
def lisV (σ : CSt) (it : Nat → Int32) (w : Int) : Int :=
  if w = 0 then (fitN (qdl σ) (qtr σ) (qtv σ (qrl σ)) (qsz σ) it : Nat)
  else if w = 1 then ((sptN (fun p => decide (fitN (up1 (qdl σ) 5 p) (qtr σ) (qtv σ (qrl σ)) (qsz σ) it = 0)) 100).1 : Nat)
  else if w = 2 then (sptN (fun p => decide (fitN (up1 (qdl σ) 5 p) (qtr σ) (qtv σ (qrl σ)) (qsz σ) it = 0)) 100).2
  else if w = 3 then (bitsN (fun v => decide (fitN (up1 (qdl σ) 0 v) (qtr σ) (qtv σ (qrl σ)) (qsz σ) it = 0)) 10 : Nat)
  else if w = 4 then (bitsN (fun v => decide (fitN (qdl σ) (qtr σ) (qtv σ v) (qsz σ) it = 0)) (qtc σ) : Nat)
  else if w < 20 then (bitsN (fun v => decide (fitN (qdl σ) (up2 (qtr σ) 5 (w.toNat % 10) v) (qtv σ (qrl σ)) (qsz σ) it = 0)) 6 : Nat)
  else (bitsN (fun v => decide (fitN (qdl σ) (up2 (qtr σ) 0 (w.toNat % 10) v) (qtv σ (qrl σ)) (qsz σ) it = 0)) 10 : Nat)
def listV (σ : CSt) (s w : Int) : Int := if 0 ≤ s ∧ s < 4 ∧ (asksS (qsz σ) w = true ∨ (0 ≤ w ∧ w < 5)) then (if qso σ s.toNat = -1 then -11 else if qzs σ s.toNat = qsz σ then lisV σ (qit σ s.toNat) w else -2) else -2
theorem lisV_it {σ : CSt} {it it2 : Nat → Int32} (h : ∀ j, j < qsz σ → it j = it2 j) (w : Int) : lisV σ it w = lisV σ it2 w := by
  have e : ∀ dl tr V, fitN dl tr V (qsz σ) it = fitN dl tr V (qsz σ) it2 := fun dl tr V => fitN_it h
  unfold lisV
  simp only [e]
set_option maxRecDepth 20000 in
set_option maxHeartbeats 4000000 in
theorem S_film {g : GP} {d n : Nat} {I : TI} {J : TJ} {R : TR} {σ : CSt} (hC : CS n I R σ) {s : Int} (hs : inZ s) : Wp g (d + 5) mX6_film 0 [.ref 12, .int (zI s), .null, .null] [] 0 0 n I J R (PB n I J R (.int (zI (filmV σ s))) (filmS σ s)) := by
  have hsh := hC.sh
  have hA := hC.k13.1
  have wf := hC.k13.2.1
  have hz := wf.2.2.1
  have h13 : isSky 13 := Or.inl rfl
  have h30 : isSky 30 := Or.inr (Or.inl rfl)
  have h47 : isSky 47 := Or.inr (Or.inr rfl)
  have hn := hsh.1
  have e1 : bw (zI s) 4 = decide (0 ≤ s ∧ s < (4 : Nat)) := bw_z rfl hs (by decide)
  have hok := plainN_ok wf (hC.tx.le hC.rlt) (some := 2 ^ qsz σ - 1)
  have loop : ∀ s0, s0 < 4 → isSheet (89 + 2 * s0) → ∀ I2 R2, FrR R R2 → CS n I2 R2 σ → WkAt I2 (plC σ) → (∀ a, 102 ≤ a → a < 118 → I2 a = I a) → ∀ q i I3, i + q = qsz σ → (∀ a, a ≠ 89 + 2 * s0 → a ≠ 89 + 2 * s0 + 1 → I3 a = I2 a) → I3 (89 + 2 * s0) 0 = 1 → I3 (89 + 2 * s0) 1 = nI (qsz σ) → (∀ j, j < 40 → I3 (89 + 2 * s0 + 1) j = if j < i then zI (nFi (plC σ) j) else 0) → Wp g (d + 5) mX6_film 51 [.ref 12, .int (nI s0), .ref (89 + 2 * s0), .int (nI i)] [] 0 0 n I3 J R2 (PB n I J R (.int (nI (qsz σ))) (wSh σ s0 1 (qsz σ) (fun j => if j < qsz σ then zI (nFi (plC σ) j) else 0))) := by
    intro s0 hs4 hh I2 R2 hR hC2 hW h102 q
    have hsh := hC2.sh
    induction q with
    | zero =>
      intro i I3 hi hF g0 g1 g2
      have hA3 : I3 13 10 = nI (qsz σ) := by rw [hF 13 (by omega) (by omega)]; exact hC2.k13.1.2.2.1
      have e : i = qsz σ := by omega
      subst e
      refine r_iload_n dX6_film_51 rfl ?_
      refine r_aload_n dX6_film_52 rfl ?_
      refine r_getR (b := 13) dX6_film_53 f_X6_10 (hsh.al rfl (by decide)) (Or.inr ⟨_, rfl⟩) (hsh.r 12 0 13 (by decide)) (by decide) ?_
      refine r_getIE dX6_film_56 f_X6_95 (hsh.al rfl (by decide)) (Or.inl rfl) hA3 ?_
      refine r_nicmp_ge  (tgt := 81) dX6_film_59 (by decide) rfl rfl (by omega) (by omega) (fun h59 => ?_) (fun h59 => absurd h59 (by omega))
      refine r_aload_n dX6_film_81 rfl ?_
      refine r_getR (b := 13) dX6_film_82 f_X6_10 (hsh.al rfl (by decide)) (Or.inr ⟨_, rfl⟩) (hsh.r 12 0 13 (by decide)) (by decide) ?_
      refine r_getIE dX6_film_85 f_X6_95 (hsh.al rfl (by decide)) (Or.inl rfl) hA3 ?_
      refine r_iret dX6_film_88 rfl ?_
      exact PB.to (hC2.shU hs4 hF ⟨g0, g1, by omega, by omega, by omega⟩ g2) fun a h1 h2 => ⟨(hF a (by omega) (by omega)).trans (h102 a h1 h2), funext fun k => hR a k (by omega)⟩
    | succ q ih =>
      intro i I3 hi hF g0 g1 g2
      have hA3 : I3 13 10 = nI (qsz σ) := by rw [hF 13 (by omega) (by omega)]; exact hC2.k13.1.2.2.1
      have hW3 : WkAt I3 (plC σ) := by
        unfold WkAt at *
        rw [hF 97 (by omega) (by omega), hF 100 (by omega) (by omega), hF 101 (by omega) (by omega)]
        exact hW
      have hb := hok.2.2.2.2.2.2.1 i
      refine r_iload_n dX6_film_51 rfl ?_
      refine r_aload_n dX6_film_52 rfl ?_
      refine r_getR (b := 13) dX6_film_53 f_X6_10 (hsh.al rfl (by decide)) (Or.inr ⟨_, rfl⟩) (hsh.r 12 0 13 (by decide)) (by decide) ?_
      refine r_getIE dX6_film_56 f_X6_95 (hsh.al rfl (by decide)) (Or.inl rfl) hA3 ?_
      refine r_nicmp_ge  (tgt := 81) dX6_film_59 (by decide) rfl rfl (by omega) (by omega) (fun h59 => absurd h59 (by omega)) (fun h59 => ?_)
      refine r_aload_n dX6_film_62 rfl ?_
      refine r_iload_n dX6_film_63 rfl ?_
      refine r_aload_n dX6_film_64 rfl ?_
      refine r_getR (b := 97) dX6_film_65 f_X6_56 (hsh.al rfl (by decide)) (Or.inr ⟨_, rfl⟩) (hsh.r 12 7 97 (by decide)) (by decide) ?_
      refine r_iload_n dX6_film_68 rfl ?_
      refine r_callV1I dX6_film_69 moX5_tickFound w_687 w_688 w_689 (hsh.al rfl (by decide)) cl5 rfl (Nat.le_of_ble_eq_true rfl) (Nat.le_of_ble_eq_true rfl) (S_tickFound hsh hW3 (k := i) (by omega)) ?_
      refine r_callV2W dX6_film_72 moX2_put w_712 w_713 w_714 (hsh.h0 hh) cl2 rfl (Nat.le_of_ble_eq_true rfl) (Nat.le_of_ble_eq_true rfl) (S_put hsh hh (so := 1) ⟨g0, g1, by omega, by omega, by omega⟩ (i := i) (by omega) (zI (nFi (plC σ) i))) ?_
      refine r_iincE (b := (i + 1)) dX6_film_75 rfl rfl (nI_succ _).symm rfl ?_
      refine r_goto (tgt := 51) dX6_film_78 (by decide) ?_
      refine ih (i + 1) _ (by omega) (fun a h1 h2 => by rw [up2_a _ _ _ h2]; exact hF a h1 h2) (by rw [up2_a _ _ _ (by omega)]; exact g0) (by rw [up2_a _ _ _ (by omega)]; exact g1) fun j hj => ?_
      rw [narS_1 (by unfold plC; omega)]
      by_cases e : j = i
      · rw [e, up2_at, if_pos (by omega)]
      · rw [up2_k _ _ e, g2 j hj]
        by_cases e2 : j < i
        · rw [if_pos e2, if_pos (by omega)]
        · rw [if_neg e2, if_neg (by omega)]
  refine r_iload_n dX6_film_0 rfl ?_
  refine r_iconst (v := 4) dX6_film_1 (by decide) ?_
  refine r_callS2I dX6_film_2 moX6_isBelow w_458 w_400 (Nat.le_of_ble_eq_true rfl) (Nat.le_of_ble_eq_true rfl) (S_isBelow _ _) ?_
  refine r_ifb_ne (tgt := 11) dX6_film_5 (by decide) (fun h5 => ?_) (fun h5 => ?_)
  · rw [e1, decide_eq_true_eq] at h5
    obtain ⟨s0, es0⟩ := Int.eq_ofNat_of_zero_le (show 0 ≤ s by omega)
    subst es0
    rw [← nz s0]
    have hs4 : s0 < 4 := by omega
    have hh := isSheet_at hs4
    refine r_aload_n dX6_film_11 rfl ?_
    refine r_getR (b := 70) dX6_film_12 f_X6_45 (hsh.al rfl (by decide)) (Or.inl ⟨_, rfl⟩) (hsh.r 12 8 70 (by decide)) (by decide) ?_
    refine r_iload_n dX6_film_15 rfl ?_
    refine r_aald (j := s0) (b := (89 + 2 * s0)) dX6_film_16 (hsh.al rfl (by decide)) (Or.inr (Or.inr rfl)) hs4 rfl (hsh.shA hs4) (by omega) ?_
    refine r_astore_n dX6_film_17 (by decide) rfl ?_
    refine r_aload_n dX6_film_18 rfl ?_
    refine r_getR (b := 97) dX6_film_19 f_X6_56 (hsh.al rfl (by decide)) (Or.inr ⟨_, rfl⟩) (hsh.r 12 7 97 (by decide)) (by decide) ?_
    refine r_aload_n dX6_film_22 rfl ?_
    refine r_getR (b := 13) dX6_film_23 f_X6_10 (hsh.al rfl (by decide)) (Or.inr ⟨_, rfl⟩) (hsh.r 12 0 13 (by decide)) (by decide) ?_
    refine r_aload_n dX6_film_26 rfl ?_
    refine r_getR (b := 13) dX6_film_27 f_X6_10 (hsh.al rfl (by decide)) (Or.inr ⟨_, rfl⟩) (hsh.r 12 0 13 (by decide)) (by decide) ?_
    refine r_callV0I dX6_film_30 moX3_all w_511 w_451 w_452 (hsh.al rfl (by decide)) cl3 rfl (Nat.le_of_ble_eq_true rfl) (Nat.le_of_ble_eq_true rfl) (S_all hsh h13 hA wf) ?_
    refine r_callV2N dX6_film_33 moX5_goPlain w_512 w_513 w_514 (hsh.al rfl (by decide)) cl5 rfl (Nat.le_of_ble_eq_true rfl) (Nat.le_of_ble_eq_true rfl) (S_plain hsh h13 hC.k13 hC.tx hC.rlt hC.ks (p2_lt hz)) (fun r n I2 J R hq => ?_)
    obtain ⟨rfl, rfl, rfl, fR, hB⟩ := hq
    have fX : FrX I I2 := FrX.rf.nt (Or.inl rfl) hB.2.2.1
    have hsh := hsh.fr fR
    have hC2 := hC.fr hsh (hC.k13.beg h13 hB) fX.b
    refine r_some rfl ?_
    refine r_pop dX6_film_36 rfl ?_
    refine r_aload_n dX6_film_37 rfl ?_
    refine r_iconst (v := 1) dX6_film_38 (by decide) ?_
    refine r_aload_n dX6_film_39 rfl ?_
    refine r_getR (b := 13) dX6_film_40 f_X6_10 (hsh.al rfl (by decide)) (Or.inr ⟨_, rfl⟩) (hsh.r 12 0 13 (by decide)) (by decide) ?_
    refine r_getIE dX6_film_43 f_X6_95 (hsh.al rfl (by decide)) (Or.inl rfl) hC2.k13.1.2.2.1 ?_
    refine r_callV2N dX6_film_46 moX2_become w_707 w_708 w_709 (hsh.h0 hh) cl2 rfl (Nat.le_of_ble_eq_true rfl) (Nat.le_of_ble_eq_true rfl) (S_become hsh hh 1 (nI (qsz σ))) (fun r n I3 J R hq => ?_)
    obtain ⟨rfl, rfl, rfl, rfl, g1, g2, g3, g4⟩ := hq
    refine r_iconst (v := 0) dX6_film_49 (by decide) ?_
    refine r_istore_n dX6_film_50 (by decide) rfl ?_
    have e0 : filmV σ s0 = (qsz σ : Nat) := if_pos (by omega)
    have e4 : filmS σ s0 = wSh σ s0 1 (qsz σ) (fun j => if j < qsz σ then zI (nFi (plC σ) j) else 0) := if_pos (by omega)
    rw [e0, e4, ← nz]
    exact loop s0 hs4 hh I2 _ fR hC2 hB.1 (fun a h1 _ => fX a (by unfold inS; omega) (by unfold inS; omega) (by omega)) (qsz σ) 0 I3 (Nat.zero_add _) g4 g1 g2 fun j hj => by rw [if_neg (by omega)]; exact g3 j hj
  · rw [e1, decide_eq_false_iff_not] at h5
    refine r_bipush (v := (-2)) dX6_film_8 (by decide) ?_
    refine r_iret dX6_film_10 rfl ?_
    have e0 : filmV σ s = -2 := if_neg (by omega)
    have e4 : filmS σ s = σ := if_neg (by omega)
    rw [e0, e4]
    exact PB.rf hC
set_option maxRecDepth 20000 in
set_option maxHeartbeats 4000000 in
theorem S_copy {g : GP} {d n : Nat} {I : TI} {J : TJ} {R : TR} {σ : CSt} (hC : CS n I R σ) {s i o j m : Int} (hs : inZ s) (hi : inZ i) (ho : inZ o) (hj : inZ j) (hm : inZ m) : Wp g (d + 5) mX6_copy 0 [.ref 12, .int (zI s), .int (zI i), .int (zI o), .int (zI j), .int (zI m), .null, .null] [] 0 0 n I J R (PB n I J R (.int (zI (copyB σ s i o j m))) (copyS σ s i o j m)) := by
  have hsh := hC.sh
  have hA := hC.k13.1
  have wf := hC.k13.2.1
  have hz := wf.2.2.1
  have h13 : isSky 13 := Or.inl rfl
  have h30 : isSky 30 := Or.inr (Or.inl rfl)
  have h47 : isSky 47 := Or.inr (Or.inr rfl)
  have hn := hsh.1
  have e1 : bw (zI s) 4 = decide (0 ≤ s ∧ s < (4 : Nat)) := bw_z rfl hs (by decide)
  have e2 : bw (zI o) 4 = decide (0 ≤ o ∧ o < (4 : Nat)) := bw_z rfl ho (by decide)
  refine r_iload_n dX6_copy_0 rfl ?_
  refine r_iconst (v := 4) dX6_copy_1 (by decide) ?_
  refine r_callS2I dX6_copy_2 moX6_isBelow w_458 w_400 (Nat.le_of_ble_eq_true rfl) (Nat.le_of_ble_eq_true rfl) (S_isBelow _ _) ?_
  refine r_ifb_eq (tgt := 16) dX6_copy_5 (by decide) (fun h5 => ?_) (fun h5 => ?_)
  · rw [e1, decide_eq_false_iff_not] at h5
    refine r_bipush (v := (-2)) dX6_copy_16 (by decide) ?_
    refine r_iret dX6_copy_18 rfl ?_
    have e0 : copyB σ s i o j m = -2 := if_neg (by omega)
    have e4 : copyS σ s i o j m = σ := if_neg (by omega)
    rw [e0, e4]
    exact PB.rf hC
  · rw [e1, decide_eq_true_eq] at h5
    refine r_iload_n dX6_copy_8 rfl ?_
    refine r_iconst (v := 4) dX6_copy_9 (by decide) ?_
    refine r_callS2I dX6_copy_10 moX6_isBelow w_458 w_400 (Nat.le_of_ble_eq_true rfl) (Nat.le_of_ble_eq_true rfl) (S_isBelow _ _) ?_
    refine r_ifb_ne (tgt := 19) dX6_copy_13 (by decide) (fun h13 => ?_) (fun h13 => ?_)
    · rw [e2, decide_eq_true_eq] at h13
      obtain ⟨s0, es0⟩ := Int.eq_ofNat_of_zero_le (show 0 ≤ s by omega)
      obtain ⟨o0, eo0⟩ := Int.eq_ofNat_of_zero_le (show 0 ≤ o by omega)
      subst es0 eo0
      have e7 := nz s0
      have e8 := nz o0
      rw [← e7, ← e8]
      have hs4 : s0 < 4 := by omega
      have ho4 : o0 < 4 := by omega
      have hh := isSheet_at hs4
      have hh2 := isSheet_at ho4
      obtain ⟨hS, hit⟩ := hC.sht s0 hs4
      obtain ⟨hS2, hit2⟩ := hC.sht o0 ho4
      have b1 := hS.2.2
      have b2 := hS2.2.2
      refine r_aload_n dX6_copy_19 rfl ?_
      refine r_getR (b := 70) dX6_copy_20 f_X6_45 (hsh.al rfl (by decide)) (Or.inl ⟨_, rfl⟩) (hsh.r 12 8 70 (by decide)) (by decide) ?_
      refine r_iload_n dX6_copy_23 rfl ?_
      refine r_aald (j := s0) (b := (89 + 2 * s0)) dX6_copy_24 (hsh.al rfl (by decide)) (Or.inr (Or.inr rfl)) hs4 rfl (hsh.shA hs4) (by omega) ?_
      refine r_astore dX6_copy_25 (by decide) rfl ?_
      refine r_aload_n dX6_copy_27 rfl ?_
      refine r_getR (b := 70) dX6_copy_28 f_X6_45 (hsh.al rfl (by decide)) (Or.inl ⟨_, rfl⟩) (hsh.r 12 8 70 (by decide)) (by decide) ?_
      refine r_iload_n dX6_copy_31 rfl ?_
      refine r_aald (j := o0) (b := (89 + 2 * o0)) dX6_copy_32 (hsh.al rfl (by decide)) (Or.inr (Or.inr rfl)) ho4 rfl (hsh.shA ho4) (by omega) ?_
      refine r_astore dX6_copy_33 (by decide) rfl ?_
      refine r_aload dX6_copy_35 rfl ?_
      refine r_callV0I dX6_copy_37 moX2_isMissing w_581 w_582 w_583 (hsh.h0 hh) cl2 rfl (Nat.le_of_ble_eq_true rfl) (Nat.le_of_ble_eq_true rfl) (S_isMissing hsh hh hS) ?_
      refine r_ifb_ne (tgt := 51) dX6_copy_40 (by decide) (fun h40 => ?_) (fun h40 => ?_)
      · rw [decide_eq_true_eq] at h40
        refine r_bipush (v := (-11)) dX6_copy_51 (by decide) ?_
        refine r_iret dX6_copy_53 rfl ?_
        have e0 : copyB σ s0 i o0 j m = -11 := by unfold copyB; rw [if_pos (by omega), Int.toNat_natCast, Int.toNat_natCast, if_pos (Or.inl h40)]
        have e4 : copyS σ s0 i o0 j m = σ := by unfold copyS; rw [if_pos (by omega), Int.toNat_natCast, Int.toNat_natCast, if_pos (Or.inl h40)]
        rw [e0, e4]
        exact PB.rf hC
      · rw [decide_eq_false_iff_not] at h40
        refine r_aload dX6_copy_43 rfl ?_
        refine r_callV0I dX6_copy_45 moX2_isMissing w_581 w_582 w_583 (hsh.h0 hh2) cl2 rfl (Nat.le_of_ble_eq_true rfl) (Nat.le_of_ble_eq_true rfl) (S_isMissing hsh hh2 hS2) ?_
        refine r_ifb_eq (tgt := 54) dX6_copy_48 (by decide) (fun h48 => ?_) (fun h48 => ?_)
        · rw [decide_eq_false_iff_not] at h48
          refine r_aload dX6_copy_54 rfl ?_
          refine r_getIE dX6_copy_56 f_X6_221 (hsh.h0 hh) (Or.inl rfl) hS.1 ?_
          refine r_aload dX6_copy_59 rfl ?_
          refine r_getIE dX6_copy_61 f_X6_221 (hsh.h0 hh2) (Or.inl rfl) hS2.1 ?_
          refine r_zicmp_eq  (tgt := 70) dX6_copy_64 (by decide) rfl rfl (by unfold inZ; omega) (by unfold inZ; omega) (fun h64 => ?_) (fun h64 => ?_)
          · refine r_aload dX6_copy_70 rfl ?_
            refine r_iload_n dX6_copy_72 rfl ?_
            refine r_iload dX6_copy_73 rfl ?_
            refine r_callV2I dX6_copy_75 moX2_holds w_760 w_761 w_762 (hsh.h0 hh) cl2 rfl (Nat.le_of_ble_eq_true rfl) (Nat.le_of_ble_eq_true rfl) (S_holds hsh hh hS hi hm) ?_
            refine r_ifb_eq (tgt := 93) dX6_copy_78 (by decide) (fun h78 => ?_) (fun h78 => ?_)
            · rw [decide_eq_false_iff_not] at h78
              refine r_bipush (v := (-12)) dX6_copy_93 (by decide) ?_
              refine r_iret dX6_copy_95 rfl ?_
              have e0 : copyB σ s0 i o0 j m = -12 := by unfold copyB; rw [if_pos (by omega), Int.toNat_natCast, Int.toNat_natCast, if_neg (by omega), if_neg (by omega), if_neg (by omega)]
              have e4 : copyS σ s0 i o0 j m = σ := by unfold copyS; rw [if_pos (by omega), Int.toNat_natCast, Int.toNat_natCast, if_neg (by omega), if_neg (by omega), if_neg (by omega)]
              rw [e0, e4]
              exact PB.rf hC
            · rw [decide_eq_true_eq] at h78
              refine r_aload dX6_copy_81 rfl ?_
              refine r_iload dX6_copy_83 rfl ?_
              refine r_iload dX6_copy_85 rfl ?_
              refine r_callV2I dX6_copy_87 moX2_holds w_760 w_761 w_762 (hsh.h0 hh2) cl2 rfl (Nat.le_of_ble_eq_true rfl) (Nat.le_of_ble_eq_true rfl) (S_holds hsh hh2 hS2 hj hm) ?_
              refine r_ifb_ne (tgt := 96) dX6_copy_90 (by decide) (fun h90 => ?_) (fun h90 => ?_)
              · rw [decide_eq_true_eq] at h90
                obtain ⟨i0, ei0⟩ := Int.eq_ofNat_of_zero_le (show 0 ≤ i by omega)
                subst ei0
                rw [← nz i0]
                obtain ⟨j0, ej0⟩ := Int.eq_ofNat_of_zero_le (show 0 ≤ j by omega)
                subst ej0
                rw [← nz j0]
                obtain ⟨m0, em0⟩ := Int.eq_ofNat_of_zero_le (show 0 ≤ m by omega)
                subst em0
                rw [← nz m0]
                refine r_aload dX6_copy_96 rfl ?_
                refine r_getR (b := ((89 + 2 * s0) + 1)) dX6_copy_98 f_X6_227 (hsh.h0 hh) (Or.inl ⟨_, rfl⟩) (hsh.hr2 hh) (by omega) ?_
                refine r_iload_n dX6_copy_101 rfl ?_
                refine r_aload dX6_copy_102 rfl ?_
                refine r_getR (b := ((89 + 2 * o0) + 1)) dX6_copy_104 f_X6_227 (hsh.h0 hh2) (Or.inl ⟨_, rfl⟩) (hsh.hr2 hh2) (by omega) ?_
                refine r_iload dX6_copy_107 rfl ?_
                refine r_iload dX6_copy_109 rfl ?_
                refine r_acopy dX6_copy_111 w_764 w_650 w_649 w_17 (sp := i0) (dp := j0) (k := m0) (hsh.h1 hh) (hsh.h1 hh2) rfl rfl rfl (by omega) (by omega) (Nat.le_of_ble_eq_true rfl) ?_
                refine r_iload dX6_copy_114 rfl ?_
                refine r_iret dX6_copy_116 rfl ?_
                have e0 : copyB σ s0 i0 o0 j0 m0 = (m0 : Nat) := by unfold copyB; rw [if_pos (by omega), Int.toNat_natCast, Int.toNat_natCast, if_neg (by omega), if_neg (by omega), if_pos (by omega)]
                have e4 : copyS σ s0 i0 o0 j0 m0 = wSh σ o0 (qso σ o0) (qzs σ o0) (va_cpy (qit σ s0) (qit σ o0) i0 j0 m0) := by unfold copyS; rw [if_pos (by omega), Int.toNat_natCast, Int.toNat_natCast, if_neg (by omega), if_neg (by omega), if_pos (by omega)]; rfl
                rw [e0, e4, ← nz]
                refine PB.toI (hC.shU ho4 (fun x _ h2 => cpI_ne _ h2) ?_ fun x hx => ?_) fun x h1 => cpI_ne _ (by omega)
                · have e5 := cpI_ne I (src := 89 + 2 * s0 + 1) (sp := i0) (dp := j0) (k := m0) (show 89 + 2 * o0 ≠ 89 + 2 * o0 + 1 by omega)
                  exact ⟨by rw [e5]; exact hS2.1, by rw [e5]; exact hS2.2.1, hS2.2.2⟩
                · rw [cpI_at]
                  unfold va_cpy
                  by_cases e : j0 ≤ x ∧ x < j0 + m0
                  · rw [if_pos e, if_pos e]; exact hit _ (by omega)
                  · rw [if_neg e, if_neg e]; exact hit2 x hx
              · rw [decide_eq_false_iff_not] at h90
                refine r_bipush (v := (-12)) dX6_copy_93 (by decide) ?_
                refine r_iret dX6_copy_95 rfl ?_
                have e0 : copyB σ s0 i o0 j m = -12 := by unfold copyB; rw [if_pos (by omega), Int.toNat_natCast, Int.toNat_natCast, if_neg (by omega), if_neg (by omega), if_neg (by omega)]
                have e4 : copyS σ s0 i o0 j m = σ := by unfold copyS; rw [if_pos (by omega), Int.toNat_natCast, Int.toNat_natCast, if_neg (by omega), if_neg (by omega), if_neg (by omega)]
                rw [e0, e4]
                exact PB.rf hC
          · refine r_bipush (v := (-13)) dX6_copy_67 (by decide) ?_
            refine r_iret dX6_copy_69 rfl ?_
            have e0 : copyB σ s0 i o0 j m = -13 := by unfold copyB; rw [if_pos (by omega), Int.toNat_natCast, Int.toNat_natCast, if_neg (by omega), if_pos h64]
            have e4 : copyS σ s0 i o0 j m = σ := by unfold copyS; rw [if_pos (by omega), Int.toNat_natCast, Int.toNat_natCast, if_neg (by omega), if_pos h64]
            rw [e0, e4]
            exact PB.rf hC
        · rw [decide_eq_true_eq] at h48
          refine r_bipush (v := (-11)) dX6_copy_51 (by decide) ?_
          refine r_iret dX6_copy_53 rfl ?_
          have e0 : copyB σ s0 i o0 j m = -11 := by unfold copyB; rw [if_pos (by omega), Int.toNat_natCast, Int.toNat_natCast, if_pos (Or.inr h48)]
          have e4 : copyS σ s0 i o0 j m = σ := by unfold copyS; rw [if_pos (by omega), Int.toNat_natCast, Int.toNat_natCast, if_pos (Or.inr h48)]
          rw [e0, e4]
          exact PB.rf hC
    · rw [e2, decide_eq_false_iff_not] at h13
      refine r_bipush (v := (-2)) dX6_copy_16 (by decide) ?_
      refine r_iret dX6_copy_18 rfl ?_
      have e0 : copyB σ s i o j m = -2 := if_neg (by omega)
      have e4 : copyS σ s i o j m = σ := if_neg (by omega)
      rw [e0, e4]
      exact PB.rf hC
set_option maxRecDepth 20000 in
set_option maxHeartbeats 4000000 in
theorem S_sights {g : GP} {d n : Nat} {I : TI} {J : TJ} {R : TR} {σ : CSt} (hC : CS n I R σ) {s so f m : Int} (hs : inZ s) (hso : inZ so) (hf : inZ f) (hm : inZ m) : Wp g (d + 5) mX6_sights 0 [.ref 12, .int (zI s), .int (zI so), .int (zI f), .int (zI m), .null, .null, .null, .null] [] 0 0 n I J R (PB n I J R (.int (zI (sigsV σ s so f m).1)) (sigsV σ s so f m).2) := by
  have hsh := hC.sh
  have hA := hC.k13.1
  have wf := hC.k13.2.1
  have hz := wf.2.2.1
  have h13 : isSky 13 := Or.inl rfl
  have h30 : isSky 30 := Or.inr (Or.inl rfl)
  have h47 : isSky 47 := Or.inr (Or.inr rfl)
  have hn := hsh.1
  have e1 : bw (zI s) 4 = decide (0 ≤ s ∧ s < (4 : Nat)) := bw_z rfl hs (by decide)
  have e2 : bw (zI m) 8 = decide (0 ≤ m ∧ m < (8 : Nat)) := bw_z rfl hm (by decide)
  have loop : ∀ s0 m0, s0 < 4 → isSheet (89 + 2 * s0) → m0 < 8 → ∀ q (i : Int) came k I2 τ, inZ i → k + q = m0 → CS n I2 R τ → (∀ a, 102 ≤ a → I2 a = I a) → came ≤ k → Wp g (d + 5) mX6_sights 76 [.ref 12, .int (nI s0), .int (zI so), .int (zI f), .int (nI m0), .ref (89 + 2 * s0), .int (nI came), .int (zI i), .int (nI k)] [] 0 0 n I2 J R (PB n I J R (.int (zI (sgsN s0 q i came τ).1)) (sgsN s0 q i came τ).2) := by
    intro s0 m0 hs4 hh hm8 q
    induction q with
    | zero =>
      intro i came k I2 τ hi hk hT h102 hc8
      refine r_iload dX6_sights_76 rfl ?_
      refine r_iload dX6_sights_78 rfl ?_
      refine r_nicmp_ge  (tgt := 141) dX6_sights_80 (by decide) rfl rfl (by omega) (by omega) (fun h80 => ?_) (fun h80 => absurd h80 (by omega))
      refine r_iload dX6_sights_141 rfl ?_
      refine r_iret dX6_sights_143 rfl ?_
      exact PB.toI hT h102
    | succ q ih =>
      intro i came k I2 τ hi hk hT h102 hc8
      obtain ⟨hS, hit⟩ := hT.sht s0 hs4
      have b1 := hS.2.2
      have hz2 := hT.k13.2.1.2.2.1
      refine r_iload dX6_sights_76 rfl ?_
      refine r_iload dX6_sights_78 rfl ?_
      refine r_nicmp_ge  (tgt := 141) dX6_sights_80 (by decide) rfl rfl (by omega) (by omega) (fun h80 => absurd h80 (by omega)) (fun h80 => ?_)
      refine r_aload dX6_sights_83 rfl ?_
      refine r_iload dX6_sights_85 rfl ?_
      refine r_iconst (v := 3) dX6_sights_87 (by decide) ?_
      refine r_top (v := zI 3) rfl ?_
      refine r_callV2I dX6_sights_88 moX2_holds w_760 w_761 w_762 (hsh.h0 hh) cl2 rfl (Nat.le_of_ble_eq_true rfl) (Nat.le_of_ble_eq_true rfl) (S_holds hsh hh hS hi (b := 3) (by unfold inZ; omega)) ?_
      refine r_ifb_ne (tgt := 97) dX6_sights_91 (by decide) (fun h91 => ?_) (fun h91 => ?_)
      · rw [decide_eq_true_eq] at h91
        obtain ⟨i0, ei0⟩ := Int.eq_ofNat_of_zero_le (show 0 ≤ i by omega)
        subst ei0
        rw [← nz i0]
        have e0 : sgsN s0 (q + 1) i0 came τ = sgsN s0 q ((i0 : Int) + 3) (if 0 ≤ sighV τ (qit τ s0 i0).toInt (qit τ s0 (i0 + 1)).toInt (qit τ s0 (i0 + 2)).toInt then came + 1 else came) (sighS τ (qit τ s0 i0).toInt (qit τ s0 (i0 + 1)).toInt (qit τ s0 (i0 + 2)).toInt) := by show (if _ then _ else _) = _; rw [if_pos h91]; rfl
        have hv := sighV_in hz2 (qit τ s0 i0).toInt (qit τ s0 (i0 + 1)).toInt (qit τ s0 (i0 + 2)).toInt
        refine r_aload_n dX6_sights_97 rfl ?_
        refine r_aload dX6_sights_98 rfl ?_
        refine r_iload dX6_sights_100 rfl ?_
        refine r_callV1I dX6_sights_102 moX2_item w_585 w_586 w_587 (hsh.h0 hh) cl2 rfl (Nat.le_of_ble_eq_true rfl) (Nat.le_of_ble_eq_true rfl) (S_item hsh hh hS (i := i0) (by omega)) ?_
        refine r_top (v := zI (qit τ s0 (i0)).toInt) (by rw [hit _ (by omega), zI_tI]) ?_
        refine r_aload dX6_sights_105 rfl ?_
        refine r_iload dX6_sights_107 rfl ?_
        refine r_iconst (v := 1) dX6_sights_109 (by decide) ?_
        refine r_niadd (b := 1) dX6_sights_110 rfl rfl ?_
        refine r_callV1I dX6_sights_111 moX2_item w_585 w_586 w_587 (hsh.h0 hh) cl2 rfl (Nat.le_of_ble_eq_true rfl) (Nat.le_of_ble_eq_true rfl) (S_item hsh hh hS (i := i0 + 1) (by omega)) ?_
        refine r_top (v := zI (qit τ s0 (i0 + 1)).toInt) (by rw [hit _ (by omega), zI_tI]) ?_
        refine r_aload dX6_sights_114 rfl ?_
        refine r_iload dX6_sights_116 rfl ?_
        refine r_iconst (v := 2) dX6_sights_118 (by decide) ?_
        refine r_niadd (b := 2) dX6_sights_119 rfl rfl ?_
        refine r_callV1I dX6_sights_120 moX2_item w_585 w_586 w_587 (hsh.h0 hh) cl2 rfl (Nat.le_of_ble_eq_true rfl) (Nat.le_of_ble_eq_true rfl) (S_item hsh hh hS (i := i0 + 2) (by omega)) ?_
        refine r_top (v := zI (qit τ s0 (i0 + 2)).toInt) (by rw [hit _ (by omega), zI_tI]) ?_
        refine r_callV3N dX6_sights_123 moX6_sight w_769 w_455 w_456 (hsh.al rfl (by decide)) cl6 rfl (Nat.le_of_ble_eq_true rfl) (Nat.le_of_ble_eq_true rfl) (S_sight hT (tI_inZ _) (tI_inZ _) (tI_inZ _)) (fun r n I3 J R hq => ?_)
        obtain ⟨rfl, rfl, rfl, rfl, g1, g2⟩ := hq
        refine r_some rfl ?_
        refine r_zif_lt (tgt := 132) dX6_sights_126 (by decide) rfl (by unfold inZ; omega) (fun h126 => ?_) (fun h126 => ?_)
        · refine r_iinc (v := zI ((i0 : Int) + 3)) dX6_sights_132 rfl (by rw [nz]; exact zI_add _ 3) rfl ?_
          refine r_iincE (b := (k + 1)) dX6_sights_135 rfl rfl (nI_succ _).symm rfl ?_
          refine r_goto (tgt := 76) dX6_sights_138 (by decide) ?_
          rw [e0, if_neg (by omega)]
          exact ih _ came (k + 1) I3 _ (by unfold inZ; omega) (by omega) g1 (fun a h1 => (g2 a (by unfold inS; omega)).trans (h102 a h1)) (by omega)
        · refine r_iincE (b := (came + 1)) dX6_sights_129 rfl rfl (nI_succ _).symm rfl ?_
          refine r_iinc (v := zI ((i0 : Int) + 3)) dX6_sights_132 rfl (by rw [nz]; exact zI_add _ 3) rfl ?_
          refine r_iincE (b := (k + 1)) dX6_sights_135 rfl rfl (nI_succ _).symm rfl ?_
          refine r_goto (tgt := 76) dX6_sights_138 (by decide) ?_
          rw [e0, if_pos (by omega)]
          exact ih _ (came + 1) (k + 1) I3 _ (by unfold inZ; omega) (by omega) g1 (fun a h1 => (g2 a (by unfold inS; omega)).trans (h102 a h1)) (by omega)
      · rw [decide_eq_false_iff_not] at h91
        refine r_bipush (v := (-12)) dX6_sights_94 (by decide) ?_
        refine r_iret dX6_sights_96 rfl ?_
        have e0 : sgsN s0 (q + 1) i came τ = (-12, τ) := if_neg (by omega)
        rw [e0]
        exact PB.toI hT h102
  refine r_iload_n dX6_sights_0 rfl ?_
  refine r_iconst (v := 4) dX6_sights_1 (by decide) ?_
  refine r_callS2I dX6_sights_2 moX6_isBelow w_458 w_400 (Nat.le_of_ble_eq_true rfl) (Nat.le_of_ble_eq_true rfl) (S_isBelow _ _) ?_
  refine r_ifb_eq (tgt := 25) dX6_sights_5 (by decide) (fun h5 => ?_) (fun h5 => ?_)
  · rw [e1, decide_eq_false_iff_not] at h5
    refine r_bipush (v := (-2)) dX6_sights_25 (by decide) ?_
    refine r_iret dX6_sights_27 rfl ?_
    have e0 : sigsV σ s so f m = (-2, σ) := if_neg (by omega)
    rw [e0]
    exact PB.rf hC
  · rw [e1, decide_eq_true_eq] at h5
    refine r_iload_n dX6_sights_8 rfl ?_
    refine r_callS1I dX6_sights_9 moX6_isSort w_749 w_750 (Nat.le_of_ble_eq_true rfl) (Nat.le_of_ble_eq_true rfl) (S_isSort hso) ?_
    refine r_ifb_eq (tgt := 25) dX6_sights_12 (by decide) (fun h12 => ?_) (fun h12 => ?_)
    · rw [decide_eq_false_iff_not] at h12
      refine r_bipush (v := (-2)) dX6_sights_25 (by decide) ?_
      refine r_iret dX6_sights_27 rfl ?_
      have e0 : sigsV σ s so f m = (-2, σ) := if_neg (by omega)
      rw [e0]
      exact PB.rf hC
    · rw [decide_eq_true_eq] at h12
      refine r_iload dX6_sights_15 rfl ?_
      refine r_bipush (v := 8) dX6_sights_17 (by decide) ?_
      refine r_callS2I dX6_sights_19 moX6_isBelow w_458 w_400 (Nat.le_of_ble_eq_true rfl) (Nat.le_of_ble_eq_true rfl) (S_isBelow _ _) ?_
      refine r_ifb_ne (tgt := 28) dX6_sights_22 (by decide) (fun h22 => ?_) (fun h22 => ?_)
      · rw [e2, decide_eq_true_eq] at h22
        obtain ⟨s0, es0⟩ := Int.eq_ofNat_of_zero_le (show 0 ≤ s by omega)
        subst es0
        rw [← nz s0]
        have hs4 : s0 < 4 := by omega
        have hh := isSheet_at hs4
        obtain ⟨hS, hit⟩ := hC.sht s0 hs4
        have b1 := hS.2.2
        refine r_aload_n dX6_sights_28 rfl ?_
        refine r_getR (b := 70) dX6_sights_29 f_X6_45 (hsh.al rfl (by decide)) (Or.inl ⟨_, rfl⟩) (hsh.r 12 8 70 (by decide)) (by decide) ?_
        refine r_iload_n dX6_sights_32 rfl ?_
        refine r_aald (j := s0) (b := (89 + 2 * s0)) dX6_sights_33 (hsh.al rfl (by decide)) (Or.inr (Or.inr rfl)) hs4 rfl (hsh.shA hs4) (by omega) ?_
        refine r_astore dX6_sights_34 (by decide) rfl ?_
        refine r_aload dX6_sights_36 rfl ?_
        refine r_callV0I dX6_sights_38 moX2_isMissing w_581 w_582 w_583 (hsh.h0 hh) cl2 rfl (Nat.le_of_ble_eq_true rfl) (Nat.le_of_ble_eq_true rfl) (S_isMissing hsh hh hS) ?_
        refine r_ifb_ne (tgt := 56) dX6_sights_41 (by decide) (fun h41 => ?_) (fun h41 => ?_)
        · rw [decide_eq_true_eq] at h41
          refine r_aload dX6_sights_56 rfl ?_
          refine r_callV0I dX6_sights_58 moX2_isMissing w_581 w_582 w_583 (hsh.h0 hh) cl2 rfl (Nat.le_of_ble_eq_true rfl) (Nat.le_of_ble_eq_true rfl) (S_isMissing hsh hh hS) ?_
          refine r_ifb_eq (tgt := 67) dX6_sights_61 (by decide) (fun h61 => absurd h41 (of_decide_eq_false h61)) (fun h61 => ?_)
          refine r_bipush (v := (-11)) dX6_sights_64 (by decide) ?_
          refine r_iret dX6_sights_66 rfl ?_
          have e0 : sigsV σ s0 so f m = (-11, σ) := by unfold sigsV; rw [if_pos (by omega), Int.toNat_natCast, if_pos (by omega)]
          rw [e0]
          exact PB.rf hC
        · rw [decide_eq_false_iff_not] at h41
          refine r_aload dX6_sights_44 rfl ?_
          refine r_getIE dX6_sights_46 f_X6_221 (hsh.h0 hh) (Or.inl rfl) hS.1 ?_
          refine r_iload_n dX6_sights_49 rfl ?_
          refine r_zicmp_eq  (tgt := 56) dX6_sights_50 (by decide) rfl rfl (by unfold inZ; omega) hso (fun h50 => ?_) (fun h50 => ?_)
          · refine r_aload dX6_sights_56 rfl ?_
            refine r_callV0I dX6_sights_58 moX2_isMissing w_581 w_582 w_583 (hsh.h0 hh) cl2 rfl (Nat.le_of_ble_eq_true rfl) (Nat.le_of_ble_eq_true rfl) (S_isMissing hsh hh hS) ?_
            refine r_ifb_eq (tgt := 67) dX6_sights_61 (by decide) (fun h61 => ?_) (fun h61 => absurd (of_decide_eq_true h61) h41)
            obtain ⟨m0, em0⟩ := Int.eq_ofNat_of_zero_le (show 0 ≤ m by omega)
            subst em0
            rw [← nz m0]
            refine r_iconst (v := 0) dX6_sights_67 (by decide) ?_
            refine r_istore dX6_sights_68 (by decide) rfl ?_
            refine r_iload_n dX6_sights_70 rfl ?_
            refine r_istore dX6_sights_71 (by decide) rfl ?_
            refine r_iconst (v := 0) dX6_sights_73 (by decide) ?_
            refine r_istore dX6_sights_74 (by decide) rfl ?_
            have e0 : sigsV σ s0 so f m0 = sgsN s0 m0 f 0 σ := by unfold sigsV; rw [if_pos (by omega), Int.toNat_natCast, Int.toNat_natCast, if_neg h41, if_neg (by omega)]
            rw [e0]
            exact loop s0 m0 hs4 hh (by omega) m0 f 0 0 I σ hf (Nat.zero_add _) hC (fun _ _ => rfl) (Nat.le_refl _)
          · refine r_bipush (v := (-13)) dX6_sights_53 (by decide) ?_
            refine r_iret dX6_sights_55 rfl ?_
            have e0 : sigsV σ s0 so f m = (-13, σ) := by unfold sigsV; rw [if_pos (by omega), Int.toNat_natCast, if_neg h41, if_pos (by omega)]
            rw [e0]
            exact PB.rf hC
      · rw [e2, decide_eq_false_iff_not] at h22
        refine r_bipush (v := (-2)) dX6_sights_25 (by decide) ?_
        refine r_iret dX6_sights_27 rfl ?_
        have e0 : sigsV σ s so f m = (-2, σ) := if_neg (by omega)
        rw [e0]
        exact PB.rf hC
set_option maxRecDepth 20000 in
set_option maxHeartbeats 4000000 in
theorem S_lists {g : GP} {d n : Nat} {I : TI} {J : TJ} {R : TR} {σ : CSt} (hC : CS n I R σ) {s w : Int} (hs : inZ s) (hw : inZ w) : Wp g (d + 7) mX6_lists 0 [.ref 12, .int (zI s), .int (zI w), .null] [] 0 0 n I J R (PB n I J R (.int (zI (listV σ s w))) σ) := by
  have hsh := hC.sh
  have hA := hC.k13.1
  have wf := hC.k13.2.1
  have hz := wf.2.2.1
  have h13 : isSky 13 := Or.inl rfl
  have h30 : isSky 30 := Or.inr (Or.inl rfl)
  have h47 : isSky 47 := Or.inr (Or.inr rfl)
  have hn := hsh.1
  have e1 : bw (zI s) 4 = decide (0 ≤ s ∧ s < (4 : Nat)) := bw_z rfl hs (by decide)
  have e2 : bw (zI w) 5 = decide (0 ≤ w ∧ w < (5 : Nat)) := bw_z rfl hw (by decide)
  refine r_iload_n dX6_lists_0 rfl ?_
  refine r_iconst (v := 4) dX6_lists_1 (by decide) ?_
  refine r_callS2I dX6_lists_2 moX6_isBelow w_458 w_400 (Nat.le_of_ble_eq_true rfl) (Nat.le_of_ble_eq_true rfl) (S_isBelow _ _) ?_
  refine r_ifb_eq (tgt := 24) dX6_lists_5 (by decide) (fun h5 => ?_) (fun h5 => ?_)
  · rw [e1, decide_eq_false_iff_not] at h5
    refine r_bipush (v := (-2)) dX6_lists_24 (by decide) ?_
    refine r_iret dX6_lists_26 rfl ?_
    have e0 : listV σ s w = -2 := if_neg (fun h => by
      rcases h.2.2 with h1 | h1
      · first | (rw [h13_] at h1; exact absurd h1 (by decide)) | omega
      · omega)
    rw [e0]
    exact PB.rf hC
  · rw [e1, decide_eq_true_eq] at h5
    refine r_aload_n dX6_lists_8 rfl ?_
    refine r_iload_n dX6_lists_9 rfl ?_
    refine r_callV1I dX6_lists_10 moX6_asksOfSights w_506 w_508 s_17 (hsh.al rfl (by decide)) cl6 rfl (Nat.le_of_ble_eq_true rfl) (Nat.le_of_ble_eq_true rfl) (S_asksOfSights hsh hA wf hw) ?_
    refine r_ifb_ne (tgt := 27) dX6_lists_13 (by decide) (fun h13_ => ?_) (fun h13_ => ?_)
    · obtain ⟨s0, es0⟩ := Int.eq_ofNat_of_zero_le (show 0 ≤ s by omega)
      subst es0
      rw [← nz s0]
      have hs4 : s0 < 4 := by omega
      have hh := isSheet_at hs4
      obtain ⟨hS, hit⟩ := hC.sht s0 hs4
      have b1 := hS.2.2
      have hask : 0 ≤ ((s0 : Nat) : Int) ∧ ((s0 : Nat) : Int) < 4 ∧ (asksS (qsz σ) w = true ∨ (0 ≤ w ∧ w < 5)) := ⟨by omega, by omega, Or.inl h13_⟩
      refine r_aload_n dX6_lists_27 rfl ?_
      refine r_getR (b := 70) dX6_lists_28 f_X6_45 (hsh.al rfl (by decide)) (Or.inl ⟨_, rfl⟩) (hsh.r 12 8 70 (by decide)) (by decide) ?_
      refine r_iload_n dX6_lists_31 rfl ?_
      refine r_aald (j := s0) (b := (89 + 2 * s0)) dX6_lists_32 (hsh.al rfl (by decide)) (Or.inr (Or.inr rfl)) hs4 rfl (hsh.shA hs4) (by omega) ?_
      refine r_astore_n dX6_lists_33 (by decide) rfl ?_
      refine r_aload_n dX6_lists_34 rfl ?_
      refine r_callV0I dX6_lists_35 moX2_isMissing w_581 w_582 w_583 (hsh.h0 hh) cl2 rfl (Nat.le_of_ble_eq_true rfl) (Nat.le_of_ble_eq_true rfl) (S_isMissing hsh hh hS) ?_
      refine r_ifb_eq (tgt := 44) dX6_lists_38 (by decide) (fun h38 => ?_) (fun h38 => ?_)
      · rw [decide_eq_false_iff_not] at h38
        refine r_aload_n dX6_lists_44 rfl ?_
        refine r_getIE dX6_lists_45 f_X6_137 (hsh.h0 hh) (Or.inl rfl) hS.2.1 ?_
        refine r_aload_n dX6_lists_48 rfl ?_
        refine r_getR (b := 13) dX6_lists_49 f_X6_10 (hsh.al rfl (by decide)) (Or.inr ⟨_, rfl⟩) (hsh.r 12 0 13 (by decide)) (by decide) ?_
        refine r_getIE dX6_lists_52 f_X6_95 (hsh.al rfl (by decide)) (Or.inl rfl) hA.2.2.1 ?_
        refine r_nicmp_eq  (tgt := 61) dX6_lists_55 (by decide) rfl rfl (by omega) (by omega) (fun h55 => ?_) (fun h55 => ?_)
        · refine r_aload_n dX6_lists_61 rfl ?_
          refine r_getR (b := 47) dX6_lists_62 f_X6_19 (hsh.al rfl (by decide)) (Or.inr ⟨_, rfl⟩) (hsh.r 12 2 47 (by decide)) (by decide) ?_
          refine r_aload_n dX6_lists_65 rfl ?_
          refine r_getR (b := 13) dX6_lists_66 f_X6_10 (hsh.al rfl (by decide)) (Or.inr ⟨_, rfl⟩) (hsh.r 12 0 13 (by decide)) (by decide) ?_
          refine r_callV1N dX6_lists_69 moX3_takeAfter w_644 w_645 w_646 (hsh.al rfl (by decide)) cl3 rfl (Nat.le_of_ble_eq_true rfl) (Nat.le_of_ble_eq_true rfl) (S_takeAfter (s := 47) (o := 13) hsh h47 h13 (by decide)) (fun r n I2 J R hq => ?_)
          obtain ⟨rfl, rfl, rfl, rfl, f1⟩ := hq
          have k47 := hC.k13.take f1
          have f2 : FrX I I2 := FrX.rf.in f1.1
          have q1 : I2 (89 + 2 * s0) = I (89 + 2 * s0) := f1.1 _ (by unfold inS; omega)
          have q2 : I2 (89 + 2 * s0 + 1) = I (89 + 2 * s0 + 1) := f1.1 _ (by unfold inS; omega)
          have hS2 : ShtAt I2 (89 + 2 * s0) (qso σ s0) (qsz σ) := ⟨by rw [q1]; exact hS.1, by rw [q1, ← h55]; exact hS.2.1, by omega, by omega, by omega⟩
          have hit2 : ∀ j, j < 40 → I2 (89 + 2 * s0 + 1) j = qit σ s0 j := fun j hj => by rw [q2]; exact hit j hj
          refine r_iload_n dX6_lists_72 rfl ?_
          have e0 : listV σ s0 w = lisV σ (qit σ s0) w := by unfold listV; rw [if_pos hask, Int.toNat_natCast, if_neg h38, if_pos h55]
          have hq := of_decide_eq_true h13_
          obtain ⟨w0, ew⟩ := Int.eq_ofNat_of_zero_le (show 0 ≤ w by omega)
          subst ew
          rw [← nz w0]
          refine r_tabOut (tgt := 144) dX6_lists_73 (by rw [nI_tI (by omega)]; exact Or.inr (by omega)) (by decide) ?_
          refine r_iload_n dX6_lists_144 rfl ?_
          refine r_bipush (v := 20) dX6_lists_145 (by decide) ?_
          refine r_nicmp_ge (b := 20)  (tgt := 166) dX6_lists_147 (by decide) rfl rfl (by omega) (by omega) (fun h147 => ?_) (fun h147 => ?_)
          · refine r_aload_n dX6_lists_166 rfl ?_
            refine r_aload_n dX6_lists_167 rfl ?_
            refine r_bipush (v := 8) dX6_lists_168 (by decide) ?_
            refine r_iload_n dX6_lists_170 rfl ?_
            refine r_bipush (v := 10) dX6_lists_171 (by decide) ?_
            refine r_nirem (b := 10) dX6_lists_173 rfl rfl (by omega) (by omega) (by omega) ?_
            refine r_bipush (v := 10) dX6_lists_174 (by decide) ?_
            refine r_callV4N dX6_lists_176 moX6_bitsThatFit w_695 w_697 s_25 (hsh.al rfl (by decide)) cl6 rfl (Nat.le_of_ble_eq_true rfl) (Nat.le_of_ble_eq_true rfl) (S_bitsThatFitT hsh k47 (f2.tx hC.tx) hC.rlt (f2.ks hC.ks) hh hS2 (j := 0) (k := w0 % 10) (bd := 10) (by decide) (by omega) (fun v hv => by show v ≤ 9; omega) (by decide)) (fun r n I3 J R hq => ?_)
            obtain ⟨rfl, rfl, rfl, fR, hF⟩ := hq
            refine r_some rfl ?_
            refine r_iret dX6_lists_179 rfl ?_
            have e8 : lisV σ (I2 (89 + 2 * s0 + 1)) (w0 : Nat) = (bitsN (fun v => decide (fitN (qdl σ) (up2 (qtr σ) 0 (w0 % 10) v) (qtv σ (qrl σ)) (qsz σ) (I2 (89 + 2 * s0 + 1)) = 0)) 10 : Nat) := by unfold lisV; rw [if_neg (by omega), if_neg (by omega), if_neg (by omega), if_neg (by omega), if_neg (by omega), if_neg (by omega), Int.toNat_natCast]
            rw [e0, ← lisV_it (fun j hj => hit2 j (by omega)), e8]
            rw [← nz]
            exact PB.of hC fR ((hC.k13.of47 f1.1).out fun a ha => hF a (not47 ha) (by unfold inS at ha; omega)) ((FrX.rf.in f1.1).t (FrT.x hF))
          · refine r_aload_n dX6_lists_150 rfl ?_
            refine r_aload_n dX6_lists_151 rfl ?_
            refine r_bipush (v := 13) dX6_lists_152 (by decide) ?_
            refine r_iload_n dX6_lists_154 rfl ?_
            refine r_bipush (v := 10) dX6_lists_155 (by decide) ?_
            refine r_nirem (b := 10) dX6_lists_157 rfl rfl (by omega) (by omega) (by omega) ?_
            refine r_bipush (v := 6) dX6_lists_158 (by decide) ?_
            refine r_callV4N dX6_lists_160 moX6_bitsThatFit w_695 w_697 s_25 (hsh.al rfl (by decide)) cl6 rfl (Nat.le_of_ble_eq_true rfl) (Nat.le_of_ble_eq_true rfl) (S_bitsThatFitT hsh k47 (f2.tx hC.tx) hC.rlt (f2.ks hC.ks) hh hS2 (j := 5) (k := w0 % 10) (bd := 6) (by decide) (by omega) (fun v hv => by show v ≤ 5; omega) (by decide)) (fun r n I3 J R hq => ?_)
            obtain ⟨rfl, rfl, rfl, fR, hF⟩ := hq
            refine r_some rfl ?_
            refine r_goto (tgt := 179) dX6_lists_163 (by decide) ?_
            refine r_iret dX6_lists_179 rfl ?_
            have e8 : lisV σ (I2 (89 + 2 * s0 + 1)) (w0 : Nat) = (bitsN (fun v => decide (fitN (qdl σ) (up2 (qtr σ) 5 (w0 % 10) v) (qtv σ (qrl σ)) (qsz σ) (I2 (89 + 2 * s0 + 1)) = 0)) 6 : Nat) := by unfold lisV; rw [if_neg (by omega), if_neg (by omega), if_neg (by omega), if_neg (by omega), if_neg (by omega), if_pos (by omega), Int.toNat_natCast]
            rw [e0, ← lisV_it (fun j hj => hit2 j (by omega)), e8]
            rw [← nz]
            exact PB.of hC fR ((hC.k13.of47 f1.1).out fun a ha => hF a (not47 ha) (by unfold inS at ha; omega)) ((FrX.rf.in f1.1).t (FrT.x hF))
        · refine r_bipush (v := (-2)) dX6_lists_58 (by decide) ?_
          refine r_iret dX6_lists_60 rfl ?_
          have e0 : listV σ s0 w = -2 := by unfold listV; rw [if_pos hask, Int.toNat_natCast, if_neg h38, if_neg h55]
          rw [e0]
          exact PB.rf hC
      · rw [decide_eq_true_eq] at h38
        refine r_bipush (v := (-11)) dX6_lists_41 (by decide) ?_
        refine r_iret dX6_lists_43 rfl ?_
        have e0 : listV σ s0 w = -11 := by unfold listV; rw [if_pos hask, Int.toNat_natCast, if_pos h38]
        rw [e0]
        exact PB.rf hC
    · refine r_iload_n dX6_lists_16 rfl ?_
      refine r_iconst (v := 5) dX6_lists_17 (by decide) ?_
      refine r_callS2I dX6_lists_18 moX6_isBelow w_458 w_400 (Nat.le_of_ble_eq_true rfl) (Nat.le_of_ble_eq_true rfl) (S_isBelow _ _) ?_
      refine r_ifb_ne (tgt := 27) dX6_lists_21 (by decide) (fun h21 => ?_) (fun h21 => ?_)
      · rw [e2, decide_eq_true_eq] at h21
        obtain ⟨s0, es0⟩ := Int.eq_ofNat_of_zero_le (show 0 ≤ s by omega)
        subst es0
        rw [← nz s0]
        have hs4 : s0 < 4 := by omega
        have hh := isSheet_at hs4
        obtain ⟨hS, hit⟩ := hC.sht s0 hs4
        have b1 := hS.2.2
        have hask : 0 ≤ ((s0 : Nat) : Int) ∧ ((s0 : Nat) : Int) < 4 ∧ (asksS (qsz σ) w = true ∨ (0 ≤ w ∧ w < 5)) := ⟨by omega, by omega, Or.inr (by omega)⟩
        refine r_aload_n dX6_lists_27 rfl ?_
        refine r_getR (b := 70) dX6_lists_28 f_X6_45 (hsh.al rfl (by decide)) (Or.inl ⟨_, rfl⟩) (hsh.r 12 8 70 (by decide)) (by decide) ?_
        refine r_iload_n dX6_lists_31 rfl ?_
        refine r_aald (j := s0) (b := (89 + 2 * s0)) dX6_lists_32 (hsh.al rfl (by decide)) (Or.inr (Or.inr rfl)) hs4 rfl (hsh.shA hs4) (by omega) ?_
        refine r_astore_n dX6_lists_33 (by decide) rfl ?_
        refine r_aload_n dX6_lists_34 rfl ?_
        refine r_callV0I dX6_lists_35 moX2_isMissing w_581 w_582 w_583 (hsh.h0 hh) cl2 rfl (Nat.le_of_ble_eq_true rfl) (Nat.le_of_ble_eq_true rfl) (S_isMissing hsh hh hS) ?_
        refine r_ifb_eq (tgt := 44) dX6_lists_38 (by decide) (fun h38 => ?_) (fun h38 => ?_)
        · rw [decide_eq_false_iff_not] at h38
          refine r_aload_n dX6_lists_44 rfl ?_
          refine r_getIE dX6_lists_45 f_X6_137 (hsh.h0 hh) (Or.inl rfl) hS.2.1 ?_
          refine r_aload_n dX6_lists_48 rfl ?_
          refine r_getR (b := 13) dX6_lists_49 f_X6_10 (hsh.al rfl (by decide)) (Or.inr ⟨_, rfl⟩) (hsh.r 12 0 13 (by decide)) (by decide) ?_
          refine r_getIE dX6_lists_52 f_X6_95 (hsh.al rfl (by decide)) (Or.inl rfl) hA.2.2.1 ?_
          refine r_nicmp_eq  (tgt := 61) dX6_lists_55 (by decide) rfl rfl (by omega) (by omega) (fun h55 => ?_) (fun h55 => ?_)
          · refine r_aload_n dX6_lists_61 rfl ?_
            refine r_getR (b := 47) dX6_lists_62 f_X6_19 (hsh.al rfl (by decide)) (Or.inr ⟨_, rfl⟩) (hsh.r 12 2 47 (by decide)) (by decide) ?_
            refine r_aload_n dX6_lists_65 rfl ?_
            refine r_getR (b := 13) dX6_lists_66 f_X6_10 (hsh.al rfl (by decide)) (Or.inr ⟨_, rfl⟩) (hsh.r 12 0 13 (by decide)) (by decide) ?_
            refine r_callV1N dX6_lists_69 moX3_takeAfter w_644 w_645 w_646 (hsh.al rfl (by decide)) cl3 rfl (Nat.le_of_ble_eq_true rfl) (Nat.le_of_ble_eq_true rfl) (S_takeAfter (s := 47) (o := 13) hsh h47 h13 (by decide)) (fun r n I2 J R hq => ?_)
            obtain ⟨rfl, rfl, rfl, rfl, f1⟩ := hq
            have k47 := hC.k13.take f1
            have f2 : FrX I I2 := FrX.rf.in f1.1
            have q1 : I2 (89 + 2 * s0) = I (89 + 2 * s0) := f1.1 _ (by unfold inS; omega)
            have q2 : I2 (89 + 2 * s0 + 1) = I (89 + 2 * s0 + 1) := f1.1 _ (by unfold inS; omega)
            have hS2 : ShtAt I2 (89 + 2 * s0) (qso σ s0) (qsz σ) := ⟨by rw [q1]; exact hS.1, by rw [q1, ← h55]; exact hS.2.1, by omega, by omega, by omega⟩
            have hit2 : ∀ j, j < 40 → I2 (89 + 2 * s0 + 1) j = qit σ s0 j := fun j hj => by rw [q2]; exact hit j hj
            refine r_iload_n dX6_lists_72 rfl ?_
            have e0 : listV σ s0 w = lisV σ (qit σ s0) w := by unfold listV; rw [if_pos hask, Int.toNat_natCast, if_neg h38, if_pos h55]
            have e5 : w = 0 ∨ w = 1 ∨ w = 2 ∨ w = 3 ∨ w = 4 := by omega
            rcases e5 with rfl | rfl | rfl | rfl | rfl
            · refine r_top (v := nI 0) rfl ?_
              refine r_tabIn (tgt := 108) (off := 35) dX6_lists_73 (by decide) (by decide) (by decide) (by decide) ?_
              refine r_aload_n dX6_lists_108 rfl ?_
              refine r_aload_n dX6_lists_109 rfl ?_
              refine r_callV1N dX6_lists_110 moX6_notAsListed w_683 w_685 s_23 (hsh.al rfl (by decide)) cl6 rfl (Nat.le_of_ble_eq_true rfl) (Nat.le_of_ble_eq_true rfl) (S_notAsListed hsh k47 (f2.tx hC.tx) hC.rlt (f2.ks hC.ks) hh hS2) (fun r n I3 J R hq => ?_)
              obtain ⟨rfl, rfl, rfl, fR, hL⟩ := hq
              refine r_some rfl ?_
              refine r_iret dX6_lists_113 rfl ?_
              have e8 : lisV σ (I2 (89 + 2 * s0 + 1)) 0 = ((fitN (qdl σ) (qtr σ) (qtv σ (qrl σ)) (qsz σ) (I2 (89 + 2 * s0 + 1)) : Nat) : Int) := by unfold lisV; rw [if_pos rfl]
              rw [e0, ← lisV_it (fun j hj => hit2 j (by omega)), e8]
              rw [← nz]
              exact PB.of hC fR ((hC.k13.of47 f1.1).out fun a ha => hL.2 a (not47 ha) (by unfold inS at ha; omega)) ((FrX.rf.in f1.1).t (FrT.x hL.2))
            · refine r_top (v := nI 1) rfl ?_
              refine r_tabIn (tgt := 114) (off := 41) dX6_lists_73 (by decide) (by decide) (by decide) (by decide) ?_
              refine r_aload_n dX6_lists_114 rfl ?_
              refine r_aload_n dX6_lists_115 rfl ?_
              refine r_iconst (v := 1) dX6_lists_116 (by decide) ?_
              refine r_callV2N dX6_lists_117 moX6_spotsThatFit w_691 w_693 s_24 (hsh.al rfl (by decide)) cl6 rfl (Nat.le_of_ble_eq_true rfl) (Nat.le_of_ble_eq_true rfl) (S_spotsThatFit hsh k47 (f2.tx hC.tx) hC.rlt (f2.ks hC.ks) hh hS2 true) (fun r n I3 J R hq => ?_)
              obtain ⟨rfl, rfl, rfl, fR, hF⟩ := hq
              refine r_some rfl ?_
              refine r_iret dX6_lists_120 rfl ?_
              have e8 : lisV σ (I2 (89 + 2 * s0 + 1)) 1 = (((sptN (fun p => decide (fitN (up1 (qdl σ) 5 p) (qtr σ) (qtv σ (qrl σ)) (qsz σ) (I2 (89 + 2 * s0 + 1)) = 0)) 100).1 : Nat) : Int) := by unfold lisV; rw [if_neg (by omega), if_pos rfl]
              rw [e0, ← lisV_it (fun j hj => hit2 j (by omega)), e8]
              rw [← nz]
              exact PB.of hC fR ((hC.k13.of47 f1.1).out fun a ha => hF a (not47 ha) (by unfold inS at ha; omega)) ((FrX.rf.in f1.1).t (FrT.x hF))
            · refine r_top (v := nI 2) rfl ?_
              refine r_tabIn (tgt := 121) (off := 48) dX6_lists_73 (by decide) (by decide) (by decide) (by decide) ?_
              refine r_aload_n dX6_lists_121 rfl ?_
              refine r_aload_n dX6_lists_122 rfl ?_
              refine r_iconst (v := 0) dX6_lists_123 (by decide) ?_
              refine r_callV2N dX6_lists_124 moX6_spotsThatFit w_691 w_693 s_24 (hsh.al rfl (by decide)) cl6 rfl (Nat.le_of_ble_eq_true rfl) (Nat.le_of_ble_eq_true rfl) (S_spotsThatFit hsh k47 (f2.tx hC.tx) hC.rlt (f2.ks hC.ks) hh hS2 false) (fun r n I3 J R hq => ?_)
              obtain ⟨rfl, rfl, rfl, fR, hF⟩ := hq
              refine r_some rfl ?_
              refine r_iret dX6_lists_127 rfl ?_
              have e8 : lisV σ (I2 (89 + 2 * s0 + 1)) 2 = (sptN (fun p => decide (fitN (up1 (qdl σ) 5 p) (qtr σ) (qtv σ (qrl σ)) (qsz σ) (I2 (89 + 2 * s0 + 1)) = 0)) 100).2 := by unfold lisV; rw [if_neg (by omega), if_neg (by omega), if_pos rfl]
              rw [e0, ← lisV_it (fun j hj => hit2 j (by omega)), e8]
              exact PB.of hC fR ((hC.k13.of47 f1.1).out fun a ha => hF a (not47 ha) (by unfold inS at ha; omega)) ((FrX.rf.in f1.1).t (FrT.x hF))
            · refine r_top (v := nI 3) rfl ?_
              refine r_tabIn (tgt := 128) (off := 55) dX6_lists_73 (by decide) (by decide) (by decide) (by decide) ?_
              refine r_aload_n dX6_lists_128 rfl ?_
              refine r_aload_n dX6_lists_129 rfl ?_
              refine r_iconst (v := 0) dX6_lists_130 (by decide) ?_
              refine r_iconst (v := 0) dX6_lists_131 (by decide) ?_
              refine r_bipush (v := 10) dX6_lists_132 (by decide) ?_
              refine r_callV4N dX6_lists_134 moX6_bitsThatFit w_695 w_697 s_25 (hsh.al rfl (by decide)) cl6 rfl (Nat.le_of_ble_eq_true rfl) (Nat.le_of_ble_eq_true rfl) (S_bitsThatFitD hsh k47 (f2.tx hC.tx) hC.rlt (f2.ks hC.ks) hh hS2 (w := 0) (bd := 10) (by decide) (fun v hv => by show v ≤ 9; omega) (by decide) _) (fun r n I3 J R hq => ?_)
              obtain ⟨rfl, rfl, rfl, fR, hF⟩ := hq
              refine r_some rfl ?_
              refine r_iret dX6_lists_137 rfl ?_
              have e8 : lisV σ (I2 (89 + 2 * s0 + 1)) 3 = ((bitsN (fun v => decide (fitN (up1 (qdl σ) 0 v) (qtr σ) (qtv σ (qrl σ)) (qsz σ) (I2 (89 + 2 * s0 + 1)) = 0)) 10 : Nat) : Int) := by unfold lisV; rw [if_neg (by omega), if_neg (by omega), if_neg (by omega), if_pos rfl]
              rw [e0, ← lisV_it (fun j hj => hit2 j (by omega)), e8]
              rw [← nz]
              exact PB.of hC fR ((hC.k13.of47 f1.1).out fun a ha => hF a (not47 ha) (by unfold inS at ha; omega)) ((FrX.rf.in f1.1).t (FrT.x hF))
            · refine r_top (v := nI 4) rfl ?_
              refine r_tabIn (tgt := 138) (off := 65) dX6_lists_73 (by decide) (by decide) (by decide) (by decide) ?_
              refine r_aload_n dX6_lists_138 rfl ?_
              refine r_aload_n dX6_lists_139 rfl ?_
              refine r_callV1N dX6_lists_140 moX6_textsThatFit w_699 w_701 s_26 (hsh.al rfl (by decide)) cl6 rfl (Nat.le_of_ble_eq_true rfl) (Nat.le_of_ble_eq_true rfl) (S_textsThatFit hsh k47 (f2.tx hC.tx) hC.rlt (f2.ks hC.ks) hh hS2 (by rw [f1.1 12 (by unfold inS; omega)]; exact hC.tcI)) (fun r n I3 J R hq => ?_)
              obtain ⟨rfl, rfl, rfl, fR, hF⟩ := hq
              refine r_some rfl ?_
              refine r_iret dX6_lists_143 rfl ?_
              have e8 : lisV σ (I2 (89 + 2 * s0 + 1)) 4 = ((bitsN (fun v => decide (fitN (qdl σ) (qtr σ) (qtv σ v) (qsz σ) (I2 (89 + 2 * s0 + 1)) = 0)) (qtc σ) : Nat) : Int) := by unfold lisV; rw [if_neg (by omega), if_neg (by omega), if_neg (by omega), if_neg (by omega), if_pos rfl]
              rw [e0, ← lisV_it (fun j hj => hit2 j (by omega)), e8]
              rw [← nz]
              exact PB.of hC fR ((hC.k13.of47 f1.1).out fun a ha => hF a (not47 ha) (by unfold inS at ha; omega)) ((FrX.rf.in f1.1).t (FrT.x hF))
          · refine r_bipush (v := (-2)) dX6_lists_58 (by decide) ?_
            refine r_iret dX6_lists_60 rfl ?_
            have e0 : listV σ s0 w = -2 := by unfold listV; rw [if_pos hask, Int.toNat_natCast, if_neg h38, if_neg h55]
            rw [e0]
            exact PB.rf hC
        · rw [decide_eq_true_eq] at h38
          refine r_bipush (v := (-11)) dX6_lists_41 (by decide) ?_
          refine r_iret dX6_lists_43 rfl ?_
          have e0 : listV σ s0 w = -11 := by unfold listV; rw [if_pos hask, Int.toNat_natCast, if_pos h38]
          rw [e0]
          exact PB.rf hC
      · rw [e2, decide_eq_false_iff_not] at h21
        refine r_bipush (v := (-2)) dX6_lists_24 (by decide) ?_
        refine r_iret dX6_lists_26 rfl ?_
        have e0 : listV σ s w = -2 := if_neg (fun h => by
          rcases h.2.2 with h1 | h1
          · first | (rw [h13_] at h1; exact absurd h1 (by decide)) | omega
          · omega)
        rw [e0]
        exact PB.rf hC
