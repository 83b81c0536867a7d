/-! best, moon, leave, two -/
theorem r_J {g : GP} {d : Nat} {M : MD} {pc : Nat} {L st : List Value} {bc bs n : Nat} {I : TI} {J J2 : TJ} {R : TR} {Q : TQ} (e : J = J2) (K : Wp g d M pc L st bc bs n I J2 R Q) : Wp g d M pc L st bc bs n I J R Q := by rw [e]; exact K
def bestC (σ : CSt) : Int32 × Int := tryN (qdl σ) (qtr σ) (qtv σ (qrl σ)) (qsz σ) (qsz σ) 0 0 0 (startN (qdl σ)) (-1, -1000000)
def bestV (σ : CSt) (w : Int) : Int32 := if 0 ≤ w ∧ w < 2 then pickW (bestC σ) (1 - w.toNat) else -100000
def moonF (σ : CSt) (p : Nat) : Int := nWorth (plainN (up1 (qdl σ) 0 p) (qtr σ) (qtv σ (qrl σ)) (qsz σ) (2 ^ qsz σ - 1))
def moonC (σ : CSt) : Int32 × Int := chN (moonF σ) 10
def moonV (σ : CSt) (w : Int) : Int32 := if 0 ≤ w ∧ w < 2 then pickW (moonC σ) w.toNat else -100000
def leaveF (σ : CSt) (i : Nat) : Int := nWorth (plainN (qdl σ) (qtr σ) (qtv σ (qrl σ)) (qsz σ) (2 ^ qsz σ - 1 - 2 ^ i))
def leaveN (σ : CSt) : Nat → Int32 × Int
  | 0 => weighN (-1, -1000000) (-1) (nWorth (plC σ))
  | i + 1 => weighN (leaveN σ i) (nI i) (leaveF σ i)
def leaveV (σ : CSt) (w : Int) : Int32 := if 0 ≤ w ∧ w < 2 then pickW (leaveN σ (qsz σ)) w.toNat else -100000
def someF (σ : CSt) (i : Nat) : Int := nWorth (plainN (qdl σ) (qtr σ) (qtv σ (qrl σ)) (qsz σ) i)
def twoF (σ : CSt) (i : Nat) : Int := someF σ i + someF σ (2 ^ qsz σ - 1 - i)
def twoC (σ : CSt) : Int32 × Int := chN (twoF σ) (2 ^ qsz σ)
def twoV (σ : CSt) (w : Int) : Int32 := if 0 ≤ w ∧ w < 2 then pickW (twoC σ) w.toNat else -100000
theorem bit_off : ∀ z, z < 8 → ∀ i, i < z → nI (2 ^ z - 1) &&& (nI (2 ^ i) ^^^ (-1)) = nI (2 ^ z - 1 - 2 ^ i) := by decide +kernel
theorem bit_off2 : ∀ z, z < 8 → ∀ i, i < 2 ^ z → nI (2 ^ z - 1) &&& (nI i ^^^ (-1)) = nI (2 ^ z - 1 - i) := by decide +kernel
theorem p2_pos (z : Nat) : 1 ≤ 2 ^ z := Nat.one_le_two_pow
theorem p2_le {z : Nat} (h : z ≤ 7) : 2 ^ z ≤ 128 := Nat.pow_le_pow_right (by decide) h
set_option maxRecDepth 20000 in
set_option maxHeartbeats 4000000 in
theorem S_best {g : GP} {d n : Nat} {I : TI} {J : TJ} {R : TR} {σ : CSt} (hC : CS n I R σ) {w : Int} (hw : inZ w) : Wp g (d + 12) mX6_best 0 [.ref 12, .int (zI w), .null] [] (0 + 1) (0 + 2) n I J R (PB n I J R (.int (bestV σ w)) σ) := by
  have hsh := hC.sh
  have hA := hC.k13.1
  have wf := hC.k13.2.1
  have hz := wf.2.2.1
  have h13 : isSky 13 := Or.inl rfl
  have h47 : isSky 47 := Or.inr (Or.inr rfl)
  have hn := hsh.1
  have e1 : bw (zI w) 2 = decide (0 ≤ w ∧ w < (2 : Nat)) := bw_z rfl hw (by decide)
  refine r_iload_n dX6_best_0 rfl ?_
  refine r_iconst (v := 2) dX6_best_1 (by decide) ?_
  refine r_callS2I dX6_best_2 moX6_isBelow w_458 w_400 (Nat.le_of_ble_eq_true rfl) (Nat.le_of_ble_eq_true rfl) (S_isBelow _ _) ?_
  refine r_ifb_ne (tgt := 11) dX6_best_5 (by decide) (fun h5 => ?_) (fun h5 => ?_)
  · rw [e1, decide_eq_true_eq] at h5
    obtain ⟨k, rfl⟩ := Int.eq_ofNat_of_zero_le (show 0 ≤ w by omega)
    rw [← nz k]
    have e0 : bestV σ (k : Int) = pickW (bestC σ) (1 - k) := if_pos (by omega)
    rw [e0]
    have hk : k < 2 := by omega
    refine r_new dX6_best_11 cl0 w_596 w_597 w_16 (by decide) (lay_hi hn) ?_
    have hS0 := LsC.start hC
    have hc := hS0.al
    have hsh := hS0.1.sh
    refine r_dup dX6_best_14 rfl ?_
    refine r_callIN0W dX6_best_15 moX0_init rfl rfl (by decide) w_599 (Nat.le_of_ble_eq_true rfl) (Nat.le_of_ble_eq_true rfl) (S_chInit hc) ?_
    refine r_astore_n dX6_best_18 (by decide) rfl ?_
    refine r_aload_n dX6_best_19 rfl ?_
    refine r_getR (b := 97) dX6_best_20 f_X6_56 (hsh.al rfl (by decide)) (Or.inr ⟨_, rfl⟩) (hsh.r 12 7 97 (by decide)) (by decide) ?_
    refine r_aload_n dX6_best_23 rfl ?_
    refine r_getR (b := 13) dX6_best_24 f_X6_10 (hsh.al rfl (by decide)) (Or.inr ⟨_, rfl⟩) (hsh.r 12 0 13 (by decide)) (by decide) ?_
    refine r_callV1N dX6_best_27 moX5_begin w_590 w_517 w_518 (hsh.al rfl (by decide)) cl5 rfl (Nat.le_of_ble_eq_true rfl) (Nat.le_of_ble_eq_true rfl) (S_beg hS0.1.sh h13 hS0.1.k13 hS0.1.tx hS0.1.rlt hS0.1.ks) (fun r n I2 J R hq => ?_)
    obtain ⟨rfl, rfl, rfl, fR, hB⟩ := hq
    have hL := hS0.nt fR (hS0.1.k13.beg h13 hB) (FrX.rf.nt (Or.inl rfl) hB.2.2.1)
    have hsh := hL.1.sh
    have hA2 := hL.1.k13.1
    obtain ⟨en, hx1, hx2⟩ := hS0.1.tx.2 _ hS0.1.rlt
    have hN := hS0.1.k13.nb hS0.1.sh h13 hx1 hS0.1.ks
    have hT : TrA _ _ en (qdl σ) (qtr σ) (qsz σ) (qrl σ) (qtv σ (qrl σ)) (12 + n) (startN (qdl σ)) (-1, -1000000) I2 := ⟨hN.nc fR hB, by rw [← hx2]; show tvN (mkA I2 _) en = tvN (mkA _ _) en; rw [hN.rule hB.2.2.1], hB.1, hL.2.2.1, hL.2.2.2.1⟩
    refine r_aload_n dX6_best_30 rfl ?_
    refine r_aload_n dX6_best_31 rfl ?_
    refine r_getR (b := 97) dX6_best_32 f_X6_56 (hsh.al rfl (by decide)) (Or.inr ⟨_, rfl⟩) (hsh.r 12 7 97 (by decide)) (by decide) ?_
    refine r_iconst (v := 0) dX6_best_35 (by decide) ?_
    refine r_iconst (v := 0) dX6_best_36 (by decide) ?_
    refine r_iconst (v := 0) dX6_best_37 (by decide) ?_
    refine r_aload_n dX6_best_38 rfl ?_
    refine r_getR (b := 13) dX6_best_39 f_X6_10 (hsh.al rfl (by decide)) (Or.inr ⟨_, rfl⟩) (hsh.r 12 0 13 (by decide)) (by decide) ?_
    refine r_callV0I dX6_best_42 moX3_paysOfAll w_611 w_612 w_613 (hsh.al rfl (by decide)) cl3 rfl (Nat.le_of_ble_eq_true rfl) (Nat.le_of_ble_eq_true rfl) (S_paysOfAll hsh h13 hA2 wf) ?_
    rw [← leftN_z]
    have sp := S_tryOrders (g := g) (d := d + (7 - qsz σ)) (J := z1 0 J (12 + n)) hc hL.2.2.2.2.2 wf (hC.tx.le hC.rlt) (qsz σ) 0 0 0 _ _ _ (Nat.zero_add _) (by decide) (startN_ok wf).b (by unfold COK; omega) hT
    rw [show d + (7 - qsz σ) + qsz σ + 4 = d + 11 by omega] at sp
    refine r_callS6N dX6_best_45 moX6_tryOrders w_616 w_617 (Nat.le_of_ble_eq_true rfl) (Nat.le_of_ble_eq_true rfl) sp (fun r n I3 J R hq => ?_)
    obtain ⟨rfl, rfl, rfl, rfl, ⟨y, hT3⟩, hF3⟩ := hq
    have hO := tryN_ok wf (hC.tx.le hC.rlt) (m := qsz σ) (place := 0) (gone := 0) (digits := 0) (q := 0) (x := startN (qdl σ)) (c := (-1, -1000000)) (by omega) (startN_ok wf).b (by unfold COK; omega)
    have hL3 : LsC (n + 1) (12 + n) I _ σ (bestC σ) I3 _ := ⟨hL.1.fr hsh (hL.1.k13.out fun a ha => hF3 a (by unfold inS at ha; omega) (by unfold inS at ha; omega)) (fun a g1 _ _ g4 => hF3 a (by omega) g4), fun a g1 g2 => ⟨(hF3 a (by omega) (by omega)).trans (hL.2.1 a g1 g2).1, (hL.2.1 a g1 g2).2⟩, hT3.2.2.2.1, hT3.2.2.2.2, by have := hO; unfold COK at this; unfold bestC inZ; omega, hL.2.2.2.2.2⟩
    refine r_aload_n dX6_best_48 rfl ?_
    refine r_iload_n dX6_best_49 rfl ?_
    refine r_callV1I dX6_best_50 moX0_answer w_623 w_624 w_625 hc cl0 rfl (Nat.le_of_ble_eq_true rfl) (Nat.le_of_ble_eq_true rfl) (S_chAns hc (a := (k : Int)) (by unfold inZ; omega)) ?_
    refine r_iret dX6_best_53 rfl ?_
    rw [pick_0 hT3.2.2.2.1 hT3.2.2.2.2 hk]
    exact hL3.pb
  · rw [e1, decide_eq_false_iff_not] at h5
    refine r_ldcI dX6_best_8 w_510 ?_
    refine r_iret dX6_best_10 rfl ?_
    have e0 : bestV σ w = -100000 := if_neg (by omega)
    rw [e0]
    exact PB.rf hC
set_option maxRecDepth 20000 in
set_option maxHeartbeats 4000000 in
theorem S_moon {g : GP} {d n : Nat} {I : TI} {J : TJ} {R : TR} {σ : CSt} (hC : CS n I R σ) {w : Int} (hw : inZ w) : Wp g (d + 5) mX6_moon 0 [.ref 12, .int (zI w), .null, .null] [] (0 + 1) (0 + 2) n I J R (PB n I J R (.int (moonV σ w)) σ) := by
  have hsh := hC.sh
  have hA := hC.k13.1
  have wf := hC.k13.2.1
  have hz := wf.2.2.1
  have h13 : isSky 13 := Or.inl rfl
  have h47 : isSky 47 := Or.inr (Or.inr rfl)
  have hn := hsh.1
  have e1 : bw (zI w) 2 = decide (0 ≤ w ∧ w < (2 : Nat)) := bw_z rfl hw (by decide)
  have loop : ∀ (k : Nat), k < 2 → ∀ q i I2 R2, i + q = 10 → LsC (n + 1) (12 + n) I R σ (chN (moonF σ) i) I2 R2 → (∃ p, SkyOK I2 47 (up1 (qdl σ) 0 p) (qtr σ) (qsz σ) (qrl σ)) → Wp g (d + 5) mX6_moon 32 [.ref 12, .int (nI k), .ref (12 + n), .int (nI i)] [] 0 0 (n + 1) I2 (z1 0 J (12 + n)) R2 (PB n I J R (.int (pickW (moonC σ) k)) σ) := by
    intro k hk q
    induction q with
    | zero =>
      intro i I2 R2 hi hL _
      have hc := hL.al
      have hsh := hL.1.sh
      have e : i = 10 := by omega
      subst e
      refine r_iload_n dX6_moon_32 rfl ?_
      refine r_bipush (v := 10) dX6_moon_33 (by decide) ?_
      refine r_nicmp_ge (b := 10)  (tgt := 78) dX6_moon_35 (by decide) rfl rfl (by omega) (by omega) (fun h35 => ?_) (fun h35 => absurd h35 (by omega))
      refine r_aload_n dX6_moon_78 rfl ?_
      refine r_iconst (v := 1) dX6_moon_79 (by decide) ?_
      refine r_iload_n dX6_moon_80 rfl ?_
      refine r_zisub (a := 1) (b := (k : Int)) dX6_moon_81 rfl (nz _) ?_
      refine r_callV1I dX6_moon_82 moX0_answer w_623 w_624 w_625 hc cl0 rfl (Nat.le_of_ble_eq_true rfl) (Nat.le_of_ble_eq_true rfl) (S_chAns hc (a := 1 - (k : Int)) (by unfold inZ; omega)) ?_
      refine r_iret dX6_moon_85 rfl ?_
      rw [pick_1 hL.2.2.1 hL.2.2.2.1 hk]
      exact hL.pb
    | succ q ih =>
      intro i I2 R2 hi hL hp
      obtain ⟨p, hp⟩ := hp
      have hc := hL.al
      have hc2 := hL.2.2.2.2.2
      have hsh := hL.1.sh
      have k2 := hp.upD (w := 0) (v := i) (by decide) (by show i ≤ 9; omega)
      rw [up1_up1] at k2
      have hL2 : LsC (n + 1) (12 + n) I R σ (chN (moonF σ) i) (chD I2 47 0 (nI i) (qsz σ)) R2 := hL.nt FrR.rf (hL.1.k13.of47 chD_in) (FrX.rf.in chD_in)
      have hok := plainN_ok k2.2.1 (hC.tx.le hC.rlt) (some := 2 ^ qsz σ - 1)
      refine r_iload_n dX6_moon_32 rfl ?_
      refine r_bipush (v := 10) dX6_moon_33 (by decide) ?_
      refine r_nicmp_ge (b := 10)  (tgt := 78) dX6_moon_35 (by decide) rfl rfl (by omega) (by omega) (fun h35 => absurd h35 (by omega)) (fun h35 => ?_)
      refine r_aload_n dX6_moon_38 rfl ?_
      refine r_getR (b := 47) dX6_moon_39 f_X6_19 (hsh.al rfl (by decide)) (Or.inr ⟨_, rfl⟩) (hsh.r 12 2 47 (by decide)) (by decide) ?_
      refine r_iconst (v := 0) dX6_moon_42 (by decide) ?_
      refine r_iconst (v := 0) dX6_moon_43 (by decide) ?_
      refine r_iload_n dX6_moon_44 rfl ?_
      refine r_callV3I dX6_moon_45 moX3_change w_446 w_447 w_448 (hsh.al rfl (by decide)) cl3 rfl (Nat.le_of_ble_eq_true rfl) (Nat.le_of_ble_eq_true rfl) (S_changeD hsh h47 hp.1 hp.2.1 (w := 0) (by decide) 0 _) ?_
      refine r_pop dX6_moon_48 rfl ?_
      refine r_aload_n dX6_moon_49 rfl ?_
      refine r_iload_n dX6_moon_50 rfl ?_
      refine r_aload_n dX6_moon_51 rfl ?_
      refine r_getR (b := 97) dX6_moon_52 f_X6_56 (hsh.al rfl (by decide)) (Or.inr ⟨_, rfl⟩) (hsh.r 12 7 97 (by decide)) (by decide) ?_
      refine r_aload_n dX6_moon_55 rfl ?_
      refine r_getR (b := 47) dX6_moon_56 f_X6_19 (hsh.al rfl (by decide)) (Or.inr ⟨_, rfl⟩) (hsh.r 12 2 47 (by decide)) (by decide) ?_
      refine r_aload_n dX6_moon_59 rfl ?_
      refine r_getR (b := 47) dX6_moon_60 f_X6_19 (hsh.al rfl (by decide)) (Or.inr ⟨_, rfl⟩) (hsh.r 12 2 47 (by decide)) (by decide) ?_
      refine r_callV0I dX6_moon_63 moX3_all w_511 w_451 w_452 (hsh.al rfl (by decide)) cl3 rfl (Nat.le_of_ble_eq_true rfl) (Nat.le_of_ble_eq_true rfl) (S_all hsh h47 k2.1 k2.2.1) ?_
      refine r_callV2N dX6_moon_66 moX5_goPlain w_512 w_513 w_514 (hsh.al rfl (by decide)) cl5 rfl (Nat.le_of_ble_eq_true rfl) (Nat.le_of_ble_eq_true rfl) (S_plain hsh h47 k2 hL2.1.tx hL2.1.rlt hL2.1.ks (p2_lt hz)) (fun r n I3 J R hq => ?_)
      obtain ⟨rfl, rfl, rfl, fR, hB⟩ := hq
      have hL3 := hL2.nt fR (hL2.1.k13.out hB.2.2.1.in47) (FrX.rf.nt (Or.inr rfl) hB.2.2.1)
      have k3 := k2.beg h47 hB
      refine r_some rfl ?_
      refine r_callV2W dX6_moon_69 moX0_weigh w_619 w_620 w_621 hc cl0 rfl (Nat.le_of_ble_eq_true rfl) (Nat.le_of_ble_eq_true rfl) (S_weigh hc hL3.2.2.2.1 hL3.2.2.2.2.1 (hok.inW (by decide)) (nI i)) ?_
      refine r_iincE (b := (i + 1)) dX6_moon_72 rfl rfl (nI_succ _).symm rfl ?_
      refine r_goto (tgt := 32) dX6_moon_75 (by decide) ?_
      exact ih (i + 1) _ _ (by omega) (hL3.wg (nI i) (hok.inW (by decide))) ⟨i, k3.out fun a ha => wg_out hc2 _ _ a (by unfold inS at ha; omega)⟩
  refine r_iload_n dX6_moon_0 rfl ?_
  refine r_iconst (v := 2) dX6_moon_1 (by decide) ?_
  refine r_callS2I dX6_moon_2 moX6_isBelow w_458 w_400 (Nat.le_of_ble_eq_true rfl) (Nat.le_of_ble_eq_true rfl) (S_isBelow _ _) ?_
  refine r_ifb_ne (tgt := 11) dX6_moon_5 (by decide) (fun h5 => ?_) (fun h5 => ?_)
  · rw [e1, decide_eq_true_eq] at h5
    obtain ⟨k, rfl⟩ := Int.eq_ofNat_of_zero_le (show 0 ≤ w by omega)
    rw [← nz k]
    have e0 : moonV σ (k : Int) = pickW (moonC σ) k := if_pos (by omega)
    rw [e0]
    have hk : k < 2 := by omega
    refine r_new dX6_moon_11 cl0 w_596 w_597 w_16 (by decide) (lay_hi hn) ?_
    have hS0 := LsC.start hC
    have hc := hS0.al
    have hsh := hS0.1.sh
    refine r_dup dX6_moon_14 rfl ?_
    refine r_callIN0W dX6_moon_15 moX0_init rfl rfl (by decide) w_599 (Nat.le_of_ble_eq_true rfl) (Nat.le_of_ble_eq_true rfl) (S_chInit hc) ?_
    refine r_astore_n dX6_moon_18 (by decide) rfl ?_
    refine r_aload_n dX6_moon_19 rfl ?_
    refine r_getR (b := 47) dX6_moon_20 f_X6_19 (hsh.al rfl (by decide)) (Or.inr ⟨_, rfl⟩) (hsh.r 12 2 47 (by decide)) (by decide) ?_
    refine r_aload_n dX6_moon_23 rfl ?_
    refine r_getR (b := 13) dX6_moon_24 f_X6_10 (hsh.al rfl (by decide)) (Or.inr ⟨_, rfl⟩) (hsh.r 12 0 13 (by decide)) (by decide) ?_
    have hsh := hS0.1.sh
    refine r_callV1N dX6_moon_27 moX3_takeAfter w_644 w_645 w_646 (hsh.al rfl (by decide)) cl3 rfl (Nat.le_of_ble_eq_true rfl) (Nat.le_of_ble_eq_true rfl) (S_takeAfter (s := 47) (o := 13) hsh h47 h13 (by decide)) (fun r n I2 J R hq => ?_)
    obtain ⟨rfl, rfl, rfl, rfl, f1⟩ := hq
    have hL := hS0.nt FrR.rf (hS0.1.k13.of47 f1.1) (FrX.rf.tk f1)
    refine r_iconst (v := 0) dX6_moon_30 (by decide) ?_
    refine r_istore_n dX6_moon_31 (by decide) rfl ?_
    exact loop k hk 10 0 _ _ rfl hL ⟨qdl σ 0, by rw [up1_self]; exact hS0.1.k13.take f1⟩
  · rw [e1, decide_eq_false_iff_not] at h5
    refine r_ldcI dX6_moon_8 w_510 ?_
    refine r_iret dX6_moon_10 rfl ?_
    have e0 : moonV σ w = -100000 := if_neg (by omega)
    rw [e0]
    exact PB.rf hC
set_option maxRecDepth 20000 in
set_option maxHeartbeats 4000000 in
theorem S_leave {g : GP} {d n : Nat} {I : TI} {J : TJ} {R : TR} {σ : CSt} (hC : CS n I R σ) {w : Int} (hw : inZ w) : Wp g (d + 5) mX6_leave 0 [.ref 12, .int (zI w), .null, .null] [] (0 + 1) (0 + 2) n I J R (PB n I J R (.int (leaveV σ w)) σ) := by
  have hsh := hC.sh
  have hA := hC.k13.1
  have wf := hC.k13.2.1
  have hz := wf.2.2.1
  have h13 : isSky 13 := Or.inl rfl
  have h47 : isSky 47 := Or.inr (Or.inr rfl)
  have hn := hsh.1
  have e1 : bw (zI w) 2 = decide (0 ≤ w ∧ w < (2 : Nat)) := bw_z rfl hw (by decide)
  have loop : ∀ (k : Nat), k < 2 → ∀ q i I2 R2, i + q = qsz σ → LsC (n + 1) (12 + n) I R σ (leaveN σ i) I2 R2 → Wp g (d + 5) mX6_leave 44 [.ref 12, .int (nI k), .ref (12 + n), .int (nI i)] [] 0 0 (n + 1) I2 (z1 0 J (12 + n)) R2 (PB n I J R (.int (pickW (leaveN σ (qsz σ)) k)) σ) := by
    intro k hk q
    induction q with
    | zero =>
      intro i I2 R2 hi hL
      have hc := hL.al
      have hsh := hL.1.sh
      have hA2 := hL.1.k13.1
      have e : i = qsz σ := by omega
      subst e
      refine r_iload_n dX6_leave_44 rfl ?_
      refine r_aload_n dX6_leave_45 rfl ?_
      refine r_getR (b := 13) dX6_leave_46 f_X6_10 (hsh.al rfl (by decide)) (Or.inr ⟨_, rfl⟩) (hsh.r 12 0 13 (by decide)) (by decide) ?_
      refine r_getIE dX6_leave_49 f_X6_95 (hsh.al rfl (by decide)) (Or.inl rfl) hA2.2.2.1 ?_
      refine r_nicmp_ge  (tgt := 90) dX6_leave_52 (by decide) rfl rfl (by omega) (by omega) (fun h52 => ?_) (fun h52 => absurd h52 (by omega))
      refine r_aload_n dX6_leave_90 rfl ?_
      refine r_iconst (v := 1) dX6_leave_91 (by decide) ?_
      refine r_iload_n dX6_leave_92 rfl ?_
      refine r_zisub (a := 1) (b := (k : Int)) dX6_leave_93 rfl (nz _) ?_
      refine r_callV1I dX6_leave_94 moX0_answer w_623 w_624 w_625 hc cl0 rfl (Nat.le_of_ble_eq_true rfl) (Nat.le_of_ble_eq_true rfl) (S_chAns hc (a := 1 - (k : Int)) (by unfold inZ; omega)) ?_
      refine r_iret dX6_leave_97 rfl ?_
      rw [pick_1 hL.2.2.1 hL.2.2.2.1 hk]
      exact hL.pb
    | succ q ih =>
      intro i I2 R2 hi hL
      have hc := hL.al
      have hc2 := hL.2.2.2.2.2
      have hsh := hL.1.sh
      have hA2 := hL.1.k13.1
      have hok := plainN_ok wf (hC.tx.le hC.rlt) (some := 2 ^ qsz σ - 1 - 2 ^ i)
      have hp2 := p2_lt hz
      refine r_iload_n dX6_leave_44 rfl ?_
      refine r_aload_n dX6_leave_45 rfl ?_
      refine r_getR (b := 13) dX6_leave_46 f_X6_10 (hsh.al rfl (by decide)) (Or.inr ⟨_, rfl⟩) (hsh.r 12 0 13 (by decide)) (by decide) ?_
      refine r_getIE dX6_leave_49 f_X6_95 (hsh.al rfl (by decide)) (Or.inl rfl) hA2.2.2.1 ?_
      refine r_nicmp_ge  (tgt := 90) dX6_leave_52 (by decide) rfl rfl (by omega) (by omega) (fun h52 => absurd h52 (by omega)) (fun h52 => ?_)
      refine r_aload_n dX6_leave_55 rfl ?_
      refine r_iload_n dX6_leave_56 rfl ?_
      refine r_aload_n dX6_leave_57 rfl ?_
      refine r_getR (b := 97) dX6_leave_58 f_X6_56 (hsh.al rfl (by decide)) (Or.inr ⟨_, rfl⟩) (hsh.r 12 7 97 (by decide)) (by decide) ?_
      refine r_aload_n dX6_leave_61 rfl ?_
      refine r_getR (b := 13) dX6_leave_62 f_X6_10 (hsh.al rfl (by decide)) (Or.inr ⟨_, rfl⟩) (hsh.r 12 0 13 (by decide)) (by decide) ?_
      refine r_aload_n dX6_leave_65 rfl ?_
      refine r_getR (b := 13) dX6_leave_66 f_X6_10 (hsh.al rfl (by decide)) (Or.inr ⟨_, rfl⟩) (hsh.r 12 0 13 (by decide)) (by decide) ?_
      refine r_callV0I dX6_leave_69 moX3_all w_511 w_451 w_452 (hsh.al rfl (by decide)) cl3 rfl (Nat.le_of_ble_eq_true rfl) (Nat.le_of_ble_eq_true rfl) (S_all hsh h13 hA2 wf) ?_
      refine r_iconst (v := 1) dX6_leave_72 (by decide) ?_
      refine r_iload_n dX6_leave_73 rfl ?_
      refine r_ishl dX6_leave_74 ?_
      refine r_top (v := nI (2 ^ i)) (bit_sh i (by omega)) ?_
      refine r_iconst (v := (-1)) dX6_leave_75 (by decide) ?_
      refine r_ixor dX6_leave_76 ?_
      refine r_iand dX6_leave_77 ?_
      refine r_top (v := nI (2 ^ qsz σ - 1 - 2 ^ i)) (bit_off _ (by omega) _ (by omega)) ?_
      refine r_callV2N dX6_leave_78 moX5_goPlain w_512 w_513 w_514 (hsh.al rfl (by decide)) cl5 rfl (Nat.le_of_ble_eq_true rfl) (Nat.le_of_ble_eq_true rfl) (S_plain hsh h13 hL.1.k13 hL.1.tx hL.1.rlt hL.1.ks (Nat.lt_of_le_of_lt (Nat.sub_le _ _) hp2)) (fun r n I3 J R hq => ?_)
      obtain ⟨rfl, rfl, rfl, fR, hB⟩ := hq
      have hL3 := hL.nt fR (hL.1.k13.beg h13 hB) (FrX.rf.nt (Or.inl rfl) hB.2.2.1)
      refine r_some rfl ?_
      refine r_callV2W dX6_leave_81 moX0_weigh w_619 w_620 w_621 hc cl0 rfl (Nat.le_of_ble_eq_true rfl) (Nat.le_of_ble_eq_true rfl) (S_weigh hc hL3.2.2.2.1 hL3.2.2.2.2.1 (hok.inW (by decide)) (nI i)) ?_
      refine r_iincE (b := (i + 1)) dX6_leave_84 rfl rfl (nI_succ _).symm rfl ?_
      refine r_goto (tgt := 44) dX6_leave_87 (by decide) ?_
      exact ih (i + 1) _ _ (by omega) (hL3.wg (nI i) (hok.inW (by decide)))
  refine r_iload_n dX6_leave_0 rfl ?_
  refine r_iconst (v := 2) dX6_leave_1 (by decide) ?_
  refine r_callS2I dX6_leave_2 moX6_isBelow w_458 w_400 (Nat.le_of_ble_eq_true rfl) (Nat.le_of_ble_eq_true rfl) (S_isBelow _ _) ?_
  refine r_ifb_ne (tgt := 11) dX6_leave_5 (by decide) (fun h5 => ?_) (fun h5 => ?_)
  · rw [e1, decide_eq_true_eq] at h5
    obtain ⟨k, rfl⟩ := Int.eq_ofNat_of_zero_le (show 0 ≤ w by omega)
    rw [← nz k]
    have e0 : leaveV σ (k : Int) = pickW (leaveN σ (qsz σ)) k := if_pos (by omega)
    rw [e0]
    have hk : k < 2 := by omega
    refine r_new dX6_leave_11 cl0 w_596 w_597 w_16 (by decide) (lay_hi hn) ?_
    have hS0 := LsC.start hC
    have hc := hS0.al
    have hsh := hS0.1.sh
    refine r_dup dX6_leave_14 rfl ?_
    refine r_callIN0W dX6_leave_15 moX0_init rfl rfl (by decide) w_599 (Nat.le_of_ble_eq_true rfl) (Nat.le_of_ble_eq_true rfl) (S_chInit hc) ?_
    refine r_astore_n dX6_leave_18 (by decide) rfl ?_
    refine r_aload_n dX6_leave_19 rfl ?_
    refine r_iconst (v := (-1)) dX6_leave_20 (by decide) ?_
    refine r_aload_n dX6_leave_21 rfl ?_
    refine r_getR (b := 97) dX6_leave_22 f_X6_56 (hsh.al rfl (by decide)) (Or.inr ⟨_, rfl⟩) (hsh.r 12 7 97 (by decide)) (by decide) ?_
    refine r_aload_n dX6_leave_25 rfl ?_
    refine r_getR (b := 13) dX6_leave_26 f_X6_10 (hsh.al rfl (by decide)) (Or.inr ⟨_, rfl⟩) (hsh.r 12 0 13 (by decide)) (by decide) ?_
    refine r_aload_n dX6_leave_29 rfl ?_
    refine r_getR (b := 13) dX6_leave_30 f_X6_10 (hsh.al rfl (by decide)) (Or.inr ⟨_, rfl⟩) (hsh.r 12 0 13 (by decide)) (by decide) ?_
    have hsh := hS0.1.sh
    have hok := plainN_ok wf (hC.tx.le hC.rlt) (some := 2 ^ qsz σ - 1)
    refine r_callV0I dX6_leave_33 moX3_all w_511 w_451 w_452 (hsh.al rfl (by decide)) cl3 rfl (Nat.le_of_ble_eq_true rfl) (Nat.le_of_ble_eq_true rfl) (S_all hsh h13 hS0.1.k13.1 wf) ?_
    refine r_callV2N dX6_leave_36 moX5_goPlain w_512 w_513 w_514 (hsh.al rfl (by decide)) cl5 rfl (Nat.le_of_ble_eq_true rfl) (Nat.le_of_ble_eq_true rfl) (S_plain hsh h13 hS0.1.k13 hS0.1.tx hS0.1.rlt hS0.1.ks (p2_lt hz)) (fun r n I3 J R hq => ?_)
    obtain ⟨rfl, rfl, rfl, fR, hB⟩ := hq
    have hL3 := hS0.nt fR (hS0.1.k13.beg h13 hB) (FrX.rf.nt (Or.inl rfl) hB.2.2.1)
    refine r_some rfl ?_
    refine r_callV2W dX6_leave_39 moX0_weigh w_619 w_620 w_621 hc cl0 rfl (Nat.le_of_ble_eq_true rfl) (Nat.le_of_ble_eq_true rfl) (S_weigh hc hL3.2.2.2.1 hL3.2.2.2.2.1 (hok.inW (by decide)) (-1)) ?_
    refine r_iconst (v := 0) dX6_leave_42 (by decide) ?_
    refine r_istore_n dX6_leave_43 (by decide) rfl ?_
    exact loop k hk (qsz σ) 0 _ _ (Nat.zero_add _) (hL3.wg (-1) (hok.inW (by decide)))
  · rw [e1, decide_eq_false_iff_not] at h5
    refine r_ldcI dX6_leave_8 w_510 ?_
    refine r_iret dX6_leave_10 rfl ?_
    have e0 : leaveV σ w = -100000 := if_neg (by omega)
    rw [e0]
    exact PB.rf hC
set_option maxRecDepth 20000 in
set_option maxHeartbeats 4000000 in
theorem S_two {g : GP} {d n : Nat} {I : TI} {J : TJ} {R : TR} {σ : CSt} (hC : CS n I R σ) {w : Int} (hw : inZ w) : Wp g (d + 5) mX6_two 0 [.ref 12, .int (zI w), .null, .null, .null] [] (0 + 1) (0 + 2) n I J R (PB n I J R (.int (twoV σ w)) σ) := by
  have hsh := hC.sh
  have hA := hC.k13.1
  have wf := hC.k13.2.1
  have hz := wf.2.2.1
  have h13 : isSky 13 := Or.inl rfl
  have h47 : isSky 47 := Or.inr (Or.inr rfl)
  have hn := hsh.1
  have e1 : bw (zI w) 2 = decide (0 ≤ w ∧ w < (2 : Nat)) := bw_z rfl hw (by decide)
  have hp1 := p2_pos (qsz σ)
  have hp2 := p2_le hz
  have loop : ∀ (k : Nat), k < 2 → ∀ q i I2 R2, i + q = 2 ^ qsz σ → LsC (n + 1) (12 + n) I R σ (chN (twoF σ) i) I2 R2 → Wp g (d + 5) mX6_two 30 [.ref 12, .int (nI k), .ref (12 + n), .int (nI (2 ^ qsz σ - 1)), .int (nI i)] [] 0 0 (n + 1) I2 (z1 0 J (12 + n)) R2 (PB n I J R (.int (pickW (twoC σ) k)) σ) := by
    intro k hk q
    induction q with
    | zero =>
      intro i I2 R2 hi hL
      have hc := hL.al
      have hsh := hL.1.sh
      have e : i = 2 ^ qsz σ := by omega
      subst e
      refine r_iload dX6_two_30 rfl ?_
      refine r_iload_n dX6_two_32 rfl ?_
      refine r_nicmp_gt  (tgt := 79) dX6_two_33 (by decide) rfl rfl (by omega) (by omega) (fun h33 => ?_) (fun h33 => absurd h33 (by omega))
      refine r_aload_n dX6_two_79 rfl ?_
      refine r_iconst (v := 1) dX6_two_80 (by decide) ?_
      refine r_iload_n dX6_two_81 rfl ?_
      refine r_zisub (a := 1) (b := (k : Int)) dX6_two_82 rfl (nz _) ?_
      refine r_callV1I dX6_two_83 moX0_answer w_623 w_624 w_625 hc cl0 rfl (Nat.le_of_ble_eq_true rfl) (Nat.le_of_ble_eq_true rfl) (S_chAns hc (a := 1 - (k : Int)) (by unfold inZ; omega)) ?_
      refine r_iret dX6_two_86 rfl ?_
      rw [pick_1 hL.2.2.1 hL.2.2.2.1 hk]
      exact hL.pb
    | succ q ih =>
      intro i I2 R2 hi hL
      have hc := hL.al
      have hc2 := hL.2.2.2.2.2
      have hsh := hL.1.sh
      have hok1 := plainN_ok wf (hC.tx.le hC.rlt) (some := i)
      have hok2 := plainN_ok wf (hC.tx.le hC.rlt) (some := 2 ^ qsz σ - 1 - i)
      have hin : inZ (twoF σ i) := by
        have a1 := hok1.2.2.2.2
        have a2 := hok2.2.2.2.2
        unfold twoF someF inZ
        omega
      refine r_iload dX6_two_30 rfl ?_
      refine r_iload_n dX6_two_32 rfl ?_
      refine r_nicmp_gt  (tgt := 79) dX6_two_33 (by decide) rfl rfl (by omega) (by omega) (fun h33 => absurd h33 (by omega)) (fun h33 => ?_)
      refine r_aload_n dX6_two_36 rfl ?_
      refine r_iload dX6_two_37 rfl ?_
      refine r_aload_n dX6_two_39 rfl ?_
      refine r_getR (b := 97) dX6_two_40 f_X6_56 (hsh.al rfl (by decide)) (Or.inr ⟨_, rfl⟩) (hsh.r 12 7 97 (by decide)) (by decide) ?_
      refine r_aload_n dX6_two_43 rfl ?_
      refine r_getR (b := 13) dX6_two_44 f_X6_10 (hsh.al rfl (by decide)) (Or.inr ⟨_, rfl⟩) (hsh.r 12 0 13 (by decide)) (by decide) ?_
      refine r_iload dX6_two_47 rfl ?_
      refine r_callV2N dX6_two_49 moX5_goPlain w_512 w_513 w_514 (hsh.al rfl (by decide)) cl5 rfl (Nat.le_of_ble_eq_true rfl) (Nat.le_of_ble_eq_true rfl) (S_plain hsh h13 hL.1.k13 hL.1.tx hL.1.rlt hL.1.ks (by omega)) (fun r n I3 J R hq => ?_)
      obtain ⟨rfl, rfl, rfl, fR, hB⟩ := hq
      have hL3 := hL.nt fR (hL.1.k13.beg h13 hB) (FrX.rf.nt (Or.inl rfl) hB.2.2.1)
      have hsh := hL3.1.sh
      refine r_some rfl ?_
      refine r_aload_n dX6_two_52 rfl ?_
      refine r_getR (b := 97) dX6_two_53 f_X6_56 (hsh.al rfl (by decide)) (Or.inr ⟨_, rfl⟩) (hsh.r 12 7 97 (by decide)) (by decide) ?_
      refine r_aload_n dX6_two_56 rfl ?_
      refine r_getR (b := 13) dX6_two_57 f_X6_10 (hsh.al rfl (by decide)) (Or.inr ⟨_, rfl⟩) (hsh.r 12 0 13 (by decide)) (by decide) ?_
      refine r_iload_n dX6_two_60 rfl ?_
      refine r_iload dX6_two_61 rfl ?_
      refine r_iconst (v := (-1)) dX6_two_63 (by decide) ?_
      refine r_ixor dX6_two_64 ?_
      refine r_iand dX6_two_65 ?_
      refine r_top (v := nI (2 ^ qsz σ - 1 - i)) (bit_off2 _ (by omega) _ (by omega)) ?_
      refine r_callV2N dX6_two_66 moX5_goPlain w_512 w_513 w_514 (hsh.al rfl (by decide)) cl5 rfl (Nat.le_of_ble_eq_true rfl) (Nat.le_of_ble_eq_true rfl) (S_plain hsh h13 hL3.1.k13 hL3.1.tx hL3.1.rlt hL3.1.ks (by omega)) (fun r n I4 J R hq => ?_)
      obtain ⟨rfl, rfl, rfl, fR, hB⟩ := hq
      have hL4 := hL3.nt fR (hL3.1.k13.beg h13 hB) (FrX.rf.nt (Or.inl rfl) hB.2.2.1)
      refine r_some rfl ?_
      refine r_ziadd dX6_two_69 rfl rfl ?_
      refine r_callV2W dX6_two_70 moX0_weigh w_619 w_620 w_621 hc cl0 rfl (Nat.le_of_ble_eq_true rfl) (Nat.le_of_ble_eq_true rfl) (S_weigh hc hL4.2.2.2.1 hL4.2.2.2.2.1 hin (nI i)) ?_
      refine r_iincE (b := (i + 1)) dX6_two_73 rfl rfl (nI_succ _).symm rfl ?_
      refine r_goto (tgt := 30) dX6_two_76 (by decide) ?_
      exact ih (i + 1) _ _ (by omega) (hL4.wg (nI i) hin)
  refine r_iload_n dX6_two_0 rfl ?_
  refine r_iconst (v := 2) dX6_two_1 (by decide) ?_
  refine r_callS2I dX6_two_2 moX6_isBelow w_458 w_400 (Nat.le_of_ble_eq_true rfl) (Nat.le_of_ble_eq_true rfl) (S_isBelow _ _) ?_
  refine r_ifb_ne (tgt := 11) dX6_two_5 (by decide) (fun h5 => ?_) (fun h5 => ?_)
  · rw [e1, decide_eq_true_eq] at h5
    obtain ⟨k, rfl⟩ := Int.eq_ofNat_of_zero_le (show 0 ≤ w by omega)
    rw [← nz k]
    have e0 : twoV σ (k : Int) = pickW (twoC σ) k := if_pos (by omega)
    rw [e0]
    have hk : k < 2 := by omega
    refine r_new dX6_two_11 cl0 w_596 w_597 w_16 (by decide) (lay_hi hn) ?_
    have hS0 := LsC.start hC
    have hc := hS0.al
    have hsh := hS0.1.sh
    refine r_dup dX6_two_14 rfl ?_
    refine r_callIN0W dX6_two_15 moX0_init rfl rfl (by decide) w_599 (Nat.le_of_ble_eq_true rfl) (Nat.le_of_ble_eq_true rfl) (S_chInit hc) ?_
    refine r_astore_n dX6_two_18 (by decide) rfl ?_
    refine r_aload_n dX6_two_19 rfl ?_
    refine r_getR (b := 13) dX6_two_20 f_X6_10 (hsh.al rfl (by decide)) (Or.inr ⟨_, rfl⟩) (hsh.r 12 0 13 (by decide)) (by decide) ?_
    have hsh := hS0.1.sh
    refine r_callV0I dX6_two_23 moX3_all w_511 w_451 w_452 (hsh.al rfl (by decide)) cl3 rfl (Nat.le_of_ble_eq_true rfl) (Nat.le_of_ble_eq_true rfl) (S_all hS0.1.sh h13 hS0.1.k13.1 wf) ?_
    refine r_istore_n dX6_two_26 (by decide) rfl ?_
    refine r_iconst (v := 0) dX6_two_27 (by decide) ?_
    refine r_istore dX6_two_28 (by decide) rfl ?_
    exact loop k hk _ 0 _ _ (Nat.zero_add _) hS0
  · rw [e1, decide_eq_false_iff_not] at h5
    refine r_ldcI dX6_two_8 w_510 ?_
    refine r_iret dX6_two_10 rfl ?_
    have e0 : twoV σ w = -100000 := if_neg (by omega)
    rw [e0]
    exact PB.rf hC
