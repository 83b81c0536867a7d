/-! what the class keeps, and what its calls leave of it -/
abbrev CSt : Type := (Nat → Nat) × (Nat → Nat → Nat) × (Nat) × (Nat) × (Bool) × (Nat → Nat) × (Nat → Nat → Nat) × (Nat) × (Nat) × (Nat) × (Nat → TV) × (Nat → Int) × (Nat → Nat) × (Nat → Nat → Int32) × (Nat) × (Nat → Nat)
abbrev qdl (σ : CSt) : Nat → Nat := σ.1
abbrev qtr (σ : CSt) : Nat → Nat → Nat := σ.2.1
abbrev qsz (σ : CSt) : Nat := σ.2.2.1
abbrev qrl (σ : CSt) : Nat := σ.2.2.2.1
abbrev qhas (σ : CSt) : Bool := σ.2.2.2.2.1
abbrev qkd (σ : CSt) : Nat → Nat := σ.2.2.2.2.2.1
abbrev qkt (σ : CSt) : Nat → Nat → Nat := σ.2.2.2.2.2.2.1
abbrev qkz (σ : CSt) : Nat := σ.2.2.2.2.2.2.2.1
abbrev qkr (σ : CSt) : Nat := σ.2.2.2.2.2.2.2.2.1
abbrev qtc (σ : CSt) : Nat := σ.2.2.2.2.2.2.2.2.2.1
abbrev qtv (σ : CSt) : Nat → TV := σ.2.2.2.2.2.2.2.2.2.2.1
abbrev qso (σ : CSt) : Nat → Int := σ.2.2.2.2.2.2.2.2.2.2.2.1
abbrev qzs (σ : CSt) : Nat → Nat := σ.2.2.2.2.2.2.2.2.2.2.2.2.1
abbrev qit (σ : CSt) : Nat → Nat → Int32 := σ.2.2.2.2.2.2.2.2.2.2.2.2.2.1
abbrev qtn (σ : CSt) : Nat := σ.2.2.2.2.2.2.2.2.2.2.2.2.2.2.1
abbrev qtb (σ : CSt) : Nat → Nat := σ.2.2.2.2.2.2.2.2.2.2.2.2.2.2.2
def wrdN (j : Nat) : Nat := [32, 116, 105, 99, 107, 32, 102, 97, 114, 32, 109, 111, 111, 110, 32, 110, 117, 109, 98, 101, 114, 32, 104, 101, 105, 103, 104, 116, 32, 111, 114, 100, 101, 114, 32, 116, 117, 114, 110, 115, 32, 102, 105, 110, 100, 115, 32, 119, 97, 105, 116, 115, 32, 111, 114, 32, 97, 110, 100, 32, 110, 111, 116, 32].getD j 0
def sgnN (j : Nat) : Nat := [40, 41, 59, 43, 45, 42, 60, 61].getD j 0
def STR (I : TI) : Prop := (∀ j, j < 64 → I 10 j = nI (wrdN j)) ∧ ∀ j, j < 8 → I 11 j = nI (sgnN j)
theorem STR.fr {I I2 : TI} (h : STR I) (hF : ∀ a, a < 12 → I2 a = I a) : STR I2 := ⟨fun j hj => by rw [hF _ (by decide)]; exact h.1 j hj, fun j hj => by rw [hF _ (by decide)]; exact h.2 j hj⟩
def CS (n : Nat) (I : TI) (R : TR) (σ : CSt) : Prop := (Sh n R) ∧ (SkyOK I 13 (qdl σ) (qtr σ) (qsz σ) (qrl σ)) ∧ (qrl σ < qtc σ) ∧ (TxOK I (qtc σ) (qtv σ)) ∧ (KS I) ∧ (KAOK I) ∧ (∀ j, j < 13 → I 2 j = nI (mostN j)) ∧ (I 12 6 = nI (qtc σ)) ∧ (I 12 3 = b2i (qhas σ)) ∧ (qhas σ = true → SkyOK I 30 (qkd σ) (qkt σ) (qkz σ) (qkr σ) ∧ qkr σ < qtc σ) ∧ (∀ i, i < 4 → ShtAt I (89 + 2 * i) (qso σ i) (qzs σ i) ∧ ∀ j, j < 40 → I (89 + 2 * i + 1) j = qit σ i j) ∧ (I 64 1 = nI (qtn σ)) ∧ (qtn σ ≤ 160) ∧ (∀ j, j < qtn σ → I 65 j = nI (qtb σ j) ∧ qtb σ j < 256) ∧ (STR I)
section XCS
variable {n : Nat} {I : TI} {R : TR} {σ : CSt}
theorem CS.sh (h : CS n I R σ) : Sh n R := h.1
theorem CS.k13 (h : CS n I R σ) : SkyOK I 13 (qdl σ) (qtr σ) (qsz σ) (qrl σ) := h.2.1
theorem CS.rlt (h : CS n I R σ) : qrl σ < qtc σ := h.2.2.1
theorem CS.tx (h : CS n I R σ) : TxOK I (qtc σ) (qtv σ) := h.2.2.2.1
theorem CS.ks (h : CS n I R σ) : KS I := h.2.2.2.2.1
theorem CS.ka (h : CS n I R σ) : KAOK I := h.2.2.2.2.2.1
theorem CS.mo (h : CS n I R σ) : ∀ j, j < 13 → I 2 j = nI (mostN j) := h.2.2.2.2.2.2.1
theorem CS.tcI (h : CS n I R σ) : I 12 6 = nI (qtc σ) := h.2.2.2.2.2.2.2.1
theorem CS.hasI (h : CS n I R σ) : I 12 3 = b2i (qhas σ) := h.2.2.2.2.2.2.2.2.1
theorem CS.img (h : CS n I R σ) : qhas σ = true → SkyOK I 30 (qkd σ) (qkt σ) (qkz σ) (qkr σ) ∧ qkr σ < qtc σ := h.2.2.2.2.2.2.2.2.2.1
theorem CS.sht (h : CS n I R σ) : ∀ i, i < 4 → ShtAt I (89 + 2 * i) (qso σ i) (qzs σ i) ∧ ∀ j, j < 40 → I (89 + 2 * i + 1) j = qit σ i j := h.2.2.2.2.2.2.2.2.2.2.1
theorem CS.tnI (h : CS n I R σ) : I 64 1 = nI (qtn σ) := h.2.2.2.2.2.2.2.2.2.2.2.1
theorem CS.tnB (h : CS n I R σ) : qtn σ ≤ 160 := h.2.2.2.2.2.2.2.2.2.2.2.2.1
theorem CS.tbI (h : CS n I R σ) : ∀ j, j < qtn σ → I 65 j = nI (qtb σ j) ∧ qtb σ j < 256 := h.2.2.2.2.2.2.2.2.2.2.2.2.2.1
theorem CS.str (h : CS n I R σ) : STR I := h.2.2.2.2.2.2.2.2.2.2.2.2.2.2
end XCS
/-- what a weighing leaves as it was, of both sides -/
def FrB (I I2 : TI) : Prop := ∀ a, a < 118 → ¬ inS 13 a → ¬ inS 47 a → (a < 97 ∨ 101 < a) → I2 a = I a
theorem FrX.b {I I2 : TI} (h : FrX I I2) : FrB I I2 := fun a _ h2 h3 h4 => h a h2 h3 h4
theorem FrB.t {I I1 I2 : TI} (h : FrB I I1) (h2 : FrB I1 I2) : FrB I I2 := fun a h3 h4 h5 h6 => (h2 a h3 h4 h5 h6).trans (h a h3 h4 h5 h6)
theorem CS.fr {n n2 : Nat} {I I2 : TI} {R R2 : TR} {σ : CSt} (h : CS n I R σ) (hs : Sh n2 R2) (hK : SkyOK I2 13 (qdl σ) (qtr σ) (qsz σ) (qrl σ)) (hF : FrB I I2) : CS n2 I2 R2 σ := by
  have hh : ∀ a, a < 12 → I2 a = I a := fun a ha => hF a (by omega) (by unfold inS; omega) (by unfold inS; omega) (by omega)
  have h12 : I2 12 = I 12 := hF 12 (by omega) (by unfold inS; omega) (by unfold inS; omega) (by omega)
  have hm : ∀ a, 64 ≤ a → a < 97 → I2 a = I a := fun a h1 h2 => hF a (by omega) (by unfold inS; omega) (by unfold inS; omega) (by omega)
  exact ⟨hs, hK, h.rlt, h.tx.fr fun a h1 h2 => hm a (by omega) (by omega), ⟨fun p hp => by rw [hh _ (by decide)]; exact h.ks.1 p hp, fun p hp => by rw [hh _ (by decide)]; exact h.ks.2 p hp⟩,
          fun k hk => by rw [hh _ (by decide)]; exact h.ka k hk, fun j hj => by rw [hh _ (by decide)]; exact h.mo j hj, by rw [h12]; exact h.tcI, by rw [h12]; exact h.hasI,
          fun hb => ⟨(h.img hb).1.out fun a ha => hF a (by unfold inS at ha; omega) (by unfold inS at *; omega) (by unfold inS at *; omega) (by unfold inS at ha; omega), (h.img hb).2⟩,
          fun i hi => by
            obtain ⟨⟨s0, s1, s2⟩, hj⟩ := h.sht i hi
            have e1 : I2 (89 + 2 * i) = I (89 + 2 * i) := hm _ (by omega) (by omega)
            have e2 : I2 (89 + 2 * i + 1) = I (89 + 2 * i + 1) := hm _ (by omega) (by omega)
            exact ⟨⟨by rw [e1]; exact s0, by rw [e1]; exact s1, s2⟩, fun j hj2 => by rw [e2]; exact hj j hj2⟩,
          by rw [hm 64 (by decide) (by decide)]; exact h.tnI, h.tnB, fun j hj => by rw [hm 65 (by decide) (by decide)]; exact h.tbI j hj, h.str.fr fun a ha => hh a (by omega)⟩
/-- what a call of the class leaves: the answer, what it keeps, and all of the other side as it was -/
def PB (n : Nat) (I : TI) (J : TJ) (R : TR) (v : Value) (σ : CSt) : TQ := fun r n2 I2 J2 R2 => r = some v ∧ n ≤ n2 ∧ n2 ≤ n + 1 ∧ CS n2 I2 R2 σ ∧ ∀ a, 102 ≤ a → a < 118 → I2 a = I a ∧ J2 a = J a ∧ R2 a = R a
theorem PB.of {n : Nat} {I I2 : TI} {J : TJ} {R R2 : TR} {v : Value} {σ : CSt} (h : CS n I R σ) (hR : FrR R R2) (hK : SkyOK I2 13 (qdl σ) (qtr σ) (qsz σ) (qrl σ)) (hF : FrX I I2) : PB n I J R v σ (some v) n I2 J R2 :=
  ⟨rfl, Nat.le_refl _, Nat.le_succ _, h.fr (h.sh.fr hR) hK hF.b, fun a h1 h2 => ⟨hF a (by unfold inS; omega) (by unfold inS; omega) (by omega), rfl, funext fun k => hR a k (by omega)⟩⟩
theorem PB.rf {n : Nat} {I : TI} {J : TJ} {R : TR} {v : Value} {σ : CSt} (h : CS n I R σ) : PB n I J R v σ (some v) n I J R := PB.of h FrR.rf h.k13 FrX.rf
/-- the night as it is, by its rule -/
def plC (σ : CSt) : NS := plainN (qdl σ) (qtr σ) ((qtv σ) (qrl σ)) (qsz σ) (2 ^ (qsz σ) - 1)
def nightN (σ : CSt) (w : Int) : Int := if asksN (qsz σ) w then ansN (plC σ) w.toNat else -100000
set_option maxRecDepth 20000 in
set_option maxHeartbeats 4000000 in
theorem S_night {g : GP} {d n : Nat} {I : TI} {J : TJ} {R : TR} {σ : CSt} (hC : CS n I R σ) {w : Int} (hw : inZ w) : Wp g (d + 5) mX6_night 0 [.ref 12, .int (zI w)] [] 0 0 n I J R (PB n I J R (.int (zI (nightN σ w))) σ) := by
  have hsh := hC.sh
  have hA := hC.k13.1
  have wf := hC.k13.2.1
  have hz := wf.2.2.1
  have h13 : isSky 13 := Or.inl rfl
  refine r_aload_n dX6_night_0 rfl ?_
  refine r_iload_n dX6_night_1 rfl ?_
  refine r_callV1I dX6_night_2 moX6_asksOfNight w_502 w_504 s_16 (hsh.al rfl (by decide)) cl6 rfl (Nat.le_of_ble_eq_true rfl) (Nat.le_of_ble_eq_true rfl) (S_asksOfNight hsh hA wf hw) ?_
  refine r_ifb_ne (tgt := 11) dX6_night_5 (by decide) (fun h5 => ?_) (fun h5 => ?_)
  · have e0 : nightN σ w = ansN (plC σ) w.toNat := if_pos h5
    rw [e0]
    have hk := of_decide_eq_true h5
    obtain ⟨w0, rfl⟩ := Int.eq_ofNat_of_zero_le (show 0 ≤ w by omega)
    rw [← nz w0]
    have e1 : ((w0 : Int)).toNat = w0 := rfl
    rw [e1]
    have hk0 : w0 < 5 ∨ (10 ≤ w0 ∧ w0 < 30 ∧ w0 % 10 < 7) := by omega
    refine r_aload_n dX6_night_11 rfl ?_
    refine r_getR (b := 97) dX6_night_12 f_X6_56 (hsh.al rfl (by decide)) (Or.inr ⟨_, rfl⟩) (hsh.r 12 7 97 (by decide)) (by decide) ?_
    refine r_aload_n dX6_night_15 rfl ?_
    refine r_getR (b := 13) dX6_night_16 f_X6_10 (hsh.al rfl (by decide)) (Or.inr ⟨_, rfl⟩) (hsh.r 12 0 13 (by decide)) (by decide) ?_
    refine r_aload_n dX6_night_19 rfl ?_
    refine r_getR (b := 13) dX6_night_20 f_X6_10 (hsh.al rfl (by decide)) (Or.inr ⟨_, rfl⟩) (hsh.r 12 0 13 (by decide)) (by decide) ?_
    refine r_callV0I dX6_night_23 moX3_all w_511 w_451 w_452 (hsh.al rfl (by decide)) cl3 rfl (Nat.le_of_ble_eq_true rfl) (Nat.le_of_ble_eq_true rfl) (S_all hsh h13 hA wf) ?_
    refine r_callV2N dX6_night_26 moX5_goPlain w_512 w_513 w_514 (hsh.al rfl (by decide)) cl5 rfl (Nat.le_of_ble_eq_true rfl) (Nat.le_of_ble_eq_true rfl) (S_plain hsh h13 hC.k13 hC.tx hC.rlt hC.ks (p2_lt hz)) (fun r n I2 J R hq => ?_)
    obtain ⟨rfl, rfl, rfl, fR, hB⟩ := hq
    have hsh := hsh.fr fR
    refine r_some rfl ?_
    refine r_pop dX6_night_29 rfl ?_
    refine r_aload_n dX6_night_30 rfl ?_
    refine r_getR (b := 97) dX6_night_31 f_X6_56 (hsh.al rfl (by decide)) (Or.inr ⟨_, rfl⟩) (hsh.r 12 7 97 (by decide)) (by decide) ?_
    refine r_iload_n dX6_night_34 rfl ?_
    refine r_callV1I dX6_night_35 moX5_answer w_562 w_563 w_564 (hsh.al rfl (by decide)) cl5 rfl (Nat.le_of_ble_eq_true rfl) (Nat.le_of_ble_eq_true rfl) (S_answer hsh hB.1 hk0 (plainN_ok wf (hC.tx.le hC.rlt)).2.2.1) ?_
    refine r_iret dX6_night_38 rfl ?_
    exact PB.of hC fR (hC.k13.beg h13 hB) (FrX.rf.nt (Or.inl rfl) hB.2.2.1)
  · have e0 : nightN σ w = -100000 := if_neg (by rw [h5]; decide)
    rw [e0]
    refine r_ldcI dX6_night_8 w_510 ?_
    refine r_iret dX6_night_10 rfl ?_
    exact PB.rf hC
def drawnN (σ : CSt) (seed : Int32) : Int := nWorth (plainN (drwN (qdl σ) seed 4).2 (qtr σ) ((qtv σ) (qrl σ)) (qsz σ) (2 ^ (qsz σ) - 1))
set_option maxRecDepth 20000 in
set_option maxHeartbeats 4000000 in
theorem S_drawn {g : GP} {d n : Nat} {I : TI} {J : TJ} {R : TR} {σ : CSt} (hC : CS n I R σ) (seed : Int32) : Wp g (d + 6) mX6_drawn 0 [.ref 12, .int seed] [] 0 0 n I J R (PB n I J R (.int (zI (drawnN σ seed))) σ) := by
  have hsh := hC.sh
  have hA := hC.k13.1
  have wf := hC.k13.2.1
  have hz := wf.2.2.1
  have h13 : isSky 13 := Or.inl rfl
  refine r_aload_n dX6_drawn_0 rfl ?_
  refine r_iload_n dX6_drawn_1 rfl ?_
  refine r_callV1N dX6_drawn_2 moX6_worthDrawn w_720 w_722 s_27 (hsh.al rfl (by decide)) cl6 rfl (Nat.le_of_ble_eq_true rfl) (Nat.le_of_ble_eq_true rfl) (S_worthDrawn hsh hC.k13 hC.tx hC.rlt hC.ks seed) (fun r n I2 J R hq => ?_)
  obtain ⟨rfl, rfl, rfl, fR, hP⟩ := hq
  refine r_some rfl ?_
  refine r_iret dX6_drawn_5 rfl ?_
  exact PB.of hC fR hP.1 hP.2
def clearN (σ : CSt) : Int := nWorth (plainN (clearD (qdl σ)) (qtr σ) ((qtv σ) (qrl σ)) (qsz σ) (2 ^ (qsz σ) - 1))
def cloudN (σ : CSt) : Int := clearN σ - nWorth (plC σ)
set_option maxRecDepth 20000 in
set_option maxHeartbeats 4000000 in
theorem S_cloud {g : GP} {d n : Nat} {I : TI} {J : TJ} {R : TR} {σ : CSt} (hC : CS n I R σ) : Wp g (d + 6) mX6_cloud 0 [.ref 12] [] 0 0 n I J R (PB n I J R (.int (zI (cloudN σ))) σ) := by
  have hsh := hC.sh
  have hA := hC.k13.1
  have wf := hC.k13.2.1
  have hz := wf.2.2.1
  have h13 : isSky 13 := Or.inl rfl
  refine r_aload_n dX6_cloud_0 rfl ?_
  refine r_callV0N dX6_cloud_1 moX6_worthWithoutCloud w_675 w_677 s_22 (hsh.al rfl (by decide)) cl6 rfl (Nat.le_of_ble_eq_true rfl) (Nat.le_of_ble_eq_true rfl) (S_worthWithoutCloud hsh hC.k13 hC.tx hC.rlt hC.ks) (fun r n I2 J R hq => ?_)
  obtain ⟨rfl, rfl, rfl, fR, hP⟩ := hq
  have hsh := hsh.fr fR
  refine r_some rfl ?_
  have k2 := hP.1
  refine r_aload_n dX6_cloud_4 rfl ?_
  refine r_getR (b := 97) dX6_cloud_5 f_X6_56 (hsh.al rfl (by decide)) (Or.inr ⟨_, rfl⟩) (hsh.r 12 7 97 (by decide)) (by decide) ?_
  refine r_aload_n dX6_cloud_8 rfl ?_
  refine r_getR (b := 13) dX6_cloud_9 f_X6_10 (hsh.al rfl (by decide)) (Or.inr ⟨_, rfl⟩) (hsh.r 12 0 13 (by decide)) (by decide) ?_
  refine r_aload_n dX6_cloud_12 rfl ?_
  refine r_getR (b := 13) dX6_cloud_13 f_X6_10 (hsh.al rfl (by decide)) (Or.inr ⟨_, rfl⟩) (hsh.r 12 0 13 (by decide)) (by decide) ?_
  refine r_callV0I dX6_cloud_16 moX3_all w_511 w_451 w_452 (hsh.al rfl (by decide)) cl3 rfl (Nat.le_of_ble_eq_true rfl) (Nat.le_of_ble_eq_true rfl) (S_all hsh h13 k2.1 wf) ?_
  refine r_callV2N dX6_cloud_19 moX5_goPlain w_512 w_513 w_514 (hsh.al rfl (by decide)) cl5 rfl (Nat.le_of_ble_eq_true rfl) (Nat.le_of_ble_eq_true rfl) (S_plain hsh h13 k2 (hP.2.tx hC.tx) hC.rlt (hP.2.ks hC.ks) (p2_lt hz)) (fun r n I3 J R hq => ?_)
  obtain ⟨rfl, rfl, rfl, fR2, hB⟩ := hq
  refine r_some rfl ?_
  refine r_zisub dX6_cloud_22 rfl rfl ?_
  refine r_iret dX6_cloud_23 rfl ?_
  exact PB.of hC (fR.t fR2) (k2.beg h13 hB) (hP.2.nt (Or.inl rfl) hB.2.2.1)
