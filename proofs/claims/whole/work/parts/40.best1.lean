/-! what would be best -/
def weighN (w : Int32 × Int) (one : Int32) (x : Int) : Int32 × Int := if w.2 < x then (one, x) else w
def chN (f : Nat → Int) : Nat → Int32 × Int
  | 0 => (-1, -1000000)
  | i + 1 => weighN (chN f i) (nI i) (f i)
/-- as a choice is made: what the class keeps, the other side as it was, the choice -/
def LsC (n c : Nat) (I : TI) (R : TR) (σ : CSt) (w : Int32 × Int) (I2 : TI) (R2 : TR) : Prop := CS n I2 R2 σ ∧ (∀ a, 102 ≤ a → a < 118 → I2 a = I a ∧ R2 a = R a) ∧ I2 c 0 = w.1 ∧ I2 c 1 = zI w.2 ∧ inZ w.2 ∧ 118 ≤ c
section XLS
variable {n c : Nat} {I I2 I3 : TI} {R R2 R3 : TR} {J : TJ} {σ : CSt} {w : Int32 × Int} {v : Value}
theorem LsC.start (h : CS n I R σ) : LsC (n + 1) (12 + n) I R σ (-1, -1000000) (up2 (up2 (z1 0 I (12 + n)) (12 + n) 0 (-1)) (12 + n) 1 (-1000000)) (z1 0 R (12 + n)) := by
  have hn := h.sh.1
  have e : ∀ a, a < 118 → up2 (up2 (z1 0 I (12 + n)) (12 + n) 0 (-1)) (12 + n) 1 (-1000000) a = I a := fun a ha => by rw [up2_a _ _ _ (by omega), up2_a _ _ _ (by omega), z1_ne _ _ (by omega)]
  refine ⟨h.fr h.sh.n1 (h.k13.out fun a ha => e a (by unfold inS at ha; omega)) (fun a h1 _ _ _ => e a h1), fun a h1 h2 => ⟨e a h2, z1_ne _ _ (by omega)⟩, ?_, up2_at _ _ _ _, by unfold inZ; omega, by omega⟩
  rw [up2_k _ _ (by decide), up2_at]
theorem LsC.nt (h : LsC n c I R σ w I2 R2) (hR : FrR R2 R3) (hK : SkyOK I3 13 (qdl σ) (qtr σ) (qsz σ) (qrl σ)) (hF : FrX I2 I3) : LsC n c I R σ w I3 R3 := by
  obtain ⟨h1, h2, h3, h4, h5, h6⟩ := h
  have e : I3 c = I2 c := hF c (by unfold inS; omega) (by unfold inS; omega) (by omega)
  exact ⟨h1.fr (h1.sh.fr hR) hK hF.b, fun a g1 g2 => ⟨(hF a (by unfold inS; omega) (by unfold inS; omega) (by omega)).trans (h2 a g1 g2).1, (funext fun k => hR a k (by omega)).trans (h2 a g1 g2).2⟩, by rw [e]; exact h3, by rw [e]; exact h4, h5, h6⟩
theorem LsC.wg (h : LsC n c I R σ w I2 R2) (one : Int32) {x : Int} (hx : inZ x) : LsC n c I R σ (weighN w one x) (if w.2 < x then up2 (up2 I2 c 0 one) c 1 (zI x) else I2) R2 := by
  unfold weighN
  split
  · obtain ⟨h1, h2, h3, h4, h5, h6⟩ := h
    have e : ∀ a, a < 118 → up2 (up2 I2 c 0 one) c 1 (zI x) a = I2 a := fun a ha => by rw [up2_a _ _ _ (by omega), up2_a _ _ _ (by omega)]
    refine ⟨h1.fr h1.sh (h1.k13.out fun a ha => e a (by unfold inS at ha; omega)) (fun a g1 _ _ _ => e a g1), fun a g1 g2 => ⟨(e a g2).trans (h2 a g1 g2).1, (h2 a g1 g2).2⟩, ?_, up2_at _ _ _ _, hx, h6⟩
    rw [up2_k _ _ (by decide), up2_at]
  · exact h
theorem wg_out (hc : 118 ≤ c) (one : Int32) (x : Int) : ∀ a, a < 118 → (if w.2 < x then up2 (up2 I2 c 0 one) c 1 (zI x) else I2) a = I2 a := fun a ha => by
  split
  · rw [up2_a _ _ _ (by omega), up2_a _ _ _ (by omega)]
  · rfl
theorem LsC.pb (h : LsC (n + 1) (12 + n) I R σ w I2 R2) : PB n I J R v σ (some v) (n + 1) I2 (z1 0 J (12 + n)) R2 := by
  obtain ⟨h1, h2, h3, h4, h5, h6⟩ := h
  exact ⟨rfl, Nat.le_succ _, Nat.le_refl _, h1, fun a g1 g2 => ⟨(h2 a g1 g2).1, z1_ne _ _ (by omega), (h2 a g1 g2).2⟩⟩
theorem LsC.al (h : LsC (n + 1) (12 + n) I R σ w I2 R2) : Al (n + 1) (12 + n) 0 2 := by
  have h6 := h.2.2.2.2.2
  exact ⟨lay_hi (by omega), by omega, by omega⟩
end XLS
/-- the worth or which: by 1 the worth -/
def pickW (w : Int32 × Int) (k : Nat) : Int32 := if k = 1 then zI w.2 else w.1
theorem pick_1 {I : TI} {c k : Nat} {w : Int32 × Int} (h0 : I c 0 = w.1) (h1 : I c 1 = zI w.2) (hk : k < 2) : (if (1 - (k : Int)) = 0 then I c 1 else I c 0) = pickW w k := by
  unfold pickW
  rw [h0, h1]
  by_cases e : k = 1
  · rw [if_pos (by omega), if_pos e]
  · rw [if_neg (by omega), if_neg e]
theorem pick_0 {I : TI} {c k : Nat} {w : Int32 × Int} (h0 : I c 0 = w.1) (h1 : I c 1 = zI w.2) (hk : k < 2) : (if (k : Int) = 0 then I c 1 else I c 0) = pickW w (1 - k) := by
  unfold pickW
  rw [h0, h1]
  by_cases e : k = 0
  · rw [if_pos (by omega), if_pos (by omega)]
  · rw [if_neg (by omega), if_neg (by omega)]
def isW (w : Int) : Bool := decide (0 ≤ w ∧ w < 2)
def sleepC (σ : CSt) (m : Nat) : Int32 × Int := chN (fun pl => nWorth (sleepN (qdl σ) (qtr σ) (qtv σ (qrl σ)) (qsz σ) pl m)) (qsz σ + 1)
def sleepV (σ : CSt) (m w : Int) : Int32 := if 1 ≤ m ∧ m ≤ 99 ∧ 0 ≤ w ∧ w < 2 then pickW (sleepC σ m.toNat) w.toNat else -100000
set_option maxRecDepth 20000 in
set_option maxHeartbeats 4000000 in
theorem S_sleep {g : GP} {d n : Nat} {I : TI} {J : TJ} {R : TR} {σ : CSt} (hC : CS n I R σ) {m w : Int} (hm : inZ m) (hw : inZ w) : Wp g (d + 5) mX6_sleep 0 [.ref 12, .int (zI m), .int (zI w), .null, .null] [] (0 + 1) (0 + 2) n I J R (PB n I J R (.int (sleepV σ m w)) σ) := by
  have hsh := hC.sh
  have hA := hC.k13.1
  have wf := hC.k13.2.1
  have hz := wf.2.2.1
  have h13 : isSky 13 := Or.inl rfl
  have h47 : isSky 47 := Or.inr (Or.inr rfl)
  have hn := hsh.1
  have e1 : bw (zI w) 2 = decide (0 ≤ w ∧ w < (2 : Nat)) := bw_z rfl hw (by decide)
  have loop : ∀ (m0 k : Nat), m0 ≤ 99 → k < 2 → ∀ q i I2 R2, i + q = qsz σ + 1 → LsC (n + 1) (12 + n) I R σ (chN (fun pl => nWorth (sleepN (qdl σ) (qtr σ) (qtv σ (qrl σ)) (qsz σ) pl m0)) i) I2 R2 → Wp g (d + 5) mX6_sleep 33 [.ref 12, .int (nI m0), .int (nI k), .ref (12 + n), .int (nI i)] [] 0 0 (n + 1) I2 (z1 0 J (12 + n)) R2 (PB n I J R (.int (pickW (sleepC σ m0) k)) σ) := by
    intro m0 k hm0 hk q
    induction q with
    | zero =>
      intro i I2 R2 hi hL
      have hc := hL.al
      have hsh := hL.1.sh
      have hA2 := hL.1.k13.1
      have e : i = qsz σ + 1 := by omega
      subst e
      refine r_iload dX6_sleep_33 rfl ?_
      refine r_aload_n dX6_sleep_35 rfl ?_
      refine r_getR (b := 13) dX6_sleep_36 f_X6_10 (hsh.al rfl (by decide)) (Or.inr ⟨_, rfl⟩) (hsh.r 12 0 13 (by decide)) (by decide) ?_
      refine r_getIE dX6_sleep_39 f_X6_95 (hsh.al rfl (by decide)) (Or.inl rfl) hA2.2.2.1 ?_
      refine r_nicmp_gt  (tgt := 64) dX6_sleep_42 (by decide) rfl rfl (by omega) (by omega) (fun h42 => ?_) (fun h42 => absurd h42 (by omega))
      refine r_aload_n dX6_sleep_64 rfl ?_
      refine r_iconst (v := 1) dX6_sleep_65 (by decide) ?_
      refine r_iload_n dX6_sleep_66 rfl ?_
      refine r_zisub (a := 1) (b := (k : Int)) dX6_sleep_67 rfl (nz _) ?_
      refine r_callV1I dX6_sleep_68 moX0_answer w_623 w_624 w_625 hc cl0 rfl (Nat.le_of_ble_eq_true rfl) (Nat.le_of_ble_eq_true rfl) (S_chAns hc (a := 1 - (k : Int)) (by unfold inZ; omega)) ?_
      refine r_iret dX6_sleep_71 rfl ?_
      rw [pick_1 hL.2.2.1 hL.2.2.2.1 hk]
      exact hL.pb
    | succ q ih =>
      intro i I2 R2 hi hL
      have hc := hL.al
      have hc2 := hL.2.2.2.2.2
      have hsh := hL.1.sh
      have hA2 := hL.1.k13.1
      have hok := sleepN_ok wf (hC.tx.le hC.rlt) (pl := i) (m := m0) (by omega)
      refine r_iload dX6_sleep_33 rfl ?_
      refine r_aload_n dX6_sleep_35 rfl ?_
      refine r_getR (b := 13) dX6_sleep_36 f_X6_10 (hsh.al rfl (by decide)) (Or.inr ⟨_, rfl⟩) (hsh.r 12 0 13 (by decide)) (by decide) ?_
      refine r_getIE dX6_sleep_39 f_X6_95 (hsh.al rfl (by decide)) (Or.inl rfl) hA2.2.2.1 ?_
      refine r_nicmp_gt  (tgt := 64) dX6_sleep_42 (by decide) rfl rfl (by omega) (by omega) (fun h42 => absurd h42 (by omega)) (fun h42 => ?_)
      refine r_aload_n dX6_sleep_45 rfl ?_
      refine r_iload dX6_sleep_46 rfl ?_
      refine r_aload_n dX6_sleep_48 rfl ?_
      refine r_iload dX6_sleep_49 rfl ?_
      refine r_iload_n dX6_sleep_51 rfl ?_
      refine r_callV2N dX6_sleep_52 moX6_worthSleeping w_655 w_657 s_21 (hsh.al rfl (by decide)) cl6 rfl (Nat.le_of_ble_eq_true rfl) (Nat.le_of_ble_eq_true rfl) (S_worthSleeping hsh hL.1.k13 hL.1.tx hL.1.rlt hL.1.ks (pl := i) (m := m0) (by omega) (by omega)) (fun r n I3 J R hq => ?_)
      obtain ⟨rfl, rfl, rfl, fR, hB⟩ := hq
      have hL3 := hL.nt fR (hL.1.k13.beg h13 hB) (FrX.rf.nt (Or.inl rfl) hB.2.2.1)
      refine r_some rfl ?_
      refine r_callV2W dX6_sleep_55 moX0_weigh w_619 w_620 w_621 hc cl0 rfl (Nat.le_of_ble_eq_true rfl) (Nat.le_of_ble_eq_true rfl) (S_weigh hc hL3.2.2.2.1 hL3.2.2.2.2.1 (hok.inW (by decide)) (nI i)) ?_
      refine r_iincE (b := (i + 1)) dX6_sleep_58 rfl rfl (nI_succ _).symm rfl ?_
      refine r_goto (tgt := 33) dX6_sleep_61 (by decide) ?_
      exact ih (i + 1) _ _ (by omega) (hL3.wg (nI i) (hok.inW (by decide)))
  refine r_iload_n dX6_sleep_0 rfl ?_
  refine r_iconst (v := 1) dX6_sleep_1 (by decide) ?_
  refine r_zicmp_lt (b := 1)  (tgt := 19) dX6_sleep_2 (by decide) rfl (by decide) hm (by unfold inZ; omega) (fun h2 => ?_) (fun h2 => ?_)
  · refine r_ldcI dX6_sleep_19 w_510 ?_
    refine r_iret dX6_sleep_21 rfl ?_
    have e0 : sleepV σ m w = -100000 := if_neg (by omega)
    rw [e0]
    exact PB.rf hC
  · refine r_iload_n dX6_sleep_5 rfl ?_
    refine r_bipush (v := 99) dX6_sleep_6 (by decide) ?_
    refine r_zicmp_gt (b := 99)  (tgt := 19) dX6_sleep_8 (by decide) rfl (by decide) hm (by unfold inZ; omega) (fun h8 => ?_) (fun h8 => ?_)
    · refine r_ldcI dX6_sleep_19 w_510 ?_
      refine r_iret dX6_sleep_21 rfl ?_
      have e0 : sleepV σ m w = -100000 := if_neg (by omega)
      rw [e0]
      exact PB.rf hC
    · refine r_iload_n dX6_sleep_11 rfl ?_
      refine r_iconst (v := 2) dX6_sleep_12 (by decide) ?_
      refine r_callS2I dX6_sleep_13 moX6_isBelow w_458 w_400 (Nat.le_of_ble_eq_true rfl) (Nat.le_of_ble_eq_true rfl) (S_isBelow _ _) ?_
      refine r_ifb_ne (tgt := 22) dX6_sleep_16 (by decide) (fun h16 => ?_) (fun h16 => ?_)
      · rw [e1, decide_eq_true_eq] at h16
        have hk0 := h16
        obtain ⟨m0, rfl⟩ := Int.eq_ofNat_of_zero_le (show 0 ≤ m by omega)
        obtain ⟨k, rfl⟩ := Int.eq_ofNat_of_zero_le (show 0 ≤ w by omega)
        rw [← nz m0, ← nz k]
        have e0 : sleepV σ (m0 : Int) (k : Int) = pickW (sleepC σ m0) k := if_pos (by omega)
        rw [e0]
        refine r_new dX6_sleep_22 cl0 w_596 w_597 w_16 (by decide) (lay_hi hn) ?_
        have hS0 := LsC.start hC
        have hc := hS0.al
        refine r_dup dX6_sleep_25 rfl ?_
        refine r_callIN0W dX6_sleep_26 moX0_init rfl rfl (by decide) w_599 (Nat.le_of_ble_eq_true rfl) (Nat.le_of_ble_eq_true rfl) (S_chInit hc) ?_
        refine r_astore_n dX6_sleep_29 (by decide) rfl ?_
        refine r_iconst (v := 0) dX6_sleep_30 (by decide) ?_
        refine r_istore dX6_sleep_31 (by decide) rfl ?_
        exact loop m0 k (by omega) (by omega) _ 0 _ _ (Nat.zero_add _) hS0
      · rw [e1, decide_eq_false_iff_not] at h16
        refine r_ldcI dX6_sleep_19 w_510 ?_
        refine r_iret dX6_sleep_21 rfl ?_
        have e0 : sleepV σ m w = -100000 := if_neg (by omega)
        rw [e0]
        exact PB.rf hC
