/-! what the class finds by a list -/
theorem sheet_in {h : Nat} (hh : isSheet h) : 89 ≤ h ∧ h ≤ 95 := by rcases hh with rfl | rfl | rfl | rfl <;> decide
def FrT (I I2 : TI) : Prop := ∀ a, ¬ inS 47 a → (a < 97 ∨ 101 < a) → I2 a = I a
theorem FrT.rf {I : TI} : FrT I I := fun _ _ _ => rfl
theorem FrT.t {I I1 I2 : TI} (h : FrT I I1) (h2 : FrT I1 I2) : FrT I I2 := fun a h4 h5 => (h2 a h4 h5).trans (h a h4 h5)
theorem FrT.nt {I I1 I2 : TI} (h : FrT I I1) (h2 : FrNt 47 I1 I2) : FrT I I2 := h.t fun a h4 h5 => by
  unfold inS at h4
  exact h2.1 a (by omega) (fun j hj => by omega) h5
theorem FrT.in {I I1 I2 : TI} (h : FrT I I1) (h2 : ∀ a, ¬ inS 47 a → I2 a = I1 a) : FrT I I2 := h.t fun a h4 _ => h2 a h4
theorem FrT.x {I I2 : TI} (h : FrT I I2) : FrX I I2 := fun a _ h4 h5 => h a h4 h5
theorem FrT.tx {I I2 : TI} {tc : Nat} {tv : Nat → TV} (h : FrT I I2) (hT : TxOK I tc tv) : TxOK I2 tc tv := h.x.tx hT
theorem FrT.ks {I I2 : TI} (h : FrT I I2) (hT : KS I) : KS I2 := h.x.ks hT
theorem FrT.sheet {I I2 : TI} (hF : FrT I I2) {h : Nat} (hh : isSheet h) {q : Nat} (hq : q < 2) : I2 (h + q) = I (h + q) := by
  have := sheet_in hh
  exact hF _ (by unfold inS; omega) (by omega)
theorem ShtAt.fr {I I2 : TI} {h z : Nat} {so : Int} (hS : ShtAt I h so z) (hh : isSheet h) (hF : FrT I I2) : ShtAt I2 h so z := by
  have e := hF.sheet hh (q := 0) (by decide)
  have e : I2 h = I h := e
  obtain ⟨s0, s1, s2⟩ := hS
  exact ⟨by rw [e]; exact s0, by rw [e]; exact s1, s2⟩
/-- the sights that were not found in the ticks of the list -/
def nalN (x : NS) (it : Nat → Int32) : Nat → Nat
  | 0 => 0
  | i + 1 => if zI (nFi x i) = it i then nalN x it i else nalN x it i ||| 2 ^ i
theorem nalN_lt {x : NS} {it : Nat → Int32} : ∀ {i : Nat}, i ≤ 7 → nalN x it i < 128
  | 0, _ => by show 0 < 128; decide
  | i + 1, h => by
    have := nalN_lt (x := x) (it := it) (i := i) (by omega)
    unfold nalN
    split
    · exact this
    · exact or_lt this (by omega)
/-- what a look at the list leaves -/
def LsP (I : TI) (dl : Nat → Nat) (tr : Nat → Nat → Nat) (sz rl : Nat) : TI → TR → Prop := fun I2 _ => SkyOK I2 47 dl tr sz rl ∧ FrT I I2
def fitN (dl : Nat → Nat) (tr : Nat → Nat → Nat) (V : TV) (sz : Nat) (it : Nat → Int32) : Nat := nalN (plainN dl tr V sz (2 ^ sz - 1)) it sz
set_option maxRecDepth 20000 in
set_option maxHeartbeats 4000000 in
theorem S_notAsListed {g : GP} {d n : Nat} {I : TI} {J : TJ} {R : TR} {dl : Nat → Nat} {tr : Nat → Nat → Nat} {sz rl : Nat} {tc : Nat} {tv : Nat → TV} (hsh : Sh n R) (hK : SkyOK I 47 dl tr sz rl) (hT : TxOK I tc tv) (hrl : rl < tc) (hKS : KS I) {h : Nat} {so : Int} (hh : isSheet h) (hS : ShtAt I h so sz) : Wp g (d + 5) mX6_notAsListed 0 [.ref 12, .ref h, .null, .null] [] 0 0 n I J R (PostN n J R (some (.int (nI (fitN dl tr (tv rl) sz (I (h + 1)))))) (LsP I dl tr sz rl)) := by
  have wf := hK.2.1
  have hz := wf.2.2.1
  have h47 : isSky 47 := Or.inr (Or.inr rfl)
  have loop : ∀ m i I2 R2, i + m = sz → FrR R R2 → BegP I 47 dl tr sz rl (plainN dl tr (tv rl) sz (2 ^ sz - 1)) I2 R2 → Wp g (d + 5) mX6_notAsListed 23 [.ref 12, .ref h, .int (nI (nalN (plainN dl tr (tv rl) sz (2 ^ sz - 1)) (I (h + 1)) i)), .int (nI i)] [] 0 0 n I2 J R2 (PostN n J R (some (.int (nI (fitN dl tr (tv rl) sz (I (h + 1)))))) (LsP I dl tr sz rl)) := by
    intro m
    induction m with
    | zero =>
      intro i I2 R2 hi hR hB
      have hsh := hsh.fr hR
      have hA2 := hK.1.nt h47 hB.2.2.1
      have e : i = sz := by omega
      subst e
      refine r_iload_n dX6_notAsListed_23 rfl ?_
      refine r_aload_n dX6_notAsListed_24 rfl ?_
      refine r_getR (b := 47) dX6_notAsListed_25 f_X6_19 (hsh.al rfl (by decide)) (Or.inr ⟨_, rfl⟩) (hsh.r 12 2 47 (by decide)) (by decide) ?_
      refine r_getIE dX6_notAsListed_28 f_X6_95 (hsh.al rfl (by decide)) (Or.inl rfl) hA2.2.2.1 ?_
      refine r_nicmp_ge  (tgt := 62) dX6_notAsListed_31 (by decide) rfl rfl (by omega) (by omega) (fun h31 => ?_) (fun h31 => absurd h31 (by omega))
      refine r_iload_n dX6_notAsListed_62 rfl ?_
      refine r_iret dX6_notAsListed_63 rfl ?_
      exact ⟨rfl, rfl, rfl, hR, hK.beg h47 hB, FrT.rf.nt hB.2.2.1⟩
    | succ m ih =>
      intro i I2 R2 hi hR hB
      have hsh0 := hsh
      have hsh := hsh.fr hR
      have hA2 := hK.1.nt h47 hB.2.2.1
      have fT : FrT I I2 := FrT.rf.nt hB.2.2.1
      refine r_iload_n dX6_notAsListed_23 rfl ?_
      refine r_aload_n dX6_notAsListed_24 rfl ?_
      refine r_getR (b := 47) dX6_notAsListed_25 f_X6_19 (hsh.al rfl (by decide)) (Or.inr ⟨_, rfl⟩) (hsh.r 12 2 47 (by decide)) (by decide) ?_
      refine r_getIE dX6_notAsListed_28 f_X6_95 (hsh.al rfl (by decide)) (Or.inl rfl) hA2.2.2.1 ?_
      refine r_nicmp_ge  (tgt := 62) dX6_notAsListed_31 (by decide) rfl rfl (by omega) (by omega) (fun h31 => absurd h31 (by omega)) (fun h31 => ?_)
      refine r_aload_n dX6_notAsListed_34 rfl ?_
      refine r_getR (b := 97) dX6_notAsListed_35 f_X6_56 (hsh.al rfl (by decide)) (Or.inr ⟨_, rfl⟩) (hsh.r 12 7 97 (by decide)) (by decide) ?_
      refine r_iload_n dX6_notAsListed_38 rfl ?_
      refine r_callV1I dX6_notAsListed_39 moX5_tickFound w_687 w_688 w_689 (hsh.al rfl (by decide)) cl5 rfl (Nat.le_of_ble_eq_true rfl) (Nat.le_of_ble_eq_true rfl) (S_tickFound hsh hB.1 (k := i) (by omega)) ?_
      refine r_aload_n dX6_notAsListed_42 rfl ?_
      refine r_iload_n dX6_notAsListed_43 rfl ?_
      refine r_callV1I dX6_notAsListed_44 moX2_item w_585 w_586 w_587 (hsh.h0 hh) cl2 rfl (Nat.le_of_ble_eq_true rfl) (Nat.le_of_ble_eq_true rfl) (S_item hsh hh (hS.fr hh fT) (i := i) (by omega)) ?_
      rw [fT.sheet hh (q := 1) (by decide)]
      refine r_icmp_eq (tgt := 56) dX6_notAsListed_47 (by decide) (fun h47_ => ?_) (fun h47_ => ?_)
      · refine r_iincE (b := (i + 1)) dX6_notAsListed_56 rfl rfl (nI_succ _).symm rfl ?_
        refine r_goto (tgt := 23) dX6_notAsListed_59 (by decide) ?_
        have e : nalN (plainN dl tr (tv rl) sz (2 ^ sz - 1)) (I (h + 1)) (i + 1) = nalN (plainN dl tr (tv rl) sz (2 ^ sz - 1)) (I (h + 1)) i := by
          show (if _ then _ else _) = _
          rw [if_pos h47_]
        rw [← e]
        exact ih (i + 1) I2 R2 (by omega) hR hB
      · refine r_iload_n dX6_notAsListed_50 rfl ?_
        refine r_iconst (v := 1) dX6_notAsListed_51 (by decide) ?_
        refine r_iload_n dX6_notAsListed_52 rfl ?_
        refine r_ishl dX6_notAsListed_53 ?_
        refine r_top (v := nI (2 ^ i)) (bit_sh i (by omega)) ?_
        refine r_ior dX6_notAsListed_54 ?_
        refine r_top (v := nI (nalN (plainN dl tr (tv rl) sz (2 ^ sz - 1)) (I (h + 1)) i ||| 2 ^ i)) (nI_or _ _) ?_
        refine r_istore_n dX6_notAsListed_55 (by decide) rfl ?_
        refine r_iincE (b := (i + 1)) dX6_notAsListed_56 rfl rfl (nI_succ _).symm rfl ?_
        refine r_goto (tgt := 23) dX6_notAsListed_59 (by decide) ?_
        have e : nalN (plainN dl tr (tv rl) sz (2 ^ sz - 1)) (I (h + 1)) (i + 1) = nalN (plainN dl tr (tv rl) sz (2 ^ sz - 1)) (I (h + 1)) i ||| 2 ^ i := by
          show (if _ then _ else _) = _
          rw [if_neg h47_]
        rw [← e]
        exact ih (i + 1) I2 R2 (by omega) hR hB
  refine r_iconst (v := 0) dX6_notAsListed_0 (by decide) ?_
  refine r_istore_n dX6_notAsListed_1 (by decide) rfl ?_
  refine r_aload_n dX6_notAsListed_2 rfl ?_
  refine r_getR (b := 97) dX6_notAsListed_3 f_X6_56 (hsh.al rfl (by decide)) (Or.inr ⟨_, rfl⟩) (hsh.r 12 7 97 (by decide)) (by decide) ?_
  refine r_aload_n dX6_notAsListed_6 rfl ?_
  refine r_getR (b := 47) dX6_notAsListed_7 f_X6_19 (hsh.al rfl (by decide)) (Or.inr ⟨_, rfl⟩) (hsh.r 12 2 47 (by decide)) (by decide) ?_
  refine r_aload_n dX6_notAsListed_10 rfl ?_
  refine r_getR (b := 47) dX6_notAsListed_11 f_X6_19 (hsh.al rfl (by decide)) (Or.inr ⟨_, rfl⟩) (hsh.r 12 2 47 (by decide)) (by decide) ?_
  refine r_callV0I dX6_notAsListed_14 moX3_all w_511 w_451 w_452 (hsh.al rfl (by decide)) cl3 rfl (Nat.le_of_ble_eq_true rfl) (Nat.le_of_ble_eq_true rfl) (S_all hsh h47 hK.1 wf) ?_
  refine r_callV2N dX6_notAsListed_17 moX5_goPlain w_512 w_513 w_514 (hsh.al rfl (by decide)) cl5 rfl (Nat.le_of_ble_eq_true rfl) (Nat.le_of_ble_eq_true rfl) (S_plain hsh h47 hK hT hrl hKS (p2_lt hz)) (fun r n I2 J R hq => ?_)
  obtain ⟨rfl, rfl, rfl, fR, hB⟩ := hq
  refine r_some rfl ?_
  refine r_pop dX6_notAsListed_20 rfl ?_
  refine r_iconst (v := 0) dX6_notAsListed_21 (by decide) ?_
  refine r_istore_n dX6_notAsListed_22 (by decide) rfl ?_
  exact loop sz 0 I2 _ (by omega) fR hB
theorem up1_up1 (f : Nat → Nat) (w a b : Nat) : up1 (up1 f w a) w b = up1 f w b := by
  funext j
  unfold up1
  split <;> rfl
theorem up1_self (f : Nat → Nat) (w : Nat) : up1 f w (f w) = f := by
  funext j
  unfold up1
  split
  · rename_i h; rw [h]
  · rfl
/-- how many of the spots fit, and the least of them: gone through from the last one on -/
def sptN (f : Nat → Bool) : Nat → Nat × Int
  | 0 => (0, -1)
  | k + 1 => if f (99 - k) then ((sptN f k).1 + 1, ((99 - k : Nat) : Int)) else sptN f k
theorem sptN_le (f : Nat → Bool) : ∀ k, (sptN f k).1 ≤ k
  | 0 => Nat.le_refl _
  | k + 1 => by
    have := sptN_le f k
    unfold sptN
    split
    · show (sptN f k).1 + 1 ≤ _; omega
    · omega
set_option maxRecDepth 20000 in
set_option maxHeartbeats 4000000 in
theorem S_spotsThatFit {g : GP} {d n : Nat} {I : TI} {J : TJ} {R : TR} {dl : Nat → Nat} {tr : Nat → Nat → Nat} {sz rl : Nat} {tc : Nat} {tv : Nat → TV} (hsh : Sh n R) (hK : SkyOK I 47 dl tr sz rl) (hT : TxOK I tc tv) (hrl : rl < tc) (hKS : KS I) {h : Nat} {so : Int} (hh : isSheet h) (hS : ShtAt I h so sz) (b : Bool) : Wp g (d + 6) mX6_spotsThatFit 0 [.ref 12, .ref h, .int (b2i b), .null, .null, .null] [] 0 0 n I J R (PostN n J R (some (.int (if b then nI (sptN (fun p => decide (fitN (up1 dl 5 p) tr (tv rl) sz (I (h + 1)) = 0)) 100).1 else zI (sptN (fun p => decide (fitN (up1 dl 5 p) tr (tv rl) sz (I (h + 1)) = 0)) 100).2))) (fun I2 _ => FrT I I2)) := by
  have h47 : isSky 47 := Or.inr (Or.inr rfl)
  have hz := hK.2.1.2.2.1
  have loop : ∀ (k q p : Nat) I2 R2, k + q = 100 → FrR R R2 → SkyOK I2 47 (up1 dl 5 p) tr sz rl → FrT I I2 → Wp g (d + 6) mX6_spotsThatFit 9 [.ref 12, .ref h, .int (b2i b), .int (nI (sptN (fun p => decide (fitN (up1 dl 5 p) tr (tv rl) sz (I (h + 1)) = 0)) k).1), .int (zI (sptN (fun p => decide (fitN (up1 dl 5 p) tr (tv rl) sz (I (h + 1)) = 0)) k).2), .int (zI ((q : Int) - 1))] [] 0 0 n I2 J R2 (PostN n J R (some (.int (if b then nI (sptN (fun p => decide (fitN (up1 dl 5 p) tr (tv rl) sz (I (h + 1)) = 0)) 100).1 else zI (sptN (fun p => decide (fitN (up1 dl 5 p) tr (tv rl) sz (I (h + 1)) = 0)) 100).2))) (fun I2 _ => FrT I I2)) := by
    intro k q
    induction q generalizing k with
    | zero =>
      intro p I2 R2 hi hR hK2 fT
      have e : k = 100 := by omega
      subst e
      refine r_iload dX6_spotsThatFit_9 rfl ?_
      refine r_zif_lt (tgt := 47) dX6_spotsThatFit_11 (by decide) rfl (by unfold inZ; omega) (fun h11 => ?_) (fun h11 => absurd h11 (by omega))
      refine r_iload_n dX6_spotsThatFit_47 rfl ?_
      refine r_ifb_eq (tgt := 55) dX6_spotsThatFit_48 (by decide) (fun h48 => ?_) (fun h48 => ?_)
      · refine r_iload dX6_spotsThatFit_55 rfl ?_
        refine r_iret dX6_spotsThatFit_57 rfl ?_
        subst h48
        exact ⟨rfl, rfl, rfl, hR, fT⟩
      · refine r_iload_n dX6_spotsThatFit_51 rfl ?_
        refine r_goto (tgt := 57) dX6_spotsThatFit_52 (by decide) ?_
        refine r_iret dX6_spotsThatFit_57 rfl ?_
        subst h48
        exact ⟨rfl, rfl, rfl, hR, fT⟩
    | succ q ih =>
      intro p I2 R2 hi hR hK2 fT
      have hsh0 := hsh
      have hsh := hsh.fr hR
      have e : zI (((q + 1 : Nat) : Int) - 1) = nI q := by rw [nz]; congr 1; omega
      rw [e]
      have k2 := hK2.upD (w := 5) (v := q) (by decide) (by show q ≤ 99; omega)
      rw [up1_up1] at k2
      have f2 : FrT I (chD I2 47 5 (nI q) sz) := fT.in chD_in
      have e99 : 99 - k = q := by omega
      refine r_iload dX6_spotsThatFit_9 rfl ?_
      refine r_zif_lt (tgt := 47) dX6_spotsThatFit_11 (by decide) (nz _) (by unfold inZ; omega) (fun h11 => absurd h11 (by omega)) (fun h11 => ?_)
      refine r_aload_n dX6_spotsThatFit_14 rfl ?_
      refine r_getR (b := 47) dX6_spotsThatFit_15 f_X6_19 (hsh.al rfl (by decide)) (Or.inr ⟨_, rfl⟩) (hsh.r 12 2 47 (by decide)) (by decide) ?_
      refine r_iconst (v := 5) dX6_spotsThatFit_18 (by decide) ?_
      refine r_iconst (v := 0) dX6_spotsThatFit_19 (by decide) ?_
      refine r_iload dX6_spotsThatFit_20 rfl ?_
      refine r_callV3I dX6_spotsThatFit_22 moX3_change w_446 w_447 w_448 (hsh.al rfl (by decide)) cl3 rfl (Nat.le_of_ble_eq_true rfl) (Nat.le_of_ble_eq_true rfl) (S_changeD hsh h47 hK2.1 hK2.2.1 (w := 5) (by decide) 0 _) ?_
      refine r_pop dX6_spotsThatFit_25 rfl ?_
      refine r_aload_n dX6_spotsThatFit_26 rfl ?_
      refine r_aload_n dX6_spotsThatFit_27 rfl ?_
      refine r_callV1N dX6_spotsThatFit_28 moX6_notAsListed w_683 w_685 s_23 (hsh.al rfl (by decide)) cl6 rfl (Nat.le_of_ble_eq_true rfl) (Nat.le_of_ble_eq_true rfl) (S_notAsListed hsh k2 (f2.tx hT) hrl (f2.ks hKS) hh (hS.fr hh f2)) (fun r n I3 J R hq => ?_)
      obtain ⟨rfl, rfl, rfl, fR, hL⟩ := hq
      refine r_some rfl ?_
      rw [f2.sheet hh (q := 1) (by decide)]
      refine r_zif_ne (tgt := 41) dX6_spotsThatFit_31 (by decide) (nz _) (by have := nalN_lt (x := plainN (up1 dl 5 q) tr (tv rl) sz (2 ^ sz - 1)) (it := I (h + 1)) hz; unfold fitN inZ; omega) (fun h31 => ?_) (fun h31 => ?_)
      · refine r_iinc dX6_spotsThatFit_41 rfl (nI_dec q) rfl ?_
        refine r_goto (tgt := 9) dX6_spotsThatFit_44 (by decide) ?_
        have e2 : sptN (fun p => decide (fitN (up1 dl 5 p) tr (tv rl) sz (I (h + 1)) = 0)) (k + 1) = sptN (fun p => decide (fitN (up1 dl 5 p) tr (tv rl) sz (I (h + 1)) = 0)) k := by
          show (if decide (fitN (up1 dl 5 (99 - k)) tr (tv rl) sz (I (h + 1)) = 0) = true then _ else _) = _
          rw [e99]
          exact if_neg (by rw [decide_eq_true_eq]; omega)
        have hg := ih (k + 1) q I3 _ (by omega) (hR.t fR) hL.1 (f2.t hL.2)
        rw [e2] at hg
        exact hg
      · refine r_iincE (b := ((sptN (fun p => decide (fitN (up1 dl 5 p) tr (tv rl) sz (I (h + 1)) = 0)) k).1 + 1)) dX6_spotsThatFit_34 rfl rfl (nI_succ _).symm rfl ?_
        refine r_iload dX6_spotsThatFit_37 rfl ?_
        refine r_istore dX6_spotsThatFit_39 (by decide) rfl ?_
        refine r_iinc dX6_spotsThatFit_41 rfl (nI_dec q) rfl ?_
        refine r_goto (tgt := 9) dX6_spotsThatFit_44 (by decide) ?_
        have e2 : sptN (fun p => decide (fitN (up1 dl 5 p) tr (tv rl) sz (I (h + 1)) = 0)) (k + 1) = ((sptN (fun p => decide (fitN (up1 dl 5 p) tr (tv rl) sz (I (h + 1)) = 0)) k).1 + 1, (q : Int)) := by
          show (if decide (fitN (up1 dl 5 (99 - k)) tr (tv rl) sz (I (h + 1)) = 0) = true then _ else _) = _
          rw [e99]
          exact if_pos (by rw [decide_eq_true_eq]; omega)
        have hg := ih (k + 1) q I3 _ (by omega) (hR.t fR) hL.1 (f2.t hL.2)
        rw [e2] at hg
        exact hg
  refine r_iconst (v := 0) dX6_spotsThatFit_0 (by decide) ?_
  refine r_istore_n dX6_spotsThatFit_1 (by decide) rfl ?_
  refine r_iconst (v := (-1)) dX6_spotsThatFit_2 (by decide) ?_
  refine r_istore dX6_spotsThatFit_3 (by decide) rfl ?_
  refine r_bipush (v := 99) dX6_spotsThatFit_5 (by decide) ?_
  refine r_istore dX6_spotsThatFit_7 (by decide) rfl ?_
  exact loop 0 100 (dl 5) I R rfl FrR.rf (by rw [up1_self]; exact hK) FrT.rf
def bitsN (f : Nat → Bool) : Nat → Nat
  | 0 => 0
  | v + 1 => if f v then bitsN f v ||| 2 ^ v else bitsN f v
theorem up2_up2 (f : Nat → Nat → Nat) (j k a b : Nat) : up2 (up2 f j k a) j k b = up2 f j k b := by
  funext x y
  by_cases e : x = j
  · subst e
    by_cases e2 : y = k
    · subst e2; rw [up2_at, up2_at]
    · rw [up2_k _ _ e2, up2_k _ _ e2, up2_k _ _ e2]
  · rw [up2_a _ _ _ e, up2_a _ _ _ e, up2_a _ _ _ e]
theorem up2_self (f : Nat → Nat → Nat) (j k : Nat) : up2 f j k (f j k) = f := by
  funext x y
  by_cases e : x = j
  · subst e
    by_cases e2 : y = k
    · subst e2; rw [up2_at]
    · rw [up2_k _ _ e2]
  · rw [up2_a _ _ _ e]
set_option maxRecDepth 20000 in
set_option maxHeartbeats 4000000 in
theorem S_bitsThatFitD {g : GP} {d n : Nat} {I : TI} {J : TJ} {R : TR} {dl : Nat → Nat} {tr : Nat → Nat → Nat} {sz rl : Nat} {tc : Nat} {tv : Nat → TV} (hsh : Sh n R) (hK : SkyOK I 47 dl tr sz rl) (hT : TxOK I tc tv) (hrl : rl < tc) (hKS : KS I) {h : Nat} {so : Int} (hh : isSheet h) (hS : ShtAt I h so sz) {w bd : Nat} (hw : w < 8) (hbd : ∀ v, v < bd → v ≤ dB w) (hb10 : bd ≤ 10) (of : Int32) : Wp g (d + 6) mX6_bitsThatFit 0 [.ref 12, .ref h, .int (nI w), .int of, .int (nI bd), .null, .null] [] 0 0 n I J R (PostN n J R (some (.int (nI (bitsN (fun v => decide (fitN (up1 dl w v) tr (tv rl) sz (I (h + 1)) = 0)) bd)))) (fun I2 _ => FrT I I2)) := by
  have h47 : isSky 47 := Or.inr (Or.inr rfl)
  have hz := hK.2.1.2.2.1
  have loop : ∀ m v p I2 R2, v + m = bd → FrR R R2 → SkyOK I2 47 (up1 dl w p) tr sz rl → FrT I I2 → Wp g (d + 6) mX6_bitsThatFit 6 [.ref 12, .ref h, .int (nI w), .int of, .int (nI bd), .int (nI (bitsN (fun v => decide (fitN (up1 dl w v) tr (tv rl) sz (I (h + 1)) = 0)) v)), .int (nI v)] [] 0 0 n I2 J R2 (PostN n J R (some (.int (nI (bitsN (fun v => decide (fitN (up1 dl w v) tr (tv rl) sz (I (h + 1)) = 0)) bd)))) (fun I2 _ => FrT I I2)) := by
    intro m
    induction m with
    | zero =>
      intro v p I2 R2 hi hR hK2 fT
      have e : v = bd := by omega
      subst e
      refine r_iload dX6_bitsThatFit_6 rfl ?_
      refine r_iload dX6_bitsThatFit_8 rfl ?_
      refine r_nicmp_ge  (tgt := 48) dX6_bitsThatFit_10 (by decide) rfl rfl (by omega) (by omega) (fun h10 => ?_) (fun h10 => absurd h10 (by omega))
      refine r_iload dX6_bitsThatFit_48 rfl ?_
      refine r_iret dX6_bitsThatFit_50 rfl ?_
      exact ⟨rfl, rfl, rfl, hR, fT⟩
    | succ m ih =>
      intro v p I2 R2 hi hR hK2 fT
      have hsh0 := hsh
      have hsh := hsh.fr hR
      have k2 := hK2.upD (w := w) (v := v) hw (hbd v (by omega))
      rw [up1_up1] at k2
      have f2 : FrT I (chD I2 47 w (nI v) sz) := fT.in chD_in
      refine r_iload dX6_bitsThatFit_6 rfl ?_
      refine r_iload dX6_bitsThatFit_8 rfl ?_
      refine r_nicmp_ge  (tgt := 48) dX6_bitsThatFit_10 (by decide) rfl rfl (by omega) (by omega) (fun h10 => absurd h10 (by omega)) (fun h10 => ?_)
      refine r_aload_n dX6_bitsThatFit_13 rfl ?_
      refine r_getR (b := 47) dX6_bitsThatFit_14 f_X6_19 (hsh.al rfl (by decide)) (Or.inr ⟨_, rfl⟩) (hsh.r 12 2 47 (by decide)) (by decide) ?_
      refine r_iload_n dX6_bitsThatFit_17 rfl ?_
      refine r_iload_n dX6_bitsThatFit_18 rfl ?_
      refine r_iload dX6_bitsThatFit_19 rfl ?_
      refine r_callV3I dX6_bitsThatFit_21 moX3_change w_446 w_447 w_448 (hsh.al rfl (by decide)) cl3 rfl (Nat.le_of_ble_eq_true rfl) (Nat.le_of_ble_eq_true rfl) (S_changeD hsh h47 hK2.1 hK2.2.1 (w := w) hw of _) ?_
      refine r_pop dX6_bitsThatFit_24 rfl ?_
      refine r_aload_n dX6_bitsThatFit_25 rfl ?_
      refine r_aload_n dX6_bitsThatFit_26 rfl ?_
      refine r_callV1N dX6_bitsThatFit_27 moX6_notAsListed w_683 w_685 s_23 (hsh.al rfl (by decide)) cl6 rfl (Nat.le_of_ble_eq_true rfl) (Nat.le_of_ble_eq_true rfl) (S_notAsListed hsh k2 (f2.tx hT) hrl (f2.ks hKS) hh (hS.fr hh f2)) (fun r n I3 J R hq => ?_)
      obtain ⟨rfl, rfl, rfl, fR, hL⟩ := hq
      refine r_some rfl ?_
      rw [f2.sheet hh (q := 1) (by decide)]
      refine r_zif_ne (tgt := 42) dX6_bitsThatFit_30 (by decide) (nz _) (by have := nalN_lt (x := plainN (up1 dl w v) tr (tv rl) sz (2 ^ sz - 1)) (it := I (h + 1)) hz; unfold fitN inZ; omega) (fun h30 => ?_) (fun h30 => ?_)
      · refine r_iincE (b := (v + 1)) dX6_bitsThatFit_42 rfl rfl (nI_succ _).symm rfl ?_
        refine r_goto (tgt := 6) dX6_bitsThatFit_45 (by decide) ?_
        have e2 : bitsN (fun v => decide (fitN (up1 dl w v) tr (tv rl) sz (I (h + 1)) = 0)) (v + 1) = bitsN (fun v => decide (fitN (up1 dl w v) tr (tv rl) sz (I (h + 1)) = 0)) v := by
          show (if decide (fitN (up1 dl w v) tr (tv rl) sz (I (h + 1)) = 0) = true then _ else _) = _
          exact if_neg (by rw [decide_eq_true_eq]; omega)
        have hg := ih (v + 1) v I3 _ (by omega) (hR.t fR) hL.1 (f2.t hL.2)
        rw [e2] at hg
        exact hg
      · refine r_iload dX6_bitsThatFit_33 rfl ?_
        refine r_iconst (v := 1) dX6_bitsThatFit_35 (by decide) ?_
        refine r_iload dX6_bitsThatFit_36 rfl ?_
        refine r_ishl dX6_bitsThatFit_38 ?_
        refine r_top (v := nI (2 ^ v)) (bit_sh2 v (by omega)) ?_
        refine r_ior dX6_bitsThatFit_39 ?_
        refine r_top (v := nI (bitsN (fun v => decide (fitN (up1 dl w v) tr (tv rl) sz (I (h + 1)) = 0)) v ||| 2 ^ v)) (nI_or _ _) ?_
        refine r_istore dX6_bitsThatFit_40 (by decide) rfl ?_
        refine r_iincE (b := (v + 1)) dX6_bitsThatFit_42 rfl rfl (nI_succ _).symm rfl ?_
        refine r_goto (tgt := 6) dX6_bitsThatFit_45 (by decide) ?_
        have e2 : bitsN (fun v => decide (fitN (up1 dl w v) tr (tv rl) sz (I (h + 1)) = 0)) (v + 1) = bitsN (fun v => decide (fitN (up1 dl w v) tr (tv rl) sz (I (h + 1)) = 0)) v ||| 2 ^ v := by
          show (if decide (fitN (up1 dl w v) tr (tv rl) sz (I (h + 1)) = 0) = true then _ else _) = _
          exact if_pos (by rw [decide_eq_true_eq]; omega)
        have hg := ih (v + 1) v I3 _ (by omega) (hR.t fR) hL.1 (f2.t hL.2)
        rw [e2] at hg
        exact hg
  refine r_iconst (v := 0) dX6_bitsThatFit_0 (by decide) ?_
  refine r_istore dX6_bitsThatFit_1 (by decide) rfl ?_
  refine r_iconst (v := 0) dX6_bitsThatFit_3 (by decide) ?_
  refine r_istore dX6_bitsThatFit_4 (by decide) rfl ?_
  exact loop bd 0 (dl w) I R (by omega) FrR.rf (by rw [up1_self]; exact hK) FrT.rf
set_option maxRecDepth 20000 in
set_option maxHeartbeats 4000000 in
theorem S_bitsThatFitT {g : GP} {d n : Nat} {I : TI} {J : TJ} {R : TR} {dl : Nat → Nat} {tr : Nat → Nat → Nat} {sz rl : Nat} {tc : Nat} {tv : Nat → TV} (hsh : Sh n R) (hK : SkyOK I 47 dl tr sz rl) (hT : TxOK I tc tv) (hrl : rl < tc) (hKS : KS I) {h : Nat} {so : Int} (hh : isSheet h) (hS : ShtAt I h so sz) {j k bd : Nat} (hj : j < 6) (hk : k < 7) (hbd : ∀ v, v < bd → v ≤ tB j) (hb10 : bd ≤ 10) : Wp g (d + 6) mX6_bitsThatFit 0 [.ref 12, .ref h, .int (nI (8 + j)), .int (nI k), .int (nI bd), .null, .null] [] 0 0 n I J R (PostN n J R (some (.int (nI (bitsN (fun v => decide (fitN dl (up2 tr j k v) (tv rl) sz (I (h + 1)) = 0)) bd)))) (fun I2 _ => FrT I I2)) := by
  have h47 : isSky 47 := Or.inr (Or.inr rfl)
  have hz := hK.2.1.2.2.1
  have loop : ∀ m v p I2 R2, v + m = bd → FrR R R2 → SkyOK I2 47 dl (up2 tr j k p) sz rl → FrT I I2 → Wp g (d + 6) mX6_bitsThatFit 6 [.ref 12, .ref h, .int (nI (8 + j)), .int (nI k), .int (nI bd), .int (nI (bitsN (fun v => decide (fitN dl (up2 tr j k v) (tv rl) sz (I (h + 1)) = 0)) v)), .int (nI v)] [] 0 0 n I2 J R2 (PostN n J R (some (.int (nI (bitsN (fun v => decide (fitN dl (up2 tr j k v) (tv rl) sz (I (h + 1)) = 0)) bd)))) (fun I2 _ => FrT I I2)) := by
    intro m
    induction m with
    | zero =>
      intro v p I2 R2 hi hR hK2 fT
      have e : v = bd := by omega
      subst e
      refine r_iload dX6_bitsThatFit_6 rfl ?_
      refine r_iload dX6_bitsThatFit_8 rfl ?_
      refine r_nicmp_ge  (tgt := 48) dX6_bitsThatFit_10 (by decide) rfl rfl (by omega) (by omega) (fun h10 => ?_) (fun h10 => absurd h10 (by omega))
      refine r_iload dX6_bitsThatFit_48 rfl ?_
      refine r_iret dX6_bitsThatFit_50 rfl ?_
      exact ⟨rfl, rfl, rfl, hR, fT⟩
    | succ m ih =>
      intro v p I2 R2 hi hR hK2 fT
      have hsh0 := hsh
      have hsh := hsh.fr hR
      obtain ⟨sl, hC⟩ := hK2.2.2
      have k2 := hK2.upT (j := j) (k := k) (v := v) hC hj hk (hbd v (by omega))
      rw [up2_up2] at k2
      have f2 : FrT I (chT I2 47 j k (nI v) sl) := fT.in (chT_in hj)
      refine r_iload dX6_bitsThatFit_6 rfl ?_
      refine r_iload dX6_bitsThatFit_8 rfl ?_
      refine r_nicmp_ge  (tgt := 48) dX6_bitsThatFit_10 (by decide) rfl rfl (by omega) (by omega) (fun h10 => absurd h10 (by omega)) (fun h10 => ?_)
      refine r_aload_n dX6_bitsThatFit_13 rfl ?_
      refine r_getR (b := 47) dX6_bitsThatFit_14 f_X6_19 (hsh.al rfl (by decide)) (Or.inr ⟨_, rfl⟩) (hsh.r 12 2 47 (by decide)) (by decide) ?_
      refine r_iload_n dX6_bitsThatFit_17 rfl ?_
      refine r_iload_n dX6_bitsThatFit_18 rfl ?_
      refine r_iload dX6_bitsThatFit_19 rfl ?_
      refine r_callV3I dX6_bitsThatFit_21 moX3_change w_446 w_447 w_448 (hsh.al rfl (by decide)) cl3 rfl (Nat.le_of_ble_eq_true rfl) (Nat.le_of_ble_eq_true rfl) (S_changeT hsh h47 hK2.1 hK2.2.1 (j := j) (k := k) (sl := sl) hj hk _ hC.1) ?_
      refine r_pop dX6_bitsThatFit_24 rfl ?_
      refine r_aload_n dX6_bitsThatFit_25 rfl ?_
      refine r_aload_n dX6_bitsThatFit_26 rfl ?_
      refine r_callV1N dX6_bitsThatFit_27 moX6_notAsListed w_683 w_685 s_23 (hsh.al rfl (by decide)) cl6 rfl (Nat.le_of_ble_eq_true rfl) (Nat.le_of_ble_eq_true rfl) (S_notAsListed hsh k2 (f2.tx hT) hrl (f2.ks hKS) hh (hS.fr hh f2)) (fun r n I3 J R hq => ?_)
      obtain ⟨rfl, rfl, rfl, fR, hL⟩ := hq
      refine r_some rfl ?_
      rw [f2.sheet hh (q := 1) (by decide)]
      refine r_zif_ne (tgt := 42) dX6_bitsThatFit_30 (by decide) (nz _) (by have := nalN_lt (x := plainN dl (up2 tr j k v) (tv rl) sz (2 ^ sz - 1)) (it := I (h + 1)) hz; unfold fitN inZ; omega) (fun h30 => ?_) (fun h30 => ?_)
      · refine r_iincE (b := (v + 1)) dX6_bitsThatFit_42 rfl rfl (nI_succ _).symm rfl ?_
        refine r_goto (tgt := 6) dX6_bitsThatFit_45 (by decide) ?_
        have e2 : bitsN (fun v => decide (fitN dl (up2 tr j k v) (tv rl) sz (I (h + 1)) = 0)) (v + 1) = bitsN (fun v => decide (fitN dl (up2 tr j k v) (tv rl) sz (I (h + 1)) = 0)) v := by
          show (if decide (fitN dl (up2 tr j k v) (tv rl) sz (I (h + 1)) = 0) = true then _ else _) = _
          exact if_neg (by rw [decide_eq_true_eq]; omega)
        have hg := ih (v + 1) v I3 _ (by omega) (hR.t fR) hL.1 (f2.t hL.2)
        rw [e2] at hg
        exact hg
      · refine r_iload dX6_bitsThatFit_33 rfl ?_
        refine r_iconst (v := 1) dX6_bitsThatFit_35 (by decide) ?_
        refine r_iload dX6_bitsThatFit_36 rfl ?_
        refine r_ishl dX6_bitsThatFit_38 ?_
        refine r_top (v := nI (2 ^ v)) (bit_sh2 v (by omega)) ?_
        refine r_ior dX6_bitsThatFit_39 ?_
        refine r_top (v := nI (bitsN (fun v => decide (fitN dl (up2 tr j k v) (tv rl) sz (I (h + 1)) = 0)) v ||| 2 ^ v)) (nI_or _ _) ?_
        refine r_istore dX6_bitsThatFit_40 (by decide) rfl ?_
        refine r_iincE (b := (v + 1)) dX6_bitsThatFit_42 rfl rfl (nI_succ _).symm rfl ?_
        refine r_goto (tgt := 6) dX6_bitsThatFit_45 (by decide) ?_
        have e2 : bitsN (fun v => decide (fitN dl (up2 tr j k v) (tv rl) sz (I (h + 1)) = 0)) (v + 1) = bitsN (fun v => decide (fitN dl (up2 tr j k v) (tv rl) sz (I (h + 1)) = 0)) v ||| 2 ^ v := by
          show (if decide (fitN dl (up2 tr j k v) (tv rl) sz (I (h + 1)) = 0) = true then _ else _) = _
          exact if_pos (by rw [decide_eq_true_eq]; omega)
        have hg := ih (v + 1) v I3 _ (by omega) (hR.t fR) hL.1 (f2.t hL.2)
        rw [e2] at hg
        exact hg
  refine r_iconst (v := 0) dX6_bitsThatFit_0 (by decide) ?_
  refine r_istore dX6_bitsThatFit_1 (by decide) rfl ?_
  refine r_iconst (v := 0) dX6_bitsThatFit_3 (by decide) ?_
  refine r_istore dX6_bitsThatFit_4 (by decide) rfl ?_
  exact loop bd 0 (tr j k) I R (by omega) FrR.rf (by rw [up2_self]; exact hK) FrT.rf
set_option maxRecDepth 20000 in
set_option maxHeartbeats 4000000 in
theorem S_textsThatFit {g : GP} {d n : Nat} {I : TI} {J : TJ} {R : TR} {dl : Nat → Nat} {tr : Nat → Nat → Nat} {sz rl : Nat} {tc : Nat} {tv : Nat → TV} (hsh : Sh n R) (hK : SkyOK I 47 dl tr sz rl) (hT : TxOK I tc tv) (hrl : rl < tc) (hKS : KS I) {h : Nat} {so : Int} (hh : isSheet h) (hS : ShtAt I h so sz) (htc : I 12 6 = nI tc) : Wp g (d + 6) mX6_textsThatFit 0 [.ref 12, .ref h, .null, .null] [] 0 0 n I J R (PostN n J R (some (.int (nI (bitsN (fun v => decide (fitN dl tr (tv v) sz (I (h + 1)) = 0)) tc)))) (fun I2 _ => FrT I I2)) := by
  have h47 : isSky 47 := Or.inr (Or.inr rfl)
  have hz := hK.2.1.2.2.1
  have h6 := hT.1
  have loop : ∀ m v p I2 R2, v + m = tc → FrR R R2 → SkyOK I2 47 dl tr sz p → FrT I I2 → Wp g (d + 6) mX6_textsThatFit 4 [.ref 12, .ref h, .int (nI (bitsN (fun v => decide (fitN dl tr (tv v) sz (I (h + 1)) = 0)) v)), .int (nI v)] [] 0 0 n I2 J R2 (PostN n J R (some (.int (nI (bitsN (fun v => decide (fitN dl tr (tv v) sz (I (h + 1)) = 0)) tc)))) (fun I2 _ => FrT I I2)) := by
    intro m
    induction m with
    | zero =>
      intro v p I2 R2 hi hR hK2 fT
      have hsh := hsh.fr hR
      have htc2 : I2 12 6 = nI tc := by rw [fT 12 (by unfold inS; omega) (by decide)]; exact htc
      have e : v = tc := by omega
      subst e
      refine r_iload_n dX6_textsThatFit_4 rfl ?_
      refine r_aload_n dX6_textsThatFit_5 rfl ?_
      refine r_getIE dX6_textsThatFit_6 f_X6_39 (hsh.al rfl (by decide)) (Or.inl rfl) htc2 ?_
      refine r_nicmp_ge  (tgt := 40) dX6_textsThatFit_9 (by decide) rfl rfl (by omega) (by omega) (fun h9 => ?_) (fun h9 => absurd h9 (by omega))
      refine r_iload_n dX6_textsThatFit_40 rfl ?_
      refine r_iret dX6_textsThatFit_41 rfl ?_
      exact ⟨rfl, rfl, rfl, hR, fT⟩
    | succ m ih =>
      intro v p I2 R2 hi hR hK2 fT
      have hsh0 := hsh
      have hsh := hsh.fr hR
      have htc2 : I2 12 6 = nI tc := by rw [fT 12 (by unfold inS; omega) (by decide)]; exact htc
      have k2 := hK2.upRl (v := v) (by omega)
      have f2 : FrT I (up2 I2 47 11 (nI v)) := fT.in fun a ha => up2_a _ _ _ (fun e => ha (by subst e; unfold inS; omega))
      refine r_iload_n dX6_textsThatFit_4 rfl ?_
      refine r_aload_n dX6_textsThatFit_5 rfl ?_
      refine r_getIE dX6_textsThatFit_6 f_X6_39 (hsh.al rfl (by decide)) (Or.inl rfl) htc2 ?_
      refine r_nicmp_ge  (tgt := 40) dX6_textsThatFit_9 (by decide) rfl rfl (by omega) (by omega) (fun h9 => absurd h9 (by omega)) (fun h9 => ?_)
      refine r_aload_n dX6_textsThatFit_12 rfl ?_
      refine r_getR (b := 47) dX6_textsThatFit_13 f_X6_19 (hsh.al rfl (by decide)) (Or.inr ⟨_, rfl⟩) (hsh.r 12 2 47 (by decide)) (by decide) ?_
      refine r_iload_n dX6_textsThatFit_16 rfl ?_
      refine r_putI dX6_textsThatFit_17 f_X6_111 (hsh.al rfl (by decide)) (Or.inl rfl) rfl ?_
      refine r_aload_n dX6_textsThatFit_20 rfl ?_
      refine r_aload_n dX6_textsThatFit_21 rfl ?_
      refine r_callV1N dX6_textsThatFit_22 moX6_notAsListed w_683 w_685 s_23 (hsh.al rfl (by decide)) cl6 rfl (Nat.le_of_ble_eq_true rfl) (Nat.le_of_ble_eq_true rfl) (S_notAsListed hsh k2 (f2.tx hT) (show v < tc by omega) (f2.ks hKS) hh (hS.fr hh f2)) (fun r n I3 J R hq => ?_)
      obtain ⟨rfl, rfl, rfl, fR, hL⟩ := hq
      refine r_some rfl ?_
      rw [f2.sheet hh (q := 1) (by decide)]
      refine r_zif_ne (tgt := 34) dX6_textsThatFit_25 (by decide) (nz _) (by have := nalN_lt (x := plainN dl tr (tv v) sz (2 ^ sz - 1)) (it := I (h + 1)) hz; unfold fitN inZ; omega) (fun h25 => ?_) (fun h25 => ?_)
      · refine r_iincE (b := (v + 1)) dX6_textsThatFit_34 rfl rfl (nI_succ _).symm rfl ?_
        refine r_goto (tgt := 4) dX6_textsThatFit_37 (by decide) ?_
        have e2 : bitsN (fun v => decide (fitN dl tr (tv v) sz (I (h + 1)) = 0)) (v + 1) = bitsN (fun v => decide (fitN dl tr (tv v) sz (I (h + 1)) = 0)) v := by
          show (if decide (fitN dl tr (tv v) sz (I (h + 1)) = 0) = true then _ else _) = _
          exact if_neg (by rw [decide_eq_true_eq]; omega)
        have hg := ih (v + 1) v I3 _ (by omega) (hR.t fR) hL.1 (f2.t hL.2)
        rw [e2] at hg
        exact hg
      · refine r_iload_n dX6_textsThatFit_28 rfl ?_
        refine r_iconst (v := 1) dX6_textsThatFit_29 (by decide) ?_
        refine r_iload_n dX6_textsThatFit_30 rfl ?_
        refine r_ishl dX6_textsThatFit_31 ?_
        refine r_top (v := nI (2 ^ v)) (bit_sh2 v (by omega)) ?_
        refine r_ior dX6_textsThatFit_32 ?_
        refine r_top (v := nI (bitsN (fun v => decide (fitN dl tr (tv v) sz (I (h + 1)) = 0)) v ||| 2 ^ v)) (nI_or _ _) ?_
        refine r_istore_n dX6_textsThatFit_33 (by decide) rfl ?_
        refine r_iincE (b := (v + 1)) dX6_textsThatFit_34 rfl rfl (nI_succ _).symm rfl ?_
        refine r_goto (tgt := 4) dX6_textsThatFit_37 (by decide) ?_
        have e2 : bitsN (fun v => decide (fitN dl tr (tv v) sz (I (h + 1)) = 0)) (v + 1) = bitsN (fun v => decide (fitN dl tr (tv v) sz (I (h + 1)) = 0)) v ||| 2 ^ v := by
          show (if decide (fitN dl tr (tv v) sz (I (h + 1)) = 0) = true then _ else _) = _
          exact if_pos (by rw [decide_eq_true_eq]; omega)
        have hg := ih (v + 1) v I3 _ (by omega) (hR.t fR) hL.1 (f2.t hL.2)
        rw [e2] at hg
        exact hg
  refine r_iconst (v := 0) dX6_textsThatFit_0 (by decide) ?_
  refine r_istore_n dX6_textsThatFit_1 (by decide) rfl ?_
  refine r_iconst (v := 0) dX6_textsThatFit_2 (by decide) ?_
  refine r_istore_n dX6_textsThatFit_3 (by decide) rfl ?_
  exact loop tc 0 rl I R (by omega) FrR.rf hK FrT.rf
