/-! the sky set, told, kept; sheets -/
def wSky (σ : CSt) (dl : Nat → Nat) (tr : Nat → Nat → Nat) (sz rl : Nat) : CSt := (dl, tr, sz, rl, qhas σ, qkd σ, qkt σ, qkz σ, qkr σ, qtc σ, qtv σ, qso σ, qzs σ, qit σ, qtn σ, qtb σ)
def wImg (σ : CSt) : CSt := (qdl σ, qtr σ, qsz σ, qrl σ, true, qdl σ, qtr σ, qsz σ, qrl σ, qtc σ, qtv σ, qso σ, qzs σ, qit σ, qtn σ, qtb σ)
def wSh (σ : CSt) (s : Nat) (so : Int) (z : Nat) (it : Nat → Int32) : CSt := (qdl σ, qtr σ, qsz σ, qrl σ, qhas σ, qkd σ, qkt σ, qkz σ, qkr σ, qtc σ, qtv σ, (fun i => if i = s then so else qso σ i), (fun i => if i = s then z else qzs σ i), (fun i => if i = s then it else qit σ i), qtn σ, qtb σ)
def wTape (σ : CSt) (tn : Nat) (tb : Nat → Nat) : CSt := (qdl σ, qtr σ, qsz σ, qrl σ, qhas σ, qkd σ, qkt σ, qkz σ, qkr σ, qtc σ, qtv σ, qso σ, qzs σ, qit σ, tn, tb)
section XW
variable {n n2 : Nat} {I I2 : TI} {J : TJ} {R R2 : TR} {σ : CSt} {v : Value}
theorem CS.frS (h : CS n I R σ) (hs : Sh n2 R2) {dl : Nat → Nat} {tr : Nat → Nat → Nat} {sz rl : Nat} (hK : SkyOK I2 13 dl tr sz rl) (hrl : rl < qtc σ) (hF : FrB I I2) : CS n2 I2 R2 (wSky σ dl tr sz rl) := by
  have hh : ∀ a, a < 12 → I2 a = I a := fun a ha => hF a (by omega) (by unfold inS; omega) (by unfold inS; omega) (by omega)
  have h12 : I2 12 = I 12 := hF 12 (by omega) (by unfold inS; omega) (by unfold inS; omega) (by omega)
  have hm : ∀ a, 64 ≤ a → a < 97 → I2 a = I a := fun a h1 h2 => hF a (by omega) (by unfold inS; omega) (by unfold inS; omega) (by omega)
  exact ⟨hs, hK, hrl, h.tx.fr fun a h1 h2 => hm a (by omega) (by omega), ⟨fun p hp => by rw [hh _ (by decide)]; exact h.ks.1 p hp, fun p hp => by rw [hh _ (by decide)]; exact h.ks.2 p hp⟩,
          fun k hk => by rw [hh _ (by decide)]; exact h.ka k hk, fun j hj => by rw [hh _ (by decide)]; exact h.mo j hj, by rw [h12]; exact h.tcI, by rw [h12]; exact h.hasI,
          fun hb => ⟨(h.img hb).1.out fun a ha => hF a (by unfold inS at ha; omega) (by unfold inS at *; omega) (by unfold inS at *; omega) (by unfold inS at ha; omega), (h.img hb).2⟩,
          fun i hi => by
            obtain ⟨⟨s0, s1, s2⟩, hj⟩ := h.sht i hi
            have e1 : I2 (89 + 2 * i) = I (89 + 2 * i) := hm _ (by omega) (by omega)
            have e2 : I2 (89 + 2 * i + 1) = I (89 + 2 * i + 1) := hm _ (by omega) (by omega)
            exact ⟨⟨by rw [e1]; exact s0, by rw [e1]; exact s1, s2⟩, fun j hj2 => by rw [e2]; exact hj j hj2⟩,
          by rw [hm 64 (by decide) (by decide)]; exact h.tnI, h.tnB, fun j hj => by rw [hm 65 (by decide) (by decide)]; exact h.tbI j hj, h.str.fr hh⟩
theorem CS.imgU (h : CS n I R σ) (hF : ∀ a, ¬ inS 30 a → a ≠ 12 → I2 a = I a) (h12 : I2 12 6 = I 12 6) (h1 : I2 12 3 = 1) (hK : SkyOK I2 30 (qdl σ) (qtr σ) (qsz σ) (qrl σ)) : CS n I2 R (wImg σ) := by
  have hh : ∀ a, a < 12 → I2 a = I a := fun a ha => hF a (by unfold inS; omega) (by omega)
  have hm : ∀ a, 64 ≤ a → I2 a = I a := fun a h1 => hF a (by unfold inS; omega) (by omega)
  exact ⟨h.sh, h.k13.out fun a ha => hF a (by unfold inS at *; omega) (by unfold inS at ha; omega), h.rlt, h.tx.fr fun a h1 h2 => hm a (by omega), ⟨fun p hp => by rw [hh _ (by decide)]; exact h.ks.1 p hp, fun p hp => by rw [hh _ (by decide)]; exact h.ks.2 p hp⟩,
          fun k hk => by rw [hh _ (by decide)]; exact h.ka k hk, fun j hj => by rw [hh _ (by decide)]; exact h.mo j hj, by rw [h12]; exact h.tcI, h1,
          fun _ => ⟨hK, h.rlt⟩,
          fun i hi => by
            obtain ⟨⟨s0, s1, s2⟩, hj⟩ := h.sht i hi
            have e1 : I2 (89 + 2 * i) = I (89 + 2 * i) := hm _ (by omega)
            have e2 : I2 (89 + 2 * i + 1) = I (89 + 2 * i + 1) := hm _ (by omega)
            exact ⟨⟨by rw [e1]; exact s0, by rw [e1]; exact s1, s2⟩, fun j hj2 => by rw [e2]; exact hj j hj2⟩,
          by rw [hm 64 (by decide)]; exact h.tnI, h.tnB, fun j hj => by rw [hm 65 (by decide)]; exact h.tbI j hj, h.str.fr hh⟩
theorem CS.shU (h : CS n I R σ) {s z : Nat} {so : Int} {it : Nat → Int32} (hs : s < 4) (hF : ∀ a, a ≠ 89 + 2 * s → a ≠ 89 + 2 * s + 1 → I2 a = I a) (hS : ShtAt I2 (89 + 2 * s) so z) (hi : ∀ j, j < 40 → I2 (89 + 2 * s + 1) j = it j) : CS n I2 R (wSh σ s so z it) := by
  have hh : ∀ a, a < 89 → I2 a = I a := fun a ha => hF a (by omega) (by omega)
  exact ⟨h.sh, h.k13.out fun a ha => hh a (by unfold inS at ha; omega), h.rlt, h.tx.fr fun a h1 h2 => hh a (by omega), ⟨fun p hp => by rw [hh _ (by decide)]; exact h.ks.1 p hp, fun p hp => by rw [hh _ (by decide)]; exact h.ks.2 p hp⟩,
          fun k hk => by rw [hh _ (by decide)]; exact h.ka k hk, fun j hj => by rw [hh _ (by decide)]; exact h.mo j hj, by rw [hh 12 (by decide)]; exact h.tcI, by rw [hh 12 (by decide)]; exact h.hasI,
          fun hb => ⟨(h.img hb).1.out fun a ha => hh a (by unfold inS at ha; omega), (h.img hb).2⟩,
          fun i hi4 => by
            by_cases e : i = s
            · subst e
              exact ⟨by show ShtAt I2 _ (if i = i then so else _) (if i = i then z else _); rw [if_pos rfl, if_pos rfl]; exact hS, fun j hj => by show _ = (if i = i then it else _) j; rw [if_pos rfl]; exact hi j hj⟩
            · obtain ⟨⟨s0, s1, s2⟩, hj⟩ := h.sht i hi4
              have e1 : I2 (89 + 2 * i) = I (89 + 2 * i) := hF _ (by omega) (by omega)
              have e2 : I2 (89 + 2 * i + 1) = I (89 + 2 * i + 1) := hF _ (by omega) (by omega)
              exact ⟨by show ShtAt I2 _ (if i = s then so else _) (if i = s then z else _); rw [if_neg e, if_neg e]; exact ⟨by rw [e1]; exact s0, by rw [e1]; exact s1, s2⟩, fun j hj2 => by show _ = (if i = s then it else _) j; rw [if_neg e, e2]; exact hj j hj2⟩,
          by rw [hh 64 (by decide)]; exact h.tnI, h.tnB, fun j hj => by rw [hh 65 (by decide)]; exact h.tbI j hj, h.str.fr fun a ha => hh a (by omega)⟩
theorem CS.tapeU (h : CS n I R σ) {tn : Nat} {tb : Nat → Nat} (hF : ∀ a, a ≠ 64 → a ≠ 65 → I2 a = I a) (h1 : I2 64 1 = nI tn) (h2 : tn ≤ 160) (h3 : ∀ j, j < tn → I2 65 j = nI (tb j) ∧ tb j < 256) : CS n I2 R (wTape σ tn tb) := by
  have hh : ∀ a, a < 64 → I2 a = I a := fun a ha => hF a (by omega) (by omega)
  have hm : ∀ a, 66 ≤ a → I2 a = I a := fun a ha => hF a (by omega) (by omega)
  exact ⟨h.sh, h.k13.out fun a ha => hh a (by unfold inS at ha; omega), h.rlt, h.tx.fr fun a h1 h2 => hm a (by omega), ⟨fun p hp => by rw [hh _ (by decide)]; exact h.ks.1 p hp, fun p hp => by rw [hh _ (by decide)]; exact h.ks.2 p hp⟩,
          fun k hk => by rw [hh _ (by decide)]; exact h.ka k hk, fun j hj => by rw [hh _ (by decide)]; exact h.mo j hj, by rw [hh 12 (by decide)]; exact h.tcI, by rw [hh 12 (by decide)]; exact h.hasI,
          fun hb => ⟨(h.img hb).1.out fun a ha => hh a (by unfold inS at ha; omega), (h.img hb).2⟩,
          fun i hi => by
            obtain ⟨⟨s0, s1, s2⟩, hj⟩ := h.sht i hi
            have e1 : I2 (89 + 2 * i) = I (89 + 2 * i) := hm _ (by omega)
            have e2 : I2 (89 + 2 * i + 1) = I (89 + 2 * i + 1) := hm _ (by omega)
            exact ⟨⟨by rw [e1]; exact s0, by rw [e1]; exact s1, s2⟩, fun j hj2 => by rw [e2]; exact hj j hj2⟩,
          h1, h2, h3, h.str.fr fun a ha => hh a (by omega)⟩
theorem PB.to {σ2 : CSt} (h : CS n I2 R2 σ2) (hF : ∀ a, 102 ≤ a → a < 118 → I2 a = I a ∧ R2 a = R a) : PB n I J R v σ2 (some v) n I2 J R2 := ⟨rfl, Nat.le_refl _, Nat.le_succ _, h, fun a h1 h2 => ⟨(hF a h1 h2).1, rfl, (hF a h1 h2).2⟩⟩
theorem PB.toI {σ2 : CSt} (h : CS n I2 R σ2) (hF : ∀ a, 102 ≤ a → I2 a = I a) : PB n I J R v σ2 (some v) n I2 J R := PB.to h fun a h1 _ => ⟨hF a h1, rfl⟩
end XW
theorem wSky_self (σ : CSt) : wSky σ (qdl σ) (qtr σ) (qsz σ) (qrl σ) = σ := rfl
def toldV (σ : CSt) (f w : Int) : Int := if 0 ≤ w ∧ w < 15 ∧ (8 ≤ w → 0 ≤ f ∧ f < qsz σ) then (if w = 14 then (payN (qtr σ) f.toNat : Nat) else if w < 8 then (qdl σ w.toNat : Nat) else (qtr σ (w.toNat - 8) f.toNat : Nat)) else -2
def shinV (σ : CSt) (k t w : Int) : Int := if 0 ≤ k ∧ k < qsz σ ∧ 0 ≤ t ∧ t < 200 ∧ 0 ≤ w ∧ w < 2 then (if (if w = 0 then upN (qtr σ) k.toNat t.toNat else clN (qdl σ) (qtr σ) k.toNat t.toNat) = true then 1 else 0) else -2
def setAV (σ : CSt) (a b c : Int) : Int := if alZ (qtr σ) (qsz σ) a b c = true then (if a < 8 then (qdl σ a.toNat : Nat) else (qtr σ (a.toNat - 8) b.toNat : Nat)) else -2
def setS (σ : CSt) (a b c : Int) : CSt := if alZ (qtr σ) (qsz σ) a b c = true then (if a < 8 then wSky σ (up1 (qdl σ) a.toNat c.toNat) (qtr σ) (qsz σ) (qrl σ) else wSky σ (qdl σ) (up2 (qtr σ) (a.toNat - 8) b.toNat c.toNat) (qsz σ) (qrl σ)) else σ
def sighV (σ : CSt) (a b c : Int) : Int := if 0 ≤ a ∧ a < 6 ∧ 0 ≤ b ∧ b < 10 ∧ 0 ≤ c ∧ c < 100 then (if qsz σ = 7 then -4 else (qsz σ : Nat)) else -2
def sighS (σ : CSt) (a b c : Int) : CSt := if (0 ≤ a ∧ a < 6 ∧ 0 ≤ b ∧ b < 10 ∧ 0 ≤ c ∧ c < 100) ∧ qsz σ ≠ 7 then wSky σ (qdl σ) (addTr (qtr σ) (qsz σ) a.toNat b.toNat c.toNat) (qsz σ + 1) (qrl σ) else σ
def takeV (σ : CSt) (a k : Int) : Int := if 0 ≤ k ∧ k < 6 then (if 0 ≤ a ∧ a < qsz σ then (if isKN (qtr σ 5 a.toNat) k.toNat = true then (qtr σ 0 a.toNat : Nat) else -13) else -11) else -2
def forcV (σ : CSt) (t : Int) : Int := if 0 ≤ t ∧ t < qtc σ then (qrl σ : Nat) else -2
def forcS (σ : CSt) (t : Int) : CSt := if 0 ≤ t ∧ t < qtc σ then wSky σ (qdl σ) (qtr σ) (qsz σ) t.toNat else σ
def counV (σ : CSt) (w : Int) : Int := if w = 0 then (qsz σ : Nat) else if w = 1 then (qtc σ : Nat) else if w = 2 then (qtn σ : Nat) else if w = 3 then (qrl σ : Nat) else -2
def backV (σ : CSt) : Int := if qhas σ = true then (qkz σ : Nat) else -3
def backS (σ : CSt) : CSt := if qhas σ = true then wSky σ (qkd σ) (qkt σ) (qkz σ) (qkr σ) else σ
def sheeV (s so m : Int) : Int := if 0 ≤ s ∧ s < 4 ∧ -1 ≤ so ∧ so ≤ 2 then (if so = -1 then 1 else if 40 < m then -2 else if m < 0 then -14 else 1) else -2
def sheeS (σ : CSt) (s so m : Int) : CSt := if 0 ≤ s ∧ s < 4 ∧ -1 ≤ so ∧ so ≤ 2 then (if so = -1 then wSh σ s.toNat (-1) 0 (fun _ => 0) else if 40 < m then σ else if m < 0 then σ else wSh σ s.toNat so m.toNat (fun _ => 0)) else σ
def upI (f : Nat → Int32) (k : Nat) (v : Int32) : Nat → Int32 := fun j => if j = k then v else f j
def cellV (σ : CSt) (s i : Int) : Int := if 0 ≤ s ∧ s < 4 then (if qso σ s.toNat = -1 then -11 else if 0 ≤ i ∧ i < qzs σ s.toNat then 1 else -12) else -2
def cellS (σ : CSt) (s i : Int) (v : Int32) : CSt := if 0 ≤ s ∧ s < 4 then (if qso σ s.toNat = -1 then σ else if 0 ≤ i ∧ i < qzs σ s.toNat then wSh σ s.toNat (qso σ s.toNat) (qzs σ s.toNat) (upI (qit σ s.toNat) i.toNat (narS (qso σ s.toNat) v)) else σ) else σ
def copyB (σ : CSt) (s i o j m : Int) : Int := if 0 ≤ s ∧ s < 4 ∧ 0 ≤ o ∧ o < 4 then (if qso σ s.toNat = -1 ∨ qso σ o.toNat = -1 then -11 else if qso σ s.toNat ≠ qso σ o.toNat then -13 else if 0 ≤ i ∧ 0 ≤ m ∧ i ≤ qzs σ s.toNat ∧ m ≤ qzs σ s.toNat - i ∧ 0 ≤ j ∧ j ≤ qzs σ o.toNat ∧ m ≤ qzs σ o.toNat - j then m else -12) else -2
def copyS (σ : CSt) (s i o j m : Int) : CSt := if 0 ≤ s ∧ s < 4 ∧ 0 ≤ o ∧ o < 4 then (if qso σ s.toNat = -1 ∨ qso σ o.toNat = -1 then σ else if qso σ s.toNat ≠ qso σ o.toNat then σ else if 0 ≤ i ∧ 0 ≤ m ∧ i ≤ qzs σ s.toNat ∧ m ≤ qzs σ s.toNat - i ∧ 0 ≤ j ∧ j ≤ qzs σ o.toNat ∧ m ≤ qzs σ o.toNat - j then wSh σ o.toNat (qso σ o.toNat) (qzs σ o.toNat) (va_cpy (qit σ s.toNat) (qit σ o.toNat) i.toNat j.toNat m.toNat) else σ) else σ
def feedV (σ : CSt) (b : Int) : Int := if 0 ≤ b ∧ b < 256 then (if qtn σ = 160 then -4 else ((qtn σ + 1 : Nat) : Int)) else -2
def feedS (σ : CSt) (b : Int) : CSt := if (0 ≤ b ∧ b < 256) ∧ qtn σ ≠ 160 then wTape σ (qtn σ + 1) (up1 (qtb σ) (qtn σ) b.toNat) else σ
def filmS (σ : CSt) (s : Int) : CSt := if 0 ≤ s ∧ s < 4 then wSh σ s.toNat 1 (qsz σ) (fun j => if j < qsz σ then zI (nFi (plC σ) j) else 0) else σ
set_option maxRecDepth 20000 in
set_option maxHeartbeats 4000000 in
theorem S_told {g : GP} {d n : Nat} {I : TI} {J : TJ} {R : TR} {σ : CSt} (hC : CS n I R σ) {f w : Int} (hf : inZ f) (hw : inZ w) : Wp g (d + 3) mX6_told 0 [.ref 12, .int (zI f), .int (zI w)] [] 0 0 n I J R (PB n I J R (.int (zI (toldV σ f w))) σ) := by
  have hsh := hC.sh
  have hA := hC.k13.1
  have wf := hC.k13.2.1
  have hz := wf.2.2.1
  have h13 : isSky 13 := Or.inl rfl
  have h30 : isSky 30 := Or.inr (Or.inl rfl)
  have h47 : isSky 47 := Or.inr (Or.inr rfl)
  have hn := hsh.1
  have e1 : bw (zI w) 15 = decide (0 ≤ w ∧ w < (15 : Nat)) := bw_z rfl hw (by decide)
  have e2 : bw (zI f) (nI (qsz σ)) = decide (0 ≤ f ∧ f < (qsz σ : Nat)) := bw_z rfl hf (by omega)
  refine r_iload_n dX6_told_0 rfl ?_
  refine r_bipush (v := 15) dX6_told_1 (by decide) ?_
  refine r_callS2I dX6_told_3 moX6_isBelow w_458 w_400 (Nat.le_of_ble_eq_true rfl) (Nat.le_of_ble_eq_true rfl) (S_isBelow _ _) ?_
  refine r_ifb_eq (tgt := 29) dX6_told_6 (by decide) (fun h6 => ?_) (fun h6 => ?_)
  · rw [e1, decide_eq_false_iff_not] at h6
    refine r_bipush (v := (-2)) dX6_told_29 (by decide) ?_
    refine r_iret dX6_told_31 rfl ?_
    have e0 : toldV σ f w = -2 := if_neg (by omega)
    rw [e0]
    exact PB.rf hC
  · rw [e1, decide_eq_true_eq] at h6
    refine r_iload_n dX6_told_9 rfl ?_
    refine r_bipush (v := 8) dX6_told_10 (by decide) ?_
    refine r_zicmp_lt (b := 8)  (tgt := 32) dX6_told_12 (by decide) rfl (by decide) hw (by unfold inZ; omega) (fun h12 => ?_) (fun h12 => ?_)
    · refine r_iload_n dX6_told_32 rfl ?_
      refine r_bipush (v := 14) dX6_told_33 (by decide) ?_
      refine r_zicmp_ne (b := 14)  (tgt := 49) dX6_told_35 (by decide) rfl (by decide) hw (by unfold inZ; omega) (fun h35 => ?_) (fun h35 => absurd h35 (by omega))
      obtain ⟨w0, ew0⟩ := Int.eq_ofNat_of_zero_le (show 0 ≤ w by omega)
      subst ew0
      rw [← nz w0]
      refine r_aload_n dX6_told_49 rfl ?_
      refine r_getR (b := 13) dX6_told_50 f_X6_10 (hsh.al rfl (by decide)) (Or.inr ⟨_, rfl⟩) (hsh.r 12 0 13 (by decide)) (by decide) ?_
      refine r_iload_n dX6_told_53 rfl ?_
      refine r_iload_n dX6_told_54 rfl ?_
      refine r_callV2I dX6_told_55 moX3_get w_472 w_443 w_444 (hsh.al rfl (by decide)) cl3 rfl (Nat.le_of_ble_eq_true rfl) (Nat.le_of_ble_eq_true rfl) (S_getD hsh h13 hA wf (w := w0) (by omega) _) ?_
      refine r_iret dX6_told_58 rfl ?_
      have e0 : toldV σ f w0 = (qdl σ w0 : Nat) := by unfold toldV; rw [if_pos (by omega), if_neg (by omega), if_pos (by omega)]; rfl
      rw [e0, ← nz]
      exact PB.rf hC
    · refine r_iload_n dX6_told_15 rfl ?_
      refine r_aload_n dX6_told_16 rfl ?_
      refine r_getR (b := 13) dX6_told_17 f_X6_10 (hsh.al rfl (by decide)) (Or.inr ⟨_, rfl⟩) (hsh.r 12 0 13 (by decide)) (by decide) ?_
      refine r_getIE dX6_told_20 f_X6_95 (hsh.al rfl (by decide)) (Or.inl rfl) hA.2.2.1 ?_
      refine r_callS2I dX6_told_23 moX6_isBelow w_458 w_400 (Nat.le_of_ble_eq_true rfl) (Nat.le_of_ble_eq_true rfl) (S_isBelow _ _) ?_
      refine r_ifb_ne (tgt := 32) dX6_told_26 (by decide) (fun h26 => ?_) (fun h26 => ?_)
      · rw [e2, decide_eq_true_eq] at h26
        refine r_iload_n dX6_told_32 rfl ?_
        refine r_bipush (v := 14) dX6_told_33 (by decide) ?_
        refine r_zicmp_ne (b := 14)  (tgt := 49) dX6_told_35 (by decide) rfl (by decide) hw (by unfold inZ; omega) (fun h35 => ?_) (fun h35 => ?_)
        · obtain ⟨f0, ef0⟩ := Int.eq_ofNat_of_zero_le (show 0 ≤ f by omega)
          subst ef0
          rw [← nz f0]
          obtain ⟨j, ej⟩ := Int.eq_ofNat_of_zero_le (show 0 ≤ w - 8 by omega)
          have ew : w = ((8 + j : Nat) : Int) := by omega
          subst ew
          rw [← nz (8 + j)]
          refine r_aload_n dX6_told_49 rfl ?_
          refine r_getR (b := 13) dX6_told_50 f_X6_10 (hsh.al rfl (by decide)) (Or.inr ⟨_, rfl⟩) (hsh.r 12 0 13 (by decide)) (by decide) ?_
          refine r_iload_n dX6_told_53 rfl ?_
          refine r_iload_n dX6_told_54 rfl ?_
          refine r_callV2I dX6_told_55 moX3_get w_472 w_443 w_444 (hsh.al rfl (by decide)) cl3 rfl (Nat.le_of_ble_eq_true rfl) (Nat.le_of_ble_eq_true rfl) (S_getT hsh h13 hA wf (j := j) (k := f0) (by omega) (by omega)) ?_
          refine r_iret dX6_told_58 rfl ?_
          have e0 : toldV σ f0 ((8 + j : Nat) : Int) = (qtr σ j f0 : Nat) := by
            unfold toldV
            rw [if_pos (by omega), if_neg (by omega), if_neg (by omega)]
            rw [show ((8 + j : Nat) : Int).toNat - 8 = j by omega]; rfl
          rw [e0, ← nz]
          exact PB.rf hC
        · obtain ⟨f0, ef0⟩ := Int.eq_ofNat_of_zero_le (show 0 ≤ f by omega)
          subst ef0
          rw [← nz f0]
          refine r_aload_n dX6_told_38 rfl ?_
          refine r_getR (b := 13) dX6_told_39 f_X6_10 (hsh.al rfl (by decide)) (Or.inr ⟨_, rfl⟩) (hsh.r 12 0 13 (by decide)) (by decide) ?_
          refine r_iload_n dX6_told_42 rfl ?_
          refine r_callV1I dX6_told_43 moX3_pays w_468 w_469 w_470 (hsh.al rfl (by decide)) cl3 rfl (Nat.le_of_ble_eq_true rfl) (Nat.le_of_ble_eq_true rfl) (S_pays hsh h13 hA wf (k := f0) (by omega)) ?_
          refine r_goto (tgt := 58) dX6_told_46 (by decide) ?_
          refine r_iret dX6_told_58 rfl ?_
          have e0 : toldV σ f0 w = (payN (qtr σ) f0 : Nat) := by unfold toldV; rw [if_pos (by omega), if_pos h35]; rfl
          rw [e0, ← nz]
          exact PB.rf hC
      · rw [e2, decide_eq_false_iff_not] at h26
        refine r_bipush (v := (-2)) dX6_told_29 (by decide) ?_
        refine r_iret dX6_told_31 rfl ?_
        have e0 : toldV σ f w = -2 := if_neg (by omega)
        rw [e0]
        exact PB.rf hC
set_option maxRecDepth 20000 in
set_option maxHeartbeats 4000000 in
theorem S_shines {g : GP} {d n : Nat} {I : TI} {J : TJ} {R : TR} {σ : CSt} (hC : CS n I R σ) {k t w : Int} (hk : inZ k) (ht : inZ t) (hw : inZ w) : Wp g (d + 3) mX6_shines 0 [.ref 12, .int (zI k), .int (zI t), .int (zI w), .null] [] 0 0 n I J R (PB n I J R (.int (zI (shinV σ k t w))) σ) := by
  have hsh := hC.sh
  have hA := hC.k13.1
  have wf := hC.k13.2.1
  have hz := wf.2.2.1
  have h13 : isSky 13 := Or.inl rfl
  have h30 : isSky 30 := Or.inr (Or.inl rfl)
  have h47 : isSky 47 := Or.inr (Or.inr rfl)
  have hn := hsh.1
  have e1 : bw (zI k) (nI (qsz σ)) = decide (0 ≤ k ∧ k < (qsz σ : Nat)) := bw_z rfl hk (by omega)
  have e2 : bw (zI t) 200 = decide (0 ≤ t ∧ t < (200 : Nat)) := bw_z rfl ht (by decide)
  have e3 : bw (zI w) 2 = decide (0 ≤ w ∧ w < (2 : Nat)) := bw_z rfl hw (by decide)
  refine r_iload_n dX6_shines_0 rfl ?_
  refine r_aload_n dX6_shines_1 rfl ?_
  refine r_getR (b := 13) dX6_shines_2 f_X6_10 (hsh.al rfl (by decide)) (Or.inr ⟨_, rfl⟩) (hsh.r 12 0 13 (by decide)) (by decide) ?_
  refine r_getIE dX6_shines_5 f_X6_95 (hsh.al rfl (by decide)) (Or.inl rfl) hA.2.2.1 ?_
  refine r_callS2I dX6_shines_8 moX6_isBelow w_458 w_400 (Nat.le_of_ble_eq_true rfl) (Nat.le_of_ble_eq_true rfl) (S_isBelow _ _) ?_
  refine r_ifb_eq (tgt := 32) dX6_shines_11 (by decide) (fun h11 => ?_) (fun h11 => ?_)
  · rw [e1, decide_eq_false_iff_not] at h11
    refine r_bipush (v := (-2)) dX6_shines_32 (by decide) ?_
    refine r_iret dX6_shines_34 rfl ?_
    have e0 : shinV σ k t w = -2 := if_neg (by omega)
    rw [e0]
    exact PB.rf hC
  · rw [e1, decide_eq_true_eq] at h11
    refine r_iload_n dX6_shines_14 rfl ?_
    refine r_sipush (v := 200) dX6_shines_15 (by decide) ?_
    refine r_callS2I dX6_shines_18 moX6_isBelow w_458 w_400 (Nat.le_of_ble_eq_true rfl) (Nat.le_of_ble_eq_true rfl) (S_isBelow _ _) ?_
    refine r_ifb_eq (tgt := 32) dX6_shines_21 (by decide) (fun h21 => ?_) (fun h21 => ?_)
    · rw [e2, decide_eq_false_iff_not] at h21
      refine r_bipush (v := (-2)) dX6_shines_32 (by decide) ?_
      refine r_iret dX6_shines_34 rfl ?_
      have e0 : shinV σ k t w = -2 := if_neg (by omega)
      rw [e0]
      exact PB.rf hC
    · rw [e2, decide_eq_true_eq] at h21
      refine r_iload_n dX6_shines_24 rfl ?_
      refine r_iconst (v := 2) dX6_shines_25 (by decide) ?_
      refine r_callS2I dX6_shines_26 moX6_isBelow w_458 w_400 (Nat.le_of_ble_eq_true rfl) (Nat.le_of_ble_eq_true rfl) (S_isBelow _ _) ?_
      refine r_ifb_ne (tgt := 35) dX6_shines_29 (by decide) (fun h29 => ?_) (fun h29 => ?_)
      · rw [e3, decide_eq_true_eq] at h29
        refine r_iload_n dX6_shines_35 rfl ?_
        refine r_zif_ne (tgt := 51) dX6_shines_36 (by decide) rfl hw (fun h36 => ?_) (fun h36 => ?_)
        · obtain ⟨k0, ek0⟩ := Int.eq_ofNat_of_zero_le (show 0 ≤ k by omega)
          subst ek0
          rw [← nz k0]
          obtain ⟨t0, et0⟩ := Int.eq_ofNat_of_zero_le (show 0 ≤ t by omega)
          subst et0
          rw [← nz t0]
          refine r_aload_n dX6_shines_51 rfl ?_
          refine r_getR (b := 13) dX6_shines_52 f_X6_10 (hsh.al rfl (by decide)) (Or.inr ⟨_, rfl⟩) (hsh.r 12 0 13 (by decide)) (by decide) ?_
          refine r_iload_n dX6_shines_55 rfl ?_
          refine r_iload_n dX6_shines_56 rfl ?_
          refine r_callV2I dX6_shines_57 moX3_isClouded w_482 w_483 w_484 (hsh.al rfl (by decide)) cl3 rfl (Nat.le_of_ble_eq_true rfl) (Nat.le_of_ble_eq_true rfl) (S_isClouded hsh h13 hA wf (k := k0) (by omega) (t := t0) (by omega)) ?_
          refine r_istore dX6_shines_60 (by decide) rfl ?_
          refine r_iload dX6_shines_62 rfl ?_
          refine r_ifb_eq (tgt := 71) dX6_shines_64 (by decide) (fun h64 => ?_) (fun h64 => ?_)
          · refine r_iconst (v := 0) dX6_shines_71 (by decide) ?_
            refine r_iret dX6_shines_72 rfl ?_
            have e0 : shinV σ k0 t0 w = 0 := by
              unfold shinV
              rw [if_pos (by omega), if_neg h36]
              rw [show (((k0 : Nat) : Int)).toNat = k0 from rfl, show (((t0 : Nat) : Int)).toNat = t0 from rfl, h64]; rfl
            rw [e0]
            exact PB.rf hC
          · refine r_iconst (v := 1) dX6_shines_67 (by decide) ?_
            refine r_goto (tgt := 72) dX6_shines_68 (by decide) ?_
            refine r_iret dX6_shines_72 rfl ?_
            have e0 : shinV σ k0 t0 w = 1 := by
              unfold shinV
              rw [if_pos (by omega), if_neg h36]
              rw [show (((k0 : Nat) : Int)).toNat = k0 from rfl, show (((t0 : Nat) : Int)).toNat = t0 from rfl, h64]; rfl
            rw [e0]
            exact PB.rf hC
        · obtain ⟨k0, ek0⟩ := Int.eq_ofNat_of_zero_le (show 0 ≤ k by omega)
          subst ek0
          rw [← nz k0]
          obtain ⟨t0, et0⟩ := Int.eq_ofNat_of_zero_le (show 0 ≤ t by omega)
          subst et0
          rw [← nz t0]
          refine r_aload_n dX6_shines_39 rfl ?_
          refine r_getR (b := 13) dX6_shines_40 f_X6_10 (hsh.al rfl (by decide)) (Or.inr ⟨_, rfl⟩) (hsh.r 12 0 13 (by decide)) (by decide) ?_
          refine r_iload_n dX6_shines_43 rfl ?_
          refine r_iload_n dX6_shines_44 rfl ?_
          refine r_callV2I dX6_shines_45 moX3_isUp w_477 w_478 w_479 (hsh.al rfl (by decide)) cl3 rfl (Nat.le_of_ble_eq_true rfl) (Nat.le_of_ble_eq_true rfl) (S_isUp hsh h13 hA wf (k := k0) (by omega) (t := t0) (by omega)) ?_
          refine r_goto (tgt := 60) dX6_shines_48 (by decide) ?_
          refine r_istore dX6_shines_60 (by decide) rfl ?_
          refine r_iload dX6_shines_62 rfl ?_
          refine r_ifb_eq (tgt := 71) dX6_shines_64 (by decide) (fun h64 => ?_) (fun h64 => ?_)
          · refine r_iconst (v := 0) dX6_shines_71 (by decide) ?_
            refine r_iret dX6_shines_72 rfl ?_
            have e0 : shinV σ k0 t0 w = 0 := by
              unfold shinV
              rw [if_pos (by omega), if_pos h36]
              rw [show (((k0 : Nat) : Int)).toNat = k0 from rfl, show (((t0 : Nat) : Int)).toNat = t0 from rfl, h64]; rfl
            rw [e0]
            exact PB.rf hC
          · refine r_iconst (v := 1) dX6_shines_67 (by decide) ?_
            refine r_goto (tgt := 72) dX6_shines_68 (by decide) ?_
            refine r_iret dX6_shines_72 rfl ?_
            have e0 : shinV σ k0 t0 w = 1 := by
              unfold shinV
              rw [if_pos (by omega), if_pos h36]
              rw [show (((k0 : Nat) : Int)).toNat = k0 from rfl, show (((t0 : Nat) : Int)).toNat = t0 from rfl, h64]; rfl
            rw [e0]
            exact PB.rf hC
      · rw [e3, decide_eq_false_iff_not] at h29
        refine r_bipush (v := (-2)) dX6_shines_32 (by decide) ?_
        refine r_iret dX6_shines_34 rfl ?_
        have e0 : shinV σ k t w = -2 := if_neg (by omega)
        rw [e0]
        exact PB.rf hC
set_option maxRecDepth 20000 in
set_option maxHeartbeats 4000000 in
theorem S_set {g : GP} {d n : Nat} {I : TI} {J : TJ} {R : TR} {σ : CSt} (hC : CS n I R σ) {a b c : Int} (ha : inZ a) (hb : inZ b) (hc : inZ c) : Wp g (d + 3) mX6_set 0 [.ref 12, .int (zI a), .int (zI b), .int (zI c)] [] 0 0 n I J R (PB n I J R (.int (zI (setAV σ a b c))) (setS σ a b c)) := by
  have hsh := hC.sh
  have hA := hC.k13.1
  have wf := hC.k13.2.1
  have hz := wf.2.2.1
  have h13 : isSky 13 := Or.inl rfl
  have h30 : isSky 30 := Or.inr (Or.inl rfl)
  have h47 : isSky 47 := Or.inr (Or.inr rfl)
  have hn := hsh.1
  refine r_aload_n dX6_set_0 rfl ?_
  refine r_getR (b := 13) dX6_set_1 f_X6_10 (hsh.al rfl (by decide)) (Or.inr ⟨_, rfl⟩) (hsh.r 12 0 13 (by decide)) (by decide) ?_
  refine r_iload_n dX6_set_4 rfl ?_
  refine r_iload_n dX6_set_5 rfl ?_
  refine r_iload_n dX6_set_6 rfl ?_
  refine r_callV3I dX6_set_7 moX3_allows w_435 w_436 w_437 (hsh.al rfl (by decide)) cl3 rfl (Nat.le_of_ble_eq_true rfl) (Nat.le_of_ble_eq_true rfl) (S_allows hsh h13 hA wf hC.mo ha hb hc) ?_
  refine r_ifb_eq (tgt := 26) dX6_set_10 (by decide) (fun h10 => ?_) (fun h10 => ?_)
  · refine r_bipush (v := (-2)) dX6_set_26 (by decide) ?_
    refine r_iret dX6_set_28 rfl ?_
    have e0 : setAV σ a b c = -2 := by unfold setAV; rw [h10, if_neg (by decide)]
    have e1 : setS σ a b c = σ := by unfold setS; rw [h10, if_neg (by decide)]
    rw [e0, e1]
    exact PB.rf hC
  · have hq := of_decide_eq_true h10
    obtain ⟨c0, ec⟩ := Int.eq_ofNat_of_zero_le (show 0 ≤ c by omega)
    subst ec
    rw [← nz c0]
    obtain ⟨sl, hst⟩ := hC.k13.2.2
    by_cases h8 : a < 8
    · obtain ⟨a0, ea⟩ := Int.eq_ofNat_of_zero_le (show 0 ≤ a by omega)
      subst ea
      rw [← nz a0]
      have hm : c0 ≤ dB a0 := by
        have e : a0 = 0 ∨ a0 = 1 ∨ a0 = 2 ∨ a0 = 3 ∨ a0 = 4 ∨ a0 = 5 ∨ a0 = 6 ∨ a0 = 7 := by omega
        have h2 := hq.2.2.2.1
        rcases e with rfl | rfl | rfl | rfl | rfl | rfl | rfl | rfl <;> exact Int.ofNat_le.mp h2
      have e0 : setAV σ a0 b c0 = (qdl σ a0 : Nat) := by unfold setAV; rw [h10, if_pos rfl, if_pos h8]; rfl
      have e1 : setS σ a0 b c0 = wSky σ (up1 (qdl σ) a0 c0) (qtr σ) (qsz σ) (qrl σ) := by unfold setS; rw [h10, if_pos rfl, if_pos h8]; rfl
      rw [e0, e1, ← nz]
      refine r_aload_n dX6_set_13 rfl ?_
      refine r_getR (b := 13) dX6_set_14 f_X6_10 (hsh.al rfl (by decide)) (Or.inr ⟨_, rfl⟩) (hsh.r 12 0 13 (by decide)) (by decide) ?_
      refine r_iload_n dX6_set_17 rfl ?_
      refine r_iload_n dX6_set_18 rfl ?_
      refine r_iload_n dX6_set_19 rfl ?_
      refine r_callV3I dX6_set_20 moX3_change w_446 w_447 w_448 (hsh.al rfl (by decide)) cl3 rfl (Nat.le_of_ble_eq_true rfl) (Nat.le_of_ble_eq_true rfl) (S_changeD hsh h13 hA wf (w := a0) (by omega) _ _) ?_
      refine r_goto (tgt := 28) dX6_set_23 (by decide) ?_
      refine r_iret dX6_set_28 rfl ?_
      exact PB.toI (hC.frS hsh (hC.k13.upD (by omega) hm) hC.rlt fun x _ g2 _ _ => chD_in x g2) fun x g1 => chD_in x (by unfold inS; omega)
    · obtain ⟨b0, eb⟩ := Int.eq_ofNat_of_zero_le (show 0 ≤ b by omega)
      subst eb
      rw [← nz b0]
      obtain ⟨j, ej⟩ := Int.eq_ofNat_of_zero_le (show 0 ≤ a - 8 by omega)
      have ea : a = ((8 + j : Nat) : Int) := by omega
      subst ea
      rw [← nz (8 + j)]
      have hm : c0 ≤ tB j := by
        have e : j = 0 ∨ j = 1 ∨ j = 2 ∨ j = 3 ∨ j = 4 := by omega
        have h2 := hq.2.2.2.1
        rcases e with rfl | rfl | rfl | rfl | rfl <;> exact Int.ofNat_le.mp h2
      have ej2 : ((8 + j : Nat) : Int).toNat - 8 = j := by omega
      have e0 : setAV σ ((8 + j : Nat) : Int) b0 c0 = (qtr σ j b0 : Nat) := by unfold setAV; rw [h10, if_pos rfl, if_neg h8, ej2]; rfl
      have e1 : setS σ ((8 + j : Nat) : Int) b0 c0 = wSky σ (qdl σ) (up2 (qtr σ) j b0 c0) (qsz σ) (qrl σ) := by unfold setS; rw [h10, if_pos rfl, if_neg h8, ej2]; rfl
      rw [e0, e1, ← nz]
      refine r_aload_n dX6_set_13 rfl ?_
      refine r_getR (b := 13) dX6_set_14 f_X6_10 (hsh.al rfl (by decide)) (Or.inr ⟨_, rfl⟩) (hsh.r 12 0 13 (by decide)) (by decide) ?_
      refine r_iload_n dX6_set_17 rfl ?_
      refine r_iload_n dX6_set_18 rfl ?_
      refine r_iload_n dX6_set_19 rfl ?_
      refine r_callV3I dX6_set_20 moX3_change w_446 w_447 w_448 (hsh.al rfl (by decide)) cl3 rfl (Nat.le_of_ble_eq_true rfl) (Nat.le_of_ble_eq_true rfl) (S_changeT hsh h13 hA wf (j := j) (k := b0) (by omega) (by omega) _ hst.1) ?_
      refine r_goto (tgt := 28) dX6_set_23 (by decide) ?_
      refine r_iret dX6_set_28 rfl ?_
      exact PB.toI (hC.frS hsh (hC.k13.upT hst (by omega) (by omega) hm) hC.rlt fun x _ g2 _ _ => chT_in (by omega) x g2) fun x g1 => chT_in (by omega) x (by unfold inS; omega)
/-- what sight leaves: no cell more, and all but the sky as it was -/
def PSi (n : Nat) (I : TI) (J : TJ) (R : TR) (v : Value) (σ : CSt) : TQ := fun r n2 I2 J2 R2 => r = some v ∧ n2 = n ∧ J2 = J ∧ R2 = R ∧ CS n I2 R σ ∧ ∀ a, ¬ inS 13 a → I2 a = I a
set_option maxRecDepth 20000 in
set_option maxHeartbeats 4000000 in
theorem S_sight {g : GP} {d n : Nat} {I : TI} {J : TJ} {R : TR} {σ : CSt} (hC : CS n I R σ) {a b c : Int} (ha : inZ a) (hb : inZ b) (hc : inZ c) : Wp g (d + 4) mX6_sight 0 [.ref 12, .int (zI a), .int (zI b), .int (zI c)] [] 0 0 n I J R (PSi n I J R (.int (zI (sighV σ a b c))) (sighS σ a b c)) := by
  have hsh := hC.sh
  have hA := hC.k13.1
  have wf := hC.k13.2.1
  have hz := wf.2.2.1
  have h13 : isSky 13 := Or.inl rfl
  have h30 : isSky 30 := Or.inr (Or.inl rfl)
  have h47 : isSky 47 := Or.inr (Or.inr rfl)
  have hn := hsh.1
  have e1 : bw (zI a) 6 = decide (0 ≤ a ∧ a < (6 : Nat)) := bw_z rfl ha (by decide)
  have e2 : bw (zI b) 10 = decide (0 ≤ b ∧ b < (10 : Nat)) := bw_z rfl hb (by decide)
  have e3 : bw (zI c) 100 = decide (0 ≤ c ∧ c < (100 : Nat)) := bw_z rfl hc (by decide)
  refine r_iload_n dX6_sight_0 rfl ?_
  refine r_bipush (v := 6) dX6_sight_1 (by decide) ?_
  refine r_callS2I dX6_sight_3 moX6_isBelow w_458 w_400 (Nat.le_of_ble_eq_true rfl) (Nat.le_of_ble_eq_true rfl) (S_isBelow _ _) ?_
  refine r_ifb_eq (tgt := 27) dX6_sight_6 (by decide) (fun h6 => ?_) (fun h6 => ?_)
  · rw [e1, decide_eq_false_iff_not] at h6
    refine r_bipush (v := (-2)) dX6_sight_27 (by decide) ?_
    refine r_iret dX6_sight_29 rfl ?_
    have e0 : sighV σ a b c = -2 := if_neg (by omega)
    have e4 : sighS σ a b c = σ := if_neg (by omega)
    rw [e0, e4]
    exact ⟨rfl, rfl, rfl, rfl, hC, fun x _ => rfl⟩
  · rw [e1, decide_eq_true_eq] at h6
    refine r_iload_n dX6_sight_9 rfl ?_
    refine r_bipush (v := 10) dX6_sight_10 (by decide) ?_
    refine r_callS2I dX6_sight_12 moX6_isBelow w_458 w_400 (Nat.le_of_ble_eq_true rfl) (Nat.le_of_ble_eq_true rfl) (S_isBelow _ _) ?_
    refine r_ifb_eq (tgt := 27) dX6_sight_15 (by decide) (fun h15 => ?_) (fun h15 => ?_)
    · rw [e2, decide_eq_false_iff_not] at h15
      refine r_bipush (v := (-2)) dX6_sight_27 (by decide) ?_
      refine r_iret dX6_sight_29 rfl ?_
      have e0 : sighV σ a b c = -2 := if_neg (by omega)
      have e4 : sighS σ a b c = σ := if_neg (by omega)
      rw [e0, e4]
      exact ⟨rfl, rfl, rfl, rfl, hC, fun x _ => rfl⟩
    · rw [e2, decide_eq_true_eq] at h15
      refine r_iload_n dX6_sight_18 rfl ?_
      refine r_bipush (v := 100) dX6_sight_19 (by decide) ?_
      refine r_callS2I dX6_sight_21 moX6_isBelow w_458 w_400 (Nat.le_of_ble_eq_true rfl) (Nat.le_of_ble_eq_true rfl) (S_isBelow _ _) ?_
      refine r_ifb_ne (tgt := 30) dX6_sight_24 (by decide) (fun h24 => ?_) (fun h24 => ?_)
      · rw [e3, decide_eq_true_eq] at h24
        by_cases h7 : qsz σ = 7
        · have e0 : sighV σ a b c = -4 := by unfold sighV; rw [if_pos (by omega), if_pos h7]
          have e4 : sighS σ a b c = σ := if_neg (fun h => h.2 h7)
          rw [e0, e4]
          refine r_aload_n dX6_sight_30 rfl ?_
          refine r_getR (b := 13) dX6_sight_31 f_X6_10 (hsh.al rfl (by decide)) (Or.inr ⟨_, rfl⟩) (hsh.r 12 0 13 (by decide)) (by decide) ?_
          refine r_iload_n dX6_sight_34 rfl ?_
          refine r_iload_n dX6_sight_35 rfl ?_
          refine r_iload_n dX6_sight_36 rfl ?_
          refine r_callV3I dX6_sight_37 moX3_add w_459 w_460 w_461 (hsh.al rfl (by decide)) cl3 rfl (Nat.le_of_ble_eq_true rfl) (Nat.le_of_ble_eq_true rfl) (S_addFull hsh h13 (by rw [hA.2.2.1, h7]) _ _ _) ?_
          refine r_iret dX6_sight_40 rfl ?_
          exact ⟨rfl, rfl, rfl, rfl, hC, fun x _ => rfl⟩
        · have e0 : sighV σ a b c = (qsz σ : Nat) := by unfold sighV; rw [if_pos (by omega), if_neg h7]
          have e4 : sighS σ a b c = wSky σ (qdl σ) (addTr (qtr σ) (qsz σ) a.toNat b.toNat c.toNat) (qsz σ + 1) (qrl σ) := if_pos ⟨by omega, h7⟩
          rw [e0, e4, ← nz]
          obtain ⟨sl, hst⟩ := hC.k13.2.2
          obtain ⟨a0, ea0⟩ := Int.eq_ofNat_of_zero_le (show 0 ≤ a by omega)
          subst ea0
          rw [← nz a0]
          obtain ⟨b0, eb0⟩ := Int.eq_ofNat_of_zero_le (show 0 ≤ b by omega)
          subst eb0
          rw [← nz b0]
          obtain ⟨c0, ec0⟩ := Int.eq_ofNat_of_zero_le (show 0 ≤ c by omega)
          subst ec0
          rw [← nz c0]
          rw [show (((a0 : Nat) : Int)).toNat = a0 from rfl, show (((b0 : Nat) : Int)).toNat = b0 from rfl, show (((c0 : Nat) : Int)).toNat = c0 from rfl]
          refine r_aload_n dX6_sight_30 rfl ?_
          refine r_getR (b := 13) dX6_sight_31 f_X6_10 (hsh.al rfl (by decide)) (Or.inr ⟨_, rfl⟩) (hsh.r 12 0 13 (by decide)) (by decide) ?_
          refine r_iload_n dX6_sight_34 rfl ?_
          refine r_iload_n dX6_sight_35 rfl ?_
          refine r_iload_n dX6_sight_36 rfl ?_
          refine r_callV3N dX6_sight_37 moX3_add w_459 w_460 w_461 (hsh.al rfl (by decide)) cl3 rfl (Nat.le_of_ble_eq_true rfl) (Nat.le_of_ble_eq_true rfl) (S_add hsh h13 hA wf (sl := sl) (kd := a0) (nu := b0) (sp := c0) (by omega) (by omega) (by omega) hst.1 (by omega)) (fun r n I2 J R hq => ?_)
          obtain ⟨rfl, rfl, rfl, rfl, g1, g2⟩ := hq
          refine r_some rfl ?_
          refine r_iret dX6_sight_40 rfl ?_
          refine ⟨rfl, rfl, rfl, rfl, ?_, ?_⟩
          · refine hC.frS hsh (hC.k13.addS hst (by omega) (by omega) (by omega) (by omega) g1 g2) hC.rlt fun x _ q2 _ _ => g2.1 x ?_ ?_
            · intro e; unfold inS at q2; omega
            · intro i hi e; unfold inS at q2; omega
          · intro x q2
            refine g2.1 x ?_ ?_
            · intro e; unfold inS at q2; omega
            · intro i hi e; unfold inS at q2; omega
      · rw [e3, decide_eq_false_iff_not] at h24
        refine r_bipush (v := (-2)) dX6_sight_27 (by decide) ?_
        refine r_iret dX6_sight_29 rfl ?_
        have e0 : sighV σ a b c = -2 := if_neg (by omega)
        have e4 : sighS σ a b c = σ := if_neg (by omega)
        rw [e0, e4]
        exact ⟨rfl, rfl, rfl, rfl, hC, fun x _ => rfl⟩
set_option maxRecDepth 20000 in
set_option maxHeartbeats 4000000 in
theorem S_taken {g : GP} {d n : Nat} {I : TI} {J : TJ} {R : TR} {σ : CSt} (hC : CS n I R σ) {a k : Int} (ha : inZ a) (hk : inZ k) : Wp g (d + 3) mX6_taken 0 [.ref 12, .int (zI a), .int (zI k)] [] 0 0 n I J R (PB n I J R (.int (zI (takeV σ a k))) σ) := by
  have hsh := hC.sh
  have hA := hC.k13.1
  have wf := hC.k13.2.1
  have hz := wf.2.2.1
  have h13 : isSky 13 := Or.inl rfl
  have h30 : isSky 30 := Or.inr (Or.inl rfl)
  have h47 : isSky 47 := Or.inr (Or.inr rfl)
  have hn := hsh.1
  have e1 : bw (zI k) 6 = decide (0 ≤ k ∧ k < (6 : Nat)) := bw_z rfl hk (by decide)
  have e2 : bw (zI a) (nI (qsz σ)) = decide (0 ≤ a ∧ a < (qsz σ : Nat)) := bw_z rfl ha (by omega)
  refine r_iload_n dX6_taken_0 rfl ?_
  refine r_bipush (v := 6) dX6_taken_1 (by decide) ?_
  refine r_callS2I dX6_taken_3 moX6_isBelow w_458 w_400 (Nat.le_of_ble_eq_true rfl) (Nat.le_of_ble_eq_true rfl) (S_isBelow _ _) ?_
  refine r_ifb_ne (tgt := 12) dX6_taken_6 (by decide) (fun h6 => ?_) (fun h6 => ?_)
  · rw [e1, decide_eq_true_eq] at h6
    refine r_iload_n dX6_taken_12 rfl ?_
    refine r_aload_n dX6_taken_13 rfl ?_
    refine r_getR (b := 13) dX6_taken_14 f_X6_10 (hsh.al rfl (by decide)) (Or.inr ⟨_, rfl⟩) (hsh.r 12 0 13 (by decide)) (by decide) ?_
    refine r_getIE dX6_taken_17 f_X6_95 (hsh.al rfl (by decide)) (Or.inl rfl) hA.2.2.1 ?_
    refine r_callS2I dX6_taken_20 moX6_isBelow w_458 w_400 (Nat.le_of_ble_eq_true rfl) (Nat.le_of_ble_eq_true rfl) (S_isBelow _ _) ?_
    refine r_ifb_ne (tgt := 29) dX6_taken_23 (by decide) (fun h23 => ?_) (fun h23 => ?_)
    · rw [e2, decide_eq_true_eq] at h23
      obtain ⟨a0, ea0⟩ := Int.eq_ofNat_of_zero_le (show 0 ≤ a by omega)
      subst ea0
      rw [← nz a0]
      obtain ⟨k0, ek0⟩ := Int.eq_ofNat_of_zero_le (show 0 ≤ k by omega)
      subst ek0
      rw [← nz k0]
      refine r_aload_n dX6_taken_29 rfl ?_
      refine r_getR (b := 13) dX6_taken_30 f_X6_10 (hsh.al rfl (by decide)) (Or.inr ⟨_, rfl⟩) (hsh.r 12 0 13 (by decide)) (by decide) ?_
      refine r_bipush (v := 13) dX6_taken_33 (by decide) ?_
      refine r_iload_n dX6_taken_35 rfl ?_
      refine r_callV2I dX6_taken_36 moX3_get w_472 w_443 w_444 (hsh.al rfl (by decide)) cl3 rfl (Nat.le_of_ble_eq_true rfl) (Nat.le_of_ble_eq_true rfl) (S_getT hsh h13 hA wf (j := 5) (k := a0) (by decide) (by omega)) ?_
      refine r_iload_n dX6_taken_39 rfl ?_
      refine r_callS2I dX6_taken_40 moX6_isOfKind w_774 w_775 (Nat.le_of_ble_eq_true rfl) (Nat.le_of_ble_eq_true rfl) (S_isOfKind hC.ka (k := qtr σ 5 a0) (q := k0) (by have := wf.t5 (k := a0) (by omega); omega) (by omega)) ?_
      refine r_ifb_eq (tgt := 59) dX6_taken_43 (by decide) (fun h43 => ?_) (fun h43 => ?_)
      · refine r_bipush (v := (-13)) dX6_taken_59 (by decide) ?_
        refine r_iret dX6_taken_61 rfl ?_
        have e0 : takeV σ a0 k0 = -13 := by unfold takeV; rw [if_pos (by omega), if_pos (by omega), show (((a0 : Nat) : Int)).toNat = a0 from rfl, show (((k0 : Nat) : Int)).toNat = k0 from rfl, h43]; rfl
        rw [e0]
        exact PB.rf hC
      · refine r_aload_n dX6_taken_46 rfl ?_
        refine r_getR (b := 13) dX6_taken_47 f_X6_10 (hsh.al rfl (by decide)) (Or.inr ⟨_, rfl⟩) (hsh.r 12 0 13 (by decide)) (by decide) ?_
        refine r_bipush (v := 8) dX6_taken_50 (by decide) ?_
        refine r_iload_n dX6_taken_52 rfl ?_
        refine r_callV2I dX6_taken_53 moX3_get w_472 w_443 w_444 (hsh.al rfl (by decide)) cl3 rfl (Nat.le_of_ble_eq_true rfl) (Nat.le_of_ble_eq_true rfl) (S_getT hsh h13 hA wf (j := 0) (k := a0) (by decide) (by omega)) ?_
        refine r_goto (tgt := 61) dX6_taken_56 (by decide) ?_
        refine r_iret dX6_taken_61 rfl ?_
        have e0 : takeV σ a0 k0 = (qtr σ 0 a0 : Nat) := by unfold takeV; rw [if_pos (by omega), if_pos (by omega), show (((a0 : Nat) : Int)).toNat = a0 from rfl, show (((k0 : Nat) : Int)).toNat = k0 from rfl, h43]; rfl
        rw [e0, ← nz]
        exact PB.rf hC
    · rw [e2, decide_eq_false_iff_not] at h23
      refine r_bipush (v := (-11)) dX6_taken_26 (by decide) ?_
      refine r_iret dX6_taken_28 rfl ?_
      have e0 : takeV σ a k = -11 := by unfold takeV; rw [if_pos (by omega), if_neg (by omega)]
      rw [e0]
      exact PB.rf hC
  · rw [e1, decide_eq_false_iff_not] at h6
    refine r_bipush (v := (-2)) dX6_taken_9 (by decide) ?_
    refine r_iret dX6_taken_11 rfl ?_
    have e0 : takeV σ a k = -2 := if_neg (by omega)
    rw [e0]
    exact PB.rf hC
set_option maxRecDepth 20000 in
set_option maxHeartbeats 4000000 in
theorem S_force {g : GP} {d n : Nat} {I : TI} {J : TJ} {R : TR} {σ : CSt} (hC : CS n I R σ) {t : Int} (ht : inZ t) : Wp g (d + 3) mX6_force 0 [.ref 12, .int (zI t), .null] [] 0 0 n I J R (PB n I J R (.int (zI (forcV σ t))) (forcS σ t)) := by
  have hsh := hC.sh
  have hA := hC.k13.1
  have wf := hC.k13.2.1
  have hz := wf.2.2.1
  have h13 : isSky 13 := Or.inl rfl
  have h30 : isSky 30 := Or.inr (Or.inl rfl)
  have h47 : isSky 47 := Or.inr (Or.inr rfl)
  have hn := hsh.1
  have htc := hC.tx.1
  have e1 : bw (zI t) (nI (qtc σ)) = decide (0 ≤ t ∧ t < (qtc σ : Nat)) := bw_z rfl ht (by omega)
  refine r_iload_n dX6_force_0 rfl ?_
  refine r_aload_n dX6_force_1 rfl ?_
  refine r_getIE dX6_force_2 f_X6_39 (hsh.al rfl (by decide)) (Or.inl rfl) hC.tcI ?_
  refine r_callS2I dX6_force_5 moX6_isBelow w_458 w_400 (Nat.le_of_ble_eq_true rfl) (Nat.le_of_ble_eq_true rfl) (S_isBelow _ _) ?_
  refine r_ifb_ne (tgt := 14) dX6_force_8 (by decide) (fun h8 => ?_) (fun h8 => ?_)
  · rw [e1, decide_eq_true_eq] at h8
    obtain ⟨t0, et0⟩ := Int.eq_ofNat_of_zero_le (show 0 ≤ t by omega)
    subst et0
    rw [← nz t0]
    refine r_aload_n dX6_force_14 rfl ?_
    refine r_getR (b := 13) dX6_force_15 f_X6_10 (hsh.al rfl (by decide)) (Or.inr ⟨_, rfl⟩) (hsh.r 12 0 13 (by decide)) (by decide) ?_
    refine r_getIE dX6_force_18 f_X6_111 (hsh.al rfl (by decide)) (Or.inl rfl) hA.2.2.2 ?_
    refine r_istore_n dX6_force_21 (by decide) rfl ?_
    refine r_aload_n dX6_force_22 rfl ?_
    refine r_getR (b := 13) dX6_force_23 f_X6_10 (hsh.al rfl (by decide)) (Or.inr ⟨_, rfl⟩) (hsh.r 12 0 13 (by decide)) (by decide) ?_
    refine r_iload_n dX6_force_26 rfl ?_
    refine r_putI dX6_force_27 f_X6_111 (hsh.al rfl (by decide)) (Or.inl rfl) rfl ?_
    refine r_iload_n dX6_force_30 rfl ?_
    refine r_iret dX6_force_31 rfl ?_
    have e0 : forcV σ t0 = (qrl σ : Nat) := if_pos (by omega)
    have e4 : forcS σ t0 = wSky σ (qdl σ) (qtr σ) (qsz σ) t0 := if_pos (by omega)
    rw [e0, e4, ← nz]
    have fr : ∀ x, ¬ inS 13 x → up2 I 13 11 (nI t0) x = I x := fun x hx => up2_a _ _ _ (fun e => hx (by unfold inS; omega))
    exact PB.toI (hC.frS hsh (hC.k13.upRl (by omega)) (by omega) fun x _ g2 _ _ => fr x g2) fun x g1 => fr x (by unfold inS; omega)
  · rw [e1, decide_eq_false_iff_not] at h8
    refine r_bipush (v := (-2)) dX6_force_11 (by decide) ?_
    refine r_iret dX6_force_13 rfl ?_
    have e0 : forcV σ t = -2 := if_neg (by omega)
    have e4 : forcS σ t = σ := if_neg (by omega)
    rw [e0, e4]
    exact PB.rf hC
set_option maxRecDepth 20000 in
set_option maxHeartbeats 4000000 in
theorem S_count {g : GP} {d n : Nat} {I : TI} {J : TJ} {R : TR} {σ : CSt} (hC : CS n I R σ) {w : Int} (hw : inZ w) : Wp g (d + 3) mX6_count 0 [.ref 12, .int (zI w)] [] 0 0 n I J R (PB n I J R (.int (zI (counV σ w))) σ) := by
  have hsh := hC.sh
  have hA := hC.k13.1
  have wf := hC.k13.2.1
  have hz := wf.2.2.1
  have h13 : isSky 13 := Or.inl rfl
  have h30 : isSky 30 := Or.inr (Or.inl rfl)
  have h47 : isSky 47 := Or.inr (Or.inr rfl)
  have hn := hsh.1
  refine r_iload_n dX6_count_0 rfl ?_
  have e5 : w = 0 ∨ w = 1 ∨ w = 2 ∨ w = 3 ∨ (w < 0 ∨ 3 < w) := by omega
  rcases e5 with rfl | rfl | rfl | rfl | e5
  · refine r_top (v := nI 0) rfl ?_
    refine r_tabIn (tgt := 32) (off := 31) dX6_count_1 (by decide) (by decide) (by decide) (by decide) ?_
    refine r_aload_n dX6_count_32 rfl ?_
    refine r_getR (b := 13) dX6_count_33 f_X6_10 (hsh.al rfl (by decide)) (Or.inr ⟨_, rfl⟩) (hsh.r 12 0 13 (by decide)) (by decide) ?_
    refine r_getIE dX6_count_36 f_X6_95 (hsh.al rfl (by decide)) (Or.inl rfl) hA.2.2.1 ?_
    refine r_iret dX6_count_39 rfl ?_
    exact PB.rf hC
  · refine r_top (v := nI 1) rfl ?_
    refine r_tabIn (tgt := 40) (off := 39) dX6_count_1 (by decide) (by decide) (by decide) (by decide) ?_
    refine r_aload_n dX6_count_40 rfl ?_
    refine r_getIE dX6_count_41 f_X6_39 (hsh.al rfl (by decide)) (Or.inl rfl) hC.tcI ?_
    refine r_iret dX6_count_44 rfl ?_
    exact PB.rf hC
  · refine r_top (v := nI 2) rfl ?_
    refine r_tabIn (tgt := 45) (off := 44) dX6_count_1 (by decide) (by decide) (by decide) (by decide) ?_
    refine r_aload_n dX6_count_45 rfl ?_
    refine r_getR (b := 64) dX6_count_46 f_X6_29 (hsh.al rfl (by decide)) (Or.inr ⟨_, rfl⟩) (hsh.r 12 4 64 (by decide)) (by decide) ?_
    refine r_getIE dX6_count_49 f_X6_217 (hsh.al rfl (by decide)) (Or.inl rfl) hC.tnI ?_
    refine r_iret dX6_count_52 rfl ?_
    exact PB.rf hC
  · refine r_top (v := nI 3) rfl ?_
    refine r_tabIn (tgt := 53) (off := 52) dX6_count_1 (by decide) (by decide) (by decide) (by decide) ?_
    refine r_aload_n dX6_count_53 rfl ?_
    refine r_getR (b := 13) dX6_count_54 f_X6_10 (hsh.al rfl (by decide)) (Or.inr ⟨_, rfl⟩) (hsh.r 12 0 13 (by decide)) (by decide) ?_
    refine r_getIE dX6_count_57 f_X6_111 (hsh.al rfl (by decide)) (Or.inl rfl) hA.2.2.2 ?_
    refine r_iret dX6_count_60 rfl ?_
    exact PB.rf hC
  · refine r_tabOut (tgt := 61) dX6_count_1 (by rw [zI_toInt hw]; exact e5) (by decide) ?_
    refine r_bipush (v := (-2)) dX6_count_61 (by decide) ?_
    refine r_iret dX6_count_63 rfl ?_
    have e0 : counV σ w = -2 := by unfold counV; rw [if_neg (by omega), if_neg (by omega), if_neg (by omega), if_neg (by omega)]
    rw [e0]
    exact PB.rf hC
set_option maxRecDepth 20000 in
set_option maxHeartbeats 4000000 in
theorem S_image {g : GP} {d n : Nat} {I : TI} {J : TJ} {R : TR} {σ : CSt} (hC : CS n I R σ) : Wp g (d + 3) mX6_image 0 [.ref 12] [] 0 0 n I J R (PB n I J R (.int (zI (qsz σ : Nat))) (wImg σ)) := by
  have hsh := hC.sh
  have hA := hC.k13.1
  have wf := hC.k13.2.1
  have hz := wf.2.2.1
  have h13 : isSky 13 := Or.inl rfl
  have h30 : isSky 30 := Or.inr (Or.inl rfl)
  have h47 : isSky 47 := Or.inr (Or.inr rfl)
  have hn := hsh.1
  refine r_aload_n dX6_image_0 rfl ?_
  refine r_getR (b := 30) dX6_image_1 f_X6_16 (hsh.al rfl (by decide)) (Or.inr ⟨_, rfl⟩) (hsh.r 12 1 30 (by decide)) (by decide) ?_
  refine r_aload_n dX6_image_4 rfl ?_
  refine r_getR (b := 13) dX6_image_5 f_X6_10 (hsh.al rfl (by decide)) (Or.inr ⟨_, rfl⟩) (hsh.r 12 0 13 (by decide)) (by decide) ?_
  refine r_callV1N dX6_image_8 moX3_takeAfter w_644 w_645 w_646 (hsh.al rfl (by decide)) cl3 rfl (Nat.le_of_ble_eq_true rfl) (Nat.le_of_ble_eq_true rfl) (S_takeAfter (s := 30) (o := 13) hsh h30 h13 (by decide)) (fun r n I2 J R hq => ?_)
  obtain ⟨rfl, rfl, rfl, rfl, f1⟩ := hq
  have k30 := hC.k13.take f1
  have ez : up2 I2 12 3 1 30 10 = nI (qsz σ) := by rw [up2_a _ _ _ (by decide)]; exact k30.1.2.2.1
  have hK : SkyOK (up2 I2 12 3 1) 30 (qdl σ) (qtr σ) (qsz σ) (qrl σ) := k30.out fun x hx => up2_a _ _ _ (by unfold inS at hx; omega)
  refine r_aload_n dX6_image_11 rfl ?_
  refine r_iconst (v := 1) dX6_image_12 (by decide) ?_
  refine r_putZ dX6_image_13 f_X6_22 (hsh.al rfl (by decide)) (Or.inl rfl) rfl (by decide) ?_
  refine r_aload_n dX6_image_16 rfl ?_
  refine r_getR (b := 30) dX6_image_17 f_X6_16 (hsh.al rfl (by decide)) (Or.inr ⟨_, rfl⟩) (hsh.r 12 1 30 (by decide)) (by decide) ?_
  refine r_getIE dX6_image_20 f_X6_95 (hsh.al rfl (by decide)) (Or.inl rfl) ez ?_
  refine r_iret dX6_image_23 rfl ?_
  rw [← nz]
  exact PB.toI (hC.imgU (fun x h1 h2 => by rw [up2_a _ _ _ h2]; exact f1.1 x h1) (by rw [up2_k _ _ (by decide), f1.1 12 (by unfold inS; omega)]) (up2_at _ _ _ _) hK) fun x h1 => by rw [up2_a _ _ _ (by omega)]; exact f1.1 x (by unfold inS; omega)
set_option maxRecDepth 20000 in
set_option maxHeartbeats 4000000 in
theorem S_back {g : GP} {d n : Nat} {I : TI} {J : TJ} {R : TR} {σ : CSt} (hC : CS n I R σ) : Wp g (d + 3) mX6_back 0 [.ref 12] [] 0 0 n I J R (PB n I J R (.int (zI (backV σ))) (backS σ)) := by
  have hsh := hC.sh
  have hA := hC.k13.1
  have wf := hC.k13.2.1
  have hz := wf.2.2.1
  have h13 : isSky 13 := Or.inl rfl
  have h30 : isSky 30 := Or.inr (Or.inl rfl)
  have h47 : isSky 47 := Or.inr (Or.inr rfl)
  have hn := hsh.1
  refine r_aload_n dX6_back_0 rfl ?_
  refine r_getIE dX6_back_1 f_X6_22 (hsh.al rfl (by decide)) (Or.inr rfl) hC.hasI ?_
  refine r_ifb_ne (tgt := 10) dX6_back_4 (by decide) (fun h4 => ?_) (fun h4 => ?_)
  · refine r_aload_n dX6_back_10 rfl ?_
    refine r_getR (b := 13) dX6_back_11 f_X6_10 (hsh.al rfl (by decide)) (Or.inr ⟨_, rfl⟩) (hsh.r 12 0 13 (by decide)) (by decide) ?_
    refine r_aload_n dX6_back_14 rfl ?_
    refine r_getR (b := 30) dX6_back_15 f_X6_16 (hsh.al rfl (by decide)) (Or.inr ⟨_, rfl⟩) (hsh.r 12 1 30 (by decide)) (by decide) ?_
    refine r_callV1N dX6_back_18 moX3_takeAfter w_644 w_645 w_646 (hsh.al rfl (by decide)) cl3 rfl (Nat.le_of_ble_eq_true rfl) (Nat.le_of_ble_eq_true rfl) (S_takeAfter (s := 13) (o := 30) hsh h13 h30 (by decide)) (fun r n I2 J R hq => ?_)
    obtain ⟨rfl, rfl, rfl, rfl, f1⟩ := hq
    have k13 := (hC.img h4).1.take f1
    refine r_aload_n dX6_back_21 rfl ?_
    refine r_getR (b := 13) dX6_back_22 f_X6_10 (hsh.al rfl (by decide)) (Or.inr ⟨_, rfl⟩) (hsh.r 12 0 13 (by decide)) (by decide) ?_
    refine r_getIE dX6_back_25 f_X6_95 (hsh.al rfl (by decide)) (Or.inl rfl) k13.1.2.2.1 ?_
    refine r_iret dX6_back_28 rfl ?_
    have e0 : backV σ = (qkz σ : Nat) := if_pos h4
    have e4 : backS σ = wSky σ (qkd σ) (qkt σ) (qkz σ) (qkr σ) := if_pos h4
    rw [e0, e4, ← nz]
    exact PB.toI (hC.frS hsh k13 (hC.img h4).2 fun x _ g2 _ _ => f1.1 x g2) fun x g1 => f1.1 x (by unfold inS; omega)
  · refine r_bipush (v := (-3)) dX6_back_7 (by decide) ?_
    refine r_iret dX6_back_9 rfl ?_
    have e0 : backV σ = -3 := by unfold backV; rw [h4, if_neg (by decide)]
    have e4 : backS σ = σ := by unfold backS; rw [h4, if_neg (by decide)]
    rw [e0, e4]
    exact PB.rf hC
set_option maxRecDepth 20000 in
set_option maxHeartbeats 4000000 in
theorem S_sheet {g : GP} {d n : Nat} {I : TI} {J : TJ} {R : TR} {σ : CSt} (hC : CS n I R σ) {s so m : Int} (hs : inZ s) (hso : inZ so) (hm : inZ m) : Wp g (d + 3) mX6_sheet 0 [.ref 12, .int (zI s), .int (zI so), .int (zI m)] [] 0 0 n I J R (PB n I J R (.int (zI (sheeV s so m))) (sheeS σ s so m)) := by
  have hsh := hC.sh
  have hA := hC.k13.1
  have wf := hC.k13.2.1
  have hz := wf.2.2.1
  have h13 : isSky 13 := Or.inl rfl
  have h30 : isSky 30 := Or.inr (Or.inl rfl)
  have h47 : isSky 47 := Or.inr (Or.inr rfl)
  have hn := hsh.1
  have e1 : bw (zI s) 4 = decide (0 ≤ s ∧ s < (4 : Nat)) := bw_z rfl hs (by decide)
  refine r_iload_n dX6_sheet_0 rfl ?_
  refine r_iconst (v := 4) dX6_sheet_1 (by decide) ?_
  refine r_callS2I dX6_sheet_2 moX6_isBelow w_458 w_400 (Nat.le_of_ble_eq_true rfl) (Nat.le_of_ble_eq_true rfl) (S_isBelow _ _) ?_
  refine r_ifb_eq (tgt := 20) dX6_sheet_5 (by decide) (fun h5 => ?_) (fun h5 => ?_)
  · rw [e1, decide_eq_false_iff_not] at h5
    refine r_bipush (v := (-2)) dX6_sheet_20 (by decide) ?_
    refine r_iret dX6_sheet_22 rfl ?_
    have e0 : sheeV s so m = -2 := if_neg (by omega)
    have e4 : sheeS σ s so m = σ := if_neg (by omega)
    rw [e0, e4]
    exact PB.rf hC
  · rw [e1, decide_eq_true_eq] at h5
    refine r_iload_n dX6_sheet_8 rfl ?_
    refine r_iconst (v := (-1)) dX6_sheet_9 (by decide) ?_
    refine r_zicmp_eq (b := (-1))  (tgt := 23) dX6_sheet_10 (by decide) rfl (by decide) hso (by unfold inZ; omega) (fun h10 => ?_) (fun h10 => ?_)
    · refine r_iload_n dX6_sheet_23 rfl ?_
      refine r_iconst (v := (-1)) dX6_sheet_24 (by decide) ?_
      refine r_zicmp_ne (b := (-1))  (tgt := 41) dX6_sheet_25 (by decide) rfl (by decide) hso (by unfold inZ; omega) (fun h25 => absurd h25 (by omega)) (fun h25 => ?_)
      obtain ⟨s0, es0⟩ := Int.eq_ofNat_of_zero_le (show 0 ≤ s by omega)
      subst es0
      rw [← nz s0]
      have hs4 : s0 < 4 := by omega
      have hh := isSheet_at hs4
      refine r_aload_n dX6_sheet_28 rfl ?_
      refine r_getR (b := 70) dX6_sheet_29 f_X6_45 (hsh.al rfl (by decide)) (Or.inl ⟨_, rfl⟩) (hsh.r 12 8 70 (by decide)) (by decide) ?_
      refine r_iload_n dX6_sheet_32 rfl ?_
      refine r_aald (j := s0) (b := (89 + 2 * s0)) dX6_sheet_33 (hsh.al rfl (by decide)) (Or.inr (Or.inr rfl)) hs4 rfl (hsh.shA hs4) (by omega) ?_
      refine r_iconst (v := (-1)) dX6_sheet_34 (by decide) ?_
      refine r_iconst (v := 0) dX6_sheet_35 (by decide) ?_
      refine r_callV2N dX6_sheet_36 moX2_become w_707 w_708 w_709 (hsh.h0 hh) cl2 rfl (Nat.le_of_ble_eq_true rfl) (Nat.le_of_ble_eq_true rfl) (S_become hsh hh _ _) (fun r n I2 J R hq => ?_)
      obtain ⟨rfl, rfl, rfl, rfl, g1, g2, g3, g4⟩ := hq
      refine r_iconst (v := 1) dX6_sheet_39 (by decide) ?_
      refine r_iret dX6_sheet_40 rfl ?_
      have e0 : sheeV s0 so m = 1 := by unfold sheeV; rw [if_pos (by omega), if_pos (by omega)]
      have e4 : sheeS σ s0 so m = wSh σ s0 (-1) 0 (fun _ => 0) := by unfold sheeS; rw [if_pos (by omega), if_pos (by omega)]; rfl
      rw [e0, e4]
      exact PB.toI (hC.shU hs4 g4 ⟨g1, g2, by omega, by omega, by omega⟩ g3) fun x h1 => g4 x (by omega) (by omega)
    · refine r_iload_n dX6_sheet_13 rfl ?_
      refine r_callS1I dX6_sheet_14 moX6_isSort w_749 w_750 (Nat.le_of_ble_eq_true rfl) (Nat.le_of_ble_eq_true rfl) (S_isSort hso) ?_
      refine r_ifb_ne (tgt := 23) dX6_sheet_17 (by decide) (fun h17 => ?_) (fun h17 => ?_)
      · rw [decide_eq_true_eq] at h17
        refine r_iload_n dX6_sheet_23 rfl ?_
        refine r_iconst (v := (-1)) dX6_sheet_24 (by decide) ?_
        refine r_zicmp_ne (b := (-1))  (tgt := 41) dX6_sheet_25 (by decide) rfl (by decide) hso (by unfold inZ; omega) (fun h25 => ?_) (fun h25 => absurd h25 (by omega))
        refine r_iload_n dX6_sheet_41 rfl ?_
        refine r_bipush (v := 40) dX6_sheet_42 (by decide) ?_
        refine r_zicmp_le (b := 40)  (tgt := 50) dX6_sheet_44 (by decide) rfl (by decide) hm (by unfold inZ; omega) (fun h44 => ?_) (fun h44 => ?_)
        · refine r_iload_n dX6_sheet_50 rfl ?_
          refine r_zif_ge (tgt := 57) dX6_sheet_51 (by decide) rfl hm (fun h51 => ?_) (fun h51 => ?_)
          · obtain ⟨s0, es0⟩ := Int.eq_ofNat_of_zero_le (show 0 ≤ s by omega)
            subst es0
            rw [← nz s0]
            have hs4 : s0 < 4 := by omega
            have hh := isSheet_at hs4
            obtain ⟨m0, em0⟩ := Int.eq_ofNat_of_zero_le (show 0 ≤ m by omega)
            subst em0
            rw [← nz m0]
            refine r_aload_n dX6_sheet_57 rfl ?_
            refine r_getR (b := 70) dX6_sheet_58 f_X6_45 (hsh.al rfl (by decide)) (Or.inl ⟨_, rfl⟩) (hsh.r 12 8 70 (by decide)) (by decide) ?_
            refine r_iload_n dX6_sheet_61 rfl ?_
            refine r_aald (j := s0) (b := (89 + 2 * s0)) dX6_sheet_62 (hsh.al rfl (by decide)) (Or.inr (Or.inr rfl)) hs4 rfl (hsh.shA hs4) (by omega) ?_
            refine r_iload_n dX6_sheet_63 rfl ?_
            refine r_iload_n dX6_sheet_64 rfl ?_
            refine r_callV2N dX6_sheet_65 moX2_become w_707 w_708 w_709 (hsh.h0 hh) cl2 rfl (Nat.le_of_ble_eq_true rfl) (Nat.le_of_ble_eq_true rfl) (S_become hsh hh _ _) (fun r n I2 J R hq => ?_)
            obtain ⟨rfl, rfl, rfl, rfl, g1, g2, g3, g4⟩ := hq
            refine r_iconst (v := 1) dX6_sheet_68 (by decide) ?_
            refine r_iret dX6_sheet_69 rfl ?_
            have e0 : sheeV s0 so m0 = 1 := by unfold sheeV; rw [if_pos (by omega), if_neg (by omega), if_neg (by omega), if_neg (by omega)]
            have e4 : sheeS σ s0 so m0 = wSh σ s0 so m0 (fun _ => 0) := by unfold sheeS; rw [if_pos (by omega), if_neg (by omega), if_neg (by omega), if_neg (by omega)]; rfl
            rw [e0, e4]
            exact PB.toI (hC.shU hs4 g4 ⟨g1, g2, by omega, by omega, by omega⟩ g3) fun x h1 => g4 x (by omega) (by omega)
          · refine r_bipush (v := (-14)) dX6_sheet_54 (by decide) ?_
            refine r_iret dX6_sheet_56 rfl ?_
            have e0 : sheeV s so m = -14 := by unfold sheeV; rw [if_pos (by omega), if_neg (by omega), if_neg (by omega), if_pos (by omega)]
            have e4 : sheeS σ s so m = σ := by unfold sheeS; rw [if_pos (by omega), if_neg (by omega), if_neg (by omega), if_pos (by omega)]
            rw [e0, e4]
            exact PB.rf hC
        · refine r_bipush (v := (-2)) dX6_sheet_47 (by decide) ?_
          refine r_iret dX6_sheet_49 rfl ?_
          have e0 : sheeV s so m = -2 := by unfold sheeV; rw [if_pos (by omega), if_neg (by omega), if_pos (by omega)]
          have e4 : sheeS σ s so m = σ := by unfold sheeS; rw [if_pos (by omega), if_neg (by omega), if_pos (by omega)]
          rw [e0, e4]
          exact PB.rf hC
      · rw [decide_eq_false_iff_not] at h17
        refine r_bipush (v := (-2)) dX6_sheet_20 (by decide) ?_
        refine r_iret dX6_sheet_22 rfl ?_
        have e0 : sheeV s so m = -2 := if_neg (by omega)
        have e4 : sheeS σ s so m = σ := if_neg (by omega)
        rw [e0, e4]
        exact PB.rf hC
set_option maxRecDepth 20000 in
set_option maxHeartbeats 4000000 in
theorem S_cell {g : GP} {d n : Nat} {I : TI} {J : TJ} {R : TR} {σ : CSt} (hC : CS n I R σ) {s i : Int} (hs : inZ s) (hi : inZ i) (v : Int32) : Wp g (d + 3) mX6_cell 0 [.ref 12, .int (zI s), .int (zI i), .int v, .null] [] 0 0 n I J R (PB n I J R (.int (zI (cellV σ s i))) (cellS σ s i v)) := by
  have hsh := hC.sh
  have hA := hC.k13.1
  have wf := hC.k13.2.1
  have hz := wf.2.2.1
  have h13 : isSky 13 := Or.inl rfl
  have h30 : isSky 30 := Or.inr (Or.inl rfl)
  have h47 : isSky 47 := Or.inr (Or.inr rfl)
  have hn := hsh.1
  have e1 : bw (zI s) 4 = decide (0 ≤ s ∧ s < (4 : Nat)) := bw_z rfl hs (by decide)
  refine r_iload_n dX6_cell_0 rfl ?_
  refine r_iconst (v := 4) dX6_cell_1 (by decide) ?_
  refine r_callS2I dX6_cell_2 moX6_isBelow w_458 w_400 (Nat.le_of_ble_eq_true rfl) (Nat.le_of_ble_eq_true rfl) (S_isBelow _ _) ?_
  refine r_ifb_ne (tgt := 11) dX6_cell_5 (by decide) (fun h5 => ?_) (fun h5 => ?_)
  · rw [e1, decide_eq_true_eq] at h5
    obtain ⟨s0, es0⟩ := Int.eq_ofNat_of_zero_le (show 0 ≤ s by omega)
    subst es0
    rw [← nz s0]
    have hs4 : s0 < 4 := by omega
    have hh := isSheet_at hs4
    obtain ⟨hS, hit⟩ := hC.sht s0 hs4
    refine r_aload_n dX6_cell_11 rfl ?_
    refine r_getR (b := 70) dX6_cell_12 f_X6_45 (hsh.al rfl (by decide)) (Or.inl ⟨_, rfl⟩) (hsh.r 12 8 70 (by decide)) (by decide) ?_
    refine r_iload_n dX6_cell_15 rfl ?_
    refine r_aald (j := s0) (b := (89 + 2 * s0)) dX6_cell_16 (hsh.al rfl (by decide)) (Or.inr (Or.inr rfl)) hs4 rfl (hsh.shA hs4) (by omega) ?_
    refine r_astore dX6_cell_17 (by decide) rfl ?_
    refine r_aload dX6_cell_19 rfl ?_
    refine r_callV0I dX6_cell_21 moX2_isMissing w_581 w_582 w_583 (hsh.h0 hh) cl2 rfl (Nat.le_of_ble_eq_true rfl) (Nat.le_of_ble_eq_true rfl) (S_isMissing hsh hh hS) ?_
    refine r_ifb_eq (tgt := 30) dX6_cell_24 (by decide) (fun h24 => ?_) (fun h24 => ?_)
    · rw [decide_eq_false_iff_not] at h24
      refine r_iload_n dX6_cell_30 rfl ?_
      refine r_aload dX6_cell_31 rfl ?_
      refine r_getIE dX6_cell_33 f_X6_137 (hsh.h0 hh) (Or.inl rfl) hS.2.1 ?_
      refine r_callS2I dX6_cell_36 moX6_isBelow w_458 w_400 (Nat.le_of_ble_eq_true rfl) (Nat.le_of_ble_eq_true rfl) (S_isBelow _ _) ?_
      refine r_ifb_ne (tgt := 45) dX6_cell_39 (by decide) (fun h39 => ?_) (fun h39 => ?_)
      · rw [bw_z rfl hi (by have := hS.2.2.2.2; omega), decide_eq_true_eq] at h39
        obtain ⟨i0, ei0⟩ := Int.eq_ofNat_of_zero_le (show 0 ≤ i by omega)
        subst ei0
        rw [← nz i0]
        refine r_aload dX6_cell_45 rfl ?_
        refine r_iload_n dX6_cell_47 rfl ?_
        refine r_iload_n dX6_cell_48 rfl ?_
        refine r_callV2W dX6_cell_49 moX2_put w_712 w_713 w_714 (hsh.h0 hh) cl2 rfl (Nat.le_of_ble_eq_true rfl) (Nat.le_of_ble_eq_true rfl) (S_put hsh hh hS (i := i0) (by omega) v) ?_
        refine r_iconst (v := 1) dX6_cell_52 (by decide) ?_
        refine r_iret dX6_cell_53 rfl ?_
        have e0 : cellV σ s0 i0 = 1 := by unfold cellV; rw [if_pos (by omega), Int.toNat_natCast, if_neg h24, if_pos h39]
        have e4 : cellS σ s0 i0 v = wSh σ s0 (qso σ s0) (qzs σ s0) (upI (qit σ s0) i0 (narS (qso σ s0) v)) := by unfold cellS; rw [if_pos (by omega), Int.toNat_natCast, if_neg h24, if_pos h39]; rfl
        rw [e0, e4]
        refine PB.toI (hC.shU hs4 (fun x _ h2 => up2_a _ _ _ h2) ?_ fun j hj => ?_) fun x h1 => up2_a _ _ _ (by omega)
        · have e5 := up2_a (α := Int32) I i0 (narS (qso σ s0) v) (show 89 + 2 * s0 ≠ 89 + 2 * s0 + 1 by omega)
          exact ⟨by rw [e5]; exact hS.1, by rw [e5]; exact hS.2.1, hS.2.2⟩
        · unfold upI
          by_cases e : j = i0
          · rw [if_pos e, e, up2_at]
          · rw [if_neg e, up2_k _ _ e]; exact hit j hj
      · rw [bw_z rfl hi (by have := hS.2.2.2.2; omega), decide_eq_false_iff_not] at h39
        refine r_bipush (v := (-12)) dX6_cell_42 (by decide) ?_
        refine r_iret dX6_cell_44 rfl ?_
        have e0 : cellV σ s0 i = -12 := by unfold cellV; rw [if_pos (by omega), Int.toNat_natCast, if_neg h24, if_neg h39]
        have e4 : cellS σ s0 i v = σ := by unfold cellS; rw [if_pos (by omega), Int.toNat_natCast, if_neg h24, if_neg h39]
        rw [e0, e4]
        exact PB.rf hC
    · rw [decide_eq_true_eq] at h24
      refine r_bipush (v := (-11)) dX6_cell_27 (by decide) ?_
      refine r_iret dX6_cell_29 rfl ?_
      have e0 : cellV σ s0 i = -11 := by unfold cellV; rw [if_pos (by omega), Int.toNat_natCast, if_pos h24]
      have e4 : cellS σ s0 i v = σ := by unfold cellS; rw [if_pos (by omega), Int.toNat_natCast, if_pos h24]
      rw [e0, e4]
      exact PB.rf hC
  · rw [e1, decide_eq_false_iff_not] at h5
    refine r_bipush (v := (-2)) dX6_cell_8 (by decide) ?_
    refine r_iret dX6_cell_10 rfl ?_
    have e0 : cellV σ s i = -2 := if_neg (by omega)
    have e4 : cellS σ s i v = σ := if_neg (by omega)
    rw [e0, e4]
    exact PB.rf hC
set_option maxRecDepth 20000 in
set_option maxHeartbeats 4000000 in
theorem S_append {g : GP} {d n : Nat} {I : TI} {J : TJ} {R : TR} {σ : CSt} (hC : CS n I R σ) {b : Nat} (hb : b < 256) : Wp g (d + 1) mX1_append 0 [.ref 64, .int (nI b)] [] 0 0 n I J R (PB n I J R (.int (zI (feedV σ b))) (feedS σ b)) := by
  have hsh := hC.sh
  have hA := hC.k13.1
  have wf := hC.k13.2.1
  have hz := wf.2.2.1
  have h13 : isSky 13 := Or.inl rfl
  have h30 : isSky 30 := Or.inr (Or.inl rfl)
  have h47 : isSky 47 := Or.inr (Or.inr rfl)
  have hn := hsh.1
  have ht := hC.tnB
  have h65 := hsh.al (a := 65) rfl (by decide)
  refine r_aload_n dX1_append_0 rfl ?_
  refine r_getIE dX1_append_1 f_X1_15 (hsh.al rfl (by decide)) (Or.inl rfl) hC.tnI ?_
  refine r_aload_n dX1_append_4 rfl ?_
  refine r_getR (b := 65) dX1_append_5 f_X1_9 (hsh.al rfl (by decide)) (Or.inl ⟨_, rfl⟩) (hsh.r 64 0 65 (by decide)) (by decide) ?_
  refine r_alen dX1_append_8 (hsh.al rfl (by decide)) (Or.inl rfl) ?_
  refine r_nicmp_lt (b := 160)  (tgt := 15) dX1_append_9 (by decide) rfl rfl (by omega) (by omega) (fun h9 => ?_) (fun h9 => ?_)
  · refine r_aload_n dX1_append_15 rfl ?_
    refine r_getR (b := 65) dX1_append_16 f_X1_9 (hsh.al rfl (by decide)) (Or.inl ⟨_, rfl⟩) (hsh.r 64 0 65 (by decide)) (by decide) ?_
    refine r_aload_n dX1_append_19 rfl ?_
    refine r_getIE dX1_append_20 f_X1_15 (hsh.al rfl (by decide)) (Or.inl rfl) hC.tnI ?_
    refine r_iload_n dX1_append_23 rfl ?_
    refine r_iast (j := _) dX1_append_24 (hsh.al rfl (by decide)) (by omega) rfl ?_
    refine r_aload_n dX1_append_25 rfl ?_
    refine r_dup dX1_append_26 rfl ?_
    refine r_getIE dX1_append_27 f_X1_15 (hsh.al rfl (by decide)) (Or.inl rfl) ((congrFun (up2_a _ _ _ (by decide)) 1).trans hC.tnI) ?_
    refine r_iconst (v := 1) dX1_append_30 (by decide) ?_
    refine r_niadd (b := 1) dX1_append_31 rfl rfl ?_
    refine r_putI dX1_append_32 f_X1_15 (hsh.al rfl (by decide)) (Or.inl rfl) rfl ?_
    refine r_aload_n dX1_append_35 rfl ?_
    refine r_getIE dX1_append_36 f_X1_15 (hsh.al rfl (by decide)) (Or.inl rfl) (up2_at _ _ _ _) ?_
    refine r_iret dX1_append_39 rfl ?_
    have e0 : feedV σ b = ((qtn σ + 1 : Nat) : Int) := by unfold feedV; rw [if_pos (by omega), if_neg (by omega)]
    have e4 : feedS σ b = wTape σ (qtn σ + 1) (up1 (qtb σ) (qtn σ) b) := if_pos ⟨by omega, by omega⟩
    rw [e0, e4, ← nz]
    refine PB.toI (hC.tapeU (fun x h1 h2 => by rw [up2_a _ _ _ h1, up2_a _ _ _ h2]) (up2_at _ _ _ _) (by omega) fun j hj => ?_) fun x h1 => by rw [up2_a _ _ _ (by omega), up2_a _ _ _ (by omega)]
    rw [up2_a _ _ _ (by decide)]
    unfold up1
    by_cases e : j = qtn σ
    · rw [if_pos e, e, up2_at]; exact ⟨rfl, hb⟩
    · rw [if_neg e, up2_k _ _ e]; exact hC.tbI j (by omega)
  · refine r_bipush (v := (-4)) dX1_append_12 (by decide) ?_
    refine r_iret dX1_append_14 rfl ?_
    have e0 : feedV σ b = -4 := by unfold feedV; rw [if_pos (by omega), if_pos (by omega)]
    have e4 : feedS σ b = σ := if_neg (fun h => h.2 (by omega))
    rw [e0, e4]
    exact PB.rf hC
set_option maxRecDepth 20000 in
set_option maxHeartbeats 4000000 in
theorem S_feed {g : GP} {d n : Nat} {I : TI} {J : TJ} {R : TR} {σ : CSt} (hC : CS n I R σ) {b : Int} (hb : inZ b) : Wp g (d + 2) mX6_feed 0 [.ref 12, .int (zI b)] [] 0 0 n I J R (PB n I J R (.int (zI (feedV σ b))) (feedS σ b)) := by
  have hsh := hC.sh
  have hA := hC.k13.1
  have wf := hC.k13.2.1
  have hz := wf.2.2.1
  have h13 : isSky 13 := Or.inl rfl
  have h30 : isSky 30 := Or.inr (Or.inl rfl)
  have h47 : isSky 47 := Or.inr (Or.inr rfl)
  have hn := hsh.1
  have e1 : bw (zI b) 256 = decide (0 ≤ b ∧ b < (256 : Nat)) := bw_z rfl hb (by decide)
  refine r_iload_n dX6_feed_0 rfl ?_
  refine r_sipush (v := 256) dX6_feed_1 (by decide) ?_
  refine r_callS2I dX6_feed_4 moX6_isBelow w_458 w_400 (Nat.le_of_ble_eq_true rfl) (Nat.le_of_ble_eq_true rfl) (S_isBelow _ _) ?_
  refine r_ifb_ne (tgt := 13) dX6_feed_7 (by decide) (fun h7 => ?_) (fun h7 => ?_)
  · rw [e1, decide_eq_true_eq] at h7
    obtain ⟨b0, eb0⟩ := Int.eq_ofNat_of_zero_le (show 0 ≤ b by omega)
    subst eb0
    rw [← nz b0]
    refine r_aload_n dX6_feed_13 rfl ?_
    refine r_getR (b := 64) dX6_feed_14 f_X6_29 (hsh.al rfl (by decide)) (Or.inr ⟨_, rfl⟩) (hsh.r 12 4 64 (by decide)) (by decide) ?_
    refine r_iload_n dX6_feed_17 rfl ?_
    refine r_callV1N dX6_feed_18 moX1_append w_246 w_247 w_248 (hsh.al rfl (by decide)) cl1 rfl (Nat.le_of_ble_eq_true rfl) (Nat.le_of_ble_eq_true rfl) (S_append hC (b := b0) (by omega)) (fun r n I2 J R hq => ?_)
    obtain ⟨rfl, hq⟩ := hq
    refine r_some rfl ?_
    refine r_iret dX6_feed_21 rfl ?_
    exact ⟨rfl, hq⟩
  · rw [e1, decide_eq_false_iff_not] at h7
    refine r_bipush (v := (-2)) dX6_feed_10 (by decide) ?_
    refine r_iret dX6_feed_12 rfl ?_
    have e0 : feedV σ b = -2 := if_neg (by omega)
    have e4 : feedS σ b = σ := if_neg (fun h => by omega)
    rw [e0, e4]
    exact PB.rf hC
