/-! all the orders -/
def iterF {α : Type} (f : Nat → α → α) : Nat → Nat → α → α
  | 0, _, c => c
  | k + 1, i, c => iterF f k (i + 1) (f i c)
theorem iterF_id {α : Type} {f : Nat → α → α} {c : α} : ∀ {k i : Nat}, (∀ j, i ≤ j → j < i + k → f j c = c) → iterF f k i c = c
  | 0, _, _ => rfl
  | k + 1, i, h => by
    show iterF f k (i + 1) (f i c) = c
    rw [h i (Nat.le_refl _) (by omega)]
    exact iterF_id fun j h1 h2 => h j (by omega) (by omega)
theorem iterF_congr {α : Type} {f f2 : Nat → α → α} : ∀ {k i : Nat} {c : α}, (∀ j c, i ≤ j → j < i + k → f j c = f2 j c) → iterF f k i c = iterF f2 k i c
  | 0, _, _, _ => rfl
  | k + 1, i, c, h => by
    show iterF f k (i + 1) (f i c) = iterF f2 k (i + 1) (f2 i c)
    rw [h i c (Nat.le_refl _) (by omega)]
    exact iterF_congr fun j c h1 h2 => h j c (by omega) (by omega)
theorem iterF_inv {α : Type} {f : Nat → α → α} {P : α → Prop} : ∀ {k i : Nat} {c : α}, P c → (∀ j c, i ≤ j → j < i + k → P c → P (f j c)) → P (iterF f k i c)
  | 0, _, _, h, _ => h
  | k + 1, i, c, h, hf => by
    show P (iterF f k (i + 1) (f i c))
    exact iterF_inv (hf i c (Nat.le_refl _) (by omega) h) fun j c h1 h2 => hf j c (by omega) (by omega)
def T3 (x y : NS) : Prop := nAt x = nAt y ∧ nTick x = nTick y ∧ nWorth x = nWorth y
theorem lookN_t3 {dl : Nat → Nat} {tr : Nat → Nat → Nat} {V : TV} {k place : Nat} {x y : NS} (h : T3 x y) : T3 (lookN dl tr V k place x) (lookN dl tr V k place y) := by
  obtain ⟨h1, h2, h3⟩ := h
  unfold lookN
  simp only
  rw [h1, h2, h3]
  split
  · exact ⟨h1, h2, h3⟩
  · exact ⟨rfl, rfl, rfl⟩
theorem lookN_wo {dl : Nat → Nat} {tr : Nat → Nat → Nat} {V : TV} {k place : Nat} {x : NS} : nWorth (lookN dl tr V k place x) ≤ nWorth x + (payN tr k : Nat) := by
  unfold lookN
  simp only
  split
  · omega
  · rename_i w hw
    generalize V 2 _ = v2
    generalize V 0 _ = v0
    have hm3 : 0 ≤ (((w - (nTick x + v0) : Nat) : Int)) * (v2 : Nat) := Int.mul_nonneg (by omega) (by omega)
    show nWorth x - _ + (payN tr k : Nat) ≤ _
    omega
def BOK (m : Nat) (x : NS) : Prop := nAt x < 100 ∧ nTick x < 10000 ∧ -(20000 * (m : Int)) ≤ nWorth x ∧ nWorth x ≤ 300 * (m : Int)
theorem NOK.b {m : Nat} {x : NS} (h : NOK m x) : BOK m x := ⟨h.1, h.2.1, h.2.2.2.2.1, h.2.2.2.2.2.1⟩
theorem BOK.t3 {m : Nat} {x y : NS} (h : BOK m x) (ht : T3 x y) : BOK m y := by
  obtain ⟨h1, h2, h3⟩ := ht
  unfold BOK at *
  rw [← h1, ← h2, ← h3]; exact h
theorem lookN_bok {dl : Nat → Nat} {tr : Nat → Nat → Nat} {sz rl : Nat} (wf : WF dl tr sz rl) {V : TV} (hV : ∀ p nm, V p nm ≤ 99) {k place m : Nat} {x : NS} (hk : k < 7) (h : BOK m x) : BOK (m + 1) (lookN dl tr V k place x) := by
  have hz : NOK m (nAt x, nTick x, nWorth x, 0, 0, fun _ => -1, fun _ => -1) := ⟨h.1, h.2.1, (by decide : (0 : Nat) < 128), Nat.zero_le _, h.2.2.1, h.2.2.2, fun _ => (by decide : (-1 : Int) ≤ -1 ∧ (-1 : Int) < 10000), fun _ => (by decide : (-1 : Int) ≤ -1 ∧ (-1 : Int) < 10000)⟩
  exact (lookN_ok wf hV (place := place) hk hz).b.t3 (lookN_t3 ⟨rfl, rfl, rfl⟩)
/-- of all orders of those that are not gone the first of most worth -/
def tryN (dl : Nat → Nat) (tr : Nat → Nat → Nat) (V : TV) (sz : Nat) : Nat → Nat → Nat → Nat → NS → Int32 × Int → Int32 × Int
  | 0, _, _, digits, x, c => if c.2 < nWorth x then (nI digits, nWorth x) else c
  | m + 1, place, gone, digits, x, c => iterF (fun i c => if gone.testBit i then c else tryN dl tr V sz m (place + 1) (gone ||| 2 ^ i) (digits * 10 + i + 1) (lookN dl tr V i place x) c) sz 0 c
theorem tryN_t3 {dl : Nat → Nat} {tr : Nat → Nat → Nat} {V : TV} {sz : Nat} : ∀ {m place gone digits : Nat} {x y : NS} {c : Int32 × Int}, T3 x y → tryN dl tr V sz m place gone digits x c = tryN dl tr V sz m place gone digits y c
  | 0, _, _, _, _, _, _, h => by
    unfold tryN
    rw [h.2.2]
  | m + 1, place, gone, digits, x, y, c, h => by
    show iterF _ sz 0 c = iterF _ sz 0 c
    refine iterF_congr fun j c _ _ => ?_
    show (if gone.testBit j then c else _) = (if gone.testBit j then c else _)
    split
    · rfl
    · exact tryN_t3 (lookN_t3 h)
def leftN (tr : Nat → Nat → Nat) (gone : Nat) : Nat → Nat
  | 0 => 0
  | i + 1 => leftN tr gone i + (if gone.testBit i then 0 else payN tr i)
theorem tbo_ne {g i j : Nat} (h : j ≠ i) : (g ||| 2 ^ i).testBit j = g.testBit j := by
  rw [Nat.testBit_or, Nat.testBit_two_pow_of_ne (fun e => h e.symm), Bool.or_false]
theorem tbo_eq {g i : Nat} : (g ||| 2 ^ i).testBit i = true := by
  rw [Nat.testBit_or, Nat.testBit_two_pow_self, Bool.or_true]
theorem leftN_or {tr : Nat → Nat → Nat} {gone i : Nat} (h : gone.testBit i = false) : ∀ j, leftN tr (gone ||| 2 ^ i) j + (if i < j then payN tr i else 0) = leftN tr gone j
  | 0 => by simp [leftN]
  | j + 1 => by
    have ih := leftN_or (tr := tr) h j
    unfold leftN
    by_cases e : j = i
    · subst e
      rw [tbo_eq, h, if_pos rfl, if_neg (show ¬ (false = true) by decide), if_pos (show j < j + 1 by omega)]
      rw [if_neg (show ¬ j < j by omega)] at ih
      omega
    · rw [tbo_ne e]
      by_cases e2 : i < j
      · rw [if_pos e2] at ih; rw [if_pos (show i < j + 1 by omega)]; omega
      · rw [if_neg e2] at ih; rw [if_neg (show ¬ i < j + 1 by omega)]; omega
theorem leftN_z (tr : Nat → Nat → Nat) : ∀ j, leftN tr 0 j = sumP tr j
  | 0 => rfl
  | j + 1 => by
    unfold leftN sumP
    rw [leftN_z tr j, Nat.zero_testBit, if_neg (by decide)]
theorem leftN_le {dl : Nat → Nat} {tr : Nat → Nat → Nat} {sz rl gone : Nat} (wf : WF dl tr sz rl) : ∀ j, j ≤ 7 → leftN tr gone j ≤ 300 * j
  | 0, _ => Nat.le_refl _
  | j + 1, h => by
    have h1 := leftN_le wf (gone := gone) j (by omega)
    have h2 := payN_le wf (k := j) (by omega)
    unfold leftN
    split <;> omega
/-- where no more can come of it, nothing comes of it -/
theorem tryN_le {dl : Nat → Nat} {tr : Nat → Nat → Nat} {V : TV} {sz : Nat} : ∀ {m place gone digits : Nat} {x : NS} {c : Int32 × Int}, nWorth x + (leftN tr gone sz : Nat) ≤ c.2 → tryN dl tr V sz m place gone digits x c = c
  | 0, _, _, _, _, _, h => by
    unfold tryN
    rw [if_neg (by omega)]
  | m + 1, place, gone, digits, x, c, h => by
    show iterF _ sz 0 c = c
    refine iterF_id fun j _ hj => ?_
    show (if gone.testBit j then c else _) = c
    split
    · rfl
    · rename_i hb
      have h1 := leftN_or (tr := tr) (gone := gone) (i := j) (by simpa using hb) sz
      rw [if_pos (by omega)] at h1
      have h2 := lookN_wo (dl := dl) (tr := tr) (V := V) (k := j) (place := place) (x := x)
      exact tryN_le (by omega)
def COK (c : Int32 × Int) : Prop := -1000000 ≤ c.2 ∧ c.2 ≤ 10000
theorem tryN_ok {dl : Nat → Nat} {tr : Nat → Nat → Nat} {sz rl : Nat} (wf : WF dl tr sz rl) {V : TV} (hV : ∀ p nm, V p nm ≤ 99) : ∀ {m place gone digits q : Nat} {x : NS} {c : Int32 × Int}, q + m ≤ 7 → BOK q x → COK c → COK (tryN dl tr V sz m place gone digits x c)
  | 0, _, _, _, _, _, _, hq, hb, hc => by
    unfold tryN
    split
    · obtain ⟨_, _, b3, b4⟩ := hb
      unfold COK; exact ⟨by show _ ≤ nWorth _; omega, by show nWorth _ ≤ _; omega⟩
    · exact hc
  | m + 1, place, gone, digits, q, x, c, hq, hb, hc => by
    have hz := wf.2.2.1
    show COK (iterF _ sz 0 c)
    refine iterF_inv hc fun j c _ hj hc => ?_
    show COK (if gone.testBit j then c else _)
    split
    · exact hc
    · exact tryN_ok wf hV (q := q + 1) (by omega) (lookN_bok wf hV (by omega) hb) hc
theorem NC.lo {n : Nat} {I I2 : TI} {R : TR} {s t : Nat} {en dl : Nat → Nat} {tr : Nat → Nat → Nat} {sz rl : Nat} (h : NC n I R s t en dl tr sz rl) (hF : ∀ a, a < 97 → I2 a = I a) : NC n I2 R s t en dl tr sz rl := by
  obtain ⟨h1, h2, h3, h4, h5, h6, h7, h8, h9, h10⟩ := h
  have hz := h5.2.2.1
  have hl := sky_lt h2
  have ht := text_lt h3
  refine ⟨h1, h2, h3, ⟨fun j hj => ?_, fun i k hi hk => ?_, ?_, ?_⟩, h5, fun k hk t2 ht2 => ?_, ⟨fun p hp => ?_, h7.2⟩, h8, h9, ⟨fun p hp => ?_, fun p hp => ?_⟩⟩
  · rw [hF _ (by omega)]; exact h4.1 j hj
  · rw [hF _ (by omega)]; exact h4.2.1 i k hi hk
  · rw [hF _ (by omega)]; exact h4.2.2.1
  · rw [hF _ (by omega)]; exact h4.2.2.2
  · rw [hF _ (by omega)]; exact h6 k hk t2 ht2
  · rw [hF _ (by omega)]; exact h7.1 p hp
  · rw [hF _ (by omega)]; exact h10.1 p hp
  · rw [hF _ (by omega)]; exact h10.2 p hp
/-- as the orders are gone through: the night, the choice -/
def TrA (n : Nat) (R : TR) (en dl : Nat → Nat) (tr : Nat → Nat → Nat) (sz rl : Nat) (V : TV) (c : Nat) (y : NS) (w : Int32 × Int) (I : TI) : Prop := NC n I R 13 (71 + 3 * rl) en dl tr sz rl ∧ ruleV I rl en = V ∧ WkAt I y ∧ I c 0 = w.1 ∧ I c 1 = zI w.2
def FrK (c : Nat) (I I2 : TI) : Prop := ∀ a, a ≠ c → (a < 97 ∨ 101 < a) → I2 a = I a
theorem FrK.rf {c : Nat} {I : TI} : FrK c I I := fun _ _ _ => rfl
theorem FrK.t {c : Nat} {I I1 I2 : TI} (h : FrK c I I1) (h2 : FrK c I1 I2) : FrK c I I2 := fun a h3 h4 => (h2 a h3 h4).trans (h a h3 h4)
theorem FrK.w {c : Nat} {I I1 I2 : TI} (h : FrK c I I1) (h2 : FrW I1 I2) : FrK c I I2 := h.t fun a _ h4 => h2 a h4
section XTr
variable {n : Nat} {R : TR} {en dl : Nat → Nat} {tr : Nat → Nat → Nat} {sz rl : Nat} {V : TV} {c : Nat} {y y2 : NS} {w : Int32 × Int} {I I2 : TI}
theorem TrA.toW (h : TrA n R en dl tr sz rl V c y w I) (hc : 118 ≤ c) (hF : FrW I I2) (hW : WkAt I2 y2) : TrA n R en dl tr sz rl V c y2 w I2 := by
  obtain ⟨h1, h2, h3, h4, h5⟩ := h
  refine ⟨h1.w hF, ?_, hW, by rw [hF c (by omega)]; exact h4, by rw [hF c (by omega)]; exact h5⟩
  rw [← h2]
  show tvN (mkA I2 _) en = tvN (mkA I _) en
  rw [mkA_w h1.2.2.1 hF]
theorem TrA.toC (h : TrA n R en dl tr sz rl V c y w I) (hc : 118 ≤ c) (one : Int32) (x : Int) : TrA n R en dl tr sz rl V c y (one, x) (up2 (up2 I c 0 one) c 1 (zI x)) := by
  obtain ⟨h1, h2, ⟨w7, w8, w9, w10, w11, w100, w101⟩, h4, h5⟩ := h
  have e : ∀ a, a ≠ c → up2 (up2 I c 0 one) c 1 (zI x) a = I a := fun a ha => by rw [up2_a _ _ _ ha, up2_a _ _ _ ha]
  have ht := text_lt h1.2.2.1
  refine ⟨h1.lo fun a ha => e a (by omega), ?_, ⟨?_, ?_, ?_, ?_, ?_, fun k hk => ?_, fun k hk => ?_⟩, ?_, up2_at _ _ _ _⟩
  · rw [← h2]
    show tvN (mkA _ _) en = tvN (mkA I _) en
    unfold mkA
    rw [e _ (by omega)]
  · rw [e _ (by omega)]; exact w7
  · rw [e _ (by omega)]; exact w8
  · rw [e _ (by omega)]; exact w9
  · rw [e _ (by omega)]; exact w10
  · rw [e _ (by omega)]; exact w11
  · rw [e _ (by omega)]; exact w100 k hk
  · rw [e _ (by omega)]; exact w101 k hk
  · rw [up2_k _ _ (by decide), up2_at]
end XTr
set_option maxRecDepth 20000 in
set_option maxHeartbeats 4000000 in
theorem S_tryOrders {g : GP} {d n : Nat} {J : TJ} {R : TR} {en dl : Nat → Nat} {tr : Nat → Nat → Nat} {sz rl : Nat} {V : TV} {c : Nat} (hc : Al n c 0 2) (hc2 : 118 ≤ c) (wf : WF dl tr sz rl) (hV : ∀ p nm, V p nm ≤ 99) : ∀ (m place gone digits : Nat) (x : NS) (w : Int32 × Int) (I : TI), place + m = sz → gone < 128 → BOK place x → COK w → TrA n R en dl tr sz rl V c x w I → Wp g (d + m + 4) mX6_tryOrders 0 [.ref c, .ref 97, .int (nI place), .int (nI gone), .int (nI digits), .int (nI (leftN tr gone sz)), .null, .null, .null, .null, .null] [] 0 0 n I J R (PostI n J R none (fun I2 => (∃ y, TrA n R en dl tr sz rl V c y (tryN dl tr V sz m place gone digits x w) I2) ∧ FrK c I I2)) := by
  have hz := wf.2.2.1
  have h13 : isSky 13 := Or.inl rfl
  intro m
  induction m with
  | zero =>
    intro place gone digits x w I hp hg hb hw hT
    obtain ⟨hN, hv, hW, hc0, hc1⟩ := hT
    have hT : TrA n R en dl tr sz rl V c x w I := ⟨hN, hv, hW, hc0, hc1⟩
    obtain ⟨hsh, hs, ht, hA, wf', hrow, hTx, h5, h6, hKS⟩ := hN
    obtain ⟨b1, b2, b3, b4⟩ := hb
    obtain ⟨c1, c2⟩ := hw
    refine r_iload_n dX6_tryOrders_0 rfl ?_
    refine r_aload_n dX6_tryOrders_1 rfl ?_
    refine r_getR (b := 13) dX6_tryOrders_2 f_X6_246 (hsh.al rfl (by decide)) (Or.inr ⟨_, rfl⟩) h5 (by decide) ?_
    refine r_getIE dX6_tryOrders_5 f_X6_95 (hsh.al rfl (by decide)) (Or.inl rfl) hA.2.2.1 ?_
    refine r_nicmp_ge  (tgt := 17) dX6_tryOrders_8 (by decide) rfl rfl (by omega) (by omega) (fun h8 => ?_) (fun h8 => absurd h8 (by omega))
    refine r_aload_n dX6_tryOrders_17 rfl ?_
    refine r_iload dX6_tryOrders_18 rfl ?_
    refine r_aload_n dX6_tryOrders_20 rfl ?_
    refine r_getIE dX6_tryOrders_21 f_X6_159 (hsh.al rfl (by decide)) (Or.inl rfl) hW.2.2.1 ?_
    refine r_callV2W dX6_tryOrders_24 moX0_weigh w_619 w_620 w_621 hc cl0 rfl (Nat.le_of_ble_eq_true rfl) (Nat.le_of_ble_eq_true rfl) (S_weigh hc hc1 (by unfold inZ; omega) (by unfold inZ; omega) (nI digits)) ?_
    refine r_vret dX6_tryOrders_27 rfl ?_
    refine ⟨rfl, rfl, rfl, rfl, ⟨x, ?_⟩, ?_⟩
    · show TrA n R en dl tr sz rl V c x (if w.2 < nWorth x then (nI digits, nWorth x) else w) _
      split
      · exact hT.toC hc2 _ _
      · exact hT
    · split
      · exact fun a ha _ => by rw [up2_a _ _ _ ha, up2_a _ _ _ ha]
      · exact FrK.rf
  | succ m ih =>
    intro place gone digits x w I hp hg hb hw hT
    obtain ⟨b1, b2, b3, b4⟩ := hb
    have hb : BOK place x := ⟨b1, b2, b3, b4⟩
    have hll := leftN_le wf (gone := gone) sz hz
    have loop : ∀ k i w2 I2 y2 v10, i + k = sz → TrA n R en dl tr sz rl V c y2 w2 I2 → COK w2 → FrK c I I2 → iterF (fun i c => if gone.testBit i then c else tryN dl tr V sz m (place + 1) (gone ||| 2 ^ i) (digits * 10 + i + 1) (lookN dl tr V i place x) c) k i w2 = (tryN dl tr V sz (m + 1) place gone digits x w) → Wp g (d + m + 4 + 1) mX6_tryOrders 49 [.ref c, .ref 97, .int (nI place), .int (nI gone), .int (nI digits), .int (nI (leftN tr gone sz)), .int (nI (nAt x)), .int (nI (nTick x)), .int (zI (nWorth x)), .int (nI i), v10] [] 0 0 n I2 J R (PostI n J R none (fun I2 => (∃ y, TrA n R en dl tr sz rl V c y (tryN dl tr V sz (m + 1) place gone digits x w) I2) ∧ FrK c I I2)) := by
      intro k
      induction k with
      | zero =>
        intro i w2 I2 y2 v10 hi hT2 hw2 hF he
        obtain ⟨hN, hv, hW, hc0, hc1⟩ := hT2
        have hT2 : TrA n R en dl tr sz rl V c y2 w2 I2 := ⟨hN, hv, hW, hc0, hc1⟩
        obtain ⟨hsh, hs, ht, hA, wf', hrow, hTx, h5, h6, hKS⟩ := hN
        have he : w2 = (tryN dl tr V sz (m + 1) place gone digits x w) := he
        subst he
        refine r_iload dX6_tryOrders_49 rfl ?_
        refine r_aload_n dX6_tryOrders_51 rfl ?_
        refine r_getR (b := 13) dX6_tryOrders_52 f_X6_246 (hsh.al rfl (by decide)) (Or.inr ⟨_, rfl⟩) h5 (by decide) ?_
        refine r_getIE dX6_tryOrders_55 f_X6_95 (hsh.al rfl (by decide)) (Or.inl rfl) hA.2.2.1 ?_
        refine r_nicmp_ge  (tgt := 158) dX6_tryOrders_58 (by decide) rfl rfl (by omega) (by omega) (fun h58 => ?_) (fun h58 => absurd h58 (by omega))
        refine r_vret dX6_tryOrders_158 rfl ?_
        exact ⟨rfl, rfl, rfl, rfl, ⟨y2, hT2⟩, hF⟩
      | succ k ihk =>
        intro i w2 I2 y2 v10 hi hT2 hw2 hF he
        obtain ⟨hN, hv, hW, hc0, hc1⟩ := hT2
        have hT2 : TrA n R en dl tr sz rl V c y2 w2 I2 := ⟨hN, hv, hW, hc0, hc1⟩
        have hN2 := hN
        obtain ⟨hsh, hs, ht, hA, wf', hrow, hTx, h5, h6, hKS⟩ := hN
        obtain ⟨w7, w8, w9, w10, w11, w100, w101⟩ := hW
        obtain ⟨c1, c2⟩ := hw2
        have hw2 : COK w2 := ⟨c1, c2⟩
        refine r_iload dX6_tryOrders_49 rfl ?_
        refine r_aload_n dX6_tryOrders_51 rfl ?_
        refine r_getR (b := 13) dX6_tryOrders_52 f_X6_246 (hsh.al rfl (by decide)) (Or.inr ⟨_, rfl⟩) h5 (by decide) ?_
        refine r_getIE dX6_tryOrders_55 f_X6_95 (hsh.al rfl (by decide)) (Or.inl rfl) hA.2.2.1 ?_
        refine r_nicmp_ge  (tgt := 158) dX6_tryOrders_58 (by decide) rfl rfl (by omega) (by omega) (fun h58 => absurd h58 (by omega)) (fun h58 => ?_)
        refine r_iload_n dX6_tryOrders_61 rfl ?_
        refine r_iload dX6_tryOrders_62 rfl ?_
        refine r_ishr dX6_tryOrders_64 ?_
        refine r_iconst (v := 1) dX6_tryOrders_65 (by decide) ?_
        refine r_iand dX6_tryOrders_66 ?_
        refine r_top (v := b2i (gone.testBit i)) (bit_ts _ hg _ (by omega)) ?_
        refine r_ifb_eq (tgt := 73) dX6_tryOrders_67 (by decide) (fun h67 => ?_) (fun h67 => ?_)
        · refine r_aload_n dX6_tryOrders_73 rfl ?_
          refine r_iload dX6_tryOrders_74 rfl ?_
          refine r_putI dX6_tryOrders_76 f_X6_247 (hsh.al rfl (by decide)) (Or.inl rfl) rfl ?_
          refine r_aload_n dX6_tryOrders_79 rfl ?_
          refine r_iload dX6_tryOrders_80 rfl ?_
          refine r_putI dX6_tryOrders_82 f_X6_250 (hsh.al rfl (by decide)) (Or.inl rfl) rfl ?_
          refine r_aload_n dX6_tryOrders_85 rfl ?_
          refine r_iload dX6_tryOrders_86 rfl ?_
          refine r_putI dX6_tryOrders_88 f_X6_159 (hsh.al rfl (by decide)) (Or.inl rfl) rfl ?_
          have h70 : gone.testBit i = false := h67
          have fW : FrW I2 (up2 (up2 (up2 I2 97 7 (nI (nAt x))) 97 8 (nI (nTick x))) 97 9 (zI (nWorth x))) := (((FrW.rf.u (by decide)).u (by decide)).u (by decide))
          have hWy : WkAt (up2 (up2 (up2 I2 97 7 (nI (nAt x))) 97 8 (nI (nTick x))) 97 9 (zI (nWorth x))) (nAt x, nTick x, nWorth x, nFound y2, nWait y2, nFi y2, nWf y2) := by
            refine ⟨rfl, rfl, rfl, ?_, ?_, fun q hq => ?_, fun q hq => ?_⟩
            · exact w10
            · exact w11
            · exact w100 q hq
            · exact w101 q hq
          have hT3 := hT2.toW hc2 fW hWy
          have ht3 : T3 (nAt x, nTick x, nWorth x, nFound y2, nWait y2, nFi y2, nWf y2) x := ⟨rfl, rfl, rfl⟩
          refine r_aload_n dX6_tryOrders_91 rfl ?_
          refine r_iload dX6_tryOrders_92 rfl ?_
          refine r_iload_n dX6_tryOrders_94 rfl ?_
          refine r_callV2N dX6_tryOrders_95 moX5_lookFor w_591 w_532 w_533 (hsh.al rfl (by decide)) cl5 rfl (Nat.le_of_ble_eq_true rfl) (Nat.le_of_ble_eq_true rfl) (S_lookFor hT3.1 (k := i) (place := place) (x := (nAt x, nTick x, nWorth x, nFound y2, nWait y2, nFi y2, nWf y2)) (by omega) (by omega) hWy b1 b2) (fun r n I4 J R hq => ?_)
          obtain ⟨rfl, rfl, rfl, rfl, f, f2⟩ := hq
          have hv3 : tvN (mkA _ (71 + 3 * rl)) en = V := hT3.2.1
          rw [hv3] at f
          have hT4 := hT3.toW hc2 f2 f
          have ht4 := lookN_t3 (dl := dl) (tr := tr) (V := V) (k := i) (place := place) ht3
          have hA4 := hT4.1.2.2.2.1
          have hlo := leftN_or (tr := tr) h70 sz
          rw [if_pos (show i < sz by omega)] at hlo
          have hbk := (lookN_bok wf hV (k := i) (place := place) (by omega) hb)
          have hF4 : FrK c I I4 := (hF.w fW).w f2
          have hll2 := leftN_le wf (gone := gone ||| 2 ^ i) sz hz
          obtain ⟨e1, e2, e3, e4⟩ := hbk
          refine r_iload dX6_tryOrders_98 rfl ?_
          refine r_aload_n dX6_tryOrders_100 rfl ?_
          refine r_getR (b := 13) dX6_tryOrders_101 f_X6_246 (hsh.al rfl (by decide)) (Or.inr ⟨_, rfl⟩) h5 (by decide) ?_
          refine r_iload dX6_tryOrders_104 rfl ?_
          refine r_callV1I dX6_tryOrders_106 moX3_pays w_468 w_469 w_470 (hsh.al rfl (by decide)) cl3 rfl (Nat.le_of_ble_eq_true rfl) (Nat.le_of_ble_eq_true rfl) (S_pays hsh h13 hA4 wf (k := i) (by omega)) ?_
          refine r_nisub dX6_tryOrders_109 rfl rfl (by omega) ?_
          refine r_top (v := nI (leftN tr (gone ||| 2 ^ i) sz)) (by congr 1; omega) ?_
          refine r_istore dX6_tryOrders_110 (by decide) rfl ?_
          refine r_aload_n dX6_tryOrders_112 rfl ?_
          refine r_getIE dX6_tryOrders_113 f_X6_159 (hsh.al rfl (by decide)) (Or.inl rfl) (f.2.2.1.trans (congrArg zI ht4.2.2)) ?_
          refine r_iload dX6_tryOrders_116 rfl ?_
          refine r_ziadd dX6_tryOrders_118 rfl (nz _) ?_
          refine r_aload_n dX6_tryOrders_119 rfl ?_
          refine r_getIE dX6_tryOrders_120 f_X6_253 hc (Or.inl rfl) hT4.2.2.2.2 ?_
          refine r_zicmp_le  (tgt := 152) dX6_tryOrders_123 (by decide) rfl rfl (by unfold inZ; omega) (by unfold inZ; omega) (fun h123 => ?_) (fun h123 => ?_)
          · refine r_iincE (b := (i + 1)) dX6_tryOrders_152 rfl rfl (nI_succ _).symm rfl ?_
            refine r_goto (tgt := 49) dX6_tryOrders_155 (by decide) ?_
            have he2 : (fun i c => if gone.testBit i then c else tryN dl tr V sz m (place + 1) (gone ||| 2 ^ i) (digits * 10 + i + 1) (lookN dl tr V i place x) c) i w2 = w2 := by
              show (if gone.testBit i then w2 else _) = w2
              rw [h70, if_neg (by decide)]
              exact tryN_le (by omega)
            refine ihk (i + 1) w2 I4 _ _ (by omega) hT4 hw2 hF4 ?_
            rw [← he]
            show iterF _ k (i + 1) w2 = iterF _ k (i + 1) _
            rw [he2]
          · refine r_aload_n dX6_tryOrders_126 rfl ?_
            refine r_aload_n dX6_tryOrders_127 rfl ?_
            refine r_iload_n dX6_tryOrders_128 rfl ?_
            refine r_iconst (v := 1) dX6_tryOrders_129 (by decide) ?_
            refine r_niadd (b := 1) dX6_tryOrders_130 rfl rfl ?_
            refine r_iload_n dX6_tryOrders_131 rfl ?_
            refine r_iconst (v := 1) dX6_tryOrders_132 (by decide) ?_
            refine r_iload dX6_tryOrders_133 rfl ?_
            refine r_ishl dX6_tryOrders_135 ?_
            refine r_top (v := nI (2 ^ i)) (bit_sh i (by omega)) ?_
            refine r_ior dX6_tryOrders_136 ?_
            refine r_top (v := nI (gone ||| 2 ^ i)) (nI_or _ _) ?_
            refine r_iload dX6_tryOrders_137 rfl ?_
            refine r_bipush (v := 10) dX6_tryOrders_139 (by decide) ?_
            refine r_nimul (b := 10) dX6_tryOrders_141 rfl rfl ?_
            refine r_iload dX6_tryOrders_142 rfl ?_
            refine r_niadd dX6_tryOrders_144 rfl rfl ?_
            refine r_iconst (v := 1) dX6_tryOrders_145 (by decide) ?_
            refine r_niadd (b := 1) dX6_tryOrders_146 rfl rfl ?_
            refine r_iload dX6_tryOrders_147 rfl ?_
            refine r_callS6N dX6_tryOrders_149 moX6_tryOrders w_616 w_617 (Nat.le_of_ble_eq_true rfl) (Nat.le_of_ble_eq_true rfl) (ih (place + 1) (gone ||| 2 ^ i) (digits * 10 + i + 1) _ w2 I4 (by omega) (or_lt hg (by omega)) (BOK.t3 ⟨e1, e2, e3, e4⟩ ⟨ht4.1.symm, ht4.2.1.symm, ht4.2.2.symm⟩) hw2 hT4) (fun r n I5 J R hq => ?_)
            obtain ⟨rfl, rfl, rfl, rfl, ⟨y5, hT5⟩, hF5⟩ := hq
            rw [tryN_t3 ht4] at hT5
            refine r_iincE (b := (i + 1)) dX6_tryOrders_152 rfl rfl (nI_succ _).symm rfl ?_
            refine r_goto (tgt := 49) dX6_tryOrders_155 (by decide) ?_
            have he2 : (fun i c => if gone.testBit i then c else tryN dl tr V sz m (place + 1) (gone ||| 2 ^ i) (digits * 10 + i + 1) (lookN dl tr V i place x) c) i w2 = tryN dl tr V sz m (place + 1) (gone ||| 2 ^ i) (digits * 10 + i + 1) (lookN dl tr V i place x) w2 := by
              show (if gone.testBit i then w2 else _) = _
              rw [h70, if_neg (by decide)]
            refine ihk (i + 1) _ I5 y5 _ (by omega) hT5 (tryN_ok wf hV (q := place + 1) (by omega) ⟨e1, e2, e3, e4⟩ hw2) (hF4.t hF5) ?_
            rw [← he]
            show iterF _ k (i + 1) _ = iterF _ k (i + 1) _
            rw [he2]
        · refine r_goto (tgt := 152) dX6_tryOrders_70 (by decide) ?_
          refine r_iincE (b := (i + 1)) dX6_tryOrders_152 rfl rfl (nI_succ _).symm rfl ?_
          refine r_goto (tgt := 49) dX6_tryOrders_155 (by decide) ?_
          have he2 : (fun i c => if gone.testBit i then c else tryN dl tr V sz m (place + 1) (gone ||| 2 ^ i) (digits * 10 + i + 1) (lookN dl tr V i place x) c) i w2 = w2 := by
            exact if_pos h67
          refine ihk (i + 1) w2 I2 y2 _ (by omega) hT2 hw2 hF ?_
          rw [← he]
          show iterF _ k (i + 1) w2 = iterF _ k (i + 1) _
          rw [he2]
    obtain ⟨hN, hv, hW, hc0, hc1⟩ := hT
    have hT : TrA n R en dl tr sz rl V c x w I := ⟨hN, hv, hW, hc0, hc1⟩
    obtain ⟨hsh, hs, ht, hA, wf', hrow, hTx, h5, h6, hKS⟩ := hN
    refine r_iload_n dX6_tryOrders_0 rfl ?_
    refine r_aload_n dX6_tryOrders_1 rfl ?_
    refine r_getR (b := 13) dX6_tryOrders_2 f_X6_246 (hsh.al rfl (by decide)) (Or.inr ⟨_, rfl⟩) h5 (by decide) ?_
    refine r_getIE dX6_tryOrders_5 f_X6_95 (hsh.al rfl (by decide)) (Or.inl rfl) hA.2.2.1 ?_
    refine r_nicmp_ge  (tgt := 17) dX6_tryOrders_8 (by decide) rfl rfl (by omega) (by omega) (fun h8 => absurd h8 (by omega)) (fun h8 => ?_)
    refine r_iload_n dX6_tryOrders_11 rfl ?_
    refine r_bipush (v := 7) dX6_tryOrders_12 (by decide) ?_
    refine r_nicmp_lt (b := 7)  (tgt := 28) dX6_tryOrders_14 (by decide) rfl rfl (by omega) (by omega) (fun h14 => ?_) (fun h14 => absurd h14 (by omega))
    refine r_aload_n dX6_tryOrders_28 rfl ?_
    refine r_getIE dX6_tryOrders_29 f_X6_247 (hsh.al rfl (by decide)) (Or.inl rfl) hW.1 ?_
    refine r_istore dX6_tryOrders_32 (by decide) rfl ?_
    refine r_aload_n dX6_tryOrders_34 rfl ?_
    refine r_getIE dX6_tryOrders_35 f_X6_250 (hsh.al rfl (by decide)) (Or.inl rfl) hW.2.1 ?_
    refine r_istore dX6_tryOrders_38 (by decide) rfl ?_
    refine r_aload_n dX6_tryOrders_40 rfl ?_
    refine r_getIE dX6_tryOrders_41 f_X6_159 (hsh.al rfl (by decide)) (Or.inl rfl) hW.2.2.1 ?_
    refine r_istore dX6_tryOrders_44 (by decide) rfl ?_
    refine r_iconst (v := 0) dX6_tryOrders_46 (by decide) ?_
    refine r_istore dX6_tryOrders_47 (by decide) rfl ?_
    exact loop sz 0 w I x _ (by omega) hT hw FrK.rf rfl
