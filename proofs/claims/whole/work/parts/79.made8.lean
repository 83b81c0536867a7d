/-! both sides as they are made: what they keep then -/
def txm (j : Nat) : Nat := ([116, 117, 114, 110, 115, 32, 102, 97, 114, 32, 59, 32, 102, 105, 110, 100, 115, 32, 53, 32, 59, 32, 119, 97, 105, 116, 115, 32, 48, 32, 59, 32] : List Nat).getD j 0
theorem txm_ok : rdOk txm 32 = true := by decide +kernel
theorem txm_256 : ∀ j, j < 32 → txm j < 256 := by decide +kernel
theorem PGr.fn {z z2 : Nat} {st st2 : LexS} {r r2 : POut} (h : PGr z st r) (h2 : PGr z2 st2 r2) (o : r.1 = true) (o2 : r2.1 = true) (e : r.2.2.1 = r2.2.2.1) : r.2.2.2 = r2.2.2.2 := funext fun nm => by
  have a := (h.2.2 o).2 nm []
  have a2 := (h2.2.2 o2).2 nm []
  rw [e, a2] at a
  exact (List.cons.inj a).1.symm
theorem tx_0 : (rd0 txm 32).1 = true ∧ (rd0 tx1 31).1 = true ∧ (rd0 txm 32).2.2.1 = (rd0 tx1 31).2.2.1 := by decide +kernel
theorem tx_1 : (rd1 txm 32).1 = true ∧ (rd1 tx1 31).1 = true ∧ (rd1 txm 32).2.2.1 = (rd1 tx1 31).2.2.1 := by decide +kernel
theorem tx_2 : (rd2 txm 32).1 = true ∧ (rd2 tx1 31).1 = true ∧ (rd2 txm 32).2.2.1 = (rd2 tx1 31).2.2.1 := by decide +kernel
theorem tx_tv : rdTV txm 32 = rdTV tx1 31 := by
  unfold rdTV
  rw [PGr.fn rd0_gd rd0_gd tx_0.1 tx_0.2.1 tx_0.2.2, PGr.fn rd1_gd rd1_gd tx_1.1 tx_1.2.1 tx_1.2.2, PGr.fn rd2_gd rd2_gd tx_2.1 tx_2.2.1 tx_2.2.2]
def tr00 : Nat → Nat → Nat := fun _ _ => 0
/-- what is kept at the start -/
def s00 : CSt := (d0N, tr00, 0, 0, false, d0N, tr00, 0, 0, 1, (fun _ => rdTV tx1 31), (fun _ => -1), (fun _ => 0), (fun _ _ => 0), 0, (fun _ => 0))
def StI (I : TI) : Prop := KS I ∧ KAOK I ∧ (∀ j, j < 13 → I 2 j = nI (mostN j)) ∧ STR I ∧ ∀ j, j < 31 → I 9 j = nI (tx1 j)
theorem wf_00 : WF d0N tr00 0 0 := ⟨by decide, fun _ _ _ _ => Nat.zero_le _, by decide, by decide⟩
theorem shL_102 : ∀ q ∈ shL, 102 ≤ q.1 → q.1 = 102 := by decide +kernel
theorem sh_made {R R2 : TR} (hw : Shw 90 R) (h1 : ∀ a, a < 102 → R2 a = z1 0 R 102 a) (h2 : ∀ q ∈ shL, q.1 = 102 → R2 102 q.2.1 = q.2.2) : Sh 106 R2 := ⟨Nat.le_refl _, fun q hq => by
  by_cases e : q.1 < 102
  · rw [h1 _ e, z1_ne _ _ (by omega)]
    exact hw.2 q hq e
  · have e2 := shL_102 q hq (by omega)
    rw [e2]
    exact h2 q hq e2⟩
theorem CS_made {I0 I I2 : TI} {R0 R R2 : TR} (hK : StI I0) (hB : InB I0 I R0 R) (h64 : I 64 1 = 0) (hx : ∃ en, TextOK I 71 en ∧ tvN (mkA I 71) en = rdTV tx1 31) (hM : MdB (z1 0 I 102) I2 (z1 0 R 102) R2) : CS 106 I2 R2 s00 := by
  have hI : ∀ a, a < 102 → I2 a = I a := fun a ha => by rw [hM.1 a ha, z1_ne _ _ (by omega)]
  have hs : ∀ a, a < 12 → I2 a = I0 a := fun a ha => (hI a (by omega)).trans (hB.1 a (Or.inl ha))
  have h13 : SkyOK I2 13 d0N tr00 0 0 := ⟨⟨fun j hj => by rw [hI _ (by decide)]; exact hB.2.2.1 j hj, fun i k hi hk => by rw [hI _ (by omega)]; exact (hB.2.2.2.2.2.2.1 i k hi).trans (by decide : (0 : Int32) = nI 0), by rw [hI _ (by decide)]; exact hB.2.2.2.2.1.trans (by decide), by rw [hI _ (by decide)]; exact hB.2.2.2.2.2.1.trans (by decide)⟩, wf_00, 0, by rw [hI _ (by decide)]; exact hB.2.2.2.1.trans (by decide), by decide, fun k hk => absurd hk (Nat.not_lt_zero _)⟩
  refine ⟨sh_made hB.sw hM.2.1 hM.2.2.1, h13, (by decide : 0 < 1), ⟨(by decide : 1 ≤ 6), fun i hi => ?_⟩, ⟨fun p hp => by rw [hs _ (by decide)]; exact hK.1.1 p hp, fun p hp => by rw [hs _ (by decide)]; exact hK.1.2 p hp⟩, fun k hk => by rw [hs _ (by decide)]; exact hK.2.1 k hk, fun j hj => by rw [hs _ (by decide)]; exact hK.2.2.1 j hj,
    by rw [hI _ (by decide)]; exact hB.2.2.2.2.2.2.2.2.1.trans (by decide), by rw [hI _ (by decide)]; exact hB.2.2.2.2.2.2.2.1.trans (by decide), fun h => absurd h (by decide), fun i hi => ?_, by rw [hI _ (by decide)]; exact h64.trans (by decide), Nat.zero_le _, fun j hj => absurd hj (Nat.not_lt_zero _), hK.2.2.2.1.fr hs⟩
  · have hi2 : i < 1 := hi
    obtain rfl : i = 0 := by omega
    obtain ⟨en, g1, g2⟩ := hx
    refine ⟨en, ⟨fun p hp => by rw [hI _ (by decide)]; exact g1.1 p hp, g1.2⟩, ?_⟩
    show tvN (mkA I2 71) en = rdTV tx1 31
    rw [← g2]
    have e3 : mkA I2 71 = mkA I 71 := by unfold mkA; rw [hI _ (by decide)]
    rw [e3]
  · obtain ⟨q1, q2, q3⟩ := hB.2.2.2.2.2.2.2.2.2.1 i hi
    refine ⟨⟨?_, ?_, (by decide : (-1 : Int) ≤ -1), (by decide : (-1 : Int) ≤ 2), (by decide : 0 ≤ 40)⟩, fun j hj => ?_⟩
    · rw [hI _ (by omega), q1]; exact (by decide : (-1 : Int32) = zI (-1))
    · rw [hI _ (by omega), q2]; exact (by decide : (0 : Int32) = nI 0)
    · rw [show 89 + 2 * i + 1 = 90 + 2 * i by omega, hI _ (by omega), q3]; rfl
theorem MdS_made {I I2 : TI} {R R2 : TR} (hw : Shw 90 R) (hM : MdB (z1 0 I 102) I2 (z1 0 R 102) R2) : MdS 106 I2 R2 s00 := by
  obtain ⟨m1, m2, m3, m4, m5, m6, m7, m8, m9, ma, mb, mc, md⟩ := hM
  refine ⟨⟨sh_made hw m2 m3, wf_00, m9.trans (by decide), m4, fun k hk => absurd hk (Nat.not_lt_zero _), fun i k hi hk => absurd hk (Nat.not_lt_zero _), m8.trans (by decide), m6.trans (by decide)⟩, (by decide : 0 < 1), (by decide : 1 ≤ 6), m5.trans (by decide : (1 : Int32) = nI 1), fun i hi => ?_, ⟨m7.trans (by decide : (0 : Int32) = nI 0), Nat.zero_le _, fun j hj => absurd hj (Nat.not_lt_zero _)⟩, ⟨ma.trans (by decide : (-1 : Int32) = zI (-1)), fun h => absurd h (by decide)⟩, fun s hs => ⟨(mc s).trans (by decide : (0 : Int32) = b2i (decide ((-1 : Int) ≠ -1))), ⟨(by decide : (-1 : Int) ≤ -1), (by decide : (-1 : Int) ≤ 2), (by decide : 0 ≤ 40)⟩, fun h => absurd rfl h⟩⟩
  have hi2 : i < 1 := hi
  obtain rfl : i = 0 := by omega
  refine ⟨txm, 32, by decide, mb.trans (by decide), fun j hj => ⟨?_, txm_256 j hj⟩, txm_ok, tx_tv⟩
  have h := md (j / 8) (by omega) (j % 8) (by omega)
  rw [show 8 * (j / 8) + j % 8 = j by omega] at h
  rw [show 160 * 0 + j = j by omega, h]
  unfold tx0 txm
  rw [show 8 * (j / 8) + j % 8 = j by omega]
