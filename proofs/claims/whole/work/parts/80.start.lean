/-! the law from its first row -/
theorem StI.fr {I I2 : TI} (h : StI I) (hF : ∀ a, a < 12 → I2 a = I a) : StI I2 := ⟨⟨fun p hp => by rw [hF _ (by decide)]; exact h.1.1 p hp, fun p hp => by rw [hF _ (by decide)]; exact h.1.2 p hp⟩, fun k hk => by rw [hF _ (by decide)]; exact h.2.1 k hk, fun j hj => by rw [hF _ (by decide)]; exact h.2.2.1 j hj, h.2.2.2.1.fr hF, fun j hj => by rw [hF _ (by decide)]; exact h.2.2.2.2 j hj⟩
set_option maxRecDepth 20000 in
set_option maxHeartbeats 8000000 in
theorem S_lawAll {g : GP} {d : Nat} {xs : Nat → Int32} (hX : SX g xs) (hL : gN g ≤ 3072) {I : TI} {J : TJ} {R : TR} (hK : StI I) : Wp g (d + 63) mL_law 0 [.ref 1, .null, .null, .null] [] 618 8616 0 I J R LwQ := by
  have hK0 : StI (z1 0 I (12 + 0)) := hK.fr fun a ha => z1_ne _ _ (by omega)
  refine r_new dL_law_0 cl6 w_18 w_19 w_1 (by decide) rfl ?_
  refine r_dup dL_law_3 rfl ?_
  refine Wp.room (bc := 89 + 528) (bs := 6129 + 2478) (by decide) (by decide) ?_
  refine r_callI0 dL_law_4 moX6_init rfl rfl w_20 w_21 (Nat.le_of_ble_eq_true rfl) (Nat.le_of_ble_eq_true rfl) (S_classInit hK0.2.2.2.2 hK0.2.2.2.1) (fun r n I2 J R hq => ?_)
  obtain ⟨rfl, rfl, hB, h64, hx⟩ := hq
  refine r_astore_n dL_law_7 (by decide) rfl ?_
  refine r_new dL_law_8 cl7 w_779 w_780 w_13 (by decide) rfl ?_
  refine r_dup dL_law_11 rfl ?_
  refine Wp.room (bc := 15 + 512) (bs := 1409 + 1024) (by decide) (by decide) ?_
  refine r_callI0 dL_law_12 moX7_init rfl rfl w_781 w_782 (Nat.le_of_ble_eq_true rfl) (Nat.le_of_ble_eq_true rfl) (S_modelInit (fun k => congrFun (z1_at 0 I2 102) k)) (fun r n I3 J R hq => ?_)
  obtain ⟨rfl, rfl, hM⟩ := hq
  refine r_astore_n dL_law_15 (by decide) rfl ?_
  refine r_iconst (v := 0) dL_law_16 (by decide) ?_
  refine r_top (v := nI 0) (by decide) ?_
  refine r_istore_n dL_law_17 (by decide) rfl ?_
  exact S_lawLoop hX hL 512 0 106 _ _ _ s00 (by omega) (by decide) (CS_made hK0 hB h64 hx hM) (MdS_made hB.sw hM)
