/-! the law's loop -/
abbrev mL_law : MD := (yL_law, cL_law, 4, some .boolean)
theorem CS.lo {n : Nat} {I I2 : TI} {R : TR} {σ : CSt} (h : CS n I R σ) (hF : ∀ a, a < 102 → I2 a = I a) : CS n I2 R σ :=
  ⟨h.sh, h.k13.out fun a ha => hF a (by unfold inS at ha; omega), h.rlt, h.tx.fr fun a h1 h2 => hF a (by omega), ⟨fun p hp => by rw [hF _ (by decide)]; exact h.ks.1 p hp, fun p hp => by rw [hF _ (by decide)]; exact h.ks.2 p hp⟩,
          fun k hk => by rw [hF _ (by decide)]; exact h.ka k hk, fun j hj => by rw [hF _ (by decide)]; exact h.mo j hj, by rw [hF 12 (by decide)]; exact h.tcI, by rw [hF 12 (by decide)]; exact h.hasI,
          fun hb => ⟨(h.img hb).1.out fun a ha => hF a (by unfold inS at ha; omega), (h.img hb).2⟩,
          fun i hi => by
            obtain ⟨⟨s0, s1, s2⟩, hj⟩ := h.sht i hi
            have e1 : I2 (89 + 2 * i) = I (89 + 2 * i) := hF _ (by omega)
            have e2 : I2 (89 + 2 * i + 1) = I (89 + 2 * i + 1) := hF _ (by omega)
            exact ⟨⟨by rw [e1]; exact s0, by rw [e1]; exact s1, s2⟩, fun j hj2 => by rw [e2]; exact hj j hj2⟩,
          by rw [hF 64 (by decide)]; exact h.tnI, h.tnB, fun j hj => by rw [hF 65 (by decide)]; exact h.tbI j hj, h.str.fr fun a ha => hF a (by omega)⟩
section XLw
variable {g : GP} {d : Nat} {M : MD} {pc : Nat} {L st : List Value} {bc bs bc2 bs2 n : Nat} {I : TI} {J : TJ} {R : TR} {Q : TQ}
theorem Wp.use {P : Prop} (h : ∀ U H, WR g U H n I J R → P) (K : P → Wp g d M pc L st bc bs n I J R Q) : Wp g d M pc L st bc bs n I J R Q := fun p e Rm s m args below meth c H locs cells slots ls C hW hL hlc hc hs => K (h _ _ hW) p e Rm s m args below meth c H locs cells slots ls C hW hL hlc hc hs
theorem Wp.room (h : bc ≤ bc2) (h2 : bs ≤ bs2) (K : Wp g d M pc L st bc bs n I J R Q) : Wp g d M pc L st bc2 bs2 n I J R Q := fun p e Rm s m args below meth c H locs cells slots ls C hW hL hlc hc hs => K p e Rm s m args below meth c H locs cells slots ls C hW hL hlc (by omega) (by omega)
end XLw
/-- the script is what it is, whatever else has changed -/
def SX (g : GP) (xs : Nat → Int32) : Prop := ∀ (U : State) (H : Heap) (n : Nat) (I : TI) (J : TJ) (R : TR), WR g U H n I J R → ∀ j, j < gN g → I 1 j = xs j
theorem inZt (x : Int32) : inZ x.toInt := ⟨Int32.le_toInt x, Int32.toInt_lt x⟩
theorem and31 (x : Int32) : ∃ v, v < 32 ∧ x &&& 31 = nI v := by
  refine ⟨(x.toBitVec &&& 31#32).toNat, ?_, ?_⟩
  · rw [BitVec.toNat_and]
    exact Nat.lt_succ_of_le Nat.and_le_right
  · apply Int32.toBitVec_inj.mp
    show x.toBitVec &&& 31#32 = BitVec.ofNat 32 _
    rw [BitVec.ofNat_toNat]
    simp
def LwQ : TQ := fun r _ _ _ _ => r = some (.int 1)
set_option maxRecDepth 20000 in
set_option maxHeartbeats 8000000 in
theorem S_lawLoop {g : GP} {d : Nat} {xs : Nat → Int32} (hX : SX g xs) (hL : gN g ≤ 3072) : ∀ (q i n : Nat) (I : TI) (J : TJ) (R : TR) (σ : CSt), gN g < i + 6 * q + 6 → i ≤ 4000 → CS n I R σ → MdS n I R σ → Wp g (d + 63) mL_law 18 [.ref 1, .ref 12, .ref 102, .int (nI i)] [] q (2 * q) n I J R LwQ := by
  intro q
  induction q with
  | zero =>
    intro i n I J R σ hq hi hC hM
    have hsh := hC.sh
    refine r_iload_n dL_law_18 rfl ?_
    refine r_aload_n dL_law_19 rfl ?_
    refine r_alenS dL_law_20 rfl ?_
    refine r_bipush (v := 6) dL_law_21 (by decide) ?_
    refine r_zisub (b := 6) dL_law_23 (nz _) (by decide) ?_
    refine r_zicmp_gt  (tgt := 1028) dL_law_24 (by decide) (nz _) rfl (by unfold inZ; omega) (by unfold inZ; omega) (fun h24 => ?_) (fun h24 => absurd h24 (by omega))
    refine r_iconst (v := 1) dL_law_1028 (by decide) ?_
    refine r_bret (b := true) dL_law_1029 rfl ?_ ?_
    · rfl
    · exact rfl
  | succ q ih =>
    intro i n I J R σ hq hi hC hM
    have hsh := hC.sh
    refine r_iload_n dL_law_18 rfl ?_
    refine r_aload_n dL_law_19 rfl ?_
    refine r_alenS dL_law_20 rfl ?_
    refine r_bipush (v := 6) dL_law_21 (by decide) ?_
    refine r_zisub (b := 6) dL_law_23 (nz _) (by decide) ?_
    refine r_zicmp_gt  (tgt := 1028) dL_law_24 (by decide) (nz _) rfl (by unfold inZ; omega) (by unfold inZ; omega) (fun h24 => ?_) (fun h24 => ?_)
    · refine r_iconst (v := 1) dL_law_1028 (by decide) ?_
      refine r_bret (b := true) dL_law_1029 rfl ?_ ?_
      · rfl
      · exact rfl
    · refine Wp.use (fun U H hW => hX U H _ _ _ _ hW) (fun hx1 => ?_)
      refine r_aload_n dL_law_27 rfl ?_
      refine r_iload_n dL_law_28 rfl ?_
      refine r_ialdSE (j := i) dL_law_29 rfl (by omega) (by omega) rfl ((hx1 _ (by omega)).trans (zI_tI _).symm) ?_
      refine r_bipush (v := 31) dL_law_30 (by decide) ?_
      refine r_iand dL_law_32 ?_
      obtain ⟨v, hv, ev⟩ := and31 (zI (xs i).toInt)
      refine r_top (v := nI v) ev ?_
      have hcs : v = 0 ∨ v = 1 ∨ v = 2 ∨ v = 3 ∨ v = 4 ∨ v = 5 ∨ v = 6 ∨ v = 7 ∨ v = 8 ∨ v = 9 ∨ v = 10 ∨ v = 11 ∨ v = 12 ∨ v = 13 ∨ v = 14 ∨ v = 15 ∨ v = 16 ∨ v = 17 ∨ v = 18 ∨ v = 19 ∨ v = 20 ∨ v = 21 ∨ v = 22 ∨ v = 23 ∨ v = 24 ∨ v = 25 ∨ v = 26 ∨ v = 27 ∨ v = 28 ∨ 29 ≤ v := by omega
      rcases hcs with rfl | rfl | rfl | rfl | rfl | rfl | rfl | rfl | rfl | rfl | rfl | rfl | rfl | rfl | rfl | rfl | rfl | rfl | rfl | rfl | rfl | rfl | rfl | rfl | rfl | rfl | rfl | rfl | rfl | hcs
      · refine r_top (v := nI 0) rfl ?_
        refine r_tabIn (tgt := 164) (off := 131) dL_law_33 (by decide) (by decide) (by decide) (by decide) ?_
        refine r_aload_n dL_law_164 rfl ?_
        refine r_aload_n dL_law_165 rfl ?_
        refine r_iload_n dL_law_166 rfl ?_
        refine r_iconst (v := 1) dL_law_167 (by decide) ?_
        refine r_niadd (b := 1) dL_law_168 rfl rfl ?_
        refine r_ialdSE (j := (i + 1)) dL_law_169 rfl (by omega) (by omega) rfl ((hx1 _ (by omega)).trans (zI_tI _).symm) ?_
        refine r_aload_n dL_law_170 rfl ?_
        refine r_iload_n dL_law_171 rfl ?_
        refine r_iconst (v := 2) dL_law_172 (by decide) ?_
        refine r_niadd (b := 2) dL_law_173 rfl rfl ?_
        refine r_ialdSE (j := (i + 2)) dL_law_174 rfl (by omega) (by omega) rfl ((hx1 _ (by omega)).trans (zI_tI _).symm) ?_
        refine r_aload_n dL_law_175 rfl ?_
        refine r_iload_n dL_law_176 rfl ?_
        refine r_iconst (v := 3) dL_law_177 (by decide) ?_
        refine r_niadd (b := 3) dL_law_178 rfl rfl ?_
        refine r_ialdSE (j := (i + 3)) dL_law_179 rfl (by omega) (by omega) rfl ((hx1 _ (by omega)).trans (zI_tI _).symm) ?_
        refine r_callV3N dL_law_180 moX6_set w_431 w_432 w_433 (hsh.al rfl (by decide)) cl6 rfl (Nat.le_of_ble_eq_true rfl) (Nat.le_of_ble_eq_true rfl) (S_set hC (inZt _) (inZt _) (inZt _)) (fun r n I2 J R hq => ?_)
        obtain ⟨rfl, hn1, hn2, hC2, hF2⟩ := hq
        have hsh := hC2.sh
        have hM2 := hM.fr2 (⟨hM.sh.1, hC2.sh.2⟩ : Sh _ R) hC2.sh (fun a a1 a2 _ _ => (hF2 a (by omega) (by omega)).1) (fun k hk => by rw [(hF2 102 (by decide) (by decide)).1])
        refine Wp.use (fun U H hW => hX U H _ _ _ _ hW) (fun hx2 => ?_)
        refine r_aload_n dL_law_183 rfl ?_
        refine r_aload_n dL_law_184 rfl ?_
        refine r_iload_n dL_law_185 rfl ?_
        refine r_iconst (v := 1) dL_law_186 (by decide) ?_
        refine r_niadd (b := 1) dL_law_187 rfl rfl ?_
        refine r_ialdSE (j := (i + 1)) dL_law_188 rfl (by omega) (by omega) rfl ((hx2 _ (by omega)).trans (zI_tI _).symm) ?_
        refine r_aload_n dL_law_189 rfl ?_
        refine r_iload_n dL_law_190 rfl ?_
        refine r_iconst (v := 2) dL_law_191 (by decide) ?_
        refine r_niadd (b := 2) dL_law_192 rfl rfl ?_
        refine r_ialdSE (j := (i + 2)) dL_law_193 rfl (by omega) (by omega) rfl ((hx2 _ (by omega)).trans (zI_tI _).symm) ?_
        refine r_aload_n dL_law_194 rfl ?_
        refine r_iload_n dL_law_195 rfl ?_
        refine r_iconst (v := 3) dL_law_196 (by decide) ?_
        refine r_niadd (b := 3) dL_law_197 rfl rfl ?_
        refine r_ialdSE (j := (i + 3)) dL_law_198 rfl (by omega) (by omega) rfl ((hx2 _ (by omega)).trans (zI_tI _).symm) ?_
        refine r_callV3N dL_law_199 moX7_set w_925 w_926 w_927 (hsh.al rfl (by decide)) cl7 rfl (Nat.le_of_ble_eq_true rfl) (Nat.le_of_ble_eq_true rfl) (S_mSet hM2 (inZt _) (inZt _) (inZt _)) (fun r n I3 J R hq => ?_)
        obtain ⟨rfl, rfl, rfl, hM3, hF3⟩ := hq
        have hC3 := hC2.lo hF3
        refine r_icmp_eq (tgt := 1022) dL_law_202 (by decide) (fun h202 => ?_) (fun h202 => absurd rfl h202)
        refine r_iincE (b := (i + 6)) dL_law_1022 rfl rfl (nI_add i 6) rfl ?_
        refine r_goto (tgt := 18) dL_law_1025 (by decide) ?_
        refine Wp.room (bc := q) (bs := 2 * q) (by omega) (by omega) ?_
        exact ih (i + 6) _ _ _ _ _ (by omega) (by omega) hC3 hM3
      · refine r_top (v := nI 1) rfl ?_
        refine r_tabIn (tgt := 207) (off := 174) dL_law_33 (by decide) (by decide) (by decide) (by decide) ?_
        refine r_aload_n dL_law_207 rfl ?_
        refine r_aload_n dL_law_208 rfl ?_
        refine r_iload_n dL_law_209 rfl ?_
        refine r_iconst (v := 1) dL_law_210 (by decide) ?_
        refine r_niadd (b := 1) dL_law_211 rfl rfl ?_
        refine r_ialdSE (j := (i + 1)) dL_law_212 rfl (by omega) (by omega) rfl ((hx1 _ (by omega)).trans (zI_tI _).symm) ?_
        refine r_aload_n dL_law_213 rfl ?_
        refine r_iload_n dL_law_214 rfl ?_
        refine r_iconst (v := 2) dL_law_215 (by decide) ?_
        refine r_niadd (b := 2) dL_law_216 rfl rfl ?_
        refine r_ialdSE (j := (i + 2)) dL_law_217 rfl (by omega) (by omega) rfl ((hx1 _ (by omega)).trans (zI_tI _).symm) ?_
        refine r_aload_n dL_law_218 rfl ?_
        refine r_iload_n dL_law_219 rfl ?_
        refine r_iconst (v := 3) dL_law_220 (by decide) ?_
        refine r_niadd (b := 3) dL_law_221 rfl rfl ?_
        refine r_ialdSE (j := (i + 3)) dL_law_222 rfl (by omega) (by omega) rfl ((hx1 _ (by omega)).trans (zI_tI _).symm) ?_
        refine r_callV3N dL_law_223 moX6_sight w_454 w_455 w_456 (hsh.al rfl (by decide)) cl6 rfl (Nat.le_of_ble_eq_true rfl) (Nat.le_of_ble_eq_true rfl) (S_sight hC (inZt _) (inZt _) (inZt _)) (fun r n I2 J R hq => ?_)
        obtain ⟨rfl, rfl, rfl, rfl, hC2, hF2⟩ := hq
        have hM2 := hM.fr2 hM.sh hC2.sh (fun a a1 a2 _ _ => hF2 a (by unfold inS; omega)) (fun k hk => by rw [hF2 102 (by unfold inS; omega)])
        refine Wp.use (fun U H hW => hX U H _ _ _ _ hW) (fun hx2 => ?_)
        refine r_aload_n dL_law_226 rfl ?_
        refine r_aload_n dL_law_227 rfl ?_
        refine r_iload_n dL_law_228 rfl ?_
        refine r_iconst (v := 1) dL_law_229 (by decide) ?_
        refine r_niadd (b := 1) dL_law_230 rfl rfl ?_
        refine r_ialdSE (j := (i + 1)) dL_law_231 rfl (by omega) (by omega) rfl ((hx2 _ (by omega)).trans (zI_tI _).symm) ?_
        refine r_aload_n dL_law_232 rfl ?_
        refine r_iload_n dL_law_233 rfl ?_
        refine r_iconst (v := 2) dL_law_234 (by decide) ?_
        refine r_niadd (b := 2) dL_law_235 rfl rfl ?_
        refine r_ialdSE (j := (i + 2)) dL_law_236 rfl (by omega) (by omega) rfl ((hx2 _ (by omega)).trans (zI_tI _).symm) ?_
        refine r_aload_n dL_law_237 rfl ?_
        refine r_iload_n dL_law_238 rfl ?_
        refine r_iconst (v := 3) dL_law_239 (by decide) ?_
        refine r_niadd (b := 3) dL_law_240 rfl rfl ?_
        refine r_ialdSE (j := (i + 3)) dL_law_241 rfl (by omega) (by omega) rfl ((hx2 _ (by omega)).trans (zI_tI _).symm) ?_
        refine r_callV3N dL_law_242 moX7_sight w_953 w_954 w_955 (hsh.al rfl (by decide)) cl7 rfl (Nat.le_of_ble_eq_true rfl) (Nat.le_of_ble_eq_true rfl) (S_mSight hM2 (inZt _) (inZt _) (inZt _)) (fun r n I3 J R hq => ?_)
        obtain ⟨rfl, rfl, rfl, hM3, hF3⟩ := hq
        have hC3 := hC2.lo hF3
        refine r_icmp_eq (tgt := 1022) dL_law_245 (by decide) (fun h245 => ?_) (fun h245 => absurd rfl h245)
        refine r_iincE (b := (i + 6)) dL_law_1022 rfl rfl (nI_add i 6) rfl ?_
        refine r_goto (tgt := 18) dL_law_1025 (by decide) ?_
        refine Wp.room (bc := q) (bs := 2 * q) (by omega) (by omega) ?_
        exact ih (i + 6) _ _ _ _ _ (by omega) (by omega) hC3 hM3
      · refine r_top (v := nI 2) rfl ?_
        refine r_tabIn (tgt := 250) (off := 217) dL_law_33 (by decide) (by decide) (by decide) (by decide) ?_
        refine r_aload_n dL_law_250 rfl ?_
        refine r_aload_n dL_law_251 rfl ?_
        refine r_iload_n dL_law_252 rfl ?_
        refine r_iconst (v := 1) dL_law_253 (by decide) ?_
        refine r_niadd (b := 1) dL_law_254 rfl rfl ?_
        refine r_ialdSE (j := (i + 1)) dL_law_255 rfl (by omega) (by omega) rfl ((hx1 _ (by omega)).trans (zI_tI _).symm) ?_
        refine r_aload_n dL_law_256 rfl ?_
        refine r_iload_n dL_law_257 rfl ?_
        refine r_iconst (v := 2) dL_law_258 (by decide) ?_
        refine r_niadd (b := 2) dL_law_259 rfl rfl ?_
        refine r_ialdSE (j := (i + 2)) dL_law_260 rfl (by omega) (by omega) rfl ((hx1 _ (by omega)).trans (zI_tI _).symm) ?_
        refine r_callV2N dL_law_261 moX6_told w_464 w_465 w_466 (hsh.al rfl (by decide)) cl6 rfl (Nat.le_of_ble_eq_true rfl) (Nat.le_of_ble_eq_true rfl) (S_told hC (inZt _) (inZt _)) (fun r n I2 J R hq => ?_)
        obtain ⟨rfl, hn1, hn2, hC2, hF2⟩ := hq
        have hsh := hC2.sh
        have hM2 := hM.fr2 (⟨hM.sh.1, hC2.sh.2⟩ : Sh _ R) hC2.sh (fun a a1 a2 _ _ => (hF2 a (by omega) (by omega)).1) (fun k hk => by rw [(hF2 102 (by decide) (by decide)).1])
        refine Wp.use (fun U H hW => hX U H _ _ _ _ hW) (fun hx2 => ?_)
        refine r_aload_n dL_law_264 rfl ?_
        refine r_aload_n dL_law_265 rfl ?_
        refine r_iload_n dL_law_266 rfl ?_
        refine r_iconst (v := 1) dL_law_267 (by decide) ?_
        refine r_niadd (b := 1) dL_law_268 rfl rfl ?_
        refine r_ialdSE (j := (i + 1)) dL_law_269 rfl (by omega) (by omega) rfl ((hx2 _ (by omega)).trans (zI_tI _).symm) ?_
        refine r_aload_n dL_law_270 rfl ?_
        refine r_iload_n dL_law_271 rfl ?_
        refine r_iconst (v := 2) dL_law_272 (by decide) ?_
        refine r_niadd (b := 2) dL_law_273 rfl rfl ?_
        refine r_ialdSE (j := (i + 2)) dL_law_274 rfl (by omega) (by omega) rfl ((hx2 _ (by omega)).trans (zI_tI _).symm) ?_
        refine r_callV2N dL_law_275 moX7_told w_960 w_945 w_946 (hsh.al rfl (by decide)) cl7 rfl (Nat.le_of_ble_eq_true rfl) (Nat.le_of_ble_eq_true rfl) (S_mTold2 hM2 (inZt _) (inZt _)) (fun r n I3 J R hq => ?_)
        obtain ⟨rfl, rfl, rfl, hM3, hF3⟩ := hq
        have hC3 := hC2.lo hF3
        refine r_icmp_eq (tgt := 1022) dL_law_278 (by decide) (fun h278 => ?_) (fun h278 => absurd rfl h278)
        refine r_iincE (b := (i + 6)) dL_law_1022 rfl rfl (nI_add i 6) rfl ?_
        refine r_goto (tgt := 18) dL_law_1025 (by decide) ?_
        refine Wp.room (bc := q) (bs := 2 * q) (by omega) (by omega) ?_
        exact ih (i + 6) _ _ _ _ _ (by omega) (by omega) hC3 hM3
      · refine r_top (v := nI 3) rfl ?_
        refine r_tabIn (tgt := 283) (off := 250) dL_law_33 (by decide) (by decide) (by decide) (by decide) ?_
        refine r_aload_n dL_law_283 rfl ?_
        refine r_aload_n dL_law_284 rfl ?_
        refine r_iload_n dL_law_285 rfl ?_
        refine r_iconst (v := 1) dL_law_286 (by decide) ?_
        refine r_niadd (b := 1) dL_law_287 rfl rfl ?_
        refine r_ialdSE (j := (i + 1)) dL_law_288 rfl (by omega) (by omega) rfl ((hx1 _ (by omega)).trans (zI_tI _).symm) ?_
        refine r_aload_n dL_law_289 rfl ?_
        refine r_iload_n dL_law_290 rfl ?_
        refine r_iconst (v := 2) dL_law_291 (by decide) ?_
        refine r_niadd (b := 2) dL_law_292 rfl rfl ?_
        refine r_ialdSE (j := (i + 2)) dL_law_293 rfl (by omega) (by omega) rfl ((hx1 _ (by omega)).trans (zI_tI _).symm) ?_
        refine r_aload_n dL_law_294 rfl ?_
        refine r_iload_n dL_law_295 rfl ?_
        refine r_iconst (v := 3) dL_law_296 (by decide) ?_
        refine r_niadd (b := 3) dL_law_297 rfl rfl ?_
        refine r_ialdSE (j := (i + 3)) dL_law_298 rfl (by omega) (by omega) rfl ((hx1 _ (by omega)).trans (zI_tI _).symm) ?_
        refine r_callV3N dL_law_299 moX6_shines w_473 w_474 w_475 (hsh.al rfl (by decide)) cl6 rfl (Nat.le_of_ble_eq_true rfl) (Nat.le_of_ble_eq_true rfl) (S_shines hC (inZt _) (inZt _) (inZt _)) (fun r n I2 J R hq => ?_)
        obtain ⟨rfl, hn1, hn2, hC2, hF2⟩ := hq
        have hsh := hC2.sh
        have hM2 := hM.fr2 (⟨hM.sh.1, hC2.sh.2⟩ : Sh _ R) hC2.sh (fun a a1 a2 _ _ => (hF2 a (by omega) (by omega)).1) (fun k hk => by rw [(hF2 102 (by decide) (by decide)).1])
        refine Wp.use (fun U H hW => hX U H _ _ _ _ hW) (fun hx2 => ?_)
        refine r_aload_n dL_law_302 rfl ?_
        refine r_aload_n dL_law_303 rfl ?_
        refine r_iload_n dL_law_304 rfl ?_
        refine r_iconst (v := 1) dL_law_305 (by decide) ?_
        refine r_niadd (b := 1) dL_law_306 rfl rfl ?_
        refine r_ialdSE (j := (i + 1)) dL_law_307 rfl (by omega) (by omega) rfl ((hx2 _ (by omega)).trans (zI_tI _).symm) ?_
        refine r_aload_n dL_law_308 rfl ?_
        refine r_iload_n dL_law_309 rfl ?_
        refine r_iconst (v := 2) dL_law_310 (by decide) ?_
        refine r_niadd (b := 2) dL_law_311 rfl rfl ?_
        refine r_ialdSE (j := (i + 2)) dL_law_312 rfl (by omega) (by omega) rfl ((hx2 _ (by omega)).trans (zI_tI _).symm) ?_
        refine r_aload_n dL_law_313 rfl ?_
        refine r_iload_n dL_law_314 rfl ?_
        refine r_iconst (v := 3) dL_law_315 (by decide) ?_
        refine r_niadd (b := 3) dL_law_316 rfl rfl ?_
        refine r_ialdSE (j := (i + 3)) dL_law_317 rfl (by omega) (by omega) rfl ((hx2 _ (by omega)).trans (zI_tI _).symm) ?_
        refine r_callV3N dL_law_318 moX7_shines w_961 w_962 w_963 (hsh.al rfl (by decide)) cl7 rfl (Nat.le_of_ble_eq_true rfl) (Nat.le_of_ble_eq_true rfl) (S_mShines hM2 (inZt _) (inZt _) (inZt _)) (fun r n I3 J R hq => ?_)
        obtain ⟨rfl, rfl, rfl, hM3, hF3⟩ := hq
        have hC3 := hC2.lo hF3
        refine r_icmp_eq (tgt := 1022) dL_law_321 (by decide) (fun h321 => ?_) (fun h321 => absurd rfl h321)
        refine r_iincE (b := (i + 6)) dL_law_1022 rfl rfl (nI_add i 6) rfl ?_
        refine r_goto (tgt := 18) dL_law_1025 (by decide) ?_
        refine Wp.room (bc := q) (bs := 2 * q) (by omega) (by omega) ?_
        exact ih (i + 6) _ _ _ _ _ (by omega) (by omega) hC3 hM3
      · refine r_top (v := nI 4) rfl ?_
        refine r_tabIn (tgt := 326) (off := 293) dL_law_33 (by decide) (by decide) (by decide) (by decide) ?_
        refine r_aload_n dL_law_326 rfl ?_
        refine r_aload_n dL_law_327 rfl ?_
        refine r_iload_n dL_law_328 rfl ?_
        refine r_iconst (v := 1) dL_law_329 (by decide) ?_
        refine r_niadd (b := 1) dL_law_330 rfl rfl ?_
        refine r_ialdSE (j := (i + 1)) dL_law_331 rfl (by omega) (by omega) rfl ((hx1 _ (by omega)).trans (zI_tI _).symm) ?_
        refine r_callV1N dL_law_332 moX6_feed w_486 w_487 w_488 (hsh.al rfl (by decide)) cl6 rfl (Nat.le_of_ble_eq_true rfl) (Nat.le_of_ble_eq_true rfl) (S_feed hC (inZt _)) (fun r n I2 J R hq => ?_)
        obtain ⟨rfl, hn1, hn2, hC2, hF2⟩ := hq
        have hsh := hC2.sh
        have hM2 := hM.fr2 (⟨hM.sh.1, hC2.sh.2⟩ : Sh _ R) hC2.sh (fun a a1 a2 _ _ => (hF2 a (by omega) (by omega)).1) (fun k hk => by rw [(hF2 102 (by decide) (by decide)).1])
        refine Wp.use (fun U H hW => hX U H _ _ _ _ hW) (fun hx2 => ?_)
        refine r_aload_n dL_law_335 rfl ?_
        refine r_aload_n dL_law_336 rfl ?_
        refine r_iload_n dL_law_337 rfl ?_
        refine r_iconst (v := 1) dL_law_338 (by decide) ?_
        refine r_niadd (b := 1) dL_law_339 rfl rfl ?_
        refine r_ialdSE (j := (i + 1)) dL_law_340 rfl (by omega) (by omega) rfl ((hx2 _ (by omega)).trans (zI_tI _).symm) ?_
        refine r_callV1N dL_law_341 moX7_feed w_974 w_975 w_976 (hsh.al rfl (by decide)) cl7 rfl (Nat.le_of_ble_eq_true rfl) (Nat.le_of_ble_eq_true rfl) (S_mFeed hM2 (inZt _)) (fun r n I3 J R hq => ?_)
        obtain ⟨rfl, rfl, rfl, hM3, hF3⟩ := hq
        have hC3 := hC2.lo hF3
        refine r_icmp_eq (tgt := 1022) dL_law_344 (by decide) (fun h344 => ?_) (fun h344 => absurd rfl h344)
        refine r_iincE (b := (i + 6)) dL_law_1022 rfl rfl (nI_add i 6) rfl ?_
        refine r_goto (tgt := 18) dL_law_1025 (by decide) ?_
        refine Wp.room (bc := q) (bs := 2 * q) (by omega) (by omega) ?_
        exact ih (i + 6) _ _ _ _ _ (by omega) (by omega) hC3 hM3
      · refine r_top (v := nI 5) rfl ?_
        refine r_tabIn (tgt := 349) (off := 316) dL_law_33 (by decide) (by decide) (by decide) (by decide) ?_
        refine r_aload_n dL_law_349 rfl ?_
        refine r_callV0N dL_law_350 moX6_text w_490 w_491 w_492 (hsh.al rfl (by decide)) cl6 rfl (Nat.le_of_ble_eq_true rfl) (Nat.le_of_ble_eq_true rfl) (S_text hC ) (fun r n I2 J R hq => ?_)
        obtain ⟨rfl, hn1, hn2, hC2, hF2⟩ := hq
        have hsh := hC2.sh
        have hM2 := hM.fr2 (⟨hM.sh.1, hC2.sh.2⟩ : Sh _ R) hC2.sh (fun a a1 a2 _ _ => (hF2 a (by omega) (by omega)).1) (fun k hk => by rw [(hF2 102 (by decide) (by decide)).1])
        refine Wp.use (fun U H hW => hX U H _ _ _ _ hW) (fun hx2 => ?_)
        refine r_aload_n dL_law_353 rfl ?_
        refine r_callV0N dL_law_354 moX7_text w_979 w_980 w_981 (hsh.al rfl (by decide)) cl7 rfl (Nat.le_of_ble_eq_true rfl) (Nat.le_of_ble_eq_true rfl) (S_mText hM2 ) (fun r n I3 J R hq => ?_)
        obtain ⟨rfl, rfl, rfl, hM3, hF3⟩ := hq
        have hC3 := hC2.lo hF3
        refine r_icmp_eq (tgt := 1022) dL_law_357 (by decide) (fun h357 => ?_) (fun h357 => absurd rfl h357)
        refine r_iincE (b := (i + 6)) dL_law_1022 rfl rfl (nI_add i 6) rfl ?_
        refine r_goto (tgt := 18) dL_law_1025 (by decide) ?_
        refine Wp.room (bc := q) (bs := 2 * q) (by omega) (by omega) ?_
        exact ih (i + 6) _ _ _ _ _ (by omega) (by omega) hC3 hM3
      · refine r_top (v := nI 6) rfl ?_
        refine r_tabIn (tgt := 362) (off := 329) dL_law_33 (by decide) (by decide) (by decide) (by decide) ?_
        refine r_aload_n dL_law_362 rfl ?_
        refine r_aload_n dL_law_363 rfl ?_
        refine r_iload_n dL_law_364 rfl ?_
        refine r_iconst (v := 1) dL_law_365 (by decide) ?_
        refine r_niadd (b := 1) dL_law_366 rfl rfl ?_
        refine r_ialdSE (j := (i + 1)) dL_law_367 rfl (by omega) (by omega) rfl ((hx1 _ (by omega)).trans (zI_tI _).symm) ?_
        refine r_callV1N dL_law_368 moX6_force w_494 w_495 w_496 (hsh.al rfl (by decide)) cl6 rfl (Nat.le_of_ble_eq_true rfl) (Nat.le_of_ble_eq_true rfl) (S_force hC (inZt _)) (fun r n I2 J R hq => ?_)
        obtain ⟨rfl, hn1, hn2, hC2, hF2⟩ := hq
        have hsh := hC2.sh
        have hM2 := hM.fr2 (⟨hM.sh.1, hC2.sh.2⟩ : Sh _ R) hC2.sh (fun a a1 a2 _ _ => (hF2 a (by omega) (by omega)).1) (fun k hk => by rw [(hF2 102 (by decide) (by decide)).1])
        refine Wp.use (fun U H hW => hX U H _ _ _ _ hW) (fun hx2 => ?_)
        refine r_aload_n dL_law_371 rfl ?_
        refine r_aload_n dL_law_372 rfl ?_
        refine r_iload_n dL_law_373 rfl ?_
        refine r_iconst (v := 1) dL_law_374 (by decide) ?_
        refine r_niadd (b := 1) dL_law_375 rfl rfl ?_
        refine r_ialdSE (j := (i + 1)) dL_law_376 rfl (by omega) (by omega) rfl ((hx2 _ (by omega)).trans (zI_tI _).symm) ?_
        refine r_callV1N dL_law_377 moX7_force w_1054 w_1055 w_1056 (hsh.al rfl (by decide)) cl7 rfl (Nat.le_of_ble_eq_true rfl) (Nat.le_of_ble_eq_true rfl) (S_mForce hM2 (inZt _)) (fun r n I3 J R hq => ?_)
        obtain ⟨rfl, rfl, rfl, hM3, hF3⟩ := hq
        have hC3 := hC2.lo hF3
        refine r_icmp_eq (tgt := 1022) dL_law_380 (by decide) (fun h380 => ?_) (fun h380 => absurd rfl h380)
        refine r_iincE (b := (i + 6)) dL_law_1022 rfl rfl (nI_add i 6) rfl ?_
        refine r_goto (tgt := 18) dL_law_1025 (by decide) ?_
        refine Wp.room (bc := q) (bs := 2 * q) (by omega) (by omega) ?_
        exact ih (i + 6) _ _ _ _ _ (by omega) (by omega) hC3 hM3
      · refine r_top (v := nI 7) rfl ?_
        refine r_tabIn (tgt := 385) (off := 352) dL_law_33 (by decide) (by decide) (by decide) (by decide) ?_
        refine r_aload_n dL_law_385 rfl ?_
        refine r_aload_n dL_law_386 rfl ?_
        refine r_iload_n dL_law_387 rfl ?_
        refine r_iconst (v := 1) dL_law_388 (by decide) ?_
        refine r_niadd (b := 1) dL_law_389 rfl rfl ?_
        refine r_ialdSE (j := (i + 1)) dL_law_390 rfl (by omega) (by omega) rfl ((hx1 _ (by omega)).trans (zI_tI _).symm) ?_
        refine r_callV1N dL_law_391 moX6_night w_498 w_499 w_500 (hsh.al rfl (by decide)) cl6 rfl (Nat.le_of_ble_eq_true rfl) (Nat.le_of_ble_eq_true rfl) (S_night hC (inZt _)) (fun r n I2 J R hq => ?_)
        obtain ⟨rfl, hn1, hn2, hC2, hF2⟩ := hq
        have hsh := hC2.sh
        have hM2 := hM.fr2 (⟨hM.sh.1, hC2.sh.2⟩ : Sh _ R) hC2.sh (fun a a1 a2 _ _ => (hF2 a (by omega) (by omega)).1) (fun k hk => by rw [(hF2 102 (by decide) (by decide)).1])
        refine Wp.use (fun U H hW => hX U H _ _ _ _ hW) (fun hx2 => ?_)
        refine r_aload_n dL_law_394 rfl ?_
        refine r_aload_n dL_law_395 rfl ?_
        refine r_iload_n dL_law_396 rfl ?_
        refine r_iconst (v := 1) dL_law_397 (by decide) ?_
        refine r_niadd (b := 1) dL_law_398 rfl rfl ?_
        refine r_ialdSE (j := (i + 1)) dL_law_399 rfl (by omega) (by omega) rfl ((hx2 _ (by omega)).trans (zI_tI _).symm) ?_
        refine r_callV1N dL_law_400 moX7_night w_1058 w_1059 w_1060 (hsh.al rfl (by decide)) cl7 rfl (Nat.le_of_ble_eq_true rfl) (Nat.le_of_ble_eq_true rfl) (S_mNight hM2 (inZt _)) (fun r n I3 J R hq => ?_)
        obtain ⟨rfl, rfl, rfl, hM3, hF3⟩ := hq
        have hC3 := hC2.lo hF3
        refine r_icmp_eq (tgt := 1022) dL_law_403 (by decide) (fun h403 => ?_) (fun h403 => absurd rfl h403)
        refine r_iincE (b := (i + 6)) dL_law_1022 rfl rfl (nI_add i 6) rfl ?_
        refine r_goto (tgt := 18) dL_law_1025 (by decide) ?_
        refine Wp.room (bc := q) (bs := 2 * q) (by omega) (by omega) ?_
        exact ih (i + 6) _ _ _ _ _ (by omega) (by omega) hC3 hM3
      · refine r_top (v := nI 8) rfl ?_
        refine r_tabIn (tgt := 408) (off := 375) dL_law_33 (by decide) (by decide) (by decide) (by decide) ?_
        refine r_aload_n dL_law_408 rfl ?_
        refine r_aload_n dL_law_409 rfl ?_
        refine r_iload_n dL_law_410 rfl ?_
        refine r_iconst (v := 1) dL_law_411 (by decide) ?_
        refine r_niadd (b := 1) dL_law_412 rfl rfl ?_
        refine r_ialdSE (j := (i + 1)) dL_law_413 rfl (by omega) (by omega) rfl ((hx1 _ (by omega)).trans (zI_tI _).symm) ?_
        refine r_aload_n dL_law_414 rfl ?_
        refine r_iload_n dL_law_415 rfl ?_
        refine r_iconst (v := 2) dL_law_416 (by decide) ?_
        refine r_niadd (b := 2) dL_law_417 rfl rfl ?_
        refine r_ialdSE (j := (i + 2)) dL_law_418 rfl (by omega) (by omega) rfl ((hx1 _ (by omega)).trans (zI_tI _).symm) ?_
        refine r_callV2N dL_law_419 moX6_order w_573 w_574 w_575 (hsh.al rfl (by decide)) cl6 rfl (Nat.le_of_ble_eq_true rfl) (Nat.le_of_ble_eq_true rfl) (S_order hC (inZt _) (inZt _)) (fun r n I2 J R hq => ?_)
        obtain ⟨rfl, hn1, hn2, hC2, hF2⟩ := hq
        have hsh := hC2.sh
        have hM2 := hM.fr2 (⟨hM.sh.1, hC2.sh.2⟩ : Sh _ R) hC2.sh (fun a a1 a2 _ _ => (hF2 a (by omega) (by omega)).1) (fun k hk => by rw [(hF2 102 (by decide) (by decide)).1])
        refine Wp.use (fun U H hW => hX U H _ _ _ _ hW) (fun hx2 => ?_)
        refine r_aload_n dL_law_422 rfl ?_
        refine r_aload_n dL_law_423 rfl ?_
        refine r_iload_n dL_law_424 rfl ?_
        refine r_iconst (v := 1) dL_law_425 (by decide) ?_
        refine r_niadd (b := 1) dL_law_426 rfl rfl ?_
        refine r_ialdSE (j := (i + 1)) dL_law_427 rfl (by omega) (by omega) rfl ((hx2 _ (by omega)).trans (zI_tI _).symm) ?_
        refine r_aload_n dL_law_428 rfl ?_
        refine r_iload_n dL_law_429 rfl ?_
        refine r_iconst (v := 2) dL_law_430 (by decide) ?_
        refine r_niadd (b := 2) dL_law_431 rfl rfl ?_
        refine r_ialdSE (j := (i + 2)) dL_law_432 rfl (by omega) (by omega) rfl ((hx2 _ (by omega)).trans (zI_tI _).symm) ?_
        refine r_callV2N dL_law_433 moX7_order w_1114 w_1115 w_1116 (hsh.al rfl (by decide)) cl7 rfl (Nat.le_of_ble_eq_true rfl) (Nat.le_of_ble_eq_true rfl) (S_mOrder hM2 (inZt _) (inZt _)) (fun r n I3 J R hq => ?_)
        obtain ⟨rfl, rfl, rfl, hM3, hF3⟩ := hq
        have hC3 := hC2.lo hF3
        refine r_icmp_eq (tgt := 1022) dL_law_436 (by decide) (fun h436 => ?_) (fun h436 => absurd rfl h436)
        refine r_iincE (b := (i + 6)) dL_law_1022 rfl rfl (nI_add i 6) rfl ?_
        refine r_goto (tgt := 18) dL_law_1025 (by decide) ?_
        refine Wp.room (bc := q) (bs := 2 * q) (by omega) (by omega) ?_
        exact ih (i + 6) _ _ _ _ _ (by omega) (by omega) hC3 hM3
      · refine r_top (v := nI 9) rfl ?_
        refine r_tabIn (tgt := 441) (off := 408) dL_law_33 (by decide) (by decide) (by decide) (by decide) ?_
        refine r_aload_n dL_law_441 rfl ?_
        refine r_aload_n dL_law_442 rfl ?_
        refine r_iload_n dL_law_443 rfl ?_
        refine r_iconst (v := 1) dL_law_444 (by decide) ?_
        refine r_niadd (b := 1) dL_law_445 rfl rfl ?_
        refine r_ialdSE (j := (i + 1)) dL_law_446 rfl (by omega) (by omega) rfl ((hx1 _ (by omega)).trans (zI_tI _).symm) ?_
        refine Wp.room (bc := (0 + 1) + q) (bs := (0 + 2) + 2 * q) (by omega) (by omega) ?_
        refine r_callV1 dL_law_447 moX6_best w_592 w_593 w_594 (hsh.al rfl (by decide)) cl6 rfl (Nat.le_of_ble_eq_true rfl) (Nat.le_of_ble_eq_true rfl) (S_best hC (inZt _)) (fun r n I2 J R hq => ?_)
        obtain ⟨rfl, hn1, hn2, hC2, hF2⟩ := hq
        have hsh := hC2.sh
        have hM2 := hM.fr2 (⟨hM.sh.1, hC2.sh.2⟩ : Sh _ R) hC2.sh (fun a a1 a2 _ _ => (hF2 a (by omega) (by omega)).1) (fun k hk => by rw [(hF2 102 (by decide) (by decide)).1])
        refine Wp.use (fun U H hW => hX U H _ _ _ _ hW) (fun hx2 => ?_)
        refine r_aload_n dL_law_450 rfl ?_
        refine r_aload_n dL_law_451 rfl ?_
        refine r_iload_n dL_law_452 rfl ?_
        refine r_iconst (v := 1) dL_law_453 (by decide) ?_
        refine r_niadd (b := 1) dL_law_454 rfl rfl ?_
        refine r_ialdSE (j := (i + 1)) dL_law_455 rfl (by omega) (by omega) rfl ((hx2 _ (by omega)).trans (zI_tI _).symm) ?_
        refine r_callV1N dL_law_456 moX7_best w_1126 w_1127 w_1128 (hsh.al rfl (by decide)) cl7 rfl (Nat.le_of_ble_eq_true rfl) (Nat.le_of_ble_eq_true rfl) (S_mBest hM2 (inZt _)) (fun r n I3 J R hq => ?_)
        obtain ⟨rfl, rfl, rfl, hM3, hF3⟩ := hq
        have hC3 := hC2.lo hF3
        refine r_icmp_eq (tgt := 1022) dL_law_459 (by decide) (fun h459 => ?_) (fun h459 => absurd rfl h459)
        refine r_iincE (b := (i + 6)) dL_law_1022 rfl rfl (nI_add i 6) rfl ?_
        refine r_goto (tgt := 18) dL_law_1025 (by decide) ?_
        refine Wp.room (bc := q) (bs := 2 * q) (by omega) (by omega) ?_
        exact ih (i + 6) _ _ _ _ _ (by omega) (by omega) hC3 hM3
      · refine r_top (v := nI 10) rfl ?_
        refine r_tabIn (tgt := 464) (off := 431) dL_law_33 (by decide) (by decide) (by decide) (by decide) ?_
        refine r_aload_n dL_law_464 rfl ?_
        refine r_aload_n dL_law_465 rfl ?_
        refine r_iload_n dL_law_466 rfl ?_
        refine r_iconst (v := 1) dL_law_467 (by decide) ?_
        refine r_niadd (b := 1) dL_law_468 rfl rfl ?_
        refine r_ialdSE (j := (i + 1)) dL_law_469 rfl (by omega) (by omega) rfl ((hx1 _ (by omega)).trans (zI_tI _).symm) ?_
        refine r_callV1N dL_law_470 moX6_setting w_627 w_628 w_629 (hsh.al rfl (by decide)) cl6 rfl (Nat.le_of_ble_eq_true rfl) (Nat.le_of_ble_eq_true rfl) (S_setting hC (inZt _)) (fun r n I2 J R hq => ?_)
        obtain ⟨rfl, hn1, hn2, hC2, hF2⟩ := hq
        have hsh := hC2.sh
        have hM2 := hM.fr2 (⟨hM.sh.1, hC2.sh.2⟩ : Sh _ R) hC2.sh (fun a a1 a2 _ _ => (hF2 a (by omega) (by omega)).1) (fun k hk => by rw [(hF2 102 (by decide) (by decide)).1])
        refine Wp.use (fun U H hW => hX U H _ _ _ _ hW) (fun hx2 => ?_)
        refine r_aload_n dL_law_473 rfl ?_
        refine r_aload_n dL_law_474 rfl ?_
        refine r_iload_n dL_law_475 rfl ?_
        refine r_iconst (v := 1) dL_law_476 (by decide) ?_
        refine r_niadd (b := 1) dL_law_477 rfl rfl ?_
        refine r_ialdSE (j := (i + 1)) dL_law_478 rfl (by omega) (by omega) rfl ((hx2 _ (by omega)).trans (zI_tI _).symm) ?_
        refine r_callV1N dL_law_479 moX7_setting w_1134 w_1135 w_1136 (hsh.al rfl (by decide)) cl7 rfl (Nat.le_of_ble_eq_true rfl) (Nat.le_of_ble_eq_true rfl) (S_mSetting hM2 (inZt _)) (fun r n I3 J R hq => ?_)
        obtain ⟨rfl, rfl, rfl, hM3, hF3⟩ := hq
        have hC3 := hC2.lo hF3
        refine r_icmp_eq (tgt := 1022) dL_law_482 (by decide) (fun h482 => ?_) (fun h482 => absurd rfl h482)
        refine r_iincE (b := (i + 6)) dL_law_1022 rfl rfl (nI_add i 6) rfl ?_
        refine r_goto (tgt := 18) dL_law_1025 (by decide) ?_
        refine Wp.room (bc := q) (bs := 2 * q) (by omega) (by omega) ?_
        exact ih (i + 6) _ _ _ _ _ (by omega) (by omega) hC3 hM3
      · refine r_top (v := nI 11) rfl ?_
        refine r_tabIn (tgt := 487) (off := 454) dL_law_33 (by decide) (by decide) (by decide) (by decide) ?_
        refine r_aload_n dL_law_487 rfl ?_
        refine r_callV0N dL_law_488 moX6_late w_635 w_636 w_637 (hsh.al rfl (by decide)) cl6 rfl (Nat.le_of_ble_eq_true rfl) (Nat.le_of_ble_eq_true rfl) (S_late hC ) (fun r n I2 J R hq => ?_)
        obtain ⟨rfl, hn1, hn2, hC2, hF2⟩ := hq
        have hsh := hC2.sh
        have hM2 := hM.fr2 (⟨hM.sh.1, hC2.sh.2⟩ : Sh _ R) hC2.sh (fun a a1 a2 _ _ => (hF2 a (by omega) (by omega)).1) (fun k hk => by rw [(hF2 102 (by decide) (by decide)).1])
        refine Wp.use (fun U H hW => hX U H _ _ _ _ hW) (fun hx2 => ?_)
        refine r_aload_n dL_law_491 rfl ?_
        refine r_callV0N dL_law_492 moX7_late w_1138 w_1139 w_1140 (hsh.al rfl (by decide)) cl7 rfl (Nat.le_of_ble_eq_true rfl) (Nat.le_of_ble_eq_true rfl) (S_mLate hM2 ) (fun r n I3 J R hq => ?_)
        obtain ⟨rfl, rfl, rfl, hM3, hF3⟩ := hq
        have hC3 := hC2.lo hF3
        refine r_icmp_eq (tgt := 1022) dL_law_495 (by decide) (fun h495 => ?_) (fun h495 => absurd rfl h495)
        refine r_iincE (b := (i + 6)) dL_law_1022 rfl rfl (nI_add i 6) rfl ?_
        refine r_goto (tgt := 18) dL_law_1025 (by decide) ?_
        refine Wp.room (bc := q) (bs := 2 * q) (by omega) (by omega) ?_
        exact ih (i + 6) _ _ _ _ _ (by omega) (by omega) hC3 hM3
      · refine r_top (v := nI 12) rfl ?_
        refine r_tabIn (tgt := 500) (off := 467) dL_law_33 (by decide) (by decide) (by decide) (by decide) ?_
        refine r_aload_n dL_law_500 rfl ?_
        refine r_aload_n dL_law_501 rfl ?_
        refine r_iload_n dL_law_502 rfl ?_
        refine r_iconst (v := 1) dL_law_503 (by decide) ?_
        refine r_niadd (b := 1) dL_law_504 rfl rfl ?_
        refine r_ialdSE (j := (i + 1)) dL_law_505 rfl (by omega) (by omega) rfl ((hx1 _ (by omega)).trans (zI_tI _).symm) ?_
        refine r_aload_n dL_law_506 rfl ?_
        refine r_iload_n dL_law_507 rfl ?_
        refine r_iconst (v := 2) dL_law_508 (by decide) ?_
        refine r_niadd (b := 2) dL_law_509 rfl rfl ?_
        refine r_ialdSE (j := (i + 2)) dL_law_510 rfl (by omega) (by omega) rfl ((hx1 _ (by omega)).trans (zI_tI _).symm) ?_
        refine Wp.room (bc := (0 + 1) + q) (bs := (0 + 2) + 2 * q) (by omega) (by omega) ?_
        refine r_callV2 dL_law_511 moX6_sleep w_651 w_652 w_653 (hsh.al rfl (by decide)) cl6 rfl (Nat.le_of_ble_eq_true rfl) (Nat.le_of_ble_eq_true rfl) (S_sleep hC (inZt _) (inZt _)) (fun r n I2 J R hq => ?_)
        obtain ⟨rfl, hn1, hn2, hC2, hF2⟩ := hq
        have hsh := hC2.sh
        have hM2 := hM.fr2 (⟨hM.sh.1, hC2.sh.2⟩ : Sh _ R) hC2.sh (fun a a1 a2 _ _ => (hF2 a (by omega) (by omega)).1) (fun k hk => by rw [(hF2 102 (by decide) (by decide)).1])
        refine Wp.use (fun U H hW => hX U H _ _ _ _ hW) (fun hx2 => ?_)
        refine r_aload_n dL_law_514 rfl ?_
        refine r_aload_n dL_law_515 rfl ?_
        refine r_iload_n dL_law_516 rfl ?_
        refine r_iconst (v := 1) dL_law_517 (by decide) ?_
        refine r_niadd (b := 1) dL_law_518 rfl rfl ?_
        refine r_ialdSE (j := (i + 1)) dL_law_519 rfl (by omega) (by omega) rfl ((hx2 _ (by omega)).trans (zI_tI _).symm) ?_
        refine r_aload_n dL_law_520 rfl ?_
        refine r_iload_n dL_law_521 rfl ?_
        refine r_iconst (v := 2) dL_law_522 (by decide) ?_
        refine r_niadd (b := 2) dL_law_523 rfl rfl ?_
        refine r_ialdSE (j := (i + 2)) dL_law_524 rfl (by omega) (by omega) rfl ((hx2 _ (by omega)).trans (zI_tI _).symm) ?_
        refine r_callV2N dL_law_525 moX7_sleep w_1142 w_1143 w_1144 (hsh.al rfl (by decide)) cl7 rfl (Nat.le_of_ble_eq_true rfl) (Nat.le_of_ble_eq_true rfl) (S_mSleep hM2 (inZt _) (inZt _)) (fun r n I3 J R hq => ?_)
        obtain ⟨rfl, rfl, rfl, hM3, hF3⟩ := hq
        have hC3 := hC2.lo hF3
        refine r_icmp_eq (tgt := 1022) dL_law_528 (by decide) (fun h528 => ?_) (fun h528 => absurd rfl h528)
        refine r_iincE (b := (i + 6)) dL_law_1022 rfl rfl (nI_add i 6) rfl ?_
        refine r_goto (tgt := 18) dL_law_1025 (by decide) ?_
        refine Wp.room (bc := q) (bs := 2 * q) (by omega) (by omega) ?_
        exact ih (i + 6) _ _ _ _ _ (by omega) (by omega) hC3 hM3
      · refine r_top (v := nI 13) rfl ?_
        refine r_tabIn (tgt := 533) (off := 500) dL_law_33 (by decide) (by decide) (by decide) (by decide) ?_
        refine r_aload_n dL_law_533 rfl ?_
        refine r_aload_n dL_law_534 rfl ?_
        refine r_iload_n dL_law_535 rfl ?_
        refine r_iconst (v := 1) dL_law_536 (by decide) ?_
        refine r_niadd (b := 1) dL_law_537 rfl rfl ?_
        refine r_ialdSE (j := (i + 1)) dL_law_538 rfl (by omega) (by omega) rfl ((hx1 _ (by omega)).trans (zI_tI _).symm) ?_
        refine Wp.room (bc := (0 + 1) + q) (bs := (0 + 2) + 2 * q) (by omega) (by omega) ?_
        refine r_callV1 dL_law_539 moX6_moon w_659 w_660 w_661 (hsh.al rfl (by decide)) cl6 rfl (Nat.le_of_ble_eq_true rfl) (Nat.le_of_ble_eq_true rfl) (S_moon hC (inZt _)) (fun r n I2 J R hq => ?_)
        obtain ⟨rfl, hn1, hn2, hC2, hF2⟩ := hq
        have hsh := hC2.sh
        have hM2 := hM.fr2 (⟨hM.sh.1, hC2.sh.2⟩ : Sh _ R) hC2.sh (fun a a1 a2 _ _ => (hF2 a (by omega) (by omega)).1) (fun k hk => by rw [(hF2 102 (by decide) (by decide)).1])
        refine Wp.use (fun U H hW => hX U H _ _ _ _ hW) (fun hx2 => ?_)
        refine r_aload_n dL_law_542 rfl ?_
        refine r_aload_n dL_law_543 rfl ?_
        refine r_iload_n dL_law_544 rfl ?_
        refine r_iconst (v := 1) dL_law_545 (by decide) ?_
        refine r_niadd (b := 1) dL_law_546 rfl rfl ?_
        refine r_ialdSE (j := (i + 1)) dL_law_547 rfl (by omega) (by omega) rfl ((hx2 _ (by omega)).trans (zI_tI _).symm) ?_
        refine r_callV1N dL_law_548 moX7_moon w_1146 w_1147 w_1148 (hsh.al rfl (by decide)) cl7 rfl (Nat.le_of_ble_eq_true rfl) (Nat.le_of_ble_eq_true rfl) (S_mMoon hM2 (inZt _)) (fun r n I3 J R hq => ?_)
        obtain ⟨rfl, rfl, rfl, hM3, hF3⟩ := hq
        have hC3 := hC2.lo hF3
        refine r_icmp_eq (tgt := 1022) dL_law_551 (by decide) (fun h551 => ?_) (fun h551 => absurd rfl h551)
        refine r_iincE (b := (i + 6)) dL_law_1022 rfl rfl (nI_add i 6) rfl ?_
        refine r_goto (tgt := 18) dL_law_1025 (by decide) ?_
        refine Wp.room (bc := q) (bs := 2 * q) (by omega) (by omega) ?_
        exact ih (i + 6) _ _ _ _ _ (by omega) (by omega) hC3 hM3
      · refine r_top (v := nI 14) rfl ?_
        refine r_tabIn (tgt := 556) (off := 523) dL_law_33 (by decide) (by decide) (by decide) (by decide) ?_
        refine r_aload_n dL_law_556 rfl ?_
        refine r_aload_n dL_law_557 rfl ?_
        refine r_iload_n dL_law_558 rfl ?_
        refine r_iconst (v := 1) dL_law_559 (by decide) ?_
        refine r_niadd (b := 1) dL_law_560 rfl rfl ?_
        refine r_ialdSE (j := (i + 1)) dL_law_561 rfl (by omega) (by omega) rfl ((hx1 _ (by omega)).trans (zI_tI _).symm) ?_
        refine Wp.room (bc := (0 + 1) + q) (bs := (0 + 2) + 2 * q) (by omega) (by omega) ?_
        refine r_callV1 dL_law_562 moX6_leave w_663 w_664 w_665 (hsh.al rfl (by decide)) cl6 rfl (Nat.le_of_ble_eq_true rfl) (Nat.le_of_ble_eq_true rfl) (S_leave hC (inZt _)) (fun r n I2 J R hq => ?_)
        obtain ⟨rfl, hn1, hn2, hC2, hF2⟩ := hq
        have hsh := hC2.sh
        have hM2 := hM.fr2 (⟨hM.sh.1, hC2.sh.2⟩ : Sh _ R) hC2.sh (fun a a1 a2 _ _ => (hF2 a (by omega) (by omega)).1) (fun k hk => by rw [(hF2 102 (by decide) (by decide)).1])
        refine Wp.use (fun U H hW => hX U H _ _ _ _ hW) (fun hx2 => ?_)
        refine r_aload_n dL_law_565 rfl ?_
        refine r_aload_n dL_law_566 rfl ?_
        refine r_iload_n dL_law_567 rfl ?_
        refine r_iconst (v := 1) dL_law_568 (by decide) ?_
        refine r_niadd (b := 1) dL_law_569 rfl rfl ?_
        refine r_ialdSE (j := (i + 1)) dL_law_570 rfl (by omega) (by omega) rfl ((hx2 _ (by omega)).trans (zI_tI _).symm) ?_
        refine r_callV1N dL_law_571 moX7_leave w_1150 w_1151 w_1152 (hsh.al rfl (by decide)) cl7 rfl (Nat.le_of_ble_eq_true rfl) (Nat.le_of_ble_eq_true rfl) (S_mLeave hM2 (inZt _)) (fun r n I3 J R hq => ?_)
        obtain ⟨rfl, rfl, rfl, hM3, hF3⟩ := hq
        have hC3 := hC2.lo hF3
        refine r_icmp_eq (tgt := 1022) dL_law_574 (by decide) (fun h574 => ?_) (fun h574 => absurd rfl h574)
        refine r_iincE (b := (i + 6)) dL_law_1022 rfl rfl (nI_add i 6) rfl ?_
        refine r_goto (tgt := 18) dL_law_1025 (by decide) ?_
        refine Wp.room (bc := q) (bs := 2 * q) (by omega) (by omega) ?_
        exact ih (i + 6) _ _ _ _ _ (by omega) (by omega) hC3 hM3
      · refine r_top (v := nI 15) rfl ?_
        refine r_tabIn (tgt := 579) (off := 546) dL_law_33 (by decide) (by decide) (by decide) (by decide) ?_
        refine r_aload_n dL_law_579 rfl ?_
        refine r_aload_n dL_law_580 rfl ?_
        refine r_iload_n dL_law_581 rfl ?_
        refine r_iconst (v := 1) dL_law_582 (by decide) ?_
        refine r_niadd (b := 1) dL_law_583 rfl rfl ?_
        refine r_ialdSE (j := (i + 1)) dL_law_584 rfl (by omega) (by omega) rfl ((hx1 _ (by omega)).trans (zI_tI _).symm) ?_
        refine Wp.room (bc := (0 + 1) + q) (bs := (0 + 2) + 2 * q) (by omega) (by omega) ?_
        refine r_callV1 dL_law_585 moX6_two w_667 w_668 w_669 (hsh.al rfl (by decide)) cl6 rfl (Nat.le_of_ble_eq_true rfl) (Nat.le_of_ble_eq_true rfl) (S_two hC (inZt _)) (fun r n I2 J R hq => ?_)
        obtain ⟨rfl, hn1, hn2, hC2, hF2⟩ := hq
        have hsh := hC2.sh
        have hM2 := hM.fr2 (⟨hM.sh.1, hC2.sh.2⟩ : Sh _ R) hC2.sh (fun a a1 a2 _ _ => (hF2 a (by omega) (by omega)).1) (fun k hk => by rw [(hF2 102 (by decide) (by decide)).1])
        refine Wp.use (fun U H hW => hX U H _ _ _ _ hW) (fun hx2 => ?_)
        refine r_aload_n dL_law_588 rfl ?_
        refine r_aload_n dL_law_589 rfl ?_
        refine r_iload_n dL_law_590 rfl ?_
        refine r_iconst (v := 1) dL_law_591 (by decide) ?_
        refine r_niadd (b := 1) dL_law_592 rfl rfl ?_
        refine r_ialdSE (j := (i + 1)) dL_law_593 rfl (by omega) (by omega) rfl ((hx2 _ (by omega)).trans (zI_tI _).symm) ?_
        refine r_callV1N dL_law_594 moX7_two w_1154 w_1155 w_1156 (hsh.al rfl (by decide)) cl7 rfl (Nat.le_of_ble_eq_true rfl) (Nat.le_of_ble_eq_true rfl) (S_mTwo hM2 (inZt _)) (fun r n I3 J R hq => ?_)
        obtain ⟨rfl, rfl, rfl, hM3, hF3⟩ := hq
        have hC3 := hC2.lo hF3
        refine r_icmp_eq (tgt := 1022) dL_law_597 (by decide) (fun h597 => ?_) (fun h597 => absurd rfl h597)
        refine r_iincE (b := (i + 6)) dL_law_1022 rfl rfl (nI_add i 6) rfl ?_
        refine r_goto (tgt := 18) dL_law_1025 (by decide) ?_
        refine Wp.room (bc := q) (bs := 2 * q) (by omega) (by omega) ?_
        exact ih (i + 6) _ _ _ _ _ (by omega) (by omega) hC3 hM3
      · refine r_top (v := nI 16) rfl ?_
        refine r_tabIn (tgt := 602) (off := 569) dL_law_33 (by decide) (by decide) (by decide) (by decide) ?_
        refine r_aload_n dL_law_602 rfl ?_
        refine r_callV0N dL_law_603 moX6_cloud w_671 w_672 w_673 (hsh.al rfl (by decide)) cl6 rfl (Nat.le_of_ble_eq_true rfl) (Nat.le_of_ble_eq_true rfl) (S_cloud hC ) (fun r n I2 J R hq => ?_)
        obtain ⟨rfl, hn1, hn2, hC2, hF2⟩ := hq
        have hsh := hC2.sh
        have hM2 := hM.fr2 (⟨hM.sh.1, hC2.sh.2⟩ : Sh _ R) hC2.sh (fun a a1 a2 _ _ => (hF2 a (by omega) (by omega)).1) (fun k hk => by rw [(hF2 102 (by decide) (by decide)).1])
        refine Wp.use (fun U H hW => hX U H _ _ _ _ hW) (fun hx2 => ?_)
        refine r_aload_n dL_law_606 rfl ?_
        refine r_callV0N dL_law_607 moX7_cloud w_1158 w_1159 w_1160 (hsh.al rfl (by decide)) cl7 rfl (Nat.le_of_ble_eq_true rfl) (Nat.le_of_ble_eq_true rfl) (S_mCloud hM2 ) (fun r n I3 J R hq => ?_)
        obtain ⟨rfl, rfl, rfl, hM3, hF3⟩ := hq
        have hC3 := hC2.lo hF3
        refine r_icmp_eq (tgt := 1022) dL_law_610 (by decide) (fun h610 => ?_) (fun h610 => absurd rfl h610)
        refine r_iincE (b := (i + 6)) dL_law_1022 rfl rfl (nI_add i 6) rfl ?_
        refine r_goto (tgt := 18) dL_law_1025 (by decide) ?_
        refine Wp.room (bc := q) (bs := 2 * q) (by omega) (by omega) ?_
        exact ih (i + 6) _ _ _ _ _ (by omega) (by omega) hC3 hM3
      · refine r_top (v := nI 17) rfl ?_
        refine r_tabIn (tgt := 615) (off := 582) dL_law_33 (by decide) (by decide) (by decide) (by decide) ?_
        refine r_aload_n dL_law_615 rfl ?_
        refine r_aload_n dL_law_616 rfl ?_
        refine r_iload_n dL_law_617 rfl ?_
        refine r_iconst (v := 1) dL_law_618 (by decide) ?_
        refine r_niadd (b := 1) dL_law_619 rfl rfl ?_
        refine r_ialdSE (j := (i + 1)) dL_law_620 rfl (by omega) (by omega) rfl ((hx1 _ (by omega)).trans (zI_tI _).symm) ?_
        refine r_aload_n dL_law_621 rfl ?_
        refine r_iload_n dL_law_622 rfl ?_
        refine r_iconst (v := 2) dL_law_623 (by decide) ?_
        refine r_niadd (b := 2) dL_law_624 rfl rfl ?_
        refine r_ialdSE (j := (i + 2)) dL_law_625 rfl (by omega) (by omega) rfl ((hx1 _ (by omega)).trans (zI_tI _).symm) ?_
        refine r_callV2N dL_law_626 moX6_lists w_679 w_680 w_681 (hsh.al rfl (by decide)) cl6 rfl (Nat.le_of_ble_eq_true rfl) (Nat.le_of_ble_eq_true rfl) (S_lists hC (inZt _) (inZt _)) (fun r n I2 J R hq => ?_)
        obtain ⟨rfl, hn1, hn2, hC2, hF2⟩ := hq
        have hsh := hC2.sh
        have hM2 := hM.fr2 (⟨hM.sh.1, hC2.sh.2⟩ : Sh _ R) hC2.sh (fun a a1 a2 _ _ => (hF2 a (by omega) (by omega)).1) (fun k hk => by rw [(hF2 102 (by decide) (by decide)).1])
        refine Wp.use (fun U H hW => hX U H _ _ _ _ hW) (fun hx2 => ?_)
        refine r_aload_n dL_law_629 rfl ?_
        refine r_aload_n dL_law_630 rfl ?_
        refine r_iload_n dL_law_631 rfl ?_
        refine r_iconst (v := 1) dL_law_632 (by decide) ?_
        refine r_niadd (b := 1) dL_law_633 rfl rfl ?_
        refine r_ialdSE (j := (i + 1)) dL_law_634 rfl (by omega) (by omega) rfl ((hx2 _ (by omega)).trans (zI_tI _).symm) ?_
        refine r_aload_n dL_law_635 rfl ?_
        refine r_iload_n dL_law_636 rfl ?_
        refine r_iconst (v := 2) dL_law_637 (by decide) ?_
        refine r_niadd (b := 2) dL_law_638 rfl rfl ?_
        refine r_ialdSE (j := (i + 2)) dL_law_639 rfl (by omega) (by omega) rfl ((hx2 _ (by omega)).trans (zI_tI _).symm) ?_
        refine r_callV2N dL_law_640 moX7_lists w_1166 w_1167 w_1168 (hsh.al rfl (by decide)) cl7 rfl (Nat.le_of_ble_eq_true rfl) (Nat.le_of_ble_eq_true rfl) (S_mLists hM2 (inZt _) (inZt _)) (fun r n I3 J R hq => ?_)
        obtain ⟨rfl, rfl, rfl, hM3, hF3⟩ := hq
        have hC3 := hC2.lo hF3
        refine r_icmp_eq (tgt := 1022) dL_law_643 (by decide) (fun h643 => ?_) (fun h643 => absurd rfl h643)
        refine r_iincE (b := (i + 6)) dL_law_1022 rfl rfl (nI_add i 6) rfl ?_
        refine r_goto (tgt := 18) dL_law_1025 (by decide) ?_
        refine Wp.room (bc := q) (bs := 2 * q) (by omega) (by omega) ?_
        exact ih (i + 6) _ _ _ _ _ (by omega) (by omega) hC3 hM3
      · refine r_top (v := nI 18) rfl ?_
        refine r_tabIn (tgt := 648) (off := 615) dL_law_33 (by decide) (by decide) (by decide) (by decide) ?_
        refine r_aload_n dL_law_648 rfl ?_
        refine r_aload_n dL_law_649 rfl ?_
        refine r_iload_n dL_law_650 rfl ?_
        refine r_iconst (v := 1) dL_law_651 (by decide) ?_
        refine r_niadd (b := 1) dL_law_652 rfl rfl ?_
        refine r_ialdSE (j := (i + 1)) dL_law_653 rfl (by omega) (by omega) rfl ((hx1 _ (by omega)).trans (zI_tI _).symm) ?_
        refine r_callV1N dL_law_654 moX6_film w_703 w_704 w_705 (hsh.al rfl (by decide)) cl6 rfl (Nat.le_of_ble_eq_true rfl) (Nat.le_of_ble_eq_true rfl) (S_film hC (inZt _)) (fun r n I2 J R hq => ?_)
        obtain ⟨rfl, hn1, hn2, hC2, hF2⟩ := hq
        have hsh := hC2.sh
        have hM2 := hM.fr2 (⟨hM.sh.1, hC2.sh.2⟩ : Sh _ R) hC2.sh (fun a a1 a2 _ _ => (hF2 a (by omega) (by omega)).1) (fun k hk => by rw [(hF2 102 (by decide) (by decide)).1])
        refine Wp.use (fun U H hW => hX U H _ _ _ _ hW) (fun hx2 => ?_)
        refine r_aload_n dL_law_657 rfl ?_
        refine r_aload_n dL_law_658 rfl ?_
        refine r_iload_n dL_law_659 rfl ?_
        refine r_iconst (v := 1) dL_law_660 (by decide) ?_
        refine r_niadd (b := 1) dL_law_661 rfl rfl ?_
        refine r_ialdSE (j := (i + 1)) dL_law_662 rfl (by omega) (by omega) rfl ((hx2 _ (by omega)).trans (zI_tI _).symm) ?_
        refine r_callV1N dL_law_663 moX7_film w_1186 w_1187 w_1188 (hsh.al rfl (by decide)) cl7 rfl (Nat.le_of_ble_eq_true rfl) (Nat.le_of_ble_eq_true rfl) (S_mFilm hM2 (inZt _)) (fun r n I3 J R hq => ?_)
        obtain ⟨rfl, rfl, rfl, hM3, hF3⟩ := hq
        have hC3 := hC2.lo hF3
        refine r_icmp_eq (tgt := 1022) dL_law_666 (by decide) (fun h666 => ?_) (fun h666 => absurd rfl h666)
        refine r_iincE (b := (i + 6)) dL_law_1022 rfl rfl (nI_add i 6) rfl ?_
        refine r_goto (tgt := 18) dL_law_1025 (by decide) ?_
        refine Wp.room (bc := q) (bs := 2 * q) (by omega) (by omega) ?_
        exact ih (i + 6) _ _ _ _ _ (by omega) (by omega) hC3 hM3
      · refine r_top (v := nI 19) rfl ?_
        refine r_tabIn (tgt := 671) (off := 638) dL_law_33 (by decide) (by decide) (by decide) (by decide) ?_
        refine r_aload_n dL_law_671 rfl ?_
        refine r_aload_n dL_law_672 rfl ?_
        refine r_iload_n dL_law_673 rfl ?_
        refine r_iconst (v := 1) dL_law_674 (by decide) ?_
        refine r_niadd (b := 1) dL_law_675 rfl rfl ?_
        refine r_ialdSE (j := (i + 1)) dL_law_676 rfl (by omega) (by omega) rfl ((hx1 _ (by omega)).trans (zI_tI _).symm) ?_
        refine r_callV1N dL_law_677 moX6_drawn w_716 w_717 w_718 (hsh.al rfl (by decide)) cl6 rfl (Nat.le_of_ble_eq_true rfl) (Nat.le_of_ble_eq_true rfl) (S_drawn hC _) (fun r n I2 J R hq => ?_)
        obtain ⟨rfl, hn1, hn2, hC2, hF2⟩ := hq
        have hsh := hC2.sh
        have hM2 := hM.fr2 (⟨hM.sh.1, hC2.sh.2⟩ : Sh _ R) hC2.sh (fun a a1 a2 _ _ => (hF2 a (by omega) (by omega)).1) (fun k hk => by rw [(hF2 102 (by decide) (by decide)).1])
        refine Wp.use (fun U H hW => hX U H _ _ _ _ hW) (fun hx2 => ?_)
        refine r_aload_n dL_law_680 rfl ?_
        refine r_aload_n dL_law_681 rfl ?_
        refine r_iload_n dL_law_682 rfl ?_
        refine r_iconst (v := 1) dL_law_683 (by decide) ?_
        refine r_niadd (b := 1) dL_law_684 rfl rfl ?_
        refine r_ialdSE (j := (i + 1)) dL_law_685 rfl (by omega) (by omega) rfl ((hx2 _ (by omega)).trans (zI_tI _).symm) ?_
        refine r_callV1N dL_law_686 moX7_drawn w_1196 w_1197 w_1198 (hsh.al rfl (by decide)) cl7 rfl (Nat.le_of_ble_eq_true rfl) (Nat.le_of_ble_eq_true rfl) (S_mDrawn hM2 _) (fun r n I3 J R hq => ?_)
        obtain ⟨rfl, rfl, rfl, hM3, hF3⟩ := hq
        have hC3 := hC2.lo hF3
        refine r_icmp_eq (tgt := 1022) dL_law_689 (by decide) (fun h689 => ?_) (fun h689 => absurd rfl h689)
        refine r_iincE (b := (i + 6)) dL_law_1022 rfl rfl (nI_add i 6) rfl ?_
        refine r_goto (tgt := 18) dL_law_1025 (by decide) ?_
        refine Wp.room (bc := q) (bs := 2 * q) (by omega) (by omega) ?_
        exact ih (i + 6) _ _ _ _ _ (by omega) (by omega) hC3 hM3
      · refine r_top (v := nI 20) rfl ?_
        refine r_tabIn (tgt := 694) (off := 661) dL_law_33 (by decide) (by decide) (by decide) (by decide) ?_
        refine r_aload_n dL_law_694 rfl ?_
        refine r_aload_n dL_law_695 rfl ?_
        refine r_iload_n dL_law_696 rfl ?_
        refine r_iconst (v := 1) dL_law_697 (by decide) ?_
        refine r_niadd (b := 1) dL_law_698 rfl rfl ?_
        refine r_ialdSE (j := (i + 1)) dL_law_699 rfl (by omega) (by omega) rfl ((hx1 _ (by omega)).trans (zI_tI _).symm) ?_
        refine r_aload_n dL_law_700 rfl ?_
        refine r_iload_n dL_law_701 rfl ?_
        refine r_iconst (v := 2) dL_law_702 (by decide) ?_
        refine r_niadd (b := 2) dL_law_703 rfl rfl ?_
        refine r_ialdSE (j := (i + 2)) dL_law_704 rfl (by omega) (by omega) rfl ((hx1 _ (by omega)).trans (zI_tI _).symm) ?_
        refine r_aload_n dL_law_705 rfl ?_
        refine r_iload_n dL_law_706 rfl ?_
        refine r_iconst (v := 3) dL_law_707 (by decide) ?_
        refine r_niadd (b := 3) dL_law_708 rfl rfl ?_
        refine r_ialdSE (j := (i + 3)) dL_law_709 rfl (by omega) (by omega) rfl ((hx1 _ (by omega)).trans (zI_tI _).symm) ?_
        refine r_callV3N dL_law_710 moX6_chance w_725 w_726 w_727 (hsh.al rfl (by decide)) cl6 rfl (Nat.le_of_ble_eq_true rfl) (Nat.le_of_ble_eq_true rfl) (S_chance hC _ (inZt _) (inZt _)) (fun r n I2 J R hq => ?_)
        obtain ⟨rfl, hn1, hn2, hC2, hF2⟩ := hq
        have hsh := hC2.sh
        have hM2 := hM.fr2 (⟨hM.sh.1, hC2.sh.2⟩ : Sh _ R) hC2.sh (fun a a1 a2 _ _ => (hF2 a (by omega) (by omega)).1) (fun k hk => by rw [(hF2 102 (by decide) (by decide)).1])
        refine Wp.use (fun U H hW => hX U H _ _ _ _ hW) (fun hx2 => ?_)
        refine r_aload_n dL_law_713 rfl ?_
        refine r_aload_n dL_law_714 rfl ?_
        refine r_iload_n dL_law_715 rfl ?_
        refine r_iconst (v := 1) dL_law_716 (by decide) ?_
        refine r_niadd (b := 1) dL_law_717 rfl rfl ?_
        refine r_ialdSE (j := (i + 1)) dL_law_718 rfl (by omega) (by omega) rfl ((hx2 _ (by omega)).trans (zI_tI _).symm) ?_
        refine r_aload_n dL_law_719 rfl ?_
        refine r_iload_n dL_law_720 rfl ?_
        refine r_iconst (v := 2) dL_law_721 (by decide) ?_
        refine r_niadd (b := 2) dL_law_722 rfl rfl ?_
        refine r_ialdSE (j := (i + 2)) dL_law_723 rfl (by omega) (by omega) rfl ((hx2 _ (by omega)).trans (zI_tI _).symm) ?_
        refine r_aload_n dL_law_724 rfl ?_
        refine r_iload_n dL_law_725 rfl ?_
        refine r_iconst (v := 3) dL_law_726 (by decide) ?_
        refine r_niadd (b := 3) dL_law_727 rfl rfl ?_
        refine r_ialdSE (j := (i + 3)) dL_law_728 rfl (by omega) (by omega) rfl ((hx2 _ (by omega)).trans (zI_tI _).symm) ?_
        refine r_callV3N dL_law_729 moX7_chance w_1205 w_1206 w_1207 (hsh.al rfl (by decide)) cl7 rfl (Nat.le_of_ble_eq_true rfl) (Nat.le_of_ble_eq_true rfl) (S_mChance hM2 _ (inZt _) (inZt _)) (fun r n I3 J R hq => ?_)
        obtain ⟨rfl, rfl, rfl, hM3, hF3⟩ := hq
        have hC3 := hC2.lo hF3
        refine r_lcmp dL_law_732 ?_
        refine r_if_eq (tgt := 1022) dL_law_733 (by decide) (fun h733 => ?_) (fun h733 => absurd ((lg_cmp_eq _ _).mpr rfl) h733)
        refine r_iincE (b := (i + 6)) dL_law_1022 rfl rfl (nI_add i 6) rfl ?_
        refine r_goto (tgt := 18) dL_law_1025 (by decide) ?_
        refine Wp.room (bc := q) (bs := 2 * q) (by omega) (by omega) ?_
        exact ih (i + 6) _ _ _ _ _ (by omega) (by omega) hC3 hM3
      · refine r_top (v := nI 21) rfl ?_
        refine r_tabIn (tgt := 738) (off := 705) dL_law_33 (by decide) (by decide) (by decide) (by decide) ?_
        refine r_aload_n dL_law_738 rfl ?_
        refine r_callV0N dL_law_739 moX6_image w_733 w_734 w_735 (hsh.al rfl (by decide)) cl6 rfl (Nat.le_of_ble_eq_true rfl) (Nat.le_of_ble_eq_true rfl) (S_image hC ) (fun r n I2 J R hq => ?_)
        obtain ⟨rfl, hn1, hn2, hC2, hF2⟩ := hq
        have hsh := hC2.sh
        have hM2 := hM.fr2 (⟨hM.sh.1, hC2.sh.2⟩ : Sh _ R) hC2.sh (fun a a1 a2 _ _ => (hF2 a (by omega) (by omega)).1) (fun k hk => by rw [(hF2 102 (by decide) (by decide)).1])
        refine Wp.use (fun U H hW => hX U H _ _ _ _ hW) (fun hx2 => ?_)
        refine r_aload_n dL_law_742 rfl ?_
        refine r_callV0N dL_law_743 moX7_image w_1211 w_1212 w_1213 (hsh.al rfl (by decide)) cl7 rfl (Nat.le_of_ble_eq_true rfl) (Nat.le_of_ble_eq_true rfl) (S_mImage hM2 ) (fun r n I3 J R hq => ?_)
        obtain ⟨rfl, rfl, rfl, hM3, hF3⟩ := hq
        have hC3 := hC2.lo hF3
        refine r_icmp_eq (tgt := 1022) dL_law_746 (by decide) (fun h746 => ?_) (fun h746 => absurd rfl h746)
        refine r_iincE (b := (i + 6)) dL_law_1022 rfl rfl (nI_add i 6) rfl ?_
        refine r_goto (tgt := 18) dL_law_1025 (by decide) ?_
        refine Wp.room (bc := q) (bs := 2 * q) (by omega) (by omega) ?_
        exact ih (i + 6) _ _ _ _ _ (by omega) (by omega) hC3 hM3
      · refine r_top (v := nI 22) rfl ?_
        refine r_tabIn (tgt := 751) (off := 718) dL_law_33 (by decide) (by decide) (by decide) (by decide) ?_
        refine r_aload_n dL_law_751 rfl ?_
        refine r_callV0N dL_law_752 moX6_back w_737 w_738 w_739 (hsh.al rfl (by decide)) cl6 rfl (Nat.le_of_ble_eq_true rfl) (Nat.le_of_ble_eq_true rfl) (S_back hC ) (fun r n I2 J R hq => ?_)
        obtain ⟨rfl, hn1, hn2, hC2, hF2⟩ := hq
        have hsh := hC2.sh
        have hM2 := hM.fr2 (⟨hM.sh.1, hC2.sh.2⟩ : Sh _ R) hC2.sh (fun a a1 a2 _ _ => (hF2 a (by omega) (by omega)).1) (fun k hk => by rw [(hF2 102 (by decide) (by decide)).1])
        refine Wp.use (fun U H hW => hX U H _ _ _ _ hW) (fun hx2 => ?_)
        refine r_aload_n dL_law_755 rfl ?_
        refine r_callV0N dL_law_756 moX7_back w_1215 w_1216 w_1217 (hsh.al rfl (by decide)) cl7 rfl (Nat.le_of_ble_eq_true rfl) (Nat.le_of_ble_eq_true rfl) (S_mBack hM2 ) (fun r n I3 J R hq => ?_)
        obtain ⟨rfl, rfl, rfl, hM3, hF3⟩ := hq
        have hC3 := hC2.lo hF3
        refine r_icmp_eq (tgt := 1022) dL_law_759 (by decide) (fun h759 => ?_) (fun h759 => absurd rfl h759)
        refine r_iincE (b := (i + 6)) dL_law_1022 rfl rfl (nI_add i 6) rfl ?_
        refine r_goto (tgt := 18) dL_law_1025 (by decide) ?_
        refine Wp.room (bc := q) (bs := 2 * q) (by omega) (by omega) ?_
        exact ih (i + 6) _ _ _ _ _ (by omega) (by omega) hC3 hM3
      · refine r_top (v := nI 23) rfl ?_
        refine r_tabIn (tgt := 764) (off := 731) dL_law_33 (by decide) (by decide) (by decide) (by decide) ?_
        refine r_aload_n dL_law_764 rfl ?_
        refine r_aload_n dL_law_765 rfl ?_
        refine r_iload_n dL_law_766 rfl ?_
        refine r_iconst (v := 1) dL_law_767 (by decide) ?_
        refine r_niadd (b := 1) dL_law_768 rfl rfl ?_
        refine r_ialdSE (j := (i + 1)) dL_law_769 rfl (by omega) (by omega) rfl ((hx1 _ (by omega)).trans (zI_tI _).symm) ?_
        refine r_callV1N dL_law_770 moX6_count w_741 w_742 w_743 (hsh.al rfl (by decide)) cl6 rfl (Nat.le_of_ble_eq_true rfl) (Nat.le_of_ble_eq_true rfl) (S_count hC (inZt _)) (fun r n I2 J R hq => ?_)
        obtain ⟨rfl, hn1, hn2, hC2, hF2⟩ := hq
        have hsh := hC2.sh
        have hM2 := hM.fr2 (⟨hM.sh.1, hC2.sh.2⟩ : Sh _ R) hC2.sh (fun a a1 a2 _ _ => (hF2 a (by omega) (by omega)).1) (fun k hk => by rw [(hF2 102 (by decide) (by decide)).1])
        refine Wp.use (fun U H hW => hX U H _ _ _ _ hW) (fun hx2 => ?_)
        refine r_aload_n dL_law_773 rfl ?_
        refine r_aload_n dL_law_774 rfl ?_
        refine r_iload_n dL_law_775 rfl ?_
        refine r_iconst (v := 1) dL_law_776 (by decide) ?_
        refine r_niadd (b := 1) dL_law_777 rfl rfl ?_
        refine r_ialdSE (j := (i + 1)) dL_law_778 rfl (by omega) (by omega) rfl ((hx2 _ (by omega)).trans (zI_tI _).symm) ?_
        refine r_callV1N dL_law_779 moX7_count w_1219 w_1220 w_1221 (hsh.al rfl (by decide)) cl7 rfl (Nat.le_of_ble_eq_true rfl) (Nat.le_of_ble_eq_true rfl) (S_mCount hM2 (inZt _)) (fun r n I3 J R hq => ?_)
        obtain ⟨rfl, rfl, rfl, hM3, hF3⟩ := hq
        have hC3 := hC2.lo hF3
        refine r_icmp_eq (tgt := 1022) dL_law_782 (by decide) (fun h782 => ?_) (fun h782 => absurd rfl h782)
        refine r_iincE (b := (i + 6)) dL_law_1022 rfl rfl (nI_add i 6) rfl ?_
        refine r_goto (tgt := 18) dL_law_1025 (by decide) ?_
        refine Wp.room (bc := q) (bs := 2 * q) (by omega) (by omega) ?_
        exact ih (i + 6) _ _ _ _ _ (by omega) (by omega) hC3 hM3
      · refine r_top (v := nI 24) rfl ?_
        refine r_tabIn (tgt := 787) (off := 754) dL_law_33 (by decide) (by decide) (by decide) (by decide) ?_
        refine r_aload_n dL_law_787 rfl ?_
        refine r_aload_n dL_law_788 rfl ?_
        refine r_iload_n dL_law_789 rfl ?_
        refine r_iconst (v := 1) dL_law_790 (by decide) ?_
        refine r_niadd (b := 1) dL_law_791 rfl rfl ?_
        refine r_ialdSE (j := (i + 1)) dL_law_792 rfl (by omega) (by omega) rfl ((hx1 _ (by omega)).trans (zI_tI _).symm) ?_
        refine r_aload_n dL_law_793 rfl ?_
        refine r_iload_n dL_law_794 rfl ?_
        refine r_iconst (v := 2) dL_law_795 (by decide) ?_
        refine r_niadd (b := 2) dL_law_796 rfl rfl ?_
        refine r_ialdSE (j := (i + 2)) dL_law_797 rfl (by omega) (by omega) rfl ((hx1 _ (by omega)).trans (zI_tI _).symm) ?_
        refine r_aload_n dL_law_798 rfl ?_
        refine r_iload_n dL_law_799 rfl ?_
        refine r_iconst (v := 3) dL_law_800 (by decide) ?_
        refine r_niadd (b := 3) dL_law_801 rfl rfl ?_
        refine r_ialdSE (j := (i + 3)) dL_law_802 rfl (by omega) (by omega) rfl ((hx1 _ (by omega)).trans (zI_tI _).symm) ?_
        refine r_callV3N dL_law_803 moX6_sheet w_745 w_746 w_747 (hsh.al rfl (by decide)) cl6 rfl (Nat.le_of_ble_eq_true rfl) (Nat.le_of_ble_eq_true rfl) (S_sheet hC (inZt _) (inZt _) (inZt _)) (fun r n I2 J R hq => ?_)
        obtain ⟨rfl, hn1, hn2, hC2, hF2⟩ := hq
        have hsh := hC2.sh
        have hM2 := hM.fr2 (⟨hM.sh.1, hC2.sh.2⟩ : Sh _ R) hC2.sh (fun a a1 a2 _ _ => (hF2 a (by omega) (by omega)).1) (fun k hk => by rw [(hF2 102 (by decide) (by decide)).1])
        refine Wp.use (fun U H hW => hX U H _ _ _ _ hW) (fun hx2 => ?_)
        refine r_aload_n dL_law_806 rfl ?_
        refine r_aload_n dL_law_807 rfl ?_
        refine r_iload_n dL_law_808 rfl ?_
        refine r_iconst (v := 1) dL_law_809 (by decide) ?_
        refine r_niadd (b := 1) dL_law_810 rfl rfl ?_
        refine r_ialdSE (j := (i + 1)) dL_law_811 rfl (by omega) (by omega) rfl ((hx2 _ (by omega)).trans (zI_tI _).symm) ?_
        refine r_aload_n dL_law_812 rfl ?_
        refine r_iload_n dL_law_813 rfl ?_
        refine r_iconst (v := 2) dL_law_814 (by decide) ?_
        refine r_niadd (b := 2) dL_law_815 rfl rfl ?_
        refine r_ialdSE (j := (i + 2)) dL_law_816 rfl (by omega) (by omega) rfl ((hx2 _ (by omega)).trans (zI_tI _).symm) ?_
        refine r_aload_n dL_law_817 rfl ?_
        refine r_iload_n dL_law_818 rfl ?_
        refine r_iconst (v := 3) dL_law_819 (by decide) ?_
        refine r_niadd (b := 3) dL_law_820 rfl rfl ?_
        refine r_ialdSE (j := (i + 3)) dL_law_821 rfl (by omega) (by omega) rfl ((hx2 _ (by omega)).trans (zI_tI _).symm) ?_
        refine r_callV3N dL_law_822 moX7_sheet w_1223 w_1191 w_1192 (hsh.al rfl (by decide)) cl7 rfl (Nat.le_of_ble_eq_true rfl) (Nat.le_of_ble_eq_true rfl) (S_mSheet hM2 (inZt _) (inZt _) (inZt _)) (fun r n I3 J R hq => ?_)
        obtain ⟨⟨rfl, rfl, rfl, hM3, hF3⟩, _⟩ := hq
        have hC3 := hC2.lo hF3
        refine r_icmp_eq (tgt := 1022) dL_law_825 (by decide) (fun h825 => ?_) (fun h825 => absurd rfl h825)
        refine r_iincE (b := (i + 6)) dL_law_1022 rfl rfl (nI_add i 6) rfl ?_
        refine r_goto (tgt := 18) dL_law_1025 (by decide) ?_
        refine Wp.room (bc := q) (bs := 2 * q) (by omega) (by omega) ?_
        exact ih (i + 6) _ _ _ _ _ (by omega) (by omega) hC3 hM3
      · refine r_top (v := nI 25) rfl ?_
        refine r_tabIn (tgt := 830) (off := 797) dL_law_33 (by decide) (by decide) (by decide) (by decide) ?_
        refine r_aload_n dL_law_830 rfl ?_
        refine r_aload_n dL_law_831 rfl ?_
        refine r_iload_n dL_law_832 rfl ?_
        refine r_iconst (v := 1) dL_law_833 (by decide) ?_
        refine r_niadd (b := 1) dL_law_834 rfl rfl ?_
        refine r_ialdSE (j := (i + 1)) dL_law_835 rfl (by omega) (by omega) rfl ((hx1 _ (by omega)).trans (zI_tI _).symm) ?_
        refine r_aload_n dL_law_836 rfl ?_
        refine r_iload_n dL_law_837 rfl ?_
        refine r_iconst (v := 2) dL_law_838 (by decide) ?_
        refine r_niadd (b := 2) dL_law_839 rfl rfl ?_
        refine r_ialdSE (j := (i + 2)) dL_law_840 rfl (by omega) (by omega) rfl ((hx1 _ (by omega)).trans (zI_tI _).symm) ?_
        refine r_aload_n dL_law_841 rfl ?_
        refine r_iload_n dL_law_842 rfl ?_
        refine r_iconst (v := 3) dL_law_843 (by decide) ?_
        refine r_niadd (b := 3) dL_law_844 rfl rfl ?_
        refine r_ialdSE (j := (i + 3)) dL_law_845 rfl (by omega) (by omega) rfl ((hx1 _ (by omega)).trans (zI_tI _).symm) ?_
        refine r_callV3N dL_law_846 moX6_cell w_752 w_753 w_754 (hsh.al rfl (by decide)) cl6 rfl (Nat.le_of_ble_eq_true rfl) (Nat.le_of_ble_eq_true rfl) (S_cell hC (inZt _) (inZt _) _) (fun r n I2 J R hq => ?_)
        obtain ⟨rfl, hn1, hn2, hC2, hF2⟩ := hq
        have hsh := hC2.sh
        have hM2 := hM.fr2 (⟨hM.sh.1, hC2.sh.2⟩ : Sh _ R) hC2.sh (fun a a1 a2 _ _ => (hF2 a (by omega) (by omega)).1) (fun k hk => by rw [(hF2 102 (by decide) (by decide)).1])
        refine Wp.use (fun U H hW => hX U H _ _ _ _ hW) (fun hx2 => ?_)
        refine r_aload_n dL_law_849 rfl ?_
        refine r_aload_n dL_law_850 rfl ?_
        refine r_iload_n dL_law_851 rfl ?_
        refine r_iconst (v := 1) dL_law_852 (by decide) ?_
        refine r_niadd (b := 1) dL_law_853 rfl rfl ?_
        refine r_ialdSE (j := (i + 1)) dL_law_854 rfl (by omega) (by omega) rfl ((hx2 _ (by omega)).trans (zI_tI _).symm) ?_
        refine r_aload_n dL_law_855 rfl ?_
        refine r_iload_n dL_law_856 rfl ?_
        refine r_iconst (v := 2) dL_law_857 (by decide) ?_
        refine r_niadd (b := 2) dL_law_858 rfl rfl ?_
        refine r_ialdSE (j := (i + 2)) dL_law_859 rfl (by omega) (by omega) rfl ((hx2 _ (by omega)).trans (zI_tI _).symm) ?_
        refine r_aload_n dL_law_860 rfl ?_
        refine r_iload_n dL_law_861 rfl ?_
        refine r_iconst (v := 3) dL_law_862 (by decide) ?_
        refine r_niadd (b := 3) dL_law_863 rfl rfl ?_
        refine r_ialdSE (j := (i + 3)) dL_law_864 rfl (by omega) (by omega) rfl ((hx2 _ (by omega)).trans (zI_tI _).symm) ?_
        refine r_callV3N dL_law_865 moX7_cell w_1224 w_1225 w_1226 (hsh.al rfl (by decide)) cl7 rfl (Nat.le_of_ble_eq_true rfl) (Nat.le_of_ble_eq_true rfl) (S_mCell hM2 (inZt _) (inZt _) _) (fun r n I3 J R hq => ?_)
        obtain ⟨rfl, rfl, rfl, hM3, hF3⟩ := hq
        have hC3 := hC2.lo hF3
        refine r_icmp_eq (tgt := 1022) dL_law_868 (by decide) (fun h868 => ?_) (fun h868 => absurd rfl h868)
        refine r_iincE (b := (i + 6)) dL_law_1022 rfl rfl (nI_add i 6) rfl ?_
        refine r_goto (tgt := 18) dL_law_1025 (by decide) ?_
        refine Wp.room (bc := q) (bs := 2 * q) (by omega) (by omega) ?_
        exact ih (i + 6) _ _ _ _ _ (by omega) (by omega) hC3 hM3
      · refine r_top (v := nI 26) rfl ?_
        refine r_tabIn (tgt := 873) (off := 840) dL_law_33 (by decide) (by decide) (by decide) (by decide) ?_
        refine r_aload_n dL_law_873 rfl ?_
        refine r_aload_n dL_law_874 rfl ?_
        refine r_iload_n dL_law_875 rfl ?_
        refine r_iconst (v := 1) dL_law_876 (by decide) ?_
        refine r_niadd (b := 1) dL_law_877 rfl rfl ?_
        refine r_ialdSE (j := (i + 1)) dL_law_878 rfl (by omega) (by omega) rfl ((hx1 _ (by omega)).trans (zI_tI _).symm) ?_
        refine r_aload_n dL_law_879 rfl ?_
        refine r_iload_n dL_law_880 rfl ?_
        refine r_iconst (v := 2) dL_law_881 (by decide) ?_
        refine r_niadd (b := 2) dL_law_882 rfl rfl ?_
        refine r_ialdSE (j := (i + 2)) dL_law_883 rfl (by omega) (by omega) rfl ((hx1 _ (by omega)).trans (zI_tI _).symm) ?_
        refine r_aload_n dL_law_884 rfl ?_
        refine r_iload_n dL_law_885 rfl ?_
        refine r_iconst (v := 3) dL_law_886 (by decide) ?_
        refine r_niadd (b := 3) dL_law_887 rfl rfl ?_
        refine r_ialdSE (j := (i + 3)) dL_law_888 rfl (by omega) (by omega) rfl ((hx1 _ (by omega)).trans (zI_tI _).symm) ?_
        refine r_aload_n dL_law_889 rfl ?_
        refine r_iload_n dL_law_890 rfl ?_
        refine r_iconst (v := 4) dL_law_891 (by decide) ?_
        refine r_niadd (b := 4) dL_law_892 rfl rfl ?_
        refine r_ialdSE (j := (i + 4)) dL_law_893 rfl (by omega) (by omega) rfl ((hx1 _ (by omega)).trans (zI_tI _).symm) ?_
        refine r_aload_n dL_law_894 rfl ?_
        refine r_iload_n dL_law_895 rfl ?_
        refine r_iconst (v := 5) dL_law_896 (by decide) ?_
        refine r_niadd (b := 5) dL_law_897 rfl rfl ?_
        refine r_ialdSE (j := (i + 5)) dL_law_898 rfl (by omega) (by omega) rfl ((hx1 _ (by omega)).trans (zI_tI _).symm) ?_
        refine r_callV5N dL_law_899 moX6_copy w_756 w_757 w_758 (hsh.al rfl (by decide)) cl6 rfl (Nat.le_of_ble_eq_true rfl) (Nat.le_of_ble_eq_true rfl) (S_copy hC (inZt _) (inZt _) (inZt _) (inZt _) (inZt _)) (fun r n I2 J R hq => ?_)
        obtain ⟨rfl, hn1, hn2, hC2, hF2⟩ := hq
        have hsh := hC2.sh
        have hM2 := hM.fr2 (⟨hM.sh.1, hC2.sh.2⟩ : Sh _ R) hC2.sh (fun a a1 a2 _ _ => (hF2 a (by omega) (by omega)).1) (fun k hk => by rw [(hF2 102 (by decide) (by decide)).1])
        refine Wp.use (fun U H hW => hX U H _ _ _ _ hW) (fun hx2 => ?_)
        refine r_aload_n dL_law_902 rfl ?_
        refine r_aload_n dL_law_903 rfl ?_
        refine r_iload_n dL_law_904 rfl ?_
        refine r_iconst (v := 1) dL_law_905 (by decide) ?_
        refine r_niadd (b := 1) dL_law_906 rfl rfl ?_
        refine r_ialdSE (j := (i + 1)) dL_law_907 rfl (by omega) (by omega) rfl ((hx2 _ (by omega)).trans (zI_tI _).symm) ?_
        refine r_aload_n dL_law_908 rfl ?_
        refine r_iload_n dL_law_909 rfl ?_
        refine r_iconst (v := 2) dL_law_910 (by decide) ?_
        refine r_niadd (b := 2) dL_law_911 rfl rfl ?_
        refine r_ialdSE (j := (i + 2)) dL_law_912 rfl (by omega) (by omega) rfl ((hx2 _ (by omega)).trans (zI_tI _).symm) ?_
        refine r_aload_n dL_law_913 rfl ?_
        refine r_iload_n dL_law_914 rfl ?_
        refine r_iconst (v := 3) dL_law_915 (by decide) ?_
        refine r_niadd (b := 3) dL_law_916 rfl rfl ?_
        refine r_ialdSE (j := (i + 3)) dL_law_917 rfl (by omega) (by omega) rfl ((hx2 _ (by omega)).trans (zI_tI _).symm) ?_
        refine r_aload_n dL_law_918 rfl ?_
        refine r_iload_n dL_law_919 rfl ?_
        refine r_iconst (v := 4) dL_law_920 (by decide) ?_
        refine r_niadd (b := 4) dL_law_921 rfl rfl ?_
        refine r_ialdSE (j := (i + 4)) dL_law_922 rfl (by omega) (by omega) rfl ((hx2 _ (by omega)).trans (zI_tI _).symm) ?_
        refine r_aload_n dL_law_923 rfl ?_
        refine r_iload_n dL_law_924 rfl ?_
        refine r_iconst (v := 5) dL_law_925 (by decide) ?_
        refine r_niadd (b := 5) dL_law_926 rfl rfl ?_
        refine r_ialdSE (j := (i + 5)) dL_law_927 rfl (by omega) (by omega) rfl ((hx2 _ (by omega)).trans (zI_tI _).symm) ?_
        refine r_callV5N dL_law_928 moX7_copy w_1228 w_1229 w_1230 (hsh.al rfl (by decide)) cl7 rfl (Nat.le_of_ble_eq_true rfl) (Nat.le_of_ble_eq_true rfl) (S_mCopy hM2 (inZt _) (inZt _) (inZt _) (inZt _) (inZt _)) (fun r n I3 J R hq => ?_)
        obtain ⟨rfl, rfl, rfl, hM3, hF3⟩ := hq
        have hC3 := hC2.lo hF3
        refine r_icmp_eq (tgt := 1022) dL_law_931 (by decide) (fun h931 => ?_) (fun h931 => absurd rfl h931)
        refine r_iincE (b := (i + 6)) dL_law_1022 rfl rfl (nI_add i 6) rfl ?_
        refine r_goto (tgt := 18) dL_law_1025 (by decide) ?_
        refine Wp.room (bc := q) (bs := 2 * q) (by omega) (by omega) ?_
        exact ih (i + 6) _ _ _ _ _ (by omega) (by omega) hC3 hM3
      · refine r_top (v := nI 27) rfl ?_
        refine r_tabIn (tgt := 936) (off := 903) dL_law_33 (by decide) (by decide) (by decide) (by decide) ?_
        refine r_aload_n dL_law_936 rfl ?_
        refine r_aload_n dL_law_937 rfl ?_
        refine r_iload_n dL_law_938 rfl ?_
        refine r_iconst (v := 1) dL_law_939 (by decide) ?_
        refine r_niadd (b := 1) dL_law_940 rfl rfl ?_
        refine r_ialdSE (j := (i + 1)) dL_law_941 rfl (by omega) (by omega) rfl ((hx1 _ (by omega)).trans (zI_tI _).symm) ?_
        refine r_aload_n dL_law_942 rfl ?_
        refine r_iload_n dL_law_943 rfl ?_
        refine r_iconst (v := 2) dL_law_944 (by decide) ?_
        refine r_niadd (b := 2) dL_law_945 rfl rfl ?_
        refine r_ialdSE (j := (i + 2)) dL_law_946 rfl (by omega) (by omega) rfl ((hx1 _ (by omega)).trans (zI_tI _).symm) ?_
        refine r_aload_n dL_law_947 rfl ?_
        refine r_iload_n dL_law_948 rfl ?_
        refine r_iconst (v := 3) dL_law_949 (by decide) ?_
        refine r_niadd (b := 3) dL_law_950 rfl rfl ?_
        refine r_ialdSE (j := (i + 3)) dL_law_951 rfl (by omega) (by omega) rfl ((hx1 _ (by omega)).trans (zI_tI _).symm) ?_
        refine r_aload_n dL_law_952 rfl ?_
        refine r_iload_n dL_law_953 rfl ?_
        refine r_iconst (v := 4) dL_law_954 (by decide) ?_
        refine r_niadd (b := 4) dL_law_955 rfl rfl ?_
        refine r_ialdSE (j := (i + 4)) dL_law_956 rfl (by omega) (by omega) rfl ((hx1 _ (by omega)).trans (zI_tI _).symm) ?_
        refine r_callV4N dL_law_957 moX6_sights w_765 w_766 w_767 (hsh.al rfl (by decide)) cl6 rfl (Nat.le_of_ble_eq_true rfl) (Nat.le_of_ble_eq_true rfl) (S_sights hC (inZt _) (inZt _) (inZt _) (inZt _)) (fun r n I2 J R hq => ?_)
        obtain ⟨rfl, hn1, hn2, hC2, hF2⟩ := hq
        have hsh := hC2.sh
        have hM2 := hM.fr2 (⟨hM.sh.1, hC2.sh.2⟩ : Sh _ R) hC2.sh (fun a a1 a2 _ _ => (hF2 a (by omega) (by omega)).1) (fun k hk => by rw [(hF2 102 (by decide) (by decide)).1])
        refine Wp.use (fun U H hW => hX U H _ _ _ _ hW) (fun hx2 => ?_)
        refine r_aload_n dL_law_960 rfl ?_
        refine r_aload_n dL_law_961 rfl ?_
        refine r_iload_n dL_law_962 rfl ?_
        refine r_iconst (v := 1) dL_law_963 (by decide) ?_
        refine r_niadd (b := 1) dL_law_964 rfl rfl ?_
        refine r_ialdSE (j := (i + 1)) dL_law_965 rfl (by omega) (by omega) rfl ((hx2 _ (by omega)).trans (zI_tI _).symm) ?_
        refine r_aload_n dL_law_966 rfl ?_
        refine r_iload_n dL_law_967 rfl ?_
        refine r_iconst (v := 2) dL_law_968 (by decide) ?_
        refine r_niadd (b := 2) dL_law_969 rfl rfl ?_
        refine r_ialdSE (j := (i + 2)) dL_law_970 rfl (by omega) (by omega) rfl ((hx2 _ (by omega)).trans (zI_tI _).symm) ?_
        refine r_aload_n dL_law_971 rfl ?_
        refine r_iload_n dL_law_972 rfl ?_
        refine r_iconst (v := 3) dL_law_973 (by decide) ?_
        refine r_niadd (b := 3) dL_law_974 rfl rfl ?_
        refine r_ialdSE (j := (i + 3)) dL_law_975 rfl (by omega) (by omega) rfl ((hx2 _ (by omega)).trans (zI_tI _).symm) ?_
        refine r_aload_n dL_law_976 rfl ?_
        refine r_iload_n dL_law_977 rfl ?_
        refine r_iconst (v := 4) dL_law_978 (by decide) ?_
        refine r_niadd (b := 4) dL_law_979 rfl rfl ?_
        refine r_ialdSE (j := (i + 4)) dL_law_980 rfl (by omega) (by omega) rfl ((hx2 _ (by omega)).trans (zI_tI _).symm) ?_
        refine r_callV4N dL_law_981 moX7_sights w_1232 w_1233 w_1234 (hsh.al rfl (by decide)) cl7 rfl (Nat.le_of_ble_eq_true rfl) (Nat.le_of_ble_eq_true rfl) (S_mSights hM2 (inZt _) (inZt _) (inZt _) (inZt _)) (fun r n I3 J R hq => ?_)
        obtain ⟨rfl, rfl, rfl, hM3, hF3⟩ := hq
        have hC3 := hC2.lo hF3
        refine r_icmp_eq (tgt := 1022) dL_law_984 (by decide) (fun h984 => ?_) (fun h984 => absurd rfl h984)
        refine r_iincE (b := (i + 6)) dL_law_1022 rfl rfl (nI_add i 6) rfl ?_
        refine r_goto (tgt := 18) dL_law_1025 (by decide) ?_
        refine Wp.room (bc := q) (bs := 2 * q) (by omega) (by omega) ?_
        exact ih (i + 6) _ _ _ _ _ (by omega) (by omega) hC3 hM3
      · refine r_top (v := nI 28) rfl ?_
        refine r_tabIn (tgt := 989) (off := 956) dL_law_33 (by decide) (by decide) (by decide) (by decide) ?_
        refine r_aload_n dL_law_989 rfl ?_
        refine r_aload_n dL_law_990 rfl ?_
        refine r_iload_n dL_law_991 rfl ?_
        refine r_iconst (v := 1) dL_law_992 (by decide) ?_
        refine r_niadd (b := 1) dL_law_993 rfl rfl ?_
        refine r_ialdSE (j := (i + 1)) dL_law_994 rfl (by omega) (by omega) rfl ((hx1 _ (by omega)).trans (zI_tI _).symm) ?_
        refine r_aload_n dL_law_995 rfl ?_
        refine r_iload_n dL_law_996 rfl ?_
        refine r_iconst (v := 2) dL_law_997 (by decide) ?_
        refine r_niadd (b := 2) dL_law_998 rfl rfl ?_
        refine r_ialdSE (j := (i + 2)) dL_law_999 rfl (by omega) (by omega) rfl ((hx1 _ (by omega)).trans (zI_tI _).symm) ?_
        refine r_callV2N dL_law_1000 moX6_taken w_770 w_771 w_772 (hsh.al rfl (by decide)) cl6 rfl (Nat.le_of_ble_eq_true rfl) (Nat.le_of_ble_eq_true rfl) (S_taken hC (inZt _) (inZt _)) (fun r n I2 J R hq => ?_)
        obtain ⟨rfl, hn1, hn2, hC2, hF2⟩ := hq
        have hsh := hC2.sh
        have hM2 := hM.fr2 (⟨hM.sh.1, hC2.sh.2⟩ : Sh _ R) hC2.sh (fun a a1 a2 _ _ => (hF2 a (by omega) (by omega)).1) (fun k hk => by rw [(hF2 102 (by decide) (by decide)).1])
        refine Wp.use (fun U H hW => hX U H _ _ _ _ hW) (fun hx2 => ?_)
        refine r_aload_n dL_law_1003 rfl ?_
        refine r_aload_n dL_law_1004 rfl ?_
        refine r_iload_n dL_law_1005 rfl ?_
        refine r_iconst (v := 1) dL_law_1006 (by decide) ?_
        refine r_niadd (b := 1) dL_law_1007 rfl rfl ?_
        refine r_ialdSE (j := (i + 1)) dL_law_1008 rfl (by omega) (by omega) rfl ((hx2 _ (by omega)).trans (zI_tI _).symm) ?_
        refine r_aload_n dL_law_1009 rfl ?_
        refine r_iload_n dL_law_1010 rfl ?_
        refine r_iconst (v := 2) dL_law_1011 (by decide) ?_
        refine r_niadd (b := 2) dL_law_1012 rfl rfl ?_
        refine r_ialdSE (j := (i + 2)) dL_law_1013 rfl (by omega) (by omega) rfl ((hx2 _ (by omega)).trans (zI_tI _).symm) ?_
        refine r_callV2N dL_law_1014 moX7_taken w_1238 w_1239 w_1240 (hsh.al rfl (by decide)) cl7 rfl (Nat.le_of_ble_eq_true rfl) (Nat.le_of_ble_eq_true rfl) (S_mTaken hM2 (inZt _) (inZt _)) (fun r n I3 J R hq => ?_)
        obtain ⟨rfl, rfl, rfl, hM3, hF3⟩ := hq
        have hC3 := hC2.lo hF3
        refine r_icmp_eq (tgt := 1022) dL_law_1017 (by decide) (fun h1017 => ?_) (fun h1017 => absurd rfl h1017)
        refine r_iincE (b := (i + 6)) dL_law_1022 rfl rfl (nI_add i 6) rfl ?_
        refine r_goto (tgt := 18) dL_law_1025 (by decide) ?_
        refine Wp.room (bc := q) (bs := 2 * q) (by omega) (by omega) ?_
        exact ih (i + 6) _ _ _ _ _ (by omega) (by omega) hC3 hM3
      · refine r_tabOut (tgt := 1022) dL_law_33 (by rw [nI_tI (by omega)]; exact Or.inr (by omega)) (by decide) ?_
        refine r_iincE (b := (i + 6)) dL_law_1022 rfl rfl (nI_add i 6) rfl ?_
        refine r_goto (tgt := 18) dL_law_1025 (by decide) ?_
        refine Wp.room (bc := q) (bs := 2 * q) (by omega) (by omega) ?_
        exact ih (i + 6) _ _ _ _ σ (by omega) (by omega) hC hM
