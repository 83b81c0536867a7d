theorem cl_nn (v : Int) (l m : Nat) : 0 ≤ (let w := if v < (l : Int) then (l : Int) else v; if (m : Int) < w then (m : Int) else w) := by
  by_cases h1 : v < (l : Int) <;> simp only [h1, if_true, if_false] <;> split <;> omega
theorem StkOK.up {I : TI} {st : List Int32} {k : Nat} {v : Int32} (h : StkOK I st) (hk : st.length ≤ k) : StkOK (up2 I 99 k v) st := fun j hj => by
  rw [up2_k _ _ (by omega)]; exact h j hj
theorem FrA.up {b k : Nat} {I I' : TI} {v : Int32} (h : FrA b I I') : FrA b I (up2 I' b k v) := fun a ha => by rw [up2_a _ _ _ ha]; exact h a ha
theorem evS_push {nm : Nat → Int32} {z : Int} {st : List Int32} (h : -7 < z) : evS nm z st = (if 0 ≤ z then zI z else nm (-1 - z).toNat) :: st := by unfold evS; rw [if_pos h]
theorem evS_un0 {nm : Nat → Int32} {z : Int} (h : z ≤ -7) (h2 : -8 ≤ z) : evS nm z [] = [] := by unfold evS; rw [if_neg (by omega), if_pos h2]
theorem evS_un {nm : Nat → Int32} {z : Int} {x : Int32} {r : List Int32} (h : z ≤ -7) (h2 : -8 ≤ z) : evS nm z (x :: r) = (if z = -7 then -x else b2i (decide (x = 0))) :: r := by unfold evS; rw [if_neg (by omega), if_pos h2]
theorem evS_bin {nm : Nat → Int32} {z : Int} {x y : Int32} {r : List Int32} (h2 : z < -8) : evS nm z (x :: y :: r) = joinV z y x :: r := by unfold evS; rw [if_neg (by omega), if_neg (by omega)]
theorem evS_bin1 {nm : Nat → Int32} {z : Int} {st : List Int32} (h2 : z < -8) (hl : st.length ≤ 1) : evS nm z st = st := by
  unfold evS
  rw [if_neg (by omega), if_neg (by omega)]
  rcases st with _ | ⟨x, _ | ⟨y, r⟩⟩
  · rfl
  · rfl
  · simp at hl
theorem add_m1 (k : Nat) : nI k + 1 + Int32.ofInt (-1) = nI k := by
  rw [show (1 : Int32) = zI 1 from rfl, nz, zI_add, show Int32.ofInt (-1) = zI (-1) from rfl, zI_add]
  congr 1
  omega
set_option maxRecDepth 20000 in
set_option maxHeartbeats 4000000 in
theorem S_value {g : GP} {d n : Nat} {I : TI} {J : TJ} {R : TR} {t p : Nat} {en : Nat → Nat} (hsh : Sh n R) (ht : isText t) (hT : TextOK I t en) (hp : p < 3) (hL : I 4 p = nI (lvN p)) (hU : I 5 p = nI (mvN p)) : Wp g (d + 2) mX4_value 0 [.ref t, .int (nI p), .ref 98, .ref 99, .null, .null, .null] [] 0 0 n I J R (PostI n J R (some (.int (nI (tvN (mkA I t) en p (I 98))))) (FrA 99 I)) := by
  obtain ⟨hen, h01, h12, h160⟩ := hT
  have hep : en p ≤ 160 := by
    have e : p = 0 ∨ p = 1 ∨ p = 2 := by omega
    rcases e with rfl | rfl | rfl <;> omega
  have ht99 : t + 1 ≠ 99 ∧ t + 2 ≠ 99 := by rcases ht with rfl | rfl | rfl | rfl | rfl | rfl | rfl <;> decide
  have b1 := lvN_le p
  have b2 := mvN_le p
  have loop : ∀ m i I2 st u, i + m = en p → st.length ≤ i → StkOK I2 st → FrA 99 I I2 → Wp g (d + 2) mX4_value 32 [.ref t, .int (nI p), .ref 98, .ref 99, .int (nI st.length), .int (nI i), u] [] 0 0 n I2 J R (PostI n J R (some (.int (nI (clP p (evR (I 98) (mkA I t) m i st))))) (FrA 99 I)) := by
    intro m
    induction m with
    | zero =>
      intro i I2 st u hi hl hS hF
      rcases st with _ | ⟨x, r⟩
      · refine r_iload dX4_value_32 rfl ?_
        refine r_aload_n dX4_value_34 rfl ?_
        refine r_getR (b := (t + 2)) dX4_value_35 f_X4_15 (hsh.t0 ht) (Or.inl ⟨_, rfl⟩) (hsh.tr1 ht) (by omega) ?_
        refine r_iload_n dX4_value_38 rfl ?_
        refine r_ialdE (j := p) dX4_value_39 (hsh.t2 ht) hp rfl (show I2 (t + 2) p = nI (en p) by rw [hF _ ht99.2]; exact hen p hp) ?_
        refine r_nicmp_ge  (tgt := 201) dX4_value_40 (by decide) rfl rfl (by omega) (by omega) (fun h40 => ?_) (fun h40 => absurd h40 (by omega))
        refine r_iload dX4_value_201 rfl ?_
        refine r_zif_le (tgt := 215) dX4_value_203 (by decide) (nz _) (by unfold inZ; omega) (fun h203 => ?_) (fun h203 => absurd h203 (by simp))
        refine r_iconst (v := 0) dX4_value_215 (by decide) ?_
        refine r_top (v := zI (([] : List Int32).headD 0).toInt) (by rw [zI_tI]; rfl) ?_
        refine r_istore dX4_value_216 (by decide) rfl ?_
        refine r_iload dX4_value_218 rfl ?_
        refine gets_core (q := ("AHundredSights$Text", "LEAST_VALUE", "[I", .null)) (v := .ref 4) dX4_value_220 (fun g => by simp [zsL, cv, ad, RX6, RX4]) w_546 ?_
        refine r_iload_n dX4_value_223 rfl ?_
        refine r_ialdSE (j := p) dX4_value_224 rfl hp (by decide) rfl (show I2 4 p = nI (lvN p) by rw [hF 4 (by decide)]; exact hL) ?_
        refine r_zmmax dX4_value_225 w_548 (Nat.le_of_ble_eq_true rfl) rfl (nz _) (tI_inZ _) (by unfold inZ; omega) ?_
        refine gets_core (q := ("AHundredSights$Text", "MOST_VALUE", "[I", .null)) (v := .ref 5) dX4_value_228 (fun g => by simp [zsL, cv, ad, RX6, RX4]) w_549 ?_
        refine r_iload_n dX4_value_231 rfl ?_
        refine r_ialdSE (j := p) dX4_value_232 rfl hp (by decide) rfl (show I2 5 p = nI (mvN p) by rw [hF 5 (by decide)]; exact hU) ?_
        refine r_zmmin dX4_value_233 w_551 (Nat.le_of_ble_eq_true rfl) rfl (nz _) (by have := tI_inZ (([] : List Int32).headD 0); unfold inZ at *; split <;> omega) (by unfold inZ; omega) ?_
        refine r_iret dX4_value_236 rfl ?_
        refine ⟨?_, rfl, rfl, rfl, hF⟩
        congr 2
        rw [nz]
        congr 1
        show _ = ((Int.toNat _ : Nat) : Int)
        exact (Int.toNat_of_nonneg (cl_nn _ _ _)).symm
      · refine r_iload dX4_value_32 rfl ?_
        refine r_aload_n dX4_value_34 rfl ?_
        refine r_getR (b := (t + 2)) dX4_value_35 f_X4_15 (hsh.t0 ht) (Or.inl ⟨_, rfl⟩) (hsh.tr1 ht) (by omega) ?_
        refine r_iload_n dX4_value_38 rfl ?_
        refine r_ialdE (j := p) dX4_value_39 (hsh.t2 ht) hp rfl (show I2 (t + 2) p = nI (en p) by rw [hF _ ht99.2]; exact hen p hp) ?_
        refine r_nicmp_ge  (tgt := 201) dX4_value_40 (by decide) rfl rfl (by omega) (by omega) (fun h40 => ?_) (fun h40 => absurd h40 (by omega))
        refine r_iload dX4_value_201 rfl ?_
        refine r_zif_le (tgt := 215) dX4_value_203 (by decide) (nz _) (by unfold inZ; omega) (fun h203 => absurd h203 (by simp <;> omega)) (fun h203 => ?_)
        refine r_aload_n dX4_value_206 rfl ?_
        refine r_iload dX4_value_207 rfl ?_
        refine r_iconst (v := 1) dX4_value_209 (by decide) ?_
        refine r_nisub (b := 1) dX4_value_210 rfl rfl (by simp) ?_
        refine r_ialdE (j := r.length) dX4_value_211 (hsh.al rfl (by decide)) (by simp at hl; omega) (by simp) hS.top ?_
        refine r_goto (tgt := 216) dX4_value_212 (by decide) ?_
        refine r_top (v := zI ((x :: r).headD 0).toInt) (by rw [zI_tI]; rfl) ?_
        refine r_istore dX4_value_216 (by decide) rfl ?_
        refine r_iload dX4_value_218 rfl ?_
        refine gets_core (q := ("AHundredSights$Text", "LEAST_VALUE", "[I", .null)) (v := .ref 4) dX4_value_220 (fun g => by simp [zsL, cv, ad, RX6, RX4]) w_546 ?_
        refine r_iload_n dX4_value_223 rfl ?_
        refine r_ialdSE (j := p) dX4_value_224 rfl hp (by decide) rfl (show I2 4 p = nI (lvN p) by rw [hF 4 (by decide)]; exact hL) ?_
        refine r_zmmax dX4_value_225 w_548 (Nat.le_of_ble_eq_true rfl) rfl (nz _) (tI_inZ _) (by unfold inZ; omega) ?_
        refine gets_core (q := ("AHundredSights$Text", "MOST_VALUE", "[I", .null)) (v := .ref 5) dX4_value_228 (fun g => by simp [zsL, cv, ad, RX6, RX4]) w_549 ?_
        refine r_iload_n dX4_value_231 rfl ?_
        refine r_ialdSE (j := p) dX4_value_232 rfl hp (by decide) rfl (show I2 5 p = nI (mvN p) by rw [hF 5 (by decide)]; exact hU) ?_
        refine r_zmmin dX4_value_233 w_551 (Nat.le_of_ble_eq_true rfl) rfl (nz _) (by have := tI_inZ ((x :: r).headD 0); unfold inZ at *; split <;> omega) (by unfold inZ; omega) ?_
        refine r_iret dX4_value_236 rfl ?_
        refine ⟨?_, rfl, rfl, rfl, hF⟩
        congr 2
        rw [nz]
        congr 1
        show _ = ((Int.toNat _ : Nat) : Int)
        exact (Int.toNat_of_nonneg (cl_nn _ _ _)).symm
    | succ m ih =>
      intro i I2 st u hi hl hS hF
      have rest66 : mkA I t i ≤ -7 → Wp g (d + 2) mX4_value 111 [.ref t, .int (nI p), .ref 98, .ref 99, .int (nI st.length), .int (nI i), .int (zI (mkA I t i))] [] 0 0 n I2 J R (PostI n J R (some (.int (nI (clP p (evR (I 98) (mkA I t) (m + 1) i st))))) (FrA 99 I)) := by
        intro h66
        rcases st with _ | ⟨x, r⟩
        · refine r_iload dX4_value_111 rfl ?_
          refine r_bipush (v := (-8)) dX4_value_113 (by decide) ?_
          refine r_zicmp_lt (b := (-8))  (tgt := 163) dX4_value_115 (by decide) rfl (by decide) (tI_inZ _) (by unfold inZ; omega) (fun h115 => ?_) (fun h115 => ?_)
          · refine r_iload dX4_value_163 rfl ?_
            refine r_iconst (v := 1) dX4_value_165 (by decide) ?_
            refine r_nicmp_le (b := 1)  (tgt := 195) dX4_value_166 (by decide) rfl rfl (by omega) (by omega) (fun h166 => ?_) (fun h166 => absurd h166 (by simp))
            refine r_iincE (b := (i + 1)) dX4_value_195 rfl rfl (nI_succ _).symm rfl ?_
            refine r_goto (tgt := 32) dX4_value_198 (by decide) ?_
            show Wp _ _ _ _ _ _ _ _ _ _ _ _ (PostI _ _ _ (some (.int (nI (clP p (evR _ _ m (i + 1) (evS _ _ _)))))) _)
            rw [evS_bin1 (by omega) (by simp)]
            exact ih (i + 1) I2 [] _ (by omega) (by simp) hS hF
          · refine r_iload dX4_value_118 rfl ?_
            refine r_zif_le (tgt := 195) dX4_value_120 (by decide) (nz _) (by unfold inZ; omega) (fun h120 => ?_) (fun h120 => absurd h120 (by simp))
            refine r_iincE (b := (i + 1)) dX4_value_195 rfl rfl (nI_succ _).symm rfl ?_
            refine r_goto (tgt := 32) dX4_value_198 (by decide) ?_
            show Wp _ _ _ _ _ _ _ _ _ _ _ _ (PostI _ _ _ (some (.int (nI (clP p (evR _ _ m (i + 1) (evS _ _ _)))))) _)
            rw [evS_un0 (by omega) (by omega)]
            exact ih (i + 1) I2 [] _ (by omega) (by simp) hS hF
        · have binR : ∀ {y : Int32} {r : List Int32}, (x :: y :: r).length ≤ i → StkOK I2 (x :: y :: r) → mkA I t i ≤ -7 → mkA I t i < -8 → i + (m + 1) = en p → Wp g (d + 2) mX4_value 169 [.ref t, .int (nI p), .ref 98, .ref 99, .int (nI (x :: y :: r).length), .int (nI i), .int (zI (mkA I t i))] [] 0 0 n I2 J R (PostI n J R (some (.int (nI (clP p (evR (I 98) (mkA I t) (m + 1) i (x :: y :: r)))))) (FrA 99 I)) := by
            intro y r hl hS h66 h115 hi
            refine r_aload_n dX4_value_169 rfl ?_
            refine r_iload dX4_value_170 rfl ?_
            refine r_iconst (v := 2) dX4_value_172 (by decide) ?_
            refine r_nisub (b := 2) dX4_value_173 rfl rfl (by simp) ?_
            refine r_iload dX4_value_174 rfl ?_
            refine r_aload_n dX4_value_176 rfl ?_
            refine r_iload dX4_value_177 rfl ?_
            refine r_iconst (v := 2) dX4_value_179 (by decide) ?_
            refine r_nisub (b := 2) dX4_value_180 rfl rfl (by simp) ?_
            refine r_ialdE (j := r.length) dX4_value_181 (hsh.al rfl (by decide)) (by simp at hl; omega) (by simp) hS.pop.top ?_
            refine r_aload_n dX4_value_182 rfl ?_
            refine r_iload dX4_value_183 rfl ?_
            refine r_iconst (v := 1) dX4_value_185 (by decide) ?_
            refine r_nisub (b := 1) dX4_value_186 rfl rfl (by simp) ?_
            refine r_ialdE (j := (y :: r).length) dX4_value_187 (hsh.al rfl (by decide)) (by simp at hl ⊢; omega) (by simp) hS.top ?_
            refine r_callS3I dX4_value_188 moX4_joined w_543 w_544 (Nat.le_of_ble_eq_true rfl) (Nat.le_of_ble_eq_true rfl) (S_joined (tI_inZ _) y x) ?_
            refine r_iast (j := r.length) dX4_value_191 (hsh.al rfl (by decide)) (by simp at hl; omega) (by simp) ?_
            refine r_iincE (b := (r.length + 1)) dX4_value_192 rfl rfl (by rw [show (x :: y :: r).length = r.length + 1 + 1 by simp, nI_succ (r.length + 1)]; exact add_m1 _) rfl ?_
            refine r_iincE (b := (i + 1)) dX4_value_195 rfl rfl (nI_succ _).symm rfl ?_
            refine r_goto (tgt := 32) dX4_value_198 (by decide) ?_
            show Wp _ _ _ _ _ _ _ _ _ _ _ _ (PostI _ _ _ (some (.int (nI (clP p (evR _ _ m (i + 1) (evS _ _ _)))))) _)
            rw [evS_bin (by omega)]
            exact ih (i + 1) _ (joinV (mkA I t i) y x :: r) (.int (zI (mkA I t i))) (by omega) (by simp at hl ⊢; omega) (hS.pop.pop.push _) hF.up
          refine r_iload dX4_value_111 rfl ?_
          refine r_bipush (v := (-8)) dX4_value_113 (by decide) ?_
          refine r_zicmp_lt (b := (-8))  (tgt := 163) dX4_value_115 (by decide) rfl (by decide) (tI_inZ _) (by unfold inZ; omega) (fun h115 => ?_) (fun h115 => ?_)
          · refine r_iload dX4_value_163 rfl ?_
            refine r_iconst (v := 1) dX4_value_165 (by decide) ?_
            refine r_nicmp_le (b := 1)  (tgt := 195) dX4_value_166 (by decide) rfl rfl (by omega) (by omega) (fun h166 => ?_) (fun h166 => ?_)
            · refine r_iincE (b := (i + 1)) dX4_value_195 rfl rfl (nI_succ _).symm rfl ?_
              refine r_goto (tgt := 32) dX4_value_198 (by decide) ?_
              show Wp _ _ _ _ _ _ _ _ _ _ _ _ (PostI _ _ _ (some (.int (nI (clP p (evR _ _ m (i + 1) (evS _ _ _)))))) _)
              rw [evS_bin1 (by omega) (by simp at h166 ⊢; omega)]
              exact ih (i + 1) I2 _ _ (by omega) (by simp at hl ⊢; omega) hS hF
            · rcases r with _ | ⟨y, r⟩
              · exact absurd h166 (by simp)
              · exact binR hl hS h66 h115 hi
          · refine r_iload dX4_value_118 rfl ?_
            refine r_zif_le (tgt := 195) dX4_value_120 (by decide) (nz _) (by unfold inZ; omega) (fun h120 => absurd h120 (by simp <;> omega)) (fun h120 => ?_)
            refine r_aload_n dX4_value_123 rfl ?_
            refine r_iload dX4_value_124 rfl ?_
            refine r_iconst (v := 1) dX4_value_126 (by decide) ?_
            refine r_nisub (b := 1) dX4_value_127 rfl rfl (by simp) ?_
            refine r_iload dX4_value_128 rfl ?_
            refine r_bipush (v := (-7)) dX4_value_130 (by decide) ?_
            refine r_zicmp_ne (b := (-7))  (tgt := 145) dX4_value_132 (by decide) rfl (by decide) (tI_inZ _) (by unfold inZ; omega) (fun h132 => ?_) (fun h132 => ?_)
            · refine r_aload_n dX4_value_145 rfl ?_
              refine r_iload dX4_value_146 rfl ?_
              refine r_iconst (v := 1) dX4_value_148 (by decide) ?_
              refine r_nisub (b := 1) dX4_value_149 rfl rfl (by simp) ?_
              refine r_ialdE (j := r.length) dX4_value_150 (hsh.al rfl (by decide)) (by simp at hl; omega) (by simp) hS.top ?_
              refine r_if_ne (tgt := 158) dX4_value_151 (by decide) (fun h151 => ?_) (fun h151 => ?_)
              · refine r_iconst (v := 0) dX4_value_158 (by decide) ?_
                refine r_iast (j := r.length) dX4_value_159 (hsh.al rfl (by decide)) (by simp at hl; omega) (by simp) ?_
                refine r_goto (tgt := 195) dX4_value_160 (by decide) ?_
                refine r_iincE (b := (i + 1)) dX4_value_195 rfl rfl (nI_succ _).symm rfl ?_
                refine r_goto (tgt := 32) dX4_value_198 (by decide) ?_
                show Wp _ _ _ _ _ _ _ _ _ _ _ _ (PostI _ _ _ (some (.int (nI (clP p (evR _ _ m (i + 1) (evS _ _ _)))))) _)
                rw [evS_un (by omega) (by omega), if_neg h132]
                rw [show b2i (decide (x = 0)) = 0 by simp [h151, b2i]]
                have q := ih (i + 1) _ (0 :: r) (.int (zI (mkA I t i))) (by omega) (by simp at hl ⊢; omega) (hS.pop.push _) hF.up
                exact q
              · refine r_iconst (v := 1) dX4_value_154 (by decide) ?_
                refine r_goto (tgt := 159) dX4_value_155 (by decide) ?_
                refine r_iast (j := r.length) dX4_value_159 (hsh.al rfl (by decide)) (by simp at hl; omega) (by simp) ?_
                refine r_goto (tgt := 195) dX4_value_160 (by decide) ?_
                refine r_iincE (b := (i + 1)) dX4_value_195 rfl rfl (nI_succ _).symm rfl ?_
                refine r_goto (tgt := 32) dX4_value_198 (by decide) ?_
                show Wp _ _ _ _ _ _ _ _ _ _ _ _ (PostI _ _ _ (some (.int (nI (clP p (evR _ _ m (i + 1) (evS _ _ _)))))) _)
                rw [evS_un (by omega) (by omega), if_neg h132]
                rw [show b2i (decide (x = 0)) = 1 by simp [h151, b2i]]
                have q := ih (i + 1) _ (1 :: r) (.int (zI (mkA I t i))) (by omega) (by simp at hl ⊢; omega) (hS.pop.push _) hF.up
                exact q
            · refine r_aload_n dX4_value_135 rfl ?_
              refine r_iload dX4_value_136 rfl ?_
              refine r_iconst (v := 1) dX4_value_138 (by decide) ?_
              refine r_nisub (b := 1) dX4_value_139 rfl rfl (by simp) ?_
              refine r_ialdE (j := r.length) dX4_value_140 (hsh.al rfl (by decide)) (by simp at hl; omega) (by simp) hS.top ?_
              refine r_ineg dX4_value_141 ?_
              refine r_goto (tgt := 159) dX4_value_142 (by decide) ?_
              refine r_iast (j := r.length) dX4_value_159 (hsh.al rfl (by decide)) (by simp at hl; omega) (by simp) ?_
              refine r_goto (tgt := 195) dX4_value_160 (by decide) ?_
              refine r_iincE (b := (i + 1)) dX4_value_195 rfl rfl (nI_succ _).symm rfl ?_
              refine r_goto (tgt := 32) dX4_value_198 (by decide) ?_
              show Wp _ _ _ _ _ _ _ _ _ _ _ _ (PostI _ _ _ (some (.int (nI (clP p (evR _ _ m (i + 1) (evS _ _ _)))))) _)
              rw [evS_un (by omega) (by omega), if_pos h132]
              have q := ih (i + 1) _ ((-x) :: r) (.int (zI (mkA I t i))) (by omega) (by simp at hl ⊢; omega) (hS.pop.push _) hF.up
              exact q
      refine r_iload dX4_value_32 rfl ?_
      refine r_aload_n dX4_value_34 rfl ?_
      refine r_getR (b := (t + 2)) dX4_value_35 f_X4_15 (hsh.t0 ht) (Or.inl ⟨_, rfl⟩) (hsh.tr1 ht) (by omega) ?_
      refine r_iload_n dX4_value_38 rfl ?_
      refine r_ialdE (j := p) dX4_value_39 (hsh.t2 ht) hp rfl (show I2 (t + 2) p = nI (en p) by rw [hF _ ht99.2]; exact hen p hp) ?_
      refine r_nicmp_ge  (tgt := 201) dX4_value_40 (by decide) rfl rfl (by omega) (by omega) (fun h40 => absurd h40 (by omega)) (fun h40 => ?_)
      refine r_iload dX4_value_43 rfl ?_
      refine r_aload_n dX4_value_45 rfl ?_
      refine r_getR (b := (t + 1)) dX4_value_46 f_X4_9 (hsh.t0 ht) (Or.inl ⟨_, rfl⟩) (hsh.tr0 ht) (by omega) ?_
      refine r_alen dX4_value_49 (hsh.t1 ht) (Or.inl rfl) ?_
      refine r_nicmp_ge (b := 160)  (tgt := 201) dX4_value_50 (by decide) rfl rfl (by omega) (by omega) (fun h50 => absurd h50 (by omega)) (fun h50 => ?_)
      refine r_aload_n dX4_value_53 rfl ?_
      refine r_getR (b := (t + 1)) dX4_value_54 f_X4_9 (hsh.t0 ht) (Or.inl ⟨_, rfl⟩) (hsh.tr0 ht) (by omega) ?_
      refine r_iload dX4_value_57 rfl ?_
      refine r_ialdE (j := i) dX4_value_59 (hsh.t1 ht) (by omega) rfl (show I2 (t + 1) i = zI (mkA I t i) by rw [hF _ ht99.1]; exact (zI_tI _).symm) ?_
      refine r_istore dX4_value_60 (by decide) rfl ?_
      refine r_iload dX4_value_62 rfl ?_
      refine r_bipush (v := (-7)) dX4_value_64 (by decide) ?_
      refine r_zicmp_le (b := (-7))  (tgt := 111) dX4_value_66 (by decide) rfl (by decide) (tI_inZ _) (by unfold inZ; omega) (fun h66 => ?_) (fun h66 => ?_)
      · exact rest66 h66
      · refine r_iload dX4_value_69 rfl ?_
        refine r_aload_n dX4_value_71 rfl ?_
        refine r_alen dX4_value_72 (hsh.al rfl (by decide)) (Or.inl rfl) ?_
        refine r_nicmp_ge (b := 160)  (tgt := 195) dX4_value_73 (by decide) rfl rfl (by omega) (by omega) (fun h73 => absurd h73 (by omega)) (fun h73 => ?_)
        refine r_aload_n dX4_value_76 rfl ?_
        refine r_iload dX4_value_77 rfl ?_
        refine r_iload dX4_value_79 rfl ?_
        refine r_zif_ge (tgt := 93) dX4_value_81 (by decide) rfl (tI_inZ _) (fun h81 => ?_) (fun h81 => ?_)
        · refine r_iload dX4_value_93 rfl ?_
          refine r_goto (tgt := 104) dX4_value_95 (by decide) ?_
          refine r_iast (j := st.length) dX4_value_104 (hsh.al rfl (by decide)) (by omega) rfl ?_
          refine r_iincE (b := (st.length + 1)) dX4_value_105 rfl rfl (nI_succ _).symm rfl ?_
          refine r_goto (tgt := 195) dX4_value_108 (by decide) ?_
          refine r_iincE (b := (i + 1)) dX4_value_195 rfl rfl (nI_succ _).symm rfl ?_
          refine r_goto (tgt := 32) dX4_value_198 (by decide) ?_
          have e : evS (I 98) (mkA I t i) st = (zI (mkA I t i)) :: st := by rw [evS_push (by omega)]; first | rw [if_pos (by omega)] | rw [if_neg (by omega)]
          show Wp _ _ _ _ _ _ _ _ _ _ _ _ (PostI _ _ _ (some (.int (nI (clP p (evR _ _ m (i + 1) (evS _ _ _)))))) _)
          rw [e]
          exact ih (i + 1) _ ((zI (mkA I t i)) :: st) (.int (zI (mkA I t i))) (by omega) (by simp; omega) (hS.push _) hF.up
        · refine r_iconst (v := (-1)) dX4_value_84 (by decide) ?_
          refine r_iload dX4_value_85 rfl ?_
          refine r_zisub (a := (-1)) dX4_value_87 (by decide) rfl ?_
          refine r_aload_n dX4_value_88 rfl ?_
          refine r_alen dX4_value_89 (hsh.al rfl (by decide)) (Or.inl rfl) ?_
          refine r_zicmp_lt (b := 6)  (tgt := 98) dX4_value_90 (by decide) rfl (by decide) (by have := tI_inZ (I (t + 1) i); unfold inZ mkA at *; omega) (by unfold inZ; omega) (fun h90 => ?_) (fun h90 => absurd h90 (by omega))
          refine r_aload_n dX4_value_98 rfl ?_
          refine r_iconst (v := (-1)) dX4_value_99 (by decide) ?_
          refine r_iload dX4_value_100 rfl ?_
          refine r_zisub (a := (-1)) dX4_value_102 (by decide) rfl ?_
          refine r_ialdE (j := (-1 - mkA I t i).toNat) dX4_value_103 (hsh.al rfl (by decide)) (by omega) (by rw [nz]; congr 1; omega) (show I2 98 (-1 - mkA I t i).toNat = I 98 (-1 - mkA I t i).toNat by rw [hF 98 (by decide)]) ?_
          refine r_iast (j := st.length) dX4_value_104 (hsh.al rfl (by decide)) (by omega) rfl ?_
          refine r_iincE (b := (st.length + 1)) dX4_value_105 rfl rfl (nI_succ _).symm rfl ?_
          refine r_goto (tgt := 195) dX4_value_108 (by decide) ?_
          refine r_iincE (b := (i + 1)) dX4_value_195 rfl rfl (nI_succ _).symm rfl ?_
          refine r_goto (tgt := 32) dX4_value_198 (by decide) ?_
          have e : evS (I 98) (mkA I t i) st = (I 98 (-1 - mkA I t i).toNat) :: st := by rw [evS_push (by omega)]; first | rw [if_pos (by omega)] | rw [if_neg (by omega)]
          show Wp _ _ _ _ _ _ _ _ _ _ _ _ (PostI _ _ _ (some (.int (nI (clP p (evR _ _ m (i + 1) (evS _ _ _)))))) _)
          rw [e]
          exact ih (i + 1) _ ((I 98 (-1 - mkA I t i).toNat) :: st) (.int (zI (mkA I t i))) (by omega) (by simp; omega) (hS.push _) hF.up
  refine r_iload_n dX4_value_0 rfl ?_
  refine r_iconst (v := 3) dX4_value_1 (by decide) ?_
  refine r_callSN2I dX4_value_2 moX6_isBelow (by decide) w_400 (Nat.le_of_ble_eq_true rfl) (Nat.le_of_ble_eq_true rfl) (S_isBelow _ _) ?_
  refine r_ifb_ne (tgt := 11) dX4_value_5 (by decide) (fun h5 => ?_) (fun h5 => by rw [bw_nt (b := 3) (N := 3) rfl (by decide) hp] at h5; cases h5)
  refine r_iconst (v := 0) dX4_value_11 (by decide) ?_
  refine r_istore dX4_value_12 (by decide) rfl ?_
  refine r_iload_n dX4_value_14 rfl ?_
  refine r_zif_ne (tgt := 22) dX4_value_15 (by decide) (nz _) (by unfold inZ; omega) (fun h15 => ?_) (fun h15 => ?_)
  · refine r_aload_n dX4_value_22 rfl ?_
    refine r_getR (b := (t + 2)) dX4_value_23 f_X4_15 (hsh.t0 ht) (Or.inl ⟨_, rfl⟩) (hsh.tr1 ht) (by omega) ?_
    refine r_iload_n dX4_value_26 rfl ?_
    refine r_iconst (v := 1) dX4_value_27 (by decide) ?_
    refine r_nisub (b := 1) dX4_value_28 rfl rfl (by omega) ?_
    refine r_ialdE (j := (p - 1)) dX4_value_29 (hsh.t2 ht) (by omega) rfl (hen (p - 1) (by omega)) ?_
    refine r_istore dX4_value_30 (by decide) rfl ?_
    have ei : i0P en p = en (p - 1) := by unfold i0P; rw [if_neg (by omega)]
    have hle : en (p - 1) ≤ en p := by
      have e : p = 1 ∨ p = 2 := by omega
      rcases e with rfl | rfl <;> assumption
    unfold tvN
    rw [ei]
    exact loop (en p - en (p - 1)) (en (p - 1)) I [] .null (by omega) (Nat.zero_le _) (fun j hj => absurd hj (by simp)) (fun _ _ => rfl)
  · refine r_iconst (v := 0) dX4_value_18 (by decide) ?_
    refine r_goto (tgt := 30) dX4_value_19 (by decide) ?_
    refine r_istore dX4_value_30 (by decide) rfl ?_
    have ei : i0P en p = 0 := by unfold i0P; rw [if_pos (by omega)]
    unfold tvN
    rw [ei]
    exact loop (en p - 0) 0 I [] .null (by omega) (Nat.zero_le _) (fun j hj => absurd hj (by simp)) (fun _ _ => rfl)
