
set_option maxRecDepth 20000 in
set_option maxHeartbeats 4000000 in
theorem S_isUp {g : GP} {d n : Nat} {I : TI} {J : TJ} {R : TR} {s : Nat} {dl : Nat → Nat} {tr : Nat → Nat → Nat} {sz rl : Nat} (hsh : Sh n R) (hs : isSky s) (hA : SkyAt I s dl tr sz rl) (wf : WF dl tr sz rl) {k : Nat} (hk : k < 7) {t : Nat} (ht : t < 200) : Wp g (d + 1) mX3_isUp 0 [.ref s, .int (nI k), .int (nI t), .null, .null] [] 0 0 n I J R (RetI (b2i (upN tr k t)) n I J R) := by
  have b0 := wf.t0 hk
  have b1 := wf.t1 hk
  have b2 := wf.t2 hk
  have b3 := wf.t3 hk
  have b4 := wf.t4 hk
  have b5 := wf.t5 hk
  refine r_iload_n dX3_isUp_0 rfl ?_
  refine r_bipush (v := 7) dX3_isUp_1 (by decide) ?_
  refine r_callSN2I dX3_isUp_3 moX6_isBelow (by decide) w_400 (Nat.le_of_ble_eq_true rfl) (Nat.le_of_ble_eq_true rfl) (S_isBelow _ _) ?_
  refine r_ifb_eq (tgt := 19) dX3_isUp_6 (by decide) (fun h6 => by rw [bw_nt (b := 7) (N := 7) rfl (by decide) hk] at h6; cases h6) (fun h6 => ?_)
  refine r_iload_n dX3_isUp_9 rfl ?_
  refine r_aload_n dX3_isUp_10 rfl ?_
  refine r_getR (b := (s + 5)) dX3_isUp_11 f_X3_26 (hsh.k0 hs) (Or.inl ⟨_, rfl⟩) (hsh.kr4 hs) (by omega) ?_
  refine r_iload_n dX3_isUp_14 rfl ?_
  refine r_ialdE (j := k) dX3_isUp_15 (hsh.k5 hs) hk rfl (hA.t2 hk) ?_
  refine r_nicmp_ge  (tgt := 21) dX3_isUp_16 (by decide) rfl rfl (by omega) (by omega) (fun h16 => ?_) (fun h16 => ?_)
  · refine r_aload_n dX3_isUp_21 rfl ?_
    refine r_getR (b := (s + 3)) dX3_isUp_22 f_X3_20 (hsh.k0 hs) (Or.inl ⟨_, rfl⟩) (hsh.kr2 hs) (by omega) ?_
    refine r_iload_n dX3_isUp_25 rfl ?_
    refine r_ialdE (j := k) dX3_isUp_26 (hsh.k3 hs) hk rfl (hA.t0 hk) ?_
    refine r_istore_n dX3_isUp_27 (by decide) rfl ?_
    refine r_iload_n dX3_isUp_28 rfl ?_
    refine r_aload_n dX3_isUp_29 rfl ?_
    refine r_getR (b := (s + 6)) dX3_isUp_30 f_X3_29 (hsh.k0 hs) (Or.inl ⟨_, rfl⟩) (hsh.kr5 hs) (by omega) ?_
    refine r_iload_n dX3_isUp_33 rfl ?_
    refine r_ialdE (j := k) dX3_isUp_34 (hsh.k6 hs) hk rfl (hA.t3 hk) ?_
    refine r_nicmp_gt  (tgt := 42) dX3_isUp_35 (by decide) rfl rfl (by omega) (by omega) (fun h35 => ?_) (fun h35 => ?_)
    · refine r_iconst (v := 0) dX3_isUp_42 (by decide) ?_
      refine r_istore dX3_isUp_43 (by decide) rfl ?_
      refine r_aload_n dX3_isUp_45 rfl ?_
      refine r_getR (b := (s + 8)) dX3_isUp_46 f_X3_35 (hsh.k0 hs) (Or.inl ⟨_, rfl⟩) (hsh.kr7 hs) (by omega) ?_
      refine r_iload_n dX3_isUp_49 rfl ?_
      refine r_ialdE (j := k) dX3_isUp_50 (hsh.k8 hs) hk rfl (hA.t5 hk) ?_
      have e5 : tr 5 k = 0 ∨ tr 5 k = 1 ∨ tr 5 k = 2 ∨ tr 5 k = 3 ∨ tr 5 k = 4 ∨ tr 5 k = 5 := by omega
      rcases e5 with e5 | e5 | e5 | e5 | e5 | e5
      · refine r_top (v := nI 0) (by rw [e5]) ?_
        refine r_tabOut (tgt := 148) dX3_isUp_51 (by decide) (by decide) ?_
        refine r_iload dX3_isUp_148 rfl ?_
        refine r_bret (b := upN tr k t) dX3_isUp_150 rfl ?_ ?_
        · refine b2i_0 ?_
          unfold upN; first | (rw [if_pos (by omega)]; done) | (rw [if_neg (by omega)]; simp [e5] <;> omega)
        · exact ⟨rfl, rfl, rfl, rfl, rfl⟩
      · refine r_top (v := nI 1) (by rw [e5]) ?_
        refine r_tabIn (tgt := 84) (off := 33) dX3_isUp_51 (by decide) (by decide) (by decide) (by decide) ?_
        refine r_iload dX3_isUp_84 rfl ?_
        refine r_if_eq (tgt := 105) dX3_isUp_86 (by decide) (fun h86 => ?_) (fun h86 => absurd (by decide) h86)
        refine r_iconst (v := 0) dX3_isUp_105 (by decide) ?_
        refine r_bret (b := upN tr k t) dX3_isUp_106 rfl ?_ ?_
        · refine b2i_0 ?_
          unfold upN; first | (rw [if_pos (by omega)]; done) | (rw [if_neg (by omega)]; simp [e5] <;> omega)
        · exact ⟨rfl, rfl, rfl, rfl, rfl⟩
      · refine r_top (v := nI 2) (by rw [e5]) ?_
        refine r_tabIn (tgt := 107) (off := 56) dX3_isUp_51 (by decide) (by decide) (by decide) (by decide) ?_
        refine r_iload_n dX3_isUp_107 rfl ?_
        refine r_aload_n dX3_isUp_108 rfl ?_
        refine r_getR (b := (s + 6)) dX3_isUp_109 f_X3_29 (hsh.k0 hs) (Or.inl ⟨_, rfl⟩) (hsh.kr5 hs) (by omega) ?_
        refine r_iload_n dX3_isUp_112 rfl ?_
        refine r_ialdE (j := k) dX3_isUp_113 (hsh.k6 hs) hk rfl (hA.t3 hk) ?_
        refine r_iload_n dX3_isUp_114 rfl ?_
        refine r_niadd dX3_isUp_115 rfl rfl ?_
        refine r_nicmp_gt  (tgt := 123) dX3_isUp_116 (by decide) rfl rfl (by omega) (by omega) (fun h116 => ?_) (fun h116 => ?_)
        · refine r_iconst (v := 0) dX3_isUp_123 (by decide) ?_
          refine r_bret (b := upN tr k t) dX3_isUp_124 rfl ?_ ?_
          · refine b2i_0 ?_
            unfold upN; first | (rw [if_pos (by omega)]; done) | (rw [if_neg (by omega)]; simp [e5] <;> omega)
          · exact ⟨rfl, rfl, rfl, rfl, rfl⟩
        · refine r_iconst (v := 1) dX3_isUp_119 (by decide) ?_
          refine r_goto (tgt := 124) dX3_isUp_120 (by decide) ?_
          refine r_bret (b := upN tr k t) dX3_isUp_124 rfl ?_ ?_
          · refine b2i_1 ?_
            unfold upN; first | (rw [if_pos (by omega)]; done) | (rw [if_neg (by omega)]; simp [e5] <;> omega)
          · exact ⟨rfl, rfl, rfl, rfl, rfl⟩
      · refine r_top (v := nI 3) (by rw [e5]) ?_
        refine r_tabIn (tgt := 84) (off := 33) dX3_isUp_51 (by decide) (by decide) (by decide) (by decide) ?_
        refine r_iload dX3_isUp_84 rfl ?_
        refine r_if_eq (tgt := 105) dX3_isUp_86 (by decide) (fun h86 => ?_) (fun h86 => absurd (by decide) h86)
        refine r_iconst (v := 0) dX3_isUp_105 (by decide) ?_
        refine r_bret (b := upN tr k t) dX3_isUp_106 rfl ?_ ?_
        · refine b2i_0 ?_
          unfold upN; first | (rw [if_pos (by omega)]; done) | (rw [if_neg (by omega)]; simp [e5] <;> omega)
        · exact ⟨rfl, rfl, rfl, rfl, rfl⟩
      · refine r_top (v := nI 4) (by rw [e5]) ?_
        refine r_tabIn (tgt := 107) (off := 56) dX3_isUp_51 (by decide) (by decide) (by decide) (by decide) ?_
        refine r_iload_n dX3_isUp_107 rfl ?_
        refine r_aload_n dX3_isUp_108 rfl ?_
        refine r_getR (b := (s + 6)) dX3_isUp_109 f_X3_29 (hsh.k0 hs) (Or.inl ⟨_, rfl⟩) (hsh.kr5 hs) (by omega) ?_
        refine r_iload_n dX3_isUp_112 rfl ?_
        refine r_ialdE (j := k) dX3_isUp_113 (hsh.k6 hs) hk rfl (hA.t3 hk) ?_
        refine r_iload_n dX3_isUp_114 rfl ?_
        refine r_niadd dX3_isUp_115 rfl rfl ?_
        refine r_nicmp_gt  (tgt := 123) dX3_isUp_116 (by decide) rfl rfl (by omega) (by omega) (fun h116 => ?_) (fun h116 => ?_)
        · refine r_iconst (v := 0) dX3_isUp_123 (by decide) ?_
          refine r_bret (b := upN tr k t) dX3_isUp_124 rfl ?_ ?_
          · refine b2i_0 ?_
            unfold upN; first | (rw [if_pos (by omega)]; done) | (rw [if_neg (by omega)]; simp [e5] <;> omega)
          · exact ⟨rfl, rfl, rfl, rfl, rfl⟩
        · refine r_iconst (v := 1) dX3_isUp_119 (by decide) ?_
          refine r_goto (tgt := 124) dX3_isUp_120 (by decide) ?_
          refine r_bret (b := upN tr k t) dX3_isUp_124 rfl ?_ ?_
          · refine b2i_1 ?_
            unfold upN; first | (rw [if_pos (by omega)]; done) | (rw [if_neg (by omega)]; simp [e5] <;> omega)
          · exact ⟨rfl, rfl, rfl, rfl, rfl⟩
      · refine r_top (v := nI 5) (by rw [e5]) ?_
        refine r_tabIn (tgt := 125) (off := 74) dX3_isUp_51 (by decide) (by decide) (by decide) (by decide) ?_
        refine r_iload dX3_isUp_125 rfl ?_
        refine r_if_eq (tgt := 146) dX3_isUp_127 (by decide) (fun h127 => ?_) (fun h127 => absurd (by decide) h127)
        refine r_iconst (v := 0) dX3_isUp_146 (by decide) ?_
        refine r_bret (b := upN tr k t) dX3_isUp_147 rfl ?_ ?_
        · refine b2i_0 ?_
          unfold upN; first | (rw [if_pos (by omega)]; done) | (rw [if_neg (by omega)]; simp [e5] <;> omega)
        · exact ⟨rfl, rfl, rfl, rfl, rfl⟩
    · refine r_iconst (v := 1) dX3_isUp_38 (by decide) ?_
      refine r_goto (tgt := 43) dX3_isUp_39 (by decide) ?_
      refine r_istore dX3_isUp_43 (by decide) rfl ?_
      refine r_aload_n dX3_isUp_45 rfl ?_
      refine r_getR (b := (s + 8)) dX3_isUp_46 f_X3_35 (hsh.k0 hs) (Or.inl ⟨_, rfl⟩) (hsh.kr7 hs) (by omega) ?_
      refine r_iload_n dX3_isUp_49 rfl ?_
      refine r_ialdE (j := k) dX3_isUp_50 (hsh.k8 hs) hk rfl (hA.t5 hk) ?_
      have e5 : tr 5 k = 0 ∨ tr 5 k = 1 ∨ tr 5 k = 2 ∨ tr 5 k = 3 ∨ tr 5 k = 4 ∨ tr 5 k = 5 := by omega
      rcases e5 with e5 | e5 | e5 | e5 | e5 | e5
      · refine r_top (v := nI 0) (by rw [e5]) ?_
        refine r_tabOut (tgt := 148) dX3_isUp_51 (by decide) (by decide) ?_
        refine r_iload dX3_isUp_148 rfl ?_
        refine r_bret (b := upN tr k t) dX3_isUp_150 rfl ?_ ?_
        · refine b2i_1 ?_
          unfold upN; first | (rw [if_pos (by omega)]; done) | (rw [if_neg (by omega)]; simp [e5] <;> omega)
        · exact ⟨rfl, rfl, rfl, rfl, rfl⟩
      · refine r_top (v := nI 1) (by rw [e5]) ?_
        refine r_tabIn (tgt := 84) (off := 33) dX3_isUp_51 (by decide) (by decide) (by decide) (by decide) ?_
        refine r_iload dX3_isUp_84 rfl ?_
        refine r_if_eq (tgt := 105) dX3_isUp_86 (by decide) (fun h86 => absurd h86 (by decide)) (fun h86 => ?_)
        refine r_iload_n dX3_isUp_89 rfl ?_
        refine r_aload_n dX3_isUp_90 rfl ?_
        refine r_getR (b := (s + 5)) dX3_isUp_91 f_X3_26 (hsh.k0 hs) (Or.inl ⟨_, rfl⟩) (hsh.kr4 hs) (by omega) ?_
        refine r_iload_n dX3_isUp_94 rfl ?_
        refine r_ialdE (j := k) dX3_isUp_95 (hsh.k5 hs) hk rfl (hA.t2 hk) ?_
        refine r_iload_n dX3_isUp_96 rfl ?_
        refine r_niadd dX3_isUp_97 rfl rfl ?_
        refine r_nicmp_lt  (tgt := 105) dX3_isUp_98 (by decide) rfl rfl (by omega) (by omega) (fun h98 => ?_) (fun h98 => ?_)
        · refine r_iconst (v := 0) dX3_isUp_105 (by decide) ?_
          refine r_bret (b := upN tr k t) dX3_isUp_106 rfl ?_ ?_
          · refine b2i_0 ?_
            unfold upN; first | (rw [if_pos (by omega)]; done) | (rw [if_neg (by omega)]; simp [e5] <;> omega)
          · exact ⟨rfl, rfl, rfl, rfl, rfl⟩
        · refine r_iconst (v := 1) dX3_isUp_101 (by decide) ?_
          refine r_goto (tgt := 106) dX3_isUp_102 (by decide) ?_
          refine r_bret (b := upN tr k t) dX3_isUp_106 rfl ?_ ?_
          · refine b2i_1 ?_
            unfold upN; first | (rw [if_pos (by omega)]; done) | (rw [if_neg (by omega)]; simp [e5] <;> omega)
          · exact ⟨rfl, rfl, rfl, rfl, rfl⟩
      · refine r_top (v := nI 2) (by rw [e5]) ?_
        refine r_tabIn (tgt := 107) (off := 56) dX3_isUp_51 (by decide) (by decide) (by decide) (by decide) ?_
        refine r_iload_n dX3_isUp_107 rfl ?_
        refine r_aload_n dX3_isUp_108 rfl ?_
        refine r_getR (b := (s + 6)) dX3_isUp_109 f_X3_29 (hsh.k0 hs) (Or.inl ⟨_, rfl⟩) (hsh.kr5 hs) (by omega) ?_
        refine r_iload_n dX3_isUp_112 rfl ?_
        refine r_ialdE (j := k) dX3_isUp_113 (hsh.k6 hs) hk rfl (hA.t3 hk) ?_
        refine r_iload_n dX3_isUp_114 rfl ?_
        refine r_niadd dX3_isUp_115 rfl rfl ?_
        refine r_nicmp_gt  (tgt := 123) dX3_isUp_116 (by decide) rfl rfl (by omega) (by omega) (fun h116 => ?_) (fun h116 => ?_)
        · refine r_iconst (v := 0) dX3_isUp_123 (by decide) ?_
          refine r_bret (b := upN tr k t) dX3_isUp_124 rfl ?_ ?_
          · refine b2i_0 ?_
            unfold upN; first | (rw [if_pos (by omega)]; done) | (rw [if_neg (by omega)]; simp [e5] <;> omega)
          · exact ⟨rfl, rfl, rfl, rfl, rfl⟩
        · refine r_iconst (v := 1) dX3_isUp_119 (by decide) ?_
          refine r_goto (tgt := 124) dX3_isUp_120 (by decide) ?_
          refine r_bret (b := upN tr k t) dX3_isUp_124 rfl ?_ ?_
          · refine b2i_1 ?_
            unfold upN; first | (rw [if_pos (by omega)]; done) | (rw [if_neg (by omega)]; simp [e5] <;> omega)
          · exact ⟨rfl, rfl, rfl, rfl, rfl⟩
      · refine r_top (v := nI 3) (by rw [e5]) ?_
        refine r_tabIn (tgt := 84) (off := 33) dX3_isUp_51 (by decide) (by decide) (by decide) (by decide) ?_
        refine r_iload dX3_isUp_84 rfl ?_
        refine r_if_eq (tgt := 105) dX3_isUp_86 (by decide) (fun h86 => absurd h86 (by decide)) (fun h86 => ?_)
        refine r_iload_n dX3_isUp_89 rfl ?_
        refine r_aload_n dX3_isUp_90 rfl ?_
        refine r_getR (b := (s + 5)) dX3_isUp_91 f_X3_26 (hsh.k0 hs) (Or.inl ⟨_, rfl⟩) (hsh.kr4 hs) (by omega) ?_
        refine r_iload_n dX3_isUp_94 rfl ?_
        refine r_ialdE (j := k) dX3_isUp_95 (hsh.k5 hs) hk rfl (hA.t2 hk) ?_
        refine r_iload_n dX3_isUp_96 rfl ?_
        refine r_niadd dX3_isUp_97 rfl rfl ?_
        refine r_nicmp_lt  (tgt := 105) dX3_isUp_98 (by decide) rfl rfl (by omega) (by omega) (fun h98 => ?_) (fun h98 => ?_)
        · refine r_iconst (v := 0) dX3_isUp_105 (by decide) ?_
          refine r_bret (b := upN tr k t) dX3_isUp_106 rfl ?_ ?_
          · refine b2i_0 ?_
            unfold upN; first | (rw [if_pos (by omega)]; done) | (rw [if_neg (by omega)]; simp [e5] <;> omega)
          · exact ⟨rfl, rfl, rfl, rfl, rfl⟩
        · refine r_iconst (v := 1) dX3_isUp_101 (by decide) ?_
          refine r_goto (tgt := 106) dX3_isUp_102 (by decide) ?_
          refine r_bret (b := upN tr k t) dX3_isUp_106 rfl ?_ ?_
          · refine b2i_1 ?_
            unfold upN; first | (rw [if_pos (by omega)]; done) | (rw [if_neg (by omega)]; simp [e5] <;> omega)
          · exact ⟨rfl, rfl, rfl, rfl, rfl⟩
      · refine r_top (v := nI 4) (by rw [e5]) ?_
        refine r_tabIn (tgt := 107) (off := 56) dX3_isUp_51 (by decide) (by decide) (by decide) (by decide) ?_
        refine r_iload_n dX3_isUp_107 rfl ?_
        refine r_aload_n dX3_isUp_108 rfl ?_
        refine r_getR (b := (s + 6)) dX3_isUp_109 f_X3_29 (hsh.k0 hs) (Or.inl ⟨_, rfl⟩) (hsh.kr5 hs) (by omega) ?_
        refine r_iload_n dX3_isUp_112 rfl ?_
        refine r_ialdE (j := k) dX3_isUp_113 (hsh.k6 hs) hk rfl (hA.t3 hk) ?_
        refine r_iload_n dX3_isUp_114 rfl ?_
        refine r_niadd dX3_isUp_115 rfl rfl ?_
        refine r_nicmp_gt  (tgt := 123) dX3_isUp_116 (by decide) rfl rfl (by omega) (by omega) (fun h116 => ?_) (fun h116 => ?_)
        · refine r_iconst (v := 0) dX3_isUp_123 (by decide) ?_
          refine r_bret (b := upN tr k t) dX3_isUp_124 rfl ?_ ?_
          · refine b2i_0 ?_
            unfold upN; first | (rw [if_pos (by omega)]; done) | (rw [if_neg (by omega)]; simp [e5] <;> omega)
          · exact ⟨rfl, rfl, rfl, rfl, rfl⟩
        · refine r_iconst (v := 1) dX3_isUp_119 (by decide) ?_
          refine r_goto (tgt := 124) dX3_isUp_120 (by decide) ?_
          refine r_bret (b := upN tr k t) dX3_isUp_124 rfl ?_ ?_
          · refine b2i_1 ?_
            unfold upN; first | (rw [if_pos (by omega)]; done) | (rw [if_neg (by omega)]; simp [e5] <;> omega)
          · exact ⟨rfl, rfl, rfl, rfl, rfl⟩
      · refine r_top (v := nI 5) (by rw [e5]) ?_
        refine r_tabIn (tgt := 125) (off := 74) dX3_isUp_51 (by decide) (by decide) (by decide) (by decide) ?_
        refine r_iload dX3_isUp_125 rfl ?_
        refine r_if_eq (tgt := 146) dX3_isUp_127 (by decide) (fun h127 => absurd h127 (by decide)) (fun h127 => ?_)
        refine r_iload_n dX3_isUp_130 rfl ?_
        refine r_iload_n dX3_isUp_131 rfl ?_
        refine r_iconst (v := 2) dX3_isUp_132 (by decide) ?_
        refine r_niadd (b := 2) dX3_isUp_133 rfl rfl ?_
        refine r_iconst (v := 2) dX3_isUp_134 (by decide) ?_
        refine r_nmmax (b := 2) dX3_isUp_135 w_481 (Nat.le_of_ble_eq_true rfl) rfl rfl (by omega) (by omega) ?_
        refine r_top (v := nI (tr 0 k + 2)) (by rw [if_neg (by omega)]) ?_
        refine r_nirem dX3_isUp_138 rfl rfl (by omega) (by omega) (by omega) ?_
        refine r_zif_eq (tgt := 146) dX3_isUp_139 (by decide) (nz _) (by have := Nat.mod_lt t (show 0 < tr 0 k + 2 by omega); unfold inZ; omega) (fun h139 => ?_) (fun h139 => ?_)
        · refine r_iconst (v := 0) dX3_isUp_146 (by decide) ?_
          refine r_bret (b := upN tr k t) dX3_isUp_147 rfl ?_ ?_
          · refine b2i_0 ?_
            unfold upN; first | (rw [if_pos (by omega)]; done) | (rw [if_neg (by omega)]; simp [e5] <;> omega)
          · exact ⟨rfl, rfl, rfl, rfl, rfl⟩
        · refine r_iconst (v := 1) dX3_isUp_142 (by decide) ?_
          refine r_goto (tgt := 147) dX3_isUp_143 (by decide) ?_
          refine r_bret (b := upN tr k t) dX3_isUp_147 rfl ?_ ?_
          · refine b2i_1 ?_
            unfold upN; first | (rw [if_pos (by omega)]; done) | (rw [if_neg (by omega)]; simp [e5] <;> omega)
          · exact ⟨rfl, rfl, rfl, rfl, rfl⟩
  · refine r_iconst (v := 0) dX3_isUp_19 (by decide) ?_
    refine r_bret (b := upN tr k t) dX3_isUp_20 rfl ?_ ?_
    · refine b2i_0 ?_
      unfold upN; first | (rw [if_pos (by omega)]; done) | (rw [if_neg (by omega)]; simp [e5] <;> omega)
    · exact ⟨rfl, rfl, rfl, rfl, rfl⟩
set_option maxRecDepth 20000 in
set_option maxHeartbeats 4000000 in
theorem S_isClouded {g : GP} {d n : Nat} {I : TI} {J : TJ} {R : TR} {s : Nat} {dl : Nat → Nat} {tr : Nat → Nat → Nat} {sz rl : Nat} (hsh : Sh n R) (hs : isSky s) (hA : SkyAt I s dl tr sz rl) (wf : WF dl tr sz rl) {k : Nat} (hk : k < 7) {t : Nat} (ht : t < 200) : Wp g (d + 1) mX3_isClouded 0 [.ref s, .int (nI k), .int (nI t), .null] [] 0 0 n I J R (RetI (b2i (clN dl tr k t)) n I J R) := by
  have b0 := wf.t0 hk
  have b1 := wf.t1 hk
  have b2 := wf.t2 hk
  have b3 := wf.t3 hk
  have b4 := wf.t4 hk
  have b5 := wf.t5 hk
  have q0 := wf.d0
  have q1 := wf.d1
  have q2 := wf.d2
  have q3 := wf.d3
  have q4 := wf.d4
  have q5 := wf.d5
  have q6 := wf.d6
  have q7 := wf.d7
  refine r_iload_n dX3_isClouded_0 rfl ?_
  refine r_bipush (v := 7) dX3_isClouded_1 (by decide) ?_
  refine r_callSN2I dX3_isClouded_3 moX6_isBelow (by decide) w_400 (Nat.le_of_ble_eq_true rfl) (Nat.le_of_ble_eq_true rfl) (S_isBelow _ _) ?_
  refine r_ifb_ne (tgt := 11) dX3_isClouded_6 (by decide) (fun h6 => ?_) (fun h6 => by rw [bw_nt (b := 7) (N := 7) rfl (by decide) hk] at h6; cases h6)
  refine r_aload_n dX3_isClouded_11 rfl ?_
  refine r_getR (b := (s + 4)) dX3_isClouded_12 f_X3_23 (hsh.k0 hs) (Or.inl ⟨_, rfl⟩) (hsh.kr3 hs) (by omega) ?_
  refine r_iload_n dX3_isClouded_15 rfl ?_
  refine r_ialdE (j := k) dX3_isClouded_16 (hsh.k4 hs) hk rfl (hA.t1 hk) ?_
  refine r_bipush (v := 10) dX3_isClouded_17 (by decide) ?_
  refine r_nirem (b := 10) dX3_isClouded_19 rfl rfl (by omega) (by omega) (by omega) ?_
  refine r_istore_n dX3_isClouded_20 (by decide) rfl ?_
  refine r_iload_n dX3_isClouded_21 rfl ?_
  refine r_aload_n dX3_isClouded_22 rfl ?_
  refine r_getR (b := (s + 1)) dX3_isClouded_23 f_X3_9 (hsh.k0 hs) (Or.inl ⟨_, rfl⟩) (hsh.kr0 hs) (by omega) ?_
  refine r_iconst (v := 1) dX3_isClouded_26 (by decide) ?_
  refine r_ialdE (j := 1) dX3_isClouded_27 (hsh.k1 hs) (by decide) rfl (hA.d (by decide)) ?_
  refine r_nicmp_lt  (tgt := 65) dX3_isClouded_28 (by decide) rfl rfl (by omega) (by omega) (fun h28 => ?_) (fun h28 => ?_)
  · refine r_iconst (v := 0) dX3_isClouded_65 (by decide) ?_
    refine r_bret (b := clN dl tr k t) dX3_isClouded_66 rfl ?_ ?_
    · refine b2i_0 ?_
      unfold clN; simp <;> omega
    · exact ⟨rfl, rfl, rfl, rfl, rfl⟩
  · refine r_iload_n dX3_isClouded_31 rfl ?_
    refine r_aload_n dX3_isClouded_32 rfl ?_
    refine r_getR (b := (s + 1)) dX3_isClouded_33 f_X3_9 (hsh.k0 hs) (Or.inl ⟨_, rfl⟩) (hsh.kr0 hs) (by omega) ?_
    refine r_iconst (v := 2) dX3_isClouded_36 (by decide) ?_
    refine r_ialdE (j := 2) dX3_isClouded_37 (hsh.k1 hs) (by decide) rfl (hA.d (by decide)) ?_
    refine r_nicmp_gt  (tgt := 65) dX3_isClouded_38 (by decide) rfl rfl (by omega) (by omega) (fun h38 => ?_) (fun h38 => ?_)
    · refine r_iconst (v := 0) dX3_isClouded_65 (by decide) ?_
      refine r_bret (b := clN dl tr k t) dX3_isClouded_66 rfl ?_ ?_
      · refine b2i_0 ?_
        unfold clN; simp <;> omega
      · exact ⟨rfl, rfl, rfl, rfl, rfl⟩
    · refine r_iload_n dX3_isClouded_41 rfl ?_
      refine r_aload_n dX3_isClouded_42 rfl ?_
      refine r_getR (b := (s + 1)) dX3_isClouded_43 f_X3_9 (hsh.k0 hs) (Or.inl ⟨_, rfl⟩) (hsh.kr0 hs) (by omega) ?_
      refine r_iconst (v := 3) dX3_isClouded_46 (by decide) ?_
      refine r_ialdE (j := 3) dX3_isClouded_47 (hsh.k1 hs) (by decide) rfl (hA.d (by decide)) ?_
      refine r_nicmp_lt  (tgt := 65) dX3_isClouded_48 (by decide) rfl rfl (by omega) (by omega) (fun h48 => ?_) (fun h48 => ?_)
      · refine r_iconst (v := 0) dX3_isClouded_65 (by decide) ?_
        refine r_bret (b := clN dl tr k t) dX3_isClouded_66 rfl ?_ ?_
        · refine b2i_0 ?_
          unfold clN; simp <;> omega
        · exact ⟨rfl, rfl, rfl, rfl, rfl⟩
      · refine r_iload_n dX3_isClouded_51 rfl ?_
        refine r_aload_n dX3_isClouded_52 rfl ?_
        refine r_getR (b := (s + 1)) dX3_isClouded_53 f_X3_9 (hsh.k0 hs) (Or.inl ⟨_, rfl⟩) (hsh.kr0 hs) (by omega) ?_
        refine r_iconst (v := 4) dX3_isClouded_56 (by decide) ?_
        refine r_ialdE (j := 4) dX3_isClouded_57 (hsh.k1 hs) (by decide) rfl (hA.d (by decide)) ?_
        refine r_nicmp_gt  (tgt := 65) dX3_isClouded_58 (by decide) rfl rfl (by omega) (by omega) (fun h58 => ?_) (fun h58 => ?_)
        · refine r_iconst (v := 0) dX3_isClouded_65 (by decide) ?_
          refine r_bret (b := clN dl tr k t) dX3_isClouded_66 rfl ?_ ?_
          · refine b2i_0 ?_
            unfold clN; simp <;> omega
          · exact ⟨rfl, rfl, rfl, rfl, rfl⟩
        · refine r_iconst (v := 1) dX3_isClouded_61 (by decide) ?_
          refine r_goto (tgt := 66) dX3_isClouded_62 (by decide) ?_
          refine r_bret (b := clN dl tr k t) dX3_isClouded_66 rfl ?_ ?_
          · refine b2i_1 ?_
            unfold clN; simp <;> omega
          · exact ⟨rfl, rfl, rfl, rfl, rfl⟩
set_option maxRecDepth 20000 in
set_option maxHeartbeats 4000000 in
theorem S_pays {g : GP} {d n : Nat} {I : TI} {J : TJ} {R : TR} {s : Nat} {dl : Nat → Nat} {tr : Nat → Nat → Nat} {sz rl : Nat} (hsh : Sh n R) (hs : isSky s) (hA : SkyAt I s dl tr sz rl) (wf : WF dl tr sz rl) {k : Nat} (hk : k < 7) : Wp g (d + 1) mX3_pays 0 [.ref s, .int (nI k), .null] [] 0 0 n I J R (RetI (nI (payN tr k)) n I J R) := by
  have b0 := wf.t0 hk
  have b1 := wf.t1 hk
  have b2 := wf.t2 hk
  have b3 := wf.t3 hk
  have b4 := wf.t4 hk
  have b5 := wf.t5 hk
  refine r_iload_n dX3_pays_0 rfl ?_
  refine r_bipush (v := 7) dX3_pays_1 (by decide) ?_
  refine r_callSN2I dX3_pays_3 moX6_isBelow (by decide) w_400 (Nat.le_of_ble_eq_true rfl) (Nat.le_of_ble_eq_true rfl) (S_isBelow _ _) ?_
  refine r_ifb_ne (tgt := 11) dX3_pays_6 (by decide) (fun h6 => ?_) (fun h6 => by rw [bw_nt (b := 7) (N := 7) rfl (by decide) hk] at h6; cases h6)
  refine r_aload_n dX3_pays_11 rfl ?_
  refine r_getR (b := (s + 7)) dX3_pays_12 f_X3_32 (hsh.k0 hs) (Or.inl ⟨_, rfl⟩) (hsh.kr6 hs) (by omega) ?_
  refine r_iload_n dX3_pays_15 rfl ?_
  refine r_ialdE (j := k) dX3_pays_16 (hsh.k7 hs) hk rfl (hA.t4 hk) ?_
  refine r_istore_n dX3_pays_17 (by decide) rfl ?_
  refine r_aload_n dX3_pays_18 rfl ?_
  refine r_getR (b := (s + 8)) dX3_pays_19 f_X3_35 (hsh.k0 hs) (Or.inl ⟨_, rfl⟩) (hsh.kr7 hs) (by omega) ?_
  refine r_iload_n dX3_pays_22 rfl ?_
  refine r_ialdE (j := k) dX3_pays_23 (hsh.k8 hs) hk rfl (hA.t5 hk) ?_
  have e5 : tr 5 k = 0 ∨ tr 5 k = 1 ∨ tr 5 k = 2 ∨ tr 5 k = 3 ∨ tr 5 k = 4 ∨ tr 5 k = 5 := by omega
  rcases e5 with e5 | e5 | e5 | e5 | e5 | e5
  · refine r_top (v := nI 0) (by rw [e5]) ?_
    refine r_tabOut (tgt := 80) dX3_pays_24 (by decide) (by decide) ?_
    refine r_iload_n dX3_pays_80 rfl ?_
    refine r_iret dX3_pays_81 rfl ?_
    exact retI (by unfold payN; simp [e5])
  · refine r_top (v := nI 1) (by rw [e5]) ?_
    refine r_tabIn (tgt := 56) (off := 32) dX3_pays_24 (by decide) (by decide) (by decide) (by decide) ?_
    refine r_iload_n dX3_pays_56 rfl ?_
    refine r_aload_n dX3_pays_57 rfl ?_
    refine r_getR (b := (s + 3)) dX3_pays_58 f_X3_20 (hsh.k0 hs) (Or.inl ⟨_, rfl⟩) (hsh.kr2 hs) (by omega) ?_
    refine r_iload_n dX3_pays_61 rfl ?_
    refine r_ialdE (j := k) dX3_pays_62 (hsh.k3 hs) hk rfl (hA.t0 hk) ?_
    refine r_niadd dX3_pays_63 rfl rfl ?_
    refine r_iret dX3_pays_64 rfl ?_
    exact retI (by unfold payN; simp [e5])
  · refine r_top (v := nI 2) (by rw [e5]) ?_
    refine r_tabIn (tgt := 80) (off := 56) dX3_pays_24 (by decide) (by decide) (by decide) (by decide) ?_
    refine r_iload_n dX3_pays_80 rfl ?_
    refine r_iret dX3_pays_81 rfl ?_
    exact retI (by unfold payN; simp [e5])
  · refine r_top (v := nI 3) (by rw [e5]) ?_
    refine r_tabIn (tgt := 65) (off := 41) dX3_pays_24 (by decide) (by decide) (by decide) (by decide) ?_
    refine r_iconst (v := 2) dX3_pays_65 (by decide) ?_
    refine r_iload_n dX3_pays_66 rfl ?_
    refine r_aload_n dX3_pays_67 rfl ?_
    refine r_getR (b := (s + 3)) dX3_pays_68 f_X3_20 (hsh.k0 hs) (Or.inl ⟨_, rfl⟩) (hsh.kr2 hs) (by omega) ?_
    refine r_iload_n dX3_pays_71 rfl ?_
    refine r_ialdE (j := k) dX3_pays_72 (hsh.k3 hs) hk rfl (hA.t0 hk) ?_
    refine r_niadd dX3_pays_73 rfl rfl ?_
    refine r_nimul (a := 2) dX3_pays_74 rfl rfl ?_
    refine r_iret dX3_pays_75 rfl ?_
    exact retI (by unfold payN; simp [e5])
  · refine r_top (v := nI 4) (by rw [e5]) ?_
    refine r_tabIn (tgt := 76) (off := 52) dX3_pays_24 (by decide) (by decide) (by decide) (by decide) ?_
    refine r_iload_n dX3_pays_76 rfl ?_
    refine r_iconst (v := 1) dX3_pays_77 (by decide) ?_
    refine r_niadd (b := 1) dX3_pays_78 rfl rfl ?_
    refine r_iret dX3_pays_79 rfl ?_
    exact retI (by unfold payN; simp [e5])
  · refine r_top (v := nI 5) (by rw [e5]) ?_
    refine r_tabOut (tgt := 80) dX3_pays_24 (by decide) (by decide) ?_
    refine r_iload_n dX3_pays_80 rfl ?_
    refine r_iret dX3_pays_81 rfl ?_
    exact retI (by unfold payN; simp [e5])
set_option maxRecDepth 20000 in
set_option maxHeartbeats 4000000 in
theorem S_needs {g : GP} {d n : Nat} {I : TI} {J : TJ} {R : TR} {s : Nat} {dl : Nat → Nat} {tr : Nat → Nat → Nat} {sz rl : Nat} (hsh : Sh n R) (hs : isSky s) (hA : SkyAt I s dl tr sz rl) (wf : WF dl tr sz rl) {k : Nat} (hk : k < 7) {v : Nat} (hv : v < 100) : Wp g (d + 1) mX3_needs 0 [.ref s, .int (nI k), .int (nI v), .null] [] 0 0 n I J R (RetI (nI (needN dl tr k v)) n I J R) := by
  have b0 := wf.t0 hk
  have b1 := wf.t1 hk
  have b2 := wf.t2 hk
  have b3 := wf.t3 hk
  have b4 := wf.t4 hk
  have b5 := wf.t5 hk
  have q0 := wf.d0
  have q1 := wf.d1
  have q2 := wf.d2
  have q3 := wf.d3
  have q4 := wf.d4
  have q5 := wf.d5
  have q6 := wf.d6
  have q7 := wf.d7
  refine r_iload_n dX3_needs_0 rfl ?_
  refine r_bipush (v := 7) dX3_needs_1 (by decide) ?_
  refine r_callSN2I dX3_needs_3 moX6_isBelow (by decide) w_400 (Nat.le_of_ble_eq_true rfl) (Nat.le_of_ble_eq_true rfl) (S_isBelow _ _) ?_
  refine r_ifb_ne (tgt := 11) dX3_needs_6 (by decide) (fun h6 => ?_) (fun h6 => by rw [bw_nt (b := 7) (N := 7) rfl (by decide) hk] at h6; cases h6)
  refine r_iload_n dX3_needs_11 rfl ?_
  refine r_istore_n dX3_needs_12 (by decide) rfl ?_
  refine r_aload_n dX3_needs_13 rfl ?_
  refine r_getR (b := (s + 8)) dX3_needs_14 f_X3_35 (hsh.k0 hs) (Or.inl ⟨_, rfl⟩) (hsh.kr7 hs) (by omega) ?_
  refine r_iload_n dX3_needs_17 rfl ?_
  refine r_ialdE (j := k) dX3_needs_18 (hsh.k8 hs) hk rfl (hA.t5 hk) ?_
  have e5 : tr 5 k = 0 ∨ tr 5 k = 1 ∨ tr 5 k = 2 ∨ tr 5 k = 3 ∨ tr 5 k = 4 ∨ tr 5 k = 5 := by omega
  rcases e5 with e5 | e5 | e5 | e5 | e5 | e5
  · refine r_top (v := nI 0) (by rw [e5]) ?_
    refine r_tabOut (tgt := 95) dX3_needs_19 (by decide) (by decide) ?_
    refine r_iload_n dX3_needs_95 rfl ?_
    refine r_iconst (v := 1) dX3_needs_96 (by decide) ?_
    refine r_nmmax (b := 1) dX3_needs_97 w_481 (Nat.le_of_ble_eq_true rfl) rfl rfl (by omega) (by omega) ?_
    refine r_iret dX3_needs_100 rfl ?_
    refine retI ?_
    unfold needN
    simp only [e5]
    simp
  · refine r_top (v := nI 1) (by rw [e5]) ?_
    refine r_tabIn (tgt := 48) (off := 29) dX3_needs_19 (by decide) (by decide) (by decide) (by decide) ?_
    refine r_iload_n dX3_needs_48 rfl ?_
    refine r_aload_n dX3_needs_49 rfl ?_
    refine r_getR (b := (s + 1)) dX3_needs_50 f_X3_9 (hsh.k0 hs) (Or.inl ⟨_, rfl⟩) (hsh.kr0 hs) (by omega) ?_
    refine r_iconst (v := 0) dX3_needs_53 (by decide) ?_
    refine r_ialdE (j := 0) dX3_needs_54 (hsh.k1 hs) (by decide) rfl (hA.d (by decide)) ?_
    refine r_niadd dX3_needs_55 rfl rfl ?_
    refine r_istore_n dX3_needs_56 (by decide) rfl ?_
    refine r_goto (tgt := 95) dX3_needs_57 (by decide) ?_
    refine r_iload_n dX3_needs_95 rfl ?_
    refine r_iconst (v := 1) dX3_needs_96 (by decide) ?_
    refine r_nmmax (b := 1) dX3_needs_97 w_481 (Nat.le_of_ble_eq_true rfl) rfl rfl (by omega) (by omega) ?_
    refine r_iret dX3_needs_100 rfl ?_
    refine retI ?_
    unfold needN
    simp only [e5]
    simp
  · refine r_top (v := nI 2) (by rw [e5]) ?_
    refine r_tabIn (tgt := 60) (off := 41) dX3_needs_19 (by decide) (by decide) (by decide) (by decide) ?_
    refine r_iload_n dX3_needs_60 rfl ?_
    refine r_iconst (v := 2) dX3_needs_61 (by decide) ?_
    refine r_nidiv (b := 2) dX3_needs_62 rfl rfl (by omega) (by omega) (by omega) ?_
    refine r_istore_n dX3_needs_63 (by decide) rfl ?_
    refine r_goto (tgt := 95) dX3_needs_64 (by decide) ?_
    refine r_iload_n dX3_needs_95 rfl ?_
    refine r_iconst (v := 1) dX3_needs_96 (by decide) ?_
    refine r_nmmax (b := 1) dX3_needs_97 w_481 (Nat.le_of_ble_eq_true rfl) rfl rfl (by omega) (by omega) ?_
    refine r_iret dX3_needs_100 rfl ?_
    refine retI ?_
    unfold needN
    simp only [e5]
    simp
  · refine r_top (v := nI 3) (by rw [e5]) ?_
    refine r_tabIn (tgt := 67) (off := 48) dX3_needs_19 (by decide) (by decide) (by decide) (by decide) ?_
    refine r_iconst (v := 2) dX3_needs_67 (by decide) ?_
    refine r_iload_n dX3_needs_68 rfl ?_
    refine r_aload_n dX3_needs_69 rfl ?_
    refine r_getR (b := (s + 1)) dX3_needs_70 f_X3_9 (hsh.k0 hs) (Or.inl ⟨_, rfl⟩) (hsh.kr0 hs) (by omega) ?_
    refine r_iconst (v := 0) dX3_needs_73 (by decide) ?_
    refine r_ialdE (j := 0) dX3_needs_74 (hsh.k1 hs) (by decide) rfl (hA.d (by decide)) ?_
    refine r_niadd dX3_needs_75 rfl rfl ?_
    refine r_nimul (a := 2) dX3_needs_76 rfl rfl ?_
    refine r_istore_n dX3_needs_77 (by decide) rfl ?_
    refine r_goto (tgt := 95) dX3_needs_78 (by decide) ?_
    refine r_iload_n dX3_needs_95 rfl ?_
    refine r_iconst (v := 1) dX3_needs_96 (by decide) ?_
    refine r_nmmax (b := 1) dX3_needs_97 w_481 (Nat.le_of_ble_eq_true rfl) rfl rfl (by omega) (by omega) ?_
    refine r_iret dX3_needs_100 rfl ?_
    refine retI ?_
    unfold needN
    simp only [e5]
    simp
  · refine r_top (v := nI 4) (by rw [e5]) ?_
    refine r_tabIn (tgt := 81) (off := 62) dX3_needs_19 (by decide) (by decide) (by decide) (by decide) ?_
    refine r_iload_n dX3_needs_81 rfl ?_
    refine r_iconst (v := 2) dX3_needs_82 (by decide) ?_
    refine r_nidiv (b := 2) dX3_needs_83 rfl rfl (by omega) (by omega) (by omega) ?_
    refine r_aload_n dX3_needs_84 rfl ?_
    refine r_getR (b := (s + 3)) dX3_needs_85 f_X3_20 (hsh.k0 hs) (Or.inl ⟨_, rfl⟩) (hsh.kr2 hs) (by omega) ?_
    refine r_iload_n dX3_needs_88 rfl ?_
    refine r_ialdE (j := k) dX3_needs_89 (hsh.k3 hs) hk rfl (hA.t0 hk) ?_
    refine r_niadd dX3_needs_90 rfl rfl ?_
    refine r_istore_n dX3_needs_91 (by decide) rfl ?_
    refine r_goto (tgt := 95) dX3_needs_92 (by decide) ?_
    refine r_iload_n dX3_needs_95 rfl ?_
    refine r_iconst (v := 1) dX3_needs_96 (by decide) ?_
    refine r_nmmax (b := 1) dX3_needs_97 w_481 (Nat.le_of_ble_eq_true rfl) rfl rfl (by omega) (by omega) ?_
    refine r_iret dX3_needs_100 rfl ?_
    refine retI ?_
    unfold needN
    simp only [e5]
    simp
  · refine r_top (v := nI 5) (by rw [e5]) ?_
    refine r_tabOut (tgt := 95) dX3_needs_19 (by decide) (by decide) ?_
    refine r_iload_n dX3_needs_95 rfl ?_
    refine r_iconst (v := 1) dX3_needs_96 (by decide) ?_
    refine r_nmmax (b := 1) dX3_needs_97 w_481 (Nat.le_of_ble_eq_true rfl) rfl rfl (by omega) (by omega) ?_
    refine r_iret dX3_needs_100 rfl ?_
    refine retI ?_
    unfold needN
    simp only [e5]
    simp
