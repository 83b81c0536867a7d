/-! the model reads and reckons at once -/
def MrQ (n : Nat) (I : TI) (J : TJ) (R : TR) (b : Nat → Nat) (z f : Nat) (nm : Nat → Int32) (op : Nat) (st : LexS) : Prop := Sh n R ∧ MTx I b z f ∧ MRd I J b st ∧ LxOK z st ∧ I 102 24 = nI op ∧ op ≤ 5 ∧ I 102 25 = b2i false ∧ ∀ j, j < 6 → I 102 (12 + j) = nm j
def FrP (I I2 : TI) : Prop := (∀ a, a ≠ 102 → I2 a = I a) ∧ ∀ k, (k < 20 ∨ 26 < k) → I2 102 k = I 102 k
def MrP (n : Nat) (I : TI) (R : TR) (b : Nat → Nat) (z f : Nat) (nm : Nat → Int32) (op : Nat) (r : POut) : TQ := fun rr n2 I2 J2 R2 => n2 = n ∧ R2 = R ∧ FrP I I2 ∧ ((r.1 = true ∧ rr = some (.int (r.2.2.2 nm)) ∧ MrQ n I2 J2 R b z f nm op r.2.1) ∨ (r.1 = false ∧ (∃ v, rr = some (.int v)) ∧ I2 102 25 = b2i true ∧ I2 102 26 = nI r.2.1.1))
def MrC (g : GP) (D : Nat) (M : MD) (ls : List Value) (n : Nat) (R : TR) (b : Nat → Nat) (z f : Nat) (nm : Nat → Int32) (op : Nat) (F : LexS → POut) : Prop := ∀ (I : TI) (J : TJ) (st : LexS), MrQ n I J R b z f nm op st → Wp g D M 0 ls [] 0 0 n I J R (MrP n I R b z f nm op (F st))
theorem FrP.rf {I : TI} : FrP I I := ⟨fun _ _ => rfl, fun _ _ => rfl⟩
theorem FrP.t {I I1 I2 : TI} (h : FrP I I1) (h2 : FrP I1 I2) : FrP I I2 := ⟨fun a ha => (h2.1 a ha).trans (h.1 a ha), fun k hk => (h2.2 k hk).trans (h.2 k hk)⟩
theorem FrP.u {I I2 : TI} (h : FrP I I2) {k : Nat} {v : Int32} (hk : 20 ≤ k ∧ k ≤ 26) : FrP I (up2 I2 102 k v) := ⟨fun a ha => by rw [up2_a _ _ _ ha]; exact h.1 a ha, fun j hj => by rw [up2_k _ _ (by omega)]; exact h.2 j hj⟩
theorem FrLx.p {I I2 : TI} (h : FrLx I I2) : FrP I I2 := ⟨h.1, fun k hk => h.2 k (by omega) (by omega) (by omega)⟩
section XMrQ
variable {n : Nat} {I I2 : TI} {J J2 : TJ} {R : TR} {b : Nat → Nat} {z f op opq : Nat} {nm : Nat → Int32} {st : LexS}
theorem MrQ.sh (h : MrQ n I J R b z f nm op st) : Sh n R := h.1
theorem MrQ.tx (h : MrQ n I J R b z f nm op st) : MTx I b z f := h.2.1
theorem MrQ.rd (h : MrQ n I J R b z f nm op st) : MRd I J b st := h.2.2.1
theorem MrQ.lx (h : MrQ n I J R b z f nm op st) : LxOK z st := h.2.2.2.1
theorem MrQ.opI (h : MrQ n I J R b z f nm op st) : I 102 24 = nI op := h.2.2.2.2.1
theorem MrQ.o5 (h : MrQ n I J R b z f nm op st) : op ≤ 5 := h.2.2.2.2.2.1
theorem MrQ.ok (h : MrQ n I J R b z f nm op st) : I 102 25 = b2i false := h.2.2.2.2.2.2.1
theorem MrQ.nms (h : MrQ n I J R b z f nm op st) : ∀ j, j < 6 → I 102 (12 + j) = nm j := h.2.2.2.2.2.2.2
theorem MrQ.at (h : MrQ n I J R b z f nm op st) : I 102 22 = nI st.1 := h.rd.1
theorem MrQ.here (h : MrQ n I J R b z f nm op st) (h1 : st.2.2.1 ≠ -1) (h2 : st.2.2.1 ≠ -2) : I 102 20 = nI st.2.1 := by
  rcases h.rd.2 with ⟨_, h3⟩ | ⟨_, h3, _⟩ | ⟨_, h3, _⟩ | ⟨_, h3, _⟩ | ⟨_, h3⟩
  · exact absurd h3 h1
  · exact h3
  · exact h3
  · exact h3
  · exact absurd h3 h2
theorem MrQ.nx (h : MrQ n I J R b z f nm op st) (hF : FrLx I I2) (hR : MRd I2 J2 b (avB b z st)) : MrQ n I2 J2 R b z f nm op (avB b z st) := ⟨h.sh, h.tx.f hF, hR, (av_ok (b := b) h.lx).1, (hF.2 24 (by decide) (by decide) (by decide)).trans h.opI, h.o5, (hF.2 25 (by decide) (by decide) (by decide)).trans h.ok, fun j hj => (hF.2 _ (by omega) (by omega) (by omega)).trans (h.nms j hj)⟩
theorem MrQ.opU (h : MrQ n I J R b z f nm opq st) (ho : op ≤ 5) : MrQ n (up2 I 102 24 (nI op)) J R b z f nm op st := by
  have e : ∀ k, k ≠ 24 → up2 I 102 24 (nI op) 102 k = I 102 k := fun k hk => up2_k _ _ hk
  refine ⟨h.sh, ?_, ?_, h.lx, up2_at _ _ _ _, ho, (e 25 (by decide)).trans h.ok, fun j hj => (e _ (by omega)).trans (h.nms j hj)⟩
  · exact ⟨(e 19 (by decide)).trans h.tx.1, h.tx.2.1, (e 18 (by decide)).trans h.tx.2.2.1, h.tx.2.2.2.1, fun j hj => by rw [up2_a _ _ _ (by decide)]; exact h.tx.2.2.2.2 j hj⟩
  · have hr := h.rd
    unfold MRd at *
    rw [e 22 (by decide), e 21 (by decide), e 20 (by decide)]
    exact hr
theorem wcd_k {st : LexS} (h : LxOK z st) {j : Nat} (h6 : 6 ≤ j) (h12 : j < 12) : wcdN st = j ↔ st.2.2.1 = ((252 + j : Nat) : Int) := by
  have h5 := h.2.2.2.2.2.1
  unfold wcdN
  by_cases e : st.2.2.1 = 257
  · rw [if_pos e]
    have := h5 e
    omega
  · rw [if_neg e]
    by_cases e2 : 258 ≤ st.2.2.1 ∧ st.2.2.1 ≤ 263
    · rw [if_pos e2]; omega
    · rw [if_neg e2]; omega
theorem wcd_n {st : LexS} (h : LxOK z st) {j : Nat} (h6 : j < 6) : wcdN st = j ↔ (st.2.2.1 = 257 ∧ st.2.2.2 = j) := by
  unfold wcdN
  by_cases e : st.2.2.1 = 257
  · rw [if_pos e]; exact ⟨fun h => ⟨e, h⟩, fun h => h.2⟩
  · rw [if_neg e]
    by_cases e2 : 258 ≤ st.2.2.1 ∧ st.2.2.1 ≤ 263
    · rw [if_pos e2]; omega
    · rw [if_neg e2]; omega
end XMrQ
theorem loopP_f {av : LexS → LexS} {op : Int → Int} {sub : LexS → POut} {r : POut} (h : r.1 = false) : ∀ F, loopP av op sub F r = r
  | 0 => rfl
  | F + 1 => if_neg (fun h2 => by rw [h] at h2; exact absurd h2.1 (by decide))
theorem loopP_0 {av : LexS → LexS} {op : Int → Int} {sub : LexS → POut} {r : POut} (h : op r.2.1.2.2.1 = 0) : ∀ F, loopP av op sub F r = r
  | 0 => rfl
  | F + 1 => if_neg (fun h2 => h2.2 h)
theorem loopP_s {av : LexS → LexS} {op : Int → Int} {sub : LexS → POut} {r : POut} {m : Int} (h1 : r.1 = true) (h : op r.2.1.2.2.1 = m) (hm : m ≠ 0) (F : Nat) : loopP av op sub (F + 1) r = loopP av op sub F (jnP m r (sub (av r.2.1))) := by
  subst h
  exact if_pos ⟨h1, hm⟩
set_option maxRecDepth 20000 in
set_option maxHeartbeats 4000000 in
theorem S_mOpens1 {g : GP} {d n : Nat} {I : TI} {J : TJ} {R : TR} {b : Nat → Nat} {z f op : Nat} {nm : Nat → Int32} {st : LexS} (hQ : MrQ n I J R b z f nm op st) (ho : op < 5) (h1 : st.2.2.1 ≠ -1) (h2 : st.2.2.1 ≠ -2) : Wp g (d + 2) mX7_opens 0 [.ref 102] [] 0 0 n I J R (PostM n R (some (.int (b2i true))) (fun I2 J2 => FrP I I2 ∧ MrQ n I2 J2 R b z f nm (op + 1) (avB b z st))) := by
  have hsh := hQ.sh
  have hQ1 := hQ.opU (op := op + 1) (by omega)
  refine r_aload_n dX7_opens_0 rfl ?_
  refine r_getIE dX7_opens_1 f_X7_164 (hsh.al rfl (by decide)) (Or.inl rfl) hQ.opI ?_
  refine r_iconst (v := 5) dX7_opens_4 (by decide) ?_
  refine r_nicmp_ne (b := 5)  (tgt := 14) dX7_opens_5 (by decide) rfl rfl (by omega) (by omega) (fun h5 => ?_) (fun h5 => absurd h5 (by omega))
  refine r_aload_n dX7_opens_14 rfl ?_
  refine r_dup dX7_opens_15 rfl ?_
  refine r_getIE dX7_opens_16 f_X7_164 (hsh.al rfl (by decide)) (Or.inl rfl) hQ.opI ?_
  refine r_iconst (v := 1) dX7_opens_19 (by decide) ?_
  refine r_niadd (b := 1) dX7_opens_20 rfl rfl ?_
  refine r_putI dX7_opens_21 f_X7_164 (hsh.al rfl (by decide)) (Or.inl rfl) rfl ?_
  refine r_aload_n dX7_opens_24 rfl ?_
  refine r_callV0N dX7_opens_25 moX7_next w_987 w_989 s_35 (hsh.al rfl (by decide)) cl7 rfl (Nat.le_of_ble_eq_true rfl) (Nat.le_of_ble_eq_true rfl) (S_mNext (b := b) (z := z) (p := st.2.1) hQ1.sh hQ1.tx (hQ1.here h1 h2) hQ1.lx.2.2.1) (fun r n I3 J R hq => ?_)
  obtain ⟨rfl, rfl, rfl, hF, hR⟩ := hq
  refine r_iconst (v := 1) dX7_opens_28 (by decide) ?_
  refine r_bret (b := true) dX7_opens_29 rfl ?_ ?_
  · rfl
  · exact ⟨rfl, rfl, rfl, (FrP.rf.u (by decide)).t hF.p, hQ1.nx hF hR⟩
set_option maxRecDepth 20000 in
set_option maxHeartbeats 4000000 in
theorem S_mOpens0 {g : GP} {d n : Nat} {I : TI} {J : TJ} {R : TR} {b : Nat → Nat} {z f : Nat} {nm : Nat → Int32} {st : LexS} (hQ : MrQ n I J R b z f nm 5 st) : Wp g (d + 2) mX7_opens 0 [.ref 102] [] 0 0 n I J R (RetI (b2i false) n (up2 (up2 I 102 25 1) 102 26 (nI st.1)) J R) := by
  have hsh := hQ.sh
  refine r_aload_n dX7_opens_0 rfl ?_
  refine r_getIE dX7_opens_1 f_X7_164 (hsh.al rfl (by decide)) (Or.inl rfl) hQ.opI ?_
  refine r_iconst (v := 5) dX7_opens_4 (by decide) ?_
  refine r_nicmp_ne (b := 5)  (tgt := 14) dX7_opens_5 (by decide) rfl rfl (by omega) (by omega) (fun h5 => absurd h5 (by omega)) (fun h5 => ?_)
  refine r_aload_n dX7_opens_8 rfl ?_
  refine r_callV0W dX7_opens_9 moX7_fail w_1012 w_1014 s_40 (hsh.al rfl (by decide)) cl7 rfl (Nat.le_of_ble_eq_true rfl) (Nat.le_of_ble_eq_true rfl) (S_mFail0 hsh hQ.ok hQ.at) ?_
  refine r_iconst (v := 0) dX7_opens_12 (by decide) ?_
  refine r_bret (b := false) dX7_opens_13 rfl ?_ ?_
  · rfl
  · exact retI rfl
set_option maxRecDepth 20000 in
set_option maxHeartbeats 4000000 in
theorem S_mName {g : GP} {d n : Nat} {I : TI} {J : TJ} {R : TR} {b : Nat → Nat} {z f op : Nat} {nm : Nat → Int32} {st : LexS} (hQ : MrQ n I J R b z f nm op st) : Wp g (d + 3) mX7_name 0 [.ref 102] [] 0 0 n I J R (if st.2.2.1 = 257 then RetI (nm st.2.2.2) n I J R else RetI 0 n (up2 (up2 I 102 25 1) 102 26 (nI st.1)) J R) := by
  have hsh := hQ.sh
  have hv := hQ.lx.2.2.2.2.2.1
  refine r_aload_n dX7_name_0 rfl ?_
  refine r_bipush (v := 116) dX7_name_1 (by decide) ?_
  refine r_bipush (v := 105) dX7_name_3 (by decide) ?_
  refine r_bipush (v := 99) dX7_name_5 (by decide) ?_
  refine r_bipush (v := 107) dX7_name_7 (by decide) ?_
  refine r_iconst (v := 0) dX7_name_9 (by decide) ?_
  refine r_iconst (v := 0) dX7_name_10 (by decide) ?_
  refine r_iconst (v := 0) dX7_name_11 (by decide) ?_
  refine r_iconst (v := 0) dX7_name_12 (by decide) ?_
  refine r_callV8I dX7_name_13 moX7_isWord w_1000 w_1002 s_37 (hsh.al rfl (by decide)) cl7 rfl (Nat.le_of_ble_eq_true rfl) (Nat.le_of_ble_eq_true rfl) (S_mIsWord (j := 0) hsh hQ.tx hQ.rd hQ.lx hQ.ok (by decide) rfl rfl rfl rfl rfl rfl rfl rfl) ?_
  refine r_ifb_eq (tgt := 24) dX7_name_16 (by decide) (fun h16 => ?_) (fun h16 => ?_)
  · rw [decide_eq_false_iff_not, wcd_n hQ.lx (by decide)] at h16
    refine r_aload_n dX7_name_24 rfl ?_
    refine r_bipush (v := 102) dX7_name_25 (by decide) ?_
    refine r_bipush (v := 97) dX7_name_27 (by decide) ?_
    refine r_bipush (v := 114) dX7_name_29 (by decide) ?_
    refine r_iconst (v := 0) dX7_name_31 (by decide) ?_
    refine r_iconst (v := 0) dX7_name_32 (by decide) ?_
    refine r_iconst (v := 0) dX7_name_33 (by decide) ?_
    refine r_iconst (v := 0) dX7_name_34 (by decide) ?_
    refine r_iconst (v := 0) dX7_name_35 (by decide) ?_
    refine r_callV8I dX7_name_36 moX7_isWord w_1000 w_1002 s_37 (hsh.al rfl (by decide)) cl7 rfl (Nat.le_of_ble_eq_true rfl) (Nat.le_of_ble_eq_true rfl) (S_mIsWord (j := 1) hsh hQ.tx hQ.rd hQ.lx hQ.ok (by decide) rfl rfl rfl rfl rfl rfl rfl rfl) ?_
    refine r_ifb_eq (tgt := 47) dX7_name_39 (by decide) (fun h39 => ?_) (fun h39 => ?_)
    · rw [decide_eq_false_iff_not, wcd_n hQ.lx (by decide)] at h39
      refine r_aload_n dX7_name_47 rfl ?_
      refine r_bipush (v := 109) dX7_name_48 (by decide) ?_
      refine r_bipush (v := 111) dX7_name_50 (by decide) ?_
      refine r_bipush (v := 111) dX7_name_52 (by decide) ?_
      refine r_bipush (v := 110) dX7_name_54 (by decide) ?_
      refine r_iconst (v := 0) dX7_name_56 (by decide) ?_
      refine r_iconst (v := 0) dX7_name_57 (by decide) ?_
      refine r_iconst (v := 0) dX7_name_58 (by decide) ?_
      refine r_iconst (v := 0) dX7_name_59 (by decide) ?_
      refine r_callV8I dX7_name_60 moX7_isWord w_1000 w_1002 s_37 (hsh.al rfl (by decide)) cl7 rfl (Nat.le_of_ble_eq_true rfl) (Nat.le_of_ble_eq_true rfl) (S_mIsWord (j := 2) hsh hQ.tx hQ.rd hQ.lx hQ.ok (by decide) rfl rfl rfl rfl rfl rfl rfl rfl) ?_
      refine r_ifb_eq (tgt := 71) dX7_name_63 (by decide) (fun h63 => ?_) (fun h63 => ?_)
      · rw [decide_eq_false_iff_not, wcd_n hQ.lx (by decide)] at h63
        refine r_aload_n dX7_name_71 rfl ?_
        refine r_bipush (v := 110) dX7_name_72 (by decide) ?_
        refine r_bipush (v := 117) dX7_name_74 (by decide) ?_
        refine r_bipush (v := 109) dX7_name_76 (by decide) ?_
        refine r_bipush (v := 98) dX7_name_78 (by decide) ?_
        refine r_bipush (v := 101) dX7_name_80 (by decide) ?_
        refine r_bipush (v := 114) dX7_name_82 (by decide) ?_
        refine r_iconst (v := 0) dX7_name_84 (by decide) ?_
        refine r_iconst (v := 0) dX7_name_85 (by decide) ?_
        refine r_callV8I dX7_name_86 moX7_isWord w_1000 w_1002 s_37 (hsh.al rfl (by decide)) cl7 rfl (Nat.le_of_ble_eq_true rfl) (Nat.le_of_ble_eq_true rfl) (S_mIsWord (j := 3) hsh hQ.tx hQ.rd hQ.lx hQ.ok (by decide) rfl rfl rfl rfl rfl rfl rfl rfl) ?_
        refine r_ifb_eq (tgt := 97) dX7_name_89 (by decide) (fun h89 => ?_) (fun h89 => ?_)
        · rw [decide_eq_false_iff_not, wcd_n hQ.lx (by decide)] at h89
          refine r_aload_n dX7_name_97 rfl ?_
          refine r_bipush (v := 104) dX7_name_98 (by decide) ?_
          refine r_bipush (v := 101) dX7_name_100 (by decide) ?_
          refine r_bipush (v := 105) dX7_name_102 (by decide) ?_
          refine r_bipush (v := 103) dX7_name_104 (by decide) ?_
          refine r_bipush (v := 104) dX7_name_106 (by decide) ?_
          refine r_bipush (v := 116) dX7_name_108 (by decide) ?_
          refine r_iconst (v := 0) dX7_name_110 (by decide) ?_
          refine r_iconst (v := 0) dX7_name_111 (by decide) ?_
          refine r_callV8I dX7_name_112 moX7_isWord w_1000 w_1002 s_37 (hsh.al rfl (by decide)) cl7 rfl (Nat.le_of_ble_eq_true rfl) (Nat.le_of_ble_eq_true rfl) (S_mIsWord (j := 4) hsh hQ.tx hQ.rd hQ.lx hQ.ok (by decide) rfl rfl rfl rfl rfl rfl rfl rfl) ?_
          refine r_ifb_eq (tgt := 123) dX7_name_115 (by decide) (fun h115 => ?_) (fun h115 => ?_)
          · rw [decide_eq_false_iff_not, wcd_n hQ.lx (by decide)] at h115
            refine r_aload_n dX7_name_123 rfl ?_
            refine r_bipush (v := 111) dX7_name_124 (by decide) ?_
            refine r_bipush (v := 114) dX7_name_126 (by decide) ?_
            refine r_bipush (v := 100) dX7_name_128 (by decide) ?_
            refine r_bipush (v := 101) dX7_name_130 (by decide) ?_
            refine r_bipush (v := 114) dX7_name_132 (by decide) ?_
            refine r_iconst (v := 0) dX7_name_134 (by decide) ?_
            refine r_iconst (v := 0) dX7_name_135 (by decide) ?_
            refine r_iconst (v := 0) dX7_name_136 (by decide) ?_
            refine r_callV8I dX7_name_137 moX7_isWord w_1000 w_1002 s_37 (hsh.al rfl (by decide)) cl7 rfl (Nat.le_of_ble_eq_true rfl) (Nat.le_of_ble_eq_true rfl) (S_mIsWord (j := 5) hsh hQ.tx hQ.rd hQ.lx hQ.ok (by decide) rfl rfl rfl rfl rfl rfl rfl rfl) ?_
            refine r_ifb_eq (tgt := 148) dX7_name_140 (by decide) (fun h140 => ?_) (fun h140 => ?_)
            · rw [decide_eq_false_iff_not, wcd_n hQ.lx (by decide)] at h140
              refine r_aload_n dX7_name_148 rfl ?_
              have hn : ¬ st.2.2.1 = 257 := fun e => by have := hv e; omega
              rw [if_neg hn]
              refine r_callV0W dX7_name_149 moX7_fail w_1012 w_1014 s_40 (hsh.al rfl (by decide)) cl7 rfl (Nat.le_of_ble_eq_true rfl) (Nat.le_of_ble_eq_true rfl) (S_mFail0 hsh hQ.ok hQ.at) ?_
              refine r_iconst (v := 0) dX7_name_152 (by decide) ?_
              refine r_iret dX7_name_153 rfl ?_
              exact retI rfl
            · rw [decide_eq_true_eq, wcd_n hQ.lx (by decide)] at h140
              rw [if_pos h140.1]
              refine r_aload_n dX7_name_143 rfl ?_
              refine r_getIE dX7_name_144 f_X7_192 (hsh.al rfl (by decide)) (Or.inl rfl) (hQ.nms 5 (by decide)) ?_
              refine r_iret dX7_name_147 rfl ?_
              exact retI (by rw [h140.2])
          · rw [decide_eq_true_eq, wcd_n hQ.lx (by decide)] at h115
            rw [if_pos h115.1]
            refine r_aload_n dX7_name_118 rfl ?_
            refine r_getIE dX7_name_119 f_X7_189 (hsh.al rfl (by decide)) (Or.inl rfl) (hQ.nms 4 (by decide)) ?_
            refine r_iret dX7_name_122 rfl ?_
            exact retI (by rw [h115.2])
        · rw [decide_eq_true_eq, wcd_n hQ.lx (by decide)] at h89
          rw [if_pos h89.1]
          refine r_aload_n dX7_name_92 rfl ?_
          refine r_getIE dX7_name_93 f_X7_186 (hsh.al rfl (by decide)) (Or.inl rfl) (hQ.nms 3 (by decide)) ?_
          refine r_iret dX7_name_96 rfl ?_
          exact retI (by rw [h89.2])
      · rw [decide_eq_true_eq, wcd_n hQ.lx (by decide)] at h63
        rw [if_pos h63.1]
        refine r_aload_n dX7_name_66 rfl ?_
        refine r_getIE dX7_name_67 f_X7_183 (hsh.al rfl (by decide)) (Or.inl rfl) (hQ.nms 2 (by decide)) ?_
        refine r_iret dX7_name_70 rfl ?_
        exact retI (by rw [h63.2])
    · rw [decide_eq_true_eq, wcd_n hQ.lx (by decide)] at h39
      rw [if_pos h39.1]
      refine r_aload_n dX7_name_42 rfl ?_
      refine r_getIE dX7_name_43 f_X7_180 (hsh.al rfl (by decide)) (Or.inl rfl) (hQ.nms 1 (by decide)) ?_
      refine r_iret dX7_name_46 rfl ?_
      exact retI (by rw [h39.2])
  · rw [decide_eq_true_eq, wcd_n hQ.lx (by decide)] at h16
    rw [if_pos h16.1]
    refine r_aload_n dX7_name_19 rfl ?_
    refine r_getIE dX7_name_20 f_X7_177 (hsh.al rfl (by decide)) (Or.inl rfl) (hQ.nms 0 (by decide)) ?_
    refine r_iret dX7_name_23 rfl ?_
    exact retI (by rw [h16.2])
set_option maxRecDepth 20000 in
set_option maxHeartbeats 4000000 in
theorem S_mAt110 {g : GP} {d n : Nat} {I : TI} {J : TJ} {R : TR} {b : Nat → Nat} {z f : Nat} {nm : Nat → Int32} {st : LexS} (hQ : MrQ n I J R b z f nm 5 st) (v : Int32) : Wp g (d + 3) mX7_atom 11 [.ref 102, .int v] [] 0 0 n I J R (MrP n I R b z f nm 5 (flP st)) := by
  have hsh := hQ.sh
  refine r_aload_n dX7_atom_11 rfl ?_
  refine r_callV0I dX7_atom_12 moX7_opens w_1028 w_1030 s_44 (hsh.al rfl (by decide)) cl7 rfl (Nat.le_of_ble_eq_true rfl) (Nat.le_of_ble_eq_true rfl) (S_mOpens0 hQ) ?_
  refine r_ifb_eq (tgt := 161) dX7_atom_15 (by decide) (fun h15 => ?_) (fun h15 => absurd h15 (by decide))
  refine r_iload_n dX7_atom_161 rfl ?_
  refine r_iret dX7_atom_162 rfl ?_
  exact ⟨rfl, rfl, (FrP.rf.u (by decide)).u (by decide), Or.inr ⟨rfl, ⟨_, rfl⟩, (up2_k _ _ (by decide)).trans (up2_at _ _ _ _), up2_at _ _ _ _⟩⟩
set_option maxRecDepth 20000 in
set_option maxHeartbeats 4000000 in
theorem S_mAt460 {g : GP} {d n : Nat} {I : TI} {J : TJ} {R : TR} {b : Nat → Nat} {z f : Nat} {nm : Nat → Int32} {st : LexS} (hQ : MrQ n I J R b z f nm 5 st) (v : Int32) : Wp g (d + 3) mX7_atom 46 [.ref 102, .int v] [] 0 0 n I J R (MrP n I R b z f nm 5 (flP st)) := by
  have hsh := hQ.sh
  refine r_aload_n dX7_atom_46 rfl ?_
  refine r_callV0I dX7_atom_47 moX7_opens w_1028 w_1030 s_44 (hsh.al rfl (by decide)) cl7 rfl (Nat.le_of_ble_eq_true rfl) (Nat.le_of_ble_eq_true rfl) (S_mOpens0 hQ) ?_
  refine r_ifb_eq (tgt := 161) dX7_atom_50 (by decide) (fun h50 => ?_) (fun h50 => absurd h50 (by decide))
  refine r_iload_n dX7_atom_161 rfl ?_
  refine r_iret dX7_atom_162 rfl ?_
  exact ⟨rfl, rfl, (FrP.rf.u (by decide)).u (by decide), Or.inr ⟨rfl, ⟨_, rfl⟩, (up2_k _ _ (by decide)).trans (up2_at _ _ _ _), up2_at _ _ _ _⟩⟩
set_option maxRecDepth 20000 in
set_option maxHeartbeats 4000000 in
theorem S_mAt111 {g : GP} {d n : Nat} {I : TI} {J : TJ} {R : TR} {b : Nat → Nat} {z f op : Nat} {nm : Nat → Int32} {st : LexS} (hQ : MrQ n I J R b z f nm op st) (htk : st.2.2.1 = 45) (ho : op < 5) {q : LexS → POut} (hs : MrC g (d + 2) mX7_atom [.ref 102, .null] n R b z f nm (op + 1) q) (v : Int32) : Wp g (d + 3) mX7_atom 11 [.ref 102, .int v] [] 0 0 n I J R (MrP n I R b z f nm op (ngP (q (avB b z st)))) := by
  have hsh := hQ.sh
  refine r_aload_n dX7_atom_11 rfl ?_
  refine r_callV0N dX7_atom_12 moX7_opens w_1028 w_1030 s_44 (hsh.al rfl (by decide)) cl7 rfl (Nat.le_of_ble_eq_true rfl) (Nat.le_of_ble_eq_true rfl) (S_mOpens1 hQ ho (by omega) (by omega)) (fun r n I2 J R hq => ?_)
  obtain ⟨rfl, rfl, rfl, hF2, hQ2⟩ := hq
  refine r_some rfl ?_
  refine r_ifb_eq (tgt := 161) dX7_atom_15 (by decide) (fun h15 => absurd h15 (by decide)) (fun h15 => ?_)
  refine r_aload_n dX7_atom_18 rfl ?_
  refine r_callV0N dX7_atom_19 moX7_atom w_1040 w_1042 s_47 (hsh.al rfl (by decide)) cl7 rfl (Nat.le_of_ble_eq_true rfl) (Nat.le_of_ble_eq_true rfl) (hs _ _ _ hQ2) (fun r n I4 J R hq => ?_)
  obtain ⟨rfl, rfl, hF4, hc⟩ := hq
  rcases hc with ⟨h1, rfl, hQ4⟩ | ⟨h1, ⟨x, rfl⟩, hb, hf⟩
  · refine r_some rfl ?_
    refine r_ineg dX7_atom_22 ?_
    refine r_istore_n dX7_atom_23 (by decide) rfl ?_
    refine r_aload_n dX7_atom_24 rfl ?_
    refine r_dup dX7_atom_25 rfl ?_
    refine r_getIE dX7_atom_26 f_X7_164 (hsh.al rfl (by decide)) (Or.inl rfl) hQ4.opI ?_
    refine r_iconst (v := 1) dX7_atom_29 (by decide) ?_
    refine r_nisub (b := 1) dX7_atom_30 rfl rfl (by omega) ?_
    refine r_putI dX7_atom_31 f_X7_164 (hsh.al rfl (by decide)) (Or.inl rfl) rfl ?_
    refine r_goto (tgt := 161) dX7_atom_34 (by decide) ?_
    refine r_iload_n dX7_atom_161 rfl ?_
    refine r_iret dX7_atom_162 rfl ?_
    rw [Nat.add_sub_cancel]
    exact ⟨rfl, rfl, hF2.t (hF4.u (by decide)), Or.inl ⟨h1, rfl, hQ4.opU (by omega)⟩⟩
  · refine r_some rfl ?_
    refine r_ineg dX7_atom_22 ?_
    refine r_istore_n dX7_atom_23 (by decide) rfl ?_
    refine r_aload_n dX7_atom_24 rfl ?_
    refine r_dup dX7_atom_25 rfl ?_
    refine r_getI dX7_atom_26 f_X7_164 (hsh.al rfl (by decide)) (Or.inl rfl) ?_
    refine r_iconst (v := 1) dX7_atom_29 (by decide) ?_
    refine r_isub dX7_atom_30 ?_
    refine r_putI dX7_atom_31 f_X7_164 (hsh.al rfl (by decide)) (Or.inl rfl) rfl ?_
    refine r_goto (tgt := 161) dX7_atom_34 (by decide) ?_
    refine r_iload_n dX7_atom_161 rfl ?_
    refine r_iret dX7_atom_162 rfl ?_
    exact ⟨rfl, rfl, hF2.t (hF4.u (by decide)), Or.inr ⟨h1, ⟨_, rfl⟩, (up2_k _ _ (by decide)).trans hb, (up2_k _ _ (by decide)).trans hf⟩⟩
set_option maxRecDepth 20000 in
set_option maxHeartbeats 4000000 in
theorem S_mAt461 {g : GP} {d n : Nat} {I : TI} {J : TJ} {R : TR} {b : Nat → Nat} {z f op : Nat} {nm : Nat → Int32} {st : LexS} (hQ : MrQ n I J R b z f nm op st) (htk : st.2.2.1 = 40) (ho : op < 5) {q : LexS → POut} (hs : MrC g (d + 2) mX7_either [.ref 102, .null, .null] n R b z f nm (op + 1) q) (v : Int32) : Wp g (d + 3) mX7_atom 46 [.ref 102, .int v] [] 0 0 n I J R (MrP n I R b z f nm op (endPB (avB b z) 41 (q (avB b z st)))) := by
  have hsh := hQ.sh
  refine r_aload_n dX7_atom_46 rfl ?_
  refine r_callV0N dX7_atom_47 moX7_opens w_1028 w_1030 s_44 (hsh.al rfl (by decide)) cl7 rfl (Nat.le_of_ble_eq_true rfl) (Nat.le_of_ble_eq_true rfl) (S_mOpens1 hQ ho (by omega) (by omega)) (fun r n I2 J R hq => ?_)
  obtain ⟨rfl, rfl, rfl, hF2, hQ2⟩ := hq
  refine r_some rfl ?_
  refine r_ifb_eq (tgt := 161) dX7_atom_50 (by decide) (fun h50 => absurd h50 (by decide)) (fun h50 => ?_)
  refine r_aload_n dX7_atom_53 rfl ?_
  refine r_callV0N dX7_atom_54 moX7_either w_1016 w_1018 s_41 (hsh.al rfl (by decide)) cl7 rfl (Nat.le_of_ble_eq_true rfl) (Nat.le_of_ble_eq_true rfl) (hs _ _ _ hQ2) (fun r n I4 J R hq => ?_)
  obtain ⟨rfl, rfl, hF4, hc⟩ := hq
  rcases hc with ⟨h1, rfl, hQ4⟩ | ⟨h1, ⟨x, rfl⟩, hb, hf⟩
  · refine r_some rfl ?_
    by_cases h41 : (q (avB b z st)).2.1.2.2.1 = 41
    · refine r_istore_n dX7_atom_57 (by decide) rfl ?_
      refine r_aload_n dX7_atom_58 rfl ?_
      refine r_bipush (v := 41) dX7_atom_59 (by decide) ?_
      refine r_top (v := zI 41) (by decide) ?_
      refine r_callV1I dX7_atom_61 moX7_isSign w_1044 w_1046 s_48 (hsh.al rfl (by decide)) cl7 rfl (Nat.le_of_ble_eq_true rfl) (Nat.le_of_ble_eq_true rfl) (S_mIsSign (s := 41) hsh hQ4.rd hQ4.ok (by decide)) ?_
      refine r_ifb_ne (tgt := 71) dX7_atom_64 (by decide) (fun h64 => ?_) (fun h64 => absurd h41 (of_decide_eq_false h64))
      refine r_aload_n dX7_atom_71 rfl ?_
      refine r_dup dX7_atom_72 rfl ?_
      refine r_getIE dX7_atom_73 f_X7_164 (hsh.al rfl (by decide)) (Or.inl rfl) hQ4.opI ?_
      refine r_iconst (v := 1) dX7_atom_76 (by decide) ?_
      refine r_nisub (b := 1) dX7_atom_77 rfl rfl (by omega) ?_
      rw [Nat.add_sub_cancel]
      refine r_putI dX7_atom_78 f_X7_164 (hsh.al rfl (by decide)) (Or.inl rfl) rfl ?_
      have hQ5 := hQ4.opU (op := op) (by omega)
      refine r_aload_n dX7_atom_81 rfl ?_
      refine r_getIE dX7_atom_82 f_X7_155 (hsh.al rfl (by decide)) (Or.inr rfl) hQ5.ok ?_
      refine r_ifb_ne (tgt := 161) dX7_atom_85 (by decide) (fun h85 => absurd h85 (by decide)) (fun h85 => ?_)
      refine r_aload_n dX7_atom_88 rfl ?_
      refine r_callV0N dX7_atom_89 moX7_next w_987 w_989 s_35 (hsh.al rfl (by decide)) cl7 rfl (Nat.le_of_ble_eq_true rfl) (Nat.le_of_ble_eq_true rfl) (S_mNext (b := b) (z := z) (p := (q (avB b z st)).2.1.2.1) hQ5.sh hQ5.tx (hQ5.here (by omega) (by omega)) hQ5.lx.2.2.1) (fun r n I6 J R hq => ?_)
      obtain ⟨rfl, rfl, rfl, hF6, hR6⟩ := hq
      refine r_goto (tgt := 161) dX7_atom_92 (by decide) ?_
      refine r_iload_n dX7_atom_161 rfl ?_
      refine r_iret dX7_atom_162 rfl ?_
      have e : endPB (avB b z) 41 (q (avB b z st)) = (true, avB b z (q (avB b z st)).2.1, (q (avB b z st)).2.2.1, (q (avB b z st)).2.2.2) := if_pos ⟨h1, h41⟩
      rw [e]
      exact ⟨rfl, rfl, hF2.t ((hF4.u (by decide)).t hF6.p), Or.inl ⟨rfl, rfl, hQ5.nx hF6 hR6⟩⟩
    · refine r_istore_n dX7_atom_57 (by decide) rfl ?_
      refine r_aload_n dX7_atom_58 rfl ?_
      refine r_bipush (v := 41) dX7_atom_59 (by decide) ?_
      refine r_top (v := zI 41) (by decide) ?_
      refine r_callV1I dX7_atom_61 moX7_isSign w_1044 w_1046 s_48 (hsh.al rfl (by decide)) cl7 rfl (Nat.le_of_ble_eq_true rfl) (Nat.le_of_ble_eq_true rfl) (S_mIsSign (s := 41) hsh hQ4.rd hQ4.ok (by decide)) ?_
      refine r_ifb_ne (tgt := 71) dX7_atom_64 (by decide) (fun h64 => absurd (of_decide_eq_true h64) h41) (fun h64 => ?_)
      refine r_aload_n dX7_atom_67 rfl ?_
      refine r_callV0W dX7_atom_68 moX7_fail w_1012 w_1014 s_40 (hsh.al rfl (by decide)) cl7 rfl (Nat.le_of_ble_eq_true rfl) (Nat.le_of_ble_eq_true rfl) (S_mFail0 hsh hQ4.ok hQ4.at) ?_
      refine r_aload_n dX7_atom_71 rfl ?_
      refine r_dup dX7_atom_72 rfl ?_
      refine r_getI dX7_atom_73 f_X7_164 (hsh.al rfl (by decide)) (Or.inl rfl) ?_
      refine r_iconst (v := 1) dX7_atom_76 (by decide) ?_
      refine r_isub dX7_atom_77 ?_
      refine r_putI dX7_atom_78 f_X7_164 (hsh.al rfl (by decide)) (Or.inl rfl) rfl ?_
      refine r_aload_n dX7_atom_81 rfl ?_
      refine r_getIE dX7_atom_82 f_X7_155 (hsh.al rfl (by decide)) (Or.inr rfl) (show _ = b2i true from (up2_k _ _ (by decide)).trans ((up2_k _ _ (by decide)).trans (up2_at _ _ _ _))) ?_
      refine r_ifb_ne (tgt := 161) dX7_atom_85 (by decide) (fun h85 => ?_) (fun h85 => absurd h85 (by decide))
      refine r_iload_n dX7_atom_161 rfl ?_
      refine r_iret dX7_atom_162 rfl ?_
      have e : endPB (avB b z) 41 (q (avB b z st)) = (false, (q (avB b z st)).2.1, (q (avB b z st)).2.2.1, (q (avB b z st)).2.2.2) := if_neg (fun h => h41 h.2)
      rw [e]
      exact ⟨rfl, rfl, hF2.t (((hF4.u (by decide)).u (by decide)).u (by decide)), Or.inr ⟨rfl, ⟨_, rfl⟩, (up2_k _ _ (by decide)).trans ((up2_k _ _ (by decide)).trans (up2_at _ _ _ _)), (up2_k _ _ (by decide)).trans (up2_at _ _ _ _)⟩⟩
  · refine r_some rfl ?_
    refine r_istore_n dX7_atom_57 (by decide) rfl ?_
    refine r_aload_n dX7_atom_58 rfl ?_
    refine r_bipush (v := 41) dX7_atom_59 (by decide) ?_
    refine r_callV1I dX7_atom_61 moX7_isSign w_1044 w_1046 s_48 (hsh.al rfl (by decide)) cl7 rfl (Nat.le_of_ble_eq_true rfl) (Nat.le_of_ble_eq_true rfl) (S_mIsSignB hsh hb) ?_
    refine r_ifb_ne (tgt := 71) dX7_atom_64 (by decide) (fun h64 => absurd h64 (by decide)) (fun h64 => ?_)
    refine r_aload_n dX7_atom_67 rfl ?_
    refine r_callV0W dX7_atom_68 moX7_fail w_1012 w_1014 s_40 (hsh.al rfl (by decide)) cl7 rfl (Nat.le_of_ble_eq_true rfl) (Nat.le_of_ble_eq_true rfl) (S_mFail1 hsh hb) ?_
    refine r_aload_n dX7_atom_71 rfl ?_
    refine r_dup dX7_atom_72 rfl ?_
    refine r_getI dX7_atom_73 f_X7_164 (hsh.al rfl (by decide)) (Or.inl rfl) ?_
    refine r_iconst (v := 1) dX7_atom_76 (by decide) ?_
    refine r_isub dX7_atom_77 ?_
    refine r_putI dX7_atom_78 f_X7_164 (hsh.al rfl (by decide)) (Or.inl rfl) rfl ?_
    refine r_aload_n dX7_atom_81 rfl ?_
    refine r_getIE dX7_atom_82 f_X7_155 (hsh.al rfl (by decide)) (Or.inr rfl) ((up2_k _ _ (by decide)).trans hb) ?_
    refine r_ifb_ne (tgt := 161) dX7_atom_85 (by decide) (fun h85 => ?_) (fun h85 => absurd h85 (by decide))
    refine r_iload_n dX7_atom_161 rfl ?_
    refine r_iret dX7_atom_162 rfl ?_
    have e : endPB (avB b z) 41 (q (avB b z st)) = (false, (q (avB b z st)).2.1, (q (avB b z st)).2.2.1, (q (avB b z st)).2.2.2) := if_neg (fun h => by rw [h1] at h; exact absurd h.1 (by decide))
    rw [e]
    exact ⟨rfl, rfl, hF2.t (hF4.u (by decide)), Or.inr ⟨rfl, ⟨_, rfl⟩, (up2_k _ _ (by decide)).trans hb, (up2_k _ _ (by decide)).trans hf⟩⟩
theorem l2i_n {v : Nat} (h : v < 10000) : (lI (v : Nat)).toInt32 = nI v := by
  apply Int32.toInt_inj.mp
  rw [Int64.toInt_toInt32, lI_toInt (by omega), nI_tI (by omega)]
  exact Int.bmod_eq_of_le (by show -(((4294967296 : Nat) : Int) / 2) ≤ _; omega) (by show _ < (((4294967296 : Nat) : Int) + 1) / 2; omega)
set_option maxRecDepth 20000 in
set_option maxHeartbeats 4000000 in
theorem S_mAtom {g : GP} {d n : Nat} {R : TR} {b : Nat → Nat} {z f op : Nat} {nm : Nat → Int32} {o : Lev} (hN : ∀ (I : TI) (J : TJ) (st : LexS), MrQ n I J R b z f nm op st → st.2.2.1 = 45 → Wp g (d + 4) mX7_atom 11 [.ref 102, .int 0] [] 0 0 n I J R (MrP n I R b z f nm op (negO (avB b z) o st))) (hE : ∀ (I : TI) (J : TJ) (st : LexS), MrQ n I J R b z f nm op st → st.2.2.1 = 40 → Wp g (d + 4) mX7_atom 46 [.ref 102, .int 0] [] 0 0 n I J R (MrP n I R b z f nm op (encO (avB b z) o st))) : MrC g (d + 4) mX7_atom [.ref 102, .null] n R b z f nm op (onePB (avB b z) o) := by
  intro I J st hQ
  have hsh := hQ.sh
  rw [oneP_eq]
  refine r_iconst (v := 0) dX7_atom_0 (by decide) ?_
  refine r_istore_n dX7_atom_1 (by decide) rfl ?_
  refine r_aload_n dX7_atom_2 rfl ?_
  refine r_bipush (v := 45) dX7_atom_3 (by decide) ?_
  refine r_top (v := zI 45) (by decide) ?_
  refine r_callV1I dX7_atom_5 moX7_isSign w_1044 w_1046 s_48 (hsh.al rfl (by decide)) cl7 rfl (Nat.le_of_ble_eq_true rfl) (Nat.le_of_ble_eq_true rfl) (S_mIsSign (s := 45) hsh hQ.rd hQ.ok (by decide)) ?_
  refine r_ifb_eq (tgt := 37) dX7_atom_8 (by decide) (fun h8 => ?_) (fun h8 => ?_)
  · have h8 := of_decide_eq_false h8
    rw [if_neg h8]
    refine r_aload_n dX7_atom_37 rfl ?_
    refine r_bipush (v := 40) dX7_atom_38 (by decide) ?_
    refine r_top (v := zI 40) (by decide) ?_
    refine r_callV1I dX7_atom_40 moX7_isSign w_1044 w_1046 s_48 (hsh.al rfl (by decide)) cl7 rfl (Nat.le_of_ble_eq_true rfl) (Nat.le_of_ble_eq_true rfl) (S_mIsSign (s := 40) hsh hQ.rd hQ.ok (by decide)) ?_
    refine r_ifb_eq (tgt := 95) dX7_atom_43 (by decide) (fun h43 => ?_) (fun h43 => ?_)
    · have h43 := of_decide_eq_false h43
      rw [if_neg h43]
      rcases hQ.rd.2 with ⟨h21, htk⟩ | ⟨h21, h20, htk, hva, hlt, hle⟩ | ⟨h21, h20, htk, hJ⟩ | ⟨h21, h20, htk, htk2, hJ⟩ | ⟨h21, htk⟩
      · refine r_aload_n dX7_atom_95 rfl ?_
        refine r_getIE dX7_atom_96 f_X7_155 (hsh.al rfl (by decide)) (Or.inr rfl) hQ.ok ?_
        refine r_ifb_ne (tgt := 123) dX7_atom_99 (by decide) (fun h99 => absurd h99 (by decide)) (fun h99 => ?_)
        refine r_aload_n dX7_atom_102 rfl ?_
        refine r_getIE dX7_atom_103 f_X7_138 (hsh.al rfl (by decide)) (Or.inl rfl) h21 ?_
        refine r_iconst (v := 2) dX7_atom_106 (by decide) ?_
        refine r_nicmp_ne (a := 0) (b := 2)  (tgt := 123) dX7_atom_107 (by decide) rfl rfl (by omega) (by omega) (fun h107 => ?_) (fun h107 => absurd h107 (by omega))
        refine r_aload_n dX7_atom_123 rfl ?_
        refine r_getIE dX7_atom_124 f_X7_155 (hsh.al rfl (by decide)) (Or.inr rfl) hQ.ok ?_
        refine r_ifb_ne (tgt := 157) dX7_atom_127 (by decide) (fun h127 => absurd h127 (by decide)) (fun h127 => ?_)
        refine r_aload_n dX7_atom_130 rfl ?_
        refine r_getIE dX7_atom_131 f_X7_138 (hsh.al rfl (by decide)) (Or.inl rfl) h21 ?_
        refine r_iconst (v := 1) dX7_atom_134 (by decide) ?_
        refine r_nicmp_ne (a := 0) (b := 1)  (tgt := 157) dX7_atom_135 (by decide) rfl rfl (by omega) (by omega) (fun h135 => ?_) (fun h135 => absurd h135 (by omega))
        refine r_aload_n dX7_atom_157 rfl ?_
        rw [if_neg (by omega), if_neg (by omega)]
        refine r_callV0W dX7_atom_158 moX7_fail w_1012 w_1014 s_40 (hsh.al rfl (by decide)) cl7 rfl (Nat.le_of_ble_eq_true rfl) (Nat.le_of_ble_eq_true rfl) (S_mFail0 hsh hQ.ok hQ.at) ?_
        refine r_iload_n dX7_atom_161 rfl ?_
        refine r_iret dX7_atom_162 rfl ?_
        exact ⟨rfl, rfl, (FrP.rf.u (by decide)).u (by decide), Or.inr ⟨rfl, ⟨_, rfl⟩, (up2_k _ _ (by decide)).trans (up2_at _ _ _ _), up2_at _ _ _ _⟩⟩
      · have hn256 : ¬ st.2.2.1 = 256 := by rw [htk]; exact tkW_256 _
        rw [if_neg hn256]
        have sp := S_mName (g := g) (d := d) hQ
        by_cases h257 : st.2.2.1 = 257
        · rw [if_pos h257] at sp ⊢
          refine r_aload_n dX7_atom_95 rfl ?_
          refine r_getIE dX7_atom_96 f_X7_155 (hsh.al rfl (by decide)) (Or.inr rfl) hQ.ok ?_
          refine r_ifb_ne (tgt := 123) dX7_atom_99 (by decide) (fun h99 => absurd h99 (by decide)) (fun h99 => ?_)
          refine r_aload_n dX7_atom_102 rfl ?_
          refine r_getIE dX7_atom_103 f_X7_138 (hsh.al rfl (by decide)) (Or.inl rfl) h21 ?_
          refine r_iconst (v := 2) dX7_atom_106 (by decide) ?_
          refine r_nicmp_ne (a := 1) (b := 2)  (tgt := 123) dX7_atom_107 (by decide) rfl rfl (by omega) (by omega) (fun h107 => ?_) (fun h107 => absurd h107 (by omega))
          refine r_aload_n dX7_atom_123 rfl ?_
          refine r_getIE dX7_atom_124 f_X7_155 (hsh.al rfl (by decide)) (Or.inr rfl) hQ.ok ?_
          refine r_ifb_ne (tgt := 157) dX7_atom_127 (by decide) (fun h127 => absurd h127 (by decide)) (fun h127 => ?_)
          refine r_aload_n dX7_atom_130 rfl ?_
          refine r_getIE dX7_atom_131 f_X7_138 (hsh.al rfl (by decide)) (Or.inl rfl) h21 ?_
          refine r_iconst (v := 1) dX7_atom_134 (by decide) ?_
          refine r_nicmp_ne (a := 1) (b := 1)  (tgt := 157) dX7_atom_135 (by decide) rfl rfl (by omega) (by omega) (fun h135 => absurd h135 (by omega)) (fun h135 => ?_)
          refine r_aload_n dX7_atom_138 rfl ?_
          refine r_callV0I dX7_atom_139 moX7_name w_1048 w_1050 s_49 (hsh.al rfl (by decide)) cl7 rfl (Nat.le_of_ble_eq_true rfl) (Nat.le_of_ble_eq_true rfl) sp ?_
          refine r_istore_n dX7_atom_142 (by decide) rfl ?_
          refine r_aload_n dX7_atom_143 rfl ?_
          refine r_getIE dX7_atom_144 f_X7_155 (hsh.al rfl (by decide)) (Or.inr rfl) hQ.ok ?_
          refine r_ifb_ne (tgt := 161) dX7_atom_147 (by decide) (fun h147 => absurd h147 (by decide)) (fun h147 => ?_)
          refine r_aload_n dX7_atom_150 rfl ?_
          refine r_callV0N dX7_atom_151 moX7_next w_987 w_989 s_35 (hsh.al rfl (by decide)) cl7 rfl (Nat.le_of_ble_eq_true rfl) (Nat.le_of_ble_eq_true rfl) (S_mNext (b := b) (z := z) (p := st.2.1) hQ.sh hQ.tx (hQ.here (by omega) (by omega)) hQ.lx.2.2.1) (fun r n I3 J R hq => ?_)
          obtain ⟨rfl, rfl, rfl, hF, hR⟩ := hq
          refine r_goto (tgt := 161) dX7_atom_154 (by decide) ?_
          refine r_iload_n dX7_atom_161 rfl ?_
          refine r_iret dX7_atom_162 rfl ?_
          exact ⟨rfl, rfl, hF.p, Or.inl ⟨rfl, rfl, hQ.nx hF hR⟩⟩
        · rw [if_neg h257] at sp ⊢
          refine r_aload_n dX7_atom_95 rfl ?_
          refine r_getIE dX7_atom_96 f_X7_155 (hsh.al rfl (by decide)) (Or.inr rfl) hQ.ok ?_
          refine r_ifb_ne (tgt := 123) dX7_atom_99 (by decide) (fun h99 => absurd h99 (by decide)) (fun h99 => ?_)
          refine r_aload_n dX7_atom_102 rfl ?_
          refine r_getIE dX7_atom_103 f_X7_138 (hsh.al rfl (by decide)) (Or.inl rfl) h21 ?_
          refine r_iconst (v := 2) dX7_atom_106 (by decide) ?_
          refine r_nicmp_ne (a := 1) (b := 2)  (tgt := 123) dX7_atom_107 (by decide) rfl rfl (by omega) (by omega) (fun h107 => ?_) (fun h107 => absurd h107 (by omega))
          refine r_aload_n dX7_atom_123 rfl ?_
          refine r_getIE dX7_atom_124 f_X7_155 (hsh.al rfl (by decide)) (Or.inr rfl) hQ.ok ?_
          refine r_ifb_ne (tgt := 157) dX7_atom_127 (by decide) (fun h127 => absurd h127 (by decide)) (fun h127 => ?_)
          refine r_aload_n dX7_atom_130 rfl ?_
          refine r_getIE dX7_atom_131 f_X7_138 (hsh.al rfl (by decide)) (Or.inl rfl) h21 ?_
          refine r_iconst (v := 1) dX7_atom_134 (by decide) ?_
          refine r_nicmp_ne (a := 1) (b := 1)  (tgt := 157) dX7_atom_135 (by decide) rfl rfl (by omega) (by omega) (fun h135 => absurd h135 (by omega)) (fun h135 => ?_)
          refine r_aload_n dX7_atom_138 rfl ?_
          refine r_callV0I dX7_atom_139 moX7_name w_1048 w_1050 s_49 (hsh.al rfl (by decide)) cl7 rfl (Nat.le_of_ble_eq_true rfl) (Nat.le_of_ble_eq_true rfl) sp ?_
          refine r_istore_n dX7_atom_142 (by decide) rfl ?_
          refine r_aload_n dX7_atom_143 rfl ?_
          refine r_getIE dX7_atom_144 f_X7_155 (hsh.al rfl (by decide)) (Or.inr rfl) (show _ = b2i true from (up2_k _ _ (by decide)).trans (up2_at _ _ _ _)) ?_
          refine r_ifb_ne (tgt := 161) dX7_atom_147 (by decide) (fun h147 => ?_) (fun h147 => absurd h147 (by decide))
          refine r_iload_n dX7_atom_161 rfl ?_
          refine r_iret dX7_atom_162 rfl ?_
          exact ⟨rfl, rfl, (FrP.rf.u (by decide)).u (by decide), Or.inr ⟨rfl, ⟨_, rfl⟩, (up2_k _ _ (by decide)).trans (up2_at _ _ _ _), up2_at _ _ _ _⟩⟩
      · rw [if_pos htk]
        refine r_aload_n dX7_atom_95 rfl ?_
        refine r_getIE dX7_atom_96 f_X7_155 (hsh.al rfl (by decide)) (Or.inr rfl) hQ.ok ?_
        refine r_ifb_ne (tgt := 123) dX7_atom_99 (by decide) (fun h99 => absurd h99 (by decide)) (fun h99 => ?_)
        refine r_aload_n dX7_atom_102 rfl ?_
        refine r_getIE dX7_atom_103 f_X7_138 (hsh.al rfl (by decide)) (Or.inl rfl) h21 ?_
        refine r_iconst (v := 2) dX7_atom_106 (by decide) ?_
        refine r_nicmp_ne (a := 2) (b := 2)  (tgt := 123) dX7_atom_107 (by decide) rfl rfl (by omega) (by omega) (fun h107 => absurd h107 (by omega)) (fun h107 => ?_)
        refine r_aload_n dX7_atom_110 rfl ?_
        refine r_getJ dX7_atom_111 f_X7_149 (hsh.al rfl (by decide)) rfl ?_
        refine r_topL hJ ?_
        refine r_l2i dX7_atom_114 ?_
        refine r_top (l2i_n (hQ.lx.2.2.2.2.1 htk)) ?_
        refine r_istore_n dX7_atom_115 (by decide) rfl ?_
        refine r_aload_n dX7_atom_116 rfl ?_
        refine r_callV0N dX7_atom_117 moX7_next w_987 w_989 s_35 (hsh.al rfl (by decide)) cl7 rfl (Nat.le_of_ble_eq_true rfl) (Nat.le_of_ble_eq_true rfl) (S_mNext (b := b) (z := z) (p := st.2.1) hQ.sh hQ.tx (hQ.here (by omega) (by omega)) hQ.lx.2.2.1) (fun r n I3 J R hq => ?_)
        obtain ⟨rfl, rfl, rfl, hF, hR⟩ := hq
        refine r_goto (tgt := 161) dX7_atom_120 (by decide) ?_
        refine r_iload_n dX7_atom_161 rfl ?_
        refine r_iret dX7_atom_162 rfl ?_
        exact ⟨rfl, rfl, hF.p, Or.inl ⟨rfl, rfl, hQ.nx hF hR⟩⟩
      · refine r_aload_n dX7_atom_95 rfl ?_
        refine r_getIE dX7_atom_96 f_X7_155 (hsh.al rfl (by decide)) (Or.inr rfl) hQ.ok ?_
        refine r_ifb_ne (tgt := 123) dX7_atom_99 (by decide) (fun h99 => absurd h99 (by decide)) (fun h99 => ?_)
        refine r_aload_n dX7_atom_102 rfl ?_
        refine r_getIE dX7_atom_103 f_X7_138 (hsh.al rfl (by decide)) (Or.inl rfl) h21 ?_
        refine r_iconst (v := 2) dX7_atom_106 (by decide) ?_
        refine r_nicmp_ne (a := 3) (b := 2)  (tgt := 123) dX7_atom_107 (by decide) rfl rfl (by omega) (by omega) (fun h107 => ?_) (fun h107 => absurd h107 (by omega))
        refine r_aload_n dX7_atom_123 rfl ?_
        refine r_getIE dX7_atom_124 f_X7_155 (hsh.al rfl (by decide)) (Or.inr rfl) hQ.ok ?_
        refine r_ifb_ne (tgt := 157) dX7_atom_127 (by decide) (fun h127 => absurd h127 (by decide)) (fun h127 => ?_)
        refine r_aload_n dX7_atom_130 rfl ?_
        refine r_getIE dX7_atom_131 f_X7_138 (hsh.al rfl (by decide)) (Or.inl rfl) h21 ?_
        refine r_iconst (v := 1) dX7_atom_134 (by decide) ?_
        refine r_nicmp_ne (a := 3) (b := 1)  (tgt := 157) dX7_atom_135 (by decide) rfl rfl (by omega) (by omega) (fun h135 => ?_) (fun h135 => absurd h135 (by omega))
        refine r_aload_n dX7_atom_157 rfl ?_
        rw [if_neg (by omega), if_neg (by omega)]
        refine r_callV0W dX7_atom_158 moX7_fail w_1012 w_1014 s_40 (hsh.al rfl (by decide)) cl7 rfl (Nat.le_of_ble_eq_true rfl) (Nat.le_of_ble_eq_true rfl) (S_mFail0 hsh hQ.ok hQ.at) ?_
        refine r_iload_n dX7_atom_161 rfl ?_
        refine r_iret dX7_atom_162 rfl ?_
        exact ⟨rfl, rfl, (FrP.rf.u (by decide)).u (by decide), Or.inr ⟨rfl, ⟨_, rfl⟩, (up2_k _ _ (by decide)).trans (up2_at _ _ _ _), up2_at _ _ _ _⟩⟩
      · refine r_aload_n dX7_atom_95 rfl ?_
        refine r_getIE dX7_atom_96 f_X7_155 (hsh.al rfl (by decide)) (Or.inr rfl) hQ.ok ?_
        refine r_ifb_ne (tgt := 123) dX7_atom_99 (by decide) (fun h99 => absurd h99 (by decide)) (fun h99 => ?_)
        refine r_aload_n dX7_atom_102 rfl ?_
        refine r_getIE dX7_atom_103 f_X7_138 (hsh.al rfl (by decide)) (Or.inl rfl) h21 ?_
        refine r_iconst (v := 2) dX7_atom_106 (by decide) ?_
        refine r_nicmp_ne (a := 4) (b := 2)  (tgt := 123) dX7_atom_107 (by decide) rfl rfl (by omega) (by omega) (fun h107 => ?_) (fun h107 => absurd h107 (by omega))
        refine r_aload_n dX7_atom_123 rfl ?_
        refine r_getIE dX7_atom_124 f_X7_155 (hsh.al rfl (by decide)) (Or.inr rfl) hQ.ok ?_
        refine r_ifb_ne (tgt := 157) dX7_atom_127 (by decide) (fun h127 => absurd h127 (by decide)) (fun h127 => ?_)
        refine r_aload_n dX7_atom_130 rfl ?_
        refine r_getIE dX7_atom_131 f_X7_138 (hsh.al rfl (by decide)) (Or.inl rfl) h21 ?_
        refine r_iconst (v := 1) dX7_atom_134 (by decide) ?_
        refine r_nicmp_ne (a := 4) (b := 1)  (tgt := 157) dX7_atom_135 (by decide) rfl rfl (by omega) (by omega) (fun h135 => ?_) (fun h135 => absurd h135 (by omega))
        refine r_aload_n dX7_atom_157 rfl ?_
        rw [if_neg (by omega), if_neg (by omega)]
        refine r_callV0W dX7_atom_158 moX7_fail w_1012 w_1014 s_40 (hsh.al rfl (by decide)) cl7 rfl (Nat.le_of_ble_eq_true rfl) (Nat.le_of_ble_eq_true rfl) (S_mFail0 hsh hQ.ok hQ.at) ?_
        refine r_iload_n dX7_atom_161 rfl ?_
        refine r_iret dX7_atom_162 rfl ?_
        exact ⟨rfl, rfl, (FrP.rf.u (by decide)).u (by decide), Or.inr ⟨rfl, ⟨_, rfl⟩, (up2_k _ _ (by decide)).trans (up2_at _ _ _ _), up2_at _ _ _ _⟩⟩
    · have h43 := of_decide_eq_true h43
      rw [if_pos h43]
      exact hE _ _ _ hQ h43
  · have h8 := of_decide_eq_true h8
    rw [if_pos h8]
    exact hN _ _ _ hQ h8
