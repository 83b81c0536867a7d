/-! the class's reader: what is read, by what it comes to -/
def addI (I : TI) (t s : Nat) (v : Int32) : TI := if s < 160 then up2 (up2 I (t + 1) s v) t 2 (nI (s + 1)) else I
section XAd
variable {I : TI} {t s a j : Nat} {v : Int32}
theorem addI_o (h1 : a ≠ t) (h2 : a ≠ t + 1) : addI I t s v a = I a := by
  unfold addI
  split
  · rw [up2_a _ _ _ h1, up2_a _ _ _ h2]
  · rfl
theorem addI_s (h : s < 160) : addI I t s v t 2 = nI (s + 1) := by unfold addI; rw [if_pos h, up2_at]
theorem addI_p (h : j ≠ s) : addI I t s v (t + 1) j = I (t + 1) j := by
  unfold addI
  split
  · rw [up2_a _ _ _ (by omega), up2_k _ _ h]
  · rfl
theorem addI_v (h : s < 160) : addI I t s v (t + 1) s = v := by unfold addI; rw [if_pos h, up2_a _ _ _ (by omega), up2_at]
theorem addI_z (h : s ≤ 160) (hI : I t 2 = nI s) : ∃ s2, s2 ≤ 160 ∧ addI I t s v t 2 = nI s2 := by
  by_cases h1 : s < 160
  · exact ⟨s + 1, h1, addI_s h1⟩
  · exact ⟨s, h, by unfold addI; rw [if_neg h1]; exact hI⟩
end XAd
theorem gD_1 {α : Type} {a b : List α} {j : Nat} {d : α} (h : j < a.length) : (a ++ b).getD j d = a.getD j d := by
  rw [List.getD_eq_getElem?_getD, List.getD_eq_getElem?_getD, List.getElem?_append_left h]
theorem gD_2 {α : Type} {a b : List α} {j : Nat} {d : α} (h : a.length ≤ j) : (a ++ b).getD j d = b.getD (j - a.length) d := by
  rw [List.getD_eq_getElem?_getD, List.getD_eq_getElem?_getD, List.getElem?_append_right h]
def RdQ (n : Nat) (I : TI) (R : TR) (b : Nat → Nat) (z t op sz : Nat) (st : LexS) : Prop := Shw n R ∧ isText t ∧ R 64 2 = t ∧ TpOK I b z ∧ STR I ∧ RdS I st ∧ LxOK z st ∧ I 64 7 = nI op ∧ op ≤ 5 ∧ I t 2 = nI sz ∧ sz ≤ st.1
def RdP (t : Nat) (I I2 : TI) (op sz : Nat) (r : POut) : Prop := (∀ a, a ≠ 64 → a ≠ t → a ≠ t + 1 → I2 a = I a) ∧ I2 64 1 = I 64 1 ∧ (∃ s2, s2 ≤ 160 ∧ I2 t 2 = nI s2) ∧ I2 64 3 = nI r.2.1.1 ∧ (r.1 = true → RdS I2 r.2.1 ∧ I2 64 7 = nI op ∧ I2 t 2 = nI (sz + r.2.2.1.length) ∧ (∀ j, j < sz → I2 (t + 1) j = I (t + 1) j) ∧ ∀ j, j < r.2.2.1.length → I2 (t + 1) (sz + j) = r.2.2.1.getD j 0)
theorem text_ge {t : Nat} (h : isText t) : 66 ≤ t := by unfold isText at h; omega
section XRq
variable {n : Nat} {I I1 I2 I3 Iq : TI} {R : TR} {b : Nat → Nat} {z t op opq sz : Nat} {st : LexS} {r q : POut}
theorem RdQ.sh (h : RdQ n I R b z t op sz st) : Shw n R := h.1
theorem RdQ.tx (h : RdQ n I R b z t op sz st) : isText t := h.2.1
theorem RdQ.r2 (h : RdQ n I R b z t op sz st) : R 64 2 = t := h.2.2.1
theorem RdQ.tp (h : RdQ n I R b z t op sz st) : TpOK I b z := h.2.2.2.1
theorem RdQ.str (h : RdQ n I R b z t op sz st) : STR I := h.2.2.2.2.1
theorem RdQ.rd (h : RdQ n I R b z t op sz st) : RdS I st := h.2.2.2.2.2.1
theorem RdQ.lx (h : RdQ n I R b z t op sz st) : LxOK z st := h.2.2.2.2.2.2.1
theorem RdQ.opI (h : RdQ n I R b z t op sz st) : I 64 7 = nI op := h.2.2.2.2.2.2.2.1
theorem RdQ.o5 (h : RdQ n I R b z t op sz st) : op ≤ 5 := h.2.2.2.2.2.2.2.2.1
theorem RdQ.szI (h : RdQ n I R b z t op sz st) : I t 2 = nI sz := h.2.2.2.2.2.2.2.2.2.1
theorem RdQ.le (h : RdQ n I R b z t op sz st) : sz ≤ st.1 := h.2.2.2.2.2.2.2.2.2.2
theorem RdQ.bd (h : RdQ n I R b z t op sz st) : -2 ≤ st.2.2.1 ∧ st.2.2.1 < 300 := h.lx.2.2.2.2.2.2
theorem RdQ.z160 (h : RdQ n I R b z t op sz st) : sz ≤ 160 := Nat.le_trans h.le (Nat.le_trans h.lx.1 h.tp.2.1)
theorem RdQ.av (h : RdQ n I R b z t op sz st) (hF : RdF I I1) (hS : RdS I1 (avB b z st)) : RdQ n I1 R b z t op sz (avB b z st) := by
  have ht := text_ge h.tx
  have ha := av_ok (b := b) h.lx
  exact ⟨h.sh, h.tx, h.r2, h.tp.f hF, h.str.f hF, hS, ha.1, (hF.2 7 (by decide) (by decide) (by decide) (by decide)).trans h.opI, h.o5, by rw [hF.1 t (by omega)]; exact h.szI, Nat.le_trans h.le ha.2.1⟩
theorem RdQ.opU (h : RdQ n I R b z t opq sz st) (ho : op ≤ 5) : RdQ n (up2 I 64 7 (nI op)) R b z t op sz st := by
  have ht := text_ge h.tx
  refine ⟨h.sh, h.tx, h.r2, ⟨(up2_k _ _ (by decide)).trans h.tp.1, h.tp.2.1, fun j hj => by rw [up2_a _ _ _ (by decide)]; exact h.tp.2.2 j hj⟩, h.str.fr fun a ha => up2_a _ _ _ (by omega), ?_, h.lx, up2_at _ _ _ _, ho, by rw [up2_a _ _ _ (by omega)]; exact h.szI, h.le⟩
  obtain ⟨g1, g2, g3, g4⟩ := h.rd
  exact ⟨(up2_k _ _ (by decide)).trans g1, (up2_k _ _ (by decide)).trans g2, (up2_k _ _ (by decide)).trans g3, fun e => (up2_k _ _ (by decide)).trans (g4 e)⟩
theorem RdQ.go (h : RdQ n I R b z t opq sz st) (ho : op ≤ 5) (hr : PGr z st r) (hP : RdP t I I2 op sz r) (h1 : r.1 = true) : RdQ n I2 R b z t op (sz + r.2.2.1.length) r.2.1 := by
  have ht := text_ge h.tx
  obtain ⟨p1, p2, p3, p4, p5⟩ := hP
  obtain ⟨q1, q2, q3, q4, q5⟩ := p5 h1
  have hl := (hr.2.2 h1).1
  have hle := h.le
  have htx := h.tx
  refine ⟨h.sh, h.tx, h.r2, ⟨p2.trans h.tp.1, h.tp.2.1, fun j hj => ?_⟩, h.str.fr fun a ha => p1 a (by omega) (by omega) (by omega), q1, hr.1, q2, ho, q3, by omega⟩
  rw [p1 65 (by decide) (by omega) (by unfold isText at htx; omega)]
  exact h.tp.2.2 j hj
theorem RdP.fl (h : RdQ n I R b z t op sz st) : RdP t I I op sz (flP st) := ⟨fun _ _ _ _ => rfl, rfl, ⟨sz, h.z160, h.szI⟩, h.rd.1, fun e => absurd e Bool.false_ne_true⟩
/-- behind a sub-reading: what it came to, and one mark more -/
theorem RdP.mk2 (ht : isText t) {ms0 : List Int32} (hA : ∀ a, a ≠ 64 → a ≠ t → a ≠ t + 1 → Iq a = I a) (hA1 : Iq 64 1 = I 64 1) (hB : ∀ j, j < sz → Iq (t + 1) j = I (t + 1) j) (hC : ∀ j, j < ms0.length → Iq (t + 1) (sz + j) = ms0.getD j 0)
    (hq : RdP t Iq I2 opq (sz + ms0.length) q) (h3 : ∀ a, a ≠ 64 → I3 a = I2 a) (h37 : ∀ j, j ≠ 7 → I3 64 j = I2 64 j) (h3o : q.1 = true → I3 64 7 = nI op) (hcap : q.1 = true → sz + ms0.length + q.2.2.1.length < 160) {s2 : Nat} (hs2 : s2 ≤ 160) (e2 : I2 t 2 = nI s2) {v : Int32} {r2 : POut} (hr1 : r2.1 = q.1) (hr2 : r2.2.1 = q.2.1) (hr3 : r2.2.2.1 = ms0 ++ q.2.2.1 ++ [v]) : RdP t I (addI I3 t s2 v) op sz r2 := by
  have htg := text_ge ht
  obtain ⟨p1, p2, p3, p4, p5⟩ := hq
  refine ⟨fun a a1 a2 a3 => by rw [addI_o a2 a3, h3 a a1, p1 a a1 a2 a3, hA a a1 a2 a3], by rw [addI_o (by omega) (by omega), h37 1 (by decide), p2, hA1], addI_z hs2 (by rw [h3 t (by omega)]; exact e2), by rw [addI_o (by omega) (by omega), h37 3 (by decide), p4, hr2], fun hok => ?_⟩
  rw [hr1] at hok
  obtain ⟨q1, q2, q3, q4, q5⟩ := p5 hok
  have hc := hcap hok
  have es : s2 = sz + ms0.length + q.2.2.1.length := (nI_eq (by omega) (by omega)).mp (e2.symm.trans q3)
  have hlt : s2 < 160 := by omega
  refine ⟨?_, ?_, ?_, fun j hj => ?_, fun j hj => ?_⟩
  · rw [hr2]
    obtain ⟨g1, g2, g3, g4⟩ := q1
    unfold RdS
    rw [addI_o (by omega) (by omega), h37 3 (by decide), h37 4 (by decide), h37 5 (by decide), h37 6 (by decide)]
    exact ⟨g1, g2, g3, g4⟩
  · rw [addI_o (by omega) (by omega)]; exact h3o hok
  · rw [addI_s hlt, hr3, List.length_append, List.length_append, es]
    congr 1
    show sz + ms0.length + q.2.2.1.length + 1 = sz + (ms0.length + q.2.2.1.length + 1)
    omega
  · rw [addI_p (by omega), h3 _ (by omega), q4 j (by omega), hB j hj]
  · rw [hr3] at hj ⊢
    rw [List.length_append, List.length_append] at hj
    have hj2 : j < ms0.length + q.2.2.1.length + 1 := hj
    by_cases c1 : j < ms0.length
    · rw [addI_p (by omega), h3 _ (by omega), q4 _ (by omega), hC j c1, gD_1 (by rw [List.length_append]; omega), gD_1 c1]
    · by_cases c2 : j < ms0.length + q.2.2.1.length
      · rw [addI_p (by omega), h3 _ (by omega), show sz + j = sz + ms0.length + (j - ms0.length) by omega, q5 _ (by omega), gD_1 (by rw [List.length_append]; omega), gD_2 (by omega)]
      · rw [show sz + j = s2 by omega, addI_v hlt, gD_2 (by rw [List.length_append]; omega), List.length_append, show j - (ms0.length + q.2.2.1.length) = 0 by omega]
        rfl
theorem RdP.jn (ht : isText t) (hr : RdP t I I1 op sz r) (h1 : r.1 = true) (hF : RdF I1 Iq) (hq : RdP t Iq I2 op (sz + r.2.2.1.length) q) (hcap : q.1 = true → sz + r.2.2.1.length + q.2.2.1.length < 160) {s2 : Nat} (hs2 : s2 ≤ 160) (e2 : I2 t 2 = nI s2) {m : Int} : RdP t I (addI I2 t s2 (zI m)) op sz (jnP m r q) := by
  have htg := text_ge ht
  obtain ⟨p1, p2, p3, p4, p5⟩ := hr
  obtain ⟨q1, q2, q3, q4, q5⟩ := p5 h1
  exact RdP.mk2 ht (fun a a1 a2 a3 => (hF.1 a a1).trans (p1 a a1 a2 a3)) ((hF.2 1 (by decide) (by decide) (by decide) (by decide)).trans p2) (fun j hj => by rw [hF.1 _ (by omega)]; exact q4 j hj) (fun j hj => by rw [hF.1 _ (by omega)]; exact q5 j hj) hq (fun _ _ => rfl) (fun _ _ => rfl) (fun h => ((hq.2.2.2.2 h).2.1)) hcap hs2 e2 rfl rfl rfl
theorem RdP.un (ht : isText t) (hA : ∀ a, a ≠ 64 → Iq a = I a) (hA1 : Iq 64 1 = I 64 1) (hq : RdP t Iq I2 opq sz q) (h3 : ∀ a, a ≠ 64 → I3 a = I2 a) (h37 : ∀ j, j ≠ 7 → I3 64 j = I2 64 j) (h3o : q.1 = true → I3 64 7 = nI op) (hcap : q.1 = true → sz + q.2.2.1.length < 160) {s2 : Nat} (hs2 : s2 ≤ 160) (e2 : I2 t 2 = nI s2) {v : Int32} {r2 : POut} (hr1 : r2.1 = q.1) (hr2 : r2.2.1 = q.2.1) (hr3 : r2.2.2.1 = q.2.2.1 ++ [v]) : RdP t I (addI I3 t s2 v) op sz r2 := by
  have htg := text_ge ht
  exact RdP.mk2 (ms0 := []) ht (fun a a1 _ _ => hA a a1) hA1 (fun j hj => by rw [hA _ (by omega)]) (fun j hj => absurd hj (by show ¬ j < 0; omega)) hq h3 h37 h3o hcap hs2 e2 hr1 hr2 hr3
theorem RdP.enc (ht : isText t) (hA : ∀ a, a ≠ 64 → Iq a = I a) (hA1 : Iq 64 1 = I 64 1) (hq : RdP t Iq I2 opq sz q) (h3 : ∀ a, a ≠ 64 → I3 a = I2 a) (h31 : I3 64 1 = I2 64 1) {r2 : POut} (hm : r2.2.2.1 = q.2.2.1) (h13 : I3 64 3 = nI r2.2.1.1) (hok : r2.1 = true → q.1 = true ∧ RdS I3 r2.2.1 ∧ I3 64 7 = nI op) : RdP t I I3 op sz r2 := by
  have htg := text_ge ht
  obtain ⟨p1, p2, ⟨s2, p3, p3b⟩, p4, p5⟩ := hq
  refine ⟨fun a a1 a2 a3 => by rw [h3 a a1, p1 a a1 a2 a3, hA a a1], by rw [h31, p2, hA1], ⟨s2, p3, by rw [h3 t (by omega)]; exact p3b⟩, h13, fun h => ?_⟩
  obtain ⟨k1, k2, k3⟩ := hok h
  obtain ⟨q1, q2, q3, q4, q5⟩ := p5 k1
  exact ⟨k2, k3, by rw [h3 t (by omega), hm]; exact q3, fun j hj => by rw [h3 _ (by omega), q4 j hj, hA _ (by omega)], fun j hj => by rw [h3 _ (by omega)]; rw [hm] at hj ⊢; exact q5 j hj⟩
theorem RdP.leaf (h : RdQ n I R b z t op sz st) (hlt : sz < 160) {v : Int32} (hF : RdF (addI I t sz v) I2) (hS : RdS I2 (avB b z st)) {f : (Nat → Int32) → Int32} : RdP t I I2 op sz (true, avB b z st, [v], f) := by
  have htg := text_ge h.tx
  refine ⟨fun a a1 a2 a3 => by rw [hF.1 a a1, addI_o a2 a3], by rw [hF.2 1 (by decide) (by decide) (by decide) (by decide), addI_o (by omega) (by omega)], ⟨sz + 1, hlt, by rw [hF.1 t (by omega), addI_s hlt]⟩, hS.1, fun _ => ⟨hS, by rw [hF.2 7 (by decide) (by decide) (by decide) (by decide), addI_o (by omega) (by omega)]; exact h.opI, by rw [hF.1 t (by omega), addI_s hlt]; rfl, fun j hj => by rw [hF.1 _ (by omega), addI_p (by omega)], fun j hj => ?_⟩⟩
  have e : j = 0 := by have : j < 1 := hj; omega
  subst e
  show I2 (t + 1) sz = v
  rw [hF.1 _ (by omega), addI_v hlt]
end XRq
def RdC (g : GP) (D : Nat) (M : MD) (ls : List Value) (n : Nat) (J : TJ) (R : TR) (b : Nat → Nat) (z t op : Nat) (f : LexS → POut) : Prop := ∀ (I : TI) (st : LexS) (sz : Nat), RdQ n I R b z t op sz st → Wp g D M 0 ls [] 0 0 n I J R (PostI n J R (some (.int (b2i (f st).1))) (fun I2 => RdP t I I2 op sz (f st)))
set_option maxRecDepth 20000 in
set_option maxHeartbeats 4000000 in
theorem S_addM {g : GP} {d n : Nat} {I : TI} {J : TJ} {R : TR} {t s : Nat} (hsh : Shw n R) (ht : isText t) (hI : I t 2 = nI s) (hs : s ≤ 160) (v : Int32) : Wp g d mX4_add 0 [.ref t, .int v] [] 0 0 n I J R (RetV n (addI I t s v) J R) := by
  have htg := text_ge ht
  refine r_aload_n dX4_add_0 rfl ?_
  refine r_getIE dX4_add_1 f_X4_18 (hsh.t0 ht) (Or.inl rfl) hI ?_
  refine r_aload_n dX4_add_4 rfl ?_
  refine r_getR (b := (t + 1)) dX4_add_5 f_X4_9 (hsh.t0 ht) (Or.inl ⟨_, rfl⟩) (hsh.tr0 ht) (by omega) ?_
  refine r_alen dX4_add_8 (hsh.t1 ht) (Or.inl rfl) ?_
  refine r_nicmp_ge (b := 160)  (tgt := 32) dX4_add_9 (by decide) rfl rfl (by omega) (by omega) (fun h9 => ?_) (fun h9 => ?_)
  · refine r_vret dX4_add_32 rfl ?_
    unfold addI
    rw [if_neg (by omega)]
    exact retV
  · refine r_aload_n dX4_add_12 rfl ?_
    refine r_getR (b := (t + 1)) dX4_add_13 f_X4_9 (hsh.t0 ht) (Or.inl ⟨_, rfl⟩) (hsh.tr0 ht) (by omega) ?_
    refine r_aload_n dX4_add_16 rfl ?_
    refine r_getIE dX4_add_17 f_X4_18 (hsh.t0 ht) (Or.inl rfl) hI ?_
    refine r_iload_n dX4_add_20 rfl ?_
    refine r_iast (j := _) dX4_add_21 (hsh.t1 ht) (by omega) rfl ?_
    refine r_aload_n dX4_add_22 rfl ?_
    refine r_dup dX4_add_23 rfl ?_
    refine r_getIE dX4_add_24 f_X4_18 (hsh.t0 ht) (Or.inl rfl) ((congrFun (up2_a _ _ _ (by omega)) 2).trans hI) ?_
    refine r_iconst (v := 1) dX4_add_27 (by decide) ?_
    refine r_niadd (b := 1) dX4_add_28 rfl rfl ?_
    refine r_putI dX4_add_29 f_X4_18 (hsh.t0 ht) (Or.inl rfl) rfl ?_
    refine r_vret dX4_add_32 rfl ?_
    unfold addI
    rw [if_pos (by omega)]
    exact retV
set_option maxRecDepth 20000 in
set_option maxHeartbeats 4000000 in
theorem S_emptyM {g : GP} {d n : Nat} {I : TI} {J : TJ} {R : TR} {t : Nat} (hsh : Shw n R) (ht : isText t) : Wp g d mX4_empty 0 [.ref t] [] 0 0 n I J R (RetV n (up2 I t 2 0) J R) := by
  refine r_aload_n dX4_empty_0 rfl ?_
  refine r_iconst (v := 0) dX4_empty_1 (by decide) ?_
  refine r_putI dX4_empty_2 f_X4_18 (hsh.t0 ht) (Or.inl rfl) rfl ?_
  refine r_vret dX4_empty_5 rfl ?_
  exact retV
set_option maxRecDepth 20000 in
set_option maxHeartbeats 4000000 in
theorem S_endPart {g : GP} {d n : Nat} {I : TI} {J : TJ} {R : TR} {t s p : Nat} (hsh : Shw n R) (ht : isText t) (hI : I t 2 = nI s) (hp : p < 3) : Wp g (d + 1) mX4_endPart 0 [.ref t, .int (nI p)] [] 0 0 n I J R (RetV n (up2 I (t + 2) p (nI s)) J R) := by
  refine r_iload_n dX4_endPart_0 rfl ?_
  refine r_iconst (v := 3) dX4_endPart_1 (by decide) ?_
  refine r_callSN2I dX4_endPart_2 moX6_isBelow (by decide) w_400 (Nat.le_of_ble_eq_true rfl) (Nat.le_of_ble_eq_true rfl) (S_isBelow _ _) ?_
  refine r_ifb_eq (tgt := 18) dX4_endPart_5 (by decide) (fun h5 => absurd h5 (by rw [bw_nt (b := 3) (N := 3) rfl (by decide) hp]; decide)) (fun h5 => ?_)
  refine r_aload_n dX4_endPart_8 rfl ?_
  refine r_getR (b := (t + 2)) dX4_endPart_9 f_X4_15 (hsh.t0 ht) (Or.inl ⟨_, rfl⟩) (hsh.tr1 ht) (by omega) ?_
  refine r_iload_n dX4_endPart_12 rfl ?_
  refine r_aload_n dX4_endPart_13 rfl ?_
  refine r_getIE dX4_endPart_14 f_X4_18 (hsh.t0 ht) (Or.inl rfl) hI ?_
  refine r_iast (j := p) dX4_endPart_17 (hsh.t2 ht) hp rfl ?_
  refine r_vret dX4_endPart_18 rfl ?_
  exact retV
set_option maxRecDepth 20000 in
set_option maxHeartbeats 4000000 in
theorem S_opens0 {g : GP} {d n : Nat} {I : TI} {J : TJ} {R : TR} (hsh : Shw n R) (hI : I 64 7 = nI 5) : Wp g d mX1_opens 0 [.ref 64] [] 0 0 n I J R (RetI (b2i false) n I J R) := by
  refine r_aload_n dX1_opens_0 rfl ?_
  refine r_getIE dX1_opens_1 f_X1_38 (hsh.al rfl (by decide)) (Or.inl rfl) hI ?_
  refine r_iconst (v := 5) dX1_opens_4 (by decide) ?_
  refine r_nicmp_lt (b := 5)  (tgt := 10) dX1_opens_5 (by decide) rfl rfl (by omega) (by omega) (fun h5 => absurd h5 (by omega)) (fun h5 => ?_)
  refine r_iconst (v := 0) dX1_opens_8 (by decide) ?_
  refine r_bret (b := false) dX1_opens_9 rfl ?_ ?_
  · rfl
  · exact retI rfl
set_option maxRecDepth 20000 in
set_option maxHeartbeats 4000000 in
theorem S_opens1 {g : GP} {d n : Nat} {I : TI} {J : TJ} {R : TR} {op : Nat} (hsh : Shw n R) (hI : I 64 7 = nI op) (ho : op < 5) : Wp g d mX1_opens 0 [.ref 64] [] 0 0 n I J R (RetI (b2i true) n (up2 I 64 7 (nI (op + 1))) J R) := by
  refine r_aload_n dX1_opens_0 rfl ?_
  refine r_getIE dX1_opens_1 f_X1_38 (hsh.al rfl (by decide)) (Or.inl rfl) hI ?_
  refine r_iconst (v := 5) dX1_opens_4 (by decide) ?_
  refine r_nicmp_lt (b := 5)  (tgt := 10) dX1_opens_5 (by decide) rfl rfl (by omega) (by omega) (fun h5 => ?_) (fun h5 => absurd h5 (by omega))
  refine r_aload_n dX1_opens_10 rfl ?_
  refine r_dup dX1_opens_11 rfl ?_
  refine r_getIE dX1_opens_12 f_X1_38 (hsh.al rfl (by decide)) (Or.inl rfl) hI ?_
  refine r_iconst (v := 1) dX1_opens_15 (by decide) ?_
  refine r_niadd (b := 1) dX1_opens_16 rfl rfl ?_
  refine r_putI dX1_opens_17 f_X1_38 (hsh.al rfl (by decide)) (Or.inl rfl) rfl ?_
  refine r_iconst (v := 1) dX1_opens_20 (by decide) ?_
  refine r_bret (b := true) dX1_opens_21 rfl ?_ ?_
  · rfl
  · exact retI rfl
set_option maxRecDepth 20000 in
set_option maxHeartbeats 4000000 in
theorem S_passes0 {g : GP} {d n : Nat} {I : TI} {J : TJ} {R : TR} {b : Nat → Nat} {z t op sz : Nat} {st : LexS} (hQ : RdQ n I R b z t op sz st) {w : Int} (hw : inZ w) (hn : st.2.2.1 ≠ w) : Wp g (d + 7) mX1_passes 0 [.ref 64, .int (zI w)] [] 0 0 n I J R (RetI (b2i false) n I J R) := by
  have hsh := hQ.sh
  have hb := hQ.bd
  refine r_aload_n dX1_passes_0 rfl ?_
  refine r_getIE dX1_passes_1 f_X1_32 (hsh.al rfl (by decide)) (Or.inl rfl) hQ.rd.2.2.1 ?_
  refine r_iload_n dX1_passes_4 rfl ?_
  refine r_zicmp_eq  (tgt := 10) dX1_passes_5 (by decide) rfl rfl (by unfold inZ; omega) hw (fun h5 => absurd h5 (by omega)) (fun h5 => ?_)
  refine r_iconst (v := 0) dX1_passes_8 (by decide) ?_
  refine r_bret (b := false) dX1_passes_9 rfl ?_ ?_
  · rfl
  · exact retI rfl
set_option maxRecDepth 20000 in
set_option maxHeartbeats 4000000 in
theorem S_passes1 {g : GP} {d n : Nat} {I : TI} {J : TJ} {R : TR} {b : Nat → Nat} {z t op sz : Nat} {st : LexS} (hQ : RdQ n I R b z t op sz st) {w : Int} (hw : inZ w) (hn : st.2.2.1 = w) : Wp g (d + 7) mX1_passes 0 [.ref 64, .int (zI w)] [] 0 0 n I J R (PostI n J R (some (.int (b2i true))) (fun I2 => RdF I I2 ∧ RdS I2 (avB b z st))) := by
  have hsh := hQ.sh
  have hb := hQ.bd
  refine r_aload_n dX1_passes_0 rfl ?_
  refine r_getIE dX1_passes_1 f_X1_32 (hsh.al rfl (by decide)) (Or.inl rfl) hQ.rd.2.2.1 ?_
  refine r_iload_n dX1_passes_4 rfl ?_
  refine r_zicmp_eq  (tgt := 10) dX1_passes_5 (by decide) rfl rfl (by unfold inZ; omega) hw (fun h5 => ?_) (fun h5 => absurd h5 (by omega))
  refine r_aload_n dX1_passes_10 rfl ?_
  refine r_callV0N dX1_passes_11 moX1_advance w_258 w_260 s_0 (hsh.al rfl (by decide)) cl1 rfl (Nat.le_of_ble_eq_true rfl) (Nat.le_of_ble_eq_true rfl) (S_advance hQ.sh hQ.tp hQ.str hQ.rd.2.1 hQ.lx.2.2.1) (fun r n I3 J R hq => ?_)
  obtain ⟨rfl, rfl, rfl, rfl, hF, hS⟩ := hq
  refine r_iconst (v := 1) dX1_passes_14 (by decide) ?_
  refine r_bret (b := true) dX1_passes_15 rfl ?_ ?_
  · rfl
  · exact ⟨rfl, rfl, rfl, rfl, hF, hS⟩
set_option maxRecDepth 20000 in
set_option maxHeartbeats 4000000 in
theorem S_readTerm {g : GP} {d n : Nat} {J : TJ} {R : TR} {b : Nat → Nat} {z t op : Nat} {f : LexS → POut} (hg : PGd z f) (hs : RdC g (d + 6) mX1_readOne [.ref 64] n J R b z t op f) : RdC g (d + 7) mX1_readTerm [.ref 64, .null, .null] n J R b z t op (fun st => loopP (avB b z) opTim f 160 (f st)) := by
  intro I st sz hQ
  have hsh := hQ.sh
  have ht := hQ.tx
  have htg := text_ge ht
  have loop : ∀ F i I2 r, i + F = 160 → PGr z st r → RdP t I I2 op sz r → Wp g (d + 7) mX1_readTerm 7 [.ref 64, .int (b2i r.1), .int (nI i)] [] 0 0 n I2 J R (PostI n J R (some (.int (b2i (loopP (avB b z) opTim f F r).1))) (fun I3 => RdP t I I3 op sz (loopP (avB b z) opTim f F r))) := by
    intro F
    induction F with
    | zero =>
      intro i I2 r hi hr hP
      refine r_iload_n dX1_readTerm_7 rfl ?_
      refine r_sipush (v := 160) dX1_readTerm_8 (by decide) ?_
      refine r_nicmp_ge (b := 160)  (tgt := 51) dX1_readTerm_11 (by decide) rfl rfl (by omega) (by omega) (fun h11 => ?_) (fun h11 => absurd h11 (by omega))
      refine r_iload_n dX1_readTerm_51 rfl ?_
      refine r_bret (b := r.1) dX1_readTerm_52 rfl ?_ ?_
      · rfl
      · exact ⟨rfl, rfl, rfl, rfl, hP⟩
    | succ F ih =>
      intro i I2 r hi hr hP
      refine r_iload_n dX1_readTerm_7 rfl ?_
      refine r_sipush (v := 160) dX1_readTerm_8 (by decide) ?_
      refine r_nicmp_ge (b := 160)  (tgt := 51) dX1_readTerm_11 (by decide) rfl rfl (by omega) (by omega) (fun h11 => absurd h11 (by omega)) (fun h11 => ?_)
      refine r_iload_n dX1_readTerm_14 rfl ?_
      refine r_ifb_eq (tgt := 51) dX1_readTerm_15 (by decide) (fun h15 => ?_) (fun h15 => ?_)
      · have e : loopP (avB b z) opTim f (F + 1) r = r := if_neg (fun h => by rw [h15] at h; exact absurd h.1 (by decide))
        rw [e]
        refine r_iload_n dX1_readTerm_51 rfl ?_
        refine r_bret (b := r.1) dX1_readTerm_52 rfl ?_ ?_
        · rfl
        · exact ⟨rfl, rfl, rfl, rfl, hP⟩
      · have hQ2 := hQ.go hQ.o5 hr hP h15
        have hb := hQ2.bd
        refine r_aload_n dX1_readTerm_18 rfl ?_
        refine r_getIE dX1_readTerm_19 f_X1_32 (hsh.al rfl (by decide)) (Or.inl rfl) hQ2.rd.2.2.1 ?_
        refine r_bipush (v := 42) dX1_readTerm_22 (by decide) ?_
        refine r_zicmp_ne (b := 42)  (tgt := 51) dX1_readTerm_24 (by decide) rfl (by decide) (by unfold inZ; omega) (by unfold inZ; omega) (fun h24 => ?_) (fun h24 => ?_)
        · have e : loopP (avB b z) opTim f (F + 1) r = r := if_neg (fun h => h.2 (by unfold opTim; rw [if_neg h24]))
          rw [e]
          refine r_iload_n dX1_readTerm_51 rfl ?_
          refine r_bret (b := r.1) dX1_readTerm_52 rfl ?_ ?_
          · rfl
          · exact ⟨rfl, rfl, rfl, rfl, hP⟩
        · refine r_aload_n dX1_readTerm_27 rfl ?_
          refine r_callV0N dX1_readTerm_28 moX1_advance w_258 w_260 s_0 (hsh.al rfl (by decide)) cl1 rfl (Nat.le_of_ble_eq_true rfl) (Nat.le_of_ble_eq_true rfl) (S_advance hQ2.sh hQ2.tp hQ2.str hQ2.rd.2.1 hQ2.lx.2.2.1) (fun r n I3 J R hq => ?_)
          obtain ⟨rfl, rfl, rfl, rfl, hF, hS⟩ := hq
          have ho : opTim r.2.1.2.2.1 = -15 := by unfold opTim; rw [if_pos h24]
          have hQ3 := hQ2.av hF hS
          have ha := av_ok (b := b) hQ2.lx
          have hg3 := hg _ ha.1
          refine r_aload_n dX1_readTerm_31 rfl ?_
          refine r_callV0N dX1_readTerm_32 moX1_readOne w_375 w_377 s_12 (hsh.al rfl (by decide)) cl1 rfl (Nat.le_of_ble_eq_true rfl) (Nat.le_of_ble_eq_true rfl) (hs _ _ _ hQ3) (fun r n I4 J R hq => ?_)
          obtain ⟨rfl, rfl, rfl, rfl, hP4⟩ := hq
          refine r_some rfl ?_
          refine r_istore_n dX1_readTerm_35 (by decide) rfl ?_
          refine r_aload_n dX1_readTerm_36 rfl ?_
          refine r_getR (b := t) dX1_readTerm_37 f_X1_22 (hsh.al rfl (by decide)) (Or.inr ⟨_, rfl⟩) hQ.r2 (by omega) ?_
          refine r_bipush (v := (-15)) dX1_readTerm_40 (by decide) ?_
          obtain ⟨s2, hs2, e2⟩ := hP4.2.2.1
          refine r_top (v := zI (-15)) (by decide) ?_
          refine r_callV1W dX1_readTerm_42 moX4_add w_387 w_388 w_389 (hsh.t0 ht) cl4 rfl (Nat.le_of_ble_eq_true rfl) (Nat.le_of_ble_eq_true rfl) (S_addM hQ2.sh ht e2 hs2 _) ?_
          refine r_iincE (b := (i + 1)) dX1_readTerm_45 rfl rfl (nI_succ _).symm rfl ?_
          refine r_goto (tgt := 7) dX1_readTerm_48 (by decide) ?_
          have e : loopP (avB b z) opTim f (F + 1) r = loopP (avB b z) opTim f F (jnP (-15) r (f (avB b z r.2.1))) := by
            show (if _ then _ else _) = _
            rw [if_pos ⟨h15, by rw [ho]; decide⟩, ho]
          rw [e]
          have hcap : (f (avB b z r.2.1)).1 = true → sz + r.2.2.1.length + (f (avB b z r.2.1)).2.2.1.length < 160 := fun h => by
            have c1 := (hg3.2.2 h).1
            have c2 := hQ2.le
            have c3 := ha.2.2 (by omega)
            have c4 := hg3.1.1
            have c5 := hQ.tp.2.1
            omega
          exact ih (i + 1) _ _ (by omega) (jnP_gd ⟨by decide, by decide⟩ hr h15 hg3 (ha.2.2 (by omega))) (RdP.jn ht hP h15 hF hP4 hcap hs2 e2)
  refine r_aload_n dX1_readTerm_0 rfl ?_
  refine r_callV0N dX1_readTerm_1 moX1_readOne w_375 w_377 s_12 (hsh.al rfl (by decide)) cl1 rfl (Nat.le_of_ble_eq_true rfl) (Nat.le_of_ble_eq_true rfl) (hs _ _ _ hQ) (fun r n I2 J R hq => ?_)
  obtain ⟨rfl, rfl, rfl, rfl, hP⟩ := hq
  refine r_some rfl ?_
  refine r_istore_n dX1_readTerm_4 (by decide) rfl ?_
  refine r_iconst (v := 0) dX1_readTerm_5 (by decide) ?_
  refine r_istore_n dX1_readTerm_6 (by decide) rfl ?_
  exact loop 160 0 I2 _ rfl (hg st hQ.lx) hP
set_option maxRecDepth 20000 in
set_option maxHeartbeats 4000000 in
theorem S_readSum {g : GP} {d n : Nat} {J : TJ} {R : TR} {b : Nat → Nat} {z t op : Nat} {f : LexS → POut} (hg : PGd z f) (hs : RdC g (d + 6) mX1_readTerm [.ref 64, .null, .null] n J R b z t op f) : RdC g (d + 7) mX1_readSum [.ref 64, .null, .null, .null] n J R b z t op (fun st => loopP (avB b z) opSum f 160 (f st)) := by
  intro I st sz hQ
  have hsh := hQ.sh
  have ht := hQ.tx
  have htg := text_ge ht
  have loop : ∀ F i v I2 r, i + F = 160 → PGr z st r → RdP t I I2 op sz r → Wp g (d + 7) mX1_readSum 7 [.ref 64, .int (b2i r.1), .int (nI i), v] [] 0 0 n I2 J R (PostI n J R (some (.int (b2i (loopP (avB b z) opSum f F r).1))) (fun I3 => RdP t I I3 op sz (loopP (avB b z) opSum f F r))) := by
    intro F
    induction F with
    | zero =>
      intro i v I2 r hi hr hP
      refine r_iload_n dX1_readSum_7 rfl ?_
      refine r_sipush (v := 160) dX1_readSum_8 (by decide) ?_
      refine r_nicmp_ge (b := 160)  (tgt := 76) dX1_readSum_11 (by decide) rfl rfl (by omega) (by omega) (fun h11 => ?_) (fun h11 => absurd h11 (by omega))
      refine r_iload_n dX1_readSum_76 rfl ?_
      refine r_bret (b := r.1) dX1_readSum_77 rfl ?_ ?_
      · rfl
      · exact ⟨rfl, rfl, rfl, rfl, hP⟩
    | succ F ih =>
      intro i v I2 r hi hr hP
      refine r_iload_n dX1_readSum_7 rfl ?_
      refine r_sipush (v := 160) dX1_readSum_8 (by decide) ?_
      refine r_nicmp_ge (b := 160)  (tgt := 76) dX1_readSum_11 (by decide) rfl rfl (by omega) (by omega) (fun h11 => absurd h11 (by omega)) (fun h11 => ?_)
      refine r_iload_n dX1_readSum_14 rfl ?_
      refine r_ifb_eq (tgt := 76) dX1_readSum_15 (by decide) (fun h15 => ?_) (fun h15 => ?_)
      · have e : loopP (avB b z) opSum f (F + 1) r = r := if_neg (fun h => by rw [h15] at h; exact absurd h.1 (by decide))
        rw [e]
        refine r_iload_n dX1_readSum_76 rfl ?_
        refine r_bret (b := r.1) dX1_readSum_77 rfl ?_ ?_
        · rfl
        · exact ⟨rfl, rfl, rfl, rfl, hP⟩
      · have hQ2 := hQ.go hQ.o5 hr hP h15
        have hb := hQ2.bd
        refine r_aload_n dX1_readSum_18 rfl ?_
        refine r_getIE dX1_readSum_19 f_X1_32 (hsh.al rfl (by decide)) (Or.inl rfl) hQ2.rd.2.2.1 ?_
        refine r_bipush (v := 43) dX1_readSum_22 (by decide) ?_
        refine r_zicmp_eq (b := 43)  (tgt := 36) dX1_readSum_24 (by decide) rfl (by decide) (by unfold inZ; omega) (by unfold inZ; omega) (fun h24 => ?_) (fun h24 => ?_)
        · refine r_aload_n dX1_readSum_36 rfl ?_
          refine r_getIE dX1_readSum_37 f_X1_32 (hsh.al rfl (by decide)) (Or.inl rfl) hQ2.rd.2.2.1 ?_
          refine r_istore_n dX1_readSum_40 (by decide) rfl ?_
          refine r_aload_n dX1_readSum_41 rfl ?_
          refine r_callV0N dX1_readSum_42 moX1_advance w_258 w_260 s_0 (hsh.al rfl (by decide)) cl1 rfl (Nat.le_of_ble_eq_true rfl) (Nat.le_of_ble_eq_true rfl) (S_advance hQ2.sh hQ2.tp hQ2.str hQ2.rd.2.1 hQ2.lx.2.2.1) (fun r n I3 J R hq => ?_)
          obtain ⟨rfl, rfl, rfl, rfl, hF, hS⟩ := hq
          have ho : opSum r.2.1.2.2.1 = -13 := by unfold opSum; rw [if_pos h24]
          have hQ3 := hQ2.av hF hS
          have ha := av_ok (b := b) hQ2.lx
          have hg3 := hg _ ha.1
          refine r_aload_n dX1_readSum_45 rfl ?_
          refine r_callV0N dX1_readSum_46 moX1_readTerm w_371 w_373 s_11 (hsh.al rfl (by decide)) cl1 rfl (Nat.le_of_ble_eq_true rfl) (Nat.le_of_ble_eq_true rfl) (hs _ _ _ hQ3) (fun r n I4 J R hq => ?_)
          obtain ⟨rfl, rfl, rfl, rfl, hP4⟩ := hq
          refine r_some rfl ?_
          refine r_istore_n dX1_readSum_49 (by decide) rfl ?_
          refine r_aload_n dX1_readSum_50 rfl ?_
          refine r_getR (b := t) dX1_readSum_51 f_X1_22 (hsh.al rfl (by decide)) (Or.inr ⟨_, rfl⟩) hQ.r2 (by omega) ?_
          refine r_iload_n dX1_readSum_54 rfl ?_
          refine r_bipush (v := 43) dX1_readSum_55 (by decide) ?_
          refine r_zicmp_ne (b := 43)  (tgt := 65) dX1_readSum_57 (by decide) rfl (by decide) (by unfold inZ; omega) (by unfold inZ; omega) (fun h_s => absurd h24 h_s) (fun h_s => ?_)
          refine r_bipush (v := (-13)) dX1_readSum_60 (by decide) ?_
          refine r_goto (tgt := 67) dX1_readSum_62 (by decide) ?_
          obtain ⟨s2, hs2, e2⟩ := hP4.2.2.1
          refine r_top (v := zI (-13)) (by decide) ?_
          refine r_callV1W dX1_readSum_67 moX4_add w_387 w_388 w_389 (hsh.t0 ht) cl4 rfl (Nat.le_of_ble_eq_true rfl) (Nat.le_of_ble_eq_true rfl) (S_addM hQ2.sh ht e2 hs2 _) ?_
          refine r_iincE (b := (i + 1)) dX1_readSum_70 rfl rfl (nI_succ _).symm rfl ?_
          refine r_goto (tgt := 7) dX1_readSum_73 (by decide) ?_
          have e : loopP (avB b z) opSum f (F + 1) r = loopP (avB b z) opSum f F (jnP (-13) r (f (avB b z r.2.1))) := by
            show (if _ then _ else _) = _
            rw [if_pos ⟨h15, by rw [ho]; decide⟩, ho]
          rw [e]
          have hcap : (f (avB b z r.2.1)).1 = true → sz + r.2.2.1.length + (f (avB b z r.2.1)).2.2.1.length < 160 := fun h => by
            have c1 := (hg3.2.2 h).1
            have c2 := hQ2.le
            have c3 := ha.2.2 (by omega)
            have c4 := hg3.1.1
            have c5 := hQ.tp.2.1
            omega
          exact ih (i + 1) _ _ _ (by omega) (jnP_gd ⟨by decide, by decide⟩ hr h15 hg3 (ha.2.2 (by omega))) (RdP.jn ht hP h15 hF hP4 hcap hs2 e2)
        · refine r_aload_n dX1_readSum_27 rfl ?_
          refine r_getIE dX1_readSum_28 f_X1_32 (hsh.al rfl (by decide)) (Or.inl rfl) hQ2.rd.2.2.1 ?_
          refine r_bipush (v := 45) dX1_readSum_31 (by decide) ?_
          refine r_zicmp_ne (b := 45)  (tgt := 76) dX1_readSum_33 (by decide) rfl (by decide) (by unfold inZ; omega) (by unfold inZ; omega) (fun h33 => ?_) (fun h33 => ?_)
          · have e : loopP (avB b z) opSum f (F + 1) r = r := if_neg (fun h => h.2 (by unfold opSum; rw [if_neg h24]; rw [if_neg h33]))
            rw [e]
            refine r_iload_n dX1_readSum_76 rfl ?_
            refine r_bret (b := r.1) dX1_readSum_77 rfl ?_ ?_
            · rfl
            · exact ⟨rfl, rfl, rfl, rfl, hP⟩
          · refine r_aload_n dX1_readSum_36 rfl ?_
            refine r_getIE dX1_readSum_37 f_X1_32 (hsh.al rfl (by decide)) (Or.inl rfl) hQ2.rd.2.2.1 ?_
            refine r_istore_n dX1_readSum_40 (by decide) rfl ?_
            refine r_aload_n dX1_readSum_41 rfl ?_
            refine r_callV0N dX1_readSum_42 moX1_advance w_258 w_260 s_0 (hsh.al rfl (by decide)) cl1 rfl (Nat.le_of_ble_eq_true rfl) (Nat.le_of_ble_eq_true rfl) (S_advance hQ2.sh hQ2.tp hQ2.str hQ2.rd.2.1 hQ2.lx.2.2.1) (fun r n I3 J R hq => ?_)
            obtain ⟨rfl, rfl, rfl, rfl, hF, hS⟩ := hq
            have ho : opSum r.2.1.2.2.1 = -14 := by unfold opSum; rw [if_neg h24, if_pos h33]
            have hQ3 := hQ2.av hF hS
            have ha := av_ok (b := b) hQ2.lx
            have hg3 := hg _ ha.1
            refine r_aload_n dX1_readSum_45 rfl ?_
            refine r_callV0N dX1_readSum_46 moX1_readTerm w_371 w_373 s_11 (hsh.al rfl (by decide)) cl1 rfl (Nat.le_of_ble_eq_true rfl) (Nat.le_of_ble_eq_true rfl) (hs _ _ _ hQ3) (fun r n I4 J R hq => ?_)
            obtain ⟨rfl, rfl, rfl, rfl, hP4⟩ := hq
            refine r_some rfl ?_
            refine r_istore_n dX1_readSum_49 (by decide) rfl ?_
            refine r_aload_n dX1_readSum_50 rfl ?_
            refine r_getR (b := t) dX1_readSum_51 f_X1_22 (hsh.al rfl (by decide)) (Or.inr ⟨_, rfl⟩) hQ.r2 (by omega) ?_
            refine r_iload_n dX1_readSum_54 rfl ?_
            refine r_bipush (v := 43) dX1_readSum_55 (by decide) ?_
            refine r_zicmp_ne (b := 43)  (tgt := 65) dX1_readSum_57 (by decide) rfl (by decide) (by unfold inZ; omega) (by unfold inZ; omega) (fun h_s => ?_) (fun h_s => absurd h_s h24)
            refine r_bipush (v := (-14)) dX1_readSum_65 (by decide) ?_
            obtain ⟨s2, hs2, e2⟩ := hP4.2.2.1
            refine r_top (v := zI (-14)) (by decide) ?_
            refine r_callV1W dX1_readSum_67 moX4_add w_387 w_388 w_389 (hsh.t0 ht) cl4 rfl (Nat.le_of_ble_eq_true rfl) (Nat.le_of_ble_eq_true rfl) (S_addM hQ2.sh ht e2 hs2 _) ?_
            refine r_iincE (b := (i + 1)) dX1_readSum_70 rfl rfl (nI_succ _).symm rfl ?_
            refine r_goto (tgt := 7) dX1_readSum_73 (by decide) ?_
            have e : loopP (avB b z) opSum f (F + 1) r = loopP (avB b z) opSum f F (jnP (-14) r (f (avB b z r.2.1))) := by
              show (if _ then _ else _) = _
              rw [if_pos ⟨h15, by rw [ho]; decide⟩, ho]
            rw [e]
            have hcap : (f (avB b z r.2.1)).1 = true → sz + r.2.2.1.length + (f (avB b z r.2.1)).2.2.1.length < 160 := fun h => by
              have c1 := (hg3.2.2 h).1
              have c2 := hQ2.le
              have c3 := ha.2.2 (by omega)
              have c4 := hg3.1.1
              have c5 := hQ.tp.2.1
              omega
            exact ih (i + 1) _ _ _ (by omega) (jnP_gd ⟨by decide, by decide⟩ hr h15 hg3 (ha.2.2 (by omega))) (RdP.jn ht hP h15 hF hP4 hcap hs2 e2)
  refine r_aload_n dX1_readSum_0 rfl ?_
  refine r_callV0N dX1_readSum_1 moX1_readTerm w_371 w_373 s_11 (hsh.al rfl (by decide)) cl1 rfl (Nat.le_of_ble_eq_true rfl) (Nat.le_of_ble_eq_true rfl) (hs _ _ _ hQ) (fun r n I2 J R hq => ?_)
  obtain ⟨rfl, rfl, rfl, rfl, hP⟩ := hq
  refine r_some rfl ?_
  refine r_istore_n dX1_readSum_4 (by decide) rfl ?_
  refine r_iconst (v := 0) dX1_readSum_5 (by decide) ?_
  refine r_istore_n dX1_readSum_6 (by decide) rfl ?_
  exact loop 160 0 _ I2 _ rfl (hg st hQ.lx) hP
set_option maxRecDepth 20000 in
set_option maxHeartbeats 4000000 in
theorem S_readBoth {g : GP} {d n : Nat} {J : TJ} {R : TR} {b : Nat → Nat} {z t op : Nat} {f : LexS → POut} (hg : PGd z f) (hs : RdC g (d + 6) mX1_readNot [.ref 64, .null] n J R b z t op f) : RdC g (d + 7) mX1_readBoth [.ref 64, .null, .null] n J R b z t op (fun st => loopP (avB b z) opAnd f 160 (f st)) := by
  intro I st sz hQ
  have hsh := hQ.sh
  have ht := hQ.tx
  have htg := text_ge ht
  have loop : ∀ F i I2 r, i + F = 160 → PGr z st r → RdP t I I2 op sz r → Wp g (d + 7) mX1_readBoth 7 [.ref 64, .int (b2i r.1), .int (nI i)] [] 0 0 n I2 J R (PostI n J R (some (.int (b2i (loopP (avB b z) opAnd f F r).1))) (fun I3 => RdP t I I3 op sz (loopP (avB b z) opAnd f F r))) := by
    intro F
    induction F with
    | zero =>
      intro i I2 r hi hr hP
      refine r_iload_n dX1_readBoth_7 rfl ?_
      refine r_sipush (v := 160) dX1_readBoth_8 (by decide) ?_
      refine r_nicmp_ge (b := 160)  (tgt := 52) dX1_readBoth_11 (by decide) rfl rfl (by omega) (by omega) (fun h11 => ?_) (fun h11 => absurd h11 (by omega))
      refine r_iload_n dX1_readBoth_52 rfl ?_
      refine r_bret (b := r.1) dX1_readBoth_53 rfl ?_ ?_
      · rfl
      · exact ⟨rfl, rfl, rfl, rfl, hP⟩
    | succ F ih =>
      intro i I2 r hi hr hP
      refine r_iload_n dX1_readBoth_7 rfl ?_
      refine r_sipush (v := 160) dX1_readBoth_8 (by decide) ?_
      refine r_nicmp_ge (b := 160)  (tgt := 52) dX1_readBoth_11 (by decide) rfl rfl (by omega) (by omega) (fun h11 => absurd h11 (by omega)) (fun h11 => ?_)
      refine r_iload_n dX1_readBoth_14 rfl ?_
      refine r_ifb_eq (tgt := 52) dX1_readBoth_15 (by decide) (fun h15 => ?_) (fun h15 => ?_)
      · have e : loopP (avB b z) opAnd f (F + 1) r = r := if_neg (fun h => by rw [h15] at h; exact absurd h.1 (by decide))
        rw [e]
        refine r_iload_n dX1_readBoth_52 rfl ?_
        refine r_bret (b := r.1) dX1_readBoth_53 rfl ?_ ?_
        · rfl
        · exact ⟨rfl, rfl, rfl, rfl, hP⟩
      · have hQ2 := hQ.go hQ.o5 hr hP h15
        have hb := hQ2.bd
        refine r_aload_n dX1_readBoth_18 rfl ?_
        refine r_getIE dX1_readBoth_19 f_X1_32 (hsh.al rfl (by decide)) (Or.inl rfl) hQ2.rd.2.2.1 ?_
        refine r_sipush (v := 262) dX1_readBoth_22 (by decide) ?_
        refine r_zicmp_ne (b := 262)  (tgt := 52) dX1_readBoth_25 (by decide) rfl (by decide) (by unfold inZ; omega) (by unfold inZ; omega) (fun h25 => ?_) (fun h25 => ?_)
        · have e : loopP (avB b z) opAnd f (F + 1) r = r := if_neg (fun h => h.2 (by unfold opAnd; rw [if_neg h25]))
          rw [e]
          refine r_iload_n dX1_readBoth_52 rfl ?_
          refine r_bret (b := r.1) dX1_readBoth_53 rfl ?_ ?_
          · rfl
          · exact ⟨rfl, rfl, rfl, rfl, hP⟩
        · refine r_aload_n dX1_readBoth_28 rfl ?_
          refine r_callV0N dX1_readBoth_29 moX1_advance w_258 w_260 s_0 (hsh.al rfl (by decide)) cl1 rfl (Nat.le_of_ble_eq_true rfl) (Nat.le_of_ble_eq_true rfl) (S_advance hQ2.sh hQ2.tp hQ2.str hQ2.rd.2.1 hQ2.lx.2.2.1) (fun r n I3 J R hq => ?_)
          obtain ⟨rfl, rfl, rfl, rfl, hF, hS⟩ := hq
          have ho : opAnd r.2.1.2.2.1 = -10 := by unfold opAnd; rw [if_pos h25]
          have hQ3 := hQ2.av hF hS
          have ha := av_ok (b := b) hQ2.lx
          have hg3 := hg _ ha.1
          refine r_aload_n dX1_readBoth_32 rfl ?_
          refine r_callV0N dX1_readBoth_33 moX1_readNot w_359 w_361 s_8 (hsh.al rfl (by decide)) cl1 rfl (Nat.le_of_ble_eq_true rfl) (Nat.le_of_ble_eq_true rfl) (hs _ _ _ hQ3) (fun r n I4 J R hq => ?_)
          obtain ⟨rfl, rfl, rfl, rfl, hP4⟩ := hq
          refine r_some rfl ?_
          refine r_istore_n dX1_readBoth_36 (by decide) rfl ?_
          refine r_aload_n dX1_readBoth_37 rfl ?_
          refine r_getR (b := t) dX1_readBoth_38 f_X1_22 (hsh.al rfl (by decide)) (Or.inr ⟨_, rfl⟩) hQ.r2 (by omega) ?_
          refine r_bipush (v := (-10)) dX1_readBoth_41 (by decide) ?_
          obtain ⟨s2, hs2, e2⟩ := hP4.2.2.1
          refine r_top (v := zI (-10)) (by decide) ?_
          refine r_callV1W dX1_readBoth_43 moX4_add w_387 w_388 w_389 (hsh.t0 ht) cl4 rfl (Nat.le_of_ble_eq_true rfl) (Nat.le_of_ble_eq_true rfl) (S_addM hQ2.sh ht e2 hs2 _) ?_
          refine r_iincE (b := (i + 1)) dX1_readBoth_46 rfl rfl (nI_succ _).symm rfl ?_
          refine r_goto (tgt := 7) dX1_readBoth_49 (by decide) ?_
          have e : loopP (avB b z) opAnd f (F + 1) r = loopP (avB b z) opAnd f F (jnP (-10) r (f (avB b z r.2.1))) := by
            show (if _ then _ else _) = _
            rw [if_pos ⟨h15, by rw [ho]; decide⟩, ho]
          rw [e]
          have hcap : (f (avB b z r.2.1)).1 = true → sz + r.2.2.1.length + (f (avB b z r.2.1)).2.2.1.length < 160 := fun h => by
            have c1 := (hg3.2.2 h).1
            have c2 := hQ2.le
            have c3 := ha.2.2 (by omega)
            have c4 := hg3.1.1
            have c5 := hQ.tp.2.1
            omega
          exact ih (i + 1) _ _ (by omega) (jnP_gd ⟨by decide, by decide⟩ hr h15 hg3 (ha.2.2 (by omega))) (RdP.jn ht hP h15 hF hP4 hcap hs2 e2)
  refine r_aload_n dX1_readBoth_0 rfl ?_
  refine r_callV0N dX1_readBoth_1 moX1_readNot w_359 w_361 s_8 (hsh.al rfl (by decide)) cl1 rfl (Nat.le_of_ble_eq_true rfl) (Nat.le_of_ble_eq_true rfl) (hs _ _ _ hQ) (fun r n I2 J R hq => ?_)
  obtain ⟨rfl, rfl, rfl, rfl, hP⟩ := hq
  refine r_some rfl ?_
  refine r_istore_n dX1_readBoth_4 (by decide) rfl ?_
  refine r_iconst (v := 0) dX1_readBoth_5 (by decide) ?_
  refine r_istore_n dX1_readBoth_6 (by decide) rfl ?_
  exact loop 160 0 I2 _ rfl (hg st hQ.lx) hP
set_option maxRecDepth 20000 in
set_option maxHeartbeats 4000000 in
theorem S_readEither {g : GP} {d n : Nat} {J : TJ} {R : TR} {b : Nat → Nat} {z t op : Nat} {f : LexS → POut} (hg : PGd z f) (hs : RdC g (d + 6) mX1_readBoth [.ref 64, .null, .null] n J R b z t op f) : RdC g (d + 7) mX1_readEither [.ref 64, .null, .null] n J R b z t op (fun st => loopP (avB b z) opOr f 160 (f st)) := by
  intro I st sz hQ
  have hsh := hQ.sh
  have ht := hQ.tx
  have htg := text_ge ht
  have loop : ∀ F i I2 r, i + F = 160 → PGr z st r → RdP t I I2 op sz r → Wp g (d + 7) mX1_readEither 7 [.ref 64, .int (b2i r.1), .int (nI i)] [] 0 0 n I2 J R (PostI n J R (some (.int (b2i (loopP (avB b z) opOr f F r).1))) (fun I3 => RdP t I I3 op sz (loopP (avB b z) opOr f F r))) := by
    intro F
    induction F with
    | zero =>
      intro i I2 r hi hr hP
      refine r_iload_n dX1_readEither_7 rfl ?_
      refine r_sipush (v := 160) dX1_readEither_8 (by decide) ?_
      refine r_nicmp_ge (b := 160)  (tgt := 52) dX1_readEither_11 (by decide) rfl rfl (by omega) (by omega) (fun h11 => ?_) (fun h11 => absurd h11 (by omega))
      refine r_iload_n dX1_readEither_52 rfl ?_
      refine r_bret (b := r.1) dX1_readEither_53 rfl ?_ ?_
      · rfl
      · exact ⟨rfl, rfl, rfl, rfl, hP⟩
    | succ F ih =>
      intro i I2 r hi hr hP
      refine r_iload_n dX1_readEither_7 rfl ?_
      refine r_sipush (v := 160) dX1_readEither_8 (by decide) ?_
      refine r_nicmp_ge (b := 160)  (tgt := 52) dX1_readEither_11 (by decide) rfl rfl (by omega) (by omega) (fun h11 => absurd h11 (by omega)) (fun h11 => ?_)
      refine r_iload_n dX1_readEither_14 rfl ?_
      refine r_ifb_eq (tgt := 52) dX1_readEither_15 (by decide) (fun h15 => ?_) (fun h15 => ?_)
      · have e : loopP (avB b z) opOr f (F + 1) r = r := if_neg (fun h => by rw [h15] at h; exact absurd h.1 (by decide))
        rw [e]
        refine r_iload_n dX1_readEither_52 rfl ?_
        refine r_bret (b := r.1) dX1_readEither_53 rfl ?_ ?_
        · rfl
        · exact ⟨rfl, rfl, rfl, rfl, hP⟩
      · have hQ2 := hQ.go hQ.o5 hr hP h15
        have hb := hQ2.bd
        refine r_aload_n dX1_readEither_18 rfl ?_
        refine r_getIE dX1_readEither_19 f_X1_32 (hsh.al rfl (by decide)) (Or.inl rfl) hQ2.rd.2.2.1 ?_
        refine r_sipush (v := 261) dX1_readEither_22 (by decide) ?_
        refine r_zicmp_ne (b := 261)  (tgt := 52) dX1_readEither_25 (by decide) rfl (by decide) (by unfold inZ; omega) (by unfold inZ; omega) (fun h25 => ?_) (fun h25 => ?_)
        · have e : loopP (avB b z) opOr f (F + 1) r = r := if_neg (fun h => h.2 (by unfold opOr; rw [if_neg h25]))
          rw [e]
          refine r_iload_n dX1_readEither_52 rfl ?_
          refine r_bret (b := r.1) dX1_readEither_53 rfl ?_ ?_
          · rfl
          · exact ⟨rfl, rfl, rfl, rfl, hP⟩
        · refine r_aload_n dX1_readEither_28 rfl ?_
          refine r_callV0N dX1_readEither_29 moX1_advance w_258 w_260 s_0 (hsh.al rfl (by decide)) cl1 rfl (Nat.le_of_ble_eq_true rfl) (Nat.le_of_ble_eq_true rfl) (S_advance hQ2.sh hQ2.tp hQ2.str hQ2.rd.2.1 hQ2.lx.2.2.1) (fun r n I3 J R hq => ?_)
          obtain ⟨rfl, rfl, rfl, rfl, hF, hS⟩ := hq
          have ho : opOr r.2.1.2.2.1 = -9 := by unfold opOr; rw [if_pos h25]
          have hQ3 := hQ2.av hF hS
          have ha := av_ok (b := b) hQ2.lx
          have hg3 := hg _ ha.1
          refine r_aload_n dX1_readEither_32 rfl ?_
          refine r_callV0N dX1_readEither_33 moX1_readBoth w_355 w_357 s_7 (hsh.al rfl (by decide)) cl1 rfl (Nat.le_of_ble_eq_true rfl) (Nat.le_of_ble_eq_true rfl) (hs _ _ _ hQ3) (fun r n I4 J R hq => ?_)
          obtain ⟨rfl, rfl, rfl, rfl, hP4⟩ := hq
          refine r_some rfl ?_
          refine r_istore_n dX1_readEither_36 (by decide) rfl ?_
          refine r_aload_n dX1_readEither_37 rfl ?_
          refine r_getR (b := t) dX1_readEither_38 f_X1_22 (hsh.al rfl (by decide)) (Or.inr ⟨_, rfl⟩) hQ.r2 (by omega) ?_
          refine r_bipush (v := (-9)) dX1_readEither_41 (by decide) ?_
          obtain ⟨s2, hs2, e2⟩ := hP4.2.2.1
          refine r_top (v := zI (-9)) (by decide) ?_
          refine r_callV1W dX1_readEither_43 moX4_add w_387 w_388 w_389 (hsh.t0 ht) cl4 rfl (Nat.le_of_ble_eq_true rfl) (Nat.le_of_ble_eq_true rfl) (S_addM hQ2.sh ht e2 hs2 _) ?_
          refine r_iincE (b := (i + 1)) dX1_readEither_46 rfl rfl (nI_succ _).symm rfl ?_
          refine r_goto (tgt := 7) dX1_readEither_49 (by decide) ?_
          have e : loopP (avB b z) opOr f (F + 1) r = loopP (avB b z) opOr f F (jnP (-9) r (f (avB b z r.2.1))) := by
            show (if _ then _ else _) = _
            rw [if_pos ⟨h15, by rw [ho]; decide⟩, ho]
          rw [e]
          have hcap : (f (avB b z r.2.1)).1 = true → sz + r.2.2.1.length + (f (avB b z r.2.1)).2.2.1.length < 160 := fun h => by
            have c1 := (hg3.2.2 h).1
            have c2 := hQ2.le
            have c3 := ha.2.2 (by omega)
            have c4 := hg3.1.1
            have c5 := hQ.tp.2.1
            omega
          exact ih (i + 1) _ _ (by omega) (jnP_gd ⟨by decide, by decide⟩ hr h15 hg3 (ha.2.2 (by omega))) (RdP.jn ht hP h15 hF hP4 hcap hs2 e2)
  refine r_aload_n dX1_readEither_0 rfl ?_
  refine r_callV0N dX1_readEither_1 moX1_readBoth w_355 w_357 s_7 (hsh.al rfl (by decide)) cl1 rfl (Nat.le_of_ble_eq_true rfl) (Nat.le_of_ble_eq_true rfl) (hs _ _ _ hQ) (fun r n I2 J R hq => ?_)
  obtain ⟨rfl, rfl, rfl, rfl, hP⟩ := hq
  refine r_some rfl ?_
  refine r_istore_n dX1_readEither_4 (by decide) rfl ?_
  refine r_iconst (v := 0) dX1_readEither_5 (by decide) ?_
  refine r_istore_n dX1_readEither_6 (by decide) rfl ?_
  exact loop 160 0 I2 _ rfl (hg st hQ.lx) hP
set_option maxRecDepth 20000 in
set_option maxHeartbeats 4000000 in
theorem S_readCmp {g : GP} {d n : Nat} {J : TJ} {R : TR} {b : Nat → Nat} {z t op : Nat} {f : LexS → POut} (hg : PGd z f) (hs : RdC g (d + 6) mX1_readSum [.ref 64, .null, .null, .null] n J R b z t op f) : RdC g (d + 7) mX1_readComparison [.ref 64, .null, .null] n J R b z t op (fun st => loopP (avB b z) opCmp f 1 (f st)) := by
  intro I st sz hQ
  have hsh := hQ.sh
  have ht := hQ.tx
  have htg := text_ge ht
  have hr := hg st hQ.lx
  show Wp g (d + 7) mX1_readComparison 0 [.ref 64, .null, .null] [] 0 0 n I J R (PostI n J R (some (.int (b2i (loopP (avB b z) opCmp f 1 (f st)).1))) (fun I2 => RdP t I I2 op sz (loopP (avB b z) opCmp f 1 (f st))))
  refine r_aload_n dX1_readComparison_0 rfl ?_
  refine r_callV0N dX1_readComparison_1 moX1_readSum w_367 w_369 s_10 (hsh.al rfl (by decide)) cl1 rfl (Nat.le_of_ble_eq_true rfl) (Nat.le_of_ble_eq_true rfl) (hs _ _ _ hQ) (fun r n I2 J R hq => ?_)
  obtain ⟨rfl, rfl, rfl, rfl, hP⟩ := hq
  refine r_some rfl ?_
  refine r_istore_n dX1_readComparison_4 (by decide) rfl ?_
  cases hr1 : (f st).1
  · refine r_aload_n dX1_readComparison_5 rfl ?_
    refine r_getI dX1_readComparison_6 f_X1_32 (hsh.al rfl (by decide)) (Or.inl rfl) ?_
    refine r_istore_n dX1_readComparison_9 (by decide) rfl ?_
    refine r_iload_n dX1_readComparison_10 rfl ?_
    refine r_ifb_eq (tgt := 26) dX1_readComparison_11 (by decide) (fun h11 => ?_) (fun h11 => absurd h11 (by decide))
    have e : loopP (avB b z) opCmp f 1 (f st) = f st := if_neg (fun h => by rw [hr1] at h; exact absurd h.1 (by decide))
    rw [e]
    refine r_iload_n dX1_readComparison_26 rfl ?_
    refine r_bret (b := (f st).1) dX1_readComparison_27 rfl ?_ ?_
    · rw [hr1]
    · exact ⟨rfl, rfl, rfl, rfl, hP⟩
  · have hQ2 := hQ.go hQ.o5 hr hP hr1
    have hb := hQ2.bd
    refine r_aload_n dX1_readComparison_5 rfl ?_
    refine r_getIE dX1_readComparison_6 f_X1_32 (hsh.al rfl (by decide)) (Or.inl rfl) hQ2.rd.2.2.1 ?_
    refine r_istore_n dX1_readComparison_9 (by decide) rfl ?_
    refine r_iload_n dX1_readComparison_10 rfl ?_
    refine r_ifb_eq (tgt := 26) dX1_readComparison_11 (by decide) (fun h11 => absurd h11 (by decide)) (fun h11 => ?_)
    refine r_iload_n dX1_readComparison_14 rfl ?_
    refine r_bipush (v := 60) dX1_readComparison_15 (by decide) ?_
    refine r_zicmp_eq (b := 60)  (tgt := 28) dX1_readComparison_17 (by decide) rfl (by decide) (by unfold inZ; omega) (by unfold inZ; omega) (fun h17 => ?_) (fun h17 => ?_)
    · refine r_aload_n dX1_readComparison_28 rfl ?_
      refine r_callV0N dX1_readComparison_29 moX1_advance w_258 w_260 s_0 (hsh.al rfl (by decide)) cl1 rfl (Nat.le_of_ble_eq_true rfl) (Nat.le_of_ble_eq_true rfl) (S_advance hQ2.sh hQ2.tp hQ2.str hQ2.rd.2.1 hQ2.lx.2.2.1) (fun r n I3 J R hq => ?_)
      obtain ⟨rfl, rfl, rfl, rfl, hF, hS⟩ := hq
      have hQ3 := hQ2.av hF hS
      have ha := av_ok (b := b) hQ2.lx
      have hg3 := hg _ ha.1
      refine r_aload_n dX1_readComparison_32 rfl ?_
      refine r_callV0N dX1_readComparison_33 moX1_readSum w_367 w_369 s_10 (hsh.al rfl (by decide)) cl1 rfl (Nat.le_of_ble_eq_true rfl) (Nat.le_of_ble_eq_true rfl) (hs _ _ _ hQ3) (fun r n I4 J R hq => ?_)
      obtain ⟨rfl, rfl, rfl, rfl, hP4⟩ := hq
      refine r_some rfl ?_
      refine r_istore_n dX1_readComparison_36 (by decide) rfl ?_
      refine r_aload_n dX1_readComparison_37 rfl ?_
      refine r_getR (b := t) dX1_readComparison_38 f_X1_22 (hsh.al rfl (by decide)) (Or.inr ⟨_, rfl⟩) hQ.r2 (by omega) ?_
      refine r_iload_n dX1_readComparison_41 rfl ?_
      refine r_bipush (v := 60) dX1_readComparison_42 (by decide) ?_
      refine r_zicmp_ne (b := 60)  (tgt := 52) dX1_readComparison_44 (by decide) rfl (by decide) (by unfold inZ; omega) (by unfold inZ; omega) (fun h44 => absurd h17 h44) (fun h44 => ?_)
      refine r_bipush (v := (-11)) dX1_readComparison_47 (by decide) ?_
      refine r_goto (tgt := 54) dX1_readComparison_49 (by decide) ?_
      obtain ⟨s2, hs2, e2⟩ := hP4.2.2.1
      refine r_top (v := zI (-11)) (by decide) ?_
      refine r_callV1W dX1_readComparison_54 moX4_add w_387 w_388 w_389 (hsh.t0 ht) cl4 rfl (Nat.le_of_ble_eq_true rfl) (Nat.le_of_ble_eq_true rfl) (S_addM hQ2.sh ht e2 hs2 _) ?_
      have ho : opCmp (f st).2.1.2.2.1 = -11 := by unfold opCmp; rw [if_pos h17]
      have e : loopP (avB b z) opCmp f 1 (f st) = jnP (-11) (f st) (f (avB b z (f st).2.1)) := by
        show (if _ then _ else _) = _
        rw [if_pos ⟨hr1, by rw [ho]; decide⟩, ho]
        rfl
      rw [e]
      have hcap : (f (avB b z (f st).2.1)).1 = true → sz + (f st).2.2.1.length + (f (avB b z (f st).2.1)).2.2.1.length < 160 := fun h => by
        have c1 := (hg3.2.2 h).1
        have c2 := hQ2.le
        have c3 := ha.2.2 (by omega)
        have c4 := hg3.1.1
        have c5 := hQ.tp.2.1
        omega
      have hp : RdP t I _ op sz (jnP (-11) (f st) (f (avB b z (f st).2.1))) := RdP.jn ht hP hr1 hF hP4 hcap hs2 e2
      refine r_iload_n dX1_readComparison_57 rfl ?_
      refine r_bret (b := (f (avB b z (f st).2.1)).1) dX1_readComparison_58 rfl ?_ ?_
      · rfl
      · exact ⟨rfl, rfl, rfl, rfl, hp⟩
    · refine r_iload_n dX1_readComparison_20 rfl ?_
      refine r_bipush (v := 61) dX1_readComparison_21 (by decide) ?_
      refine r_zicmp_eq (b := 61)  (tgt := 28) dX1_readComparison_23 (by decide) rfl (by decide) (by unfold inZ; omega) (by unfold inZ; omega) (fun h23 => ?_) (fun h23 => ?_)
      · refine r_aload_n dX1_readComparison_28 rfl ?_
        refine r_callV0N dX1_readComparison_29 moX1_advance w_258 w_260 s_0 (hsh.al rfl (by decide)) cl1 rfl (Nat.le_of_ble_eq_true rfl) (Nat.le_of_ble_eq_true rfl) (S_advance hQ2.sh hQ2.tp hQ2.str hQ2.rd.2.1 hQ2.lx.2.2.1) (fun r n I3 J R hq => ?_)
        obtain ⟨rfl, rfl, rfl, rfl, hF, hS⟩ := hq
        have hQ3 := hQ2.av hF hS
        have ha := av_ok (b := b) hQ2.lx
        have hg3 := hg _ ha.1
        refine r_aload_n dX1_readComparison_32 rfl ?_
        refine r_callV0N dX1_readComparison_33 moX1_readSum w_367 w_369 s_10 (hsh.al rfl (by decide)) cl1 rfl (Nat.le_of_ble_eq_true rfl) (Nat.le_of_ble_eq_true rfl) (hs _ _ _ hQ3) (fun r n I4 J R hq => ?_)
        obtain ⟨rfl, rfl, rfl, rfl, hP4⟩ := hq
        refine r_some rfl ?_
        refine r_istore_n dX1_readComparison_36 (by decide) rfl ?_
        refine r_aload_n dX1_readComparison_37 rfl ?_
        refine r_getR (b := t) dX1_readComparison_38 f_X1_22 (hsh.al rfl (by decide)) (Or.inr ⟨_, rfl⟩) hQ.r2 (by omega) ?_
        refine r_iload_n dX1_readComparison_41 rfl ?_
        refine r_bipush (v := 60) dX1_readComparison_42 (by decide) ?_
        refine r_zicmp_ne (b := 60)  (tgt := 52) dX1_readComparison_44 (by decide) rfl (by decide) (by unfold inZ; omega) (by unfold inZ; omega) (fun h44 => ?_) (fun h44 => absurd h44 h17)
        refine r_bipush (v := (-12)) dX1_readComparison_52 (by decide) ?_
        obtain ⟨s2, hs2, e2⟩ := hP4.2.2.1
        refine r_top (v := zI (-12)) (by decide) ?_
        refine r_callV1W dX1_readComparison_54 moX4_add w_387 w_388 w_389 (hsh.t0 ht) cl4 rfl (Nat.le_of_ble_eq_true rfl) (Nat.le_of_ble_eq_true rfl) (S_addM hQ2.sh ht e2 hs2 _) ?_
        have ho : opCmp (f st).2.1.2.2.1 = -12 := by unfold opCmp; rw [if_neg h17, if_pos h23]
        have e : loopP (avB b z) opCmp f 1 (f st) = jnP (-12) (f st) (f (avB b z (f st).2.1)) := by
          show (if _ then _ else _) = _
          rw [if_pos ⟨hr1, by rw [ho]; decide⟩, ho]
          rfl
        rw [e]
        have hcap : (f (avB b z (f st).2.1)).1 = true → sz + (f st).2.2.1.length + (f (avB b z (f st).2.1)).2.2.1.length < 160 := fun h => by
          have c1 := (hg3.2.2 h).1
          have c2 := hQ2.le
          have c3 := ha.2.2 (by omega)
          have c4 := hg3.1.1
          have c5 := hQ.tp.2.1
          omega
        have hp : RdP t I _ op sz (jnP (-12) (f st) (f (avB b z (f st).2.1))) := RdP.jn ht hP hr1 hF hP4 hcap hs2 e2
        refine r_iload_n dX1_readComparison_57 rfl ?_
        refine r_bret (b := (f (avB b z (f st).2.1)).1) dX1_readComparison_58 rfl ?_ ?_
        · rfl
        · exact ⟨rfl, rfl, rfl, rfl, hp⟩
      · have e : loopP (avB b z) opCmp f 1 (f st) = f st := if_neg (fun h => h.2 (by unfold opCmp; rw [if_neg h17, if_neg h23]))
        rw [e]
        refine r_iload_n dX1_readComparison_26 rfl ?_
        refine r_bret (b := (f st).1) dX1_readComparison_27 rfl ?_ ?_
        · rw [hr1]
        · exact ⟨rfl, rfl, rfl, rfl, hP⟩
