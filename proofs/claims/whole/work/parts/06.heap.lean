/-! returns, fields, arrays -/
theorem va_T.moved' {ty : FieldType} {t N : Nat} {f : Nat → Value} {A : Nat → Prop} {u U : State} {H : Heap} (hvm : u.vm.Alike U.vm) (h : va_T ty t N f A u H) : va_T ty t N f A U H := va_T.moved hvm h
theorem CellK.moved {g : GP} {u U : State} (hvm : u.vm.Alike U.vm) {H : Heap} {I : TI} {J : TJ} {R : TR} {a kd len : Nat} (h : CellK g u H I J R a kd len) : CellK g U H I J R a kd len := by
  unfold CellK at h ⊢
  by_cases h8 : kd = 8
  · rw [if_pos h8] at h ⊢
    obtain ⟨cA, h1, h2⟩ := h
    exact ⟨cA, h1, arrOfT_moved hvm h2⟩
  rw [if_neg h8] at h ⊢
  by_cases h9 : kd = 9
  · rw [if_pos h9] at h ⊢
    obtain ⟨cA, h1, h2⟩ := h
    exact ⟨cA, h1, arrOfT_moved hvm h2⟩
  rw [if_neg h9] at h ⊢
  by_cases h10 : kd = 10
  · rw [if_pos h10] at h ⊢
    obtain ⟨cA, h1, h2⟩ := h
    exact ⟨cA, h1, arrOfT_moved hvm h2⟩
  rw [if_neg h10] at h ⊢
  by_cases h11 : kd = 11
  · rw [if_pos h11] at h ⊢
    obtain ⟨cA, h1, h2, h3⟩ := h
    exact ⟨cA, h1, arrOfT_moved hvm h2, h3.moved hvm⟩
  rw [if_neg h11] at h ⊢
  by_cases h12 : kd = 12
  · rw [if_pos h12] at h ⊢
    obtain ⟨cA, h1, h2, h3⟩ := h
    exact ⟨cA, h1, arrOfT_moved hvm h2, h3.moved hvm⟩
  rw [if_neg h12] at h ⊢
  exact h
theorem WR.moved {g : GP} {u U : State} (hvm : u.vm.Alike U.vm) {H : Heap} {n : Nat} {I : TI} {J : TJ} {R : TR} (h : WR g u H n I J R) : WR g U H n I J R :=
  ⟨h.1, h.2.1, fun a h1 h2 => (h.2.2.1 a h1 h2).moved hvm, fun a q hq => (h.2.2.2 a q hq).moved hvm⟩
theorem aoI.moved {u U : State} (hvm : u.vm.Alike U.vm) (h : aoI u) : aoI U := Jvm.Stand.arrayOver_alikeB hvm h
theorem VOK.warm {g : GP} {s U : State} (hW : s.WarmedH U.vm) (h : VOK g s) : VOK g U :=
  ⟨va_K.moved hW.alike h.1, fun q hq => va_Z.moved hW.alike (h.2.1 q hq), fun i hi => ⟨va_O.moved hW.alike (h.2.2.1 i hi).1, va_OF.moved hW.alike (h.2.2.1 i hi).2.1, va_OF.moved hW.alike (h.2.2.1 i hi).2.2⟩, fun i q hq => vk_R.warm hW (h.2.2.2.1 i q hq),
    fun w hw => by
      have h1 := h.2.2.2.2.1 w hw
      simp only [nestW, List.mem_cons, List.not_mem_nil, or_false] at hw
      rcases hw with rfl | rfl | rfl | rfl | rfl | rfl | rfl | rfl | rfl | rfl | rfl | rfl <;> first | exact va_Nw.warmM hW h1 | exact va_Nw.warmF hW h1, h.2.2.2.2.2.1, va_AO.moved hW.alike h.2.2.2.2.2.2.1, va_AO.moved hW.alike h.2.2.2.2.2.2.2.1, aoI.moved hW.alike h.2.2.2.2.2.2.2.2⟩
theorem VOK.same {g : GP} {s U : State} (hv : s.vm = U.vm) (h : VOK g s) : VOK g U :=
  have hal : s.vm.Alike U.vm := by rw [hv]; exact Vm.Alike.refl _
  ⟨va_K.moved hal h.1, fun q hq => va_Z.moved hal (h.2.1 q hq), fun i hi => ⟨va_O.moved hal (h.2.2.1 i hi).1, va_OF.moved hal (h.2.2.1 i hi).2.1, va_OF.moved hal (h.2.2.1 i hi).2.2⟩, fun i q hq => vk_R.same hv.symm (h.2.2.2.1 i q hq),
    fun w hw => by
      have h1 := h.2.2.2.2.1 w hw
      simp only [nestW, List.mem_cons, List.not_mem_nil, or_false] at hw
      rcases hw with rfl | rfl | rfl | rfl | rfl | rfl | rfl | rfl | rfl | rfl | rfl | rfl <;> exact va_Nw.same rfl hv h1, h.2.2.2.2.2.1, va_AO.moved hal h.2.2.2.2.2.2.1, va_AO.moved hal h.2.2.2.2.2.2.2.1, aoI.moved hal h.2.2.2.2.2.2.2.2⟩
section XRet
variable {g : GP} {d : Nat} {M : MD} {pc : Nat} {L st : List Value} {bc bs n : Nat} {I : TI} {J : TJ} {R : TR} {Q : TQ}
theorem r_iret {v : Int32} (hd : decode M.2.1 pc = .ok (.ireturn, 1)) (hr : M.2.2.2 = some .int) (hq : Q (some (.int v)) n I J R) : Wp g d M pc L [.int v] bc bs n I J R Q := by
  intro p e Rm s m args below meth c H locs cells slots ls C hW hL hlc hc hs
  have hlocks : meth.locks = false := C.2.2.2.2.2.2.2.1
  refine W.widen (k := Rm.cells) (n := Rm.slots) (by omega) (by omega) ?_
  exact W.iret (v := v) C.1 C.2.1 (C.2.2.2.1.trans hr) (fun t ht hw => ⟨some (.int v), n, I, J, R, rfl, hq, by rw [ht]; exact hW.moved hw.alike⟩) hlc hd
theorem r_zret {v : Int32} {ty : FieldType} (hd : decode M.2.1 pc = .ok (.ireturn, 1)) (hr : M.2.2.2 = some ty) (hn : narrow ty (.int v) = .int v) (hq : Q (some (.int v)) n I J R) : Wp g d M pc L [.int v] bc bs n I J R Q := by
  intro p e Rm s m args below meth c H locs cells slots ls C hW hL hlc hc hs
  have hlocks : meth.locks = false := C.2.2.2.2.2.2.2.1
  refine W.widen (k := Rm.cells) (n := Rm.slots) (by omega) (by omega) ?_
  exact W.zret (v := v) C.1 C.2.1 (C.2.2.2.1.trans hr) hn (fun t ht hw => ⟨some (.int v), n, I, J, R, rfl, hq, by rw [ht]; exact hW.moved hw.alike⟩) hlc hd
theorem r_lret {v : Int64} (hd : decode M.2.1 pc = .ok (.lreturn, 1)) (hr : M.2.2.2 = some .long) (hq : Q (some (.long v)) n I J R) : Wp g d M pc L [.long v] bc bs n I J R Q := by
  intro p e Rm s m args below meth c H locs cells slots ls C hW hL hlc hc hs
  have hlocks : meth.locks = false := C.2.2.2.2.2.2.2.1
  refine W.widen (k := Rm.cells) (n := Rm.slots) (by omega) (by omega) ?_
  exact W.lret (v := v) C.1 C.2.1 (C.2.2.2.1.trans hr) (fun t ht hw => ⟨some (.long v), n, I, J, R, rfl, hq, by rw [ht]; exact hW.moved hw.alike⟩) hlc hd
theorem r_vret (hd : decode M.2.1 pc = .ok (.return_, 1)) (hr : M.2.2.2 = none) (hq : Q none n I J R) : Wp g d M pc L [] bc bs n I J R Q := by
  intro p e Rm s m args below meth c H locs cells slots ls C hW hL hlc hc hs
  have hlocks : meth.locks = false := C.2.2.2.2.2.2.2.1
  refine W.widen (k := Rm.cells) (n := Rm.slots) (by omega) (by omega) ?_
  exact W.vret C.1 C.2.1 (C.2.2.2.1.trans hr) (fun t ht hw => ⟨none, n, I, J, R, rfl, hq, by rw [ht]; exact hW.moved hw.alike⟩) hlc hd
end XRet
/-! fields -/
def up2 {α : Type} (f : Nat → Nat → α) (a k : Nat) (v : α) : Nat → Nat → α := fun x => if x = a then (fun j => if j = k then v else f a j) else f x
theorem up2_at {α : Type} (f : Nat → Nat → α) (a k : Nat) (v : α) : up2 f a k v a k = v := by simp [up2]
theorem up2_k {α : Type} (f : Nat → Nat → α) {a k j : Nat} (v : α) (h : j ≠ k) : up2 f a k v a j = f a j := by simp [up2, h]
theorem up2_a {α : Type} (f : Nat → Nat → α) {a b : Nat} (k : Nat) (v : α) (h : b ≠ a) : up2 f a k v b = f b := by simp [up2, h]
def Al (n a kd len : Nat) : Prop := LAY a = (kd, len) ∧ 12 ≤ a ∧ a < 12 + n
/-- what a class's table says, by a program -/
def CL (ci : Nat) (q : vw_C) : Prop := ci < 8 ∧ vwCl[ci]? = some q ∧ (∀ w ∈ u_ws q.1 q.2.1 q.2.2, w ∈ GW) ∧ (∀ k, k < q.2.2 → parseFieldDescriptor (q.2.1 k).2.2.1 = some (tyT ci k)) ∧ (∀ a, a < q.2.2 → ∀ b, b < q.2.2 → a ≠ b → (q.2.1 a).2.1 ≠ (q.2.1 b).2.1) ∧ ∀ k, k < q.2.2 → (q.2.1 k).1 = q.1
def FL (own : String) (idx ci : Nat) (q : vw_C) (k : Nat) : Prop := CL ci q ∧ k < q.2.2 ∧ Cond.fieldLink own idx q.1 (q.2.1 k).2.1 (q.2.1 k).2.2.1 ∈ GW
theorem ad_ne {g : GP} {a b : Nat} (ha : 12 ≤ a) (hb : 12 ≤ b) (h : b ≠ a) : ad g b ≠ ad g a := by
  unfold ad
  rw [if_neg (by omega), if_neg (by omega)]
  omega
theorem ad_ge {g : GP} {a : Nat} (ha : 12 ≤ a) : gA g (ad g a) := by
  unfold ad
  rw [if_neg (by omega)]
  show (gH g).size ≤ (gH g).size + (a - 12)
  omega
theorem CellK.congr {g : GP} {U : State} {H H' : Heap} {I I' : TI} {J J' : TJ} {R R' : TR} {a kd len : Nat} (hI : I' a = I a) (hJ : J' a = J a) (hR : R' a = R a) (hq : H'[ad g a]? = H[ad g a]?) (h : CellK g U H I J R a kd len) : CellK g U H' I' J' R' a kd len := by
  have e : (fun k => fvl g I' J' R' (tyT kd k) a k) = fun k => fvl g I J R (tyT kd k) a k := by
    funext k
    unfold fvl
    rw [hI, hJ, hR]
  unfold CellK at h ⊢
  rw [hI, hR, hq, e]
  split at h
  · next h1 => rw [if_pos h1]; exact h
  · next h1 =>
    rw [if_neg h1]
    split at h
    · next h2 => rw [if_pos h2]; exact h
    · next h2 =>
      rw [if_neg h2]
      split at h
      · next h3 => rw [if_pos h3]; exact h
      · next h3 =>
        rw [if_neg h3]
        split at h
        · next h4 => rw [if_pos h4]; exact h
        · next h4 =>
          rw [if_neg h4]
          split at h
          · next h5 => rw [if_pos h5]; exact h
          · next h5 =>
            rw [if_neg h5]
            exact ⟨h.1, h.2.kept hq⟩
theorem SL_lt {g : GP} {a : Nat} {q : FieldType × Nat} (h : SL g a = some q) : a < 12 := by
  unfold SL at h
  split at h <;> first | omega | cases h
theorem WR.put {g : GP} {U : State} {H H' : Heap} {n : Nat} {I I' : TI} {J J' : TJ} {R R' : TR} (hW : WR g U H n I J R) {a : Nat} (h12 : 12 ≤ a) (hz : H'.size = H.size) (oq : ∀ q, q ≠ ad g a → H'[q]? = H[q]?) (hI : ∀ b, b ≠ a → I' b = I b) (hJ : ∀ b, b ≠ a → J' b = J b) (hR : ∀ b, b ≠ a → R' b = R b) (hc : CellK g U H' I' J' R' a (LAY a).1 (LAY a).2) : WR g U H' n I' J' R' := by
  refine ⟨by rw [hz]; exact hW.1, fun q hq => ?_, fun b h1 h2 => ?_, fun b q hq => ?_⟩
  · have hge : (gH g).size ≤ ad g a := ad_ge h12
    rw [oq q (by omega)]
    exact hW.2.1 q hq
  · by_cases e : b = a
    · subst e; exact hc
    · exact (hW.2.2.1 b h1 h2).congr (hI b e) (hJ b e) (hR b e) (oq _ (ad_ne h12 h1 e))
  · have hb : b ≠ a := by have := SL_lt hq; omega
    rw [hI b hb]
    exact hW.2.2.2 b q hq
theorem WR.obj {g : GP} {U : State} {H : Heap} {n : Nat} {I : TI} {J : TJ} {R : TR} (hW : WR g U H n I J R) {a ci len : Nat} (ha : Al n a ci len) (hci : ci < 8) : t_OB (ad g a) ((gD g).1 ci) len ((gD g).2 ci) H (fun k => fvl g I J R (tyT ci k) a k) := by
  have h := hW.2.2.1 a ha.2.1 ha.2.2
  rw [ha.1] at h
  unfold CellK at h
  rw [if_neg (by omega), if_neg (by omega), if_neg (by omega), if_neg (by omega), if_neg (by omega)] at h
  exact h.2
section XF
variable {g : GP} {d : Nat} {M : MD} {pc : Nat} {L st : List Value} {bc bs n : Nat} {I : TI} {J : TJ} {R : TR} {Q : TQ}
theorem getf_core {idx ci a k : Nat} {q : vw_C} {w : Value} (hd : decode M.2.1 pc = .ok (.getfield idx, 3)) (hF : FL M.1.cls idx ci q k) (ha : Al n a ci q.2.2) (hw : ∀ g, cv g w = fvl g I J R (tyT ci k) a k) (K : Wp g d M (pc + 3) L (w :: st) bc bs n I J R Q) : Wp g d M pc L (.ref a :: st) bc bs n I J R Q := by
  intro p e Rm s m args below meth c H locs cells slots ls C hW hL hlc hc hs
  obtain ⟨⟨hci, hcl, hin, hty, hnm, hdc⟩, hk, hlink⟩ := hF
  obtain ⟨cell, q1, q2, q3, q4⟩ := hW.obj ha hci
  obtain ⟨hS, hfc, kC, hkC, hkind⟩ := C.2.2.2.2.2.2.1.1.1 ci _ hcl
  obtain ⟨cf, kf, fi, f, hi, hsl⟩ := hS k hk
  have hts : ∀ w ∈ GW, w.before args s = true := fun w h => GWb C h
  have hi2 := hi
  rw [hdc k hk] at hi2
  have K2 := K p e Rm s m args below meth c H locs cells slots ls C hW hL hlc hc hs
  rw [List.map_cons, hw g] at K2
  exact W.getf C.1 C.2.1 C.2.2.2.2.1 (GWb C hlink) hi2 (u_facts hfc hkC (u_lays hts hin hk) hi).1 q1 (by rw [q3]; exact fun h => by cases h) (by rw [hsl]; exact q4 k hk) rfl rfl hd K2
theorem r_getI {idx ci a k : Nat} {q : vw_C} (hd : decode M.2.1 pc = .ok (.getfield idx, 3)) (hF : FL M.1.cls idx ci q k) (ha : Al n a ci q.2.2) (hty : tyT ci k = .int ∨ tyT ci k = .boolean) (K : Wp g d M (pc + 3) L (.int (I a k) :: st) bc bs n I J R Q) : Wp g d M pc L (.ref a :: st) bc bs n I J R Q :=
  getf_core (w := .int (I a k)) hd hF ha (fun g => by rcases hty with h | h <;> rw [h] <;> rfl) K
theorem r_getJ {idx ci a k : Nat} {q : vw_C} (hd : decode M.2.1 pc = .ok (.getfield idx, 3)) (hF : FL M.1.cls idx ci q k) (ha : Al n a ci q.2.2) (hty : tyT ci k = .long) (K : Wp g d M (pc + 3) L (.long (J a k) :: st) bc bs n I J R Q) : Wp g d M pc L (.ref a :: st) bc bs n I J R Q :=
  getf_core (w := .long (J a k)) hd hF ha (fun g => by rw [hty] <;> rfl) K
theorem r_getR {idx ci a k b : Nat} {q : vw_C} (hd : decode M.2.1 pc = .ok (.getfield idx, 3)) (hF : FL M.1.cls idx ci q k) (ha : Al n a ci q.2.2) (hty : (∃ t, tyT ci k = .array t) ∨ ∃ t, tyT ci k = .object t) (hR : R a k = b) (hb : b ≠ 0) (K : Wp g d M (pc + 3) L (.ref b :: st) bc bs n I J R Q) : Wp g d M pc L (.ref a :: st) bc bs n I J R Q :=
  getf_core (w := .ref b) hd hF ha (fun g => by rcases hty with ⟨t, h⟩ | ⟨t, h⟩ <;> rw [h] <;> simp only [fvl, rv, hR, if_neg hb, cv]) K
theorem putf_core {idx ci a k : Nat} {q : vw_C} {w : Value} {I' : TI} {J' : TJ} {R' : TR} (hd : decode M.2.1 pc = .ok (.putfield idx, 3)) (hF : FL M.1.cls idx ci q k) (ha : Al n a ci q.2.2) (hfin : (q.2.1 k).2.2.2 = false ∨ (M.1.name = "<init>" ∧ q.1 = M.1.cls)) (hn : ∀ g, narrow (tyT ci k) (cv g w) = cv g w) (hfit : ∀ g, fits (tyT ci k) (cv g w) = true)
    (hI : ∀ b, b ≠ a → I' b = I b) (hJ : ∀ b, b ≠ a → J' b = J b) (hR : ∀ b, b ≠ a → R' b = R b) (hV : ∀ (g : GP) (j : Nat), j < q.2.2 → updV (fun k => fvl g I J R (tyT ci k) a k) k (cv g w) j = fvl g I' J' R' (tyT ci j) a j)
    (K : Wp g d M (pc + 3) L st bc bs n I' J' R' Q) : Wp g d M pc L (w :: .ref a :: st) bc bs n I J R Q := by
  intro p e Rm s m args below meth c H locs cells slots ls C hW hL hlc hc hs
  obtain ⟨⟨hci, hcl, hin, hty, hnm, hdc⟩, hk, hlink⟩ := hF
  obtain ⟨cell, q1, q2, q3, q4⟩ := hW.obj ha hci
  have hts : ∀ w ∈ GW, w.before args s = true := fun w h => GWb C h
  have hK : va_K (gD g) vwCl [] s := C.2.2.2.2.2.2.1.1
  have hap := va_apart (own := M.1.cls) hts hin (tyT ci) hty hnm hK hcl
  obtain ⟨hS, hfc, kC, hkC, hkind⟩ := hK.1 ci _ hcl
  obtain ⟨cf, kf, fi, f, hi, hsl⟩ := hS k hk
  have hi2 := hi
  rw [hdc k hk] at hi2
  have hst := (u_facts hfc hkC (u_lays hts hin hk) hi).1
  have hlay := hts _ (hin _ (u_in_lay hk))
  have fin : ∀ (H' : Heap), H'[ad g a]? = some (cell.setSlot f.slot (cv g w)) → H'.size = H.size → (∀ x, x ≠ ad g a → H'[x]? = H[x]?) → W p (gL g) e Rm s m args below meth c H' (locs ++ [⟨ad g a, f.slot⟩]) cells slots (MQ below (PQ g Q) args s Rm.cells Rm.slots (gA g)) (F0 m (pc + 3) ls (st.map (cv g))) := by
    intro H' e1 e2 e3
    rw [hsl] at e1
    refine K p e Rm s m args below meth c H' _ cells slots ls C (hW.put ha.2.1 e2 e3 hI hJ hR ?_) hL (fun x hx => ?_) hc hs
    · rw [ha.1]
      unfold CellK
      rw [if_neg (by omega), if_neg (by omega), if_neg (by omega), if_neg (by omega), if_neg (by omega)]
      exact ⟨hci, t_OB.to (V := updV (fun k => fvl g I J R (tyT ci k) a k) k (cv g w)) ⟨_, e1, q2, q3, t_set q4 hap hk (cv g w)⟩ (fun j hj => hV g j hj)⟩
    · rcases List.mem_append.mp hx with h | h
      · exact hlc x h
      · rw [List.mem_singleton.mp h]
        exact ad_ge ha.2.1
  rcases Bool.eq_false_or_eq_true (q.2.1 k).2.2.2 with hf | hf
  · rcases hfin with h0 | ⟨h0, h00⟩
    · rw [h0] at hf; cases hf
    unfold u_lay at hlay
    rw [if_pos hf] at hlay
    have hcf : m.cls = cf := by
      obtain ⟨_, _, c', _, _, _, -, -, hf', -, -, -, hown2, -⟩ := Cond.laysFinal_spec hlay
      have e1 : c' = cf := by have := hi.symm.trans hf'; simp at this; exact this.1.symm
      rw [hdc k hk, h00] at hown2
      rw [← e1]; exact Option.some.inj (C.2.2.2.2.1.symm.trans hown2)
    have h6 := u_fits hfc hkC hkind (Or.inr hlay) hi (hty k hk) (hn g) (hfit g)
    exact W.putFinK C.1 C.2.1 C.2.2.2.2.1 (GWb C hlink) hi2 hst hcf (C.2.2.2.2.2.2.2.2.1.trans h0) (by rw [q2]; exact h6) q1 q3 (by rw [hsl]; exact k2_hasslot (q4 k hk)) rfl rfl hd fin
  · unfold u_lay at hlay
    rw [if_neg (by rw [hf]; decide)] at hlay
    have h6 := u_store hfc hkC hkind hlay hi (hty k hk) (hn g) (hfit g)
    exact W.putK C.1 C.2.1 (f := f) ⟨C.2.2.2.2.1, GWb C hlink, ⟨_, _, _, hi2⟩, hst⟩ (by rw [q2]; exact h6) q1 q3 (by rw [hsl]; exact k2_hasslot (q4 k hk)) rfl rfl hd fin
theorem fvl_I {g : GP} {I : TI} {J : TJ} {R : TR} {ty : FieldType} {a k j : Nat} {x : Int32} : fvl g (up2 I a k x) J R ty a j = if j = k ∧ (ty = .int ∨ ty = .boolean) then .int x else fvl g I J R ty a j := by
  by_cases h : j = k
  · subst h
    cases ty <;> simp [fvl, up2]
  · cases ty <;> simp [fvl, up2, h]
theorem fvl_J {g : GP} {I : TI} {J : TJ} {R : TR} {ty : FieldType} {a k j : Nat} {x : Int64} : fvl g I (up2 J a k x) R ty a j = if j = k ∧ ty = .long then .long x else fvl g I J R ty a j := by
  by_cases h : j = k
  · subst h
    cases ty <;> simp [fvl, up2]
  · cases ty <;> simp [fvl, up2, h]
theorem r_putI {idx ci a k : Nat} {q : vw_C} {x : Int32} (hd : decode M.2.1 pc = .ok (.putfield idx, 3)) (hF : FL M.1.cls idx ci q k) (ha : Al n a ci q.2.2) (hfin : (q.2.1 k).2.2.2 = false ∨ (M.1.name = "<init>" ∧ q.1 = M.1.cls)) (hty : tyT ci k = .int) (K : Wp g d M (pc + 3) L st bc bs n (up2 I a k x) J R Q) : Wp g d M pc L (.int x :: .ref a :: st) bc bs n I J R Q := by
  refine putf_core (w := .int x) (I' := up2 I a k x) (J' := J) (R' := R) hd hF ha hfin (fun g => by rw [hty]; rfl) (fun g => by rw [hty]; rfl) (fun b hb => up2_a I k x hb) (fun _ _ => rfl) (fun _ _ => rfl) (fun g j hj => ?_) K
  rw [fvl_I]
  by_cases e : j = k
  · subst e
    simp [updV, hty, cv]
  · simp [updV, e]
theorem r_putZ {idx ci a k : Nat} {q : vw_C} {x : Int32} (hd : decode M.2.1 pc = .ok (.putfield idx, 3)) (hF : FL M.1.cls idx ci q k) (ha : Al n a ci q.2.2) (hfin : (q.2.1 k).2.2.2 = false ∨ (M.1.name = "<init>" ∧ q.1 = M.1.cls)) (hty : tyT ci k = .boolean) (hx : x = 0 ∨ x = 1) (K : Wp g d M (pc + 3) L st bc bs n (up2 I a k x) J R Q) : Wp g d M pc L (.int x :: .ref a :: st) bc bs n I J R Q := by
  refine putf_core (w := .int x) (I' := up2 I a k x) (J' := J) (R' := R) hd hF ha hfin (fun g => by rw [hty]; rcases hx with rfl | rfl <;> rfl) (fun g => by rw [hty]; rcases hx with rfl | rfl <;> rfl) (fun b hb => up2_a I k x hb) (fun _ _ => rfl) (fun _ _ => rfl) (fun g j hj => ?_) K
  rw [fvl_I]
  by_cases e : j = k
  · subst e
    simp [updV, hty, cv]
  · simp [updV, e]
theorem r_putJ {idx ci a k : Nat} {q : vw_C} {x : Int64} (hd : decode M.2.1 pc = .ok (.putfield idx, 3)) (hF : FL M.1.cls idx ci q k) (ha : Al n a ci q.2.2) (hfin : (q.2.1 k).2.2.2 = false ∨ (M.1.name = "<init>" ∧ q.1 = M.1.cls)) (hty : tyT ci k = .long) (K : Wp g d M (pc + 3) L st bc bs n I (up2 J a k x) R Q) : Wp g d M pc L (.long x :: .ref a :: st) bc bs n I J R Q := by
  refine putf_core (w := .long x) (I' := I) (J' := up2 J a k x) (R' := R) hd hF ha hfin (fun g => by rw [hty]; rfl) (fun g => by rw [hty]; rfl) (fun _ _ => rfl) (fun b hb => up2_a J k x hb) (fun _ _ => rfl) (fun g j hj => ?_) K
  rw [fvl_J]
  by_cases e : j = k
  · subst e
    simp [updV, hty, cv]
  · simp [updV, e]
theorem r_putR {idx ci a k b : Nat} {q : vw_C} (hd : decode M.2.1 pc = .ok (.putfield idx, 3)) (hF : FL M.1.cls idx ci q k) (ha : Al n a ci q.2.2) (hfin : (q.2.1 k).2.2.2 = false ∨ (M.1.name = "<init>" ∧ q.1 = M.1.cls)) (hty : (∃ t, tyT ci k = .array t) ∨ ∃ t, tyT ci k = .object t) (hb : b ≠ 0) (K : Wp g d M (pc + 3) L st bc bs n I J (up2 R a k b) Q) : Wp g d M pc L (.ref b :: .ref a :: st) bc bs n I J R Q := by
  refine putf_core (w := .ref b) (I' := I) (J' := J) (R' := up2 R a k b) hd hF ha hfin (fun g => by rcases hty with ⟨t, h⟩ | ⟨t, h⟩ <;> rw [h] <;> rfl) (fun g => by rcases hty with ⟨t, h⟩ | ⟨t, h⟩ <;> rw [h] <;> rfl) (fun _ _ => rfl) (fun _ _ => rfl) (fun x hx => up2_a R k b hx) (fun g j hj => ?_) K
  by_cases e : j = k
  · subst e
    rcases hty with ⟨t, h⟩ | ⟨t, h⟩ <;> simp [updV, h, cv, fvl, up2, rv, hb]
  · cases h : tyT ci j <;> simp [updV, e, fvl, up2, h]
end XF
