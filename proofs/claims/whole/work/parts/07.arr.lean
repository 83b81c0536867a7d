/-! arrays, statics -/
theorem LAY_len (a : Nat) : (LAY a).2 ≤ 960 := by
  unfold LAY
  have h : ∀ q ∈ layL, q.2 ≤ 960 := by decide +kernel
  rw [List.getD_eq_getElem?_getD]
  cases e : layL[a]? with
  | none => exact Nat.le_of_ble_eq_true rfl
  | some q => exact h q (List.mem_of_getElem? e)
theorem Al.len {n a kd len : Nat} (h : Al n a kd len) : len ≤ 960 := by
  have := LAY_len a
  rw [h.1] at this
  exact this
theorem WR.ck {g : GP} {U : State} {H : Heap} {n : Nat} {I : TI} {J : TJ} {R : TR} (hW : WR g U H n I J R) {a kd len : Nat} (ha : Al n a kd len) : CellK g U H I J R a kd len := by
  have h := hW.2.2.1 a ha.2.1 ha.2.2
  rw [ha.1] at h
  exact h
theorem WR.arrI {g : GP} {U : State} {H : Heap} {n : Nat} {I : TI} {J : TJ} {R : TR} (hW : WR g U H n I J R) {a len : Nat} (ha : Al n a 8 len) : ∃ cA, H[ad g a]? = some (arrV cA len (fun j => .int (I a j))) ∧ ArrOfT U cA .int := by
  have h := hW.ck ha
  unfold CellK at h
  rw [if_pos rfl] at h
  exact h
theorem WR.arrZ {g : GP} {U : State} {H : Heap} {n : Nat} {I : TI} {J : TJ} {R : TR} (hW : WR g U H n I J R) {a len : Nat} (ha : Al n a 9 len) : ∃ cA, H[ad g a]? = some (arrV cA len (fun j => .int (I a j))) ∧ ArrOfT U cA .boolean := by
  have h := hW.ck ha
  unfold CellK at h
  rw [if_neg (by decide), if_pos rfl] at h
  exact h
theorem WR.arrR {g : GP} {U : State} {H : Heap} {n : Nat} {I : TI} {J : TJ} {R : TR} (hW : WR g U H n I J R) {a kd len : Nat} (ha : Al n a kd len) (hk : kd = 10 ∨ kd = 11 ∨ kd = 12) : ∃ (cA : ClassId) (ty : FieldType), ty.isReference = true ∧ H[ad g a]? = some (arrV cA len (fun j => rv g (R a j))) ∧ ArrOfT U cA ty := by
  have h := hW.ck ha
  unfold CellK at h
  rcases hk with rfl | rfl | rfl
  · rw [if_neg (by decide), if_neg (by decide), if_pos rfl] at h
    obtain ⟨cA, h1, h2⟩ := h
    exact ⟨cA, _, rfl, h1, h2⟩
  · rw [if_neg (by decide), if_neg (by decide), if_neg (by decide), if_pos rfl] at h
    obtain ⟨cA, h1, h2, -⟩ := h
    exact ⟨cA, _, rfl, h1, h2⟩
  · rw [if_neg (by decide), if_neg (by decide), if_neg (by decide), if_neg (by decide), if_pos rfl] at h
    obtain ⟨cA, h1, h2, -⟩ := h
    exact ⟨cA, _, rfl, h1, h2⟩
theorem WR.stat {g : GP} {U : State} {H : Heap} {n : Nat} {I : TI} {J : TJ} {R : TR} (hW : WR g U H n I J R) {a : Nat} {q : FieldType × Nat} (h : SL g a = some q) : ∃ cell : Cell, H[ad g a]? = some cell ∧ U.isArrayOf cell q.1 ∧ cell.vm ≠ .unknown ∧ q.2 ≤ cell.slots.size ∧ cell.slots.size.toInt32 = Int32.ofNat q.2 ∧ ∀ j : Nat, j < q.2 → cell.slots[j]? = some (.int (I a j)) := by
  obtain ⟨cell, h1, h2, h3, h4, h5, h6, -⟩ := hW.2.2.2 a q h
  have e : ad g a = gS g a := by unfold ad; rw [if_pos (SL_lt h)]
  refine ⟨cell, ?_, h2, h3, h4, h5, h6⟩
  rw [e, hW.2.1 _ (Array.getElem?_eq_some_iff.mp h1).1]
  exact h1
theorem in_nI {j len : Nat} (hj : j < len) (hl : len < 2 ^ 31) : ¬ (nI j < 0 ∨ len ≤ (nI j).toNatClampNeg) := nI_in hj hl
section XA
variable {g : GP} {d : Nat} {M : MD} {pc : Nat} {L st : List Value} {bc bs n : Nat} {I : TI} {J : TJ} {R : TR} {Q : TQ}
theorem r_iald {a j len : Nat} {x : Int32} (hd : decode M.2.1 pc = .ok (.iaload, 1)) (ha : Al n a 8 len) (hj : j < len) (hx : x = nI j) (K : Wp g d M (pc + 1) L (.int (I a j) :: st) bc bs n I J R Q) : Wp g d M pc L (.int x :: .ref a :: st) bc bs n I J R Q := by
  intro p e Rm s m args below meth c H locs cells slots ls C hW hL hlc hc hs
  subst hx
  have h960 := ha.len
  obtain ⟨cA, h1, h2⟩ := hW.arrI ha
  exact W.iald (v := .int (I a j)) C.1 C.2.1 h1 (h2 _ _) (fun q => by cases q) (by rw [arrV_size]; exact in_nI hj (by omega)) (by rw [nI_clamp (by omega), arrV_read _ _ hj]) rfl rfl hd (K p e Rm s m args below meth c H locs cells slots ls C hW hL hlc hc hs)
theorem r_zald {a j len : Nat} {x : Int32} (hd : decode M.2.1 pc = .ok (.baload, 1)) (ha : Al n a 9 len) (hj : j < len) (hx : x = nI j) (K : Wp g d M (pc + 1) L (.int (I a j) :: st) bc bs n I J R Q) : Wp g d M pc L (.int x :: .ref a :: st) bc bs n I J R Q := by
  intro p e Rm s m args below meth c H locs cells slots ls C hW hL hlc hc hs
  subst hx
  have h960 := ha.len
  obtain ⟨cA, h1, h2⟩ := hW.arrZ ha
  exact W.zald (v := .int (I a j)) C.1 C.2.1 h1 (h2 _ _) (fun q => by cases q) (by rw [arrV_size]; exact in_nI hj (by omega)) (by rw [nI_clamp (by omega), arrV_read _ _ hj]) rfl rfl hd (K p e Rm s m args below meth c H locs cells slots ls C hW hL hlc hc hs)
theorem r_aald {a j b kd len : Nat} {x : Int32} (hd : decode M.2.1 pc = .ok (.aaload, 1)) (ha : Al n a kd len) (hk : kd = 10 ∨ kd = 11 ∨ kd = 12) (hj : j < len) (hx : x = nI j) (hR : R a j = b) (hb : b ≠ 0) (K : Wp g d M (pc + 1) L (.ref b :: st) bc bs n I J R Q) : Wp g d M pc L (.int x :: .ref a :: st) bc bs n I J R Q := by
  intro p e Rm s m args below meth c H locs cells slots ls C hW hL hlc hc hs
  subst hx
  have h960 := ha.len
  obtain ⟨cA, ty, h0, h1, h2⟩ := hW.arrR ha hk
  exact W.aald (v := .ref (ad g b)) C.1 C.2.1 h1 (h2 _ _) h0 (fun q => by cases q) (by rw [arrV_size]; exact in_nI hj (by omega)) (by rw [nI_clamp (by omega), arrV_read _ _ hj, hR, rv, if_neg hb]) rfl rfl hd (K p e Rm s m args below meth c H locs cells slots ls C hW hL hlc hc hs)
theorem r_ialdS {a j len : Nat} {x : Int32} (hd : decode M.2.1 pc = .ok (.iaload, 1)) (hS : SL g a = some (.int, len)) (hj : j < len) (hl : len < 2 ^ 31) (hx : x = nI j) (K : Wp g d M (pc + 1) L (.int (I a j) :: st) bc bs n I J R Q) : Wp g d M pc L (.int x :: .ref a :: st) bc bs n I J R Q := by
  intro p e Rm s m args below meth c H locs cells slots ls C hW hL hlc hc hs
  subst hx
  obtain ⟨cell, h1, h2, h3, h4, h5, h6⟩ := hW.stat hS
  exact W.iald (v := .int (I a j)) C.1 C.2.1 h1 h2 h3 (by rw [nI_clamp (by omega)]; rintro (q | q); exact nI_pos (by omega) q; omega) (by rw [nI_clamp (by omega)]; exact h6 j hj) rfl rfl hd (K p e Rm s m args below meth c H locs cells slots ls C hW hL hlc hc hs)
theorem r_baldS {a j len : Nat} {x : Int32} (hd : decode M.2.1 pc = .ok (.baload, 1)) (hS : SL g a = some (.byte, len)) (hj : j < len) (hl : len < 2 ^ 31) (hx : x = nI j) (K : Wp g d M (pc + 1) L (.int (I a j) :: st) bc bs n I J R Q) : Wp g d M pc L (.int x :: .ref a :: st) bc bs n I J R Q := by
  intro p e Rm s m args below meth c H locs cells slots ls C hW hL hlc hc hs
  subst hx
  obtain ⟨cell, h1, h2, h3, h4, h5, h6⟩ := hW.stat hS
  exact W.bald (v := .int (I a j)) C.1 C.2.1 h1 h2 h3 (by rw [nI_clamp (by omega)]; rintro (q | q); exact nI_pos (by omega) q; omega) (by rw [nI_clamp (by omega)]; exact h6 j hj) rfl rfl hd (K p e Rm s m args below meth c H locs cells slots ls C hW hL hlc hc hs)
theorem r_alenS {a len : Nat} {ty : FieldType} (hd : decode M.2.1 pc = .ok (.arraylength, 1)) (hS : SL g a = some (ty, len)) (K : Wp g d M (pc + 1) L (.int (nI len) :: st) bc bs n I J R Q) : Wp g d M pc L (.ref a :: st) bc bs n I J R Q := by
  intro p e Rm s m args below meth c H locs cells slots ls C hW hL hlc hc hs
  obtain ⟨cell, h1, h2, h3, h4, h5, h6⟩ := hW.stat hS
  exact W.alen (n := nI len) C.1 C.2.1 h1 h2 h5 rfl rfl hd (K p e Rm s m args below meth c H locs cells slots ls C hW hL hlc hc hs)
theorem r_alen {a kd len : Nat} (hd : decode M.2.1 pc = .ok (.arraylength, 1)) (ha : Al n a kd len) (hk : kd = 8 ∨ kd = 9 ∨ kd = 10 ∨ kd = 11 ∨ kd = 12) (K : Wp g d M (pc + 1) L (.int (nI len) :: st) bc bs n I J R Q) : Wp g d M pc L (.ref a :: st) bc bs n I J R Q := by
  intro p e Rm s m args below meth c H locs cells slots ls C hW hL hlc hc hs
  have hg : ∃ (cell : Cell) (ty : FieldType), H[ad g a]? = some cell ∧ s.isArrayOf cell ty ∧ cell.slots.size.toInt32 = nI len := by
    rcases hk with rfl | rfl | h
    · obtain ⟨cA, h1, h2⟩ := hW.arrI ha
      exact ⟨_, _, h1, h2 _ _, by rw [arrV_size]; rfl⟩
    · obtain ⟨cA, h1, h2⟩ := hW.arrZ ha
      exact ⟨_, _, h1, h2 _ _, by rw [arrV_size]; rfl⟩
    · obtain ⟨cA, ty, h0, h1, h2⟩ := hW.arrR ha h
      exact ⟨_, _, h1, h2 _ _, by rw [arrV_size]; rfl⟩
  obtain ⟨cell, ty, h1, h2, h3⟩ := hg
  exact W.alen (n := nI len) C.1 C.2.1 h1 h2 h3 rfl rfl hd (K p e Rm s m args below meth c H locs cells slots ls C hW hL hlc hc hs)
theorem locs_app {g : GP} {locs : List Loc} {b k : Nat} (h : ∀ q ∈ locs, gA g q.base) (hb : gA g b) : ∀ q ∈ locs ++ [(⟨b, k⟩ : Loc)], gA g q.base := fun x hx => by
  rcases List.mem_append.mp hx with h1 | h1
  · exact h x h1
  · rw [List.mem_singleton.mp h1]; exact hb
theorem r_iast {a j len : Nat} {x y : Int32} (hd : decode M.2.1 pc = .ok (.iastore, 1)) (ha : Al n a 8 len) (hj : j < len) (hx : x = nI j) (K : Wp g d M (pc + 1) L st bc bs n (up2 I a j y) J R Q) : Wp g d M pc L (.int y :: .int x :: .ref a :: st) bc bs n I J R Q := by
  intro p e Rm s m args below meth c H locs cells slots ls C hW hL hlc hc hs
  subst hx
  have h960 := ha.len
  obtain ⟨cA, h1, h2⟩ := hW.arrI ha
  refine W.iast C.1 C.2.1 h1 (h2 _ _) (fun q => by cases q) (by rw [arrV_size]; exact in_nI hj (by omega)) rfl rfl hd (fun H1 e1 e2 e3 => ?_)
  refine K p e Rm s m args below meth c H1 _ cells slots ls C (hW.put ha.2.1 e2 e3 (fun b hb => up2_a I j y hb) (fun _ _ => rfl) (fun _ _ => rfl) ?_) hL (locs_app hlc (ad_ge ha.2.1)) hc hs
  rw [ha.1]
  unfold CellK
  rw [if_pos rfl]
  refine ⟨cA, ?_, h2⟩
  rw [e1, nI_clamp (by omega), arrV_store]
  congr 2
  funext q
  by_cases hq : q = j
  · simp [updV, up2, hq]
  · simp [updV, up2, hq]
theorem r_zast {a j len : Nat} {x y : Int32} (hd : decode M.2.1 pc = .ok (.bastore, 1)) (ha : Al n a 9 len) (hj : j < len) (hx : x = nI j) (hy : y = 0 ∨ y = 1) (K : Wp g d M (pc + 1) L st bc bs n (up2 I a j y) J R Q) : Wp g d M pc L (.int y :: .int x :: .ref a :: st) bc bs n I J R Q := by
  intro p e Rm s m args below meth c H locs cells slots ls C hW hL hlc hc hs
  subst hx
  have h960 := ha.len
  obtain ⟨cA, h1, h2⟩ := hW.arrZ ha
  refine W.zast C.1 C.2.1 h1 (h2 _ _) (fun q => by cases q) (by rw [arrV_size]; exact in_nI hj (by omega)) rfl rfl hd (fun H1 e1 e2 e3 => ?_)
  refine K p e Rm s m args below meth c H1 _ cells slots ls C (hW.put ha.2.1 e2 e3 (fun b hb => up2_a I j y hb) (fun _ _ => rfl) (fun _ _ => rfl) ?_) hL (locs_app hlc (ad_ge ha.2.1)) hc hs
  rw [ha.1]
  show CellK _ _ _ _ _ _ _ 9 len
  unfold CellK
  rw [if_neg (by decide), if_pos rfl]
  refine ⟨cA, ?_, h2⟩
  have hn : narrow .boolean (.int y) = .int y := by rcases hy with rfl | rfl <;> rfl
  rw [e1, nI_clamp (by omega), hn, arrV_store]
  congr 2
  funext q
  by_cases hq : q = j
  · simp [updV, up2, hq]
  · simp [updV, up2, hq]
theorem r_aast {a j b kd ci len : Nat} {q : vw_C} {x : Int32} (hd : decode M.2.1 pc = .ok (.aastore, 1)) (ha : Al n a kd len) (hj : j < len) (hx : x = nI j) (hb : Al n b ci q.2.2) (hq : CL ci q) (hk : (kd = 11 ∧ q.1 = RX4) ∨ (kd = 12 ∧ q.1 = RX2)) (K : Wp g d M (pc + 1) L st bc bs n I J (up2 R a j b) Q) : Wp g d M pc L (.ref b :: .int x :: .ref a :: st) bc bs n I J R Q := by
  intro p e Rm s m args below meth c H locs cells slots ls C hW hL hlc hc hs
  subst hx
  have h960 := ha.len
  have hA : ∃ cA, H[ad g a]? = some (arrV cA len (fun j => rv g (R a j))) ∧ ArrOfT s cA (.object q.1) ∧ va_RA s cA (.object q.1) := by
    have h := hW.ck ha
    unfold CellK at h
    rcases hk with ⟨rfl, h0⟩ | ⟨rfl, h0⟩
    · rw [if_neg (by decide), if_neg (by decide), if_neg (by decide), if_pos rfl] at h
      rw [h0]; exact h
    · rw [if_neg (by decide), if_neg (by decide), if_neg (by decide), if_neg (by decide), if_pos rfl] at h
      rw [h0]; exact h
  obtain ⟨cA, h1, h2, kA, comp, k1, k2, k3, k4⟩ := hA
  obtain ⟨cellV, g1, g2, g3, -⟩ := hW.obj hb hq.1
  have hcls := (C.2.2.2.2.2.2.1.1.1 ci q hq.2.1).2
  have hcomp : comp = (gD g).1 ci := Option.some.inj (k3.symm.trans hcls.1)
  subst hcomp
  obtain ⟨kC, hkC, -⟩ := hcls.2
  have hb0 : b ≠ 0 := by have := hb.2.1; omega
  refine W.aast C.1 C.2.1 h1 (fun q h => by cases h) (fun h => by cases h) k1 k2 rfl hkC ⟨fun z => nI_pos (by omega) z, by rw [arrV_size, nI_clamp (by omega)]; exact hj⟩ g1 (fun q h => by rw [g3] at h; cases h) (by rw [g2]; exact hkC) (by rw [g2]; exact va_assign hcls) rfl rfl hd (fun H1 e1 e2 e3 => ?_)
  refine K p e Rm s m args below meth c H1 _ cells slots ls C (hW.put ha.2.1 e2 e3 (fun _ _ => rfl) (fun _ _ => rfl) (fun x hx => up2_a R j b hx) ?_) hL (locs_app hlc (ad_ge ha.2.1)) hc hs
  have key : H1[ad g a]? = some (arrV cA len (fun j' => rv g (up2 R a j b a j'))) := by
    rw [e1, nI_clamp (by omega), arrV_store]
    congr 2
    funext q
    by_cases hq : q = j
    · simp [updV, up2, hq, rv, hb0]
    · simp [updV, up2, hq]
  rw [ha.1]
  show CellK _ _ _ _ _ _ _ kd len
  unfold CellK
  rcases hk with ⟨rfl, h0⟩ | ⟨rfl, h0⟩
  · rw [if_neg (by decide), if_neg (by decide), if_neg (by decide), if_pos rfl]
    rw [h0] at h2 k2 k3 k4
    exact ⟨cA, key, h2, kA, _, k1, k2, k3, k4⟩
  · rw [if_neg (by decide), if_neg (by decide), if_neg (by decide), if_neg (by decide), if_pos rfl]
    rw [h0] at h2 k2 k3 k4
    exact ⟨cA, key, h2, kA, _, k1, k2, k3, k4⟩
theorem gets_core {idx : Nat} {q : String × String × String × Value} {v : Value} (hd : decode M.2.1 pc = .ok (.getstatic idx, 3)) (hz : ∀ g, (q.1, q.2.1, q.2.2.1, cv g v) ∈ zsL g) (hlink : Cond.fieldLink M.1.cls idx q.1 q.2.1 q.2.2.1 ∈ GW) (K : Wp g d M (pc + 3) L (v :: st) bc bs n I J R Q) : Wp g d M pc L st bc bs n I J R Q := by
  intro p e Rm s m args below meth c H locs cells slots ls C hW hL hlc hc hs
  obtain ⟨cf, kf, fi, f, a, cell, h1, h2, h3, h4, h5, h6, h7, h8⟩ := C.2.2.2.2.2.2.1.2.1 _ (hz g)
  exact W.gets (v := cv g v) C.1 C.2.1 C.2.2.2.2.1 (GWb C hlink) h1 h2 h3 h4 (by rw [hW.2.1 a (Array.getElem?_eq_some_iff.mp h5).1]; exact h5) (fun e => by rw [e] at h6; cases h6) h7 rfl hd (K p e Rm s m args below meth c H locs cells slots ls C hW hL hlc hc hs)
theorem getsN_core {idx : Nat} {q : String × String × String × Value} {v : Value} (hd : decode M.2.1 pc = .ok (.getstatic idx, 3)) (hz : ∀ g, (q.1, q.2.1, q.2.2.1, cv g v) ∈ zsL g) (hlink : Cond.fieldLinkNest M.1.cls idx q.1 q.2.1 q.2.2.1 RX6 ∈ nestW) (K : Wp g d M (pc + 3) L (v :: st) bc bs n I J R Q) : Wp g d M pc L st bc bs n I J R Q := by
  intro p e Rm s m args below meth c H locs cells slots ls C hW hL hlc hc hs
  obtain ⟨cf, kf, fi, f, a, cell, h1, h2, h3, h4, h5, h6, h7, h8⟩ := C.2.2.2.2.2.2.1.2.1 _ (hz g)
  exact va_WgetsN (v := cv g v) C.1 C.2.1 C.2.2.2.2.1 (va_Nw.use rfl (C.2.2.2.2.2.2.1.2.2.2.2.1 _ hlink)) h1 h2 h3 h4 (by rw [hW.2.1 a (Array.getElem?_eq_some_iff.mp h5).1]; exact h5) (fun e => by rw [e] at h6; cases h6) h7 rfl hd (K p e Rm s m args below meth c H locs cells slots ls C hW hL hlc hc hs)
theorem r_getStr {idx i : Nat} {w : Value} {nm ds : String} (hd : decode M.2.1 pc = .ok (.getfield idx, 3)) (hi : i < 3) (hw : (nm = "coder" ∧ ds = "B" ∧ w = .int 0) ∨ (nm = "value" ∧ ds = "[B" ∧ w = .ref (9 + i))) (hlink : Cond.fieldLink M.1.cls idx "java/lang/String" nm ds ∈ GW) (K : Wp g d M (pc + 3) L (w :: st) bc bs n I J R Q) : Wp g d M pc L (.ref (6 + i) :: st) bc bs n I J R Q := by
  intro p e Rm s m args below meth c H locs cells slots ls C hW hL hlc hc hs
  obtain ⟨-, h1, h2⟩ := C.2.2.2.2.2.2.1.2.2.1 i hi
  have e6 : ad g (6 + i) = gS g (6 + i) := by unfold ad; rw [if_pos (by omega)]
  have e9 : ad g (9 + i) = gS g (9 + i) := by unfold ad; rw [if_pos (by omega)]
  have hOF : va_OF "java/lang/String" nm ds (cv g w) (gS g (6 + i)) (gA g) s (gH g) := by
    rcases hw with ⟨rfl, rfl, rfl⟩ | ⟨rfl, rfl, rfl⟩
    · exact h1
    · show va_OF _ _ _ (.ref (ad g (9 + i))) _ _ _ _
      rw [e9]; exact h2
  obtain ⟨cf, k, fi, f, cell, q1, q2, q3, q4, q5, q6⟩ := hOF
  show W p (gL g) e Rm s m args below meth c H locs cells slots _ (F0 m pc ls (.ref (ad g (6 + i)) :: st.map (cv g)))
  rw [e6]
  exact W.getf C.1 C.2.1 C.2.2.2.2.1 (GWb C hlink) q1 q2 (by rw [hW.2.1 _ (Array.getElem?_eq_some_iff.mp q3).1]; exact q3) q4 (v := cv g w) q5 rfl rfl hd (K p e Rm s m args below meth c H locs cells slots ls C hW hL hlc hc hs)
end XA
