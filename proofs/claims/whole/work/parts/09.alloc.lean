/-! what is made; what is copied -/
def z1 {α : Type} (z : α) (f : Nat → Nat → α) (a : Nat) : Nat → Nat → α := fun x => if x = a then (fun _ => z) else f x
theorem z1_at {α : Type} (z : α) (f : Nat → Nat → α) (a : Nat) : z1 z f a a = fun _ => z := by simp [z1]
theorem z1_ne {α : Type} (z : α) (f : Nat → Nat → α) {a b : Nat} (h : b ≠ a) : z1 z f a b = f b := by simp [z1, h]
def okTy : FieldType → Bool
  | .int => true
  | .boolean => true
  | .long => true
  | .array _ => true
  | .object _ => true
  | _ => false
theorem fvl_z {g : GP} {I : TI} {J : TJ} {R : TR} {ty : FieldType} {a k : Nat} (hI : I a k = 0) (hJ : J a k = 0) (hR : R a k = 0) (h : okTy ty = true) : fvl g I J R ty a k = defaultValue ty := by
  cases ty <;> first | (simp [okTy] at h; done) | simp [fvl, hI, hJ, hR, rv, defaultValue]
theorem WR.push {g : GP} {U : State} {H H' : Heap} {n : Nat} {I I' : TI} {J J' : TJ} {R R' : TR} (hW : WR g U H n I J R) (hz : H'.size = H.size + 1) (oq : ∀ q, q < H.size → H'[q]? = H[q]?) (hI : ∀ b, b ≠ 12 + n → I' b = I b) (hJ : ∀ b, b ≠ 12 + n → J' b = J b) (hR : ∀ b, b ≠ 12 + n → R' b = R b) (hc : CellK g U H' I' J' R' (12 + n) (LAY (12 + n)).1 (LAY (12 + n)).2) : WR g U H' (n + 1) I' J' R' := by
  refine ⟨by rw [hz, hW.1]; omega, fun q hq => ?_, fun b h1 h2 => ?_, fun b q hq => ?_⟩
  · rw [oq q (by rw [hW.1]; omega)]
    exact hW.2.1 q hq
  · by_cases e : b = 12 + n
    · subst e; exact hc
    · refine (hW.2.2.1 b h1 (by omega)).congr (hI b e) (hJ b e) (hR b e) (oq _ ?_)
      unfold ad
      rw [if_neg (by omega), hW.1]
      omega
  · have hb : b ≠ 12 + n := by have := SL_lt hq; omega
    rw [hI b hb]
    exact hW.2.2.2 b q hq
theorem ad_new {g : GP} {U : State} {H : Heap} {n : Nat} {I : TI} {J : TJ} {R : TR} (hW : WR g U H n I J R) : ad g (12 + n) = H.size := by
  unfold ad
  rw [if_neg (by omega), hW.1]
  omega
def cpI (I : TI) (src dst sp dp k : Nat) : TI := fun x => if x = dst then va_cpy (I src) (I dst) sp dp k else I x
theorem cpI_ne (I : TI) {src dst sp dp k b : Nat} (h : b ≠ dst) : cpI I src dst sp dp k b = I b := by simp [cpI, h]
theorem cpI_at (I : TI) (src dst sp dp k : Nat) : cpI I src dst sp dp k dst = va_cpy (I src) (I dst) sp dp k := by simp [cpI]
theorem nI_tI {j : Nat} (h : j < 2 ^ 31) : (nI j).toInt = (j : Int) := nI_toInt h
section XN
variable {g : GP} {d : Nat} {M : MD} {pc idx : Nat} {L st : List Value} {bc bs n : Nat} {I : TI} {J : TJ} {R : TR} {Q : TQ}
theorem r_new {ci : Nat} {q : vw_C} (hd : decode M.2.1 pc = .ok (.new idx, 3)) (hq : CL ci q) (hl : Cond.classLink M.1.cls idx q.1 ∈ GW) (hi : Cond.instantiable q.1 q.2.2 ∈ GW) (hini : Cond.initialized q.1 ∈ GW) (hok : ∀ k, k < q.2.2 → okTy (tyT ci k) = true) (hA : LAY (12 + n) = (ci, q.2.2)) (K : Wp g d M (pc + 3) L (.ref (12 + n) :: st) bc bs (n + 1) (z1 0 I (12 + n)) (z1 0 J (12 + n)) (z1 0 R (12 + n)) Q) : Wp g d M pc L st (bc + 1) (bs + q.2.2) n I J R Q := by
  intro p e Rm s m args below meth c H locs cells slots ls C hW hL hlc hc hs
  obtain ⟨hci, hcl, hin, hty, hnm, hdc⟩ := hq
  have hts : ∀ w ∈ GW, w.before args s = true := fun w h => GWb C h
  have hKn := C.2.2.2.2.2.2.1.1.1 ci _ hcl
  refine W.newcK C.1 C.2.1 C.2.2.2.2.1 (GWb C hl) (GWb C hi) (GWb C hini) rfl hd (by omega) (by omega) hKn.2.1 rfl fun H1 kC hkC e1 z2 o1 => ?_
  have K2 := K p e Rm s m args below meth c H1 locs (cells + 1) (slots + q.2.2) ls C (hW.push z2 o1 (fun b hb => z1_ne 0 I hb) (fun b hb => z1_ne 0 J hb) (fun b hb => z1_ne 0 R hb) ?_) hL hlc (by omega) (by omega)
  · rw [List.map_cons, cv, ad_new hW] at K2
    exact K2
  · rw [hA]
    show CellK _ _ _ _ _ _ _ ci q.2.2
    unfold CellK
    rw [if_neg (by omega), if_neg (by omega), if_neg (by omega), if_neg (by omega), if_neg (by omega), ad_new hW]
    exact ⟨hci, (u_born (tyT ci) hts hin hKn hkC e1 hty).to (fun k hk => (fvl_z (by rw [z1_at]) (by rw [z1_at]) (by rw [z1_at]) (hok k hk)).symm)⟩
theorem r_newaI {x : Int32} {N : Nat} (hd : decode M.2.1 pc = .ok (.newarray .int, 2)) (hw : Cond.arrayClass .int ∈ GW) (hx : x = nI N) (hA : LAY (12 + n) = (8, N)) (K : Wp g d M (pc + 2) L (.ref (12 + n) :: st) bc bs (n + 1) (z1 0 I (12 + n)) J R Q) : Wp g d M pc L (.int x :: st) (bc + 1) (bs + N) n I J R Q := by
  intro p e Rm s m args below meth c H locs cells slots ls C hW hL hlc hc hs
  subst hx
  have h960 : N ≤ 960 := by have := LAY_len (12 + n); rw [hA] at this; exact this
  refine W.newaK (atype := .int) C.1 C.2.1 (GWb C hw) rfl hd rfl (nI_pos (by omega)) (nI_clamp (by omega)) (by show N * 4 ≤ _; omega) (by omega) (by omega) rfl fun H1 cA e1 z2 o1 hAr => ?_
  have K2 := K p e Rm s m args below meth c H1 locs (cells + 1) (slots + N) ls C (hW.push z2 o1 (fun b hb => z1_ne 0 I hb) (fun _ _ => rfl) (fun _ _ => rfl) ?_) hL hlc (by omega) (by omega)
  · rw [List.map_cons, cv, ad_new hW] at K2
    exact K2
  · rw [hA]
    show CellK _ _ _ _ _ _ _ 8 N
    unfold CellK
    rw [if_pos rfl, ad_new hW, z1_at]
    exact ⟨cA, e1, hAr⟩
theorem r_newaZ {x : Int32} {N : Nat} (hd : decode M.2.1 pc = .ok (.newarray .boolean, 2)) (hw : Cond.arrayClass .boolean ∈ GW) (hx : x = nI N) (hA : LAY (12 + n) = (9, N)) (K : Wp g d M (pc + 2) L (.ref (12 + n) :: st) bc bs (n + 1) (z1 0 I (12 + n)) J R Q) : Wp g d M pc L (.int x :: st) (bc + 1) (bs + N) n I J R Q := by
  intro p e Rm s m args below meth c H locs cells slots ls C hW hL hlc hc hs
  subst hx
  have h960 : N ≤ 960 := by have := LAY_len (12 + n); rw [hA] at this; exact this
  refine W.newaK (atype := .boolean) C.1 C.2.1 (GWb C hw) rfl hd rfl (nI_pos (by omega)) (nI_clamp (by omega)) (by show N * 1 ≤ _; omega) (by omega) (by omega) rfl fun H1 cA e1 z2 o1 hAr => ?_
  have K2 := K p e Rm s m args below meth c H1 locs (cells + 1) (slots + N) ls C (hW.push z2 o1 (fun b hb => z1_ne 0 I hb) (fun _ _ => rfl) (fun _ _ => rfl) ?_) hL hlc (by omega) (by omega)
  · rw [List.map_cons, cv, ad_new hW] at K2
    exact K2
  · rw [hA]
    show CellK _ _ _ _ _ _ _ 9 N
    unfold CellK
    rw [if_neg (by decide), if_pos rfl, ad_new hW, z1_at]
    exact ⟨cA, e1, hAr⟩
theorem r_anew {x : Int32} {N kd : Nat} {C0 : String} (hd : decode M.2.1 pc = .ok (.anewarray idx, 3)) (hl : Cond.classLink M.1.cls idx C0 ∈ GW) (hx : x = nI N) (hk : (kd = 11 ∧ C0 = RX4) ∨ (kd = 12 ∧ C0 = RX2)) (hA : LAY (12 + n) = (kd, N)) (K : Wp g d M (pc + 3) L (.ref (12 + n) :: st) bc bs (n + 1) I J (z1 0 R (12 + n)) Q) : Wp g d M pc L (.int x :: st) (bc + 1) (bs + N) n I J R Q := by
  intro p e Rm s m args below meth c H locs cells slots ls C hW hL hlc hc hs
  subst hx
  have h960 : N ≤ 960 := by have := LAY_len (12 + n); rw [hA] at this; exact this
  have hV := C.2.2.2.2.2.2.1
  have hover : va_AO C0 s := by
    rcases hk with ⟨-, rfl⟩ | ⟨-, rfl⟩
    · exact hV.2.2.2.2.2.2.1
    · exact hV.2.2.2.2.2.2.2.1
  have hcl : (nI N).toNatClampNeg = N := nI_clamp (by omega)
  refine W.anew C.1 C.2.1 C.2.2.2.2.1 (GWb C hl) (va_AO.use hover) rfl hd rfl (nI_pos (by omega)) (by rw [hcl]; omega) (by omega) (by rw [hcl]; omega) fun cA kA comp f1 f2 f3 f4 => ?_
  rw [hcl]
  generalize hH1 : H.push ({ cls := cA, slots := Array.replicate N .null, vm := .none } : Cell) = H1
  have z2 : H1.size = H.size + 1 := by rw [← hH1, Array.size_push]
  have e1 : H1[H.size]? = some (arrV cA N (fun _ => .null)) := by rw [← hH1, Array.getElem?_push_size, ← arrV_new]
  have o1 : ∀ q : Nat, q < H.size → H1[q]? = H[q]? := fun q hq => by rw [← hH1, Array.getElem?_push, if_neg (Nat.ne_of_lt hq)]
  have hAr : ArrOfT s cA (.object C0) := fun N z => ⟨(fun k h => by cases h), kA, f2, comp, f3⟩
  have K2 := K p e Rm s m args below meth c H1 locs (cells + 1) (slots + N) ls C (hW.push z2 o1 (fun _ _ => rfl) (fun _ _ => rfl) (fun b hb => z1_ne 0 R hb) ?_) hL hlc (by omega) (by omega)
  · rw [List.map_cons, cv, ad_new hW] at K2
    exact K2
  · rw [hA]
    show CellK _ _ _ _ _ _ _ kd N
    unfold CellK
    rcases hk with ⟨rfl, rfl⟩ | ⟨rfl, rfl⟩
    · rw [if_neg (by decide), if_neg (by decide), if_neg (by decide), if_pos rfl, ad_new hW, z1_at]
      exact ⟨cA, e1, hAr, kA, comp, f2, f3, f4, f1⟩
    · rw [if_neg (by decide), if_neg (by decide), if_neg (by decide), if_neg (by decide), if_pos rfl, ad_new hW, z1_at]
      exact ⟨cA, e1, hAr, kA, comp, f2, f3, f4, f1⟩
theorem r_acopy {src dst n0 n1 sp dp k : Nat} {x y w : Int32} (hd : decode M.2.1 pc = .ok (.invokestatic idx, 3)) (hl : Cond.methodLink M.1.cls idx arraycopyName ∈ GW) (hnat : Cond.native arraycopyName ∈ GW) (hstat : Cond.static arraycopyName ∈ GW) (hini : Cond.initialized "java/lang/System" ∈ GW) (hs0 : Al n src 8 n0) (hs1 : Al n dst 8 n1) (hx : x = nI sp) (hy : y = nI dp) (hw : w = nI k) (h4 : sp + k ≤ n0) (h5 : dp + k ≤ n1) (h8 : (st.map fun v => v.category).sum ≤ 8)
    (K : Wp g (d + 1) M (pc + 3) L st bc bs n (cpI I src dst sp dp k) J R Q) : Wp g (d + 1) M pc L (.int w :: .int y :: .ref dst :: .int x :: .ref src :: st) bc bs n I J R Q := by
  intro p e Rm s m args below meth c H locs cells slots ls C hW hL hlc hc hs
  subst hx hy hw
  have hV := C.2.2.2.2.2.2.1
  have hx := C.2.2.2.2.2.2.2.2.2
  have l0 := hs0.len
  have l1 := hs1.len
  obtain ⟨c0, hc0, hA0⟩ := hW.arrI hs0
  obtain ⟨c1, hc1, hA1⟩ := hW.arrI hs1
  obtain ⟨-, k0, hk0, cm0, hkk0⟩ := hA0 n0 (fun j => .int (I src j))
  obtain ⟨-, k1, hk1, cm1, hkk1⟩ := hA1 n1 (fun j => .int (I dst j))
  have ck : (nI k).toNatClampNeg = k := nI_clamp (by omega)
  have csp : (nI sp).toNatClampNeg = sp := nI_clamp (by omega)
  have cdp : (nI dp).toNatClampNeg = dp := nI_clamp (by omega)
  intro T hT X
  obtain ⟨vm', X', step⟩ := X.arraycopy C.1 C.2.2.2.2.1 (GWb C hl) (GWb C hnat) (GWb C hstat) (GWb C hini) (src := ad g src) (dst := ad g dst) (cs := arrV c0 n0 (fun j => .int (I src j))) (cd := arrV c1 n1 (fun j => .int (I dst j))) (srcPos := nI sp) (destPos := nI dp) (n := nI k) (by rw [hT]; exact hc0) (by rw [hT]; exact hc1)
    (fun _ h => by cases h) (fun _ h => by cases h) (fun h => by cases h) (fun h => by cases h) hk0 hk1 hkk0 hkk1 (by decide) (nI_pos (by omega)) (nI_pos (by omega)) (nI_pos (by omega))
    (by rw [nI_tI (by omega), nI_tI (by omega), arrV_size]; omega)
    (by rw [nI_tI (by omega), nI_tI (by omega), arrV_size]; omega)
    (fun vm₁ _ i hi => by
      have e9 : (arrV c0 n0 (fun j => .int (I src j))).slots.getD ((nI sp).toNatClampNeg + i) .null = .int (I src ((nI sp).toNatClampNeg + i)) := by
        rw [Array.getD_eq_getD_getElem?, arrV_read _ _ (by rw [csp]; rw [ck] at hi; omega)]
        rfl
      refine ⟨?_, ?_⟩
      · rw [e9]; rfl
      · rw [e9]; exact trivial)
    (g := F0 m pc ls ((.int (nI k) :: .int (nI dp) :: .ref dst :: .int (nI sp) :: .ref src :: st).map (cv g))) rfl (by rw [C.2.2.1]; exact hL.1) (rest := st.map (cv g)) rfl (by rw [C.2.1]; exact hd) (by omega) (by
      show 2 * 0 + _ + (nativeFrameWords "java/lang/System" "arraycopy" 5 + 11) ≤ _
      rw [cv_sum hV.2.2.2.2.2.1]
      have h9 : nativeFrameWords "java/lang/System" "arraycopy" 5 + 11 ≤ 45 := by decide +kernel
      omega)
  have e1 : copied (arrV c0 n0 (fun j => .int (I src j))) (arrV c1 n1 (fun j => .int (I dst j))) (nI sp) (nI dp) (nI k) = arrV c1 n1 (fun j => .int (va_cpy (I src) (I dst) sp dp k j)) := by
    have := va_copied (fun z : Int32 => Value.int z) c0 c1 (n0 := n0) (n1 := n1) (sp := sp) (dp := dp) (n := k) (I src) (I dst) h4
    unfold copied
    rw [ck, csp, cdp]
    exact this
  rw [e1] at X' step
  have hlt : ad g dst < H.size := (Array.getElem?_eq_some_iff.mp hc1).1
  have hheap : ((T.setVm vm').setCell (ad g dst) (arrV c1 n1 (fun j => .int (va_cpy (I src) (I dst) sp dp k j)))).heap = H.setIfInBounds (ad g dst) (arrV c1 n1 (fun j => .int (va_cpy (I src) (I dst) sp dp k j))) := by rw [← hT]; rfl
  have oq : ∀ q : Nat, q ≠ ad g dst → (H.setIfInBounds (ad g dst) (arrV c1 n1 (fun j => .int (va_cpy (I src) (I dst) sp dp k j))))[q]? = H[q]? := fun q hq => by simp [Array.getElem?_setIfInBounds, Ne.symm hq]
  obtain ⟨t, a1, b1⟩ := K p e Rm s m args below meth c _ _ cells slots ls C (hW.put (I' := cpI I src dst sp dp k) (J' := J) (R' := R) hs1.2.1 (by simp) oq (fun b hb => cpI_ne I hb) (fun _ _ => rfl) (fun _ _ => rfl) (by
    rw [hs1.1]
    show CellK _ _ _ _ _ _ _ 8 n1
    unfold CellK
    rw [if_pos rfl]
    refine ⟨c1, ?_, hA1⟩
    rw [cpI_at]
    simp [Array.getElem?_setIfInBounds, hlt])) hL (fun q hq => by
    rcases List.mem_append.mp hq with h | h
    · exact hlc q h
    · obtain ⟨z, -, hz⟩ := List.mem_map.mp h
      rw [← hz]
      exact ad_ge hs1.2.1) hc hs _ hheap X'
  exact ⟨t, step t a1, b1⟩
end XN
