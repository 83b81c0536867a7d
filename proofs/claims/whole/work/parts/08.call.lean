/-! calls: a walk from a method's entry is its contract; a call goes on behind it -/
def wsM (M : MD) : List Cond := .code M.1 M.2.1 M.2.2.1 M.2.2.2 :: GW
def rmD (d bc bs : Nat) : Room := { frames := d, cells := bc, slots := bs, locals := 64 * d }
def PcM (g : GP) (av : List Value) (n : Nat) (I : TI) (J : TJ) (R : TR) : Array Value → State → Prop := va_Pc (av.map (cv g)) (fun U => VOK g U ∧ WR g U U.heap n I J R)
def entL : List Value → List Value
  | [] => []
  | v :: vs => if v.category = 2 then v :: .null :: entL vs else v :: entL vs
def entry (M : MD) (av : List Value) : List Value := entL av ++ List.replicate (M.2.2.1 - (entL av).length) .null
theorem entL_cons (v : Value) (vs : List Value) : entL (v :: vs) = if v.category = 2 then v :: .null :: entL vs else v :: entL vs := rfl
theorem entL_len {g : GP} (hO : gO g = .null ∨ ∃ t, gO g = .ref t) (av : List Value) : (lg_sl (av.map (cv g))).length = (entL av).length := by
  induction av with
  | nil => rfl
  | cons v av ih =>
    have e : lg_sl ((v :: av).map (cv g)) = (if (cv g v).category = 2 then [.val (cv g v), .second] else [.val (cv g v)]) ++ lg_sl (av.map (cv g)) := rfl
    rw [e, List.length_append, ih, cv_cat hO, entL_cons]
    by_cases h : v.category = 2
    · rw [if_pos h, if_pos h]; simp; omega
    · rw [if_neg h, if_neg h]; simp; omega
theorem entL_args {g : GP} (hO : gO g = .null ∨ ∃ t, gO g = .ref t) : ∀ (av : List Value) (k i : Nat) (v : Value), (entL av)[i]? = some v → v ≠ .null → (k + i, cv g v) ∈ lv_args k (av.map (cv g))
  | [], k, i, v, h, _ => by simp [entL] at h
  | w :: av, k, i, v, h, hn => by
    have e : lv_args k ((w :: av).map (cv g)) = (k, cv g w) :: lv_args (if (cv g w).category = 2 then k + 2 else k + 1) (av.map (cv g)) := rfl
    rw [e, cv_cat hO]
    rw [entL_cons] at h
    by_cases hc : w.category = 2
    · rw [if_pos hc] at h ⊢
      rcases i with _ | _ | i
      · cases h; exact List.mem_cons_self
      · cases h; exact absurd rfl hn
      · have := entL_args hO av (k + 2) i v h hn
        rw [show k + (i + 1 + 1) = k + 2 + i by omega]
        exact List.mem_cons_of_mem _ this
    · rw [if_neg hc] at h ⊢
      rcases i with _ | i
      · cases h; exact List.mem_cons_self
      · have := entL_args hO av (k + 1) i v h hn
        rw [show k + (i + 1) = k + 1 + i by omega]
        exact List.mem_cons_of_mem _ this
theorem LO.entry {g : GP} (hO : gO g = .null ∨ ∃ t, gO g = .ref t) {M : MD} {av : List Value} (hlen : (entL av).length ≤ M.2.2.1) : LO g ((lg_sl (av.map (cv g)) ++ List.replicate (M.2.2.1 - (lg_sl (av.map (cv g))).length) Slot.unset).toArray) M.2.2.1 (entry M av) := by
  have h := lv_entry (av.map (cv g)) (n := M.2.2.1) (by rw [entL_len hO]; exact hlen)
  refine ⟨h.1, h.2.1, by simp only [Jvm.Pilot.CAHundredSightsLaw_law_r2727_48d368.entry, List.length_append, List.length_replicate]; omega, fun i v hi hv => ?_⟩
  have hm : (entL av)[i]? = some v := by
    unfold Jvm.Pilot.CAHundredSightsLaw_law_r2727_48d368.entry at hi
    by_cases hl : i < (entL av).length
    · rwa [List.getElem?_append_left hl] at hi
    · rw [List.getElem?_append_right (by omega)] at hi
      have := List.mem_of_getElem? hi
      exact absurd (List.mem_replicate.mp this).2 hv
  have := entL_args hO av 0 i v hm hv
  rw [Nat.zero_add] at this
  exact h.2.2 _ this
theorem met_of {g : GP} {d : Nat} {M : MD} {av : List Value} {bc bs n : Nat} {I : TI} {J : TJ} {R : TR} {Q : TQ} (hpl : plainName M.1.cls = true) (hlen : (entL av).length ≤ M.2.2.1) (h : Wp g d M 0 (entry M av) [] bc bs n I J R Q) : Met (gL g) M.1 (wsM M) (rmD d bc bs) (PcM g av n I J R) (PQ g Q) bc bs (gA g) := by
  refine Met.ofW (cc := M.2.1) (maxL := M.2.2.1) (ret := M.2.2.2) hpl rfl ?_
  intro p e s m args below meth c s₁ B hml hv
  obtain ⟨rfl, hV, hWR⟩ := hv
  have hO := hV.2.2.2.2.2.1
  have hts := atoms_spec (ws := wsM M) B.pre
  have hown : s.vm.findClass M.1.cls = some m.cls := findClass_of_methodNamed B.named
  rw [lg_entry_eq]
  exact h p e (rmD d bc bs) s m _ below meth c s.heap [] 0 0 _ ⟨B.exec, B.bytes, hml, B.returns, hown, fun w hw => hts w (List.mem_cons_of_mem _ hw), hV, B.notSynchronized, (name_of_methodNamed B.named B.method).1, Nat.le_refl _, Nat.le_refl _⟩ hWR (LO.entry hO hlen) (fun q hq => by cases hq) (Nat.le_of_eq (Nat.zero_add _)) (Nat.le_of_eq (Nat.zero_add _))
theorem GW_good {w : Cond} (h : w ∈ GW) : goodWord w = true := (List.mem_filter.mp h).2
/-- what a program says of a method: its code stands in the tables, its class may run, so many parameters -/
def MO (M : MD) (k : Nat) : Prop := plainName M.1.cls = true ∧ (M.1.cls ≠ "java/lang/invoke/MethodHandle" ∧ M.1.cls ≠ "java/lang/invoke/VarHandle" ∧ (parseMethodDescriptor M.1.desc).map (fun d => d.parameters.length) = some k) ∧ M.2.2.1 ≤ 45 ∧ Cond.code M.1 M.2.1 M.2.2.1 M.2.2.2 ∈ GW ∧ Cond.initialized M.1.cls ∈ GW
theorem blindM {g : GP} {av : List Value} {n : Nat} {I : TI} {J : TJ} {R : TR} : FrameBlind (PcM g av n I J R) := fun a U fr mk q => by
  obtain ⟨q0, q1, q2⟩ := q
  exact ⟨q0, VOK.same (s := U) (U := U.calling fr mk a) rfl q1, WR.moved (u := U) (U := U.calling fr mk a) (Vm.Alike.refl U.vm) q2⟩
theorem preM {g : GP} {av : List Value} {n : Nat} {I : TI} {J : TJ} {R : TR} {s : State} {H : Heap} (hV : VOK g s) (hW : WR g s H n I J R) : ∀ U : State, U.heap = H → s.WarmedH U.vm → PcM g av n I J R (av.map (cv g)).toArray U := fun U hU hw => ⟨rfl, hV.warm hw, by rw [hU]; exact hW.moved hw.alike⟩
theorem goodM {M : MD} {k : Nat} (h : MO M k) : GoodIn GW (wsM M) := fun w hw => by
  rcases List.mem_cons.mp hw with rfl | hw
  · exact ⟨h.2.2.2.1, good_of_word (GW_good h.2.2.2.1)⟩
  · exact ⟨hw, good_of_word (GW_good hw)⟩
theorem call_core {g : GP} {d : Nat} {M : MD} {pc : Nat} {L rest : List Value} {bc1 bs1 bc2 bs2 : Nat} {Q Q' : TQ} {p : Program} {e : Env} {Rm : Room} {s : State} {m : MethodId} {args : Array Value} {below : List Frame} {meth : Method} {c : Code} {H : Heap} {locs : List Loc} {cells slots : Nat} {ls : Array Slot} {st0 : List Value} {a : Array Value}
    (C : Cx g d M p Rm s m args meth c) (hL : LO g ls M.2.2.1 L) (hlc : ∀ q ∈ locs, gA g q.base) (hc : cells + (bc1 + bc2) ≤ Rm.cells) (hs : slots + (bs1 + bs2) ≤ Rm.slots)
    (hr : va_Run p (gL g) e Rm s m args below meth c H locs cells slots bc1 bs1 (F0 m pc ls st0) (rest.map (cv g)) (PQ g Q' a) (gA g))
    (K : ∀ (r : Option Value) (n' : Nat) (I' : TI) (J' : TJ) (R' : TR), Q' r n' I' J' R' → Wp g d M (pc + 3) L (r.toList ++ rest) bc2 bs2 n' I' J' R' Q) :
    W p (gL g) e Rm s m args below meth c H locs cells slots (MQ below (PQ g Q) args s Rm.cells Rm.slots (gA g)) (F0 m pc ls st0) := by
  intro T hT X
  obtain ⟨v, st₀, t, T', L2, h0, X', hL2, e1, e2, ⟨r, n', I', J', R', hv, hq, hw⟩, st⟩ := hr T hT X
  cases hv
  have hal : t.vm.Alike s.vm := by rw [← e2]; exact X'.warmed.alike.symm
  obtain ⟨t2, a1, b1⟩ := K r n' I' J' R' hq p e Rm s m args below meth c T'.heap (locs ++ L2) (cells + bc1) (slots + bs1) ls C (by rw [e1]; exact hw.moved hal) hL (fun q hq => by
    rcases List.mem_append.mp hq with h | h
    · exact hlc q h
    · exact hL2 q h) (by omega) (by omega) T' rfl X'
  refine ⟨t2, st t2 ?_, b1⟩
  have e3 : (r.toList ++ rest).map (cv g) = (r.map (cv g)).toList ++ rest.map (cv g) := by cases r <;> simp
  rw [e3] at a1
  exact a1
section XC
variable {g : GP} {d : Nat} {M M' : MD} {pc idx k : Nat} {L rest av : List Value} {bc1 bs1 bc2 bs2 n : Nat} {I : TI} {J : TJ} {R : TR} {Q Q' : TQ}
theorem callB_M {p : Program} {Rm : Room} {s : State} {m : MethodId} {args : Array Value} {meth : Method} {c : Code} (C : Cx g (d + 1) M p Rm s m args meth c) (hM : MO M' k) (hl : Cond.methodLink M.1.cls idx M'.1 ∈ GW) : CallB Rm s args M.1.cls idx M'.1 M'.2.1 M'.2.2.1 M'.2.2.2 (wsM M') (rmD d bc1 bs1) bc1 bs1 k := by
  have hx := C.2.2.2.2.2.2.2.2.2
  have h45 := hM.2.2.1
  exact callB_of k (fun w hw => GWb C hw) (goodM hM) rfl rfl rfl (GWb C hM.2.2.2.2) (GWb C hl) hM.2.1 ⟨by show d + 1 ≤ _; exact hx.1, by show 8 + (M'.2.2.1 + 11) + 64 * d ≤ _; have := hx.2; omega⟩
theorem callN_M {p : Program} {Rm : Room} {s : State} {m : MethodId} {args : Array Value} {meth : Method} {c : Code} (C : Cx g (d + 1) M p Rm s m args meth c) (hM : MO M' k) (hl : Cond.methodLinkNest M.1.cls idx M'.1 RX6 ∈ nestW) : va_CN Rm s args M.1.cls idx M'.1 RX6 M'.2.1 M'.2.2.1 M'.2.2.2 (wsM M') (rmD d bc1 bs1) bc1 bs1 k := by
  have hx := C.2.2.2.2.2.2.2.2.2
  have h45 := hM.2.2.1
  exact va_cnB k (fun w hw => GWb C hw) (goodM hM) rfl rfl rfl (C.2.2.2.2.2.2.1.2.2.2.2.1 _ hl) (GWb C hM.2.2.2.2) hM.2.1 ⟨by show d + 1 ≤ _; exact hx.1, by show 8 + (M'.2.2.1 + 11) + 64 * d ≤ _; have := hx.2; omega⟩
theorem r_callS (hd : decode M.2.1 pc = .ok (.invokestatic idx, 3)) (hM : MO M' k) (hl : Cond.methodLink M.1.cls idx M'.1 ∈ GW) (hst : Cond.static M'.1 ∈ GW) (hk : av.length = k) (hlen : (entL av).length ≤ M'.2.2.1) (h8 : (rest.map fun v => v.category).sum ≤ 8) (h : Wp g d M' 0 (entry M' av) [] bc1 bs1 n I J R Q')
    (K : ∀ (r : Option Value) (n' : Nat) (I' : TI) (J' : TJ) (R' : TR), Q' r n' I' J' R' → Wp g (d + 1) M (pc + 3) L (r.toList ++ rest) bc2 bs2 n' I' J' R' Q) : Wp g (d + 1) M pc L (av.reverse ++ rest) (bc1 + bc2) (bs1 + bs2) n I J R Q := by
  intro p e Rm s m args below meth c H locs cells slots ls C hW hL hlc hc hs
  have hV := C.2.2.2.2.2.2.1
  refine call_core (a := (av.map (cv g)).toArray) C hL hlc hc hs (va_runS (As := av.map (cv g)) ⟨C.1, C.2.1, C.2.2.1, C.2.2.2.2.1, fun w hw => GWb C hw⟩ (met_of hM.1 hlen h) ⟨callB_M C hM hl, GWb C hst⟩ ⟨blindM, preM hV hW⟩ rfl (by rw [List.length_map]; exact hk) hL.1 (by show (av.reverse ++ rest).map (cv g) = _; simp) ?_ hd ⟨by omega, by omega⟩) K
  show 2 * 0 + _ ≤ 8
  rw [cv_sum hV.2.2.2.2.2.1]
  omega
theorem r_callSN (hd : decode M.2.1 pc = .ok (.invokestatic idx, 3)) (hM : MO M' k) (hl : Cond.methodLinkNest M.1.cls idx M'.1 RX6 ∈ nestW) (hst : Cond.static M'.1 ∈ GW) (hk : av.length = k) (hlen : (entL av).length ≤ M'.2.2.1) (h8 : (rest.map fun v => v.category).sum ≤ 8) (h : Wp g d M' 0 (entry M' av) [] bc1 bs1 n I J R Q')
    (K : ∀ (r : Option Value) (n' : Nat) (I' : TI) (J' : TJ) (R' : TR), Q' r n' I' J' R' → Wp g (d + 1) M (pc + 3) L (r.toList ++ rest) bc2 bs2 n' I' J' R' Q) : Wp g (d + 1) M pc L (av.reverse ++ rest) (bc1 + bc2) (bs1 + bs2) n I J R Q := by
  intro p e Rm s m args below meth c H locs cells slots ls C hW hL hlc hc hs
  have hV := C.2.2.2.2.2.2.1
  refine call_core (a := (av.map (cv g)).toArray) C hL hlc hc hs (va_runSN (host := RX6) (As := av.map (cv g)) ⟨C.1, C.2.1, C.2.2.1, C.2.2.2.2.1, fun w hw => GWb C hw⟩ (met_of hM.1 hlen h) ⟨callN_M C hM hl, GWb C hst, trivial⟩ ⟨blindM, preM hV hW⟩ rfl (by rw [List.length_map]; exact hk) hL.1 (by show (av.reverse ++ rest).map (cv g) = _; simp) ?_ hd ⟨by omega, by omega⟩) K
  show 2 * 0 + _ ≤ 8
  rw [cv_sum hV.2.2.2.2.2.1]
  omega
theorem recvM {b ci : Nat} {q : vw_C} {s : State} {H : Heap} (hV : VOK g s) (hW : WR g s H n I J R) (hb : Al n b ci q.2.2) (hq : CL ci q) : ∃ cellB : Cell, H[ad g b]? = some cellB ∧ cellB.vm.isStatics = false ∧ s.vm.findClass q.1 = some cellB.cls := by
  obtain ⟨cell, g1, g2, g3, -⟩ := hW.obj hb hq.1
  exact ⟨cell, g1, by rw [g3]; rfl, by rw [g2]; exact (hV.1.1 ci q hq.2.1).2.1⟩
theorem r_callV {b ci : Nat} {q : vw_C} (hd : decode M.2.1 pc = .ok (.invokevirtual idx, 3)) (hM : MO M' k) (hl : Cond.methodLink M.1.cls idx M'.1 ∈ GW) (hin : Cond.instanceMethod M'.1 ∈ GW) (hse : Cond.selects M'.1.cls M'.1 M'.1 ∈ GW) (hb : Al n b ci q.2.2) (hq : CL ci q) (hcl : q.1 = M'.1.cls) (hk : av.length = k) (hlen : (entL (.ref b :: av)).length ≤ M'.2.2.1) (h8 : (rest.map fun v => v.category).sum ≤ 8) (h : Wp g d M' 0 (entry M' (.ref b :: av)) [] bc1 bs1 n I J R Q')
    (K : ∀ (r : Option Value) (n' : Nat) (I' : TI) (J' : TJ) (R' : TR), Q' r n' I' J' R' → Wp g (d + 1) M (pc + 3) L (r.toList ++ rest) bc2 bs2 n' I' J' R' Q) : Wp g (d + 1) M pc L (av.reverse ++ .ref b :: rest) (bc1 + bc2) (bs1 + bs2) n I J R Q := by
  intro p e Rm s m args below meth c H locs cells slots ls C hW hL hlc hc hs
  have hV := C.2.2.2.2.2.2.1
  refine call_core (a := ((.ref b :: av).map (cv g)).toArray) C hL hlc hc hs (va_runV (C := M'.1.cls) (b := ad g b) (As := av.map (cv g)) ⟨C.1, C.2.1, C.2.2.1, C.2.2.2.2.1, fun w hw => GWb C hw⟩ (met_of hM.1 hlen h) ⟨callB_M C hM hl, GWb C hin, GWb C hse⟩ ⟨blindM, by rw [← hcl]; exact recvM hV hW hb hq, preM (av := .ref b :: av) hV hW⟩ rfl (by rw [List.length_map]; exact hk) hL.1 (by show (av.reverse ++ .ref b :: rest).map (cv g) = _; simp [cv]) ?_ hd ⟨by omega, by omega⟩) K
  show 2 * 0 + _ ≤ 8
  rw [cv_sum hV.2.2.2.2.2.1]
  omega
theorem r_callVS {i : Nat} (hd : decode M.2.1 pc = .ok (.invokevirtual idx, 3)) (hM : MO M' k) (hl : Cond.methodLink M.1.cls idx M'.1 ∈ GW) (hin : Cond.instanceMethod M'.1 ∈ GW) (hse : Cond.selects M'.1.cls M'.1 M'.1 ∈ GW) (hi : i < 3) (hcl : "java/lang/String" = M'.1.cls) (hk : av.length = k) (hlen : (entL (.ref (6 + i) :: av)).length ≤ M'.2.2.1) (h8 : (rest.map fun v => v.category).sum ≤ 8) (h : Wp g d M' 0 (entry M' (.ref (6 + i) :: av)) [] bc1 bs1 n I J R Q')
    (K : ∀ (r : Option Value) (n' : Nat) (I' : TI) (J' : TJ) (R' : TR), Q' r n' I' J' R' → Wp g (d + 1) M (pc + 3) L (r.toList ++ rest) bc2 bs2 n' I' J' R' Q) : Wp g (d + 1) M pc L (av.reverse ++ .ref (6 + i) :: rest) (bc1 + bc2) (bs1 + bs2) n I J R Q := by
  intro p e Rm s m args below meth c H locs cells slots ls C hW hL hlc hc hs
  have hV := C.2.2.2.2.2.2.1
  have hrv : ∃ cellB : Cell, H[ad g (6 + i)]? = some cellB ∧ cellB.vm.isStatics = false ∧ s.vm.findClass "java/lang/String" = some cellB.cls := by
    obtain ⟨⟨cell, h1, h2, h3, -⟩, -, -⟩ := hV.2.2.1 i hi
    have e6 : ad g (6 + i) = gS g (6 + i) := by unfold ad; rw [if_pos (by omega)]
    exact ⟨cell, by rw [e6, hW.2.1 _ (Array.getElem?_eq_some_iff.mp h1).1]; exact h1, h2, h3⟩
  refine call_core (a := ((.ref (6 + i) :: av).map (cv g)).toArray) C hL hlc hc hs (va_runV (C := M'.1.cls) (b := ad g (6 + i)) (As := av.map (cv g)) ⟨C.1, C.2.1, C.2.2.1, C.2.2.2.2.1, fun w hw => GWb C hw⟩ (met_of hM.1 hlen h) ⟨callB_M C hM hl, GWb C hin, GWb C hse⟩ ⟨blindM, by rw [← hcl]; exact hrv, preM (av := .ref (6 + i) :: av) hV hW⟩ rfl (by rw [List.length_map]; exact hk) hL.1 (by show (av.reverse ++ .ref (6 + i) :: rest).map (cv g) = _; simp [cv]) ?_ hd ⟨by omega, by omega⟩) K
  show 2 * 0 + _ ≤ 8
  rw [cv_sum hV.2.2.2.2.2.1]
  omega
theorem r_callI {b : Nat} (hd : decode M.2.1 pc = .ok (.invokespecial idx, 3)) (hM : MO M' k) (hr : M'.2.2.2 = none) (hnm : M'.1.name = "<init>") (hl : Cond.methodLink M.1.cls idx M'.1 ∈ GW) (hin : Cond.instanceMethod M'.1 ∈ GW) (hk : av.length = k) (hlen : (entL (.ref b :: av)).length ≤ M'.2.2.1) (h8 : (rest.map fun v => v.category).sum ≤ 8) (h : Wp g d M' 0 (entry M' (.ref b :: av)) [] bc1 bs1 n I J R Q')
    (K : ∀ (r : Option Value) (n' : Nat) (I' : TI) (J' : TJ) (R' : TR), Q' r n' I' J' R' → Wp g (d + 1) M (pc + 3) L (r.toList ++ rest) bc2 bs2 n' I' J' R' Q) : Wp g (d + 1) M pc L (av.reverse ++ .ref b :: rest) (bc1 + bc2) (bs1 + bs2) n I J R Q := by
  intro p e Rm s m args below meth c H locs cells slots ls C hW hL hlc hc hs
  have hV := C.2.2.2.2.2.2.1
  have hcb := callB_M (bc1 := bc1) (bs1 := bs1) C hM hl
  rw [hr] at hcb
  refine call_core (a := ((.ref b :: av).map (cv g)).toArray) C hL hlc hc hs (va_runI (b := ad g b) (As := av.map (cv g)) ⟨C.1, C.2.1, C.2.2.1, C.2.2.2.2.1, fun w hw => GWb C hw⟩ (met_of hM.1 hlen h) ⟨hcb, hnm, GWb C hin⟩ ⟨blindM, preM (av := .ref b :: av) hV hW⟩ rfl (by rw [List.length_map]; exact hk) hL.1 (by show (av.reverse ++ .ref b :: rest).map (cv g) = _; simp [cv]) ?_ hd ⟨by omega, by omega⟩) K
  show 2 * 0 + _ ≤ 8
  rw [cv_sum hV.2.2.2.2.2.1]
  omega
theorem r_callIN {b : Nat} (hd : decode M.2.1 pc = .ok (.invokespecial idx, 3)) (hM : MO M' k) (hr : M'.2.2.2 = none) (hnm : M'.1.name = "<init>") (hl : Cond.methodLinkNest M.1.cls idx M'.1 RX6 ∈ nestW) (hin : Cond.instanceMethod M'.1 ∈ GW) (hk : av.length = k) (hlen : (entL (.ref b :: av)).length ≤ M'.2.2.1) (h8 : (rest.map fun v => v.category).sum ≤ 8) (h : Wp g d M' 0 (entry M' (.ref b :: av)) [] bc1 bs1 n I J R Q')
    (K : ∀ (r : Option Value) (n' : Nat) (I' : TI) (J' : TJ) (R' : TR), Q' r n' I' J' R' → Wp g (d + 1) M (pc + 3) L (r.toList ++ rest) bc2 bs2 n' I' J' R' Q) : Wp g (d + 1) M pc L (av.reverse ++ .ref b :: rest) (bc1 + bc2) (bs1 + bs2) n I J R Q := by
  intro p e Rm s m args below meth c H locs cells slots ls C hW hL hlc hc hs
  have hV := C.2.2.2.2.2.2.1
  have hcb := callN_M (bc1 := bc1) (bs1 := bs1) C hM hl
  rw [hr] at hcb
  refine call_core (a := ((.ref b :: av).map (cv g)).toArray) C hL hlc hc hs (va_runIN (host := RX6) (b := ad g b) (As := av.map (cv g)) ⟨C.1, C.2.1, C.2.2.1, C.2.2.2.2.1, fun w hw => GWb C hw⟩ (met_of hM.1 hlen h) ⟨hcb, hnm, GWb C hin⟩ ⟨blindM, preM (av := .ref b :: av) hV hW⟩ rfl (by rw [List.length_map]; exact hk) hL.1 (by show (av.reverse ++ .ref b :: rest).map (cv g) = _; simp [cv]) ?_ hd ⟨by omega, by omega⟩) K
  show 2 * 0 + _ ≤ 8
  rw [cv_sum hV.2.2.2.2.2.1]
  omega
theorem r_objInit {b bc bs : Nat} (hd : decode M.2.1 pc = .ok (.invokespecial idx, 3)) (hl : Cond.methodLink M.1.cls idx Lib.objectInit ∈ GW) (hin : Cond.instanceMethod Lib.objectInit ∈ GW) (hco : Cond.code Lib.objectInit ⟨#[0xb1]⟩ 1 none ∈ GW) (h8 : (rest.map fun v => v.category).sum ≤ 8) (K : Wp g (d + 1) M (pc + 3) L rest bc bs n I J R Q) : Wp g (d + 1) M pc L (.ref b :: rest) bc bs n I J R Q := by
  intro p e Rm s m args below meth c H locs cells slots ls C hW hL hlc hc hs
  have hV := C.2.2.2.2.2.2.1
  have hx := C.2.2.2.2.2.2.2.2.2
  refine W.objInit C.1 C.2.1 C.2.2.2.2.1 (GWb C hl) (GWb C hin) (GWb C hco) rfl (by rw [C.2.2.1]; exact hL.1) rfl hd (by omega) ?_ (K p e Rm s m args below meth c H locs cells slots ls C hW hL hlc hc hs)
  show 2 * 0 + _ + 12 ≤ _
  rw [cv_sum hV.2.2.2.2.2.1]
  omega
end XC
