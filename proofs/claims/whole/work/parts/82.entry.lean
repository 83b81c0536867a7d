/-! the law's entry -/
def R_law : String := "AHundredSightsLaw"
def lw_P (b : Addr) (xs : List Int32) (args : Array Value) (s : State) : Prop := args = #[.ref b] ∧ s.IntsAt b xs ∧ xs.length ≤ 3072 ∧ (Jvm.Cond.and given_1 narrow_1).before args s = true
def lw_Q (_ : Array Value) (s : State) (o : Outcome) (t : State) : Prop := o = .returned (some (.int 1)) ∧ Framed s o t [] 600000 7302250
def lw_Z (below : List Frame) (a : Array Value) (s : State) : State → Prop := fun t => ∃ o, t.status = .running ∧ Ended t below o ∧ lw_Q a s o t
/-- what holds at the law's entry: the machine, the code, the tables' words (any of lw_tbl by 'hts w (by decide +kernel)'), the script of L ints xs at the cell b, what the Statement gives of the start (any of its parts by flat_of_before) -/
def lw_At (p : Program) (s : State) (m : MethodId) (meth : Method) (c : Code) (b L : Nat) (xs : Nat → Int32) : Prop :=
  p.tables.exec = Jvm.exec ∧ c.code = code ∧ meth.sig.returnType = ret ∧ c.maxLocals = 4 ∧ s.vm.findClass R_law = some m.cls ∧ (∀ w ∈ lw_tbl, w.before #[Value.ref b] s = true) ∧ va_X b L xs s s.heap ∧ b < s.heap.size ∧ meth.locks = false ∧ (Jvm.Cond.and given_1 narrow_1).before #[Value.ref b] s = true ∧ meth.name = "law"
set_option maxRecDepth 20000 in
set_option maxHeartbeats 4000000 in
/-- the law, from its entry to its end, with true -/
theorem whole_start {p : Program} {e : Env} {s : State} {m : MethodId} {below : List Frame} {meth : Method} {c : Code} (l : Launch) {b L : Nat} {xs : Nat → Int32} (hL : L ≤ 3072) (C0 : lw_At p s m meth c b L xs) : W p l e room_1 s m #[Value.ref b] below meth c s.heap [] 0 0 (lw_Z below #[Value.ref b] s) (entryFrame m ([Value.ref b] : List Value).toArray 4) := by
  obtain ⟨hx, hb, hr, hml, hown, hts, hX, hbl, hlocks, hgv, hnm⟩ := C0
  obtain ⟨S, D, o, hS, hV, hW⟩ := st_all l (L := L) (xs := xs) hts (flat_of_before _ hgv) hX hbl
  have hO := hV.2.2.2.2.2.1
  have hsx : SX (l, S, D, s.heap, o, L) xs := st_sx l hX hS
  have hAll := S_lawAll (g := (l, S, D, s.heap, o, L)) (d := 0) (J := fun _ _ => 0) (R := fun _ _ => 0) hsx hL (StI_mk xs)
  have hlo := LO.entry (g := (l, S, D, s.heap, o, L)) hO (M := mL_law) (av := [.ref 1]) (Nat.le_of_ble_eq_true rfl)
  have hcv : ([Value.ref 1] : List Value).map (cv (l, S, D, s.heap, o, L)) = [Value.ref b] := by
    show [Value.ref (S 1)] = [Value.ref b]
    rw [hS]
  rw [hcv] at hlo
  rw [lg_entry_eq]
  have K := hAll p e room_1 s m #[Value.ref b] below meth c s.heap [] 0 0 _ ⟨hx, hb, hml, hr, hown, fun w hw => hts w (List.mem_filter.mp hw).1, hV, hlocks, hnm, Nat.le_of_ble_eq_true rfl, Nat.le_of_ble_eq_true rfl⟩ hW hlo (fun q hq => by cases hq) (Nat.le_of_ble_eq_true rfl) (Nat.le_of_ble_eq_true rfl)
  intro T hT X
  obtain ⟨t, hst, o1, q1, q2, ⟨r, n, I, J, R, ho, hq, hw⟩, L1, ⟨hv, hwm, hsb⟩, hL1⟩ := K T hT X
  refine ⟨t, hst, o1, q1, q2, ?_, hv, hwm, State.sameButNew.drop_fresh (L := []) (J := L1) hsb hL1⟩
  have hq2 : r = some (.int 1) := hq
  rw [ho, hq2]
  rfl
