/-! THE ABSTRACT MACHINE: a method's record, the parameters of a run, the abstract heap (ints, longs, references by place) -/
abbrev MD : Type := MethodName × ByteArray × Nat × Option FieldType
abbrev GP : Type := Launch × (Nat → Nat) × va_G × Heap × Value × Nat
abbrev TI : Type := Nat → Nat → Int32
abbrev TJ : Type := Nat → Nat → Int64
abbrev TR : Type := Nat → Nat → Nat
abbrev TQ : Type := Option Value → Nat → TI → TJ → TR → Prop
abbrev gL (g : GP) : Launch := g.1
abbrev gS (g : GP) : Nat → Nat := g.2.1
abbrev gD (g : GP) : va_G := g.2.2.1
abbrev gH (g : GP) : Heap := g.2.2.2.1
abbrev gO (g : GP) : Value := g.2.2.2.2.1
abbrev gN (g : GP) : Nat := g.2.2.2.2.2
abbrev gA (g : GP) : Nat → Prop := fun q => (gH g).size ≤ q
def ad (g : GP) (a : Nat) : Nat := if a < 12 then gS g a else (gH g).size + (a - 12)
def cv (g : GP) : Value → Value
  | .ref a => .ref (ad g a)
  | .retAddr _ => gO g
  | v => v
def rv (g : GP) (r : Nat) : Value := if r = 0 then .null else .ref (ad g r)
def tyT (ci : Nat) : Nat → FieldType := match ci with
  | 0 => tyX0
  | 1 => tyX1
  | 2 => tyX2
  | 3 => tyX3
  | 4 => tyX4
  | 5 => tyX5
  | 6 => tyX6
  | _ => tyX7
abbrev vwCl : List vw_C := [(RX0, TX0, 2), (RX1, TX1, 8), (RX2, TX2, 3), (RX3, TX3, 12), (RX4, TX4, 3), (RX5, TX5, 12), (RX6, TX6, 9), (RX7, TX7, 45)]
def fvl (g : GP) (I : TI) (J : TJ) (R : TR) (ty : FieldType) (a k : Nat) : Value := match ty with
  | .int => .int (I a k)
  | .boolean => .int (I a k)
  | .long => .long (J a k)
  | _ => rv g (R a k)
/-- the places, in the order in which they are made: kind (0 .. 7 an object of that class, 8 int[], 9 boolean[], 10 int[][], 11 Text[], 12 Sheet[]) and size -/
def skyL : List (Nat × Nat) := [(3, 12), (8, 8), (10, 6), (8, 7), (8, 7), (8, 7), (8, 7), (8, 7), (8, 7), (10, 7), (8, 200), (8, 200), (8, 200), (8, 200), (8, 200), (8, 200), (8, 200)]
def layL : List (Nat × Nat) := List.replicate 12 (99, 0) ++ ((6, 9) :: (skyL ++ skyL ++ skyL ++ [(1, 8), (8, 160), (4, 3), (8, 160), (8, 3), (11, 6), (12, 4)] ++ (List.replicate 6 [(4, 3), (8, 160), (8, 3)]).flatten ++ (List.replicate 4 [(2, 3), (8, 40)]).flatten ++ [(5, 12), (8, 6), (8, 160), (8, 7), (8, 7)] ++ [(7, 45), (8, 960), (8, 6), (8, 160), (8, 8), (8, 7), (8, 35), (8, 7), (8, 7), (8, 4), (8, 8), (8, 35), (9, 4), (8, 4), (8, 4), (8, 160)]))
def LAY (a : Nat) : Nat × Nat := layL.getD a (0, 2)
def CellK (g : GP) (U : State) (H : Heap) (I : TI) (J : TJ) (R : TR) (a kd len : Nat) : Prop :=
  if kd = 8 then ∃ cA, H[ad g a]? = some (arrV cA len (fun j => .int (I a j))) ∧ ArrOfT U cA .int
  else if kd = 9 then ∃ cA, H[ad g a]? = some (arrV cA len (fun j => .int (I a j))) ∧ ArrOfT U cA .boolean
  else if kd = 10 then ∃ cA, H[ad g a]? = some (arrV cA len (fun j => rv g (R a j))) ∧ ArrOfT U cA (.array .int)
  else if kd = 11 then ∃ cA, H[ad g a]? = some (arrV cA len (fun j => rv g (R a j))) ∧ ArrOfT U cA (.object RX4) ∧ va_RA U cA (.object RX4)
  else if kd = 12 then ∃ cA, H[ad g a]? = some (arrV cA len (fun j => rv g (R a j))) ∧ ArrOfT U cA (.object RX2) ∧ va_RA U cA (.object RX2)
  else kd < 8 ∧ t_OB (ad g a) ((gD g).1 kd) len ((gD g).2 kd) H (fun k => fvl g I J R (tyT kd k) a k)
/-- the static arrays: kind and size -/
def SL (g : GP) (a : Nat) : Option (FieldType × Nat) := match a with
  | 1 => some (.int, gN g)
  | 2 => some (.int, 13)
  | 3 => some (.int, 6)
  | 4 => some (.int, 3)
  | 5 => some (.int, 3)
  | 9 => some (.byte, 31)
  | 10 => some (.byte, 64)
  | 11 => some (.byte, 8)
  | _ => none
def WR (g : GP) (U : State) (H : Heap) (n : Nat) (I : TI) (J : TJ) (R : TR) : Prop :=
  H.size = (gH g).size + n ∧ (∀ q : Nat, q < (gH g).size → H[q]? = (gH g)[q]?) ∧ (∀ a : Nat, 12 ≤ a → a < 12 + n → CellK g U H I J R a (LAY a).1 (LAY a).2) ∧
  ∀ (a : Nat) (q : FieldType × Nat), SL g a = some q → va_T q.1 (gS g a) q.2 (fun j => .int (I a j)) (gA g) U (gH g)
def GW : List Cond := lw_tbl.filter goodWord
/-- the words of private members of nest mates -/
def nestW : List Cond := [.methodLinkNest RX6 9 yX3_init RX6, .methodLinkNest RX6 28 yX1_init RX6, .methodLinkNest RX1 21 yX4_init RX6, .methodLinkNest RX6 49 yX4_init RX6, .methodLinkNest RX6 50 yX2_init RX6, .methodLinkNest RX5 50 yX4_init RX6, .methodLinkNest RX4 22 yX6_isBelow RX6, .methodLinkNest RX3 57 yX6_isBelow RX6, .methodLinkNest RX5 62 yX6_isBelow RX6, .methodLinkNest RX2 28 yX6_isBelow RX6, .methodLinkNest RX6 147 yX0_init RX6, .fieldLinkNest RX3 61 RX6 "MOST" "[I" RX6]
/-- the statics that are read -/
def zsL (g : GP) : List (String × String × String × Value) := [(RX6, "MOST", "[I", .ref (gS g 2)), (RX6, "KIND_ABOVE", "[I", .ref (gS g 3)), (RX4, "LEAST_VALUE", "[I", .ref (gS g 4)), (RX4, "MOST_VALUE", "[I", .ref (gS g 5)), ("java/lang/String", "COMPACT_STRINGS", "Z", .int 1), ("jdk/internal/util/Preconditions", "SIOOBE_FORMATTER", "Ljava/util/function/BiFunction;", gO g)]
def strK : List (String × Nat × String) := [(RX6, 60, "turns far ; finds 5 ; waits 0 ;"), (RX1, 113, " tick far moon number height order turns finds waits or and not "), (RX1, 105, "();+-*<=")]
/-- arrays of int arrays are known -/
def aoI (U : State) : Prop := (Cond.arrayOver (.array .int)).before #[] U = true
def VOK (g : GP) (U : State) : Prop :=
  va_K (gD g) vwCl [] U ∧ (∀ q ∈ zsL g, va_Z q.1 q.2.1 q.2.2.1 q.2.2.2 (gA g) U (gH g)) ∧
  (∀ i : Nat, i < 3 → va_O "java/lang/String" (gS g (6 + i)) (gA g) U (gH g) ∧ va_OF "java/lang/String" "coder" "B" (.int 0) (gS g (6 + i)) (gA g) U (gH g) ∧ va_OF "java/lang/String" "value" "[B" (.ref (gS g (9 + i))) (gS g (6 + i)) (gA g) U (gH g)) ∧
  (∀ (i : Nat) (q : String × Nat × String), strK[i]? = some q → vk_R q.1 q.2.1 q.2.2 (gS g (6 + i)) U) ∧
  (∀ w ∈ nestW, va_Nw w U) ∧ (gO g = .null ∨ ∃ t, gO g = .ref t) ∧ va_AO RX4 U ∧ va_AO RX2 U ∧ aoI U
def LO (g : GP) (ls : Array Slot) (nL : Nat) (L : List Value) : Prop := ls.size = nL ∧ lv_wf ls ∧ L.length = nL ∧ ∀ (i : Nat) (v : Value), L[i]? = some v → v ≠ .null → ls[i]? = some (.val (cv g v))
def PQ (g : GP) (Q : TQ) : Array Value → State → Outcome → State → Prop := fun _ _ o t => ∃ (r : Option Value) (n : Nat) (I : TI) (J : TJ) (R : TR), o = .returned (r.map (cv g)) ∧ Q r n I J R ∧ WR g t t.heap n I J R
def Cx (g : GP) (d : Nat) (M : MD) (p : Program) (Rm : Room) (s : State) (m : MethodId) (args : Array Value) (meth : Method) (c : Code) : Prop :=
  p.tables.exec = Jvm.exec ∧ c.code = M.2.1 ∧ c.maxLocals = M.2.2.1 ∧ meth.sig.returnType = M.2.2.2 ∧ s.vm.findClass M.1.cls = some m.cls ∧ (∀ w ∈ GW, w.before args s = true) ∧ VOK g s ∧ meth.locks = false ∧ meth.name = M.1.name ∧ d ≤ Rm.frames ∧ 64 * d ≤ Rm.locals
def Wp (g : GP) (d : Nat) (M : MD) (pc : Nat) (L st : List Value) (bc bs n : Nat) (I : TI) (J : TJ) (R : TR) (Q : TQ) : Prop :=
  ∀ (p : Program) (e : Env) (Rm : Room) (s : State) (m : MethodId) (args : Array Value) (below : List Frame) (meth : Method) (c : Code) (H : Heap) (locs : List Loc) (cells slots : Nat) (ls : Array Slot),
    Cx g d M p Rm s m args meth c → WR g s H n I J R → LO g ls M.2.2.1 L → (∀ q ∈ locs, gA g q.base) → cells + bc ≤ Rm.cells → slots + bs ≤ Rm.slots →
    W p (gL g) e Rm s m args below meth c H locs cells slots (MQ below (PQ g Q) args s Rm.cells Rm.slots (gA g)) (F0 m pc ls (st.map (cv g)))
theorem cv_cat {g : GP} (h : gO g = .null ∨ ∃ t, gO g = .ref t) (v : Value) : (cv g v).category = v.category := by
  cases v <;> simp only [cv, Value.category]
  rcases h with h | ⟨t, h⟩ <;> rw [h]
theorem cv_sum {g : GP} (h : gO g = .null ∨ ∃ t, gO g = .ref t) (st : List Value) : ((st.map (cv g)).map fun v => v.category).sum = (st.map fun v => v.category).sum := by
  induction st with
  | nil => rfl
  | cons v st ih => simp only [List.map_cons, List.sum_cons, cv_cat h, ih]
def lvL (g : GP) (L : List Value) : List (Nat × Value) := L.zipIdx.filterMap fun q => if q.1 = .null then none else some (q.2, cv g q.1)
theorem lvL_mem {g : GP} {L : List Value} {i : Nat} {v : Value} (h : L[i]? = some v) (hn : v ≠ .null) : (i, cv g v) ∈ lvL g L :=
  List.mem_filterMap.mpr ⟨(v, i), List.mk_mem_zipIdx_iff_getElem?.mpr h, by rw [if_neg hn]⟩
theorem lvL_of {g : GP} {L : List Value} {q : Nat × Value} (h : q ∈ lvL g L) : ∃ v, L[q.1]? = some v ∧ v ≠ .null ∧ q.2 = cv g v := by
  obtain ⟨⟨v, i⟩, h1, h2⟩ := List.mem_filterMap.mp h
  by_cases hn : v = .null
  · rw [if_pos hn] at h2; cases h2
  · rw [if_neg hn] at h2
    cases h2
    exact ⟨v, List.mk_mem_zipIdx_iff_getElem?.mp h1, hn, rfl⟩
theorem LO.has {g : GP} {ls : Array Slot} {nL : Nat} {L : List Value} (h : LO g ls nL L) : lv_has ls nL (lvL g L) := ⟨h.1, h.2.1, fun q hq => by
  obtain ⟨v, h1, h2, h3⟩ := lvL_of hq
  rw [h3]
  exact h.2.2.2 _ v h1 h2⟩
theorem LO.at {g : GP} {ls : Array Slot} {nL : Nat} {L : List Value} (h : LO g ls nL L) {i : Nat} {v : Value} (hi : L[i]? = some v) (hn : v ≠ .null) : ls[i]? = some (.val (cv g v)) := h.2.2.2 i v hi hn
def okSt (L : List Value) : Nat → Bool
  | 0 => true
  | j + 1 => match L[j]? with
    | some v => v.category == 1
    | none => true
theorem LO.of1 {g : GP} (hO : gO g = .null ∨ ∃ t, gO g = .ref t) {ls : Array Slot} {nL i : Nat} {L : List Value} {v : Value} (hl : L.length = nL) (hp : okSt L i = true) (h : lv_has ls nL ((i, cv g v) :: (lvL g L).filter (fun q => !(q.1 == i) && !(q.1 + 1 == i && q.2.category == 2)))) : LO g ls nL (L.set i v) := by
  refine ⟨h.1, h.2.1, by simp [hl], fun j w hj hw => ?_⟩
  by_cases e : j = i
  · subst e
    have hlt : j < L.length := by
      have := (List.getElem?_eq_some_iff.mp hj).1
      simpa using this
    rw [List.getElem?_set_self hlt] at hj
    cases hj
    exact h.2.2 (j, cv g v) List.mem_cons_self
  · rw [List.getElem?_set_ne (Ne.symm e)] at hj
    refine h.2.2 (j, cv g w) (List.mem_cons_of_mem _ (List.mem_filter.mpr ⟨lvL_mem hj hw, ?_⟩))
    have h2 : ¬ (j + 1 = i ∧ (cv g w).category = 2) := by
      rintro ⟨e1, e2⟩
      subst e1
      simp only [okSt, hj] at hp
      rw [cv_cat hO] at e2
      rw [e2] at hp
      exact absurd hp (by decide)
    simp only [Bool.and_eq_true, Bool.not_eq_true', beq_eq_false_iff_ne, ne_eq, Bool.and_eq_false_iff]
    refine ⟨e, ?_⟩
    by_cases c1 : j + 1 = i
    · exact Or.inr (fun z => h2 ⟨c1, z⟩)
    · exact Or.inl c1
theorem LO.of2 {g : GP} (hO : gO g = .null ∨ ∃ t, gO g = .ref t) {ls : Array Slot} {nL i : Nat} {L : List Value} {v : Value} (hl : L.length = nL) (hp : okSt L i = true) (h : lv_has ls nL ((i, cv g v) :: (lvL g L).filter (fun q => !(q.1 == i) && (!(q.1 == i + 1) && !(q.1 + 1 == i && q.2.category == 2))))) : LO g ls nL ((L.set i v).set (i + 1) .null) := by
  refine ⟨h.1, h.2.1, by simp [hl], fun j w hj hw => ?_⟩
  by_cases e1 : j = i + 1
  · subst e1
    have hlt : i + 1 < (L.set i v).length := by
      have := (List.getElem?_eq_some_iff.mp hj).1
      simpa using this
    rw [List.getElem?_set_self hlt] at hj
    cases hj
    exact absurd rfl hw
  · rw [List.getElem?_set_ne (Ne.symm e1)] at hj
    by_cases e : j = i
    · subst e
      have hlt : j < L.length := by
        have := (List.getElem?_eq_some_iff.mp hj).1
        simpa using this
      rw [List.getElem?_set_self hlt] at hj
      cases hj
      exact h.2.2 (j, cv g v) List.mem_cons_self
    · rw [List.getElem?_set_ne (Ne.symm e)] at hj
      refine h.2.2 (j, cv g w) (List.mem_cons_of_mem _ (List.mem_filter.mpr ⟨lvL_mem hj hw, ?_⟩))
      have h2 : ¬ (j + 1 = i ∧ (cv g w).category = 2) := by
        rintro ⟨e1, e2⟩
        subst e1
        simp only [okSt, hj] at hp
        rw [cv_cat hO] at e2
        rw [e2] at hp
        exact absurd hp (by decide)
      simp only [Bool.and_eq_true, Bool.not_eq_true', beq_eq_false_iff_ne, ne_eq, Bool.and_eq_false_iff]
      refine ⟨e, e1, ?_⟩
      by_cases c1 : j + 1 = i
      · exact Or.inr (fun z => h2 ⟨c1, z⟩)
      · exact Or.inl c1
