/-! a text's marks, and what they say -/
section XNum3
variable {g : GP} {d : Nat} {M : MD} {pc idx : Nat} {L rest : List Value} {bc bs n : Nat} {I : TI} {J : TJ} {R : TR} {Q : TQ}
theorem r_zmmax {x y : Int32} {a b : Int} (hd : decode M.2.1 pc = .ok (.invokestatic idx, 3)) (hl : Cond.methodLink M.1.cls idx Lib.Math.max.name ∈ GW) (h8 : (rest.map fun v => v.category).sum ≤ 8) (hx : x = zI a) (hy : y = zI b) (ha : inZ a) (hb : inZ b) (K : Wp g (d + 1) M (pc + 3) L (.int (zI (if a < b then b else a)) :: rest) bc bs n I J R Q) : Wp g (d + 1) M pc L (.int y :: .int x :: rest) bc bs n I J R Q := by
  subst hx hy
  refine r_mmax hd hl h8 ?_
  have e : (if zI a < zI b then zI b else zI a) = zI (if a < b then b else a) := by
    by_cases h : a < b
    · rw [if_pos h, if_pos ((zI_lt ha hb).mpr h)]
    · rw [if_neg h, if_neg (fun z => h ((zI_lt ha hb).mp z))]
  rw [e]; exact K
theorem r_zmmin {x y : Int32} {a b : Int} (hd : decode M.2.1 pc = .ok (.invokestatic idx, 3)) (hl : Cond.methodLink M.1.cls idx Lib.Math.min.name ∈ GW) (h8 : (rest.map fun v => v.category).sum ≤ 8) (hx : x = zI a) (hy : y = zI b) (ha : inZ a) (hb : inZ b) (K : Wp g (d + 1) M (pc + 3) L (.int (zI (if b < a then b else a)) :: rest) bc bs n I J R Q) : Wp g (d + 1) M pc L (.int y :: .int x :: rest) bc bs n I J R Q := by
  subst hx hy
  refine r_mmin hd hl h8 ?_
  have e : (if zI b < zI a then zI b else zI a) = zI (if b < a then b else a) := by
    by_cases h : b < a
    · rw [if_pos h, if_pos ((zI_lt hb ha).mpr h)]
    · rw [if_neg h, if_neg (fun z => h ((zI_lt hb ha).mp z))]
  rw [e]; exact K
theorem r_zabs {x : Int32} {a : Int} (hd : decode M.2.1 pc = .ok (.invokestatic idx, 3)) (hl : Cond.methodLink M.1.cls idx Lib.Math.abs.name ∈ GW) (h8 : (rest.map fun v => v.category).sum ≤ 8) (hx : x = zI a) (ha : inZ a) (K : Wp g (d + 1) M (pc + 3) L (.int (nI a.natAbs) :: rest) bc bs n I J R Q) : Wp g (d + 1) M pc L (.int x :: rest) bc bs n I J R Q := by
  subst hx
  refine r_mabs hd hl h8 ?_
  have h0 : inZ 0 := by unfold inZ; omega
  have e : (if 0 ≤ zI a then zI a else 0 - zI a) = nI a.natAbs := by
    rw [show (0 : Int32) = zI 0 from rfl]
    by_cases h : 0 ≤ a
    · rw [if_pos ((zI_le h0 ha).mpr h), nz]; congr 1; omega
    · rw [if_neg (fun z => h ((zI_le h0 ha).mp z)), zI_sub, nz]; congr 1; omega
  rw [e]; exact K
end XNum3
def joinV (z : Int) (l r : Int32) : Int32 := if z = -9 then b2i (decide (l ≠ 0) || decide (r ≠ 0)) else if z = -10 then b2i (decide (l ≠ 0) && decide (r ≠ 0)) else if z = -11 then b2i (decide (l < r)) else if z = -12 then b2i (decide (l = r)) else if z = -13 then l + r else if z = -14 then l - r else l * r
/-- one mark -/
def evS (nm : Nat → Int32) (z : Int) (st : List Int32) : List Int32 :=
  if -7 < z then (if 0 ≤ z then zI z else nm (-1 - z).toNat) :: st
  else if -8 ≤ z then (match st with
    | [] => []
    | x :: r => (if z = -7 then -x else b2i (decide (x = 0))) :: r)
  else match st with
    | x :: y :: r => joinV z y x :: r
    | s => s
def evR (nm : Nat → Int32) (mk : Nat → Int) : Nat → Nat → List Int32 → List Int32
  | 0, _, st => st
  | m + 1, i, st => evR nm mk m (i + 1) (evS nm (mk i) st)
def lvN (p : Nat) : Nat := [0, 1, 0].getD p 0
def mvN (p : Nat) : Nat := [50, 99, 9].getD p 0
def clP (p : Nat) (st : List Int32) : Nat := (let v := (st.headD 0).toInt; let w := if v < (lvN p : Int) then (lvN p : Int) else v; if (mvN p : Int) < w then (mvN p : Int) else w).toNat
def i0P (en : Nat → Nat) (p : Nat) : Nat := if p = 0 then 0 else en (p - 1)
/-- what part p of a text says -/
def tvN (mk : Nat → Int) (en : Nat → Nat) (p : Nat) (nm : Nat → Int32) : Nat := clP p (evR nm mk (en p - i0P en p) (i0P en p) [])
def mkA (I : TI) (t : Nat) : Nat → Int := fun j => (I (t + 1) j).toInt
def TextOK (I : TI) (t : Nat) (en : Nat → Nat) : Prop := (∀ p, p < 3 → I (t + 2) p = nI (en p)) ∧ en 0 ≤ en 1 ∧ en 1 ≤ en 2 ∧ en 2 ≤ 160
def StkOK (I : TI) (st : List Int32) : Prop := ∀ j, j < st.length → I 99 j = st.reverse.getD j 0
def FrA (b : Nat) (I I' : TI) : Prop := ∀ a, a ≠ b → I' a = I a
theorem tI_inZ (x : Int32) : inZ x.toInt := ⟨Int32.le_toInt x, Int32.toInt_lt x⟩
theorem zI_tI (x : Int32) : zI x.toInt = x := by unfold zI; rw [Int32.ofInt_toInt]
theorem StkOK.push {I : TI} {st : List Int32} (h : StkOK I st) (v : Int32) : StkOK (up2 I 99 st.length v) (v :: st) := fun j hj => by
  simp only [List.length_cons] at hj
  rw [List.reverse_cons]
  by_cases e : j = st.length
  · subst e
    rw [up2_at, List.getD_eq_getElem?_getD, List.getElem?_append_right (by simp)]
    simp
  · rw [up2_k _ _ e, h j (by omega), List.getD_eq_getElem?_getD, List.getD_eq_getElem?_getD, List.getElem?_append_left (by simp; omega)]
theorem StkOK.top {I : TI} {x : Int32} {st : List Int32} (h : StkOK I (x :: st)) : I 99 st.length = x := by
  rw [h st.length (by simp), List.reverse_cons, List.getD_eq_getElem?_getD, List.getElem?_append_right (by simp)]
  simp
theorem StkOK.pop {I : TI} {x : Int32} {st : List Int32} (h : StkOK I (x :: st)) : StkOK I st := fun j hj => by
  rw [h j (by simp; omega), List.reverse_cons, List.getD_eq_getElem?_getD, List.getD_eq_getElem?_getD, List.getElem?_append_left (by simp; omega)]
theorem mvN_le (p : Nat) : mvN p ≤ 99 := by
  rcases p with _ | _ | _ | p <;> simp [mvN]
theorem lvN_le (p : Nat) : lvN p ≤ 1 := by
  rcases p with _ | _ | _ | p <;> simp [lvN]
set_option maxRecDepth 20000 in
set_option maxHeartbeats 4000000 in
theorem S_joined {g : GP} {d n : Nat} {I : TI} {J : TJ} {R : TR} {z : Int} (hz : inZ z) (x y : Int32) : Wp g d mX4_joined 0 [.int (zI z), .int x, .int y] [] 0 0 n I J R (RetI (joinV z x y) n I J R) := by
  refine r_iload_n dX4_joined_0 rfl ?_
  have e : z = -14 ∨ z = -13 ∨ z = -12 ∨ z = -11 ∨ z = -10 ∨ z = -9 ∨ (z < -14 ∨ -9 < z) := by omega
  rcases e with e | e | e | e | e | e | e
  · refine r_top (v := (-14)) (by rw [e]; rfl) ?_
    refine r_tabIn (tgt := 94) (off := 93) dX4_joined_1 (by decide) (by decide) (by decide) (by decide) ?_
    refine r_iload_n dX4_joined_94 rfl ?_
    refine r_iload_n dX4_joined_95 rfl ?_
    refine r_isub dX4_joined_96 ?_
    refine r_iret dX4_joined_97 rfl ?_
    exact retI (by unfold joinV; simp [e])
  · refine r_top (v := (-13)) (by rw [e]; rfl) ?_
    refine r_tabIn (tgt := 90) (off := 89) dX4_joined_1 (by decide) (by decide) (by decide) (by decide) ?_
    refine r_iload_n dX4_joined_90 rfl ?_
    refine r_iload_n dX4_joined_91 rfl ?_
    refine r_iadd dX4_joined_92 ?_
    refine r_iret dX4_joined_93 rfl ?_
    exact retI (by unfold joinV; simp [e])
  · refine r_top (v := (-12)) (by rw [e]; rfl) ?_
    refine r_tabIn (tgt := 79) (off := 78) dX4_joined_1 (by decide) (by decide) (by decide) (by decide) ?_
    refine r_iload_n dX4_joined_79 rfl ?_
    refine r_iload_n dX4_joined_80 rfl ?_
    refine r_icmp_ne (tgt := 88) dX4_joined_81 (by decide) (fun h81 => ?_) (fun h81 => ?_)
    · refine r_iconst (v := 0) dX4_joined_88 (by decide) ?_
      refine r_iret dX4_joined_89 rfl ?_
      exact retI (by unfold joinV; simp [e, b2i, h81])
    · refine r_iconst (v := 1) dX4_joined_84 (by decide) ?_
      refine r_goto (tgt := 89) dX4_joined_85 (by decide) ?_
      refine r_iret dX4_joined_89 rfl ?_
      exact retI (by unfold joinV; simp [e, b2i, h81])
  · refine r_top (v := (-11)) (by rw [e]; rfl) ?_
    refine r_tabIn (tgt := 68) (off := 67) dX4_joined_1 (by decide) (by decide) (by decide) (by decide) ?_
    refine r_iload_n dX4_joined_68 rfl ?_
    refine r_iload_n dX4_joined_69 rfl ?_
    refine r_icmp_ge (tgt := 77) dX4_joined_70 (by decide) (fun h70 => ?_) (fun h70 => ?_)
    · refine r_iconst (v := 0) dX4_joined_77 (by decide) ?_
      refine r_iret dX4_joined_78 rfl ?_
      exact retI (by unfold joinV; simp [e, b2i, h70])
    · refine r_iconst (v := 1) dX4_joined_73 (by decide) ?_
      refine r_goto (tgt := 78) dX4_joined_74 (by decide) ?_
      refine r_iret dX4_joined_78 rfl ?_
      exact retI (by unfold joinV; simp [e, b2i, h70])
  · refine r_top (v := (-10)) (by rw [e]; rfl) ?_
    refine r_tabIn (tgt := 54) (off := 53) dX4_joined_1 (by decide) (by decide) (by decide) (by decide) ?_
    refine r_iload_n dX4_joined_54 rfl ?_
    refine r_if_eq (tgt := 66) dX4_joined_55 (by decide) (fun h55 => ?_) (fun h55 => ?_)
    · refine r_iconst (v := 0) dX4_joined_66 (by decide) ?_
      refine r_iret dX4_joined_67 rfl ?_
      exact retI (by unfold joinV; simp [e, b2i, h55])
    · refine r_iload_n dX4_joined_58 rfl ?_
      refine r_if_eq (tgt := 66) dX4_joined_59 (by decide) (fun h59 => ?_) (fun h59 => ?_)
      · refine r_iconst (v := 0) dX4_joined_66 (by decide) ?_
        refine r_iret dX4_joined_67 rfl ?_
        exact retI (by unfold joinV; simp [e, b2i, h55, h59])
      · refine r_iconst (v := 1) dX4_joined_62 (by decide) ?_
        refine r_goto (tgt := 67) dX4_joined_63 (by decide) ?_
        refine r_iret dX4_joined_67 rfl ?_
        exact retI (by unfold joinV; simp [e, b2i, h55, h59])
  · refine r_top (v := (-9)) (by rw [e]; rfl) ?_
    refine r_tabIn (tgt := 40) (off := 39) dX4_joined_1 (by decide) (by decide) (by decide) (by decide) ?_
    refine r_iload_n dX4_joined_40 rfl ?_
    refine r_if_ne (tgt := 48) dX4_joined_41 (by decide) (fun h41 => ?_) (fun h41 => ?_)
    · refine r_iconst (v := 1) dX4_joined_48 (by decide) ?_
      refine r_goto (tgt := 53) dX4_joined_49 (by decide) ?_
      refine r_iret dX4_joined_53 rfl ?_
      exact retI (by unfold joinV; simp [e, b2i, h41])
    · refine r_iload_n dX4_joined_44 rfl ?_
      refine r_if_eq (tgt := 52) dX4_joined_45 (by decide) (fun h45 => ?_) (fun h45 => ?_)
      · refine r_iconst (v := 0) dX4_joined_52 (by decide) ?_
        refine r_iret dX4_joined_53 rfl ?_
        exact retI (by unfold joinV; simp [e, b2i, h41, h45])
      · refine r_iconst (v := 1) dX4_joined_48 (by decide) ?_
        refine r_goto (tgt := 53) dX4_joined_49 (by decide) ?_
        refine r_iret dX4_joined_53 rfl ?_
        exact retI (by unfold joinV; simp [e, b2i, h41, h45])
  · refine r_tabOut (tgt := 98) dX4_joined_1 (by rw [zI_toInt hz]; exact e) (by decide) ?_
    refine r_iload_n dX4_joined_98 rfl ?_
    refine r_iload_n dX4_joined_99 rfl ?_
    refine r_imul dX4_joined_100 ?_
    refine r_iret dX4_joined_101 rfl ?_
    exact retI (by unfold joinV; rw [if_neg (by omega), if_neg (by omega), if_neg (by omega), if_neg (by omega), if_neg (by omega), if_neg (by omega)])
