/-! a text, read: in mathematics -/
def isWsB (c : Nat) : Bool := decide (c = 32) || decide (c = 10)
def isLeB (c : Nat) : Bool := decide (97 ≤ c) && decide (c ≤ 122)
def isDiB (c : Nat) : Bool := decide (48 ≤ c) && decide (c ≤ 57)
def isSgB (c : Nat) : Bool := decide (c = 40 ∨ c = 41 ∨ c = 59 ∨ c = 43 ∨ c = 45 ∨ c = 42 ∨ c = 60 ∨ c = 61)
/-- on from p while a byte is so, at most f bytes -/
def runW (P : Nat → Bool) (b : Nat → Nat) : Nat → Nat → Nat
  | 0, p => p
  | f + 1, p => if P (b p) = true then runW P b f (p + 1) else p
theorem runW_ge (P : Nat → Bool) (b : Nat → Nat) : ∀ f p, p ≤ runW P b f p
  | 0, _ => Nat.le_refl _
  | f + 1, p => by
    unfold runW
    split
    · exact Nat.le_trans (Nat.le_succ p) (runW_ge P b f (p + 1))
    · exact Nat.le_refl _
theorem runW_le (P : Nat → Bool) (b : Nat → Nat) : ∀ f p, runW P b f p ≤ p + f
  | 0, _ => Nat.le_refl _
  | f + 1, p => by
    have := runW_le P b f (p + 1)
    unfold runW
    split <;> omega
theorem runW_in (P : Nat → Bool) (b : Nat → Nat) : ∀ f p j, p ≤ j → j < runW P b f p → P (b j) = true
  | 0, p, j, h1, h2 => by unfold runW at h2; omega
  | f + 1, p, j, h1, h2 => by
    unfold runW at h2
    split at h2
    · rename_i hp
      by_cases e : j = p
      · rw [e]; exact hp
      · exact runW_in P b f (p + 1) j (by omega) h2
    · omega
theorem runW_t {P : Nat → Bool} {b : Nat → Nat} {f p : Nat} (h : P (b p) = true) : runW P b (f + 1) p = runW P b f (p + 1) := if_pos h
theorem runW_f {P : Nat → Bool} {b : Nat → Nat} {f p : Nat} (h : P (b p) = false) : runW P b (f + 1) p = p := if_neg (by rw [h]; decide)
def numV (b : Nat → Nat) : Nat → Nat → Nat
  | 0, _ => 0
  | k + 1, s => numV b k s * 10 + (b (s + k) - 48)
theorem numV_lt (b : Nat → Nat) (s : Nat) : ∀ k, (∀ j, j < k → b (s + j) ≤ 57) → numV b k s < 10 ^ k
  | 0, _ => by show 0 < 1; decide
  | k + 1, h => by
    have := numV_lt b s k fun j hj => h j (by omega)
    have h2 := h k (by omega)
    show numV b k s * 10 + (b (s + k) - 48) < 10 ^ (k + 1)
    rw [Nat.pow_succ]
    omega
def wdsL : List (List Nat) := [[116, 105, 99, 107], [102, 97, 114], [109, 111, 111, 110], [110, 117, 109, 98, 101, 114], [104, 101, 105, 103, 104, 116], [111, 114, 100, 101, 114], [116, 117, 114, 110, 115], [102, 105, 110, 100, 115], [119, 97, 105, 116, 115], [111, 114], [97, 110, 100], [110, 111, 116]]
def wdLt (b : Nat → Nat) (s len : Nat) : List Nat := (List.range len).map fun k => b (s + k)
def wdIs (b : Nat → Nat) (s len j : Nat) : Bool := decide (wdsL.getD j [] = wdLt b s len)
/-- which of the words it is: 12 is none -/
def wdN (b : Nat → Nat) (s len : Nat) : Nat := bif wdIs b s len 0 then 0 else bif wdIs b s len 1 then 1 else bif wdIs b s len 2 then 2 else bif wdIs b s len 3 then 3 else bif wdIs b s len 4 then 4 else bif wdIs b s len 5 then 5 else bif wdIs b s len 6 then 6 else bif wdIs b s len 7 then 7 else bif wdIs b s len 8 then 8 else bif wdIs b s len 9 then 9 else bif wdIs b s len 10 then 10 else bif wdIs b s len 11 then 11 else 12
abbrev LexS : Type := Nat × Nat × Int × Nat
def lexN (b : Nat → Nat) (z p : Nat) : LexS :=
  let s := runW isWsB b (z - p) p
  if z ≤ s then (s, s, -1, 0)
  else if isLeB (b s) = true then
    let e := runW isLeB b (z - s) s
    let j := wdN b s (e - s)
    (s, e, if j < 6 then 257 else if j < 12 then ((252 + j : Nat) : Int) else -2, j)
  else if isDiB (b s) = true then
    let e := runW isDiB b (z - s) s
    (s, e, if 4 < e - s then -2 else 256, numV b (e - s) s)
  else (s, s + 1, if isSgB (b s) = true then (b s : Int) else -2, 0)
def LxOK (z : Nat) (s : LexS) : Prop := s.1 ≤ z ∧ s.1 ≤ s.2.1 ∧ s.2.1 ≤ z ∧ (s.2.2.1 ≠ -1 → s.1 < s.2.1) ∧ (s.2.2.1 = 256 → s.2.2.2 < 10000) ∧ (s.2.2.1 = 257 → s.2.2.2 < 6) ∧ -2 ≤ s.2.2.1 ∧ s.2.2.1 < 300
theorem lexN_ok {b : Nat → Nat} {z p : Nat} (hp : p ≤ z) : LxOK z (lexN b z p) ∧ p ≤ (lexN b z p).1 := by
  have h1 := runW_ge isWsB b (z - p) p
  have h2 := runW_le isWsB b (z - p) p
  unfold lexN
  generalize runW isWsB b (z - p) p = s at h1 h2
  simp only
  split
  · exact ⟨⟨by show s ≤ z; omega, Nat.le_refl _, by show s ≤ z; omega, fun h => absurd rfl h, fun h => absurd h (show ¬ ((-1 : Int) = 256) by decide), fun h => absurd h (show ¬ ((-1 : Int) = 257) by decide), by show (-2 : Int) ≤ -1; decide, by show (-1 : Int) < 300; decide⟩, h1⟩
  · split
    · rename_i hz hl
      have g1 := runW_ge isLeB b (z - s) s
      have g2 := runW_le isLeB b (z - s) s
      have g3 : s < runW isLeB b (z - s) s := by
        have e : z - s = (z - s - 1) + 1 := by omega
        rw [e, runW_t hl]
        have := runW_ge isLeB b (z - s - 1) (s + 1)
        omega
      generalize runW isLeB b (z - s) s = e at g1 g2 g3
      generalize wdN b s (e - s) = j
      refine ⟨⟨by show s ≤ z; omega, g1, by show e ≤ z; omega, fun _ => g3, ?_, ?_, ?_, ?_⟩, h1⟩
      · show (if j < 6 then (257 : Int) else if j < 12 then ((252 + j : Nat) : Int) else -2) = 256 → _
        intro h
        split at h
        · omega
        · split at h <;> omega
      · show (if j < 6 then (257 : Int) else if j < 12 then ((252 + j : Nat) : Int) else -2) = 257 → j < 6
        intro h
        split at h
        · assumption
        · split at h <;> omega
      · show (-2 : Int) ≤ (if j < 6 then (257 : Int) else if j < 12 then ((252 + j : Nat) : Int) else -2)
        split
        · omega
        · split <;> omega
      · show (if j < 6 then (257 : Int) else if j < 12 then ((252 + j : Nat) : Int) else -2) < 300
        split
        · omega
        · split <;> omega
    · split
      · rename_i hz hl hd
        have g1 := runW_ge isDiB b (z - s) s
        have g2 := runW_le isDiB b (z - s) s
        have g4 := runW_in isDiB b (z - s) s
        have g3 : s < runW isDiB b (z - s) s := by
          have e : z - s = (z - s - 1) + 1 := by omega
          rw [e, runW_t hd]
          have := runW_ge isDiB b (z - s - 1) (s + 1)
          omega
        generalize runW isDiB b (z - s) s = e at g1 g2 g3 g4
        refine ⟨⟨by show s ≤ z; omega, g1, by show e ≤ z; omega, fun _ => g3, ?_, ?_, ?_, ?_⟩, h1⟩
        · show (if 4 < e - s then (-2 : Int) else 256) = 256 → numV b (e - s) s < 10000
          intro h
          split at h
          · omega
          · have h5 := numV_lt b s (e - s) fun j hj => by
              have h6 := g4 (s + j) (by omega) (by omega)
              simp only [isDiB, Bool.and_eq_true, decide_eq_true_eq] at h6
              exact h6.2
            have h7 : 10 ^ (e - s) ≤ 10 ^ 4 := Nat.pow_le_pow_right (by decide) (by omega)
            omega
        · show (if 4 < e - s then (-2 : Int) else 256) = 257 → _
          intro h
          split at h <;> omega
        · show (-2 : Int) ≤ (if 4 < e - s then (-2 : Int) else 256)
          split <;> omega
        · show (if 4 < e - s then (-2 : Int) else 256) < 300
          split <;> omega
      · rename_i hz hl hd
        have hs : isSgB (b s) = true → b s < 256 := by
          intro h
          simp only [isSgB, decide_eq_true_eq] at h
          omega
        refine ⟨⟨by show s ≤ z; omega, by show s ≤ s + 1; omega, by show s + 1 ≤ z; omega, fun _ => by show s < s + 1; omega, ?_, ?_, ?_, ?_⟩, h1⟩
        · show (if isSgB (b s) = true then (b s : Int) else -2) = 256 → _
          intro h
          split at h
          · have := hs (by assumption); omega
          · omega
        · show (if isSgB (b s) = true then (b s : Int) else -2) = 257 → _
          intro h
          split at h
          · have := hs (by assumption); omega
          · omega
        · show (-2 : Int) ≤ (if isSgB (b s) = true then (b s : Int) else -2)
          split <;> omega
        · show (if isSgB (b s) = true then (b s : Int) else -2) < 300
          split
          · have := hs (by assumption); omega
          · omega
/-- what a piece of a text comes to: whether it stands, where its reading is, its marks, what it says -/
abbrev POut : Type := Bool × LexS × List Int32 × ((Nat → Int32) → Int32)
def flP (st : LexS) : POut := (false, st, [], fun _ => 0)
def jnP (m : Int) (r q : POut) : POut := (q.1, q.2.1, r.2.2.1 ++ q.2.2.1 ++ [zI m], fun nm => joinV m (r.2.2.2 nm) (q.2.2.2 nm))
def ngP (q : POut) : POut := (q.1, q.2.1, q.2.2.1 ++ [zI (-7)], fun nm => -(q.2.2.2 nm))
def ntP (q : POut) : POut := (q.1, q.2.1, q.2.2.1 ++ [zI (-8)], fun nm => b2i (decide (q.2.2.2 nm = 0)))
def endPB (av : LexS → LexS) (c : Int) (q : POut) : POut := if q.1 = true ∧ q.2.1.2.2.1 = c then (true, av q.2.1, q.2.2.1, q.2.2.2) else (false, q.2.1, q.2.2.1, q.2.2.2)
def loopP (av : LexS → LexS) (op : Int → Int) (sub : LexS → POut) : Nat → POut → POut
  | 0, r => r
  | f + 1, r => if r.1 = true ∧ op r.2.1.2.2.1 ≠ 0 then loopP av op sub f (jnP (op r.2.1.2.2.1) r (sub (av r.2.1))) else r
def opTim (t : Int) : Int := if t = 42 then -15 else 0
def opSum (t : Int) : Int := if t = 43 then -13 else if t = 45 then -14 else 0
def opCmp (t : Int) : Int := if t = 60 then -11 else if t = 61 then -12 else 0
def opAnd (t : Int) : Int := if t = 262 then -10 else 0
def opOr (t : Int) : Int := if t = 261 then -9 else 0
abbrev Lev : Type := Option ((LexS → POut) × (LexS → POut) × (LexS → POut))
def onePB (av : LexS → LexS) (o : Lev) (st : LexS) : POut :=
  if st.2.2.1 = 45 then (match o with
    | none => flP st
    | some q => ngP (q.1 (av st)))
  else if st.2.2.1 = 40 then (match o with
    | none => flP st
    | some q => endPB av 41 (q.2.2 (av st)))
  else if st.2.2.1 = 256 then (true, av st, [nI st.2.2.2], fun _ => nI st.2.2.2)
  else if st.2.2.1 = 257 then (true, av st, [zI (-1 - (st.2.2.2 : Int))], fun nm => nm st.2.2.2)
  else flP st
def timB (av : LexS → LexS) (o : Lev) (st : LexS) : POut := loopP av opTim (onePB av o) 160 (onePB av o st)
def sumPB (av : LexS → LexS) (o : Lev) (st : LexS) : POut := loopP av opSum (timB av o) 160 (timB av o st)
def cmpB (av : LexS → LexS) (o : Lev) (st : LexS) : POut := loopP av opCmp (sumPB av o) 1 (sumPB av o st)
def notB (av : LexS → LexS) (o : Lev) (st : LexS) : POut :=
  if st.2.2.1 = 263 then (match o with
    | none => flP st
    | some q => ntP (q.2.1 (av st)))
  else cmpB av o st
def botB (av : LexS → LexS) (o : Lev) (st : LexS) : POut := loopP av opAnd (notB av o) 160 (notB av o st)
def eitB (av : LexS → LexS) (o : Lev) (st : LexS) : POut := loopP av opOr (botB av o) 160 (botB av o st)
def levB (av : LexS → LexS) : Nat → Lev
  | 0 => none
  | k + 1 => some (onePB av (levB av k), notB av (levB av k), eitB av (levB av k))
def avB (b : Nat → Nat) (z : Nat) (st : LexS) : LexS := lexN b z st.2.1
def prtB (b : Nat → Nat) (z : Nat) (key : Int) (st : LexS) : POut := if st.2.2.1 = key then endPB (avB b z) 59 (eitB (avB b z) (levB (avB b z) 5) (avB b z st)) else flP st
def rd0 (b : Nat → Nat) (z : Nat) : POut := prtB b z 258 (lexN b z 0)
def rd1 (b : Nat → Nat) (z : Nat) : POut := prtB b z 259 (rd0 b z).2.1
def rd2 (b : Nat → Nat) (z : Nat) : POut := prtB b z 260 (rd1 b z).2.1
def rdOk (b : Nat → Nat) (z : Nat) : Bool := (rd0 b z).1 && (rd1 b z).1 && (rd2 b z).1 && decide ((rd2 b z).2.1.2.2.1 = -1)
def rdFt (b : Nat → Nat) (z : Nat) : Nat := if (rd0 b z).1 = false then (rd0 b z).2.1.1 else if (rd1 b z).1 = false then (rd1 b z).2.1.1 else (rd2 b z).2.1.1
def rdTV (b : Nat → Nat) (z : Nat) : TV := fun p nm => clP p (if p = 0 then [(rd0 b z).2.2.2 nm] else if p = 1 then [(rd1 b z).2.2.2 nm] else if p = 2 then [(rd2 b z).2.2.2 nm] else [])
/-- marks, one after another, over a stack -/
def evL (nm : Nat → Int32) (ms : List Int32) (st : List Int32) : List Int32 := ms.foldl (fun s m => evS nm m.toInt s) st
theorem evL_app (nm : Nat → Int32) (a b st : List Int32) : evL nm (a ++ b) st = evL nm b (evL nm a st) := List.foldl_append
theorem evL_one (nm : Nat → Int32) (m : Int32) (st : List Int32) : evL nm [m] st = evS nm m.toInt st := rfl
/-- good: it goes on by at least a byte a mark, and its marks say what it says -/
def PGr (z : Nat) (st : LexS) (r : POut) : Prop := LxOK z r.2.1 ∧ st.1 ≤ r.2.1.1 ∧ (r.1 = true → r.2.2.1.length + st.1 ≤ r.2.1.1 ∧ ∀ nm k, evL nm r.2.2.1 k = r.2.2.2 nm :: k)
def PGd (z : Nat) (f : LexS → POut) : Prop := ∀ st, LxOK z st → PGr z st (f st)
def opOK (op : Int → Int) : Prop := ∀ t, op t = 0 ∨ (-15 ≤ op t ∧ op t ≤ -9 ∧ t ≠ -1)
theorem opTim_ok : opOK opTim := fun t => by unfold opTim; split <;> omega
theorem opSum_ok : opOK opSum := fun t => by unfold opSum; (repeat' split) <;> omega
theorem opCmp_ok : opOK opCmp := fun t => by unfold opCmp; (repeat' split) <;> omega
theorem opAnd_ok : opOK opAnd := fun t => by unfold opAnd; split <;> omega
theorem opOr_ok : opOK opOr := fun t => by unfold opOr; split <;> omega
section XPg
variable {b : Nat → Nat} {z : Nat}
theorem av_ok {st : LexS} (h : LxOK z st) : LxOK z (avB b z st) ∧ st.1 ≤ (avB b z st).1 ∧ (st.2.2.1 ≠ -1 → st.1 + 1 ≤ (avB b z st).1) := by
  obtain ⟨h1, h2, h3, h4, h5, h6, h7, h8⟩ := h
  have h9 := lexN_ok (b := b) h3
  exact ⟨h9.1, Nat.le_trans h2 h9.2, fun hn => Nat.le_trans (h4 hn) h9.2⟩
theorem flP_gd {st st0 : LexS} (h : LxOK z st) (h0 : st0.1 ≤ st.1) : PGr z st0 (flP st) := ⟨h, h0, fun h => absurd h Bool.false_ne_true⟩
theorem jnP_gd {st : LexS} {m : Int} {r q : POut} (hm : -15 ≤ m ∧ m ≤ -9) (hr : PGr z st r) (hr1 : r.1 = true) {s2 : LexS} (hq : PGr z s2 q) (h2 : r.2.1.1 + 1 ≤ s2.1) : PGr z st (jnP m r q) := by
  refine ⟨hq.1, ?_, fun hq1 => ⟨?_, fun nm k => ?_⟩⟩
  · have := hr.2.1
    have := hq.2.1
    show st.1 ≤ q.2.1.1
    omega
  · have a1 := (hr.2.2 hr1).1
    have a2 := (hq.2.2 hq1).1
    show (r.2.2.1 ++ q.2.2.1 ++ [zI m]).length + st.1 ≤ q.2.1.1
    rw [List.length_append, List.length_append]
    show r.2.2.1.length + q.2.2.1.length + 1 + st.1 ≤ _
    omega
  · show evL nm (r.2.2.1 ++ q.2.2.1 ++ [zI m]) k = joinV m (r.2.2.2 nm) (q.2.2.2 nm) :: k
    rw [evL_app, evL_app, (hr.2.2 hr1).2, (hq.2.2 hq1).2, evL_one, zI_toInt (by unfold inZ; omega), evS_bin (by omega)]
theorem loopP_gd {op : Int → Int} {sub : LexS → POut} (ho : opOK op) (hs : PGd z sub) {st : LexS} : ∀ {f : Nat} {r : POut}, PGr z st r → PGr z st (loopP (avB b z) op sub f r)
  | 0, r, hr => hr
  | f + 1, r, hr => by
    unfold loopP
    split
    · rename_i hc
      have h0 := (ho r.2.1.2.2.1).resolve_left hc.2
      have ha := av_ok (b := b) hr.1
      exact loopP_gd ho hs (jnP_gd ⟨h0.1, h0.2.1⟩ hr hc.1 (hs _ ha.1) (ha.2.2 h0.2.2))
    · exact hr
def LvOK (z : Nat) (o : Lev) : Prop := ∀ q, o = some q → PGd z q.1 ∧ PGd z q.2.1 ∧ PGd z q.2.2
theorem PGr.mono {st st2 : LexS} {r : POut} (h : PGr z st2 r) (h2 : st.1 ≤ st2.1) : PGr z st r := ⟨h.1, Nat.le_trans h2 h.2.1, fun hr => ⟨by have := (h.2.2 hr).1; omega, (h.2.2 hr).2⟩⟩
theorem endPB_gd {st : LexS} {c : Int} {q : POut} (hc : c ≠ -1) (hq : PGr z st q) : PGr z st (endPB (avB b z) c q) := by
  unfold endPB
  split
  · rename_i h
    have ha := av_ok (b := b) hq.1
    exact ⟨ha.1, Nat.le_trans hq.2.1 ha.2.1, fun _ => ⟨Nat.le_trans (hq.2.2 h.1).1 ha.2.1, (hq.2.2 h.1).2⟩⟩
  · exact ⟨hq.1, hq.2.1, fun h => absurd h Bool.false_ne_true⟩
theorem onePB_gd {o : Lev} (ho : LvOK z o) : PGd z (onePB (avB b z) o) := fun st hst => by
  have ha := av_ok (b := b) hst
  unfold onePB
  split
  · rename_i h45
    have h1 := ha.2.2 (by omega)
    split
    · exact flP_gd hst (Nat.le_refl _)
    · rename_i q
      have hq := (ho q rfl).1 _ ha.1
      refine ⟨hq.1, by have := hq.2.1; show st.1 ≤ (q.1 (avB b z st)).2.1.1; omega, fun h => ⟨?_, fun nm k => ?_⟩⟩
      · have := (hq.2.2 h).1
        show ((q.1 (avB b z st)).2.2.1 ++ [zI (-7)]).length + st.1 ≤ (q.1 (avB b z st)).2.1.1
        rw [List.length_append]
        show (q.1 (avB b z st)).2.2.1.length + 1 + st.1 ≤ _
        omega
      · show evL nm ((q.1 (avB b z st)).2.2.1 ++ [zI (-7)]) k = -((q.1 (avB b z st)).2.2.2 nm) :: k
        rw [evL_app, (hq.2.2 h).2, evL_one, zI_toInt (by unfold inZ; omega), evS_un (by omega) (by omega), if_pos rfl]
  · split
    · split
      · exact flP_gd hst (Nat.le_refl _)
      · rename_i q
        exact (endPB_gd (by decide) ((ho q rfl).2.2 _ ha.1)).mono ha.2.1
    · split
      · rename_i h256
        have h1 := ha.2.2 (by omega)
        refine ⟨ha.1, ha.2.1, fun _ => ⟨by show 1 + st.1 ≤ (avB b z st).1; omega, fun nm k => ?_⟩⟩
        have h2 := hst.2.2.2.2.1 h256
        show evS nm (nI st.2.2.2).toInt k = nI st.2.2.2 :: k
        rw [nI_tI (by omega), evS_push (by omega), if_pos (by omega), ← nz]
      · split
        · rename_i h257
          have h1 := ha.2.2 (by omega)
          refine ⟨ha.1, ha.2.1, fun _ => ⟨by show 1 + st.1 ≤ (avB b z st).1; omega, fun nm k => ?_⟩⟩
          have h2 := hst.2.2.2.2.2.1 h257
          show evS nm (zI (-1 - (st.2.2.2 : Int))).toInt k = nm st.2.2.2 :: k
          rw [zI_toInt (by unfold inZ; omega), evS_push (by omega), if_neg (by omega), show (-1 - (-1 - (st.2.2.2 : Int))).toNat = st.2.2.2 by omega]
        · exact flP_gd hst (Nat.le_refl _)
theorem timB_gd {o : Lev} (ho : LvOK z o) : PGd z (timB (avB b z) o) := fun st hst => loopP_gd opTim_ok (onePB_gd ho) (onePB_gd ho st hst)
theorem sumPB_gd {o : Lev} (ho : LvOK z o) : PGd z (sumPB (avB b z) o) := fun st hst => loopP_gd opSum_ok (timB_gd ho) (timB_gd ho st hst)
theorem cmpB_gd {o : Lev} (ho : LvOK z o) : PGd z (cmpB (avB b z) o) := fun st hst => loopP_gd opCmp_ok (sumPB_gd ho) (sumPB_gd ho st hst)
theorem notB_gd {o : Lev} (ho : LvOK z o) : PGd z (notB (avB b z) o) := fun st hst => by
  have ha := av_ok (b := b) hst
  unfold notB
  split
  · rename_i h263
    have h1 := ha.2.2 (by omega)
    split
    · exact flP_gd hst (Nat.le_refl _)
    · rename_i q
      have hq := (ho q rfl).2.1 _ ha.1
      refine ⟨hq.1, by have := hq.2.1; show st.1 ≤ (q.2.1 (avB b z st)).2.1.1; omega, fun h => ⟨?_, fun nm k => ?_⟩⟩
      · have := (hq.2.2 h).1
        show ((q.2.1 (avB b z st)).2.2.1 ++ [zI (-8)]).length + st.1 ≤ (q.2.1 (avB b z st)).2.1.1
        rw [List.length_append]
        show (q.2.1 (avB b z st)).2.2.1.length + 1 + st.1 ≤ _
        omega
      · show evL nm ((q.2.1 (avB b z st)).2.2.1 ++ [zI (-8)]) k = b2i (decide ((q.2.1 (avB b z st)).2.2.2 nm = 0)) :: k
        rw [evL_app, (hq.2.2 h).2, evL_one, zI_toInt (by unfold inZ; omega), evS_un (by omega) (by omega), if_neg (by decide)]
  · exact cmpB_gd ho st hst
theorem botB_gd {o : Lev} (ho : LvOK z o) : PGd z (botB (avB b z) o) := fun st hst => loopP_gd opAnd_ok (notB_gd ho) (notB_gd ho st hst)
theorem eitB_gd {o : Lev} (ho : LvOK z o) : PGd z (eitB (avB b z) o) := fun st hst => loopP_gd opOr_ok (botB_gd ho) (botB_gd ho st hst)
theorem levB_ok : ∀ k, LvOK z (levB (avB b z) k)
  | 0 => fun q h => by cases h
  | k + 1 => fun q h => by
    cases h
    exact ⟨onePB_gd (levB_ok k), notB_gd (levB_ok k), eitB_gd (levB_ok k)⟩
theorem prtB_gd {key : Int} (hk : key ≠ -1) {st : LexS} (hst : LxOK z st) : PGr z st (prtB b z key st) := by
  have ha := av_ok (b := b) hst
  unfold prtB
  split
  · exact (endPB_gd (by decide) (eitB_gd (levB_ok 5) _ ha.1)).mono ha.2.1
  · exact flP_gd hst (Nat.le_refl _)
theorem rd0_gd : PGr z (lexN b z 0) (rd0 b z) := prtB_gd (by decide) (lexN_ok (Nat.zero_le _)).1
theorem rd1_gd : PGr z (rd0 b z).2.1 (rd1 b z) := prtB_gd (by decide) rd0_gd.1
theorem rd2_gd : PGr z (rd1 b z).2.1 (rd2 b z) := prtB_gd (by decide) rd1_gd.1
theorem rdTV_le (p : Nat) (nm : Nat → Int32) : rdTV b z p nm ≤ 99 := clP_le _ _
end XPg
theorem evR_evL {nm : Nat → Int32} {mk : Nat → Int} : ∀ {ms : List Int32} {i : Nat} {st : List Int32}, (∀ j, j < ms.length → mk (i + j) = (ms.getD j 0).toInt) → evR nm mk ms.length i st = evL nm ms st
  | [], _, _, _ => rfl
  | m :: ms, i, st, h => by
    show evR nm mk ms.length (i + 1) (evS nm (mk i) st) = evL nm ms (evS nm m.toInt st)
    have h0 := h 0 (by show 0 < ms.length + 1; omega)
    rw [Nat.add_zero] at h0
    rw [h0, evR_evL (ms := ms) (i := i + 1) fun j hj => by
      have h2 := h (j + 1) (by show j + 1 < ms.length + 1; omega)
      rw [show i + 1 + j = i + (j + 1) by omega, h2]
      rfl]
    rfl
