/-! where the objects of both sides stand, and what refers to what (what doesn't change) -/
def skyShL (s : Nat) : List (Nat × Nat × Nat) := [(s, 0, s + 1), (s, 1, s + 2), (s, 2, s + 3), (s, 3, s + 4), (s, 4, s + 5), (s, 5, s + 6), (s, 6, s + 7), (s, 7, s + 8), (s, 8, s + 9), (s + 2, 0, s + 3), (s + 2, 1, s + 4), (s + 2, 2, s + 5), (s + 2, 3, s + 6), (s + 2, 4, s + 7), (s + 2, 5, s + 8), (s + 9, 0, s + 10), (s + 9, 1, s + 11), (s + 9, 2, s + 12), (s + 9, 3, s + 13), (s + 9, 4, s + 14), (s + 9, 5, s + 15), (s + 9, 6, s + 16)]
def txShL (t : Nat) : List (Nat × Nat × Nat) := [(t, 0, t + 1), (t, 1, t + 2)]
def shL : List (Nat × Nat × Nat) := [(12, 0, 13), (12, 1, 30), (12, 2, 47), (12, 4, 64), (12, 5, 69), (12, 7, 97), (12, 8, 70)] ++ skyShL 13 ++ skyShL 30 ++ skyShL 47 ++ [(64, 0, 65)] ++ txShL 66 ++ txShL 71 ++ txShL 74 ++ txShL 77 ++ txShL 80 ++ txShL 83 ++ txShL 86 ++ [(69, 0, 71), (69, 1, 74), (69, 2, 77), (69, 3, 80), (69, 4, 83), (69, 5, 86), (70, 0, 89), (70, 1, 91), (70, 2, 93), (70, 3, 95), (89, 2, 90), (91, 2, 92), (93, 2, 94), (95, 2, 96), (97, 0, 69), (97, 1, 98), (97, 2, 99), (97, 3, 100), (97, 4, 101)] ++ [(102, 1, 103), (102, 2, 104), (102, 5, 105), (102, 7, 106), (102, 8, 107), (102, 9, 108), (102, 32, 109), (102, 33, 110), (102, 36, 111), (102, 37, 112), (102, 38, 113), (102, 41, 114), (102, 42, 115), (102, 43, 116), (102, 44, 117)]
def Sh (n : Nat) (R : TR) : Prop := 106 ≤ n ∧ ∀ q ∈ shL, R q.1 q.2.1 = q.2.2
theorem Sh.r {n : Nat} {R : TR} (h : Sh n R) (a k b : Nat) (hm : (a, k, b) ∈ shL) : R a k = b := h.2 _ hm
theorem Sh.al {n : Nat} {R : TR} (h : Sh n R) {a kd len : Nat} (h1 : LAY a = (kd, len)) (h2 : 12 ≤ a ∧ a < 118) : Al n a kd len := ⟨h1, h2.1, by have := h.1; omega⟩
theorem Sh.up {n : Nat} {R : TR} (h : Sh n R) {a k : Nat} (v : Nat) (hk : ∀ q ∈ shL, ¬ (q.1 = a ∧ q.2.1 = k)) : Sh n (up2 R a k v) := ⟨h.1, fun q hq => by
  have h1 := hk q hq
  by_cases e : q.1 = a
  · have e2 : q.2.1 ≠ k := fun z => h1 ⟨e, z⟩
    rw [← e, up2_k _ _ e2]
    exact h.2 q hq
  · rw [up2_a _ _ _ e]
    exact h.2 q hq⟩
theorem Sh.n1 {n : Nat} {R : TR} (h : Sh n R) : Sh (n + 1) (z1 0 R (12 + n)) := ⟨by have := h.1; omega, fun q hq => by
  have hb : ∀ q ∈ shL, q.1 < 118 := by decide +kernel
  have h1 := hb q hq
  rw [z1_ne _ _ (by have := h.1; omega)]
  exact h.2 q hq⟩
/-- the same of the class's side alone, while the other side is not made yet -/
def Shw (n : Nat) (R : TR) : Prop := 90 ≤ n ∧ ∀ q ∈ shL, q.1 < 102 → R q.1 q.2.1 = q.2.2
theorem Sh.w {n : Nat} {R : TR} (h : Sh n R) : Shw n R := ⟨by have := h.1; omega, fun q hq _ => h.2 q hq⟩
theorem Shw.r {n : Nat} {R : TR} (h : Shw n R) (a k b : Nat) (hm : (a, k, b) ∈ shL) (h2 : a < 102 := by decide) : R a k = b := h.2 _ hm h2
theorem Shw.al {n : Nat} {R : TR} (h : Shw n R) {a kd len : Nat} (h1 : LAY a = (kd, len)) (h2 : 12 ≤ a ∧ a < 118) (h3 : a < 102 := by decide) : Al n a kd len := ⟨h1, h2.1, by have := h.1; omega⟩
theorem Shw.up {n : Nat} {R : TR} (h : Shw n R) {a k : Nat} (v : Nat) (hk : ∀ q ∈ shL, ¬ (q.1 = a ∧ q.2.1 = k)) : Shw n (up2 R a k v) := ⟨h.1, fun q hq h3 => by
  have h1 := hk q hq
  by_cases e : q.1 = a
  · have e2 : q.2.1 ≠ k := fun z => h1 ⟨e, z⟩
    rw [← e, up2_k _ _ e2]
    exact h.2 q hq h3
  · rw [up2_a _ _ _ e]
    exact h.2 q hq h3⟩
def isSky (s : Nat) : Prop := s = 13 ∨ s = 30 ∨ s = 47
def isText (t : Nat) : Prop := t = 66 ∨ t = 71 ∨ t = 74 ∨ t = 77 ∨ t = 80 ∨ t = 83 ∨ t = 86
def isSheet (t : Nat) : Prop := t = 89 ∨ t = 91 ∨ t = 93 ∨ t = 95
section XS
variable {n s t : Nat} {R : TR}
theorem Sh.k0 (h : Sh n R) (hs : isSky s) : Al n s 3 12 := by rcases hs with rfl | rfl | rfl <;> exact h.al rfl (by decide)
theorem Sh.k1 (h : Sh n R) (hs : isSky s) : Al n (s + 1) 8 8 := by rcases hs with rfl | rfl | rfl <;> exact h.al rfl (by decide)
theorem Sh.k2 (h : Sh n R) (hs : isSky s) : Al n (s + 2) 10 6 := by rcases hs with rfl | rfl | rfl <;> exact h.al rfl (by decide)
theorem Sh.k3 (h : Sh n R) (hs : isSky s) : Al n (s + 3) 8 7 := by rcases hs with rfl | rfl | rfl <;> exact h.al rfl (by decide)
theorem Sh.k4 (h : Sh n R) (hs : isSky s) : Al n (s + 4) 8 7 := by rcases hs with rfl | rfl | rfl <;> exact h.al rfl (by decide)
theorem Sh.k5 (h : Sh n R) (hs : isSky s) : Al n (s + 5) 8 7 := by rcases hs with rfl | rfl | rfl <;> exact h.al rfl (by decide)
theorem Sh.k6 (h : Sh n R) (hs : isSky s) : Al n (s + 6) 8 7 := by rcases hs with rfl | rfl | rfl <;> exact h.al rfl (by decide)
theorem Sh.k7 (h : Sh n R) (hs : isSky s) : Al n (s + 7) 8 7 := by rcases hs with rfl | rfl | rfl <;> exact h.al rfl (by decide)
theorem Sh.k8 (h : Sh n R) (hs : isSky s) : Al n (s + 8) 8 7 := by rcases hs with rfl | rfl | rfl <;> exact h.al rfl (by decide)
theorem Sh.k9 (h : Sh n R) (hs : isSky s) : Al n (s + 9) 10 7 := by rcases hs with rfl | rfl | rfl <;> exact h.al rfl (by decide)
theorem Sh.kt (h : Sh n R) (hs : isSky s) {j : Nat} (hj : j < 6) : Al n (s + 3 + j) 8 7 := by
  have e : j = 0 ∨ j = 1 ∨ j = 2 ∨ j = 3 ∨ j = 4 ∨ j = 5 := by omega
  rcases e with rfl | rfl | rfl | rfl | rfl | rfl
  · exact h.k3 hs
  · exact h.k4 hs
  · exact h.k5 hs
  · exact h.k6 hs
  · exact h.k7 hs
  · exact h.k8 hs
theorem Sh.kc (h : Sh n R) (hs : isSky s) {j : Nat} (hj : j < 7) : Al n (s + 10 + j) 8 200 := by
  have e : j = 0 ∨ j = 1 ∨ j = 2 ∨ j = 3 ∨ j = 4 ∨ j = 5 ∨ j = 6 := by omega
  rcases hs with rfl | rfl | rfl <;> rcases e with rfl | rfl | rfl | rfl | rfl | rfl | rfl <;> exact h.al rfl (by decide)
theorem Sh.kr0 (h : Sh n R) (hs : isSky s) : R s 0 = s + 1 := by rcases hs with rfl | rfl | rfl <;> exact h.r _ _ _ (by decide)
theorem Sh.kr1 (h : Sh n R) (hs : isSky s) : R s 1 = s + 2 := by rcases hs with rfl | rfl | rfl <;> exact h.r _ _ _ (by decide)
theorem Sh.kr2 (h : Sh n R) (hs : isSky s) : R s 2 = s + 3 := by rcases hs with rfl | rfl | rfl <;> exact h.r _ _ _ (by decide)
theorem Sh.kr3 (h : Sh n R) (hs : isSky s) : R s 3 = s + 4 := by rcases hs with rfl | rfl | rfl <;> exact h.r _ _ _ (by decide)
theorem Sh.kr4 (h : Sh n R) (hs : isSky s) : R s 4 = s + 5 := by rcases hs with rfl | rfl | rfl <;> exact h.r _ _ _ (by decide)
theorem Sh.kr5 (h : Sh n R) (hs : isSky s) : R s 5 = s + 6 := by rcases hs with rfl | rfl | rfl <;> exact h.r _ _ _ (by decide)
theorem Sh.kr6 (h : Sh n R) (hs : isSky s) : R s 6 = s + 7 := by rcases hs with rfl | rfl | rfl <;> exact h.r _ _ _ (by decide)
theorem Sh.kr7 (h : Sh n R) (hs : isSky s) : R s 7 = s + 8 := by rcases hs with rfl | rfl | rfl <;> exact h.r _ _ _ (by decide)
theorem Sh.kr8 (h : Sh n R) (hs : isSky s) : R s 8 = s + 9 := by rcases hs with rfl | rfl | rfl <;> exact h.r _ _ _ (by decide)
theorem Sh.krt (h : Sh n R) (hs : isSky s) {j : Nat} (hj : j < 6) : R (s + 2) j = s + 3 + j := by
  have e : j = 0 ∨ j = 1 ∨ j = 2 ∨ j = 3 ∨ j = 4 ∨ j = 5 := by omega
  rcases hs with rfl | rfl | rfl <;> rcases e with rfl | rfl | rfl | rfl | rfl | rfl <;> exact h.r _ _ _ (by decide)
theorem Sh.krc (h : Sh n R) (hs : isSky s) {j : Nat} (hj : j < 7) : R (s + 9) j = s + 10 + j := by
  have e : j = 0 ∨ j = 1 ∨ j = 2 ∨ j = 3 ∨ j = 4 ∨ j = 5 ∨ j = 6 := by omega
  rcases hs with rfl | rfl | rfl <;> rcases e with rfl | rfl | rfl | rfl | rfl | rfl | rfl <;> exact h.r _ _ _ (by decide)
theorem Sh.t0 (h : Sh n R) (ht : isText t) : Al n t 4 3 := by rcases ht with rfl | rfl | rfl | rfl | rfl | rfl | rfl <;> exact h.al rfl (by decide)
theorem Sh.t1 (h : Sh n R) (ht : isText t) : Al n (t + 1) 8 160 := by rcases ht with rfl | rfl | rfl | rfl | rfl | rfl | rfl <;> exact h.al rfl (by decide)
theorem Sh.t2 (h : Sh n R) (ht : isText t) : Al n (t + 2) 8 3 := by rcases ht with rfl | rfl | rfl | rfl | rfl | rfl | rfl <;> exact h.al rfl (by decide)
theorem Sh.tr0 (h : Sh n R) (ht : isText t) : R t 0 = t + 1 := by rcases ht with rfl | rfl | rfl | rfl | rfl | rfl | rfl <;> exact h.r _ _ _ (by decide)
theorem Sh.tr1 (h : Sh n R) (ht : isText t) : R t 1 = t + 2 := by rcases ht with rfl | rfl | rfl | rfl | rfl | rfl | rfl <;> exact h.r _ _ _ (by decide)
theorem Shw.t0 (h : Shw n R) (ht : isText t) : Al n t 4 3 := by rcases ht with rfl | rfl | rfl | rfl | rfl | rfl | rfl <;> exact h.al rfl (by decide)
theorem Shw.t1 (h : Shw n R) (ht : isText t) : Al n (t + 1) 8 160 := by rcases ht with rfl | rfl | rfl | rfl | rfl | rfl | rfl <;> exact h.al rfl (by decide)
theorem Shw.t2 (h : Shw n R) (ht : isText t) : Al n (t + 2) 8 3 := by rcases ht with rfl | rfl | rfl | rfl | rfl | rfl | rfl <;> exact h.al rfl (by decide)
theorem Shw.tr0 (h : Shw n R) (ht : isText t) : R t 0 = t + 1 := by rcases ht with rfl | rfl | rfl | rfl | rfl | rfl | rfl <;> exact h.r _ _ _ (by decide)
theorem Shw.tr1 (h : Shw n R) (ht : isText t) : R t 1 = t + 2 := by rcases ht with rfl | rfl | rfl | rfl | rfl | rfl | rfl <;> exact h.r _ _ _ (by decide)
theorem Sh.h0 (h : Sh n R) (ht : isSheet t) : Al n t 2 3 := by rcases ht with rfl | rfl | rfl | rfl <;> exact h.al rfl (by decide)
theorem Sh.h1 (h : Sh n R) (ht : isSheet t) : Al n (t + 1) 8 40 := by rcases ht with rfl | rfl | rfl | rfl <;> exact h.al rfl (by decide)
theorem Sh.hr2 (h : Sh n R) (ht : isSheet t) : R t 2 = t + 1 := by rcases ht with rfl | rfl | rfl | rfl <;> exact h.r _ _ _ (by decide)
theorem Sh.txA (h : Sh n R) {j : Nat} (hj : j < 6) : R 69 j = 71 + 3 * j := by
  have e : j = 0 ∨ j = 1 ∨ j = 2 ∨ j = 3 ∨ j = 4 ∨ j = 5 := by omega
  rcases e with rfl | rfl | rfl | rfl | rfl | rfl <;> exact h.r _ _ _ (by decide)
theorem isText_at {j : Nat} (hj : j < 6) : isText (71 + 3 * j) := by unfold isText; omega
theorem Sh.shA (h : Sh n R) {j : Nat} (hj : j < 4) : R 70 j = 89 + 2 * j := by
  have e : j = 0 ∨ j = 1 ∨ j = 2 ∨ j = 3 := by omega
  rcases e with rfl | rfl | rfl | rfl <;> exact h.r _ _ _ (by decide)
theorem isSheet_at {j : Nat} (hj : j < 4) : isSheet (89 + 2 * j) := by unfold isSheet; omega
end XS
