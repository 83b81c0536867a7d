/-! the greater, the less, as naturals -/
section XNum2
variable {g : GP} {d : Nat} {M : MD} {pc idx : Nat} {L rest : List Value} {bc bs n : Nat} {I : TI} {J : TJ} {R : TR} {Q : TQ}
theorem nI_ifmax {a b : Nat} (ha : a < 2 ^ 31) (hb : b < 2 ^ 31) : (if nI a < nI b then nI b else nI a) = nI (if a < b then b else a) := by
  by_cases h : a < b
  · rw [if_pos h, if_pos ((nI_ltI ha hb).mpr h)]
  · rw [if_neg h, if_neg (fun z => h ((nI_ltI ha hb).mp z))]
theorem nI_ifmin {a b : Nat} (ha : a < 2 ^ 31) (hb : b < 2 ^ 31) : (if nI b < nI a then nI b else nI a) = nI (if b < a then b else a) := by
  by_cases h : b < a
  · rw [if_pos h, if_pos ((nI_ltI hb ha).mpr h)]
  · rw [if_neg h, if_neg (fun z => h ((nI_ltI hb ha).mp z))]
theorem r_nmmax {x y : Int32} {a b : Nat} (hd : decode M.2.1 pc = .ok (.invokestatic idx, 3)) (hl : Cond.methodLink M.1.cls idx Lib.Math.max.name ∈ GW) (h8 : (rest.map fun v => v.category).sum ≤ 8) (hx : x = nI a) (hy : y = nI b) (ha : a < 2 ^ 31) (hb : b < 2 ^ 31) (K : Wp g (d + 1) M (pc + 3) L (.int (nI (if a < b then b else a)) :: rest) bc bs n I J R Q) : Wp g (d + 1) M pc L (.int y :: .int x :: rest) bc bs n I J R Q := by
  subst hx hy
  exact r_mmax hd hl h8 (by rw [nI_ifmax ha hb]; exact K)
theorem r_nmmin {x y : Int32} {a b : Nat} (hd : decode M.2.1 pc = .ok (.invokestatic idx, 3)) (hl : Cond.methodLink M.1.cls idx Lib.Math.min.name ∈ GW) (h8 : (rest.map fun v => v.category).sum ≤ 8) (hx : x = nI a) (hy : y = nI b) (ha : a < 2 ^ 31) (hb : b < 2 ^ 31) (K : Wp g (d + 1) M (pc + 3) L (.int (nI (if b < a then b else a)) :: rest) bc bs n I J R Q) : Wp g (d + 1) M pc L (.int y :: .int x :: rest) bc bs n I J R Q := by
  subst hx hy
  exact r_mmin hd hl h8 (by rw [nI_ifmin ha hb]; exact K)
end XNum2
