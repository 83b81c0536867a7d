/-! new int[N][K]: the outer array at its place, the inner ones behind it -/
theorem outC (c : ClassId) (N h0 : Nat) : ∀ i : Nat, Jvm.Free.Multi.outerC c N h0 i = arrV c N (fun j => if j < i then .ref (h0 + 1 + j) else .null)
  | 0 => by
    show ({ cls := c, slots := Array.replicate N .null, vm := .none } : Cell) = _
    rw [arrV_new]
    refine congrArg (arrV c N) (funext fun j => ?_)
    rw [if_neg (Nat.not_lt_zero j)]
  | i + 1 => by
    show (Jvm.Free.Multi.outerC c N h0 i).setSlot i (.ref (h0 + 1 + i)) = _
    rw [outC c N h0 i, arrV_store]
    refine congrArg (arrV c N) (funext fun j => ?_)
    unfold updV
    by_cases e : j = i
    · rw [if_pos e, if_pos (show j < i + 1 by omega), e]
    · rw [if_neg e]
      show (if j < i then Value.ref (h0 + 1 + j) else Value.null) = _
      by_cases h : j < i
      · rw [if_pos h, if_pos (show j < i + 1 by omega)]
      · rw [if_neg h, if_neg (show ¬ j < i + 1 by omega)]
def mnI (I : TI) (n N : Nat) : TI := fun a => if 12 + n < a ∧ a < 13 + n + N then (fun _ => 0) else I a
def mnR (R : TR) (n : Nat) : TR := fun a => if a = 12 + n then (fun j => 13 + n + j) else R a
section XMna
variable {g : GP} {d : Nat} {M : MD} {pc idx : Nat} {L st : List Value} {bc bs n : Nat} {I : TI} {J : TJ} {R : TR} {Q : TQ}
theorem r_mna {N K : Nat} (hd : decode M.2.1 pc = .ok (.multianewarray idx 2, 4)) (hl : Cond.classLink M.1.cls idx "[[I" ∈ GW) (hw : Cond.arrayClass .int ∈ GW) (hA : LAY (12 + n) = (10, N)) (hB : ∀ i, i < N → LAY (13 + n + i) = (8, K)) (hN : N ≤ 7) (hK : K ≤ 200) (KK : Wp g d M (pc + 4) L (.ref (12 + n) :: st) bc bs (n + 1 + N) (mnI I n N) J (mnR R n) Q) : Wp g d M pc L (.int (nI K) :: .int (nI N) :: st) (bc + 1 + N) (bs + N + N * K) n I J R Q := by
  intro p e Rm s m args below meth c H locs cells slots ls C hW hL hlc hc hs T hT X
  have hover : aoI s := C.2.2.2.2.2.2.1.2.2.2.2.2.2.2.2
  have cN : (nI N).toNatClampNeg = N := nI_clamp (by omega)
  have cK : (nI K).toNatClampNeg = K := nI_clamp (by omega)
  obtain ⟨vm₁, cA, comp, hW1, fA, fC, hO, hI, X', step⟩ := X.multianewarray2F C.1 (index := idx) (ty := .int) C.2.2.2.2.1 (GWb C hl) hover (GWb C hw) (g := F0 m pc ls ((.int (nI K) :: .int (nI N) :: st).map (cv g))) rfl (by rw [C.2.1]; exact hd) (n := nI N) (k := nI K) (rest := st.map (cv g)) rfl (nI_pos (by omega)) (nI_pos (by omega)) (by rw [cN]; omega) (by rw [cK]; show K * 4 ≤ _; omega) (by rw [cK]; omega) rfl rfl (by rw [cN]; omega) (by rw [cN, cK]; omega)
  rw [cN, cK] at X' step
  generalize hF : Jvm.Free.Multi.fill (T.setVm vm₁) cA comp N K (defaultValue .int) N = F at X' step
  have hTh : (T.setVm vm₁).heap = H := hT
  obtain ⟨f1, f2, -, -⟩ := Jvm.Free.Multi.fill_facts (T.setVm vm₁) cA comp N K (defaultValue .int) N
  rw [hF, hTh] at f1 f2
  have hold : ∀ x : Nat, x < H.size → F.heap[x]? = H[x]? := fun x hx => by
    have h := Jvm.Free.Multi.fill_old (T.setVm vm₁) cA comp N K (defaultValue .int) (a := x) (by rw [hTh]; exact hx) N
    rw [hF, hTh] at h
    exact h
  have hrow : ∀ j : Nat, j < N → F.heap[H.size + 1 + j]? = some (arrV comp K (fun _ => .int 0)) := fun j hj => by
    have h := Jvm.Free.Multi.fill_inner (T.setVm vm₁) cA comp N K (defaultValue .int) N j hj
    rw [hF, hTh] at h
    rw [h]
    exact congrArg some (arrV_new comp K (.int 0))
  rw [outC] at f2
  have hAd : ad g (12 + n) = H.size := ad_new hW
  have hAd2 : ∀ i, ad g (13 + n + i) = H.size + 1 + i := fun i => by
    unfold ad
    rw [if_neg (by omega), hW.1]
    omega
  have hW2 : WR g s F.heap (n + 1 + N) (mnI I n N) J (mnR R n) := by
    refine ⟨by rw [f1, hW.1]; omega, fun q hq => ?_, fun b h1 h2 => ?_, fun b q hq => ?_⟩
    · rw [hold q (by rw [hW.1]; omega)]
      exact hW.2.1 q hq
    · by_cases e : b < 12 + n
      · refine (hW.2.2.1 b h1 e).congr (if_neg (by omega)) rfl (if_neg (by omega)) (hold _ ?_)
        unfold ad
        rw [if_neg (by omega), hW.1]
        omega
      · by_cases e2 : b = 12 + n
        · subst e2
          rw [hA]
          show CellK _ _ _ _ _ _ _ 10 N
          unfold CellK
          rw [if_neg (by decide), if_neg (by decide), if_pos rfl, hAd]
          refine ⟨cA, ?_, fun N2 z => ?_⟩
          · rw [f2]
            refine congrArg some (congrArg (fun f => ({ cls := cA, slots := Array.ofFn (n := N) f, vm := .none } : Cell)) (funext fun j => ?_))
            have ej : mnR R n (12 + n) j.val = 13 + n + j.val := by unfold mnR; rw [if_pos rfl]
            show (if j.val < N then Value.ref (H.size + 1 + j.val) else Value.null) = rv g (mnR R n (12 + n) j.val)
            rw [if_pos j.isLt, ej]
            unfold rv
            rw [if_neg (by omega), hAd2]
          · have h := (hO N2 0 0).1
            exact ⟨(fun k h => by cases h), h.2⟩
        · obtain ⟨i, rfl⟩ : ∃ i, b = 13 + n + i := ⟨b - (13 + n), by omega⟩
          have hi : i < N := by omega
          rw [hB i hi]
          show CellK _ _ _ _ _ _ _ 8 K
          unfold CellK
          rw [if_pos rfl, hAd2]
          refine ⟨comp, ?_, fun N2 z => ?_⟩
          · rw [hrow i hi]
            refine congrArg some (congrArg (arrV comp K) (funext fun j => ?_))
            unfold mnI
            rw [if_pos (by omega)]
          · have h := (hI N2 (.int 0)).1
            exact ⟨(fun k h => by cases h), h.2⟩
    · have hb : b < 12 := SL_lt hq
      have eb : mnI I n N b = I b := if_neg (by omega)
      rw [eb]
      exact hW.2.2.2 b q hq
  have K2 := KK p e Rm s m args below meth c F.heap locs (cells + 1 + N) (slots + N + N * K) ls C hW2 hL hlc (by omega) (by omega) F rfl X'
  rw [List.map_cons, cv, hAd, ← hT] at K2
  obtain ⟨t, a1, b1⟩ := K2
  exact ⟨t, step t a1, b1⟩
end XMna
