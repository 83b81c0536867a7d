/-! the worlds at the law's entry -/
def FC0 : List Cond := flatC (Jvm.Cond.and given_1 narrow_1)
def bytL : List (List Int32) := [[116, 117, 114, 110, 115, 32, 102, 97, 114, 32, 59, 32, 102, 105, 110, 100, 115, 32, 53, 32, 59, 32, 119, 97, 105, 116, 115, 32, 48, 32, 59], [32, 116, 105, 99, 107, 32, 102, 97, 114, 32, 109, 111, 111, 110, 32, 110, 117, 109, 98, 101, 114, 32, 104, 101, 105, 103, 104, 116, 32, 111, 114, 100, 101, 114, 32, 116, 117, 114, 110, 115, 32, 102, 105, 110, 100, 115, 32, 119, 97, 105, 116, 115, 32, 111, 114, 32, 97, 110, 100, 32, 110, 111, 116, 32], [40, 41, 59, 43, 45, 42, 60, 61]]
def tmS (i : Nat) : Term := if i = 0 then .string RX6 60 else if i = 1 then .string RX1 113 else .string RX1 105
theorem fs_0 : ∀ j, j < 31 → FC0[66 + j]? = some (Cond.eq (.elem (.field (tmS 0) "java/lang/String" "value" "[B") (.int (Int32.ofNat j))) (.int ((bytL.getD 0 []).getD j 0))) := by decide +kernel
theorem fs_1 : ∀ j, j < 64 → FC0[101 + j]? = some (Cond.eq (.elem (.field (tmS 1) "java/lang/String" "value" "[B") (.int (Int32.ofNat j))) (.int ((bytL.getD 1 []).getD j 0))) := by decide +kernel
theorem fs_2 : ∀ j, j < 8 → FC0[170 + j]? = some (Cond.eq (.elem (.field (tmS 2) "java/lang/String" "value" "[B") (.int (Int32.ofNat j))) (.int ((bytL.getD 2 []).getD j 0))) := by decide +kernel
theorem ft_2 : ∀ j, j < 13 → FC0[12 + j]? = some (Cond.eq (.elem (.static RX6 "MOST" "[I") (.int (Int32.ofNat j))) (.int (nI (mostN j)))) := by decide +kernel
theorem ft_3 : ∀ j, j < 6 → FC0[40 + j]? = some (Cond.eq (.elem (.static RX6 "KIND_ABOVE" "[I") (.int (Int32.ofNat j))) (.int (zI (kAb j)))) := by decide +kernel
theorem ft_4 : ∀ j, j < 3 → FC0[28 + j]? = some (Cond.eq (.elem (.static RX4 "LEAST_VALUE" "[I") (.int (Int32.ofNat j))) (.int (nI (lvN j)))) := by decide +kernel
theorem ft_5 : ∀ j, j < 3 → FC0[34 + j]? = some (Cond.eq (.elem (.static RX4 "MOST_VALUE" "[I") (.int (Int32.ofNat j))) (.int (nI (mvN j)))) := by decide +kernel
theorem by_0 : ∀ j, j < 31 → (bytL.getD 0 []).getD j 0 = nI (tx1 j) := by decide +kernel
theorem by_1 : ∀ j, j < 64 → (bytL.getD 1 []).getD j 0 = nI (wrdN j) := by decide +kernel
theorem by_2 : ∀ j, j < 8 → (bytL.getD 2 []).getD j 0 = nI (sgnN j) := by decide +kernel
/-- the ints that are there at the start -/
def mkI (xs : Nat → Int32) (a j : Nat) : Int32 := match a with
  | 1 => xs j
  | 2 => nI (mostN j)
  | 3 => zI (kAb j)
  | 4 => nI (lvN j)
  | 5 => nI (mvN j)
  | 9 => (bytL.getD 0 []).getD j 0
  | 10 => (bytL.getD 1 []).getD j 0
  | 11 => (bytL.getD 2 []).getD j 0
  | _ => 0
theorem StI_mk (xs : Nat → Int32) : StI (mkI xs) := ⟨⟨fun _ _ => rfl, fun _ _ => rfl⟩, fun _ _ => rfl, fun _ _ => rfl, ⟨by_1, by_2⟩, by_0⟩
/-- the places that are there at the start -/
def plS0 (b tM tK tL tV : Nat) (aK aV : Nat → Nat) (a : Nat) : Nat := match a with
  | 1 => b
  | 2 => tM
  | 3 => tK
  | 4 => tL
  | 5 => tV
  | 6 => aK 0
  | 7 => aK 1
  | 8 => aK 2
  | 9 => aV 0
  | 10 => aV 1
  | 11 => aV 2
  | _ => 0
section XStart
variable {s : State} {b : Nat}
theorem fc_at (hg : ∀ w ∈ FC0, w.before #[Value.ref b] s = true) {k : Nat} {w : Cond} (h : FC0[k]? = some w) : w.before #[Value.ref b] s = true := hg w (List.mem_of_getElem? h)
theorem tb_at (ht : ∀ w ∈ lw_tbl, w.before #[Value.ref b] s = true) {k : Nat} {w : Cond} (h : lw_tbl[k]? = some w) : w.before #[Value.ref b] s = true := ht w (List.mem_of_getElem? h)
theorem no_A : ∀ a : Nat, a < s.heap.size → ¬ (fun q : Nat => s.heap.size ≤ q) a := fun _ h => Nat.not_le.mpr h
theorem st_arr (hg : ∀ w ∈ FC0, w.before #[Value.ref b] s = true) {C n : String} {N k : Nat} {f : Nat → Int32} (hl : (Cond.laysStatic C n "[I").before #[Value.ref b] s = true) (hi : (Cond.initialized C).before #[Value.ref b] s = true) (hN : N < 2 ^ 31) (h1 : FC0[k]? = some (Cond.arrayOf (.static C n "[I") .int)) (h2 : FC0[k + 1]? = some (Cond.eq (.length (.static C n "[I")) (.int (Int32.ofNat N)))) (h3 : ∀ j, j < N → FC0[k + 2 + j]? = some (Cond.eq (.elem (.static C n "[I") (.int (Int32.ofNat j))) (.int (f j)))) :
    ∃ t : Nat, va_Z C n "[I" (.ref t) (fun q : Nat => s.heap.size ≤ q) s s.heap ∧ va_T .int t N (fun j => .int (f j)) (fun q : Nat => s.heap.size ≤ q) s s.heap := by
  obtain ⟨t, e, hT⟩ := va_Tof (tm := .static C n "[I") (ty := .int) (f := fun j => .int (f j)) (A := fun q : Nat => s.heap.size ≤ q) hN (fc_at hg h1) (va_eqt (fc_at hg h2)) (fun j hj => va_eqt (fc_at hg (h3 j hj))) no_A
  exact ⟨t, va_Zref hl hi e no_A, hT⟩
theorem st_str (hg : ∀ w ∈ FC0, w.before #[Value.ref b] s = true) : ∃ aK aV : Nat → Nat, vk_S 3 [31, 64, 8] bytL aK aV (fun q : Nat => s.heap.size ≤ q) s s.heap ∧ ∀ i : Nat, i < 3 → (tmS i).eval #[Value.ref b] s none [] s = some (.ref (aK i)) := by
  refine vk_Sof (tm := tmS) (by decide) (fun i hi => ?_) (fun i hi => ?_) (fun i hi => ?_) (fun i hi => ?_) (fun i hi j hj => ?_) (fun i j hi hj hij => ?_) no_A
  · rcases (show i = 0 ∨ i = 1 ∨ i = 2 by omega) with rfl | rfl | rfl
    · exact fc_at hg (k := 62) (by decide +kernel)
    · exact fc_at hg (k := 97) (by decide +kernel)
    · exact fc_at hg (k := 166) (by decide +kernel)
  · rcases (show i = 0 ∨ i = 1 ∨ i = 2 by omega) with rfl | rfl | rfl
    · exact fc_at hg (k := 63) (by decide +kernel)
    · exact fc_at hg (k := 98) (by decide +kernel)
    · exact fc_at hg (k := 167) (by decide +kernel)
  · rcases (show i = 0 ∨ i = 1 ∨ i = 2 by omega) with rfl | rfl | rfl
    · exact fc_at hg (k := 64) (by decide +kernel)
    · exact fc_at hg (k := 99) (by decide +kernel)
    · exact fc_at hg (k := 168) (by decide +kernel)
  · rcases (show i = 0 ∨ i = 1 ∨ i = 2 by omega) with rfl | rfl | rfl
    · exact fc_at hg (k := 65) (by decide +kernel)
    · exact fc_at hg (k := 100) (by decide +kernel)
    · exact fc_at hg (k := 169) (by decide +kernel)
  · rcases (show i = 0 ∨ i = 1 ∨ i = 2 by omega) with rfl | rfl | rfl
    · exact fc_at hg (fs_0 j hj)
    · exact fc_at hg (fs_1 j hj)
    · exact fc_at hg (fs_2 j hj)
  · have e : (i = 0 ∧ j = 1) ∨ (i = 0 ∧ j = 2) ∨ (i = 1 ∧ j = 2) ∨ (i = 1 ∧ j = 0) ∨ (i = 2 ∧ j = 0) ∨ (i = 2 ∧ j = 1) := by omega
    rcases e with ⟨rfl, rfl⟩ | ⟨rfl, rfl⟩ | ⟨rfl, rfl⟩ | ⟨rfl, rfl⟩ | ⟨rfl, rfl⟩ | ⟨rfl, rfl⟩
    · exact Or.inl (fc_at hg (k := 165) (by decide +kernel))
    · exact Or.inl (fc_at hg (k := 178) (by decide +kernel))
    · exact Or.inl (fc_at hg (k := 179) (by decide +kernel))
    · exact Or.inr (fc_at hg (k := 165) (by decide +kernel))
    · exact Or.inr (fc_at hg (k := 178) (by decide +kernel))
    · exact Or.inr (fc_at hg (k := 179) (by decide +kernel))
theorem st_cls (ht : ∀ w ∈ lw_tbl, w.before #[Value.ref b] s = true) : ∃ D : va_G, va_K D vwCl [] s := by
  have hw : ∀ w ∈ GW, w.before #[Value.ref b] s = true := fun w h => ht w (List.mem_filter.mp h).1
  obtain ⟨c0, i0, h0⟩ := u_known hw cl0.2.2.1 (hw _ w_597)
  obtain ⟨c1, i1, h1⟩ := u_known hw cl1.2.2.1 (hw _ w_77)
  obtain ⟨c2, i2, h2⟩ := u_known hw cl2.2.2.1 (hw _ w_129)
  obtain ⟨c3, i3, h3⟩ := u_known hw cl3.2.2.1 (hw _ w_27)
  obtain ⟨c4, i4, h4⟩ := u_known hw cl4.2.2.1 (hw _ w_83)
  obtain ⟨c5, i5, h5⟩ := u_known hw cl5.2.2.1 (hw _ w_148)
  obtain ⟨c6, i6, h6⟩ := u_known hw cl6.2.2.1 (hw _ w_19)
  obtain ⟨c7, i7, h7⟩ := u_known hw cl7.2.2.1 (hw _ w_780)
  have h0 : ∀ k : Nat, ∃ p : ClassId × (Nat → Nat), ∀ q : vw_C, vwCl[k]? = some q → u_Kn s q.1 q.2.1 q.2.2 p.1 p.2 := by
    intro k
    match k with
    | 0 => exact ⟨(c0, i0), fun q hq => by cases hq; exact h0⟩
    | 1 => exact ⟨(c1, i1), fun q hq => by cases hq; exact h1⟩
    | 2 => exact ⟨(c2, i2), fun q hq => by cases hq; exact h2⟩
    | 3 => exact ⟨(c3, i3), fun q hq => by cases hq; exact h3⟩
    | 4 => exact ⟨(c4, i4), fun q hq => by cases hq; exact h4⟩
    | 5 => exact ⟨(c5, i5), fun q hq => by cases hq; exact h5⟩
    | 6 => exact ⟨(c6, i6), fun q hq => by cases hq; exact h6⟩
    | 7 => exact ⟨(c7, i7), fun q hq => by cases hq; exact h7⟩
    | k + 8 => exact ⟨(c0, i0), fun q hq => by simp [vwCl] at hq⟩
  obtain ⟨f, hf⟩ := Classical.axiomOfChoice h0
  exact ⟨(fun k => (f k).1, fun k => (f k).2), fun k q hq => hf k q hq, fun k q h => by simp at h⟩
theorem nest_pos : ∀ i, i < 12 → lw_tbl[([96, 146, 152, 196, 198, 222, 467, 509, 594, 657, 666, 507] : List Nat).getD i 0]? = nestW[i]? := by decide +kernel
theorem nest_tab : ∀ w ∈ nestW, w.onTables = true := by decide +kernel
theorem st_nest (ht : ∀ w ∈ lw_tbl, w.before #[Value.ref b] s = true) : ∀ w ∈ nestW, va_Nw w s := fun w hw => by
  obtain ⟨i, hi⟩ := List.getElem?_of_mem hw
  have h12 : i < 12 := (List.getElem?_eq_some_iff.mp hi).1
  exact va_Nw.of (nest_tab w hw) (ht w (List.mem_of_getElem? ((nest_pos i h12).trans hi)))
/-- the world at the law's entry -/
theorem st_all (l : Launch) {L : Nat} {xs : Nat → Int32} (ht : ∀ w ∈ lw_tbl, w.before #[Value.ref b] s = true) (hg : ∀ w ∈ FC0, w.before #[Value.ref b] s = true) (hX : va_X b L xs s s.heap) (hb : b < s.heap.size) : ∃ (S : Nat → Nat) (D : va_G) (o : Value), S 1 = b ∧ VOK (l, S, D, s.heap, o, L) s ∧ WR (l, S, D, s.heap, o, L) s s.heap 0 (mkI xs) (fun _ _ => 0) (fun _ _ => 0) := by
  obtain ⟨D, hK⟩ := st_cls ht
  obtain ⟨aK, aV, hS, hE⟩ := st_str hg
  obtain ⟨tM, zM, hM⟩ := st_arr hg (k := 10) (tb_at ht (k := 508) (by decide +kernel)) (tb_at ht (k := 69) (by decide +kernel)) (by decide) (by decide +kernel) (by decide +kernel) ft_2
  obtain ⟨tK, zK, hKA⟩ := st_arr hg (k := 38) (tb_at ht (k := 846) (by decide +kernel)) (tb_at ht (k := 69) (by decide +kernel)) (by decide) (by decide +kernel) (by decide +kernel) ft_3
  obtain ⟨tL, zL, hLV⟩ := st_arr hg (k := 26) (tb_at ht (k := 615) (by decide +kernel)) (tb_at ht (k := 72) (by decide +kernel)) (by decide) (by decide +kernel) (by decide +kernel) ft_4
  obtain ⟨tV, zV, hMV⟩ := st_arr hg (k := 32) (tb_at ht (k := 618) (by decide +kernel)) (tb_at ht (k := 72) (by decide +kernel)) (by decide) (by decide +kernel) (by decide +kernel) ft_5
  have zC : va_Z "java/lang/String" "COMPACT_STRINGS" "Z" (.int 1) (fun q : Nat => s.heap.size ≤ q) s s.heap := va_Zof (tb_at ht (k := 275) (by decide +kernel)) (tb_at ht (k := 75) (by decide +kernel)) (va_eqi (fc_at hg (k := 4) (by decide +kernel))) no_A
  have zO : va_Zq "jdk/internal/util/Preconditions" "SIOOBE_FORMATTER" "Ljava/util/function/BiFunction;" (fun q : Nat => s.heap.size ≤ q) s s.heap := va_Zqof (tb_at ht (k := 291) (by decide +kernel)) (tb_at ht (k := 77) (by decide +kernel)) (fc_at hg (k := 5) (by decide +kernel)) no_A
  have zO2 : ∃ o : Value, (o = .null ∨ ∃ t, o = .ref t) ∧ va_Z "jdk/internal/util/Preconditions" "SIOOBE_FORMATTER" "Ljava/util/function/BiFunction;" o (fun q : Nat => s.heap.size ≤ q) s s.heap := by
    rcases zO with h | ⟨t, h⟩
    · exact ⟨.null, Or.inl rfl, h⟩
    · exact ⟨.ref t, Or.inr ⟨t, rfl⟩, h⟩
  obtain ⟨o, ho, zO⟩ := zO2
  refine ⟨plS0 b tM tK tL tV aK aV, D, o, rfl, ⟨hK, fun q hq => ?_, fun i hi => ?_, fun i q hq => ?_, st_nest ht, ho, va_AO.of (tb_at ht (k := 193) (by decide +kernel)), va_AO.of (tb_at ht (k := 195) (by decide +kernel)), ?_⟩, rfl, fun _ _ => rfl, fun a h1 h2 => by omega, fun a q hq => ?_⟩
  · simp only [zsL, List.mem_cons, List.not_mem_nil, or_false] at hq
    rcases hq with rfl | rfl | rfl | rfl | rfl | rfl
    · exact zM
    · exact zK
    · exact zL
    · exact zV
    · exact zC
    · exact zO
  · rcases (show i = 0 ∨ i = 1 ∨ i = 2 by omega) with rfl | rfl | rfl
    · exact ⟨(hS.1 0 hi).1, (hS.1 0 hi).2.1, (hS.1 0 hi).2.2.1⟩
    · exact ⟨(hS.1 1 hi).1, (hS.1 1 hi).2.1, (hS.1 1 hi).2.2.1⟩
    · exact ⟨(hS.1 2 hi).1, (hS.1 2 hi).2.1, (hS.1 2 hi).2.2.1⟩
  · match i, hq with
    | 0, hq => cases hq; exact vk_R.of (tb_at ht (k := 265) (by decide +kernel)) (hE 0 (by decide))
    | 1, hq => cases hq; exact vk_R.of (tb_at ht (k := 337) (by decide +kernel)) (hE 1 (by decide))
    | 2, hq => cases hq; exact vk_R.of (tb_at ht (k := 351) (by decide +kernel)) (hE 2 (by decide))
    | i + 3, hq => simp [strK] at hq
  · exact ((tb_at ht (w := Cond.arrayOver (.array .int)) (k := 101) (by decide +kernel)) : (Cond.arrayOver (.array .int)).before #[Value.ref b] s = true)
  · match a, hq with
    | 0, hq => cases hq
    | 1, hq =>
      cases hq
      obtain ⟨scr, h1, h2, h3, h4, h5⟩ := hX
      exact ⟨scr, h1, h2, h3, Nat.le_of_eq h4.symm, by rw [h4], h5, Nat.not_le.mpr hb⟩
    | 2, hq => cases hq; exact hM
    | 3, hq => cases hq; exact hKA
    | 4, hq => cases hq; exact hLV
    | 5, hq => cases hq; exact hMV
    | 6, hq => cases hq
    | 7, hq => cases hq
    | 8, hq => cases hq
    | 9, hq => cases hq; exact (hS.1 0 (by decide)).2.2.2
    | 10, hq => cases hq; exact (hS.1 1 (by decide)).2.2.2
    | 11, hq => cases hq; exact (hS.1 2 (by decide)).2.2.2
    | a + 12, hq => simp [SL] at hq
theorem st_sx (l : Launch) {L : Nat} {xs : Nat → Int32} {S : Nat → Nat} {D : va_G} {o : Value} (hX : va_X b L xs s s.heap) (hS : S 1 = b) : SX (l, S, D, s.heap, o, L) xs := by
  intro U H n I J R hW j hj
  obtain ⟨cell, h1, -, -, -, -, h6, -⟩ := hW.2.2.2 1 (.int, L) rfl
  obtain ⟨scr, g1, -, -, -, g5⟩ := hX
  have h1 : s.heap[S 1]? = some cell := h1
  rw [hS, g1] at h1
  cases h1
  have e := (h6 j hj).symm.trans (g5 j hj)
  injection e with e
  injection e
end XStart
