/-! numbers: rows over naturals (nI) and whole numbers (zI) -/
def zI (z : Int) : Int32 := Int32.ofInt z
theorem nz (k : Nat) : nI k = zI (k : Int) := rfl
theorem zI_add (a b : Int) : zI a + zI b = zI (a + b) := by
  apply Int32.toInt_inj.mp
  simp [zI, Int32.toInt_ofInt, Int32.toInt_add]
theorem zI_sub (a b : Int) : zI a - zI b = zI (a - b) := by
  apply Int32.toInt_inj.mp
  simp [zI, Int32.toInt_ofInt, Int32.toInt_sub]
theorem zI_mul (a b : Int) : zI a * zI b = zI (a * b) := by
  apply Int32.toInt_inj.mp
  simp [zI, Int32.toInt_ofInt, Int32.toInt_mul]
theorem zI_neg (a : Int) : -zI a = zI (-a) := by
  apply Int32.toInt_inj.mp
  simp [zI, Int32.toInt_ofInt, Int32.toInt_neg]
def inZ (z : Int) : Prop := -2147483648 ≤ z ∧ z < 2147483648
theorem zI_toInt {z : Int} (h : inZ z) : (zI z).toInt = z := by
  unfold zI
  rw [Int32.toInt_ofInt]
  obtain ⟨h1, h2⟩ := h
  exact Int.bmod_eq_of_le (by show -(((4294967296 : Nat) : Int) / 2) ≤ z; omega) (by show z < (((4294967296 : Nat) : Int) + 1) / 2; omega)
theorem zI_lt {a b : Int} (ha : inZ a) (hb : inZ b) : zI a < zI b ↔ a < b := by rw [Int32.lt_iff_toInt_lt, zI_toInt ha, zI_toInt hb]
theorem zI_le {a b : Int} (ha : inZ a) (hb : inZ b) : zI a ≤ zI b ↔ a ≤ b := by rw [Int32.le_iff_toInt_le, zI_toInt ha, zI_toInt hb]
theorem zI_eq {a b : Int} (ha : inZ a) (hb : inZ b) : zI a = zI b ↔ a = b := by rw [← Int32.toInt_inj, zI_toInt ha, zI_toInt hb]
theorem zI_ex (x : Int32) : ∃ z, inZ z ∧ x = zI z := ⟨x.toInt, ⟨Int32.le_toInt x, Int32.toInt_lt x⟩, by unfold zI; rw [Int32.ofInt_toInt]⟩
def bw (x b : Int32) : Bool := decide (0 ≤ x) && decide (x < b)
theorem bw_t {x b : Int32} (h1 : 0 ≤ x) (h2 : x < b) : bw x b = true := by simp [bw, h1, h2]
theorem bw_f1 {x b : Int32} (h1 : x < 0) : bw x b = false := by
  have : ¬ 0 ≤ x := by rw [Int32.not_le]; exact h1
  simp [bw, this]
theorem bw_f2 {x b : Int32} (h2 : ¬ x < b) : bw x b = false := by simp [bw, h2]
theorem bw_nI {k N : Nat} {b : Int32} (hb : b = nI N) (hk : k < 2 ^ 31) (hN : N < 2 ^ 31) : bw (nI k) b = decide (k < N) := by
  subst hb
  have h0 : (0 : Int32) ≤ nI k := nI_pos' hk
  unfold bw
  rw [decide_eq_true h0, Bool.true_and]
  exact decide_eq_decide.mpr (nI_ltI hk hN)
theorem bw_nt {k N : Nat} {b : Int32} (hb : b = nI N) (hN : N < 2 ^ 31) (h : k < N) : bw (nI k) b = true := by
  rw [bw_nI hb (by omega) hN]; exact decide_eq_true h
theorem bw_nf {k N : Nat} {b : Int32} (hb : b = nI N) (hk : k < 2 ^ 31) (hN : N < 2 ^ 31) (h : N ≤ k) : bw (nI k) b = false := by
  rw [bw_nI hb hk hN]; exact decide_eq_false (by omega)
theorem bw_ex {x b : Int32} {N : Nat} (hb : b = nI N) (hN : N < 2 ^ 31) (h : bw x b = true) : ∃ k, k < N ∧ x = nI k := by
  subst hb
  simp only [bw, Bool.and_eq_true, decide_eq_true_eq] at h
  obtain ⟨j, hj, rfl⟩ := nI_of (x := x) (by rw [Int32.not_lt]; exact h.1)
  exact ⟨j, (nI_ltI hj hN).mp h.2, rfl⟩
theorem rem_nI {a d : Nat} (ha : a < 2 ^ 31) (h0 : 0 < d) (hd : d < 2 ^ 31) : nI a - nI a / nI d * nI d = nI (a % d) := pk_rem ha h0 hd
section XNum
variable {g : GP} {d : Nat} {M : MD} {pc : Nat} {L st : List Value} {bc bs n : Nat} {I : TI} {J : TJ} {R : TR} {Q : TQ}
theorem r_ialdE {a j len : Nat} {x v : Int32} (hd : decode M.2.1 pc = .ok (.iaload, 1)) (ha : Al n a 8 len) (hj : j < len) (hx : x = nI j) (hv : I a j = v) (K : Wp g d M (pc + 1) L (.int v :: st) bc bs n I J R Q) : Wp g d M pc L (.int x :: .ref a :: st) bc bs n I J R Q := r_iald hd ha hj hx (by rw [hv]; exact K)
theorem r_zaldE {a j len : Nat} {x v : Int32} (hd : decode M.2.1 pc = .ok (.baload, 1)) (ha : Al n a 9 len) (hj : j < len) (hx : x = nI j) (hv : I a j = v) (K : Wp g d M (pc + 1) L (.int v :: st) bc bs n I J R Q) : Wp g d M pc L (.int x :: .ref a :: st) bc bs n I J R Q := r_zald hd ha hj hx (by rw [hv]; exact K)
theorem r_ialdSE {a j len : Nat} {x v : Int32} (hd : decode M.2.1 pc = .ok (.iaload, 1)) (hS : SL g a = some (.int, len)) (hj : j < len) (hl : len < 2 ^ 31) (hx : x = nI j) (hv : I a j = v) (K : Wp g d M (pc + 1) L (.int v :: st) bc bs n I J R Q) : Wp g d M pc L (.int x :: .ref a :: st) bc bs n I J R Q := r_ialdS hd hS hj hl hx (by rw [hv]; exact K)
theorem r_getIE {idx ci a k : Nat} {q : vw_C} {v : Int32} (hd : decode M.2.1 pc = .ok (.getfield idx, 3)) (hF : FL M.1.cls idx ci q k) (ha : Al n a ci q.2.2) (hty : tyT ci k = .int ∨ tyT ci k = .boolean) (hv : I a k = v) (K : Wp g d M (pc + 3) L (.int v :: st) bc bs n I J R Q) : Wp g d M pc L (.ref a :: st) bc bs n I J R Q := r_getI hd hF ha hty (by rw [hv]; exact K)
theorem r_top {x v : Int32} (hv : x = v) (K : Wp g d M pc L (.int v :: st) bc bs n I J R Q) : Wp g d M pc L (.int x :: st) bc bs n I J R Q := by rw [hv]; exact K
theorem r_iincE {k : Nat} {z : Int} {x : Int32} {a b : Nat} (hd : decode M.2.1 pc = .ok (.iinc k z, 3)) (hl : L[k]? = some (.int x)) (hx : x = nI a) (hv : nI a + Int32.ofInt z = nI b) (hp : okSt L k = true) (K : Wp g d M (pc + 3) (L.set k (.int (nI b))) st bc bs n I J R Q) : Wp g d M pc L st bc bs n I J R Q := r_iinc hd hl (by rw [hx]; exact hv) hp K
theorem r_niadd {x y : Int32} {a b : Nat} (hd : decode M.2.1 pc = .ok (.iadd, 1)) (hx : x = nI a) (hy : y = nI b) (K : Wp g d M (pc + 1) L (.int (nI (a + b)) :: st) bc bs n I J R Q) : Wp g d M pc L (.int y :: .int x :: st) bc bs n I J R Q := r_iadd hd (by rw [hx, hy, nI_add a b]; exact K)
theorem r_nimul {x y : Int32} {a b : Nat} (hd : decode M.2.1 pc = .ok (.imul, 1)) (hx : x = nI a) (hy : y = nI b) (K : Wp g d M (pc + 1) L (.int (nI (a * b)) :: st) bc bs n I J R Q) : Wp g d M pc L (.int y :: .int x :: st) bc bs n I J R Q := r_imul hd (by rw [hx, hy, pk_mul a b]; exact K)
theorem r_nisub {x y : Int32} {a b : Nat} (hd : decode M.2.1 pc = .ok (.isub, 1)) (hx : x = nI a) (hy : y = nI b) (h : b ≤ a) (K : Wp g d M (pc + 1) L (.int (nI (a - b)) :: st) bc bs n I J R Q) : Wp g d M pc L (.int y :: .int x :: st) bc bs n I J R Q := r_isub hd (by rw [hx, hy, pk_sub h]; exact K)
theorem r_nidiv {x y : Int32} {a b : Nat} (hd : decode M.2.1 pc = .ok (.idiv, 1)) (hx : x = nI a) (hy : y = nI b) (ha : a < 2 ^ 31) (h0 : 0 < b) (hb : b < 2 ^ 31) (K : Wp g d M (pc + 1) L (.int (nI (a / b)) :: st) bc bs n I J R Q) : Wp g d M pc L (.int y :: .int x :: st) bc bs n I J R Q := r_idiv hd (by rw [hy]; exact nI_ne0 h0 hb) (by rw [hx, hy, pk_div ha h0 hb]; exact K)
theorem r_nirem {x y : Int32} {a b : Nat} (hd : decode M.2.1 pc = .ok (.irem, 1)) (hx : x = nI a) (hy : y = nI b) (ha : a < 2 ^ 31) (h0 : 0 < b) (hb : b < 2 ^ 31) (K : Wp g d M (pc + 1) L (.int (nI (a % b)) :: st) bc bs n I J R Q) : Wp g d M pc L (.int y :: .int x :: st) bc bs n I J R Q := r_irem hd (by rw [hy]; exact nI_ne0 h0 hb) (by rw [hx, hy, pk_rem ha h0 hb]; exact K)
theorem r_nicmp_eq {x y : Int32} {a b : Nat} {off : Int} {tgt : Nat} (hd : decode M.2.1 pc = .ok (.if_icmp .eq off, 3)) (ht : (pc : Int) + off = (tgt : Int)) (hx : x = nI a) (hy : y = nI b) (ha : a < 2 ^ 31) (hb : b < 2 ^ 31) (Kt : a = b → Wp g d M tgt L st bc bs n I J R Q) (Kf : a ≠ b → Wp g d M (pc + 3) L st bc bs n I J R Q) : Wp g d M pc L (.int y :: .int x :: st) bc bs n I J R Q := r_icmp_eq hd ht (fun h => Kt ((nI_eq ha hb).mp (by rw [hx, hy] at h; exact h))) (fun h => Kf (fun e => h (by rw [hx, hy, e])))
theorem r_zicmp_eq {x y : Int32} {a b : Int} {off : Int} {tgt : Nat} (hd : decode M.2.1 pc = .ok (.if_icmp .eq off, 3)) (ht : (pc : Int) + off = (tgt : Int)) (hx : x = zI a) (hy : y = zI b) (ha : inZ a) (hb : inZ b) (Kt : a = b → Wp g d M tgt L st bc bs n I J R Q) (Kf : a ≠ b → Wp g d M (pc + 3) L st bc bs n I J R Q) : Wp g d M pc L (.int y :: .int x :: st) bc bs n I J R Q := r_icmp_eq hd ht (fun h => Kt ((zI_eq ha hb).mp (by rw [hx, hy] at h; exact h))) (fun h => Kf (fun e => h (by rw [hx, hy, e])))
theorem r_zif_eq {x : Int32} {a : Int} {off : Int} {tgt : Nat} (hd : decode M.2.1 pc = .ok (.ifCond .eq off, 3)) (ht : (pc : Int) + off = (tgt : Int)) (hx : x = zI a) (ha : inZ a) (Kt : a = 0 → Wp g d M tgt L st bc bs n I J R Q) (Kf : a ≠ 0 → Wp g d M (pc + 3) L st bc bs n I J R Q) : Wp g d M pc L (.int x :: st) bc bs n I J R Q := by
  have h0 : inZ 0 := by unfold inZ; omega
  have z0 : (0 : Int32) = zI 0 := rfl
  refine r_if_eq hd ht (fun h => Kt ((zI_eq ha h0).mp (by rw [hx, z0] at h; exact h))) (fun h => Kf (fun e => h (by rw [hx, z0, e])))
theorem r_nicmp_ne {x y : Int32} {a b : Nat} {off : Int} {tgt : Nat} (hd : decode M.2.1 pc = .ok (.if_icmp .ne off, 3)) (ht : (pc : Int) + off = (tgt : Int)) (hx : x = nI a) (hy : y = nI b) (ha : a < 2 ^ 31) (hb : b < 2 ^ 31) (Kt : a ≠ b → Wp g d M tgt L st bc bs n I J R Q) (Kf : a = b → Wp g d M (pc + 3) L st bc bs n I J R Q) : Wp g d M pc L (.int y :: .int x :: st) bc bs n I J R Q := r_icmp_ne hd ht (fun h => Kt (fun e => h (by rw [hx, hy, e]))) (fun h => Kf ((nI_eq ha hb).mp (by rw [← hx, ← hy]; exact h)))
theorem r_zicmp_ne {x y : Int32} {a b : Int} {off : Int} {tgt : Nat} (hd : decode M.2.1 pc = .ok (.if_icmp .ne off, 3)) (ht : (pc : Int) + off = (tgt : Int)) (hx : x = zI a) (hy : y = zI b) (ha : inZ a) (hb : inZ b) (Kt : a ≠ b → Wp g d M tgt L st bc bs n I J R Q) (Kf : a = b → Wp g d M (pc + 3) L st bc bs n I J R Q) : Wp g d M pc L (.int y :: .int x :: st) bc bs n I J R Q := r_icmp_ne hd ht (fun h => Kt (fun e => h (by rw [hx, hy, e]))) (fun h => Kf ((zI_eq ha hb).mp (by rw [← hx, ← hy]; exact h)))
theorem r_zif_ne {x : Int32} {a : Int} {off : Int} {tgt : Nat} (hd : decode M.2.1 pc = .ok (.ifCond .ne off, 3)) (ht : (pc : Int) + off = (tgt : Int)) (hx : x = zI a) (ha : inZ a) (Kt : a ≠ 0 → Wp g d M tgt L st bc bs n I J R Q) (Kf : a = 0 → Wp g d M (pc + 3) L st bc bs n I J R Q) : Wp g d M pc L (.int x :: st) bc bs n I J R Q := by
  have h0 : inZ 0 := by unfold inZ; omega
  have z0 : (0 : Int32) = zI 0 := rfl
  refine r_if_ne hd ht (fun h => Kt (fun e => h (by rw [hx, e, z0]))) (fun h => Kf ((zI_eq ha h0).mp (by rw [← hx, ← z0]; exact h)))
theorem r_nicmp_lt {x y : Int32} {a b : Nat} {off : Int} {tgt : Nat} (hd : decode M.2.1 pc = .ok (.if_icmp .lt off, 3)) (ht : (pc : Int) + off = (tgt : Int)) (hx : x = nI a) (hy : y = nI b) (ha : a < 2 ^ 31) (hb : b < 2 ^ 31) (Kt : a < b → Wp g d M tgt L st bc bs n I J R Q) (Kf : b ≤ a → Wp g d M (pc + 3) L st bc bs n I J R Q) : Wp g d M pc L (.int y :: .int x :: st) bc bs n I J R Q := r_icmp_lt hd ht (fun h => Kt ((nI_ltI ha hb).mp (by rw [hx, hy] at h; exact h))) (fun h => Kf (Nat.le_of_not_lt (fun z => h (by rw [hx, hy]; exact (nI_ltI ha hb).mpr z))))
theorem r_zicmp_lt {x y : Int32} {a b : Int} {off : Int} {tgt : Nat} (hd : decode M.2.1 pc = .ok (.if_icmp .lt off, 3)) (ht : (pc : Int) + off = (tgt : Int)) (hx : x = zI a) (hy : y = zI b) (ha : inZ a) (hb : inZ b) (Kt : a < b → Wp g d M tgt L st bc bs n I J R Q) (Kf : b ≤ a → Wp g d M (pc + 3) L st bc bs n I J R Q) : Wp g d M pc L (.int y :: .int x :: st) bc bs n I J R Q := r_icmp_lt hd ht (fun h => Kt ((zI_lt ha hb).mp (by rw [hx, hy] at h; exact h))) (fun h => Kf (Int.not_lt.mp (fun z => h (by rw [hx, hy]; exact (zI_lt ha hb).mpr z))))
theorem r_zif_lt {x : Int32} {a : Int} {off : Int} {tgt : Nat} (hd : decode M.2.1 pc = .ok (.ifCond .lt off, 3)) (ht : (pc : Int) + off = (tgt : Int)) (hx : x = zI a) (ha : inZ a) (Kt : a < 0 → Wp g d M tgt L st bc bs n I J R Q) (Kf : 0 ≤ a → Wp g d M (pc + 3) L st bc bs n I J R Q) : Wp g d M pc L (.int x :: st) bc bs n I J R Q := by
  have h0 : inZ 0 := by unfold inZ; omega
  have z0 : (0 : Int32) = zI 0 := rfl
  refine r_if_lt hd ht (fun h => Kt ((zI_lt ha h0).mp (by rw [hx, z0] at h; exact h))) (fun h => Kf (Int.not_lt.mp (fun z => h (by rw [hx, z0]; exact (zI_lt ha h0).mpr z))))
theorem r_nicmp_ge {x y : Int32} {a b : Nat} {off : Int} {tgt : Nat} (hd : decode M.2.1 pc = .ok (.if_icmp .ge off, 3)) (ht : (pc : Int) + off = (tgt : Int)) (hx : x = nI a) (hy : y = nI b) (ha : a < 2 ^ 31) (hb : b < 2 ^ 31) (Kt : b ≤ a → Wp g d M tgt L st bc bs n I J R Q) (Kf : a < b → Wp g d M (pc + 3) L st bc bs n I J R Q) : Wp g d M pc L (.int y :: .int x :: st) bc bs n I J R Q := r_icmp_ge hd ht (fun h => Kt ((nI_leI hb ha).mp (by rw [hx, hy] at h; exact h))) (fun h => Kf (Nat.lt_of_not_le (fun z => h (by rw [hx, hy]; exact (nI_leI hb ha).mpr z))))
theorem r_zicmp_ge {x y : Int32} {a b : Int} {off : Int} {tgt : Nat} (hd : decode M.2.1 pc = .ok (.if_icmp .ge off, 3)) (ht : (pc : Int) + off = (tgt : Int)) (hx : x = zI a) (hy : y = zI b) (ha : inZ a) (hb : inZ b) (Kt : b ≤ a → Wp g d M tgt L st bc bs n I J R Q) (Kf : a < b → Wp g d M (pc + 3) L st bc bs n I J R Q) : Wp g d M pc L (.int y :: .int x :: st) bc bs n I J R Q := r_icmp_ge hd ht (fun h => Kt ((zI_le hb ha).mp (by rw [hx, hy] at h; exact h))) (fun h => Kf (Int.not_le.mp (fun z => h (by rw [hx, hy]; exact (zI_le hb ha).mpr z))))
theorem r_zif_ge {x : Int32} {a : Int} {off : Int} {tgt : Nat} (hd : decode M.2.1 pc = .ok (.ifCond .ge off, 3)) (ht : (pc : Int) + off = (tgt : Int)) (hx : x = zI a) (ha : inZ a) (Kt : 0 ≤ a → Wp g d M tgt L st bc bs n I J R Q) (Kf : a < 0 → Wp g d M (pc + 3) L st bc bs n I J R Q) : Wp g d M pc L (.int x :: st) bc bs n I J R Q := by
  have h0 : inZ 0 := by unfold inZ; omega
  have z0 : (0 : Int32) = zI 0 := rfl
  refine r_if_ge hd ht (fun h => Kt ((zI_le h0 ha).mp (by rw [hx, z0] at h; exact h))) (fun h => Kf (Int.not_le.mp (fun z => h (by rw [hx, z0]; exact (zI_le h0 ha).mpr z))))
theorem r_nicmp_gt {x y : Int32} {a b : Nat} {off : Int} {tgt : Nat} (hd : decode M.2.1 pc = .ok (.if_icmp .gt off, 3)) (ht : (pc : Int) + off = (tgt : Int)) (hx : x = nI a) (hy : y = nI b) (ha : a < 2 ^ 31) (hb : b < 2 ^ 31) (Kt : b < a → Wp g d M tgt L st bc bs n I J R Q) (Kf : a ≤ b → Wp g d M (pc + 3) L st bc bs n I J R Q) : Wp g d M pc L (.int y :: .int x :: st) bc bs n I J R Q := r_icmp_gt hd ht (fun h => Kt ((nI_ltI hb ha).mp (by rw [hx, hy] at h; exact h))) (fun h => Kf (Nat.le_of_not_lt (fun z => h (by rw [hx, hy]; exact (nI_ltI hb ha).mpr z))))
theorem r_zicmp_gt {x y : Int32} {a b : Int} {off : Int} {tgt : Nat} (hd : decode M.2.1 pc = .ok (.if_icmp .gt off, 3)) (ht : (pc : Int) + off = (tgt : Int)) (hx : x = zI a) (hy : y = zI b) (ha : inZ a) (hb : inZ b) (Kt : b < a → Wp g d M tgt L st bc bs n I J R Q) (Kf : a ≤ b → Wp g d M (pc + 3) L st bc bs n I J R Q) : Wp g d M pc L (.int y :: .int x :: st) bc bs n I J R Q := r_icmp_gt hd ht (fun h => Kt ((zI_lt hb ha).mp (by rw [hx, hy] at h; exact h))) (fun h => Kf (Int.not_lt.mp (fun z => h (by rw [hx, hy]; exact (zI_lt hb ha).mpr z))))
theorem r_zif_gt {x : Int32} {a : Int} {off : Int} {tgt : Nat} (hd : decode M.2.1 pc = .ok (.ifCond .gt off, 3)) (ht : (pc : Int) + off = (tgt : Int)) (hx : x = zI a) (ha : inZ a) (Kt : 0 < a → Wp g d M tgt L st bc bs n I J R Q) (Kf : a ≤ 0 → Wp g d M (pc + 3) L st bc bs n I J R Q) : Wp g d M pc L (.int x :: st) bc bs n I J R Q := by
  have h0 : inZ 0 := by unfold inZ; omega
  have z0 : (0 : Int32) = zI 0 := rfl
  refine r_if_gt hd ht (fun h => Kt ((zI_lt h0 ha).mp (by rw [hx, z0] at h; exact h))) (fun h => Kf (Int.not_lt.mp (fun z => h (by rw [hx, z0]; exact (zI_lt h0 ha).mpr z))))
theorem r_nicmp_le {x y : Int32} {a b : Nat} {off : Int} {tgt : Nat} (hd : decode M.2.1 pc = .ok (.if_icmp .le off, 3)) (ht : (pc : Int) + off = (tgt : Int)) (hx : x = nI a) (hy : y = nI b) (ha : a < 2 ^ 31) (hb : b < 2 ^ 31) (Kt : a ≤ b → Wp g d M tgt L st bc bs n I J R Q) (Kf : b < a → Wp g d M (pc + 3) L st bc bs n I J R Q) : Wp g d M pc L (.int y :: .int x :: st) bc bs n I J R Q := r_icmp_le hd ht (fun h => Kt ((nI_leI ha hb).mp (by rw [hx, hy] at h; exact h))) (fun h => Kf (Nat.lt_of_not_le (fun z => h (by rw [hx, hy]; exact (nI_leI ha hb).mpr z))))
theorem r_zicmp_le {x y : Int32} {a b : Int} {off : Int} {tgt : Nat} (hd : decode M.2.1 pc = .ok (.if_icmp .le off, 3)) (ht : (pc : Int) + off = (tgt : Int)) (hx : x = zI a) (hy : y = zI b) (ha : inZ a) (hb : inZ b) (Kt : a ≤ b → Wp g d M tgt L st bc bs n I J R Q) (Kf : b < a → Wp g d M (pc + 3) L st bc bs n I J R Q) : Wp g d M pc L (.int y :: .int x :: st) bc bs n I J R Q := r_icmp_le hd ht (fun h => Kt ((zI_le ha hb).mp (by rw [hx, hy] at h; exact h))) (fun h => Kf (Int.not_le.mp (fun z => h (by rw [hx, hy]; exact (zI_le ha hb).mpr z))))
theorem r_zif_le {x : Int32} {a : Int} {off : Int} {tgt : Nat} (hd : decode M.2.1 pc = .ok (.ifCond .le off, 3)) (ht : (pc : Int) + off = (tgt : Int)) (hx : x = zI a) (ha : inZ a) (Kt : a ≤ 0 → Wp g d M tgt L st bc bs n I J R Q) (Kf : 0 < a → Wp g d M (pc + 3) L st bc bs n I J R Q) : Wp g d M pc L (.int x :: st) bc bs n I J R Q := by
  have h0 : inZ 0 := by unfold inZ; omega
  have z0 : (0 : Int32) = zI 0 := rfl
  refine r_if_le hd ht (fun h => Kt ((zI_le ha h0).mp (by rw [hx, z0] at h; exact h))) (fun h => Kf (Int.not_le.mp (fun z => h (by rw [hx, z0]; exact (zI_le ha h0).mpr z))))
theorem r_ziadd {x y : Int32} {a b : Int} (hd : decode M.2.1 pc = .ok (.iadd, 1)) (hx : x = zI a) (hy : y = zI b) (K : Wp g d M (pc + 1) L (.int (zI (a + b)) :: st) bc bs n I J R Q) : Wp g d M pc L (.int y :: .int x :: st) bc bs n I J R Q := r_iadd hd (by rw [hx, hy, zI_add a b]; exact K)
theorem r_zisub {x y : Int32} {a b : Int} (hd : decode M.2.1 pc = .ok (.isub, 1)) (hx : x = zI a) (hy : y = zI b) (K : Wp g d M (pc + 1) L (.int (zI (a - b)) :: st) bc bs n I J R Q) : Wp g d M pc L (.int y :: .int x :: st) bc bs n I J R Q := r_isub hd (by rw [hx, hy, zI_sub a b]; exact K)
theorem r_zimul {x y : Int32} {a b : Int} (hd : decode M.2.1 pc = .ok (.imul, 1)) (hx : x = zI a) (hy : y = zI b) (K : Wp g d M (pc + 1) L (.int (zI (a * b)) :: st) bc bs n I J R Q) : Wp g d M pc L (.int y :: .int x :: st) bc bs n I J R Q := r_imul hd (by rw [hx, hy, zI_mul a b]; exact K)
end XNum
