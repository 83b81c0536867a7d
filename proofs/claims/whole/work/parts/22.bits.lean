/-! bits, by a program over the few that come; runs of ticks; the first tick -/
theorem bit_sh : ∀ k, k < 8 → ((1 : Int32) <<< (nI k &&& 31)) = nI (2 ^ k) := by decide +kernel
theorem bit_ts : ∀ sl, sl < 128 → ∀ i, i < 7 → (nI sl >>> (nI i &&& 31)) &&& 1 = b2i (sl.testBit i) := by decide +kernel
theorem nI_or (a b : Nat) : nI a ||| nI b = nI (a ||| b) := by
  apply Int32.toBitVec_inj.mp
  rw [Int32.toBitVec_or]
  simp only [nI, Int32.toBitVec_ofNat']
  exact (BitVec.ofNat_or ..).symm
theorem nI_and (a b : Nat) : nI a &&& nI b = nI (a &&& b) := by
  apply Int32.toBitVec_inj.mp
  rw [Int32.toBitVec_and]
  simp only [nI, Int32.toBitVec_ofNat']
  exact (BitVec.ofNat_and ..).symm
def visN (dl : Nat → Nat) (tr : Nat → Nat → Nat) (k t : Nat) : Bool := upN tr k t && !clN dl tr k t
/-- how many ticks on end from tick 200 - m on -/
def rlF (f : Nat → Bool) : Nat → Nat
  | 0 => 0
  | m + 1 => if f (199 - m) then rlF f m + 1 else 0
theorem rlF_le (f : Nat → Bool) : ∀ m, rlF f m ≤ m
  | 0 => Nat.le_refl _
  | m + 1 => by
    unfold rlF
    have := rlF_le f m
    split <;> omega
def fstN (f : Nat → Bool) (needs last : Nat) : Nat → Nat → Option Nat
  | 0, _ => none
  | m + 1, t => if t ≤ last then (if needs ≤ rlF f (200 - t) then some t else fstN f needs last m (t + 1)) else none
def oI : Option Nat → Int32
  | none => -1
  | some t => nI t
def RowOK (I : TI) (s : Nat) (dl : Nat → Nat) (tr : Nat → Nat → Nat) (k : Nat) : Prop := ∀ t, t < 200 → I (s + 10 + k) t = nI (rlF (visN dl tr k) (200 - t))
def ClOK (I : TI) (s : Nat) (dl : Nat → Nat) (tr : Nat → Nat → Nat) (sz sl : Nat) : Prop := I s 9 = nI sl ∧ sl < 128 ∧ ∀ k, k < sz → sl.testBit k = false → RowOK I s dl tr k
