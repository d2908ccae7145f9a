def itk : Nat → Nat → Nat
  | 0, s => s
  | k + 1, s => itk k s &&& (itk k s - 1)
/-- how many bits a set has -/
def mny : Nat → Nat → Nat
  | 0, _ => 0
  | f + 1, a => if a = 0 then 0 else 1 + mny f (a &&& (a - 1))
theorem itk_le : ∀ k s, itk k s ≤ s
  | 0, s => Nat.le_refl _
  | k + 1, s => Nat.le_trans Nat.and_le_left (itk_le k s)
theorem itk_10 : ∀ s, s < 1024 → itk 10 s = 0 := by decide +kernel
def ush (x : Int32) (z : Int32) : Int32 := (x.toUInt32 >>> (z.toUInt32 &&& Int32.toUInt32 31)).toInt32
def bc1 (x : Int32) : Int32 := x - (ush x (nI 1) &&& 1431655765)
def bc2 (x : Int32) : Int32 := (x &&& 858993459) + (ush x (nI 2) &&& 858993459)
def bc3 (x : Int32) : Int32 := (x + ush x (nI 4)) &&& 252645135
def bc4 (x : Int32) : Int32 := x + ush x (nI 8)
def bc5 (x : Int32) : Int32 := x + ush x (nI 16)
def bcx (x : Int32) : Int32 := bc5 (bc4 (bc3 (bc2 (bc1 x)))) &&& nI 63
theorem bcx_pop : ∀ s, s < 1024 → bcx (nI s) = nI (mny 11 s) := by decide +kernel
/-- the lowest bit of a set -/
def low (s : Nat) : Nat := mny 11 (s ^^^ (s - 1)) - 1
theorem bcx_low : ∀ s, s < 1024 → s ≠ 0 → bcx ((nI s &&& -(nI s)) - nI 1) = nI (low s) := by decide +kernel
theorem low_bit : ∀ s, s < 1024 → s ≠ 0 → s.testBit (low s) = true ∧ (∀ i, i < low s → s.testBit i = false) ∧ low s < 10 := by decide +kernel
