/-! what the calls answer: the class and the reference are both held to these -/
def tn (x : Int32) : Nat := x.toInt.toNat
theorem tn_nI {p : Nat} (h : p < 2147483648) : tn (nI p) = p := by
  unfold tn
  rw [nI_toInt (by omega)]
  rfl
theorem arg_rng {x : Int32} {a b : Nat} (h : (a : Int) ≤ x.toInt ∧ x.toInt ≤ (b : Int)) : ∃ k, a ≤ k ∧ k ≤ b ∧ x = nI k := ⟨x.toInt.toNat, by omega, by omega, nI_ofInt (by omega)⟩
def bo_of (n : Nat → Nat) (p k : Nat) : Int32 := if k < 4 then nI (mea n p k (n 3) (n 6)) else if k < 8 then nI (n (8 + 5 * p + 1 + (k - 4))) else if k = 8 then nI (n (8 + 5 * p)) else nI (dof n p)
def sp_of (n : Nat → Nat) (x w : Int32) : Int32 := if (0 ≤ x.toInt ∧ x.toInt < (n 0 : Int)) ∧ (0 ≤ w.toInt ∧ w.toInt ≤ 9) then bo_of n (tn x) (tn w) else -1
def bo_deed (n : Nat → Nat) (d k : Nat) : Int32 := if k < 4 then nI (n (49 + 4 * d + k)) else if k = 4 then zb ((n 6).testBit d = true) else nI (lft n d (n 3) (n 6))
def sp_deed (n : Nat → Nat) (x w : Int32) : Int32 := if (0 ≤ x.toInt ∧ x.toInt < (n 2 : Int)) ∧ (0 ≤ w.toInt ∧ w.toInt ≤ 5) then bo_deed n (tn x) (tn w) else -1
def bo_tries (n : Nat → Nat) (p s k : Nat) : Int32 := if k = 0 then nI (sho n p s (n 3)) else zb (fit n p s (n 3) (n 6) = true)
def sp_tries (n : Nat → Nat) (x z w : Int32) : Int32 := if (0 ≤ x.toInt ∧ x.toInt < (n 0 : Int)) ∧ (0 ≤ z.toInt ∧ z.toInt < (n 1 : Int)) ∧ (0 ≤ w.toInt ∧ w.toInt ≤ 1) then bo_tries n (tn x) (tn z) (tn w) else -1
def sp_ahead (n : Nat → Nat) (x z w : Int32) : Int32 := if (0 ≤ x.toInt ∧ x.toInt < (n 0 : Int)) ∧ (0 ≤ z.toInt ∧ z.toInt ≤ 3) ∧ (0 ≤ w.toInt ∧ w.toInt ≤ 99) then nI (mea n (tn x) (tn z) (n 3 + tn w) (n 6)) else -1
def sp_showsAhead (n : Nat → Nat) (x z w : Int32) : Int32 := if (0 ≤ x.toInt ∧ x.toInt < (n 0 : Int)) ∧ (0 ≤ z.toInt ∧ z.toInt < (n 1 : Int)) ∧ (0 ≤ w.toInt ∧ w.toInt ≤ 99) then nI (sho n (tn x) (tn z) (n 3 + tn w)) else -1
def bo_count (n : Nat → Nat) (kn k : Nat) : Int32 := if k ≤ 6 then nI (n k) else if k = 7 then nI (loa n) else nI kn
def sp_count (n : Nat → Nat) (kn : Nat) (w : Int32) : Int32 := if 0 ≤ w.toInt ∧ w.toInt ≤ 8 then bo_count n kn (tn w) else -1
theorem bitzb (md d : Nat) : nI (if md.testBit d = true then 1 else 0) = zb (md.testBit d = true) := by
  by_cases h : md.testBit d = true
  · rw [if_pos h, zb_t h]; rfl
  · rw [if_neg h, zb_f h]; rfl
