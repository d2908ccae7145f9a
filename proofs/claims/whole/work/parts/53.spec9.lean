/-- the first k from k on with f, of j -/
def ff (f : Nat → Bool) : Nat → Nat → Int32
  | 0, _ => -4
  | j + 1, k => if f k = true then nI k else ff f j (k + 1)
def agF (n : Nat → Nat) (p s : Nat) : Nat → Bool := fun k => fit n p s (n 3 + k) (n 6)
def sp_again (n : Nat → Nat) (x z : Int32) : Int32 := if (0 ≤ x.toInt ∧ x.toInt < (n 0 : Int)) ∧ (0 ≤ z.toInt ∧ z.toInt < (n 1 : Int)) then ff (agF n (tn x) (tn z)) 100 0 else -1
theorem ff_t {f : Nat → Bool} {j k : Nat} (hj : k < 100) (h : j = 100 - k) (hf : f k = true) : ff f j k = nI k := by
  subst h
  rw [show 100 - k = (99 - k) + 1 by omega, ff, if_pos hf]
theorem ff_f {f : Nat → Bool} {k : Nat} (hj : k < 100) (hf : ¬ f k = true) : ff f (100 - k) k = ff f (100 - (k + 1)) (k + 1) := by
  rw [show 100 - k = (100 - (k + 1)) + 1 by omega, ff, if_neg hf]
def wm (n : Nat → Nat) (v p acc : Nat) : Nat → Nat
  | 0 => acc
  | k + 1 => wm n v p acc k ||| (if v ≤ lng n p k (n 3) (n 6) then 1 * 2 ^ p else 0)
def wp (n : Nat → Nat) (v : Nat) : Nat → Nat
  | 0 => 0
  | p + 1 => wm n v p (wp n v p) 4
def sp_warrant (n : Nat → Nat) (x : Int32) : Int32 := if 1 ≤ x.toInt ∧ x.toInt ≤ 99 then nI (wp n (tn x) (n 0)) else -1
