/-- why a sheet of lane L and length n is refused, taken as lane La, for k items from i on -/
def rfz (La L : Nat) (i k : Int32) (n : Nat) : Int32 := if La = L then (if 0 ≤ i.toInt ∧ 0 ≤ k.toInt ∧ i.toInt + k.toInt ≤ (n : Int) then nI 0 else -13) else -12
