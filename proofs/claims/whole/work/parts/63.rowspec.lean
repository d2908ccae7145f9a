/-- the lowest bits of a number, as a lane holds it -/
def lowl (L : Nat) (v : Int64) : Int64 := if L = 0 then v.toInt32.toInt8.toInt32.toInt64 else if L = 1 then v.toInt32.toInt16.toInt32.toInt64 else if L = 2 then v.toInt32.toInt64 else v
theorem arg_pos {x : Int32} (h : ¬ x < 0) : ∃ k, k < 2147483648 ∧ x = nI k ∧ (nI k).toInt = (k : Int) := by
  have h1 : 0 ≤ x.toInt := by
    have := i32_lt (a := x) (b := 0)
    have e0 : (0 : Int32).toInt = 0 := rfl
    rw [e0] at this
    have h2 : ¬ x.toInt < 0 := fun q => h (this.mpr q)
    omega
  have h2 := i32_rng x
  exact ⟨x.toInt.toNat, by omega, nI_ofInt h1, nI_toInt (by omega)⟩
theorem neg_int {x : Int32} (h : x < 0) : x.toInt < 0 := i32_lt.mp h
def spans (i k : Int32) (n : Nat) : Prop := 0 ≤ i.toInt ∧ 0 ≤ k.toInt ∧ i.toInt + k.toInt ≤ (n : Int)
