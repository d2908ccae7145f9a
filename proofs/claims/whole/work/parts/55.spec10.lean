def cnt (a b e : Nat) : Nat := (if dst (a - 1) b ≤ e then 1 else 0) + (if dst a b ≤ e then 1 else 0) + (if dst (a + 1) b ≤ e then 1 else 0)
theorem cnt_le (a b e : Nat) : cnt a b e ≤ 3 := by unfold cnt; (repeat' split) <;> omega
def redu : Nat → Nat × Nat → Nat × Nat
  | 0, x => x
  | f + 1, x => if x.1 % 3 = 0 ∧ 1 < x.2 then redu f (x.1 / 3, x.2 / 3) else x
def prd (c : Nat → Nat) : Nat → Nat
  | 0 => 1
  | k + 1 => prd c k * c k
def pa (c : Nat → Nat) : Nat → Nat
  | 0 => 1
  | k + 1 => if c k < 3 then pa c k * c k else pa c k
def pb (c : Nat → Nat) : Nat → Nat
  | 0 => 1
  | k + 1 => if c k < 3 then pb c k * 3 else pb c k
def lkC (c : Nat → Nat) : Nat × Nat := if c 0 = 0 ∨ c 1 = 0 ∨ c 2 = 0 ∨ c 3 = 0 then (0, 1) else (pa c 4, pb c 4)
def cn4 (a b c d : Nat) : Nat → Nat := fun k => if k = 0 then a else if k = 1 then b else if k = 2 then c else d
theorem lk_dec : ∀ a, a < 4 → ∀ b, b < 4 → ∀ c, c < 4 → ∀ d, d < 4 → redu 5 (prd (cn4 a b c d) 4, 81) = lkC (cn4 a b c d) := by decide +kernel
theorem lk_eq {c : Nat → Nat} (h : ∀ k, c k ≤ 3) : redu 5 (prd c 4, 81) = lkC c := by
  have e : ∀ k, k < 4 → cn4 (c 0) (c 1) (c 2) (c 3) k = c k := by
    intro k hk
    rcases (show k = 0 ∨ k = 1 ∨ k = 2 ∨ k = 3 by omega) with rfl | rfl | rfl | rfl <;> rfl
  have h1 := lk_dec (c 0) (by have := h 0; omega) (c 1) (by have := h 1; omega) (c 2) (by have := h 2; omega) (c 3) (by have := h 3; omega)
  have h2 : prd (cn4 (c 0) (c 1) (c 2) (c 3)) 4 = prd c 4 := rfl
  have h3 : lkC (cn4 (c 0) (c 1) (c 2) (c 3)) = lkC c := rfl
  rw [h2, h3] at h1
  exact h1
def lkc (n : Nat → Nat) (p s : Nat) : Nat → Nat := fun m => cnt (mea n p m (n 3) (n 6)) (n (33 + 4 * s + m)) (n 5)
def bo_luck (n : Nat → Nat) (p s k : Nat) : Int32 := if k = 0 then nI (lkC (lkc n p s)).1 else nI (lkC (lkc n p s)).2
def sp_luck (n : Nat → Nat) (x z w : Int32) : Int32 := if (0 ≤ x.toInt ∧ x.toInt < (n 0 : Int)) ∧ (0 ≤ z.toInt ∧ z.toInt < (n 1 : Int)) ∧ (0 ≤ w.toInt ∧ w.toInt ≤ 1) then bo_luck n (tn x) (tn z) (tn w) else -1
theorem nm1 {a : Nat} (h : 1 ≤ a) : nI a + (-1) = nI (a - 1) := by
  have := pk_m1 (a - 1)
  rwa [show a - 1 + 1 = a by omega] at this
theorem gapm1 {a b : Nat} (h : 1 ≤ a) : (nI a - nI b) + (-1) = nI (a - 1) - nI b := by
  rw [Int32.sub_eq_add_neg, Int32.add_assoc, Int32.add_comm (-nI b), ← Int32.add_assoc, nm1 h, ← Int32.sub_eq_add_neg]
theorem prd_le {c : Nat → Nat} (h : ∀ k, c k ≤ 3) : prd c 4 ≤ 81 := by
  have h0 := h 0
  have h1 := h 1
  have h2 := h 2
  have h3 := h 3
  have e1 : prd c 1 ≤ 1 * 3 := Nat.mul_le_mul (Nat.le_refl _) h0
  have e2 : prd c 2 ≤ 3 * 3 := Nat.mul_le_mul (by omega) h1
  have e3 : prd c 3 ≤ 9 * 3 := Nat.mul_le_mul (by omega) h2
  have e4 : prd c 4 ≤ 27 * 3 := Nat.mul_le_mul (by omega) h3
  omega
theorem prd_leK {c : Nat → Nat} (h : ∀ k, c k ≤ 3) : ∀ k, k ≤ 4 → prd c k ≤ 81 := by
  intro k hk
  have h0 := h 0
  have h1 := h 1
  have h2 := h 2
  have e1 : prd c 1 ≤ 1 * 3 := Nat.mul_le_mul (Nat.le_refl _) h0
  have e2 : prd c 2 ≤ 3 * 3 := Nat.mul_le_mul (by omega) h1
  have e3 : prd c 3 ≤ 9 * 3 := Nat.mul_le_mul (by omega) h2
  rcases (show k = 0 ∨ k = 1 ∨ k = 2 ∨ k = 3 ∨ k = 4 by omega) with rfl | rfl | rfl | rfl | rfl
  · show (1 : Nat) ≤ 81; decide
  · omega
  · omega
  · omega
  · exact prd_le h
