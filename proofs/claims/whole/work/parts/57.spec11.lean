theorem lkc_le (n : Nat → Nat) (p s k : Nat) : lkc n p s k ≤ 3 := cnt_le _ _ _
theorem lkC_0 {c : Nat → Nat} {k : Nat} (hk : k < 4) (h : c k = 0) : lkC c = (0, 1) := by
  unfold lkC
  rw [if_pos]
  rcases (show k = 0 ∨ k = 1 ∨ k = 2 ∨ k = 3 by omega) with rfl | rfl | rfl | rfl
  · exact Or.inl h
  · exact Or.inr (Or.inl h)
  · exact Or.inr (Or.inr (Or.inl h))
  · exact Or.inr (Or.inr (Or.inr h))
theorem lkC_n {c : Nat → Nat} (h : ∀ i, i < 4 → c i ≠ 0) : lkC c = (pa c 4, pb c 4) := by
  unfold lkC
  rw [if_neg]
  rintro (h0 | h0 | h0 | h0)
  · exact h 0 (by decide) h0
  · exact h 1 (by decide) h0
  · exact h 2 (by decide) h0
  · exact h 3 (by decide) h0
theorem redu_t {f a b : Nat} (h1 : a % 3 = 0) (h2 : 1 < b) : redu (f + 1) (a, b) = redu f (a / 3, b / 3) := by rw [redu, if_pos ⟨h1, h2⟩]
theorem redu_f {f a b : Nat} (h : ¬ (a % 3 = 0 ∧ 1 < b)) : redu (f + 1) (a, b) = (a, b) := by rw [redu, if_neg h]
theorem p81 : ∀ k, k ≤ 4 → (1 < 81 / 3 ^ k ↔ k < 4) ∧ 81 / 3 ^ k / 3 = 81 / 3 ^ (k + 1) ∧ 81 / 3 ^ k ≤ 81 := by
  intro k hk
  rcases (show k = 0 ∨ k = 1 ∨ k = 2 ∨ k = 3 ∨ k = 4 by omega) with rfl | rfl | rfl | rfl | rfl <;> decide
