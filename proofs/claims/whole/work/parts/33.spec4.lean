def sp_rule (t : Nat → Nat → Nat) (x w : Int32) : Int32 := if x = nI 0 ∧ (1 ≤ w.toInt ∧ w.toInt ≤ 30) then nI (t 35 4) else if x = nI 1 ∧ (0 ≤ w.toInt ∧ w.toInt ≤ 9) then nI (t 35 5) else -1
def st_rule (t : Nat → Nat → Nat) (x w : Int32) : Nat → Nat → Nat := if x = nI 0 ∧ (1 ≤ w.toInt ∧ w.toInt ≤ 30) then ts t 35 4 (tn w) else if x = nI 1 ∧ (0 ≤ w.toInt ∧ w.toInt ≤ 9) then ts t 35 5 (tn w) else t
/-- a new person -/
def np (t : Nat → Nat → Nat) (kd v : Nat) : Nat → Nat → Nat := ts (ts (ts (ts (ts (ts (ts t 35 (8 + 5 * t 35 0) kd) 35 (8 + 5 * t 35 0 + 1) v) 35 (8 + 5 * t 35 0 + 2) v) 35 (8 + 5 * t 35 0 + 3) v) 35 (8 + 5 * t 35 0 + 4) v) 35 0 (t 35 0 + 1)) 34 7 0
def sp_person (t : Nat → Nat → Nat) (x w : Int32) : Int32 := if (0 ≤ x.toInt ∧ x.toInt ≤ 4) ∧ (10 ≤ w.toInt ∧ w.toInt ≤ 99) then (if t 35 0 = 5 then -3 else nI (t 35 0)) else -1
def st_person (t : Nat → Nat → Nat) (x w : Int32) : Nat → Nat → Nat := if (0 ≤ x.toInt ∧ x.toInt ≤ 4) ∧ (10 ≤ w.toInt ∧ w.toInt ≤ 99) then (if t 35 0 = 5 then t else np t (tn x) (tn w)) else t
/-- a new suit -/
def ns (t : Nat → Nat → Nat) (v : Nat) : Nat → Nat → Nat := ts (ts (ts (ts (ts (ts t 35 (33 + 4 * t 35 1 + 0) v) 35 (33 + 4 * t 35 1 + 1) v) 35 (33 + 4 * t 35 1 + 2) v) 35 (33 + 4 * t 35 1 + 3) v) 35 1 (t 35 1 + 1)) 34 7 0
def sp_suit (t : Nat → Nat → Nat) (x : Int32) : Int32 := if 0 ≤ x.toInt ∧ x.toInt ≤ 199 then (if t 35 1 = 4 then -3 else nI (t 35 1)) else -1
def st_suit (t : Nat → Nat → Nat) (x : Int32) : Nat → Nat → Nat := if 0 ≤ x.toInt ∧ x.toInt ≤ 199 then (if t 35 1 = 4 then t else ns t (tn x)) else t
theorem np_0 (t : Nat → Nat → Nat) (kd v : Nat) : np t kd v 35 0 = t 35 0 + 1 := by
  unfold np
  rw [ts_nc (by decide), ts_at]
theorem np_kind (t : Nat → Nat → Nat) (kd v : Nat) : np t kd v 35 (8 + 5 * t 35 0) = kd := by
  unfold np
  rw [ts_nc (by decide), ts_nk (by omega), ts_nk (by omega), ts_nk (by omega), ts_nk (by omega), ts_nk (by omega), ts_at]
theorem np_own (t : Nat → Nat → Nat) (kd v : Nat) {m : Nat} (hm : m < 4) : np t kd v 35 (8 + 5 * t 35 0 + 1 + m) = v := by
  unfold np
  rw [ts_nc (by decide)]
  rcases (show m = 0 ∨ m = 1 ∨ m = 2 ∨ m = 3 by omega) with rfl | rfl | rfl | rfl
  · rw [ts_nk (by omega), ts_nk (by omega), ts_nk (by omega), ts_nk (by omega)]; exact ts_at _ _ _ _
  · rw [ts_nk (by omega), ts_nk (by omega), ts_nk (by omega)]; exact ts_at _ _ _ _
  · rw [ts_nk (by omega), ts_nk (by omega)]; exact ts_at _ _ _ _
  · rw [ts_nk (by omega)]; exact ts_at _ _ _ _
theorem np_else (t : Nat → Nat → Nat) (kd v : Nat) {j : Nat} (h0 : j ≠ 0) (h : j < 8 + 5 * t 35 0 ∨ 8 + 5 * t 35 0 + 5 ≤ j) : np t kd v 35 j = t 35 j := by
  unfold np
  rw [ts_nc (by decide), ts_nk (by omega), ts_nk (by omega), ts_nk (by omega), ts_nk (by omega), ts_nk (by omega), ts_nk (by omega)]
theorem ns_1 (t : Nat → Nat → Nat) (v : Nat) : ns t v 35 1 = t 35 1 + 1 := by
  unfold ns
  rw [ts_nc (by decide), ts_at]
theorem ns_cut (t : Nat → Nat → Nat) (v : Nat) {m : Nat} (hm : m < 4) : ns t v 35 (33 + 4 * t 35 1 + m) = v := by
  unfold ns
  rw [ts_nc (by decide)]
  rcases (show m = 0 ∨ m = 1 ∨ m = 2 ∨ m = 3 by omega) with rfl | rfl | rfl | rfl
  · rw [ts_nk (by omega), ts_nk (by omega), ts_nk (by omega), ts_nk (by omega)]; exact ts_at _ _ _ _
  · rw [ts_nk (by omega), ts_nk (by omega), ts_nk (by omega)]; exact ts_at _ _ _ _
  · rw [ts_nk (by omega), ts_nk (by omega)]; exact ts_at _ _ _ _
  · rw [ts_nk (by omega)]; exact ts_at _ _ _ _
theorem ns_else (t : Nat → Nat → Nat) (v : Nat) {j : Nat} (h0 : j ≠ 1) (h : j < 33 + 4 * t 35 1 ∨ 33 + 4 * t 35 1 + 4 ≤ j) : ns t v 35 j = t 35 j := by
  unfold ns
  rw [ts_nc (by decide), ts_nk (by omega), ts_nk (by omega), ts_nk (by omega), ts_nk (by omega), ts_nk (by omega)]
