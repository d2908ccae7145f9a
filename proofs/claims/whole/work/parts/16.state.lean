/-! the reference's state, as numbers: t 34 its fields, t 35 'now', t 36 'tape', t 37 'read', t 38 'undone', t 39 'comes', t 40 'kept', t 42 'sizes' -/
def nF (f : Nat → Nat) : Nat → Int32 := fun j => nI (f j)
def RI (t : Nat → Nat → Nat) (M : zM) : Prop := ∀ c, 34 ≤ c → c ≤ 42 → c ≠ 41 → M.1 c = nF (t c)
theorem RI.a34 {t : Nat → Nat → Nat} {M : zM} (h : RI t M) (k : Nat) : M.1 34 k = nI (t 34 k) := congrFun (h 34 (by decide) (by decide) (by decide)) k
theorem RI.a35 {t : Nat → Nat → Nat} {M : zM} (h : RI t M) (k : Nat) : M.1 35 k = nI (t 35 k) := congrFun (h 35 (by decide) (by decide) (by decide)) k
theorem RI.a36 {t : Nat → Nat → Nat} {M : zM} (h : RI t M) (k : Nat) : M.1 36 k = nI (t 36 k) := congrFun (h 36 (by decide) (by decide) (by decide)) k
theorem RI.a37 {t : Nat → Nat → Nat} {M : zM} (h : RI t M) (k : Nat) : M.1 37 k = nI (t 37 k) := congrFun (h 37 (by decide) (by decide) (by decide)) k
theorem RI.a38 {t : Nat → Nat → Nat} {M : zM} (h : RI t M) (k : Nat) : M.1 38 k = nI (t 38 k) := congrFun (h 38 (by decide) (by decide) (by decide)) k
theorem RI.a39 {t : Nat → Nat → Nat} {M : zM} (h : RI t M) (k : Nat) : M.1 39 k = nI (t 39 k) := congrFun (h 39 (by decide) (by decide) (by decide)) k
theorem RI.a40 {t : Nat → Nat → Nat} {M : zM} (h : RI t M) (k : Nat) : M.1 40 k = nI (t 40 k) := congrFun (h 40 (by decide) (by decide) (by decide)) k
theorem RI.a42 {t : Nat → Nat → Nat} {M : zM} (h : RI t M) (k : Nat) : M.1 42 k = nI (t 42 k) := congrFun (h 42 (by decide) (by decide) (by decide)) k
/-- what 'now' may hold -/
def NB (n : Nat → Nat) : Prop := n 0 ≤ 5 ∧ n 1 ≤ 4 ∧ n 2 ≤ 10 ∧ n 3 ≤ 9999 ∧ (1 ≤ n 4 ∧ n 4 ≤ 30) ∧ n 5 ≤ 9 ∧ n 6 < 1024 ∧ n 7 < 2147483648 ∧ (∀ p, p < n 0 → n (8 + 5 * p) ≤ 4) ∧ (∀ p m, p < n 0 → m < 4 → 10 ≤ n (8 + 5 * p + 1 + m) ∧ n (8 + 5 * p + 1 + m) ≤ 99) ∧ (∀ s m, s < n 1 → m < 4 → n (33 + 4 * s + m) ≤ 199) ∧ (∀ d, d < n 2 → n (49 + 4 * d) < n 0 ∧ n (49 + 4 * d + 1) ≤ 5 ∧ (1 ≤ n (49 + 4 * d + 2) ∧ n (49 + 4 * d + 2) ≤ 9) ∧ n (49 + 4 * d + 3) ≤ n 3)
/-! the document's numbers -/
def shw (sort m : Nat) : Bool := sort == 5 || (sort == 0 && m == 2) || ((sort == 1 || sort == 2) && m == 0) || (sort == 3 && m == 3) || (sort == 4 && m == 1)
def lgr (kind sort m left : Nat) : Nat :=
  if left = 0 then 0 else
  match kind with
  | 0 => if shw sort m then left else 0
  | 1 => if shw sort m then left + 1 else 0
  | 2 => if m = 0 then 0 else if m = 1 ∧ shw sort 0 then (if shw sort m then left else 0) + left else if shw sort m then left else 0
  | 3 => if shw sort m then left - 1 else 0
  | _ => (if m = 0 then 0 else if m = 1 ∧ shw sort 0 then (if shw sort m then left else 0) + left else if shw sort m then left else 0) / 2
/-- what is left of the deed d at a day, if the set md is mended -/
def lft (n : Nat → Nat) (d day md : Nat) : Nat :=
  if md.testBit d then (n (49 + 4 * d + 2) - (day - n (49 + 4 * d + 3)) / n 4) / 2 else n (49 + 4 * d + 2) - (day - n (49 + 4 * d + 3)) / n 4
def sm (f : Nat → Nat) : Nat → Nat
  | 0 => 0
  | k + 1 => sm f k + f k
/-- by how much longer the measure m of p is -/
def lon (n : Nat → Nat) (p m day md d : Nat) : Nat := if n (49 + 4 * d) = p then lgr (n (8 + 5 * p)) (n (49 + 4 * d + 1)) m (lft n d day md) else 0
def lng (n : Nat → Nat) (p m day md : Nat) : Nat := sm (lon n p m day md) (n 2)
def mea (n : Nat → Nat) (p m day md : Nat) : Nat := n (8 + 5 * p + 1 + m) + lng n p m day md
theorem lft_le {n : Nat → Nat} {d day md : Nat} (h : n (49 + 4 * d + 2) ≤ 9) : lft n d day md ≤ 9 := by
  unfold lft
  have h2 := Nat.sub_le (n (49 + 4 * d + 2)) ((day - n (49 + 4 * d + 3)) / n 4)
  generalize n (49 + 4 * d + 2) - (day - n (49 + 4 * d + 3)) / n 4 = x at *
  split <;> omega
theorem lgr_le {kind sort m left : Nat} (h : left ≤ 9) : lgr kind sort m left ≤ 18 := by
  unfold lgr
  split
  · omega
  · split <;> (repeat' split) <;> omega
theorem sm_le {f : Nat → Nat} {c : Nat} : ∀ {k : Nat}, (∀ i, i < k → f i ≤ c) → sm f k ≤ k * c
  | 0, _ => by simp [sm]
  | k + 1, h => by
    have h1 := sm_le (fun i hi => h i (Nat.lt_succ_of_lt hi))
    have h2 := h k (Nat.lt_succ_self k)
    simp only [sm]
    rw [Nat.succ_mul]
    omega
theorem sm_congr {f g : Nat → Nat} : ∀ {k : Nat}, (∀ i, i < k → f i = g i) → sm f k = sm g k
  | 0, _ => rfl
  | k + 1, h => by rw [sm, sm, sm_congr (fun i hi => h i (Nat.lt_succ_of_lt hi)), h k (Nat.lt_succ_self k)]
theorem lng_le {n : Nat → Nat} (hn : NB n) (p m day md k : Nat) (hk : k ≤ n 2) : sm (lon n p m day md) k ≤ 180 := by
  have h1 : sm (lon n p m day md) k ≤ k * 18 := by
    refine sm_le (fun i hi => ?_)
    unfold lon
    split
    · exact lgr_le (lft_le (hn.2.2.2.2.2.2.2.2.2.2.2 i (by omega)).2.2.1.2)
    · omega
  have h2 := hn.2.2.1
  have h3 : k * 18 ≤ 10 * 18 := Nat.mul_le_mul_right _ (by omega)
  omega
/-! bits -/
/-- a set's bit, as both programs take it -/
theorem bit1 (md d : Nat) : (md >>> d) &&& 1 = if md.testBit d then 1 else 0 := by
  rw [Nat.and_one_is_mod, Nat.shiftRight_eq_div_pow, Nat.testBit_eq_decide_div_mod_eq]
  have h2 : md / 2 ^ d % 2 = 0 ∨ md / 2 ^ d % 2 = 1 := by omega
  rcases h2 with h | h <;> simp [h]
