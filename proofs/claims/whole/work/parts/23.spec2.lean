def dst (a b : Nat) : Nat := (a - b) + (b - a)
def sho (n : Nat → Nat) (p s day : Nat) : Nat := sm (fun m => dst (mea n p m day (n 6)) (n (33 + 4 * s + m))) 4
def fitk (n : Nat → Nat) (p s day md : Nat) : Nat → Bool
  | 0 => true
  | k + 1 => fitk n p s day md k && decide (dst (mea n p k day md) (n (33 + 4 * s + k)) ≤ n 5)
def fit (n : Nat → Nat) (p s day md : Nat) : Bool := fitk n p s day md 4
def loa (n : Nat → Nat) : Nat := sm (fun d => lft n d (n 3) (n 6)) (n 2)
def dofk (n : Nat → Nat) (p : Nat) : Nat → Nat
  | 0 => 0
  | k + 1 => dofk n p k ||| (if n (49 + 4 * k) = p then 1 * 2 ^ k else 0)
def dof (n : Nat → Nat) (p : Nat) : Nat := dofk n p (n 2)
theorem mea_le {n : Nat → Nat} (hn : NB n) {p m : Nat} (hp : p < n 0) (hm : m < 4) (day md : Nat) : 10 ≤ mea n p m day md ∧ mea n p m day md ≤ 279 := by
  have h1 := lng_le hn p m day md (n 2) (Nat.le_refl _)
  have h2 := hn.2.2.2.2.2.2.2.2.2.1 p m hp hm
  unfold mea lng
  omega
theorem dst_le {a b c : Nat} (ha : a ≤ c) (hb : b ≤ c) : dst a b ≤ c := by
  unfold dst
  omega
theorem zb_t1 {p : Prop} [Decidable p] (h : p) : zb p = nI 1 := zb_t h
theorem zb_f1 {p : Prop} [Decidable p] (h : ¬ p) : zb p = nI 0 := zb_f h
theorem arg_nat {x : Int32} {n : Nat} (h : 0 ≤ x.toInt ∧ x.toInt < (n : Int)) : ∃ k, k < n ∧ x = nI k := ⟨x.toInt.toNat, by omega, nI_ofInt h.1⟩
theorem pw_le {k c : Nat} (h : k ≤ c) : 2 ^ k ≤ 2 ^ c := Nat.pow_le_pow_right (by decide) h
theorem or_lt {a b k : Nat} (ha : a < 2 ^ k) (hb : b < 2 ^ k) : a ||| b < 2 ^ k := Nat.or_lt_two_pow ha hb
theorem dofk_lt {n : Nat → Nat} {p : Nat} : ∀ k, dofk n p k < 2 ^ k
  | 0 => by simp [dofk]
  | k + 1 => by
    have h1 := dofk_lt (n := n) (p := p) k
    have h2 : 2 ^ k < 2 ^ (k + 1) := by rw [Nat.pow_succ]; have := Nat.two_pow_pos k; omega
    refine or_lt (Nat.lt_trans h1 h2) ?_
    split
    · rw [Nat.one_mul]; exact h2
    · exact Nat.two_pow_pos _
theorem fitk_succ {n : Nat → Nat} {p s day md k : Nat} : fitk n p s day md (k + 1) = true ↔ fitk n p s day md k = true ∧ dst (mea n p k day md) (n (33 + 4 * s + k)) ≤ n 5 := by
  rw [fitk, Bool.and_eq_true, decide_eq_true_iff]
