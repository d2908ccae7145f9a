theorem SI_zfr {b : Nat} {n u : Nat → Nat} {kn : Nat} {P : Nat → Prop} {M M' : zM} (h : SI b n u kn M) (hf : zfr P M M') (hP : ∀ i, b ≤ i → i ≤ b + 8 → ¬ P i) : SI b n u kn M' := by
  obtain ⟨h0, a2, a3, a4, a5, a9⟩ := h
  have e : ∀ i, b ≤ i → i ≤ b + 8 → M'.1 i = M.1 i := fun i h1 h2 => (hf i (hP i h1 h2)).1
  exact ⟨by rw [e b (by omega) (by omega)]; exact h0, by rw [e _ (by omega) (by omega)]; exact a2, by rw [e _ (by omega) (by omega)]; exact a3, by rw [e _ (by omega) (by omega)]; exact a4, by rw [e _ (by omega) (by omega), e _ (by omega) (by omega), e _ (by omega) (by omega), e _ (by omega) (by omega)]; exact a5, by rw [e _ (by omega) (by omega)]; exact a9⟩
/-- how far a cut is from the lengths, in all -/
def fa_ (L : Nat → Nat) (N c : Nat) : Nat := sm (fun k => dst (L k) c) (N + 1)
def lsk (f : Nat → Nat) : Nat → Nat → Nat
  | 0, c => c
  | j + 1, c => if f (c + 1) < f c then lsk f j (c + 1) else c
/-- the least cut of the first k that shows least, and how much -/
def bst (f : Nat → Nat) : Nat → Nat × Nat
  | 0 => (0, f 0)
  | k + 1 => if f k < (bst f k).2 then (k, f k) else bst f k
theorem sm_convex {L : Nat → Nat} {c : Nat} : ∀ k, 2 * sm (fun i => dst (L i) (c + 1)) k ≤ sm (fun i => dst (L i) c) k + sm (fun i => dst (L i) (c + 2)) k
  | 0 => by simp [sm]
  | k + 1 => by
    have h := sm_convex (L := L) (c := c) k
    have h2 : 2 * dst (L k) (c + 1) ≤ dst (L k) c + dst (L k) (c + 2) := by unfold dst; omega
    simp only [sm]
    omega
theorem fa_convex (L : Nat → Nat) (N c : Nat) : 2 * fa_ L N (c + 1) ≤ fa_ L N c + fa_ L N (c + 2) := sm_convex (N + 1)
theorem grow {f : Nat → Nat} (hf : ∀ c, 2 * f (c + 1) ≤ f c + f (c + 2)) {a : Nat} (h : f a ≤ f (a + 1)) : ∀ d, f (a + d) ≤ f (a + d + 1) ∧ f a ≤ f (a + d)
  | 0 => ⟨h, Nat.le_refl _⟩
  | d + 1 => by
    have ih := grow hf h d
    have h2 := hf (a + d)
    rw [show a + (d + 1) = a + d + 1 by omega]
    rw [show a + d + 1 + 1 = a + d + 2 by omega]
    omega
/-- while it falls, the latest is the best -/
theorem bst_fall {f : Nat → Nat} : ∀ k, (∀ i, i < k → f (i + 1) < f i) → bst f (k + 1) = (k, f k)
  | 0, _ => by simp [bst]
  | k + 1, h => by
    rw [bst, bst_fall k (fun i hi => h i (by omega)), if_pos (h k (by omega))]
theorem bst_stay {f : Nat → Nat} {c : Nat} (h0 : bst f (c + 1) = (c, f c)) (h : ∀ d, f c ≤ f (c + d)) : ∀ d, bst f (c + 1 + d) = (c, f c)
  | 0 => h0
  | d + 1 => by
    have ih := bst_stay h0 h d
    rw [show c + 1 + (d + 1) = (c + 1 + d) + 1 by omega, bst, ih, if_neg]
    have := h (1 + d)
    rw [show c + (1 + d) = c + 1 + d by omega] at this
    show ¬ f (c + 1 + d) < f c
    omega
theorem lsk_spec {f : Nat → Nat} (hf : ∀ c, 2 * f (c + 1) ≤ f c + f (c + 2)) : ∀ j c, (∀ i, i < c → f (i + 1) < f i) → bst f (c + j + 1) = (lsk f j c, f (lsk f j c))
  | 0, c, h => by rw [lsk]; exact bst_fall c h
  | j + 1, c, h => by
    rw [lsk]
    by_cases h1 : f (c + 1) < f c
    · rw [if_pos h1, show c + (j + 1) + 1 = (c + 1) + j + 1 by omega]
      exact lsk_spec hf j (c + 1) (fun i hi => by
        by_cases e : i = c
        · rw [e]; exact h1
        · exact h i (by omega))
    · rw [if_neg h1, show c + (j + 1) + 1 = c + 1 + (j + 1) by omega]
      exact bst_stay (bst_fall c h) (fun d => (grow hf (by omega) d).2) (j + 1)
theorem best_eq (L : Nat → Nat) (N : Nat) : bst (fa_ L N) 200 = (lsk (fa_ L N) 199 0, fa_ L N (lsk (fa_ L N) 199 0)) := lsk_spec (fa_convex L N) 199 0 (fun i hi => absurd hi (by omega))
theorem lsk_step {f : Nat → Nat} {k : Nat} (h1 : 1 ≤ k) (h2 : k ≤ 199) (h : f k < f (k - 1)) : lsk f (200 - k) (k - 1) = lsk f (200 - (k + 1)) (k + 1 - 1) := by
  rw [show 200 - k = (200 - (k + 1)) + 1 by omega, lsk, show k - 1 + 1 = k by omega, if_pos h]
  rfl
theorem lsk_stop {f : Nat → Nat} {k : Nat} (h1 : 1 ≤ k) (h : k ≤ 199 → ¬ f k < f (k - 1)) (h3 : k ≤ 200) : lsk f (200 - k) (k - 1) = k - 1 := by
  by_cases e : k = 200
  · rw [e]; rfl
  · rw [show 200 - k = (200 - (k + 1)) + 1 by omega, lsk, show k - 1 + 1 = k by omega, if_neg (h (by omega))]
theorem lsk_le {f : Nat → Nat} : ∀ j c, lsk f j c ≤ c + j
  | 0, c => Nat.le_refl _
  | j + 1, c => by
    rw [lsk]
    split
    · have := lsk_le (f := f) j (c + 1); omega
    · omega
def bcL (n : Nat → Nat) (p m : Nat) : Nat → Nat := fun k => mea n p m (n 3 + k) (n 6)
def bo_bestCut (n : Nat → Nat) (p m N k : Nat) : Int32 := if k = 0 then nI (bst (fa_ (bcL n p m) N) 200).1 else nI (bst (fa_ (bcL n p m) N) 200).2
def sp_bestCut (n : Nat → Nat) (x z v w : Int32) : Int32 := if (0 ≤ x.toInt ∧ x.toInt < (n 0 : Int)) ∧ (0 ≤ z.toInt ∧ z.toInt ≤ 3) ∧ (0 ≤ v.toInt ∧ v.toInt ≤ 40) ∧ (0 ≤ w.toInt ∧ w.toInt ≤ 1) then bo_bestCut n (tn x) (tn z) (tn v) (tn w) else -1
theorem fa_le {n : Nat → Nat} (hn : NB n) {p m N c : Nat} (hp : p < n 0) (hm : m < 4) (hN : N ≤ 40) (hc : c ≤ 199) : ∀ k, k ≤ N + 1 → sm (fun k => dst (bcL n p m k) c) k ≤ 20000 := by
  intro k hk
  have h1 : sm (fun k => dst (bcL n p m k) c) k ≤ k * 279 := sm_le (fun i hi => dst_le (mea_le hn hp hm _ _).2 (by omega))
  have h2 : k * 279 ≤ 41 * 279 := Nat.mul_le_mul_right _ (by omega)
  omega
