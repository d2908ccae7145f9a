/-! who should wear what -/
def ftn (n : Nat → Nat) (p s : Nat) : Bool := fit n p s (n 3) (n 6)
def mxs (f : Nat → Bool) (g : Nat → Nat) (tk : Nat) : Nat → Nat
  | 0 => g tk
  | k + 1 => if f k = true ∧ tk.testBit k = false then (if mxs f g tk k < 1 + g (tk ||| 1 * 2 ^ k) then 1 + g (tk ||| 1 * 2 ^ k) else mxs f g tk k) else mxs f g tk k
def mst (n : Nat → Nat) : Nat → Nat → Nat → Nat
  | 0, _, _ => 0
  | r + 1, p, tk => mxs (ftn n p) (mst n r (p + 1)) tk (n 1)
def fch (f : Nat → Bool) (g : Nat → Nat) (tk v : Nat) : Nat → Nat → Option Nat
  | 0, _ => none
  | j + 1, k => if f k = true ∧ tk.testBit k = false ∧ 1 + g (tk ||| 1 * 2 ^ k) = v then some k else fch f g tk v j (k + 1)
def cho (n : Nat → Nat) (r p tk : Nat) : Option Nat := fch (ftn n p) (mst n r (p + 1)) tk (mst n (r + 1) p tk) (n 1) 0
def nxt (tk : Nat) : Option Nat → Nat
  | none => tk
  | some s => tk ||| 1 * 2 ^ s
def dg (S : Nat) : Option Nat → Nat
  | none => S
  | some s => s
def gw (n : Nat → Nat) : Nat → Nat → Nat → Nat
  | 0, _, _ => 0
  | r + 1, p, tk => dg (n 1) (cho n r p tk) * (n 1 + 1) ^ r + gw n r (p + 1) (nxt tk (cho n r p tk))
def wval (n : Nat → Nat) : Nat → Nat → Nat → Nat → Option Nat
  | 0, _, _, _ => some 0
  | r + 1, p, tk, way => if way / (n 1 + 1) ^ r < n 1 then (if ftn n p (way / (n 1 + 1) ^ r) = true ∧ tk.testBit (way / (n 1 + 1) ^ r) = false then (wval n r (p + 1) (tk ||| 1 * 2 ^ (way / (n 1 + 1) ^ r)) (way % (n 1 + 1) ^ r)).map (· + 1) else none) else wval n r (p + 1) tk (way % (n 1 + 1) ^ r)
theorem mxs_0 {f : Nat → Bool} {g : Nat → Nat} {tk : Nat} : ∀ K, g tk ≤ mxs f g tk K
  | 0 => Nat.le_refl _
  | K + 1 => by
    have ih := mxs_0 (f := f) (g := g) (tk := tk) K
    rw [mxs]
    (repeat' split) <;> omega
theorem mxs_ge {f : Nat → Bool} {g : Nat → Nat} {tk k : Nat} (hf : f k = true ∧ tk.testBit k = false) : ∀ K, k < K → 1 + g (tk ||| 1 * 2 ^ k) ≤ mxs f g tk K
  | 0, h => by omega
  | K + 1, h => by
    rw [mxs]
    by_cases e : k = K
    · subst e
      rw [if_pos hf]
      split <;> omega
    · have ih := mxs_ge (g := g) hf K (by omega)
      (repeat' split) <;> omega
theorem mxs_or {f : Nat → Bool} {g : Nat → Nat} {tk : Nat} : ∀ K, mxs f g tk K = g tk ∨ ∃ k, k < K ∧ f k = true ∧ tk.testBit k = false ∧ 1 + g (tk ||| 1 * 2 ^ k) = mxs f g tk K
  | 0 => Or.inl rfl
  | K + 1 => by
    have ih := mxs_or (f := f) (g := g) (tk := tk) K
    rw [mxs]
    by_cases hf : f K = true ∧ tk.testBit K = false
    · rw [if_pos hf]
      by_cases hlt : mxs f g tk K < 1 + g (tk ||| 1 * 2 ^ K)
      · rw [if_pos hlt]
        exact Or.inr ⟨K, by omega, hf.1, hf.2, rfl⟩
      · rw [if_neg hlt]
        rcases ih with h | ⟨k, h1, h2⟩
        · exact Or.inl h
        · exact Or.inr ⟨k, by omega, h2⟩
    · rw [if_neg hf]
      rcases ih with h | ⟨k, h1, h2⟩
      · exact Or.inl h
      · exact Or.inr ⟨k, by omega, h2⟩
theorem fch_some {f : Nat → Bool} {g : Nat → Nat} {tk v s : Nat} : ∀ j k, fch f g tk v j k = some s → k ≤ s ∧ s < k + j ∧ (f s = true ∧ tk.testBit s = false ∧ 1 + g (tk ||| 1 * 2 ^ s) = v) ∧ ∀ i, k ≤ i → i < s → ¬ (f i = true ∧ tk.testBit i = false ∧ 1 + g (tk ||| 1 * 2 ^ i) = v)
  | 0, k, h => by cases h
  | j + 1, k, h => by
    rw [fch] at h
    split at h
    case isTrue hc =>
      cases h
      exact ⟨Nat.le_refl _, by omega, hc, fun i h1 h2 => by omega⟩
    case isFalse hc =>
      have ih := fch_some j (k + 1) h
      refine ⟨by omega, by omega, ih.2.2.1, fun i h1 h2 => ?_⟩
      by_cases e : i = k
      · rw [e]; exact hc
      · exact ih.2.2.2 i (by omega) h2
theorem fch_none {f : Nat → Bool} {g : Nat → Nat} {tk v : Nat} : ∀ j k, fch f g tk v j k = none → ∀ i, k ≤ i → i < k + j → ¬ (f i = true ∧ tk.testBit i = false ∧ 1 + g (tk ||| 1 * 2 ^ i) = v)
  | 0, k, _, i, h1, h2 => by omega
  | j + 1, k, h, i, h1, h2 => by
    rw [fch] at h
    split at h
    · cases h
    case isFalse hc =>
      by_cases e : i = k
      · rw [e]; exact hc
      · exact fch_none j (k + 1) h i (by omega) (by omega)
/-- the first choice: what it gives -/
theorem cho_spec (n : Nat → Nat) (r p tk : Nat) : (match cho n r p tk with
    | none => mst n (r + 1) p tk = mst n r (p + 1) tk
    | some s => s < n 1 ∧ ftn n p s = true ∧ tk.testBit s = false ∧ 1 + mst n r (p + 1) (tk ||| 1 * 2 ^ s) = mst n (r + 1) p tk) ∧ ∀ i, i < dg (n 1) (cho n r p tk) → ¬ (ftn n p i = true ∧ tk.testBit i = false ∧ 1 + mst n r (p + 1) (tk ||| 1 * 2 ^ i) = mst n (r + 1) p tk) := by
  cases e : cho n r p tk with
  | none =>
    have h := fch_none (n 1) 0 e
    refine ⟨?_, fun i hi => h i (Nat.zero_le _) (by have hi : i < n 1 := hi; omega)⟩
    show mxs (ftn n p) (mst n r (p + 1)) tk (n 1) = mst n r (p + 1) tk
    rcases mxs_or (f := ftn n p) (g := mst n r (p + 1)) (tk := tk) (n 1) with h2 | ⟨k, h1, h2, h3, h4⟩
    · exact h2
    · exact absurd ⟨h2, h3, h4⟩ (h k (Nat.zero_le _) (by omega))
  | some s =>
    have h := fch_some (n 1) 0 e
    exact ⟨⟨by omega, h.2.2.1⟩, fun i hi => h.2.2.2 i (Nat.zero_le _) hi⟩
theorem dg_le (n : Nat → Nat) (r p tk : Nat) : dg (n 1) (cho n r p tk) ≤ n 1 := by
  have h := (cho_spec n r p tk).1
  cases e : cho n r p tk with
  | none => exact Nat.le_refl _
  | some s => rw [e] at h; exact Nat.le_of_lt h.1
theorem gw_lt (n : Nat → Nat) : ∀ r p tk, gw n r p tk < (n 1 + 1) ^ r
  | 0, _, _ => by simp [gw]
  | r + 1, p, tk => by
    have ih := gw_lt n r (p + 1) (nxt tk (cho n r p tk))
    have hd := dg_le n r p tk
    rw [gw, Nat.pow_succ]
    have h1 : dg (n 1) (cho n r p tk) * (n 1 + 1) ^ r ≤ n 1 * (n 1 + 1) ^ r := Nat.mul_le_mul_right _ hd
    have h2 : (n 1 + 1) ^ r * (n 1 + 1) = n 1 * (n 1 + 1) ^ r + (n 1 + 1) ^ r := by rw [Nat.mul_add, Nat.mul_one, Nat.mul_comm]
    omega
theorem mst_le (n : Nat → Nat) : ∀ r p tk, mst n r p tk ≤ r
  | 0, _, _ => Nat.le_refl _
  | r + 1, p, tk => by
    rw [mst]
    rcases mxs_or (f := ftn n p) (g := mst n r (p + 1)) (tk := tk) (n 1) with h2 | ⟨k, h1, h2, h3, h4⟩
    · rw [h2]
      have := mst_le n r (p + 1) tk
      omega
    · rw [← h4]
      have := mst_le n r (p + 1) (tk ||| 1 * 2 ^ k)
      omega
theorem wval_le (n : Nat → Nat) : ∀ r p tk way v, wval n r p tk way = some v → v ≤ mst n r p tk
  | 0, _, _, _, v, h => by
    cases h
    exact Nat.le_refl _
  | r + 1, p, tk, way, v, h => by
    rw [wval] at h
    by_cases hd : way / (n 1 + 1) ^ r < n 1
    · rw [if_pos hd] at h
      by_cases hf : ftn n p (way / (n 1 + 1) ^ r) = true ∧ tk.testBit (way / (n 1 + 1) ^ r) = false
      · rw [if_pos hf] at h
        obtain ⟨v', h1, h2⟩ := Option.map_eq_some_iff.mp h
        have ih := wval_le n r _ _ _ v' h1
        have hge := mxs_ge (g := mst n r (p + 1)) hf (n 1) hd
        rw [mst]
        omega
      · rw [if_neg hf] at h
        cases h
    · rw [if_neg hd] at h
      have ih := wval_le n r _ _ _ v h
      have h0 := mxs_0 (f := ftn n p) (g := mst n r (p + 1)) (tk := tk) (n 1)
      rw [mst]
      omega
theorem dm {d B y : Nat} (hy : y < B) : (d * B + y) / B = d ∧ (d * B + y) % B = y := by
  have hB : 0 < B := by omega
  refine ⟨?_, ?_⟩
  · rw [Nat.add_comm, Nat.add_mul_div_right _ _ hB, Nat.div_eq_of_lt hy, Nat.zero_add]
  · rw [Nat.add_comm, Nat.add_mul_mod_self_right, Nat.mod_eq_of_lt hy]
theorem wval_gw (n : Nat → Nat) : ∀ r p tk, wval n r p tk (gw n r p tk) = some (mst n r p tk)
  | 0, _, _ => rfl
  | r + 1, p, tk => by
    have hlt := gw_lt n r (p + 1) (nxt tk (cho n r p tk))
    have hdm := dm (d := dg (n 1) (cho n r p tk)) hlt
    have ih := wval_gw n r (p + 1) (nxt tk (cho n r p tk))
    have hs := (cho_spec n r p tk).1
    rw [wval, gw, hdm.1, hdm.2]
    cases e : cho n r p tk with
    | none =>
      rw [e] at hs ih
      rw [if_neg (show ¬ dg (n 1) none < n 1 from Nat.lt_irrefl _)]
      have ih : wval n r (p + 1) tk (gw n r (p + 1) tk) = _ := ih
      show wval n r (p + 1) tk (gw n r (p + 1) tk) = _
      rw [ih, hs]
      rfl
    | some s =>
      rw [e] at hs ih
      have ih : wval n r (p + 1) (tk ||| 1 * 2 ^ s) (gw n r (p + 1) (tk ||| 1 * 2 ^ s)) = some (mst n r (p + 1) (tk ||| 1 * 2 ^ s)) := ih
      rw [if_pos (show dg (n 1) (some s) < n 1 from hs.1), if_pos (show ftn n p (dg (n 1) (some s)) = true ∧ tk.testBit (dg (n 1) (some s)) = false from ⟨hs.2.1, hs.2.2.1⟩)]
      show (wval n r (p + 1) (tk ||| 1 * 2 ^ s) (gw n r (p + 1) (tk ||| 1 * 2 ^ s))).map (· + 1) = _
      rw [ih, ← hs.2.2.2]
      exact congrArg some (Nat.add_comm _ 1)
theorem wval_lt (n : Nat → Nat) : ∀ r p tk way v, way < gw n r p tk → wval n r p tk way = some v → v < mst n r p tk
  | 0, _, _, way, v, h, _ => absurd h (Nat.not_lt_zero _)
  | r + 1, p, tk, way, v, h, hv => by
    have hlt := gw_lt n r (p + 1) (nxt tk (cho n r p tk))
    have hs := cho_spec n r p tk
    have hdl := dg_le n r p tk
    have hB : 0 < (n 1 + 1) ^ r := Nat.pow_pos (by omega)
    have hdmw := Nat.div_add_mod way ((n 1 + 1) ^ r)
    have hml := Nat.mod_lt way hB
    rw [gw] at h
    rw [wval] at hv
    have hd' : way / (n 1 + 1) ^ r ≤ dg (n 1) (cho n r p tk) := by
      have h1 : way / (n 1 + 1) ^ r < dg (n 1) (cho n r p tk) + 1 := by
        rw [Nat.div_lt_iff_lt_mul hB, Nat.add_mul, Nat.one_mul]
        omega
      omega
    generalize hdd : way / (n 1 + 1) ^ r = d at *
    generalize hrr : way % (n 1 + 1) ^ r = y at *
    by_cases hc : d < dg (n 1) (cho n r p tk)
    · have hno := hs.2 d hc
      rw [if_pos (show d < n 1 by omega)] at hv
      by_cases hf : ftn n p d = true ∧ tk.testBit d = false
      · rw [if_pos hf] at hv
        obtain ⟨v', h1, h2⟩ := Option.map_eq_some_iff.mp hv
        have hle := wval_le n r _ _ _ v' h1
        have hge := mxs_ge (g := mst n r (p + 1)) hf (n 1) (by omega)
        have hge : 1 + mst n r (p + 1) (tk ||| 1 * 2 ^ d) ≤ mst n (r + 1) p tk := hge
        have hne : 1 + mst n r (p + 1) (tk ||| 1 * 2 ^ d) ≠ mst n (r + 1) p tk := fun q => hno ⟨hf.1, hf.2, q⟩
        omega
      · rw [if_neg hf] at hv
        cases hv
    · have hde : d = dg (n 1) (cho n r p tk) := by omega
      have hy : y < gw n r (p + 1) (nxt tk (cho n r p tk)) := by
        rw [hde, Nat.mul_comm] at hdmw
        omega
      have hs1 := hs.1
      cases e : cho n r p tk with
      | none =>
        rw [e] at hs1 hy hde
        have hde : d = n 1 := hde
        rw [if_neg (by omega)] at hv
        have ih := wval_lt n r (p + 1) tk y v hy hv
        omega
      | some s =>
        rw [e] at hs1 hy hde
        have hde : d = s := hde
        subst hde
        rw [if_pos hs1.1, if_pos ⟨hs1.2.1, hs1.2.2.1⟩] at hv
        obtain ⟨v', h1, h2⟩ := Option.map_eq_some_iff.mp hv
        have ih := wval_lt n r (p + 1) (tk ||| 1 * 2 ^ d) y v' hy h1
        have := hs1.2.2.2
        omega
/-- the reference's state over all ways -/
def mbet (m : Option Nat) (v : Nat) : Bool := match m with
  | none => true
  | some x => decide (x < v)
def rst (n : Nat → Nat) : Nat → Nat × Option Nat
  | 0 => (0, none)
  | k + 1 => match wval n (n 0) 0 0 k with
    | none => rst n k
    | some v => if mbet (rst n k).2 v = true then (k, some v) else rst n k
theorem rst_lo {n : Nat → Nat} : ∀ k, k ≤ gw n (n 0) 0 0 → ∀ x, (rst n k).2 = some x → x < mst n (n 0) 0 0
  | 0, _, x, h => by cases h
  | k + 1, hk, x, h => by
    have ih := rst_lo (n := n) k (by omega)
    rw [rst] at h
    cases e : wval n (n 0) 0 0 k with
    | none =>
      rw [e] at h
      exact ih x h
    | some v =>
      rw [e] at h
      have hv := wval_lt n (n 0) 0 0 k v (by omega) e
      dsimp only at h
      split at h
      · cases h; exact hv
      · exact ih x h
theorem rst_hi {n : Nat → Nat} : ∀ d, rst n (gw n (n 0) 0 0 + 1 + d) = (gw n (n 0) 0 0, some (mst n (n 0) 0 0))
  | 0 => by
    rw [Nat.add_zero, rst, wval_gw]
    dsimp only
    rw [if_pos]
    cases e : (rst n (gw n (n 0) 0 0)).2 with
    | none => rfl
    | some x => exact decide_eq_true (rst_lo _ (Nat.le_refl _) x e)
  | d + 1 => by
    have ih := rst_hi (n := n) d
    rw [show gw n (n 0) 0 0 + 1 + (d + 1) = (gw n (n 0) 0 0 + 1 + d) + 1 by omega, rst]
    cases e : wval n (n 0) 0 0 (gw n (n 0) 0 0 + 1 + d) with
    | none => exact ih
    | some v =>
      dsimp only
      rw [ih, if_neg]
      have hv := wval_le n (n 0) 0 0 _ v e
      intro q
      have := of_decide_eq_true q
      omega
theorem rst_all (n : Nat → Nat) : rst n ((n 1 + 1) ^ n 0) = (gw n (n 0) 0 0, some (mst n (n 0) 0 0)) := by
  have h := gw_lt n (n 0) 0 0
  have := rst_hi (n := n) ((n 1 + 1) ^ n 0 - (gw n (n 0) 0 0 + 1))
  rw [show gw n (n 0) 0 0 + 1 + ((n 1 + 1) ^ n 0 - (gw n (n 0) 0 0 + 1)) = (n 1 + 1) ^ n 0 by omega] at this
  exact this
/-- the suits taken ahead of a person, and its own -/
def tkn (n : Nat → Nat) : Nat → Nat
  | 0 => 0
  | i + 1 => nxt (tkn n i) (cho n (n 0 - i - 1) i (tkn n i))
def wn (n : Nat → Nat) : Nat → Option Nat
  | 0 => none
  | i + 1 => cho n (n 0 - i - 1) i (tkn n i)
theorem gw_mod {n : Nat → Nat} : ∀ i, i ≤ n 0 → gw n (n 0) 0 0 % (n 1 + 1) ^ (n 0 - i) = gw n (n 0 - i) i (tkn n i)
  | 0, _ => Nat.mod_eq_of_lt (gw_lt n (n 0) 0 0)
  | i + 1, h => by
    have ih := gw_mod (n := n) i (by omega)
    have e : n 0 - i = (n 0 - (i + 1)) + 1 := by omega
    have e1 : n 0 - i - 1 = n 0 - (i + 1) := by omega
    have hdvd : (n 1 + 1) ^ (n 0 - (i + 1)) ∣ (n 1 + 1) ^ (n 0 - i) := Nat.pow_dvd_pow _ (by omega)
    rw [← Nat.mod_mod_of_dvd _ hdvd, ih, tkn, e1, e, gw]
    exact (dm (gw_lt n _ _ _)).2
theorem gw_digit {n : Nat → Nat} {i : Nat} (h : i < n 0) : gw n (n 0) 0 0 / (n 1 + 1) ^ (n 0 - i - 1) % (n 1 + 1) = dg (n 1) (wn n (i + 1)) := by
  have hm := gw_mod (n := n) i (by omega)
  have e : n 0 - i = (n 0 - i - 1) + 1 := by omega
  rw [← Nat.mod_mul_right_div_self, ← Nat.pow_succ, show (n 0 - i - 1).succ = n 0 - i by omega, hm, wn]
  have e2 : gw n (n 0 - i) i (tkn n i) = dg (n 1) (cho n (n 0 - i - 1) i (tkn n i)) * (n 1 + 1) ^ (n 0 - i - 1) + gw n (n 0 - i - 1) (i + 1) (nxt (tkn n i) (cho n (n 0 - i - 1) i (tkn n i))) := by
    rw [e, gw]
    rfl
  rw [e2]
  exact (dm (gw_lt n _ _ _)).1
theorem tkn_lt {n : Nat → Nat} (h4 : n 1 ≤ 4) : ∀ i, tkn n i < 16
  | 0 => (by decide : 0 < 16)
  | i + 1 => by
    have ih := tkn_lt h4 i
    have hs := (cho_spec n (n 0 - i - 1) i (tkn n i)).1
    rw [tkn]
    cases e : cho n (n 0 - i - 1) i (tkn n i) with
    | none => exact ih
    | some s =>
      rw [e] at hs
      exact or_lt (k := 4) ih (pw_lt (by omega))
def sp_wear (n : Nat → Nat) (x : Int32) : Int32 := if x = -4 then nI (mst n (n 0) 0 0) else if 0 ≤ x.toInt ∧ x.toInt < (n 0 : Int) then fwv (wn n (tn x + 1)) else -1
