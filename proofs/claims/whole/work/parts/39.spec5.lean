/-- a new deed -/
def nd (t : Nat → Nat → Nat) (p s w : Nat) : Nat → Nat → Nat := ts (ts (ts (ts (ts t 35 (49 + 4 * t 35 2) p) 35 (49 + 4 * t 35 2 + 1) s) 35 (49 + 4 * t 35 2 + 2) w) 35 (49 + 4 * t 35 2 + 3) (t 35 3)) 35 2 (t 35 2 + 1)
theorem nd_2 (t : Nat → Nat → Nat) (p s w : Nat) : nd t p s w 35 2 = t 35 2 + 1 := by unfold nd; rw [ts_at]
theorem nd_d0 (t : Nat → Nat → Nat) (p s w : Nat) : nd t p s w 35 (49 + 4 * t 35 2) = p := by unfold nd; rw [ts_nk (by omega), ts_nk (by omega), ts_nk (by omega), ts_nk (by omega), ts_at]
theorem nd_d1 (t : Nat → Nat → Nat) (p s w : Nat) : nd t p s w 35 (49 + 4 * t 35 2 + 1) = s := by unfold nd; rw [ts_nk (by omega), ts_nk (by omega), ts_nk (by omega), ts_at]
theorem nd_d2 (t : Nat → Nat → Nat) (p s w : Nat) : nd t p s w 35 (49 + 4 * t 35 2 + 2) = w := by unfold nd; rw [ts_nk (by omega), ts_nk (by omega), ts_at]
theorem nd_d3 (t : Nat → Nat → Nat) (p s w : Nat) : nd t p s w 35 (49 + 4 * t 35 2 + 3) = t 35 3 := by unfold nd; rw [ts_nk (by omega), ts_at]
theorem nd_else (t : Nat → Nat → Nat) (p s w : Nat) {j : Nat} (h0 : j ≠ 2) (h : j < 49 + 4 * t 35 2 ∨ 49 + 4 * t 35 2 + 4 ≤ j) : nd t p s w 35 j = t 35 j := by unfold nd; rw [ts_nk (by omega), ts_nk (by omega), ts_nk (by omega), ts_nk (by omega), ts_nk (by omega)]
theorem nd_nc (t : Nat → Nat → Nat) (p s w : Nat) {c : Nat} (h : c ≠ 35) : nd t p s w c = t c := by unfold nd; rw [ts_nc h, ts_nc h, ts_nc h, ts_nc h, ts_nc h]
theorem sn_35 (t : Nat → Nat → Nat) : st_notes t 35 = t 35 := by unfold st_notes; rw [ts_nc (by decide)]; rfl
theorem sn_kn (t : Nat → Nat → Nat) : st_notes t 34 7 = nk1 t + 1 := by unfold st_notes; rw [ts_at]
theorem SI_deed {t : Nat → Nat → Nat} {M M' : zM} {p s w : Nat} (h : SI 1 (t 35) (t 38) (t 34 7) M) (hn : NB (t 35)) (hlt : t 35 2 < 10) (m1 : M'.1 1 = upd (M.1 1) 2 (nI (t 35 2 + 1))) (m5 : M'.1 5 = upd (M.1 5) (t 35 2) (nI p)) (m6 : M'.1 6 = upd (M.1 6) (t 35 2) (nI s)) (m7 : M'.1 7 = upd (M.1 7) (t 35 2) (nI w)) (m8 : M'.1 8 = upd (M.1 8) (t 35 2) (nI (t 35 3))) (mo : ∀ c, 2 ≤ c → c ≤ 9 → c ≠ 5 → c ≠ 6 → c ≠ 7 → c ≠ 8 → M'.1 c = M.1 c) : SI 1 (nd t p s w 35) (nd t p s w 38) (nd t p s w 34 7) M' := by
  obtain ⟨⟨f0, f1, f2, f3, f4, f5, f6, f7, f8⟩, a2, a3, a4, a5, a9⟩ := h
  have hb0 := hn.1
  have hb1 := hn.2.1
  have e8 : ∀ j, j ≠ 2 → (j < 49 + 4 * t 35 2 ∨ 49 + 4 * t 35 2 + 4 ≤ j) → nd t p s w 35 j = t 35 j := fun j h0 hj => nd_else t p s w h0 hj
  rw [nd_nc t p s w (show 38 ≠ 35 by decide), nd_nc t p s w (show 34 ≠ 35 by decide)]
  refine ⟨⟨?_, ?_, ?_, ?_, ?_, ?_, ?_, ?_, ?_⟩, ?_, ?_, ?_, ?_, ?_⟩
  · rw [m1, pk_un (by decide), e8 _ (by decide) (by omega)]; exact f0
  · rw [m1, pk_un (by decide), e8 _ (by decide) (by omega)]; exact f1
  · rw [m1, pk_us, nd_2]
  · rw [m1, pk_un (by decide), e8 _ (by decide) (by omega)]; exact f3
  · rw [m1, pk_un (by decide), e8 _ (by decide) (by omega)]; exact f4
  · rw [m1, pk_un (by decide)]; exact f5
  · rw [m1, pk_un (by decide), e8 _ (by decide) (by omega)]; exact f6
  · rw [m1, pk_un (by decide), e8 _ (by decide) (by omega)]; exact f7
  · rw [m1, pk_un (by decide), e8 _ (by decide) (by omega)]; exact f8
  · intro q hq; rw [e8 0 (by decide) (by omega)] at hq; show M'.1 2 q = _; rw [mo 2 (by decide) (by decide) (by decide) (by decide) (by decide) (by decide), e8 _ (by omega) (by omega)]; exact a2 q hq
  · intro q m hq hm; rw [e8 0 (by decide) (by omega)] at hq; show M'.1 3 _ = _; rw [mo 3 (by decide) (by decide) (by decide) (by decide) (by decide) (by decide), e8 _ (by omega) (by omega)]; exact a3 q m hq hm
  · intro q m hq hm; rw [e8 1 (by decide) (by omega)] at hq; show M'.1 4 _ = _; rw [mo 4 (by decide) (by decide) (by decide) (by decide) (by decide) (by decide), e8 _ (by omega) (by omega)]; exact a4 q m hq hm
  · intro d hd
    rw [nd_2] at hd
    show M'.1 5 d = _ ∧ M'.1 6 d = _ ∧ M'.1 7 d = _ ∧ M'.1 8 d = _
    rw [m5, m6, m7, m8]
    by_cases hh : d = t 35 2
    · rw [hh, pk_us, pk_us, pk_us, pk_us, nd_d0, nd_d1, nd_d2, nd_d3]; exact ⟨rfl, rfl, rfl, rfl⟩
    · rw [pk_un hh, pk_un hh, pk_un hh, pk_un hh, e8 _ (by omega) (by omega), e8 _ (by omega) (by omega), e8 _ (by omega) (by omega), e8 _ (by omega) (by omega)]; exact a5 d (by omega)
  · intro i hi; show M'.1 9 _ = _ ∧ M'.1 9 _ = _ ∧ M'.1 9 _ = _ ∧ M'.1 9 _ = _; rw [mo 9 (by decide) (by decide) (by decide) (by decide) (by decide) (by decide)]; exact a9 i hi
def sp_does (t : Nat → Nat → Nat) (x z w : Int32) : Int32 := if (0 ≤ x.toInt ∧ x.toInt < (t 35 0 : Int)) ∧ (0 ≤ z.toInt ∧ z.toInt ≤ 5) ∧ (1 ≤ w.toInt ∧ w.toInt ≤ 9) then (if t 35 2 = 10 then -3 else nI (t 35 2)) else -1
def st_does (t : Nat → Nat → Nat) (x z w : Int32) : Nat → Nat → Nat := if (0 ≤ x.toInt ∧ x.toInt < (t 35 0 : Int)) ∧ (0 ≤ z.toInt ∧ z.toInt ≤ 5) ∧ (1 ≤ w.toInt ∧ w.toInt ≤ 9) then (if t 35 2 = 10 then t else nd (st_notes t) (tn x) (tn z) (tn w)) else t
def nm (t : Nat → Nat → Nat) (d : Nat) : Nat → Nat → Nat := ts (st_notes t) 35 6 (t 35 6 ||| 1 * 2 ^ d)
def sp_mend (t : Nat → Nat → Nat) (x : Int32) : Int32 := if 0 ≤ x.toInt ∧ x.toInt < (t 35 2 : Int) then (if (t 35 6).testBit (tn x) = true then -2 else nI (lft (t 35) (tn x) (t 35 3) (t 35 6 ||| 1 * 2 ^ tn x))) else -1
def st_mend (t : Nat → Nat → Nat) (x : Int32) : Nat → Nat → Nat := if 0 ≤ x.toInt ∧ x.toInt < (t 35 2 : Int) then (if (t 35 6).testBit (tn x) = true then t else nm t (tn x)) else t
theorem lft_cong {n n' : Nat → Nat} {d day md : Nat} (h4 : n' 4 = n 4) (h2 : n' (49 + 4 * d + 2) = n (49 + 4 * d + 2)) (h3 : n' (49 + 4 * d + 3) = n (49 + 4 * d + 3)) : lft n' d day md = lft n d day md := by unfold lft; rw [h4, h2, h3]
