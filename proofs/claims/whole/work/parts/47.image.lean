def slen (i : Nat) : Nat := match i with
  | 0 => 5
  | 1 => 20
  | 2 => 16
  | 7 => 32
  | _ => 10
/-- one shop's numbers in the other -/
def CP (a b : Nat) (M M' : zM) : Prop := (∀ k, k ≤ 8 → M'.1 b k = M.1 a k) ∧ (∀ i j, i < 8 → j < slen i → M'.1 (b + 1 + i) j = M.1 (a + 1 + i) j)
theorem SI_copy {a b : Nat} {n u : Nat → Nat} {kn : Nat} {M M' : zM} (h : SI a n u kn M) (hn : NB n) (hk : kn ≤ 8) (hc : CP a b M M') : SI b n u kn M' := by
  obtain ⟨⟨f0, f1, f2, f3, f4, f5, f6, f7, f8⟩, a2, a3, a4, a5, a9⟩ := h
  obtain ⟨c1, c2⟩ := hc
  have hb0 := hn.1
  have hb1 := hn.2.1
  have hb2 := hn.2.2.1
  refine ⟨⟨(c1 0 (by decide)).trans f0, (c1 1 (by decide)).trans f1, (c1 2 (by decide)).trans f2, (c1 3 (by decide)).trans f3, (c1 4 (by decide)).trans f4, (c1 5 (by decide)).trans f5, (c1 6 (by decide)).trans f6, (c1 7 (by decide)).trans f7, (c1 8 (by decide)).trans f8⟩, ?_, ?_, ?_, ?_, ?_⟩
  · intro p hp; exact (c2 0 p (by decide) (show p < 5 by omega)).trans (a2 p hp)
  · intro p m hp hm; exact (c2 1 (p * 4 + m) (by decide) (show p * 4 + m < 20 by omega)).trans (a3 p m hp hm)
  · intro p m hp hm; exact (c2 2 (p * 4 + m) (by decide) (show p * 4 + m < 16 by omega)).trans (a4 p m hp hm)
  · intro d hd
    have h9 := a5 d hd
    exact ⟨(c2 3 d (by decide) (show d < 10 by omega)).trans h9.1, (c2 4 d (by decide) (show d < 10 by omega)).trans h9.2.1, (c2 5 d (by decide) (show d < 10 by omega)).trans h9.2.2.1, (c2 6 d (by decide) (show d < 10 by omega)).trans h9.2.2.2⟩
  · intro i hi
    have h9 := a9 i hi
    exact ⟨(c2 7 (i * 4) (by decide) (show i * 4 < 32 by omega)).trans h9.1, (c2 7 (i * 4 + 1) (by decide) (show i * 4 + 1 < 32 by omega)).trans h9.2.1, (c2 7 (i * 4 + 2) (by decide) (show i * 4 + 2 < 32 by omega)).trans h9.2.2.1, (c2 7 (i * 4 + 3) (by decide) (show i * 4 + 3 < 32 by omega)).trans h9.2.2.2⟩
theorem SI_cong {b : Nat} {n u n' u' : Nat → Nat} {kn : Nat} {M : zM} (h : SI b n u kn M) (hn : NB n) (hk : kn ≤ 8) (h1 : ∀ j, j < 89 → n' j = n j) (h2 : ∀ j, j < 352 → u' j = u j) : SI b n' u' kn M := by
  obtain ⟨⟨f0, f1, f2, f3, f4, f5, f6, f7, f8⟩, a2, a3, a4, a5, a9⟩ := h
  have hb0 := hn.1
  have hb1 := hn.2.1
  have hb2 := hn.2.2.1
  refine ⟨⟨by rw [h1 _ (by decide)]; exact f0, by rw [h1 _ (by decide)]; exact f1, by rw [h1 _ (by decide)]; exact f2, by rw [h1 _ (by decide)]; exact f3, by rw [h1 _ (by decide)]; exact f4, f5, by rw [h1 _ (by decide)]; exact f6, by rw [h1 _ (by decide)]; exact f7, by rw [h1 _ (by decide)]; exact f8⟩, ?_, ?_, ?_, ?_, ?_⟩
  · intro p hp; rw [h1 0 (by decide)] at hp; rw [h1 _ (by omega)]; exact a2 p hp
  · intro p m hp hm; rw [h1 0 (by decide)] at hp; rw [h1 _ (by omega)]; exact a3 p m hp hm
  · intro p m hp hm; rw [h1 1 (by decide)] at hp; rw [h1 _ (by omega)]; exact a4 p m hp hm
  · intro d hd; rw [h1 2 (by decide)] at hd; rw [h1 _ (by omega), h1 _ (by omega), h1 _ (by omega), h1 _ (by omega)]; exact a5 d hd
  · intro i hi; rw [h2 _ (by omega), h2 _ (by omega), h2 _ (by omega), h2 _ (by omega)]; exact a9 i hi
/-- what is kept: the reference's copy (t 40) -/
def kn_ (t : Nat → Nat → Nat) : Nat → Nat := t 40
def ku_ (t : Nat → Nat → Nat) : Nat → Nat := fun j => t 40 (89 + j)
def im1 (t : Nat → Nat → Nat) (k : Nat) : Nat → Nat → Nat := fun c j => if c = 40 then (if j < k then t 35 j else t 40 j) else t c j
def im2 (t : Nat → Nat → Nat) (k : Nat) : Nat → Nat → Nat := fun c j => if c = 40 then (if j < 89 then t 35 j else if j < 89 + k then t 38 (j - 89) else t 40 j) else t c j
def st_image (t : Nat → Nat → Nat) : Nat → Nat → Nat := ts (ts (im2 t 352) 34 10 (t 34 7)) 34 11 1
theorem im1_0 (t : Nat → Nat → Nat) : im1 t 0 = t := by
  funext c j
  unfold im1
  by_cases h : c = 40
  · subst h; rw [if_pos rfl, if_neg (by omega)]
  · rw [if_neg h]
theorem im1_s {t : Nat → Nat → Nat} {k : Nat} : ts (im1 t k) 40 k (t 35 k) = im1 t (k + 1) := by
  funext c j
  by_cases h : c = 40
  · subst h
    by_cases hj : j = k
    · subst hj; rw [ts_at]; unfold im1; rw [if_pos rfl, if_pos (by omega)]
    · rw [ts_nk hj]; unfold im1; rw [if_pos rfl, if_pos rfl]
      by_cases h1 : j < k
      · rw [if_pos h1, if_pos (by omega)]
      · rw [if_neg h1, if_neg (by omega)]
  · rw [ts_nc h]; unfold im1; rw [if_neg h, if_neg h]
theorem im2_0 (t : Nat → Nat → Nat) : im1 t 89 = im2 t 0 := by
  funext c j
  unfold im1 im2
  by_cases h : c = 40
  · subst h
    rw [if_pos rfl, if_pos rfl]
    by_cases h1 : j < 89
    · rw [if_pos h1, if_pos h1]
    · rw [if_neg h1, if_neg h1, if_neg (by omega)]
  · rw [if_neg h, if_neg h]
theorem im2_s {t : Nat → Nat → Nat} {k : Nat} : ts (im2 t k) 40 (89 + k) (t 38 k) = im2 t (k + 1) := by
  funext c j
  by_cases h : c = 40
  · subst h
    by_cases hj : j = 89 + k
    · subst hj; rw [ts_at]; unfold im2; rw [if_pos rfl, if_neg (by omega), if_pos (by omega), show 89 + k - 89 = k by omega]
    · rw [ts_nk hj]; unfold im2; rw [if_pos rfl, if_pos rfl]
      by_cases h1 : j < 89
      · rw [if_pos h1, if_pos h1]
      · rw [if_neg h1, if_neg h1]
        by_cases h2 : j < 89 + k
        · rw [if_pos h2, if_pos (by omega)]
        · rw [if_neg h2, if_neg (by omega)]
  · rw [ts_nc h]; unfold im2; rw [if_neg h, if_neg h]
def re1 (t : Nat → Nat → Nat) (k : Nat) : Nat → Nat → Nat := fun c j => if c = 35 then (if j < k then t 40 j else t 35 j) else t c j
def re2 (t : Nat → Nat → Nat) (k : Nat) : Nat → Nat → Nat := fun c j => if c = 35 then (if j < 89 then t 40 j else t 35 j) else if c = 38 then (if j < k then t 40 (89 + j) else t 38 j) else t c j
def sp_restore (t : Nat → Nat → Nat) : Int32 := if t 34 11 = 0 then -4 else nI 1
def st_restore (t : Nat → Nat → Nat) : Nat → Nat → Nat := if t 34 11 = 0 then t else ts (re2 t 352) 34 7 (t 34 10)
theorem re1_0 (t : Nat → Nat → Nat) : re1 t 0 = t := by
  funext c j
  unfold re1
  by_cases h : c = 35
  · subst h; rw [if_pos rfl, if_neg (by omega)]
  · rw [if_neg h]
theorem re1_s {t : Nat → Nat → Nat} {k : Nat} : ts (re1 t k) 35 k (t 40 k) = re1 t (k + 1) := by
  funext c j
  by_cases h : c = 35
  · subst h
    by_cases hj : j = k
    · subst hj; rw [ts_at]; unfold re1; rw [if_pos rfl, if_pos (by omega)]
    · rw [ts_nk hj]; unfold re1; rw [if_pos rfl, if_pos rfl]
      by_cases h1 : j < k
      · rw [if_pos h1, if_pos (by omega)]
      · rw [if_neg h1, if_neg (by omega)]
  · rw [ts_nc h]; unfold re1; rw [if_neg h, if_neg h]
theorem re2_0 (t : Nat → Nat → Nat) : re1 t 89 = re2 t 0 := by
  funext c j
  unfold re1 re2
  by_cases h : c = 35
  · rw [if_pos h, if_pos h]
  · rw [if_neg h, if_neg h]
    by_cases h8 : c = 38
    · subst h8; rw [if_pos rfl, if_neg (by omega)]
    · rw [if_neg h8]
theorem re2_s {t : Nat → Nat → Nat} {k : Nat} : ts (re2 t k) 38 k (t 40 (89 + k)) = re2 t (k + 1) := by
  funext c j
  by_cases h : c = 38
  · subst h
    by_cases hj : j = k
    · subst hj; rw [ts_at]; unfold re2; rw [if_neg (by decide), if_pos rfl, if_pos (by omega)]
    · rw [ts_nk hj]
      show (if j < k then t 40 (89 + j) else t 38 j) = (if j < k + 1 then t 40 (89 + j) else t 38 j)
      by_cases h1 : j < k
      · rw [if_pos h1, if_pos (by omega)]
      · rw [if_neg h1, if_neg (by omega)]
  · rw [ts_nc h]; unfold re2; rw [if_neg h, if_neg h]
