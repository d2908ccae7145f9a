def zclr : List (Option Value) → Nat → List (Option Value)
  | [], _ => []
  | _ :: l, 0 => none :: l
  | a :: l, n + 1 => a :: zclr l n
theorem zclr_get : ∀ {l : List (Option Value)} {i j : Nat} {v : Value}, (zclr l i)[j]? = some (some v) → l[j]? = some (some v)
  | [], _, _, _, h => by simp [zclr] at h
  | _ :: _, 0, 0, _, h => by simp [zclr] at h
  | _ :: _, 0, _ + 1, _, h => by simpa [zclr] using h
  | _ :: _, _ + 1, 0, _, h => by simpa [zclr] using h
  | _ :: l, n + 1, j + 1, v, h => by
    simp only [zclr, List.getElem?_cons_succ] at h ⊢
    exact zclr_get h
/-- a local's value is forgotten -/
theorem r_lfor {l : Launch} {b : Option Nat} {R : Room} {y : MethodName} {cc : ByteArray} {nL : Nat} {ret : Option FieldType} {Q : Option Value → List zC → zM → Prop} {cells slots pc : Nat} {ls : List (Option Value)} {st : List Value} {S : List zC} {M : zM} (i : Nat) (k : RA l b R y cc nL ret Q cells slots pc (zclr ls i) st S M) : RA l b R y cc nL ret Q cells slots pc ls st S M := by
  intro p e s m args below meth c D A ex ad0 ac0 ad ac H locs lsA Z C hH hS hg hb hl hZ
  exact k p e s m args below meth c D A ex ad0 ac0 ad ac H locs lsA Z C hH hS hg hb ⟨hl.1, hl.2.1, fun j v hj => hl.2.2 j v (zclr_get hj)⟩ hZ
/-! what may be undone -/
def nk1 (t : Nat → Nat → Nat) : Nat := if t 34 7 = 8 then 7 else t 34 7
def nu1 (t : Nat → Nat → Nat) : Nat → Nat := if t 34 7 = 8 then (fun j => if j < 308 then t 38 (j + 44) else t 38 j) else t 38
def nrow (n : Nat → Nat) (i : Nat) : Nat := if i = 0 then n 2 else if i = 1 then n 3 else if i = 2 then n 6 else if i = 3 then n 7 else n (49 + (i - 4))
/-- the reference's numbers while it notes: k of the row's numbers stand -/
def tq (t : Nat → Nat → Nat) (k : Nat) : Nat → Nat → Nat := fun c j =>
  if c = 38 then (if 44 * nk1 t ≤ j ∧ j < 44 * nk1 t + k then nrow (t 35) (j - 44 * nk1 t) else nu1 t j) else if c = 34 then (if j = 7 then nk1 t else t 34 j) else t c j
def st_notes (t : Nat → Nat → Nat) : Nat → Nat → Nat := ts (tq t 44) 34 7 (nk1 t + 1)
theorem nk1_le {t : Nat → Nat → Nat} (h : t 34 7 ≤ 8) : nk1 t ≤ 7 := by unfold nk1; split <;> omega
theorem tq_ne {t : Nat → Nat → Nat} {k c j : Nat} (h : c ≠ 38) (h2 : c ≠ 34) : tq t k c j = t c j := by simp [tq, h, h2]
theorem tq_now {t : Nat → Nat → Nat} {k : Nat} : tq t k 35 = t 35 := rfl
theorem tq_kn {t : Nat → Nat → Nat} {k : Nat} : tq t k 34 7 = nk1 t := rfl
theorem tq_succ {t : Nat → Nat → Nat} {k v : Nat} (hv : v = nrow (t 35) k) : ts (tq t k) 38 (44 * nk1 t + k) v = tq t (k + 1) := by
  funext c j
  by_cases hc : c = 38
  · subst hc
    by_cases hj : j = 44 * nk1 t + k
    · subst hj
      rw [ts_at, hv]
      simp only [tq, if_true]
      rw [if_pos ⟨by omega, by omega⟩, show 44 * nk1 t + k - 44 * nk1 t = k by omega]
    · rw [ts_nk hj]
      simp only [tq, if_true]
      by_cases h1 : 44 * nk1 t ≤ j ∧ j < 44 * nk1 t + k
      · rw [if_pos h1, if_pos ⟨h1.1, by omega⟩]
      · rw [if_neg h1, if_neg (by omega)]
  · rw [ts_nc hc]
    simp only [tq, hc, if_false]
/-- the reference's numbers while it lets the eldest row go -/
def tsh (t : Nat → Nat → Nat) (k : Nat) : Nat → Nat → Nat := fun c j => if c = 38 then (if j + 44 < k then t 38 (j + 44) else t 38 j) else t c j
theorem tsh_0 {t : Nat → Nat → Nat} : tsh t 44 = t := by
  funext c j
  unfold tsh
  by_cases hc : c = 38
  · subst hc
    rw [if_pos rfl, if_neg (by omega)]
  · simp [hc]
theorem tsh_succ {t : Nat → Nat → Nat} {k : Nat} (hk : 44 ≤ k) : ts (tsh t k) 38 (k - 44) (t 38 k) = tsh t (k + 1) := by
  funext c j
  by_cases hc : c = 38
  · subst hc
    by_cases hj : j = k - 44
    · subst hj
      rw [ts_at]
      simp only [tsh, if_true]
      rw [if_pos (by omega), show k - 44 + 44 = k by omega]
    · rw [ts_nk hj]
      simp only [tsh, if_true]
      by_cases h1 : j + 44 < k
      · rw [if_pos h1, if_pos (by omega)]
      · rw [if_neg h1, if_neg (by omega)]
  · rw [ts_nc hc]
    simp only [tsh, hc, if_false]
theorem tsh_at {t : Nat → Nat → Nat} {k : Nat} : tsh t k 38 k = t 38 k := by
  simp only [tsh, if_true]
  rw [if_neg (by omega)]
theorem tsh_tq {t : Nat → Nat → Nat} (h : t 34 7 = 8) : ts (tsh t 352) 34 7 7 = tq t 0 := by
  funext c j
  by_cases hc : c = 34
  · subst hc
    by_cases hj : j = 7
    · subst hj
      rw [ts_at]
      simp [tq, nk1, h]
    · rw [ts_nk hj]
      simp [tq, tsh, hj]
  · rw [ts_nc hc]
    by_cases h8 : c = 38
    · subst h8
      simp only [tsh, tq, if_true, nu1, h]
      rw [if_neg (show ¬ (44 * nk1 t ≤ j ∧ j < 44 * nk1 t + 0) by omega)]
      by_cases h1 : j + 44 < 352
      · rw [if_pos h1, if_pos (by omega)]
      · rw [if_neg h1, if_neg (by omega)]
    · simp [tsh, tq, hc, h8]
theorem tq_0 {t : Nat → Nat → Nat} (h : ¬ t 34 7 = 8) : tq t 0 = t := by
  funext c j
  unfold tq nu1 nk1
  by_cases h8 : c = 38
  · subst h8
    simp only [if_true, h, if_false]
    rw [if_neg (by omega)]
  · by_cases hc : c = 34
    · subst hc
      simp only [h8, if_false, if_true, h]
      by_cases hj : j = 7
      · rw [if_pos hj, hj]
      · rw [if_neg hj]
    · simp [h8, hc]
theorem nu1_no {t : Nat → Nat → Nat} (h : ¬ t 34 7 = 8) : nu1 t = t 38 := by unfold nu1; rw [if_neg h]
theorem nk1_no {t : Nat → Nat → Nat} (h : ¬ t 34 7 = 8) : nk1 t = t 34 7 := by unfold nk1; rw [if_neg h]
/-- the class lets the eldest step go -/
theorem SI_shift {t : Nat → Nat → Nat} {M M' : zM} (h : SI 1 (t 35) (t 38) (t 34 7) M) (h8 : t 34 7 = 8) (m1 : M'.1 1 = upd (M.1 1) 5 (nI 7)) (m9 : M'.1 9 = va_cpy (M.1 9) (M.1 9) 4 0 28) (mo : ∀ c, 2 ≤ c → c ≤ 8 → M'.1 c = M.1 c) : SI 1 (t 35) (nu1 t) (nk1 t) M' := by
  obtain ⟨⟨f0, f1, f2, f3, f4, f5, f6, f7, f8⟩, a2, a3, a4, a5, a9⟩ := h
  have ek : nk1 t = 7 := by unfold nk1; rw [if_pos h8]
  refine ⟨⟨?_, ?_, ?_, ?_, ?_, ?_, ?_, ?_, ?_⟩, ?_, ?_, ?_, ?_, ?_⟩
  · rw [m1, pk_un (by decide)]; exact f0
  · rw [m1, pk_un (by decide)]; exact f1
  · rw [m1, pk_un (by decide)]; exact f2
  · rw [m1, pk_un (by decide)]; exact f3
  · rw [m1, pk_un (by decide)]; exact f4
  · rw [m1, pk_us, ek]
  · rw [m1, pk_un (by decide)]; exact f6
  · rw [m1, pk_un (by decide)]; exact f7
  · rw [m1, pk_un (by decide)]; exact f8
  · intro p hp; show M'.1 2 p = _; rw [mo 2 (by decide) (by decide)]; exact a2 p hp
  · intro p m hp hm; show M'.1 3 _ = _; rw [mo 3 (by decide) (by decide)]; exact a3 p m hp hm
  · intro p m hp hm; show M'.1 4 _ = _; rw [mo 4 (by decide) (by decide)]; exact a4 p m hp hm
  · intro d hd
    show M'.1 5 d = _ ∧ M'.1 6 d = _ ∧ M'.1 7 d = _ ∧ M'.1 8 d = _
    rw [mo 5 (by decide) (by decide), mo 6 (by decide) (by decide), mo 7 (by decide) (by decide), mo 8 (by decide) (by decide)]; exact a5 d hd
  · intro i hi
    rw [ek] at hi
    have h1 := a9 (i + 1) (by omega)
    have eu : ∀ x, x < 44 → nu1 t (44 * i + x) = t 38 (44 * (i + 1) + x) := by
      intro x hx
      unfold nu1
      rw [if_pos h8]
      show (if 44 * i + x < 308 then t 38 (44 * i + x + 44) else t 38 (44 * i + x)) = _
      rw [if_pos (by omega), show 44 * i + x + 44 = 44 * (i + 1) + x by omega]
    have ec : ∀ x, x < 4 → M'.1 9 (i * 4 + x) = M.1 9 ((i + 1) * 4 + x) := by
      intro x hx
      rw [m9, pk_cpy_in (by omega) (by omega), show 4 + (i * 4 + x - 0) = (i + 1) * 4 + x by omega]
    have e0 := ec 0 (by decide)
    have u0 := eu 0 (by decide)
    rw [Nat.add_zero, Nat.add_zero] at e0 u0
    show M'.1 9 (i * 4) = _ ∧ M'.1 9 (i * 4 + 1) = _ ∧ M'.1 9 (i * 4 + 2) = _ ∧ M'.1 9 (i * 4 + 3) = _
    rw [e0, ec 1 (by decide), ec 2 (by decide), ec 3 (by decide), u0, eu 1 (by decide), eu 2 (by decide), eu 3 (by decide)]
    exact h1
/-- the class notes a step -/
theorem SI_note {t : Nat → Nat → Nat} {M M' : zM} (h : SI 1 (t 35) (nu1 t) (nk1 t) M) (m1 : M'.1 1 = upd (M.1 1) 5 (nI (nk1 t + 1))) (m9 : M'.1 9 = upd (upd (upd (upd (M.1 9) (nk1 t * 4) (nI (t 35 2))) (nk1 t * 4 + 1) (nI (t 35 6))) (nk1 t * 4 + 2) (nI (t 35 3))) (nk1 t * 4 + 3) (nI (t 35 7))) (mo : ∀ c, 2 ≤ c → c ≤ 8 → M'.1 c = M.1 c) : SI 1 (st_notes t 35) (st_notes t 38) (st_notes t 34 7) M' := by
  obtain ⟨⟨f0, f1, f2, f3, f4, f5, f6, f7, f8⟩, a2, a3, a4, a5, a9⟩ := h
  have ek : st_notes t 34 7 = nk1 t + 1 := by unfold st_notes; rw [ts_at]
  have en : st_notes t 35 = t 35 := by unfold st_notes; rw [ts_nc (by decide)]; rfl
  have eu : st_notes t 38 = tq t 44 38 := by unfold st_notes; rw [ts_nc (by decide)]
  rw [ek, en, eu]
  refine ⟨⟨?_, ?_, ?_, ?_, ?_, ?_, ?_, ?_, ?_⟩, ?_, ?_, ?_, ?_, ?_⟩
  · rw [m1, pk_un (by decide)]; exact f0
  · rw [m1, pk_un (by decide)]; exact f1
  · rw [m1, pk_un (by decide)]; exact f2
  · rw [m1, pk_un (by decide)]; exact f3
  · rw [m1, pk_un (by decide)]; exact f4
  · rw [m1, pk_us]
  · rw [m1, pk_un (by decide)]; exact f6
  · rw [m1, pk_un (by decide)]; exact f7
  · rw [m1, pk_un (by decide)]; exact f8
  · intro p hp; show M'.1 2 p = _; rw [mo 2 (by decide) (by decide)]; exact a2 p hp
  · intro p m hp hm; show M'.1 3 _ = _; rw [mo 3 (by decide) (by decide)]; exact a3 p m hp hm
  · intro p m hp hm; show M'.1 4 _ = _; rw [mo 4 (by decide) (by decide)]; exact a4 p m hp hm
  · intro d hd
    show M'.1 5 d = _ ∧ M'.1 6 d = _ ∧ M'.1 7 d = _ ∧ M'.1 8 d = _
    rw [mo 5 (by decide) (by decide), mo 6 (by decide) (by decide), mo 7 (by decide) (by decide), mo 8 (by decide) (by decide)]; exact a5 d hd
  · intro i hi
    show M'.1 9 (i * 4) = _ ∧ M'.1 9 (i * 4 + 1) = _ ∧ M'.1 9 (i * 4 + 2) = _ ∧ M'.1 9 (i * 4 + 3) = _
    rw [m9]
    by_cases hk : i = nk1 t
    · subst hk
      have er : ∀ x, x < 44 → tq t 44 38 (44 * nk1 t + x) = nrow (t 35) x := by
        intro x hx
        simp only [tq, if_true]
        rw [if_pos ⟨by omega, by omega⟩, show 44 * nk1 t + x - 44 * nk1 t = x by omega]
      have e0 := er 0 (by decide)
      rw [Nat.add_zero] at e0
      rw [e0, er 1 (by decide), er 2 (by decide), er 3 (by decide)]
      refine ⟨?_, ?_, ?_, ?_⟩
      · rw [pk_un (by omega), pk_un (by omega), pk_un (by omega), pk_us]; rfl
      · rw [pk_un (by omega), pk_un (by omega), pk_us]; rfl
      · rw [pk_un (by omega), pk_us]; rfl
      · rw [pk_us]; rfl
    · have er : ∀ x, x < 44 → tq t 44 38 (44 * i + x) = nu1 t (44 * i + x) := by
        intro x hx
        simp only [tq, if_true]
        rw [if_neg (by omega)]
      have e0 := er 0 (by decide)
      rw [Nat.add_zero] at e0
      rw [e0, er 1 (by decide), er 2 (by decide), er 3 (by decide)]
      have h1 := a9 i (by omega)
      refine ⟨?_, ?_, ?_, ?_⟩
      · rw [pk_un (by omega), pk_un (by omega), pk_un (by omega), pk_un (by omega)]; exact h1.1
      · rw [pk_un (by omega), pk_un (by omega), pk_un (by omega), pk_un (by omega)]; exact h1.2.1
      · rw [pk_un (by omega), pk_un (by omega), pk_un (by omega), pk_un (by omega)]; exact h1.2.2.1
      · rw [pk_un (by omega), pk_un (by omega), pk_un (by omega), pk_un (by omega)]; exact h1.2.2.2
