theorem SI_person {t : Nat → Nat → Nat} {M M' : zM} {kd v : Nat} (h : SI 1 (t 35) (t 38) (t 34 7) M) (hn : NB (t 35)) (hlt : t 35 0 < 5) (m1 : M'.1 1 = upd (upd (M.1 1) 0 (nI (t 35 0 + 1))) 5 (nI 0)) (m2 : M'.1 2 = upd (M.1 2) (t 35 0) (nI kd)) (m3 : M'.1 3 = upd (upd (upd (upd (M.1 3) (t 35 0 * 4 + 0) (nI v)) (t 35 0 * 4 + 1) (nI v)) (t 35 0 * 4 + 2) (nI v)) (t 35 0 * 4 + 3) (nI v)) (mo : ∀ c, 4 ≤ c → c ≤ 9 → M'.1 c = M.1 c) : SI 1 (np t kd v 35) (np t kd v 38) (np t kd v 34 7) M' := by
  obtain ⟨⟨f0, f1, f2, f3, f4, f5, f6, f7, f8⟩, a2, a3, a4, a5, a9⟩ := h
  have hb1 := hn.2.1
  have hb2 := hn.2.2.1
  have e8 : ∀ j, j ≠ 0 → (j < 8 + 5 * t 35 0 ∨ 8 + 5 * t 35 0 + 5 ≤ j) → np t kd v 35 j = t 35 j := fun j h0 hj => np_else t kd v h0 hj
  have ek : np t kd v 34 7 = 0 := by unfold np; rw [ts_at]
  refine ⟨⟨?_, ?_, ?_, ?_, ?_, ?_, ?_, ?_, ?_⟩, ?_, ?_, ?_, ?_, ?_⟩
  · rw [m1, pk_un (by decide), pk_us, np_0]
  · rw [m1, pk_un (by decide), pk_un (by decide), e8 _ (by decide) (by omega)]; exact f1
  · rw [m1, pk_un (by decide), pk_un (by decide), e8 _ (by decide) (by omega)]; exact f2
  · rw [m1, pk_un (by decide), pk_un (by decide), e8 _ (by decide) (by omega)]; exact f3
  · rw [m1, pk_un (by decide), pk_un (by decide), e8 _ (by decide) (by omega)]; exact f4
  · rw [m1, pk_us, ek]
  · rw [m1, pk_un (by decide), pk_un (by decide), e8 _ (by decide) (by omega)]; exact f6
  · rw [m1, pk_un (by decide), pk_un (by decide), e8 _ (by decide) (by omega)]; exact f7
  · rw [m1, pk_un (by decide), pk_un (by decide), e8 _ (by decide) (by omega)]; exact f8
  · intro p hp
    rw [np_0] at hp
    show M'.1 2 p = _
    rw [m2]
    by_cases hh : p = t 35 0
    · rw [hh, pk_us, np_kind]
    · rw [pk_un hh, e8 _ (by omega) (by omega)]; exact a2 p (by omega)
  · intro p m hp hm
    rw [np_0] at hp
    show M'.1 3 _ = _
    rw [m3]
    by_cases hh : p = t 35 0
    · rw [hh, np_own t kd v hm]
      rcases (show m = 0 ∨ m = 1 ∨ m = 2 ∨ m = 3 by omega) with rfl | rfl | rfl | rfl
      · rw [pk_un (by omega), pk_un (by omega), pk_un (by omega), pk_us]
      · rw [pk_un (by omega), pk_un (by omega), pk_us]
      · rw [pk_un (by omega), pk_us]
      · rw [pk_us]
    · rw [pk_un (by omega), pk_un (by omega), pk_un (by omega), pk_un (by omega), e8 _ (by omega) (by omega)]; exact a3 p m (by omega) hm
  · intro s m hs hm
    rw [e8 1 (by decide) (by omega)] at hs
    show M'.1 4 _ = _
    rw [mo 4 (by decide) (by decide), e8 _ (by omega) (by omega)]; exact a4 s m hs hm
  · intro d hd
    rw [e8 2 (by decide) (by omega)] at hd
    show M'.1 5 d = _ ∧ M'.1 6 d = _ ∧ M'.1 7 d = _ ∧ M'.1 8 d = _
    rw [mo 5 (by decide) (by decide), mo 6 (by decide) (by decide), mo 7 (by decide) (by decide), mo 8 (by decide) (by decide), e8 _ (by omega) (by omega), e8 _ (by omega) (by omega), e8 _ (by omega) (by omega), e8 _ (by omega) (by omega)]; exact a5 d hd
  · intro i hi
    rw [ek] at hi
    exact absurd hi (by omega)
theorem SI_suit {t : Nat → Nat → Nat} {M M' : zM} {v : Nat} (h : SI 1 (t 35) (t 38) (t 34 7) M) (hn : NB (t 35)) (hlt : t 35 1 < 4) (m1 : M'.1 1 = upd (upd (M.1 1) 1 (nI (t 35 1 + 1))) 5 (nI 0)) (m3 : M'.1 4 = upd (upd (upd (upd (M.1 4) (t 35 1 * 4 + 0) (nI v)) (t 35 1 * 4 + 1) (nI v)) (t 35 1 * 4 + 2) (nI v)) (t 35 1 * 4 + 3) (nI v)) (mo : ∀ c, 2 ≤ c → c ≤ 9 → c ≠ 4 → M'.1 c = M.1 c) : SI 1 (ns t v 35) (ns t v 38) (ns t v 34 7) M' := by
  obtain ⟨⟨f0, f1, f2, f3, f4, f5, f6, f7, f8⟩, a2, a3, a4, a5, a9⟩ := h
  have hb0 := hn.1
  have hb2 := hn.2.2.1
  have e8 : ∀ j, j ≠ 1 → (j < 33 + 4 * t 35 1 ∨ 33 + 4 * t 35 1 + 4 ≤ j) → ns t v 35 j = t 35 j := fun j h0 hj => ns_else t v h0 hj
  have ek : ns t v 34 7 = 0 := by unfold ns; rw [ts_at]
  refine ⟨⟨?_, ?_, ?_, ?_, ?_, ?_, ?_, ?_, ?_⟩, ?_, ?_, ?_, ?_, ?_⟩
  · rw [m1, pk_un (by decide), pk_un (by decide), e8 _ (by decide) (by omega)]; exact f0
  · rw [m1, pk_un (by decide), pk_us, ns_1]
  · rw [m1, pk_un (by decide), pk_un (by decide), e8 _ (by decide) (by omega)]; exact f2
  · rw [m1, pk_un (by decide), pk_un (by decide), e8 _ (by decide) (by omega)]; exact f3
  · rw [m1, pk_un (by decide), pk_un (by decide), e8 _ (by decide) (by omega)]; exact f4
  · rw [m1, pk_us, ek]
  · rw [m1, pk_un (by decide), pk_un (by decide), e8 _ (by decide) (by omega)]; exact f6
  · rw [m1, pk_un (by decide), pk_un (by decide), e8 _ (by decide) (by omega)]; exact f7
  · rw [m1, pk_un (by decide), pk_un (by decide), e8 _ (by decide) (by omega)]; exact f8
  · intro p hp
    rw [e8 0 (by decide) (by omega)] at hp
    show M'.1 2 p = _
    rw [mo 2 (by decide) (by decide) (by decide), e8 _ (by omega) (by omega)]; exact a2 p hp
  · intro p m hp hm
    rw [e8 0 (by decide) (by omega)] at hp
    show M'.1 3 _ = _
    rw [mo 3 (by decide) (by decide) (by decide), e8 _ (by omega) (by omega)]; exact a3 p m hp hm
  · intro p m hp hm
    rw [ns_1] at hp
    show M'.1 4 _ = _
    rw [m3]
    by_cases hh : p = t 35 1
    · rw [hh, ns_cut t v hm]
      rcases (show m = 0 ∨ m = 1 ∨ m = 2 ∨ m = 3 by omega) with rfl | rfl | rfl | rfl
      · rw [pk_un (by omega), pk_un (by omega), pk_un (by omega), pk_us]
      · rw [pk_un (by omega), pk_un (by omega), pk_us]
      · rw [pk_un (by omega), pk_us]
      · rw [pk_us]
    · rw [pk_un (by omega), pk_un (by omega), pk_un (by omega), pk_un (by omega), e8 _ (by omega) (by omega)]; exact a4 p m (by omega) hm
  · intro d hd
    rw [e8 2 (by decide) (by omega)] at hd
    show M'.1 5 d = _ ∧ M'.1 6 d = _ ∧ M'.1 7 d = _ ∧ M'.1 8 d = _
    rw [mo 5 (by decide) (by decide) (by decide), mo 6 (by decide) (by decide) (by decide), mo 7 (by decide) (by decide) (by decide), mo 8 (by decide) (by decide) (by decide), e8 _ (by omega) (by omega), e8 _ (by omega) (by omega), e8 _ (by omega) (by omega), e8 _ (by omega) (by omega)]; exact a5 d hd
  · intro i hi
    rw [ek] at hi
    exact absurd hi (by omega)
