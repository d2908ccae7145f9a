/-! what stays true from call to call: numbers -/
def UBn (n u : Nat → Nat) (kn : Nat) : Prop := kn ≤ 8 ∧ (∀ i, i < kn → u (44 * i) ≤ n 2 ∧ u (44 * i + 1) ≤ n 3 ∧ u (44 * i + 2) < 1024 ∧ u (44 * i + 3) < 2147483648 ∧ (∀ d j, d < u (44 * i) → j < 4 → u (44 * i + 4 + (4 * d + j)) = n (49 + 4 * d + j)) ∧ (∀ d, d < u (44 * i) → n (49 + 4 * d + 3) ≤ u (44 * i + 1))) ∧ (∀ i i', i ≤ i' → i' < kn → u (44 * i) ≤ u (44 * i') ∧ u (44 * i + 1) ≤ u (44 * i' + 1))
theorem UBn_UB {t : Nat → Nat → Nat} (h : UBn (t 35) (t 38) (t 34 7)) : UB t := h
theorem UBn_0 {n u : Nat → Nat} : UBn n u 0 := ⟨by decide, fun i hi => absurd hi (Nat.not_lt_zero i), fun i i' _ hi => absurd hi (Nat.not_lt_zero i')⟩
theorem UBn_grow {n n' u : Nat → Nat} {kn : Nat} (h : UBn n u kn) (h2 : n 2 ≤ n' 2) (h3 : n 3 ≤ n' 3) (hd : ∀ d j, d < n 2 → j < 4 → n' (49 + 4 * d + j) = n (49 + 4 * d + j)) : UBn n' u kn := by
  refine ⟨h.1, fun i hi => ?_, h.2.2⟩
  obtain ⟨a1, a2, a3, a4, a5, a6⟩ := h.2.1 i hi
  refine ⟨Nat.le_trans a1 h2, Nat.le_trans a2 h3, a3, a4, fun d j hdd hj => ?_, fun d hdd => ?_⟩
  · rw [hd d j (by omega) hj]; exact a5 d j hdd hj
  · rw [hd d 3 (by omega) (by decide)]; exact a6 d hdd
theorem NB_cong {n n' : Nat → Nat} (hn : NB n) (h : ∀ j, j < 89 → n' j = n j) : NB n' := by
  obtain ⟨h0, h1, h2, h3, h4, h5, h6, h7, hk, ho, hc, hd⟩ := hn
  refine ⟨by rw [h 0 (by decide)]; exact h0, by rw [h 1 (by decide)]; exact h1, by rw [h 2 (by decide)]; exact h2, by rw [h 3 (by decide)]; exact h3, by rw [h 4 (by decide)]; exact h4, by rw [h 5 (by decide)]; exact h5, by rw [h 6 (by decide)]; exact h6, by rw [h 7 (by decide)]; exact h7, ?_, ?_, ?_, ?_⟩
  · intro p hp; rw [h 0 (by decide)] at hp; rw [h _ (by omega)]; exact hk p hp
  · intro p m hp hm; rw [h 0 (by decide)] at hp; rw [h _ (by omega)]; exact ho p m hp hm
  · intro p m hp hm; rw [h 1 (by decide)] at hp; rw [h _ (by omega)]; exact hc p m hp hm
  · intro d hd9
    rw [h 2 (by decide)] at hd9
    rw [h 0 (by decide), h 3 (by decide), h (49 + 4 * d) (by omega), h (49 + 4 * d + 1) (by omega), h (49 + 4 * d + 2) (by omega), h (49 + 4 * d + 3) (by omega)]
    exact hd d hd9
theorem UBn_cong {n n' u u' : Nat → Nat} {kn : Nat} (hn : NB n) (h : UBn n u kn) (h1 : ∀ j, j < 89 → n' j = n j) (h2 : ∀ j, j < 352 → u' j = u j) : UBn n' u' kn := by
  have hn2 := hn.2.2.1
  have hk := h.1
  refine ⟨h.1, fun i hi => ?_, fun i i' hi hi' => ?_⟩
  · obtain ⟨a1, a2, a3, a4, a5, a6⟩ := h.2.1 i hi
    rw [h2 (44 * i) (by omega), h2 (44 * i + 1) (by omega), h2 (44 * i + 2) (by omega), h2 (44 * i + 3) (by omega), h1 2 (by decide), h1 3 (by decide)]
    refine ⟨a1, a2, a3, a4, fun d j hd hj => ?_, fun d hd => ?_⟩
    · rw [h2 _ (by omega), h1 _ (by omega)]; exact a5 d j hd hj
    · rw [h1 _ (by omega)]; exact a6 d hd
  · rw [h2 _ (by omega), h2 _ (by omega), h2 _ (by omega), h2 _ (by omega)]
    exact h.2.2 i i' hi hi'
/-- a step noted -/
theorem UBn_notes {t : Nat → Nat → Nat} (hn : NB (t 35)) (h : UBn (t 35) (t 38) (t 34 7)) : UBn (st_notes t 35) (st_notes t 38) (st_notes t 34 7) := by
  have hk := h.1
  have hkn := nk1_le hk
  have hn2 := hn.2.2.1
  have eu : st_notes t 38 = tq t 44 38 := by unfold st_notes; rw [ts_nc (by decide)]
  rw [sn_35, sn_kn, eu]
  have er : ∀ x, x < 44 → tq t 44 38 (44 * nk1 t + x) = nrow (t 35) x := by
    intro x hx
    simp only [tq, if_true]
    rw [if_pos ⟨by omega, by omega⟩, show 44 * nk1 t + x - 44 * nk1 t = x by omega]
  -- the older rows
  have eo : ∀ i, i < nk1 t → ∃ i', i' < t 34 7 ∧ (∀ x, x < 44 → tq t 44 38 (44 * i + x) = t 38 (44 * i' + x)) ∧ (t 34 7 = 8 → i' = i + 1) ∧ (¬ t 34 7 = 8 → i' = i) := by
    intro i hi
    by_cases h8 : t 34 7 = 8
    · have e7 : nk1 t = 7 := by unfold nk1; rw [if_pos h8]
      refine ⟨i + 1, by omega, fun x hx => ?_, fun _ => rfl, fun q => absurd h8 q⟩
      simp only [tq, if_true]
      rw [if_neg (by omega)]
      unfold nu1
      rw [if_pos h8]
      show (if 44 * i + x < 308 then t 38 (44 * i + x + 44) else t 38 (44 * i + x)) = _
      rw [if_pos (by omega), show 44 * i + x + 44 = 44 * (i + 1) + x by omega]
    · have e7 : nk1 t = t 34 7 := nk1_no h8
      refine ⟨i, by omega, fun x hx => ?_, fun q => absurd q h8, fun _ => rfl⟩
      simp only [tq, if_true]
      rw [if_neg (by omega), nu1_no h8]
  have r0 := er 0 (by decide)
  rw [Nat.add_zero] at r0
  refine ⟨by omega, fun i hi => ?_, fun i i' hi hi' => ?_⟩
  · by_cases e : i = nk1 t
    · subst e
      rw [r0, er 1 (by decide), er 2 (by decide), er 3 (by decide)]
      refine ⟨Nat.le_refl _, Nat.le_refl _, hn.2.2.2.2.2.2.1, hn.2.2.2.2.2.2.2.1, fun d j hd hj => ?_, fun d hd => ?_⟩
      · have hd : d < t 35 2 := hd
        rw [show 44 * nk1 t + 4 + (4 * d + j) = 44 * nk1 t + (4 + (4 * d + j)) by omega, er _ (by omega)]
        unfold nrow
        rw [if_neg (by omega), if_neg (by omega), if_neg (by omega), if_neg (by omega)]
        exact congrArg _ (by omega)
      · exact (hn.2.2.2.2.2.2.2.2.2.2.2 d hd).2.2.2
    · obtain ⟨i', hi', e1, -, -⟩ := eo i (by omega)
      have e0 := e1 0 (by decide)
      rw [Nat.add_zero, Nat.add_zero] at e0
      obtain ⟨a1, a2, a3, a4, a5, a6⟩ := h.2.1 i' hi'
      rw [e0, e1 1 (by decide), e1 2 (by decide), e1 3 (by decide)]
      refine ⟨a1, a2, a3, a4, fun d j hd hj => ?_, a6⟩
      rw [show 44 * i + 4 + (4 * d + j) = 44 * i + (4 + (4 * d + j)) by omega, e1 _ (by omega), show 44 * i' + (4 + (4 * d + j)) = 44 * i' + 4 + (4 * d + j) by omega]
      exact a5 d j hd hj
  · by_cases e : i' = nk1 t
    · subst e
      rw [r0, er 1 (by decide)]
      by_cases e2 : i = nk1 t
      · subst e2
        rw [r0, er 1 (by decide)]
        exact ⟨Nat.le_refl _, Nat.le_refl _⟩
      · obtain ⟨i2, hi2, e1, -, -⟩ := eo i (by omega)
        have e0 := e1 0 (by decide)
        rw [Nat.add_zero, Nat.add_zero] at e0
        obtain ⟨a1, a2, -⟩ := h.2.1 i2 hi2
        rw [e0, e1 1 (by decide)]
        exact ⟨a1, a2⟩
    · obtain ⟨i1, hi1, e1, c1, d1⟩ := eo i (by omega)
      obtain ⟨i2, hi2, e2, c2, d2⟩ := eo i' (by omega)
      have e0 := e1 0 (by decide)
      have f0 := e2 0 (by decide)
      rw [Nat.add_zero, Nat.add_zero] at e0 f0
      rw [e0, f0, e1 1 (by decide), e2 1 (by decide)]
      refine h.2.2 i1 i2 ?_ hi2
      by_cases h8 : t 34 7 = 8
      · rw [c1 h8, c2 h8]; omega
      · rw [d1 h8, d2 h8]; exact hi
/-- a step undone -/
theorem UBn_undo {t : Nat → Nat → Nat} (hn : NB (t 35)) (h : UBn (t 35) (t 38) (t 34 7)) (h0 : ¬ t 34 7 = 0) : NB (udk t 40 35) ∧ UBn (udk t 40 35) (udk t 40 38) (udk t 40 34 7) := by
  obtain ⟨hk, hu, hm⟩ := h
  obtain ⟨n0, n1, n2, n3, n4, n5, n6, n7, nk, no, nc, nd'⟩ := hn
  obtain ⟨a1, a2, a3, a4, a5, a6⟩ := hu (t 34 7 - 1) (by omega)
  have e2 : udk t 40 35 2 = t 38 (44 * (t 34 7 - 1)) := rfl
  have e3 : udk t 40 35 3 = t 38 (44 * (t 34 7 - 1) + 1) := rfl
  have e6 : udk t 40 35 6 = t 38 (44 * (t 34 7 - 1) + 2) := rfl
  have e7 : udk t 40 35 7 = t 38 (44 * (t 34 7 - 1) + 3) := rfl
  have ed : ∀ d j, d < t 38 (44 * (t 34 7 - 1)) → j < 4 → udk t 40 35 (49 + 4 * d + j) = t 35 (49 + 4 * d + j) := by
    intro d j hd hj
    rw [show 49 + 4 * d + j = 49 + (4 * d + j) by omega, ud_deed (by omega), a5 d j hd hj]
    exact congrArg _ (by omega)
  have el : ∀ j, j ≠ 2 → j ≠ 3 → j ≠ 6 → j ≠ 7 → j < 49 → udk t 40 35 j = t 35 j := fun j b2 b3 b6 b7 b => ud_lo b2 b3 b6 b7 b
  refine ⟨⟨by rw [el 0 (by decide) (by decide) (by decide) (by decide) (by decide)]; exact n0, by rw [el 1 (by decide) (by decide) (by decide) (by decide) (by decide)]; exact n1, by rw [e2]; omega, by rw [e3]; omega, by rw [el 4 (by decide) (by decide) (by decide) (by decide) (by decide)]; exact n4, by rw [el 5 (by decide) (by decide) (by decide) (by decide) (by decide)]; exact n5, by rw [e6]; exact a3, by rw [e7]; exact a4, ?_, ?_, ?_, ?_⟩, ?_, ?_, ?_⟩
  · intro p hp
    rw [el 0 (by decide) (by decide) (by decide) (by decide) (by decide)] at hp
    rw [el _ (by omega) (by omega) (by omega) (by omega) (by omega)]; exact nk p hp
  · intro p m hp hm'
    rw [el 0 (by decide) (by decide) (by decide) (by decide) (by decide)] at hp
    rw [el _ (by omega) (by omega) (by omega) (by omega) (by omega)]; exact no p m hp hm'
  · intro p m hp hm'
    rw [el 1 (by decide) (by decide) (by decide) (by decide) (by decide)] at hp
    rw [el _ (by omega) (by omega) (by omega) (by omega) (by omega)]; exact nc p m hp hm'
  · intro d hd
    rw [e2] at hd
    have h9 := nd' d (by omega)
    have d0 := ed d 0 hd (by decide)
    rw [Nat.add_zero] at d0
    rw [el 0 (by decide) (by decide) (by decide) (by decide) (by decide), d0, ed d 1 hd (by decide), ed d 2 hd (by decide), ed d 3 hd (by decide), e3]
    exact ⟨h9.1, h9.2.1, h9.2.2.1, a6 d hd⟩
  · rw [ud_kn]; omega
  · intro i hi
    rw [ud_kn] at hi
    rw [ud_38, e2, e3]
    obtain ⟨b1, b2, b3, b4, b5, b6⟩ := hu i (by omega)
    have m1 := hm i (t 34 7 - 1) (by omega) (by omega)
    refine ⟨m1.1, m1.2, b3, b4, fun d j hd hj => ?_, fun d hd => ?_⟩
    · rw [ed d j (by omega) hj]; exact b5 d j hd hj
    · rw [ed d 3 (by omega) (by decide)]; exact b6 d hd
  · intro i i' hi hi'
    rw [ud_kn] at hi'
    rw [ud_38]
    exact hm i i' hi (by omega)
/-! each writing call keeps them -/
def KP (t t' : Nat → Nat → Nat) : Prop := t' 36 = t 36 ∧ t' 40 = t 40 ∧ t' 42 = t 42 ∧ t' 34 2 = t 34 2 ∧ t' 34 10 = t 34 10 ∧ t' 34 11 = t 34 11
def OK (t t' : Nat → Nat → Nat) : Prop := (NB (t' 35) ∧ UBn (t' 35) (t' 38) (t' 34 7)) ∧ KP t t'
theorem KP.rf {t : Nat → Nat → Nat} : KP t t := ⟨rfl, rfl, rfl, rfl, rfl, rfl⟩
theorem KP.trans {t t1 t2 : Nat → Nat → Nat} (h : KP t t1) (h2 : KP t1 t2) : KP t t2 := ⟨h2.1.trans h.1, h2.2.1.trans h.2.1, h2.2.2.1.trans h.2.2.1, h2.2.2.2.1.trans h.2.2.2.1, h2.2.2.2.2.1.trans h.2.2.2.2.1, h2.2.2.2.2.2.trans h.2.2.2.2.2⟩
theorem KP_35 {t : Nat → Nat → Nat} {k v : Nat} : KP t (ts t 35 k v) := ⟨ts_nc (by decide), ts_nc (by decide), ts_nc (by decide), congrFun (ts_nc (by decide)) 2, congrFun (ts_nc (by decide)) 10, congrFun (ts_nc (by decide)) 11⟩
theorem KP_7 {t : Nat → Nat → Nat} {v : Nat} : KP t (ts t 34 7 v) := ⟨ts_nc (by decide), ts_nc (by decide), ts_nc (by decide), ts_nk (by decide), ts_nk (by decide), ts_nk (by decide)⟩
theorem KP_notes {t : Nat → Nat → Nat} : KP t (st_notes t) := ⟨rfl, rfl, rfl, rfl, rfl, rfl⟩
section OKS
variable {t : Nat → Nat → Nat} (hn : NB (t 35)) (hu : UBn (t 35) (t 38) (t 34 7))
theorem OK_id {t : Nat → Nat → Nat} (hn : NB (t 35)) (hu : UBn (t 35) (t 38) (t 34 7)) : OK t t := ⟨⟨hn, hu⟩, KP.rf⟩
/-- one number of 'now' is written, not of the deeds nor of how many or when -/
theorem UBn_ts {t : Nat → Nat → Nat} {k v : Nat} (hu : UBn (t 35) (t 38) (t 34 7)) (h2 : k ≠ 2) (h3 : k ≠ 3) (h : k < 49) : UBn (ts t 35 k v 35) (ts t 35 k v 38) (ts t 35 k v 34 7) := by
  rw [ts_nc (c' := 38) (by decide), ts_nc (c' := 34) (by decide)]
  exact UBn_grow hu (by rw [ts_nk (Ne.symm h2)]; exact Nat.le_refl _) (by rw [ts_nk (Ne.symm h3)]; exact Nat.le_refl _) (fun d j _ _ => ts_nk (by omega))
theorem NB_own {t : Nat → Nat → Nat} {p m v : Nat} (hn : NB (t 35)) (hm : m < 4) (hp : p < t 35 0) (hv : 10 ≤ v ∧ v ≤ 99) : NB (ts t 35 (8 + 5 * p + 1 + m) v 35) := by
  obtain ⟨h0, h1, h2, h3, h4, h5, h6, h7, hk, ho, hc, hd⟩ := hn
  have e : ∀ j, j ≠ 8 + 5 * p + 1 + m → ts t 35 (8 + 5 * p + 1 + m) v 35 j = t 35 j := fun j hj => ts_nk hj
  refine ⟨by rw [e _ (by omega)]; exact h0, by rw [e _ (by omega)]; exact h1, by rw [e _ (by omega)]; exact h2, by rw [e _ (by omega)]; exact h3, by rw [e _ (by omega)]; exact h4, by rw [e _ (by omega)]; exact h5, by rw [e _ (by omega)]; exact h6, by rw [e _ (by omega)]; exact h7, ?_, ?_, ?_, ?_⟩
  · intro q hq; rw [e _ (by omega)] at hq; rw [e _ (by omega)]; exact hk q hq
  · intro q m' hq hm'
    rw [e _ (by omega)] at hq
    by_cases g : 8 + 5 * q + 1 + m' = 8 + 5 * p + 1 + m
    · rw [g, ts_at]; exact hv
    · rw [e _ g]; exact ho q m' hq hm'
  · intro q m' hq hm'; rw [e _ (by omega)] at hq; rw [e _ (by omega)]; exact hc q m' hq hm'
  · intro d hd9; rw [e _ (by omega)] at hd9; rw [e _ (by omega), e _ (by omega), e _ (by omega), e _ (by omega), e _ (by omega), e _ (by omega)]; exact hd d hd9
theorem NB_cut {t : Nat → Nat → Nat} {p m v : Nat} (hn : NB (t 35)) (hm : m < 4) (hp : p < t 35 1) (hv : v ≤ 199) : NB (ts t 35 (33 + 4 * p + m) v 35) := by
  obtain ⟨h0, h1, h2, h3, h4, h5, h6, h7, hk, ho, hc, hd⟩ := hn
  have e : ∀ j, j ≠ 33 + 4 * p + m → ts t 35 (33 + 4 * p + m) v 35 j = t 35 j := fun j hj => ts_nk hj
  refine ⟨by rw [e _ (by omega)]; exact h0, by rw [e _ (by omega)]; exact h1, by rw [e _ (by omega)]; exact h2, by rw [e _ (by omega)]; exact h3, by rw [e _ (by omega)]; exact h4, by rw [e _ (by omega)]; exact h5, by rw [e _ (by omega)]; exact h6, by rw [e _ (by omega)]; exact h7, ?_, ?_, ?_, ?_⟩
  · intro q hq; rw [e _ (by omega)] at hq; rw [e _ (by omega)]; exact hk q hq
  · intro q m' hq hm'; rw [e _ (by omega)] at hq; rw [e _ (by omega)]; exact ho q m' hq hm'
  · intro q m' hq hm'
    rw [e _ (by omega)] at hq
    by_cases g : 33 + 4 * q + m' = 33 + 4 * p + m
    · rw [g, ts_at]; exact hv
    · rw [e _ g]; exact hc q m' hq hm'
  · intro d hd9; rw [e _ (by omega)] at hd9; rw [e _ (by omega), e _ (by omega), e _ (by omega), e _ (by omega), e _ (by omega), e _ (by omega)]; exact hd d hd9
theorem NB_45 {t : Nat → Nat → Nat} {k v : Nat} (hn : NB (t 35)) (h : (k = 4 ∧ 1 ≤ v ∧ v ≤ 30) ∨ (k = 5 ∧ v ≤ 9)) : NB (ts t 35 k v 35) := by
  obtain ⟨h0, h1, h2, h3, h4, h5, h6, h7, hk, ho, hc, hd⟩ := hn
  have e : ∀ j, j ≠ k → ts t 35 k v 35 j = t 35 j := fun j hj => ts_nk hj
  refine ⟨by rw [e _ (by omega)]; exact h0, by rw [e _ (by omega)]; exact h1, by rw [e _ (by omega)]; exact h2, by rw [e _ (by omega)]; exact h3, ?_, ?_, by rw [e _ (by omega)]; exact h6, by rw [e _ (by omega)]; exact h7, ?_, ?_, ?_, ?_⟩
  · by_cases g : k = 4
    · subst g; rw [ts_at]; omega
    · rw [e _ (Ne.symm g)]; exact h4
  · by_cases g : k = 5
    · subst g; rw [ts_at]; omega
    · rw [e _ (Ne.symm g)]; exact h5
  · intro q hq; rw [e _ (by omega)] at hq; rw [e _ (by omega)]; exact hk q hq
  · intro q m' hq hm'; rw [e _ (by omega)] at hq; rw [e _ (by omega)]; exact ho q m' hq hm'
  · intro q m' hq hm'; rw [e _ (by omega)] at hq; rw [e _ (by omega)]; exact hc q m' hq hm'
  · intro d hd9; rw [e _ (by omega)] at hd9; rw [e _ (by omega), e _ (by omega), e _ (by omega), e _ (by omega), e _ (by omega), e _ (by omega)]; exact hd d hd9
theorem NB_np {t : Nat → Nat → Nat} {kd v : Nat} (hn : NB (t 35)) (h5 : t 35 0 < 5) (hk : kd ≤ 4) (hv : 10 ≤ v ∧ v ≤ 99) : NB (np t kd v 35) := by
  obtain ⟨h0, h1, h2, h3, h4, h5', h6, h7, hk', ho, hc, hd⟩ := hn
  have e : ∀ j, j ≠ 0 → (j < 8 + 5 * t 35 0 ∨ 8 + 5 * t 35 0 + 5 ≤ j) → np t kd v 35 j = t 35 j := fun j a b => np_else t kd v a b
  refine ⟨by rw [np_0]; omega, by rw [e _ (by omega) (by omega)]; exact h1, by rw [e _ (by omega) (by omega)]; exact h2, by rw [e _ (by omega) (by omega)]; exact h3, by rw [e _ (by omega) (by omega)]; exact h4, by rw [e _ (by omega) (by omega)]; exact h5', by rw [e _ (by omega) (by omega)]; exact h6, by rw [e _ (by omega) (by omega)]; exact h7, ?_, ?_, ?_, ?_⟩
  · intro q hq
    rw [np_0] at hq
    by_cases g : q = t 35 0
    · subst g; rw [np_kind]; exact hk
    · rw [e _ (by omega) (by omega)]; exact hk' q (by omega)
  · intro q m hq hm
    rw [np_0] at hq
    by_cases g : q = t 35 0
    · subst g; rw [np_own t kd v hm]; exact hv
    · rw [e _ (by omega) (by omega)]; exact ho q m (by omega) hm
  · intro q m hq hm
    rw [e _ (by omega) (by omega)] at hq
    rw [e _ (by omega) (by omega)]; exact hc q m hq hm
  · intro d hd9
    rw [e _ (by omega) (by omega)] at hd9
    have h9 := hd d hd9
    rw [np_0, e _ (by omega) (by omega), e _ (by omega) (by omega), e _ (by omega) (by omega), e _ (by omega) (by omega), e _ (by omega) (by omega)]
    exact ⟨by omega, h9.2⟩
theorem NB_ns {t : Nat → Nat → Nat} {v : Nat} (hn : NB (t 35)) (h4' : t 35 1 < 4) (hv : v ≤ 199) : NB (ns t v 35) := by
  obtain ⟨h0, h1, h2, h3, h4, h5, h6, h7, hk, ho, hc, hd⟩ := hn
  have e : ∀ j, j ≠ 1 → (j < 33 + 4 * t 35 1 ∨ 33 + 4 * t 35 1 + 4 ≤ j) → ns t v 35 j = t 35 j := fun j a b => ns_else t v a b
  refine ⟨by rw [e _ (by omega) (by omega)]; exact h0, by rw [ns_1]; omega, by rw [e _ (by omega) (by omega)]; exact h2, by rw [e _ (by omega) (by omega)]; exact h3, by rw [e _ (by omega) (by omega)]; exact h4, by rw [e _ (by omega) (by omega)]; exact h5, by rw [e _ (by omega) (by omega)]; exact h6, by rw [e _ (by omega) (by omega)]; exact h7, ?_, ?_, ?_, ?_⟩
  · intro q hq; rw [e _ (by omega) (by omega)] at hq; rw [e _ (by omega) (by omega)]; exact hk q hq
  · intro q m hq hm; rw [e _ (by omega) (by omega)] at hq; rw [e _ (by omega) (by omega)]; exact ho q m hq hm
  · intro q m hq hm
    rw [ns_1] at hq
    by_cases g : q = t 35 1
    · subst g; rw [ns_cut t v hm]; exact hv
    · rw [e _ (by omega) (by omega)]; exact hc q m (by omega) hm
  · intro d hd9
    rw [e _ (by omega) (by omega)] at hd9
    rw [e _ (by omega) (by omega), e _ (by omega) (by omega), e _ (by omega) (by omega), e _ (by omega) (by omega), e _ (by omega) (by omega), e _ (by omega) (by omega)]
    exact hd d hd9
end OKS
