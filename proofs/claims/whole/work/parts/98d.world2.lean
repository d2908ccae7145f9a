/-! the wardrobe's numbers -/
theorem pl_0 {f : Nat → Nat} {L : Nat} : ∀ {j n : Nat} {s : Nat × Nat} {g : Nat → Nat}, (pl f L j n s g).1.2 = 0 → s.2 = 0
  | 0, n, s, g, h => h
  | j + 1, n, s, g, h => by
    by_cases h0 : s.2 = 0
    · exact h0
    · rw [pl_e h0] at h; exact h
def PV (n : Nat) (g : Nat → Nat) : Prop := ∀ q, q < n → g (5 * q) ≤ 4 ∧ ∀ m, m < 4 → 10 ≤ g (5 * q + 1 + m) ∧ g (5 * q + 1 + m) ≤ 99
def SV (n : Nat) (g : Nat → Nat) : Prop := ∀ q, q < n → ∀ m, m < 4 → g (25 + 4 * q + m) ≤ 199
theorem PV_s {f : Nat → Nat} {L n : Nat} {s : Nat × Nat} {g : Nat → Nat} (h : PV n g) (h0 : (wpS f L n s).2 = 0) : PV (n + 1) (wpG f L n s g) := by
  intro q hq
  by_cases e : q = n
  · subst e
    refine ⟨?_, fun m hm => ?_⟩
    · unfold wpG
      rw [if_pos rfl]
      exact kv_le _
    · unfold wpG
      rw [if_neg (by omega), if_pos (by omega), show 5 * q + 1 + m - (5 * q + 1) = m by omega]
      exact fs_in (n := 4) h0 hm
  · have h1 := h q (by omega)
    refine ⟨?_, fun m hm => ?_⟩
    · unfold wpG
      rw [if_neg (by omega), if_neg (by omega)]
      exact h1.1
    · unfold wpG
      rw [if_neg (by omega), if_neg (by omega)]
      exact h1.2 m hm
theorem SV_s {f : Nat → Nat} {L n : Nat} {s : Nat × Nat} {g : Nat → Nat} (h : SV n g) (h0 : (wtS f L n s).2 = 0) : SV (n + 1) (wtG f L n s g) := by
  intro q hq m hm
  by_cases e : q = n
  · subst e
    unfold wtG
    rw [if_pos (by omega), show 25 + 4 * q + m - (25 + 4 * q) = m by omega]
    exact (fs_in (n := 4) h0 hm).2
  · unfold wtG
    rw [if_neg (by omega)]
    exact h q (by omega) m hm
theorem pl_v {f : Nat → Nat} {L : Nat} : ∀ {j n : Nat} {s : Nat × Nat} {g : Nat → Nat}, PV n g → (pl f L j n s g).1.2 = 0 → PV (pl f L j n s g).2.1 (pl f L j n s g).2.2
  | 0, n, s, g, h, _ => h
  | j + 1, n, s, g, h, h9 => by
    by_cases h0 : s.2 = 0
    · by_cases h2 : n ≠ 0 ∧ ¬ (wh f L s.1 < L ∧ f (wh f L s.1) = 44)
      · rw [pl_x h0 h2]; exact h
      · have h3 : n = 0 ∨ (wh f L s.1 < L ∧ f (wh f L s.1) = 44) := Decidable.byContradiction (fun q => h2 ⟨fun r => q (Or.inl r), fun r => q (Or.inr r)⟩)
        rw [pl_s h0 h3] at h9 ⊢
        exact pl_v (PV_s h (pl_0 h9)) h9
    · rw [pl_e h0]; exact h
theorem sl_v {f : Nat → Nat} {L : Nat} : ∀ {j n : Nat} {s : Nat × Nat} {g : Nat → Nat}, SV n g → (sl f L j n s g).1.2 = 0 → SV (sl f L j n s g).2.1 (sl f L j n s g).2.2
  | 0, n, s, g, h, _ => h
  | j + 1, n, s, g, h, h9 => by
    by_cases h0 : s.2 = 0
    · by_cases h2 : n ≠ 0 ∧ ¬ (wh f L s.1 < L ∧ f (wh f L s.1) = 44)
      · rw [sl_x h0 h2]; exact h
      · have h3 : n = 0 ∨ (wh f L s.1 < L ∧ f (wh f L s.1) = 44) := Decidable.byContradiction (fun q => h2 ⟨fun r => q (Or.inl r), fun r => q (Or.inr r)⟩)
        rw [sl_s h0 h3] at h9 ⊢
        exact sl_v (SV_s h (sl_0 h9)) h9
    · rw [sl_e h0]; exact h
theorem NB_w35 {t : Nat → Nat → Nat} (hn : NB (t 35)) : NB (w35 t) := by
  by_cases h0 : wE t = 0
  · have hb0 : (wB t).1.2 = 0 := wzE_0 h0
    have ha0 : (wA t).1.2 = 0 := wzB_0 hb0
    have hs0 := ex_0 (pl_0 ha0)
    have hfd : 1 ≤ nv (t 36) (t 34 2) 0 ∧ nv (t 36) (t 34 2) 0 ≤ 30 := nu_in hs0
    have hpv : PV (wA t).2.1 (wA t).2.2 := pl_v (fun q hq => absurd hq (Nat.not_lt_zero q)) ha0
    have hpv : PV (wA t).2.1 (wB t).2.2 := fun q hq => by
      have n5 : (wA t).2.1 ≤ 5 := (pl_n (f := t 36) (L := t 34 2) (j := 5) (n := 0) (s := ex (t 36) (t 34 2) 59 (nu (t 36) (t 34 2) 1 30 (0, 0))) (g := t 37)).2
      have e : ∀ i, i < 25 → (wB t).2.2 i = (wA t).2.2 i := fun i hi => wzB_lo hi
      refine ⟨by rw [e _ (by omega)]; exact (hpv q hq).1, fun m hm => by rw [e _ (by omega)]; exact (hpv q hq).2 m hm⟩
    have hsv : SV (wB t).2.1 (wB t).2.2 := by
      have hb0' : (wzB (t 36) (t 34 2) (wA t)).1.2 = 0 := hb0
      show SV (wzB (t 36) (t 34 2) (wA t)).2.1 (wzB (t 36) (t 34 2) (wA t)).2.2
      unfold wzB at hb0' ⊢
      split
      · rename_i q
        rw [if_pos q] at hb0'
        exact sl_v (fun q hq => absurd hq (Nat.not_lt_zero q)) hb0'
      · exact fun q hq => absurd hq (Nat.not_lt_zero q)
    have e0 : w35 t 0 = (wA t).2.1 := by unfold w35; rw [if_pos h0]; rfl
    have e1 : w35 t 1 = (wB t).2.1 := by unfold w35; rw [if_pos h0]; rfl
    have e2 : w35 t 2 = 0 := by unfold w35; rw [if_pos h0]; rfl
    have e3 : w35 t 3 = 0 := by unfold w35; rw [if_pos h0]; rfl
    have e4 : w35 t 4 = nv (t 36) (t 34 2) 0 := by unfold w35; rw [if_pos h0]; rfl
    have e5 : w35 t 5 = t 35 5 := by unfold w35; rw [if_pos h0]; rfl
    have e6 : w35 t 6 = 0 := by unfold w35; rw [if_pos h0]; rfl
    have e7 : w35 t 7 = t 35 7 := by unfold w35; rw [if_pos h0]; rfl
    have e8 : ∀ j, j < 41 → w35 t (8 + j) = (wB t).2.2 j := fun j hj => by
      unfold w35
      rw [if_pos h0, if_pos (by omega), show 8 + j - 8 = j by omega]
    have n5 : (wA t).2.1 ≤ 5 := (pl_n (f := t 36) (L := t 34 2) (j := 5) (n := 0) (s := ex (t 36) (t 34 2) 59 (nu (t 36) (t 34 2) 1 30 (0, 0))) (g := t 37)).2
    have n4 : (wB t).2.1 ≤ 4 := by
      unfold wB wzB
      split
      · exact sl_n.2
      · exact Nat.zero_le _
    refine ⟨by rw [e0]; exact n5, by rw [e1]; exact n4, by rw [e2]; exact Nat.zero_le _, by rw [e3]; exact Nat.zero_le _, by rw [e4]; exact hfd, by rw [e5]; exact hn.2.2.2.2.2.1, by rw [e6]; decide, by rw [e7]; exact hn.2.2.2.2.2.2.2.1, ?_, ?_, ?_, ?_⟩
    · intro p hp
      rw [e0] at hp
      rw [e8 _ (by omega)]; exact (hpv p hp).1
    · intro p m hp hm
      rw [e0] at hp
      rw [show 8 + 5 * p + 1 + m = 8 + (5 * p + 1 + m) by omega, e8 _ (by omega)]; exact (hpv p hp).2 m hm
    · intro s m hs hm
      rw [e1] at hs
      rw [show 33 + 4 * s + m = 8 + (25 + 4 * s + m) by omega, e8 _ (by omega)]; exact hsv s hs m hm
    · intro d hd
      rw [e2] at hd
      exact absurd hd (Nat.not_lt_zero d)
  · have e : w35 t = t 35 := by
      funext j
      exact if_neg h0
    rw [e]
    exact hn
theorem UBn_w {t : Nat → Nat → Nat} (hu : UBn (t 35) (t 38) (t 34 7)) : UBn (w35 t) (t 38) (w7 t) := by
  by_cases h0 : wE t = 0
  · have e : w7 t = 0 := if_pos h0
    rw [e]
    exact UBn_0
  · have e : w35 t = t 35 := by
      funext j
      exact if_neg h0
    have e7 : w7 t = t 34 7 := if_neg h0
    rw [e, e7]
    exact hu
theorem WJ_ward {t t9 : Nat → Nat → Nat} {z : Nat → Option (Nat × Nat × Nat)} {rw : List zC} {M M1 M2 : zM} (h : WJ t z rw M) (hS : SI 1 (w35 t) (t 38) (w7 t) M1) (h1 : M1.1 19 1 = nI 0) (hf1 : zfr (fun i => PT 1 i ∨ PQ i) M M1) (hw : WP t t9) (hR : RI t9 M2) (hf2 : zfr PR M1 M2) : WJ t9 z rw M2 := by
  obtain ⟨w2, w7', w5, wc, wk⟩ := hw
  have hn1 : ∀ i, ¬ (1 ≤ i ∧ i ≤ 9) → ¬ (i = 19 ∨ (21 ≤ i ∧ i ≤ 23)) → ¬ (PT 1 i ∨ PQ i) := fun i a b q => q.elim (fun r => a (by unfold PT at r; omega)) (fun r => b r)
  have e1 : ∀ i, ¬ (1 ≤ i ∧ i ≤ 9) → ¬ (i = 19 ∨ (21 ≤ i ∧ i ≤ 23)) → ¬ PR i → M2.1 i = M.1 i := fun i a b c => ((hf2 i c).1).trans (hf1 i (hn1 i a b)).1
  have s38 : t9 38 = t 38 := wc 38 (by decide) (by decide) (by decide)
  have s40 : t9 40 = t 40 := wc 40 (by decide) (by decide) (by decide)
  have s42 : t9 42 = t 42 := wc 42 (by decide) (by decide) (by decide)
  have s10 : t9 34 10 = t 34 10 := wk 10 (by decide)
  have s11 : t9 34 11 = t 34 11 := wk 11 (by decide)
  refine ⟨hR, ?_, by rw [w5]; exact NB_w35 h.nb, by rw [w5, s38, w7']; exact UBn_w h.ub, ⟨?_, ?_, fun q => ?_⟩, ⟨?_, fun j hj => ?_⟩, ?_, ?_, fun m hm => by rw [e1 31 (by decide) (by decide) (by unfold PR; decide)]; exact h.z31 m hm, FW_st h.fw (((hf2 33 (by unfold PR; decide)).2.2).trans (hf1 33 (hn1 33 (by decide) (by decide))).2.2)⟩
  · rw [w5, s38, w7']
    exact SI_pr hS hf2
  · rw [e1 0 (by decide) (by decide) (by unfold PR; decide), s11]; exact h.im.1
  · rw [s11]; exact h.im.2.1
  · rw [s11] at q
    obtain ⟨a1, a2, a3⟩ := h.im.2.2 q
    refine ⟨?_, by rw [s40]; exact a2, by rw [s40, s10]; exact a3⟩
    unfold KI
    rw [s40, s10]
    exact SI_cells a1 (fun i a b => e1 i (by omega) (by omega) (by unfold PR; omega))
  · rw [(hf2 19 (by unfold PR; decide)).1, h1, w2]
  · rw [w2] at hj
    exact absurd hj (Nat.not_lt_zero j)
  · rw [w2]
    exact ⟨Nat.zero_le _, fun j hj => absurd hj (Nat.not_lt_zero j)⟩
  · rw [s42]
    exact SHI_fr h.sh (((hf2 33 (by unfold PR; decide)).2.2).trans (hf1 33 (hn1 33 (by decide) (by decide))).2.2) (fun i hi => e1 i (by omega) (by omega) (by unfold PR; omega)) (e1 41 (by decide) (by decide) (by unfold PR; decide)) (fun i hi => ((hf2 i (by unfold PR; omega)).2.1).trans (hf1 i (hn1 i (by omega) (by omega))).2.1) (((hf2 43 (by unfold PR; decide)).2.1).trans (hf1 43 (hn1 43 (by decide) (by decide))).2.1)
/-! sheets -/
theorem WJ_m {t t' : Nat → Nat → Nat} {z z' : Nat → Option (Nat × Nat × Nat)} {rw rw' : List zC} {M M2 : zM} (h : WJ t z rw M) (hm : ∀ i, i ≤ 32 → M2.1 i = M.1 i) (hR : RI t' M2) (ht : ∀ c, c ≠ 42 → t' c = t c) (hsh : SHI rw' z' (t' 42) M2) (hfw : FW rw' M2) : WJ t' z' rw' M2 := by
  have s34 := ht 34 (by decide)
  have s35 := ht 35 (by decide)
  have s36 := ht 36 (by decide)
  have s38 := ht 38 (by decide)
  have s40 := ht 40 (by decide)
  refine ⟨hR, ?_, by rw [s35]; exact h.nb, by rw [s34, s35, s38]; exact h.ub, ⟨?_, ?_, fun q => ?_⟩, TI_st h.ti s36 (by rw [s34]) (by rw [hm 19 (by decide)]) (hm 20 (by decide)), by rw [s34, s36]; exact h.tb, hsh, fun m hm' => by rw [hm 31 (by decide)]; exact h.z31 m hm', hfw⟩
  · rw [s34, s35, s38]
    exact SI_cells h.si (fun i a b => hm i (by omega))
  · rw [hm 0 (by decide), s34]; exact h.im.1
  · rw [s34]; exact h.im.2.1
  · rw [s34] at q
    obtain ⟨a1, a2, a3⟩ := h.im.2.2 q
    refine ⟨?_, by rw [s40]; exact a2, by rw [s40, s34]; exact a3⟩
    unfold KI
    rw [s40, s34]
    exact SI_cells a1 (fun i a b => hm i (by omega))
theorem SHI_fil {rw : List zC} {z : Nat → Option (Nat × Nat × Nat)} {sz : Nat → Nat} {M : zM} {j r ri L a N : Nat} {f : Nat → Int64} (h : SHI rw z sz M) (hj : j < 4) (hz : z j = some (r, ri, L)) (ha : a + N ≤ sz j) : SHI rw z sz (fil (fil M ri a N f) 43 (24 * j + a) N f) := by
  obtain ⟨hC, hR, hV, hD⟩ := h
  refine ⟨SHC_fr hC rfl (fun _ _ => rfl), SHR_fr hR rfl, fun j' r' ri' L' hj' hz' k hk => ?_, hD⟩
  have b1 := ((hC j hj).2 r ri L hz).2.2.2.1
  have b2 := ((hC j' hj').2 r' ri' L' hz').2.2.2.1
  rw [fil_ne ri' (by omega), fil_at, fil_ne 43 (by omega)]
  by_cases e : j' = j
  · subst e
    rw [hz] at hz'
    cases hz'
    rw [fil_at]
    by_cases c : a ≤ k ∧ k < a + N
    · rw [if_pos c, if_pos (by omega), show 24 * j' + k - (24 * j' + a) = k - a by omega]
    · rw [if_neg c, if_neg (by omega)]
      exact hV j' r ri L hj' hz k hk
  · rw [fil_ne ri' (Ne.symm (hD j j' r ri L r' ri' L' hj hj' (Ne.symm e) hz hz')), if_neg (by omega)]
    exact hV j' r' ri' L' hj' hz' k hk
theorem WJ_fil {t : Nat → Nat → Nat} {z : Nat → Option (Nat × Nat × Nat)} {rw : List zC} {M : zM} {j r ri L a N : Nat} {f : Nat → Int64} (h : WJ t z rw M) (hj : j < 4) (hz : z j = some (r, ri, L)) (ha : a + N ≤ t 42 j) : WJ t z rw (fil (fil M ri a N f) 43 (24 * j + a) N f) := WJ_m h (fun _ _ => rfl) h.ri (fun _ _ => rfl) (SHI_fil h.sh hj hz ha) (FW_st h.fw rfl)
theorem WJ_film {t : Nat → Nat → Nat} {z : Nat → Option (Nat × Nat × Nat)} {rw : List zC} {M : zM} (h : WJ t z rw M) (x m k s w i : Int32) : WJ t z rw (mr_film (t 35) z (t 42) x m k s w i (mc_film (t 35) z (t 42) x m k s w i M)) := by
  unfold mr_film mc_film
  split
  · rename_i g
    rcases hz : z (tn s) with _ | ⟨r, ri, L⟩
    · exact h
    · dsimp only
      split
      · rename_i q
        obtain ⟨-, i0, k0, ik⟩ := rfz0 q
        exact WJ_fil h (by unfold tn; omega) hz (by unfold tn at *; omega)
      · exact h
  · exact h
theorem WJ_item {t : Nat → Nat → Nat} {z : Nat → Option (Nat × Nat × Nat)} {rw : List zC} {M : zM} (h : WJ t z rw M) (x w i : Int32) (v : Int64) : WJ t z rw (mr_item z (t 42) x w i v (mc_item z (t 42) x w i v M)) := by
  unfold mr_item mc_item
  split
  · rename_i g
    rcases hz : z (tn x) with _ | ⟨r, ri, L⟩
    · exact h
    · dsimp only
      split
      · rename_i q
        obtain ⟨-, i0, k0, ik⟩ := rfz0 q
        have e1 : (nI 1).toInt = 1 := by decide
        rw [e1] at ik
        exact WJ_fil h (by unfold tn; omega) hz (by unfold tn at *; omega)
      · exact h
  · exact h
