/-! the world between two calls -/
def SHI (rw : List zC) (z : Nat → Option (Nat × Nat × Nat)) (sz : Nat → Nat) (M : zM) : Prop := SHC (zSh ++ rw) z sz M ∧ SHR z sz M ∧ (∀ j r ri L, j < 4 → z j = some (r, ri, L) → ∀ k, k < sz j → M.2.1 ri k = M.2.1 43 (24 * j + k)) ∧ (∀ j j' r ri L r' ri' L', j < 4 → j' < 4 → j ≠ j' → z j = some (r, ri, L) → z j' = some (r', ri', L') → ri ≠ ri')
def FW (rw : List zC) (M : zM) : Prop := (∀ c ∈ rw, ∀ k n, c ≠ .inl (k + 2, n)) ∧ (∀ (i ci : Nat) (fl : List (Option (Option Nat))), (zSh ++ rw)[i]? = some (Sum.inr (ci, fl)) → ∀ (k j : Nat), fl[k]? = some (some (some j)) → j < (zSh ++ rw).length) ∧ (∀ x j, M.2.2 33 x = some j → j < (zSh ++ rw).length)
def zkd : zC → Nat
  | .inl (k, _) => k
  | .inr _ => 0
theorem zSh_kd : ∀ i, i < 45 → 2 ≤ (zSh[i]?.map zkd).getD 0 → i = 33 := by decide
theorem FW.zwf {rw : List zC} {M : zM} (h : FW rw M) : zwf (zSh ++ rw) M := by
  refine ⟨h.2.1, fun i k n hi x j hx => ?_⟩
  have h33 : i = 33 := by
    by_cases hl : i < 45
    · refine zSh_kd i hl ?_
      rw [List.getElem?_append_left (show i < zSh.length from hl)] at hi
      rw [hi]
      show 2 ≤ k + 2
      omega
    · rw [List.getElem?_append_right (show zSh.length ≤ i from Nat.le_of_not_lt hl)] at hi
      exact absurd rfl (h.1 _ (List.mem_of_getElem? hi) k n)
  subst h33
  exact h.2.2 x j hx
def IM (t : Nat → Nat → Nat) (M : zM) : Prop := M.1 0 2 = nI (t 34 11) ∧ t 34 11 ≤ 1 ∧ (t 34 11 = 1 → KI t M ∧ NB (t 40) ∧ UBn (t 40) (fun j => t 40 (89 + j)) (t 34 10))
def WJ (t : Nat → Nat → Nat) (z : Nat → Option (Nat × Nat × Nat)) (rw : List zC) (M : zM) : Prop := RI t M ∧ SI 1 (t 35) (t 38) (t 34 7) M ∧ NB (t 35) ∧ UBn (t 35) (t 38) (t 34 7) ∧ IM t M ∧ TI t M ∧ TB (t 36) (t 34 2) ∧ SHI rw z (t 42) M ∧ (∀ m, m < 4 → M.1 31 m = nI 0) ∧ FW rw M
def WI (rw : List zC) (M : zM) : Prop := ∃ t z, WJ t z rw M
section WJA
variable {t : Nat → Nat → Nat} {z : Nat → Option (Nat × Nat × Nat)} {rw : List zC} {M : zM}
theorem WJ.ri (h : WJ t z rw M) : RI t M := h.1
theorem WJ.si (h : WJ t z rw M) : SI 1 (t 35) (t 38) (t 34 7) M := h.2.1
theorem WJ.nb (h : WJ t z rw M) : NB (t 35) := h.2.2.1
theorem WJ.ub (h : WJ t z rw M) : UBn (t 35) (t 38) (t 34 7) := h.2.2.2.1
theorem WJ.im (h : WJ t z rw M) : IM t M := h.2.2.2.2.1
theorem WJ.ti (h : WJ t z rw M) : TI t M := h.2.2.2.2.2.1
theorem WJ.tb (h : WJ t z rw M) : TB (t 36) (t 34 2) := h.2.2.2.2.2.2.1
theorem WJ.sh (h : WJ t z rw M) : SHI rw z (t 42) M := h.2.2.2.2.2.2.2.1
theorem WJ.z31 (h : WJ t z rw M) : ∀ m, m < 4 → M.1 31 m = nI 0 := h.2.2.2.2.2.2.2.2.1
theorem WJ.fw (h : WJ t z rw M) : FW rw M := h.2.2.2.2.2.2.2.2.2
end WJA
/-! frames -/
theorem RI_fr {t : Nat → Nat → Nat} {P : Nat → Prop} {M M' : zM} (h : RI t M) (hf : zfr P M M') (hP : ∀ i, P i → i < 34) : RI t M' := fun c h1 h2 h3 => ((hf c (fun q => by have := hP c q; omega)).1).trans (h c h1 h2 h3)
theorem SI_cells {b : Nat} {n u : Nat → Nat} {kn : Nat} {M M' : zM} (h : SI b n u kn M) (e : ∀ i, b ≤ i → i ≤ b + 8 → M'.1 i = M.1 i) : SI b n u kn M' := by
  obtain ⟨h0, a2, a3, a4, a5, a9⟩ := h
  exact ⟨by rw [e b (by omega) (by omega)]; exact h0, by rw [e _ (by omega) (by omega)]; exact a2, by rw [e _ (by omega) (by omega)]; exact a3, by rw [e _ (by omega) (by omega)]; exact a4, by rw [e _ (by omega) (by omega), e _ (by omega) (by omega), e _ (by omega) (by omega), e _ (by omega) (by omega)]; exact a5, by rw [e _ (by omega) (by omega)]; exact a9⟩
theorem SI_pr {n u : Nat → Nat} {kn : Nat} {M M' : zM} (h : SI 1 n u kn M) (hf : zfr PR M M') : SI 1 n u kn M' := SI_cells h (fun i h1 h2 => (hf i (by unfold PR; omega)).1)
theorem SHC_fr {S : List zC} {z : Nat → Option (Nat × Nat × Nat)} {sz : Nat → Nat} {M M' : zM} (h : SHC S z sz M) (e33 : M'.2.2 33 = M.2.2 33) (e1 : ∀ i, 45 ≤ i → M'.1 i = M.1 i) : SHC S z sz M' := by
  intro j hj
  obtain ⟨h1, h2⟩ := h j hj
  refine ⟨fun q => by rw [e33]; exact h1 q, fun r ri L q => ?_⟩
  obtain ⟨a1, a2, a3, a4, a5⟩ := h2 r ri L q
  exact ⟨by rw [e33]; exact a1, a2, a3, a4, by rw [e1 r a4.1]; exact a5⟩
theorem SHR_fr {z : Nat → Option (Nat × Nat × Nat)} {sz : Nat → Nat} {M M' : zM} (h : SHR z sz M) (e : M'.1 41 = M.1 41) : SHR z sz M' := by
  intro j hj
  obtain ⟨h1, h2⟩ := h j hj
  exact ⟨fun q => by rw [e]; exact h1 q, fun r ri L q => by rw [e]; exact h2 r ri L q⟩
theorem SHI_fr {rw : List zC} {z : Nat → Option (Nat × Nat × Nat)} {sz : Nat → Nat} {M M' : zM} (h : SHI rw z sz M) (e33 : M'.2.2 33 = M.2.2 33) (e1 : ∀ i, 45 ≤ i → M'.1 i = M.1 i) (e41 : M'.1 41 = M.1 41) (e2 : ∀ i, 45 ≤ i → M'.2.1 i = M.2.1 i) (e43 : M'.2.1 43 = M.2.1 43) : SHI rw z sz M' := by
  refine ⟨SHC_fr h.1 e33 e1, SHR_fr h.2.1 e41, fun j r ri L hj q k hk => ?_, h.2.2.2⟩
  have h4 := ((h.1 j hj).2 r ri L q).2.2.2.1.2.1
  rw [e2 ri h4, e43]
  exact h.2.2.1 j r ri L hj q k hk
def PP : Nat → Prop := fun i => (1 ≤ i ∧ i ≤ 9) ∨ PR i ∨ (24 ≤ i ∧ i ≤ 32)
theorem IM_st {t t' : Nat → Nat → Nat} {M M' : zM} (h : IM t M) (hk : KP t t') (e0 : M'.1 0 = M.1 0) (e : ∀ i, 10 ≤ i → i ≤ 18 → M'.1 i = M.1 i) : IM t' M' := by
  obtain ⟨k36, k40, k42, k2, k10, k11⟩ := hk
  refine ⟨by rw [e0, k11]; exact h.1, by rw [k11]; exact h.2.1, fun q => ?_⟩
  rw [k11] at q
  obtain ⟨a1, a2, a3⟩ := h.2.2 q
  refine ⟨?_, by rw [k40]; exact a2, by rw [k40, k10]; exact a3⟩
  unfold KI
  rw [k40, k10]
  exact SI_cells a1 (fun i h1 h2 => e i h1 (by omega))
theorem TI_st {t t' : Nat → Nat → Nat} {M M' : zM} (h : TI t M) (k36 : t' 36 = t 36) (k2 : t' 34 2 = t 34 2) (e19 : M'.1 19 1 = M.1 19 1) (e20 : M'.1 20 = M.1 20) : TI t' M' := by
  unfold TI
  rw [k36, k2, e19, e20]
  exact h
theorem FW_st {rw : List zC} {M M' : zM} (h : FW rw M) (e : M'.2.2 33 = M.2.2 33) : FW rw M' := ⟨h.1, h.2.1, fun x j q => h.2.2 x j (by rw [← e]; exact q)⟩
/-- a call that wrote to the shop's numbers, or to what is found by trying -/
theorem WJ_step {t t' : Nat → Nat → Nat} {z : Nat → Option (Nat × Nat × Nat)} {rw : List zC} {M M2 : zM} (h : WJ t z rw M) (hR : RI t' M2) (hS : SI 1 (t' 35) (t' 38) (t' 34 7) M2) (hO : OK t t') (hf : zfr PP M M2) (h31 : ∀ m, m < 4 → M2.1 31 m = nI 0) : WJ t' z rw M2 := by
  obtain ⟨⟨o1, o2⟩, hk⟩ := hO
  have hk' := hk
  obtain ⟨k36, k40, k42, k2, k10, k11⟩ := hk'
  have e : ∀ i, ¬ PP i → M2.1 i = M.1 i := fun i hi => (hf i hi).1
  refine ⟨hR, hS, o1, o2, IM_st h.im hk (e 0 (by unfold PP PR; omega)) (fun i h1 h2 => e i (by unfold PP PR; omega)), TI_st h.ti k36 k2 (by rw [e 19 (by unfold PP PR; omega)]) (e 20 (by unfold PP PR; omega)), by rw [k36, k2]; exact h.tb, ?_, h31, FW_st h.fw (hf 33 (by unfold PP PR; omega)).2.2⟩
  rw [k42]
  exact SHI_fr h.sh (hf 33 (by unfold PP PR; omega)).2.2 (fun i hi => e i (by unfold PP PR; omega)) (e 41 (by unfold PP PR; omega)) (fun i hi => (hf i (by unfold PP PR; omega)).2.1) (hf 43 (by unfold PP PR; omega)).2.1
/-- a class call within the shop, then the reference's -/
theorem WJ_w {t t' : Nat → Nat → Nat} {z : Nat → Option (Nat × Nat × Nat)} {rw : List zC} {M M1 M2 : zM} {P : Nat → Prop} (h : WJ t z rw M) (hP : ∀ i, P i → 1 ≤ i ∧ i ≤ 9) (hS : SI 1 (t' 35) (t' 38) (t' 34 7) M1) (hf1 : zfr P M M1) (hR : RI t' M2) (hf2 : zfr PR M1 M2) (hO : OK t t') : WJ t' z rw M2 := by
  refine WJ_step h hR (SI_pr hS hf2) hO ((hf1.wk (fun i q => Or.inl (hP i q))).trans (hf2.wk (fun i q => Or.inr (Or.inl q)))) (fun m hm => ?_)
  rw [(hf2 31 (by unfold PR; omega)).1, (hf1 31 (fun q => by have := hP 31 q; omega)).1]
  exact h.z31 m hm
/-- a class call that only tried; the reference changed nothing, or its own trying row -/
theorem WJ_f {t : Nat → Nat → Nat} {z : Nat → Option (Nat × Nat × Nat)} {rw : List zC} {M M1 : zM} {P : Nat → Prop} (h : WJ t z rw M) (hP : ∀ i, P i → 24 ≤ i ∧ i ≤ 32) (hf1 : zfr P M M1) (h31 : ∀ m, m < 4 → M1.1 31 m = nI 0) : WJ t z rw M1 := WJ_step h (RI_fr h.ri hf1 (fun i q => by have := hP i q; omega)) (SI_cells h.si (fun i h1 h2 => (hf1 i (fun q => by have := hP i q; omega)).1)) (OK_id h.nb h.ub) (hf1.wk (fun i q => Or.inr (Or.inr (hP i q)))) h31
theorem WJ_T {t T : Nat → Nat → Nat} {z : Nat → Option (Nat × Nat × Nat)} {rw : List zC} {M M2 : zM} (h : WJ t z rw M) (hR : RI T M2) (hT : ∀ c, c ≠ 39 → T c = t c) (hf : zfr PR M M2) : WJ T z rw M2 := by
  have e35 := hT 35 (by decide)
  have e38 := hT 38 (by decide)
  have e34 := hT 34 (by decide)
  refine WJ_step h hR ?_ ⟨⟨by rw [e35]; exact h.nb, by rw [e35, e38, e34]; exact h.ub⟩, hT 36 (by decide), hT 40 (by decide), hT 42 (by decide), by rw [e34], by rw [e34], by rw [e34]⟩ (hf.wk (fun i q => Or.inr (Or.inl q))) (fun m hm => by rw [(hf 31 (by unfold PR; omega)).1]; exact h.z31 m hm)
  rw [e35, e38, e34]
  exact SI_pr h.si hf
/-- the image -/
theorem WJ_image {t : Nat → Nat → Nat} {z : Nat → Option (Nat × Nat × Nat)} {rw : List zC} {M M1 M2 : zM} (h : WJ t z rw M) (hK : KI (st_image t) M1) (h02 : M1.1 0 2 = nI 1) (hf1 : zfr (fun i => i = 0 ∨ PT 10 i) M M1) (hR : RI (st_image t) M2) (hf2 : zfr PR M1 M2) : WJ (st_image t) z rw M2 := by
  have e1 : ∀ i, i ≠ 0 → ¬ (10 ≤ i ∧ i ≤ 18) → ¬ PR i → M2.1 i = M.1 i := fun i a b c => ((hf2 i c).1).trans (hf1 i (fun q => q.elim a b)).1
  have s35 : st_image t 35 = t 35 := rfl
  have s38 : st_image t 38 = t 38 := rfl
  have s7 : st_image t 34 7 = t 34 7 := rfl
  refine ⟨hR, ?_, by rw [s35]; exact h.nb, by rw [s35, s38, s7]; exact h.ub, ⟨?_, ?_, fun _ => ⟨?_, ?_, ?_⟩⟩, TI_st h.ti rfl rfl (by rw [e1 19 (by decide) (by decide) (by unfold PR; decide)]) (e1 20 (by decide) (by decide) (by unfold PR; decide)), h.tb, ?_, fun m hm => by rw [e1 31 (by decide) (by decide) (by unfold PR; decide)]; exact h.z31 m hm, FW_st h.fw (((hf2 33 (by unfold PR; decide)).2.2).trans (hf1 33 (fun q => q.elim (by decide) (by unfold PT; decide))).2.2)⟩
  · rw [s35, s38, s7]
    exact SI_cells h.si (fun i a b => e1 i (by omega) (by omega) (by unfold PR; omega))
  · rw [(hf2 0 (by unfold PR; decide)).1]; exact h02
  · exact Nat.le_refl 1
  · exact SI_cells hK (fun i a b => (hf2 i (by unfold PR; omega)).1)
  · exact NB_cong h.nb (fun j hj => si_40 hj)
  · have := UBn_cong (n' := st_image t 40) (u' := fun j => st_image t 40 (89 + j)) h.nb h.ub (fun j hj => si_40 hj) (fun j hj => si_u hj)
    rw [si_k]
    exact this
  · have s42 : st_image t 42 = t 42 := rfl
    rw [s42]
    exact SHI_fr h.sh (((hf2 33 (by unfold PR; decide)).2.2).trans (hf1 33 (fun q => q.elim (by decide) (by unfold PT; decide))).2.2) (fun i hi => e1 i (by omega) (by omega) (by unfold PR; omega)) (e1 41 (by decide) (by decide) (by unfold PR; decide)) (fun i hi => ((hf2 i (by unfold PR; omega)).2.1).trans (hf1 i (fun q => q.elim (by omega) (by unfold PT; omega))).2.1) (((hf2 43 (by unfold PR; decide)).2.1).trans (hf1 43 (fun q => q.elim (by decide) (by unfold PT; decide))).2.1)
/-- a letter -/
theorem WJ_type {t : Nat → Nat → Nat} {z : Nat → Option (Nat × Nat × Nat)} {rw : List zC} {M M1 M2 : zM} {x : Int32} (h : WJ t z rw M) (hT : TI (st_type t x) M1) (hf1 : zfr (fun i => i = 19 ∨ i = 20) M M1) (hR : RI (st_type t x) M2) (hf2 : zfr PR M1 M2) : WJ (st_type t x) z rw M2 := by
  have e1 : ∀ i, i ≠ 19 → i ≠ 20 → ¬ PR i → M2.1 i = M.1 i := fun i a b c => ((hf2 i c).1).trans (hf1 i (fun q => q.elim a b)).1
  have hs : st_type t x 35 = t 35 ∧ st_type t x 38 = t 38 ∧ st_type t x 34 7 = t 34 7 ∧ st_type t x 40 = t 40 ∧ st_type t x 42 = t 42 ∧ st_type t x 34 10 = t 34 10 ∧ st_type t x 34 11 = t 34 11 := by
    unfold st_type
    split
    · split
      · exact ⟨rfl, rfl, rfl, rfl, rfl, rfl, rfl⟩
      · exact ⟨rfl, rfl, rfl, rfl, rfl, rfl, rfl⟩
    · exact ⟨rfl, rfl, rfl, rfl, rfl, rfl, rfl⟩
  have hB : TB (st_type t x 36) (st_type t x 34 2) := by
    unfold st_type
    split
    · split
      · exact h.tb
      · rename_i hx h130
        have hb := h.tb
        have e2 : nty t (tn x) 34 2 = t 34 2 + 1 := by unfold nty; rw [ts_at]
        rw [e2]
        refine ⟨by have := hb.1; omega, fun j hj => ?_⟩
        have e3 : nty t (tn x) 36 = ts t 36 (t 34 2) (tn x) 36 := by unfold nty; rw [ts_nc (by decide)]
        rw [e3]
        by_cases g : j = t 34 2
        · subst g; rw [ts_at]; unfold tn; omega
        · rw [ts_nk g]; exact hb.2 j (by omega)
    · exact h.tb
  obtain ⟨s35, s38, s7, s40, s42, s10, s11⟩ := hs
  refine ⟨hR, ?_, by rw [s35]; exact h.nb, by rw [s35, s38, s7]; exact h.ub, ⟨?_, ?_, fun q => ?_⟩, ?_, hB, ?_, fun m hm => by rw [e1 31 (by decide) (by decide) (by unfold PR; decide)]; exact h.z31 m hm, FW_st h.fw (((hf2 33 (by unfold PR; decide)).2.2).trans (hf1 33 (by decide)).2.2)⟩
  · rw [s35, s38, s7]
    exact SI_cells h.si (fun i a b => e1 i (by omega) (by omega) (by unfold PR; omega))
  · rw [e1 0 (by decide) (by decide) (by unfold PR; decide), s11]; exact h.im.1
  · rw [s11]; exact h.im.2.1
  · rw [s11] at q
    obtain ⟨a1, a2, a3⟩ := h.im.2.2 q
    refine ⟨?_, by rw [s40]; exact a2, by rw [s40, s10]; exact a3⟩
    unfold KI
    rw [s40, s10]
    exact SI_cells a1 (fun i a b => e1 i (by omega) (by omega) (by unfold PR; omega))
  · exact TI_st hT rfl rfl (by rw [(hf2 19 (by unfold PR; decide)).1]) (hf2 20 (by unfold PR; decide)).1
  · rw [s42]
    exact SHI_fr h.sh (((hf2 33 (by unfold PR; decide)).2.2).trans (hf1 33 (by decide)).2.2) (fun i hi => e1 i (by omega) (by omega) (by unfold PR; omega)) (e1 41 (by decide) (by decide) (by unfold PR; decide)) (fun i hi => ((hf2 i (by unfold PR; omega)).2.1).trans (hf1 i (by omega)).2.1) (((hf2 43 (by unfold PR; decide)).2.1).trans (hf1 43 (by decide)).2.1)
