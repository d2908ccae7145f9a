/-- what a wardrobe leaves of the reference's numbers -/
def WP (t t' : Nat → Nat → Nat) : Prop := t' 34 2 = 0 ∧ t' 34 7 = w7 t ∧ t' 35 = w35 t ∧ (∀ c, c ≠ 34 → c ≠ 35 → c ≠ 37 → t' c = t c) ∧ (∀ k, 8 ≤ k → t' 34 k = t 34 k)
def pz (t : Nat → Nat → Nat) (k : Nat) : Nat → Nat → Nat := fun c j => if c = 35 then (if 8 ≤ j ∧ j < 8 + k then t 37 (j - 8) else t 35 j) else t c j
theorem pz_0 (t : Nat → Nat → Nat) : pz t 0 = t := by
  funext c j
  unfold pz
  by_cases h : c = 35
  · subst h
    rw [if_pos rfl, if_neg (by omega)]
  · rw [if_neg h]
theorem pz_s {t : Nat → Nat → Nat} {k : Nat} : ts (pz t k) 35 (8 + k) (t 37 k) = pz t (k + 1) := by
  funext c j
  unfold ts pz
  by_cases h : c = 35
  · subst h
    rw [if_pos rfl, if_pos rfl, if_pos rfl]
    by_cases h2 : j = 8 + k
    · subst h2
      rw [if_pos rfl, if_pos (by omega), show 8 + k - 8 = k by omega]
    · rw [if_neg h2]
      by_cases h3 : 8 ≤ j ∧ j < 8 + k
      · rw [if_pos h3, if_pos (by omega)]
      · rw [if_neg h3, if_neg (by omega)]
  · rw [if_neg h, if_neg h, if_neg h]
def wfin (t : Nat → Nat → Nat) (fd n m : Nat) : Nat → Nat → Nat := ts (ts (ts (ts (ts (ts (ts (pz t 41) 35 0 n) 35 1 m) 35 2 0) 35 3 0) 35 4 fd) 35 6 0) 34 7 0
theorem WP_ok {t : Nat → Nat → Nat} {p q : Nat} {rd : Nat → Nat} (h0 : wE t = 0) (hr : rd = (wB t).2.2) : WP t (wfin (ts (pt t p q rd) 34 2 0) (nv (t 36) (t 34 2) 0) (wA t).2.1 (wB t).2.1) := by
  refine ⟨rfl, ?_, ?_, ?_, ?_⟩
  · unfold w7
    rw [if_pos h0]
    rfl
  · funext j
    unfold wfin w35
    rw [if_pos h0, ts_nc (by decide)]
    by_cases h6 : j = 6
    · subst h6; rfl
    rw [ts_nk h6]
    by_cases h4 : j = 4
    · subst h4; rfl
    rw [ts_nk h4]
    by_cases h3 : j = 3
    · subst h3; rfl
    rw [ts_nk h3]
    by_cases h2 : j = 2
    · subst h2; rfl
    rw [ts_nk h2]
    by_cases h1 : j = 1
    · subst h1; rfl
    rw [ts_nk h1]
    by_cases hj0 : j = 0
    · subst hj0; rfl
    rw [ts_nk hj0]
    show (if _ then _ else _) = _
    rw [if_pos rfl]
    by_cases h8 : 8 ≤ j ∧ j < 8 + 41
    · rw [if_pos h8, if_pos (by omega), hr.symm]
      rfl
    · rw [if_neg h8, if_neg (by omega), if_neg hj0, if_neg h1, if_neg h4, if_neg (by omega)]
      rfl
  · intro c h34 h35 h37
    unfold wfin
    rw [ts_nc h34, ts_nc h35, ts_nc h35, ts_nc h35, ts_nc h35, ts_nc h35, ts_nc h35]
    funext j
    show (if _ then _ else _) = _
    rw [if_neg h35, ts_nc h34]
    show (if _ then _ else _) = _
    rw [if_neg h34, if_neg h37]
  · intro k hk
    unfold wfin
    rw [ts_nk (by omega), ts_nc (by decide), ts_nc (by decide), ts_nc (by decide), ts_nc (by decide), ts_nc (by decide), ts_nc (by decide)]
    show (if _ then _ else _) = _
    rw [if_neg (by decide), ts_nk (by omega)]
    show (if _ then _ else _) = _
    rw [if_pos rfl, if_neg (by omega), if_neg (by omega)]
theorem WP_no {t : Nat → Nat → Nat} {p q : Nat} {rd : Nat → Nat} (h0 : ¬ wE t = 0) : WP t (ts (pt t p q rd) 34 2 0) := by
  refine ⟨rfl, ?_, ?_, ?_, ?_⟩
  · unfold w7
    rw [if_neg h0]
    rfl
  · funext j
    unfold w35
    rw [if_neg h0]
    rfl
  · intro c h34 h35 h37
    rw [ts_nc h34]
    funext j
    show (if _ then _ else _) = _
    rw [if_neg h34, if_neg h37]
  · intro k hk
    rw [ts_nk (by omega)]
    show (if _ then _ else _) = _
    rw [if_pos rfl, if_neg (by omega), if_neg (by omega)]
theorem rx_k {f : Nat → Nat} {L : Nat} {s : Nat × Nat} (h : SK L s) : SK L (rx f L s) := by
  unfold rx
  split
  · have h1 := wh_b (f := f) h.1
    refine ⟨h1.2.1, ?_⟩
    show (if _ then wh f L s.1 + 1 else 0) ≤ L + 1
    split
    · exact Nat.succ_le_succ h1.2.1
    · exact Nat.zero_le _
  · exact h
/-- the fault, as the reference finds it -/
theorem wE_f {t : Nat → Nat → Nat} (h : (rx (t 36) (t 34 2) (wA t).1).2 ≠ 0) : wE t = (rx (t 36) (t 34 2) (wA t).1).2 := by
  have hk := wzA_k (f := t 36) (L := t 34 2) (g := t 37)
  by_cases h0 : (wA t).1.2 = 0
  · have hs : (wA t).1 = ((wA t).1.1, 0) := Prod.ext rfl h0
    by_cases h4 : wh (t 36) (t 34 2) (wA t).1.1 < t 34 2 ∧ t 36 (wh (t 36) (t 34 2) (wA t).1.1) = 44
    · rw [hs, rx_t h4]
      have hb : wB t = sl (t 36) (t 34 2) 4 0 (ex (t 36) (t 34 2) 59 (wA t).1) (wA t).2.2 := if_pos ⟨h0, h4.1⟩
      have he : ex (t 36) (t 34 2) 59 (wA t).1 = (wh (t 36) (t 34 2) (wA t).1.1, wh (t 36) (t 34 2) (wA t).1.1 + 1) := by
        rw [hs]
        exact (ex_n (fun q => absurd (q.2.symm.trans h4.2) (by decide))).trans (by rw [fa_0])
      have hb2 : (wB t).1 = (wh (t 36) (t 34 2) (wA t).1.1, wh (t 36) (t 34 2) (wA t).1.1 + 1) := by
        rw [hb, he, sl_e (by simp)]
      unfold wE wzE
      rw [hb2, if_neg (by simp)]
    · rw [hs, rx_n h4] at h
      exact absurd rfl h
  · rw [rx_1 h0]
    have hb : wB t = ((wA t).1, 0, (wA t).2.2) := if_neg (fun q => h0 q.1)
    unfold wE wzE
    rw [hb, if_neg (fun q => h0 q.1)]
section WEL
variable {t : Nat → Nat → Nat}
theorem rxA0 (h0 : (rx (t 36) (t 34 2) (wA t).1).2 = 0) : (wA t).1.2 = 0 ∧ (rx (t 36) (t 34 2) (wA t).1).1 = (wh (t 36) (t 34 2) (wA t).1.1) ∧ ¬ ((wh (t 36) (t 34 2) (wA t).1.1) < (t 34 2) ∧ t 36 (wh (t 36) (t 34 2) (wA t).1.1) = 44) := by
  by_cases h : (wA t).1.2 = 0
  · have hs : (wA t).1 = ((wA t).1.1, 0) := Prod.ext rfl h
    by_cases h4 : (wh (t 36) (t 34 2) (wA t).1.1) < (t 34 2) ∧ t 36 (wh (t 36) (t 34 2) (wA t).1.1) = 44
    · rw [hs, rx_t h4] at h0
      exact absurd h0 (Nat.succ_ne_zero _)
    · refine ⟨h, ?_, h4⟩
      rw [hs, rx_n h4]
  · rw [rx_1 h] at h0
    exact absurd h0 h
theorem rxAw (h0 : (rx (t 36) (t 34 2) (wA t).1).2 = 0) : wh (t 36) (t 34 2) (rx (t 36) (t 34 2) (wA t).1).1 = (wh (t 36) (t 34 2) (wA t).1.1) := by
  rw [(rxA0 h0).2.1]
  exact wh_wh (wzA_k (f := t 36) (L := t 34 2) (g := t 37)).1
/-- nothing more, or another letter than ';' -/
theorem wE_n (h0 : (rx (t 36) (t 34 2) (wA t).1).2 = 0) (h59 : ¬ (wh (t 36) (t 34 2) (rx (t 36) (t 34 2) (wA t).1).1 < (t 34 2) ∧ t 36 (wh (t 36) (t 34 2) (rx (t 36) (t 34 2) (wA t).1).1) = 59)) : wE t = wzE (t 36) (t 34 2) (wh (t 36) (t 34 2) (rx (t 36) (t 34 2) (wA t).1).1, 0) := by
  obtain ⟨a0, a1, a4⟩ := rxA0 h0
  have hw := rxAw h0
  have hww := wh_wh (f := t 36) (wzA_k (f := t 36) (L := t 34 2) (g := t 37)).1
  rw [hw] at h59 ⊢
  have hs : (wA t).1 = ((wA t).1.1, 0) := Prod.ext rfl a0
  have hww : wh (t 36) (t 34 2) (wh (t 36) (t 34 2) (wA t).1.1) = (wh (t 36) (t 34 2) (wA t).1.1) := hww
  have hE2 : wzE (t 36) (t 34 2) ((wh (t 36) (t 34 2) (wA t).1.1), 0) = if (wh (t 36) (t 34 2) (wA t).1.1) < (t 34 2) then (wh (t 36) (t 34 2) (wA t).1.1) + 1 else 0 := by
    unfold wzE
    dsimp only
    rw [hww]
    by_cases h : (wh (t 36) (t 34 2) (wA t).1.1) < (t 34 2)
    · rw [if_pos ⟨rfl, h⟩, if_pos h]
    · rw [if_neg (fun q => h q.2), if_neg h]
  rw [hE2]
  by_cases h : (wh (t 36) (t 34 2) (wA t).1.1) < (t 34 2)
  · rw [if_pos h]
    have hb : wB t = sl (t 36) (t 34 2) 4 0 (ex (t 36) (t 34 2) 59 (wA t).1) (wA t).2.2 := if_pos ⟨a0, h⟩
    have he : ex (t 36) (t 34 2) 59 (wA t).1 = ((wh (t 36) (t 34 2) (wA t).1.1), (wh (t 36) (t 34 2) (wA t).1.1) + 1) := by
      rw [hs]
      exact (ex_n h59).trans (by rw [fa_0])
    have hb2 : (wB t).1 = ((wh (t 36) (t 34 2) (wA t).1.1), (wh (t 36) (t 34 2) (wA t).1.1) + 1) := by rw [hb, he, sl_e (by simp)]
    unfold wE wzE
    rw [hb2, if_neg (by simp)]
  · rw [if_neg h]
    have hb : wB t = ((wA t).1, 0, (wA t).2.2) := if_neg (fun q => h q.2)
    unfold wE wzE
    rw [hb, if_neg (fun q => h q.2)]
    exact a0
theorem wB_n (h0 : (rx (t 36) (t 34 2) (wA t).1).2 = 0) (h59 : ¬ (wh (t 36) (t 34 2) (rx (t 36) (t 34 2) (wA t).1).1 < (t 34 2) ∧ t 36 (wh (t 36) (t 34 2) (rx (t 36) (t 34 2) (wA t).1).1) = 59)) (hE : wE t = 0) : wB t = ((wA t).1, 0, (wA t).2.2) := by
  have hw := rxAw h0
  rw [wE_n h0 h59, hw] at hE
  have hww : wh (t 36) (t 34 2) (wh (t 36) (t 34 2) (wA t).1.1) = (wh (t 36) (t 34 2) (wA t).1.1) := wh_wh (f := t 36) (wzA_k (f := t 36) (L := t 34 2) (g := t 37)).1
  unfold wzE at hE
  dsimp only at hE
  rw [hww] at hE
  by_cases h : (wh (t 36) (t 34 2) (wA t).1.1) < (t 34 2)
  · rw [if_pos ⟨rfl, h⟩] at hE
    exact absurd hE (Nat.succ_ne_zero _)
  · exact if_neg (fun q => h q.2)
/-- ';' follows -/
theorem wA_s (h0 : (rx (t 36) (t 34 2) (wA t).1).2 = 0) (h59 : wh (t 36) (t 34 2) (rx (t 36) (t 34 2) (wA t).1).1 < (t 34 2) ∧ t 36 (wh (t 36) (t 34 2) (rx (t 36) (t 34 2) (wA t).1).1) = 59) : wB t = sl (t 36) (t 34 2) 4 0 (wh (t 36) (t 34 2) (rx (t 36) (t 34 2) (wA t).1).1 + 1, 0) (wA t).2.2 ∧ True := by
  obtain ⟨a0, a1, a4⟩ := rxA0 h0
  have hw := rxAw h0
  rw [hw] at h59 ⊢
  have hs : (wA t).1 = ((wA t).1.1, 0) := Prod.ext rfl a0
  have he : ex (t 36) (t 34 2) 59 (wA t).1 = ((wh (t 36) (t 34 2) (wA t).1.1) + 1, 0) := by
    rw [hs]
    exact ex_t h59
  refine ⟨?_, trivial⟩
  rw [← he]
  exact if_pos ⟨a0, h59.1⟩
theorem wE_rx {s : Nat × Nat} (hk : SK (t 34 2) s) : wzE (t 36) (t 34 2) s = wzE (t 36) (t 34 2) (rx (t 36) (t 34 2) s) := by
  by_cases h : s.2 = 0
  · have hs : s = (s.1, 0) := Prod.ext rfl h
    have hww : wh (t 36) (t 34 2) (wh (t 36) (t 34 2) s.1) = wh (t 36) (t 34 2) s.1 := wh_wh hk.1
    by_cases h4 : wh (t 36) (t 34 2) s.1 < (t 34 2) ∧ t 36 (wh (t 36) (t 34 2) s.1) = 44
    · rw [hs, rx_t h4]
      unfold wzE
      dsimp only
      rw [if_pos ⟨rfl, h4.1⟩, if_neg (by simp)]
    · rw [hs, rx_n h4]
      unfold wzE
      dsimp only
      rw [hww]
  · rw [rx_1 h]
theorem wE_s (h0 : (rx (t 36) (t 34 2) (wA t).1).2 = 0) (h59 : wh (t 36) (t 34 2) (rx (t 36) (t 34 2) (wA t).1).1 < (t 34 2) ∧ t 36 (wh (t 36) (t 34 2) (rx (t 36) (t 34 2) (wA t).1).1) = 59) : wE t = wzE (t 36) (t 34 2) (rx (t 36) (t 34 2) (wB t).1) := wE_rx (wzB_k wzA_k)
theorem wE_0 (h0 : (rx (t 36) (t 34 2) (wA t).1).2 = 0) (h59 : wh (t 36) (t 34 2) (rx (t 36) (t 34 2) (wA t).1).1 < (t 34 2) ∧ t 36 (wh (t 36) (t 34 2) (rx (t 36) (t 34 2) (wA t).1).1) = 59) (hE : wE t = 0) : (rx (t 36) (t 34 2) (wB t).1).2 = 0 := by
  rw [wE_s h0 h59] at hE
  exact wzE_0 hE
end WEL
set_option maxHeartbeats 4000000 in
set_option maxRecDepth 100000 in
theorem c5p_wardrobe (l : Launch) {rw : List zC} {M0 : zM} {t : Nat → Nat → Nat} (hR : RI t M0) (hB : TB (t 36) (t 34 2)) : CT l false 4 0 0 yX5_wardrobe cX5_wardrobe 5 (some .int) [.ref 34] (zSh ++ rw) M0 (zG (zSh ++ rw) (fun v9 M9 => v9 = some (.int (sp_wardrobe t)) ∧ ∃ t9 : Nat → Nat → Nat, WP t t9 ∧ RI t9 M9 ∧ zfr PR M0 M9)) := by
  refine CT.ofN (by decide) (fun _ _ => Nat.le_of_ble_eq_true rfl) ?_
  have hF : zfr PR M0 M0 := zfr.rf
  have hL := hB.1
  have hs1 : SK (t 34 2) (nu (t 36) (t 34 2) 1 30 (0, 0)) := nu_k ⟨Nat.zero_le _, Nat.zero_le _⟩
  have r81 : ∀ (M : zM) (S9 : Nat × Nat) (r1 : Nat → Nat) (n2 n3 : Nat) (hR : RI (pt t (cvp S9) (cvq S9) r1) M) (hF : zfr PR M0 M) (hs9 : S9.1 ≤ (t 34 2)) (hE : wE t = wzE (t 36) (t 34 2) S9) (hn : wE t = 0 → n2 = (wA t).2.1 ∧ n3 = (wB t).2.1 ∧ r1 = (wB t).2.2), RA l none (zR 4 0 0) yX5_wardrobe cX5_wardrobe 5 (some .int) (zG (zSh ++ rw) (fun v9 M9 => v9 = some (.int (sp_wardrobe t)) ∧ ∃ t9 : Nat → Nat → Nat, WP t t9 ∧ RI t9 M9 ∧ zfr PR M0 M9)) 0 0 81 [some (.ref 34), some (.int (nI (nv (t 36) (t 34 2) 0))), some (.int (nI n2)), some (.int (nI n3)), none] [] (zSh ++ rw) M := by
    intro M S9 r1 n2 n3 hR hF hs9 hE hn
    by_cases h0 : S9.2 = 0
    · have hR : RI (pt t S9.1 0 r1) M := by rw [cvp_0 h0, cvq_0 h0] at hR; exact hR
      refine r_aload_n dX5_wardrobe_81 rfl rfl ?_
      refine r_aload_n dX5_wardrobe_82 rfl rfl ?_
      refine r_getV fl_X5_142 dX5_wardrobe_83 sh_34 rfl hR.p4 ?_
      refine r_if_neN (x := 0) (tgt := 96) dX5_wardrobe_86 (by decide) (by decide) (fun q9 => absurd q9 (by decide)) (fun _ => ?_)
      refine r_aload_n dX5_wardrobe_89 rfl rfl ?_
      refine r_cV0G mv_X5_here ml_X5_146 (c5_here l hR hB hs9) dX5_wardrobe_90 (Nat.le_of_ble_eq_true rfl) ⟨by decide, by decide⟩ ⟨by decide, by decide⟩ sh_34 rfl (fun _ h => nomatch h) (fun v M1 hq => ?_)
      obtain ⟨rfl, hR, hF1⟩ := hq
      have hF := hF.trans hF1
      dsimp only [zrst, List.cons_append, List.nil_append]
      have hl9 := ltr_le (a := wh (t 36) (t 34 2) S9.1) hB
      first | refine r_if_eqB (tgt := 100) dX5_wardrobe_93 (by decide) (fun c1 => ?_) (fun c1 => ?_) | refine r_if_eqN (tgt := 100) dX5_wardrobe_93 (by decide) (by omega) (fun c1 => ?_) (fun c1 => ?_) | refine r_if_eq (tgt := 100) dX5_wardrobe_93 (by decide) (fun c1 => ?_) (fun c1 => ?_)
      · have g2 := (ltr_0 hB).mp c1
        have hE0 : wE t = 0 := by rw [hE]; unfold wzE; rw [if_neg (fun q => g2 q.2)]; exact h0
        refine r_iconst (v := nI 0) dX5_wardrobe_100 rfl ?_
        refine r_P4 (v := 0) hR (by decide) fl_X5_142 dX5_wardrobe_101 sh_34 rfl (fun M hR hF1 => ?_)
        have hF := hF.trans hF1
        refine r_aload_n dX5_wardrobe_104 rfl rfl ?_
        refine r_iconst (v := nI 0) dX5_wardrobe_105 rfl ?_
        refine r_Rput fl_X5_136 dX5_wardrobe_106 rfl rfl sh_34 rfl hR (fun M hR hF1 => ?_)
        have hF := hF.trans hF1
        refine r_aload_n dX5_wardrobe_109 rfl rfl ?_
        refine r_getV fl_X5_142 dX5_wardrobe_110 sh_34 rfl (show _ = nI 0 from hR.a34 4) ?_
        refine r_if_eqN (x := 0) (tgt := 124) dX5_wardrobe_113 (by decide) (by decide) (fun _ => ?_) (fun q9 => absurd q9 (by decide))
        refine r_iconst (v := nI 0) dX5_wardrobe_124 rfl ?_
        refine r_istore dX5_wardrobe_125 rfl (by decide) ?_
        obtain ⟨p1, hp1⟩ : ∃ p1, p1 = wh (t 36) (t 34 2) S9.1 := ⟨_, rfl⟩
        rw [← hp1] at hR
        have loop : ∀ (j k : Nat) (M : zM) (hR : RI (pz (ts (pt t p1 0 r1) 34 2 0) k) M) (hF : zfr PR M0 M), k ≤ 41 → 41 < k + j → RA l none (zR 4 0 0) yX5_wardrobe cX5_wardrobe 5 (some .int) (zG (zSh ++ rw) (fun v9 M9 => v9 = some (.int (sp_wardrobe t)) ∧ ∃ t9 : Nat → Nat → Nat, WP t t9 ∧ RI t9 M9 ∧ zfr PR M0 M9)) 0 0 127 [some (.ref 34), some (.int (nI (nv (t 36) (t 34 2) 0))), some (.int (nI n2)), some (.int (nI n3)), some (.int (nI k))] [] (zSh ++ rw) M := by
          intro j
          induction j with
          | zero => intro k M hR hF hk hj; exact absurd hj (by omega)
          | succ j ih =>
            intro k M hR hF hk hj
            refine r_iload dX5_wardrobe_127 rfl ?_
            refine r_bipush (v := nI 41) dX5_wardrobe_129 rfl ?_
            first | refine r_icmp_geN (tgt := 157) dX5_wardrobe_131 (by decide) (by omega) (by omega) (fun c1 => ?_) (fun c1 => ?_) | refine r_icmp_ge (tgt := 157) dX5_wardrobe_131 (by decide) (fun c1 => ?_) (fun c1 => ?_)
            · have e41 : k = 41 := by omega
              subst e41
              refine r_aload_n dX5_wardrobe_157 rfl rfl ?_
              refine r_getR fl_X5_7 dX5_wardrobe_158 sh_34 rfl ?_
              refine r_iconst (v := nI 0) dX5_wardrobe_161 rfl ?_
              refine r_iload_n dX5_wardrobe_162 rfl rfl ?_
              refine r_Rast dX5_wardrobe_163 sh_35 (by decide) (by decide) hR (by decide) (fun M hR hF1 => ?_)
              have hF := hF.trans hF1
              refine r_aload_n dX5_wardrobe_164 rfl rfl ?_
              refine r_getR fl_X5_7 dX5_wardrobe_165 sh_34 rfl ?_
              refine r_iconst (v := nI 1) dX5_wardrobe_168 rfl ?_
              refine r_iload_n dX5_wardrobe_169 rfl rfl ?_
              refine r_Rast dX5_wardrobe_170 sh_35 (by decide) (by decide) hR (by decide) (fun M hR hF1 => ?_)
              have hF := hF.trans hF1
              refine r_aload_n dX5_wardrobe_171 rfl rfl ?_
              refine r_getR fl_X5_7 dX5_wardrobe_172 sh_34 rfl ?_
              refine r_iconst (v := nI 2) dX5_wardrobe_175 rfl ?_
              refine r_iconst (v := nI 0) dX5_wardrobe_176 rfl ?_
              refine r_Rast dX5_wardrobe_177 sh_35 (by decide) (by decide) hR (by decide) (fun M hR hF1 => ?_)
              have hF := hF.trans hF1
              refine r_aload_n dX5_wardrobe_178 rfl rfl ?_
              refine r_getR fl_X5_7 dX5_wardrobe_179 sh_34 rfl ?_
              refine r_iconst (v := nI 3) dX5_wardrobe_182 rfl ?_
              refine r_iconst (v := nI 0) dX5_wardrobe_183 rfl ?_
              refine r_Rast dX5_wardrobe_184 sh_35 (by decide) (by decide) hR (by decide) (fun M hR hF1 => ?_)
              have hF := hF.trans hF1
              refine r_aload_n dX5_wardrobe_185 rfl rfl ?_
              refine r_getR fl_X5_7 dX5_wardrobe_186 sh_34 rfl ?_
              refine r_iconst (v := nI 4) dX5_wardrobe_189 rfl ?_
              refine r_iload_n dX5_wardrobe_190 rfl rfl ?_
              refine r_Rast dX5_wardrobe_191 sh_35 (by decide) (by decide) hR (by decide) (fun M hR hF1 => ?_)
              have hF := hF.trans hF1
              refine r_aload_n dX5_wardrobe_192 rfl rfl ?_
              refine r_getR fl_X5_7 dX5_wardrobe_193 sh_34 rfl ?_
              refine r_bipush (v := nI 6) dX5_wardrobe_196 rfl ?_
              refine r_iconst (v := nI 0) dX5_wardrobe_198 rfl ?_
              refine r_Rast dX5_wardrobe_199 sh_35 (by decide) (by decide) hR (by decide) (fun M hR hF1 => ?_)
              have hF := hF.trans hF1
              refine r_aload_n dX5_wardrobe_200 rfl rfl ?_
              refine r_iconst (v := nI 0) dX5_wardrobe_201 rfl ?_
              refine r_Rput fl_X5_89 dX5_wardrobe_202 rfl rfl sh_34 rfl hR (fun M hR hF1 => ?_)
              have hF := hF.trans hF1
              refine r_iload_n dX5_wardrobe_205 rfl rfl ?_
              refine r_iret dX5_wardrobe_206 rfl (by decide) (by decide) ?_
              refine ⟨rfl, congrArg (fun x => some (Value.int x)) ?_, _, ?_, hR, hF⟩
              · rw [sp_wardrobe, if_pos hE0, (hn hE0).1]
              · have h9 := WP_ok (p := p1) (q := 0) hE0 (hn hE0).2.2
                rw [← (hn hE0).1, ← (hn hE0).2.1] at h9
                exact h9
            · refine r_aload_n dX5_wardrobe_134 rfl rfl ?_
              refine r_getR fl_X5_7 dX5_wardrobe_135 sh_34 rfl ?_
              refine r_bipush (v := nI 8) dX5_wardrobe_138 rfl ?_
              refine r_iload dX5_wardrobe_140 rfl ?_
              first | refine r_iaddN dX5_wardrobe_142 ?_ | refine r_iadd dX5_wardrobe_142 ?_
              refine r_aload_n dX5_wardrobe_143 rfl rfl ?_
              refine r_getR fl_X5_16 dX5_wardrobe_144 sh_34 rfl ?_
              refine r_iload dX5_wardrobe_147 rfl ?_
              refine r_ialdN dX5_wardrobe_149 sh_37 (by omega) (by decide) (show _ = nI ((ts (pt t p1 0 r1) 34 2 0) 37 k) from hR.a37 k) ?_
              refine r_Rast dX5_wardrobe_150 sh_35 (by omega) (by decide) hR (by decide) (fun M hR hF1 => ?_)
              have hF := hF.trans hF1
              rw [pz_s] at hR
              first | refine r_iincN dX5_wardrobe_151 rfl rfl (by decide) ?_ | refine r_iinc dX5_wardrobe_151 rfl rfl rfl (by decide) ?_
              refine r_goto (tgt := 127) dX5_wardrobe_154 (by decide) ?_
              exact ih (k + 1) M hR hF (by omega) (by omega)
        exact loop (41 + 1) 0 M (by rw [pz_0]; exact hR) hF (Nat.zero_le _) (by omega)
      · have g2 : wh (t 36) (t 34 2) S9.1 < (t 34 2) := Decidable.not_not.mp (fun q => c1 ((ltr_0 hB).mpr q))
        have hE1 : wE t = wh (t 36) (t 34 2) S9.1 + 1 := by rw [hE]; unfold wzE; rw [if_pos ⟨h0, g2⟩]
        refine r_iconst (v := nI 1) dX5_wardrobe_96 rfl ?_
        refine r_goto (tgt := 101) dX5_wardrobe_97 (by decide) ?_
        refine r_P4 (v := 1) hR (by decide) fl_X5_142 dX5_wardrobe_101 sh_34 rfl (fun M hR hF1 => ?_)
        have hF := hF.trans hF1
        refine r_aload_n dX5_wardrobe_104 rfl rfl ?_
        refine r_iconst (v := nI 0) dX5_wardrobe_105 rfl ?_
        refine r_Rput fl_X5_136 dX5_wardrobe_106 rfl rfl sh_34 rfl hR (fun M hR hF1 => ?_)
        have hF := hF.trans hF1
        refine r_aload_n dX5_wardrobe_109 rfl rfl ?_
        refine r_getV fl_X5_142 dX5_wardrobe_110 sh_34 rfl (show _ = nI 1 from hR.a34 4) ?_
        refine r_if_eqN (x := 1) (tgt := 124) dX5_wardrobe_113 (by decide) (by decide) (fun q9 => absurd q9 (by decide)) (fun _ => ?_)
        refine r_bipush (v := (-20)) dX5_wardrobe_116 rfl ?_
        refine r_aload_n dX5_wardrobe_118 rfl rfl ?_
        have hE1 := hE1
        refine r_getV fl_X5_139 dX5_wardrobe_119 sh_34 rfl (hR.a34 3) ?_
        refine r_isub dX5_wardrobe_122 ?_
        refine r_iret dX5_wardrobe_123 rfl (by decide) (by decide) ?_
        refine ⟨rfl, congrArg (fun x => some (Value.int x)) ?_, _, WP_no (by omega), hR, hF⟩
        rw [sp_wardrobe, if_neg (by omega), hE1, fI_s]
        rfl
    · have hR : RI (pt t (S9.2 - 1) 1 r1) M := by rw [cvp_1 h0, cvq_1 h0] at hR; exact hR
      have hE1 : wE t = (S9.2 - 1) + 1 := by rw [hE]; unfold wzE; rw [if_neg (fun q => h0 q.1)]; omega
      refine r_aload_n dX5_wardrobe_81 rfl rfl ?_
      refine r_aload_n dX5_wardrobe_82 rfl rfl ?_
      refine r_getV fl_X5_142 dX5_wardrobe_83 sh_34 rfl hR.p4 ?_
      refine r_if_neN (x := 1) (tgt := 96) dX5_wardrobe_86 (by decide) (by decide) (fun _ => ?_) (fun q9 => absurd q9 (by decide))
      refine r_iconst (v := nI 1) dX5_wardrobe_96 rfl ?_
      refine r_goto (tgt := 101) dX5_wardrobe_97 (by decide) ?_
      refine r_P4 (v := 1) hR (by decide) fl_X5_142 dX5_wardrobe_101 sh_34 rfl (fun M hR hF1 => ?_)
      have hF := hF.trans hF1
      refine r_aload_n dX5_wardrobe_104 rfl rfl ?_
      refine r_iconst (v := nI 0) dX5_wardrobe_105 rfl ?_
      refine r_Rput fl_X5_136 dX5_wardrobe_106 rfl rfl sh_34 rfl hR (fun M hR hF1 => ?_)
      have hF := hF.trans hF1
      refine r_aload_n dX5_wardrobe_109 rfl rfl ?_
      refine r_getV fl_X5_142 dX5_wardrobe_110 sh_34 rfl (show _ = nI 1 from hR.a34 4) ?_
      refine r_if_eqN (x := 1) (tgt := 124) dX5_wardrobe_113 (by decide) (by decide) (fun q9 => absurd q9 (by decide)) (fun _ => ?_)
      refine r_bipush (v := (-20)) dX5_wardrobe_116 rfl ?_
      refine r_aload_n dX5_wardrobe_118 rfl rfl ?_
      have hE1 := hE1
      refine r_getV fl_X5_139 dX5_wardrobe_119 sh_34 rfl (hR.a34 3) ?_
      refine r_isub dX5_wardrobe_122 ?_
      refine r_iret dX5_wardrobe_123 rfl (by decide) (by decide) ?_
      refine ⟨rfl, congrArg (fun x => some (Value.int x)) ?_, _, WP_no (by omega), hR, hF⟩
      rw [sp_wardrobe, if_neg (by omega), hE1, fI_s]
      rfl
  have hsA : SK (t 34 2) (rx (t 36) (t 34 2) (wA t).1) := rx_k wzA_k
  have hs2 : SK (t 34 2) (ex (t 36) (t 34 2) 59 (nu (t 36) (t 34 2) 1 30 (0, 0))) := ex_k (nu_k ⟨Nat.zero_le _, Nat.zero_le _⟩)
  have rest63 : ∀ (M : zM) (r2 : Nat → Nat) (n2 : Nat) (hR : RI (pt t (wh (t 36) (t 34 2) (rx (t 36) (t 34 2) (wA t).1).1) 0 r2) M) (hF : zfr PR M0 M) (h0 : (rx (t 36) (t 34 2) (wA t).1).2 = 0) (h59 : ¬ (wh (t 36) (t 34 2) (rx (t 36) (t 34 2) (wA t).1).1 < (t 34 2) ∧ t 36 (wh (t 36) (t 34 2) (rx (t 36) (t 34 2) (wA t).1).1) = 59)) (hn : n2 = (wA t).2.1 ∧ r2 = (wA t).2.2), RA l none (zR 4 0 0) yX5_wardrobe cX5_wardrobe 5 (some .int) (zG (zSh ++ rw) (fun v9 M9 => v9 = some (.int (sp_wardrobe t)) ∧ ∃ t9 : Nat → Nat → Nat, WP t t9 ∧ RI t9 M9 ∧ zfr PR M0 M9)) 0 0 81 [some (.ref 34), some (.int (nI (nv (t 36) (t 34 2) 0))), some (.int (nI n2)), some (.int (nI 0)), none] [] (zSh ++ rw) M := by
    intro M r2 n2 hR hF h0 h59 hn
    have hw := wh_b (f := t 36) hsA.1
    refine r81 M (wh (t 36) (t 34 2) (rx (t 36) (t 34 2) (wA t).1).1, 0) r2 n2 0 hR hF hw.2.1 (wE_n h0 h59) (fun q => ?_)
    have h9 := wB_n h0 h59 q
    rw [h9]
    exact ⟨hn.1, rfl, hn.2⟩
  have r43 : ∀ (M : zM) (hR : RI (pt t (cvp (ex (t 36) (t 34 2) 59 (nu (t 36) (t 34 2) 1 30 (0, 0)))) (cvq (ex (t 36) (t 34 2) 59 (nu (t 36) (t 34 2) 1 30 (0, 0)))) (t 37)) M) (hF : zfr PR M0 M), RA l none (zR 4 0 0) yX5_wardrobe cX5_wardrobe 5 (some .int) (zG (zSh ++ rw) (fun v9 M9 => v9 = some (.int (sp_wardrobe t)) ∧ ∃ t9 : Nat → Nat → Nat, WP t t9 ∧ RI t9 M9 ∧ zfr PR M0 M9)) 0 0 43 [some (.ref 34), some (.int (nI (nv (t 36) (t 34 2) 0))), none, none, none] [] (zSh ++ rw) M := by
    intro M hR hF
    refine r_aload_n dX5_wardrobe_43 rfl rfl ?_
    refine r_cV0G mv_X5_readPeople ml_X5_164 (c5_readPeople l hR hB hs2.1 hs2.2) dX5_wardrobe_44 (Nat.le_of_ble_eq_true rfl) ⟨by decide, by decide⟩ ⟨by decide, by decide⟩ sh_34 rfl (fun _ h => nomatch h) (fun v M1 hq => ?_)
    obtain ⟨n2, r2, rfl, hR, hF1, hn⟩ := hq
    have hF := hF.trans hF1
    have hR : RI (pt t (cvp (rx (t 36) (t 34 2) (wA t).1)) (cvq (rx (t 36) (t 34 2) (wA t).1)) r2) M1 := hR
    have hn : (rx (t 36) (t 34 2) (wA t).1).2 = 0 → n2 = (wA t).2.1 ∧ r2 = (wA t).2.2 := hn
    dsimp only [zrst, List.cons_append, List.nil_append]
    refine r_istore_n dX5_wardrobe_47 rfl rfl (by decide) ?_
    refine r_iconst (v := nI 0) dX5_wardrobe_48 rfl ?_
    refine r_istore_n dX5_wardrobe_49 rfl rfl (by decide) ?_
    by_cases h0 : (rx (t 36) (t 34 2) (wA t).1).2 = 0
    · have hR : RI (pt t (rx (t 36) (t 34 2) (wA t).1).1 0 r2) M1 := by rw [cvp_0 h0, cvq_0 h0] at hR; exact hR
      refine r_aload_n dX5_wardrobe_50 rfl rfl ?_
      refine r_getV fl_X5_142 dX5_wardrobe_51 sh_34 rfl hR.p4 ?_
      refine r_if_neN (x := 0) (tgt := 81) dX5_wardrobe_54 (by decide) (by decide) (fun q9 => absurd q9 (by decide)) (fun _ => ?_)
      refine r_aload_n dX5_wardrobe_57 rfl rfl ?_
      refine r_cV0G mv_X5_here ml_X5_146 (c5_here l hR hB hsA.1) dX5_wardrobe_58 (Nat.le_of_ble_eq_true rfl) ⟨by decide, by decide⟩ ⟨by decide, by decide⟩ sh_34 rfl (fun _ h => nomatch h) (fun v M1 hq => ?_)
      obtain ⟨rfl, hR, hF1⟩ := hq
      have hF := hF.trans hF1
      dsimp only [zrst, List.cons_append, List.nil_append]
      have hl9 := ltr_le (a := wh (t 36) (t 34 2) (rx (t 36) (t 34 2) (wA t).1).1) hB
      refine r_bipush (v := nI 59) dX5_wardrobe_61 rfl ?_
      first | refine r_icmp_neN (tgt := 81) dX5_wardrobe_63 (by decide) (by omega) (by omega) (fun c1 => ?_) (fun c1 => ?_) | refine r_icmp_ne (tgt := 81) dX5_wardrobe_63 (by decide) (fun c1 => ?_) (fun c1 => ?_)
      · have h59 : ¬ (wh (t 36) (t 34 2) (rx (t 36) (t 34 2) (wA t).1).1 < (t 34 2) ∧ t 36 (wh (t 36) (t 34 2) (rx (t 36) (t 34 2) (wA t).1).1) = 59) := fun q => c1 ((ltr_c (by decide)).mpr q)
        exact rest63 M1 r2 n2 hR hF h0 h59 (hn h0)
      · have h59 : wh (t 36) (t 34 2) (rx (t 36) (t 34 2) (wA t).1).1 < (t 34 2) ∧ t 36 (wh (t 36) (t 34 2) (rx (t 36) (t 34 2) (wA t).1).1) = 59 := (ltr_c (by decide)).mp c1
        have hf := wA_s h0 h59
        refine r_aload_n dX5_wardrobe_66 rfl rfl ?_
        refine r_dup dX5_wardrobe_67 rfl ?_
        refine r_getV fl_X5_139 dX5_wardrobe_68 sh_34 rfl hR.p3 ?_
        refine r_iconst (v := nI 1) dX5_wardrobe_71 rfl ?_
        first | refine r_iaddN dX5_wardrobe_72 ?_ | refine r_iadd dX5_wardrobe_72 ?_
        refine r_P3 hR fl_X5_139 dX5_wardrobe_73 sh_34 rfl (fun M hR hF1 => ?_)
        have hF := hF.trans hF1
        refine r_aload_n dX5_wardrobe_76 rfl rfl ?_
        refine r_cV0G mv_X5_readSuits ml_X5_167 (c5_readSuits (a := wh (t 36) (t 34 2) (rx (t 36) (t 34 2) (wA t).1).1 + 1) (e := 0) l hR hB h59.1 (Nat.zero_le _)) dX5_wardrobe_77 (Nat.le_of_ble_eq_true rfl) ⟨by decide, by decide⟩ ⟨by decide, by decide⟩ sh_34 rfl (fun _ h => nomatch h) (fun v M1 hq => ?_)
        obtain ⟨n3, r3, rfl, hR, hF1, hm⟩ := hq
        have hF := hF.trans hF1
        dsimp only [zrst, List.cons_append, List.nil_append]
        refine r_istore_n dX5_wardrobe_80 rfl rfl (by decide) ?_
        have hq3 : (rx (t 36) (t 34 2) (sl (t 36) (t 34 2) 4 0 (wh (t 36) (t 34 2) (rx (t 36) (t 34 2) (wA t).1).1 + 1, 0) r2).1).2 = 0 → n3 = (sl (t 36) (t 34 2) 4 0 (wh (t 36) (t 34 2) (rx (t 36) (t 34 2) (wA t).1).1 + 1, 0) r2).2.1 ∧ r3 = (sl (t 36) (t 34 2) 4 0 (wh (t 36) (t 34 2) (rx (t 36) (t 34 2) (wA t).1).1 + 1, 0) r2).2.2 := hm
        rw [(hn h0).2, ← hf.1] at hR hq3
        exact r81 M1 _ r3 n2 n3 hR hF (rx_k (wzB_k wzA_k)).1 (wE_s h0 h59) (fun q => ⟨(hn h0).1, hq3 (wE_0 h0 h59 q)⟩)
    · have hR0 := hR
      have hR : RI (pt t ((rx (t 36) (t 34 2) (wA t).1).2 - 1) 1 r2) M1 := by rw [cvp_1 h0, cvq_1 h0] at hR; exact hR
      refine r_aload_n dX5_wardrobe_50 rfl rfl ?_
      refine r_getV fl_X5_142 dX5_wardrobe_51 sh_34 rfl hR.p4 ?_
      refine r_if_neN (x := 1) (tgt := 81) dX5_wardrobe_54 (by decide) (by decide) (fun _ => ?_) (fun q9 => absurd q9 (by decide))
      exact r81 M1 (rx (t 36) (t 34 2) (wA t).1) r2 n2 0 hR0 hF hsA.1 (by unfold wzE; rw [if_neg (fun q => h0 q.1)]; exact wE_f h0) (fun q => absurd ((wE_f h0).symm.trans q) h0)
  refine r_aload_n dX5_wardrobe_0 rfl rfl ?_
  refine r_iconst (v := nI 0) dX5_wardrobe_1 rfl ?_
  refine r_Rput fl_X5_139 dX5_wardrobe_2 rfl rfl sh_34 rfl hR (fun M hR hF1 => ?_)
  have hF := hF.trans hF1
  refine r_aload_n dX5_wardrobe_5 rfl rfl ?_
  refine r_iconst (v := nI 0) dX5_wardrobe_6 rfl ?_
  refine r_Rput fl_X5_142 dX5_wardrobe_7 rfl rfl sh_34 rfl hR (fun M hR hF1 => ?_)
  have hF := hF.trans hF1
  rw [pt_0] at hR
  refine r_aload_n dX5_wardrobe_10 rfl rfl ?_
  refine r_iconst (v := nI 1) dX5_wardrobe_11 rfl ?_
  refine r_bipush (v := nI 30) dX5_wardrobe_12 rfl ?_
  refine r_cV2G mv_X5_number ml_X5_157 (c5_numT l hR hB (Nat.zero_le _) (by decide) (by decide)) dX5_wardrobe_14 (Nat.le_of_ble_eq_true rfl) ⟨by decide, by decide⟩ ⟨by decide, by decide⟩ sh_34 rfl (fun _ h => nomatch h) (fun v M1 hq => ?_)
  obtain ⟨rfl, hR, hF1⟩ := hq
  have hF := hF.trans hF1
  dsimp only [zrst, List.cons_append, List.nil_append]
  refine r_istore_n dX5_wardrobe_17 rfl rfl (by decide) ?_
  by_cases h0 : (nu (t 36) (t 34 2) 1 30 (0, 0)).2 = 0
  · have hR : RI (pt t (nu (t 36) (t 34 2) 1 30 (0, 0)).1 0 (t 37)) M1 := by rw [cvp_0 h0, cvq_0 h0] at hR; exact hR
    have hs9 : (nu (t 36) (t 34 2) 1 30 (0, 0)) = ((nu (t 36) (t 34 2) 1 30 (0, 0)).1, 0) := Prod.ext rfl h0
    refine r_aload_n dX5_wardrobe_18 rfl rfl ?_
    refine r_aload_n dX5_wardrobe_19 rfl rfl ?_
    refine r_getV fl_X5_142 dX5_wardrobe_20 sh_34 rfl hR.p4 ?_
    refine r_if_neN (x := 0) (tgt := 39) dX5_wardrobe_23 (by decide) (by decide) (fun q9 => absurd q9 (by decide)) (fun _ => ?_)
    refine r_aload_n dX5_wardrobe_26 rfl rfl ?_
    refine r_cV0G mv_X5_here ml_X5_146 (c5_here l hR hB hs1.1) dX5_wardrobe_27 (Nat.le_of_ble_eq_true rfl) ⟨by decide, by decide⟩ ⟨by decide, by decide⟩ sh_34 rfl (fun _ h => nomatch h) (fun v M1 hq => ?_)
    obtain ⟨rfl, hR, hF1⟩ := hq
    have hF := hF.trans hF1
    dsimp only [zrst, List.cons_append, List.nil_append]
    have hl9 := ltr_le (a := wh (t 36) (t 34 2) (nu (t 36) (t 34 2) 1 30 (0, 0)).1) hB
    refine r_bipush (v := nI 59) dX5_wardrobe_30 rfl ?_
    first | refine r_icmp_neN (tgt := 39) dX5_wardrobe_32 (by decide) (by omega) (by omega) (fun c1 => ?_) (fun c1 => ?_) | refine r_icmp_ne (tgt := 39) dX5_wardrobe_32 (by decide) (fun c1 => ?_) (fun c1 => ?_)
    · have he9 : ¬ (wh (t 36) (t 34 2) (nu (t 36) (t 34 2) 1 30 (0, 0)).1 < (t 34 2) ∧ t 36 (wh (t 36) (t 34 2) (nu (t 36) (t 34 2) 1 30 (0, 0)).1) = 59) := fun q => c1 ((ltr_c (by decide)).mpr q)
      refine r_iconst (v := nI 0) dX5_wardrobe_39 rfl ?_
      refine r_cV1G mv_X5_must ml_X5_153 (c5_mustF l hR hB) dX5_wardrobe_40 (Nat.le_of_ble_eq_true rfl) ⟨by decide, by decide⟩ ⟨by decide, by decide⟩ sh_34 rfl (fun _ h => nomatch h) (fun v M1 hq => ?_)
      obtain ⟨rfl, hR, hF1⟩ := hq
      have hF := hF.trans hF1
      dsimp only [zrst, List.cons_append, List.nil_append]
      have h9 : (ex (t 36) (t 34 2) 59 (nu (t 36) (t 34 2) 1 30 (0, 0))) = (wh (t 36) (t 34 2) (nu (t 36) (t 34 2) 1 30 (0, 0)).1, wh (t 36) (t 34 2) (nu (t 36) (t 34 2) 1 30 (0, 0)).1 + 1) := by rw [hs9]; exact (ex_n he9).trans (by rw [fa_0])
      exact r43 M1 (by rw [h9]; exact hR) hF
      
    · have he9 : wh (t 36) (t 34 2) (nu (t 36) (t 34 2) 1 30 (0, 0)).1 < (t 34 2) ∧ t 36 (wh (t 36) (t 34 2) (nu (t 36) (t 34 2) 1 30 (0, 0)).1) = 59 := (ltr_c (by decide)).mp c1
      refine r_iconst (v := nI 1) dX5_wardrobe_35 rfl ?_
      refine r_goto (tgt := 40) dX5_wardrobe_36 (by decide) ?_
      refine r_cV1G mv_X5_must ml_X5_153 (c5_mustT l hR hB) dX5_wardrobe_40 (Nat.le_of_ble_eq_true rfl) ⟨by decide, by decide⟩ ⟨by decide, by decide⟩ sh_34 rfl (fun _ h => nomatch h) (fun v M1 hq => ?_)
      obtain ⟨rfl, hR, hF1⟩ := hq
      have hF := hF.trans hF1
      dsimp only [zrst, List.cons_append, List.nil_append]
      have h9 : (ex (t 36) (t 34 2) 59 (nu (t 36) (t 34 2) 1 30 (0, 0))) = (wh (t 36) (t 34 2) (nu (t 36) (t 34 2) 1 30 (0, 0)).1 + 1, 0) := by rw [hs9]; exact ex_t he9
      exact r43 M1 (by rw [h9]; exact hR) hF
      
  · have hR : RI (pt t ((nu (t 36) (t 34 2) 1 30 (0, 0)).2 - 1) 1 (t 37)) M1 := by rw [cvp_1 h0, cvq_1 h0] at hR; exact hR
    refine r_aload_n dX5_wardrobe_18 rfl rfl ?_
    refine r_aload_n dX5_wardrobe_19 rfl rfl ?_
    refine r_getV fl_X5_142 dX5_wardrobe_20 sh_34 rfl hR.p4 ?_
    refine r_if_neN (x := 1) (tgt := 39) dX5_wardrobe_23 (by decide) (by decide) (fun _ => ?_) (fun q9 => absurd q9 (by decide))
    refine r_iconst (v := nI 0) dX5_wardrobe_39 rfl ?_
    refine r_cV1G mv_X5_must ml_X5_153 (c5_must1 l hR hB) dX5_wardrobe_40 (Nat.le_of_ble_eq_true rfl) ⟨by decide, by decide⟩ ⟨by decide, by decide⟩ sh_34 rfl (fun _ h => nomatch h) (fun v M1 hq => ?_)
    obtain ⟨rfl, hR, hF1⟩ := hq
    have hF := hF.trans hF1
    dsimp only [zrst, List.cons_append, List.nil_append]
    have h9 : (ex (t 36) (t 34 2) 59 (nu (t 36) (t 34 2) 1 30 (0, 0))).2 = (nu (t 36) (t 34 2) 1 30 (0, 0)).2 := ex_f h0
    have h8 : (ex (t 36) (t 34 2) 59 (nu (t 36) (t 34 2) 1 30 (0, 0))).2 ≠ 0 := by rw [h9]; exact h0
    exact r43 M1 (by rw [cvp_1 h8, cvq_1 h8, h9]; exact hR) hF
    

