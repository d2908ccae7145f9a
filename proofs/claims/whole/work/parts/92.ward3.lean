/-- the wardrobe as read: people, suits, fault -/
def wA (t : Nat → Nat → Nat) : (Nat × Nat) × Nat × (Nat → Nat) := wzA (t 36) (t 34 2) (t 37)
def wB (t : Nat → Nat → Nat) : (Nat × Nat) × Nat × (Nat → Nat) := wzB (t 36) (t 34 2) (wA t)
def wE (t : Nat → Nat → Nat) : Nat := wzE (t 36) (t 34 2) (wB t).1
def w35 (t : Nat → Nat → Nat) : Nat → Nat := fun j => if wE t = 0 then (if 8 ≤ j ∧ j < 49 then (wB t).2.2 (j - 8) else if j = 0 then (wA t).2.1 else if j = 1 then (wB t).2.1 else if j = 4 then nv (t 36) (t 34 2) 0 else if j = 2 ∨ j = 3 ∨ j = 6 then 0 else t 35 j) else t 35 j
def w7 (t : Nat → Nat → Nat) : Nat := if wE t = 0 then 0 else t 34 7
def sp_wardrobe (t : Nat → Nat → Nat) : Int32 := if wE t = 0 then nI (wA t).2.1 else (-20) - fI (wE t)
theorem wzA_k {f : Nat → Nat} {L : Nat} {g : Nat → Nat} : SK L (wzA f L g).1 := pl_k (ex_k (nu_k ⟨Nat.zero_le _, Nat.zero_le _⟩))
theorem wzB_k {f : Nat → Nat} {L : Nat} {A : (Nat × Nat) × Nat × (Nat → Nat)} (h : SK L A.1) : SK L (wzB f L A).1 := by
  unfold wzB
  split
  · exact sl_k (ex_k h)
  · exact h
theorem wzB_lo {f : Nat → Nat} {L i : Nat} {A : (Nat × Nat) × Nat × (Nat → Nat)} (h : i < 25) : (wzB f L A).2.2 i = A.2.2 i := by
  unfold wzB
  split
  · exact sl_lo h
  · rfl
theorem ex_0 {f : Nat → Nat} {L c : Nat} {s : Nat × Nat} (h : (ex f L c s).2 = 0) : s.2 = 0 := by
  by_cases h0 : s.2 = 0
  · exact h0
  · rw [ex_f h0] at h; exact h
theorem wzE_0 {f : Nat → Nat} {L : Nat} {B : Nat × Nat} (h : wzE f L B = 0) : B.2 = 0 := by
  unfold wzE at h
  split at h
  · exact absurd h (by omega)
  · exact h
theorem sl_0 {f : Nat → Nat} {L : Nat} : ∀ {j n : Nat} {s : Nat × Nat} {g : Nat → Nat}, (sl f L j n s g).1.2 = 0 → s.2 = 0
  | 0, n, s, g, h => h
  | j + 1, n, s, g, h => by
    by_cases h0 : s.2 = 0
    · exact h0
    · rw [sl_e h0] at h; exact h
theorem wzB_0 {f : Nat → Nat} {L : Nat} {A : (Nat × Nat) × Nat × (Nat → Nat)} (h : (wzB f L A).1.2 = 0) : A.1.2 = 0 := by
  unfold wzB at h
  split at h
  · rename_i q; exact q.1
  · exact h
theorem RW.cong {k : Nat} {g g' : Nat → Nat} {M : zM} (h : RW k g M) (hk : k ≤ 5) (hg : ∀ i, i < 25 → g' i = g i) : RW k g' M := fun q hq => ⟨by rw [hg _ (by omega)]; exact (h q hq).1, fun m hm => by rw [hg _ (by omega)]; exact (h q hq).2 m hm⟩
theorem wzE_k {f : Nat → Nat} {L : Nat} {B : Nat × Nat} (h : SK L B) : wzE f L B ≤ L + 1 := by
  unfold wzE
  split
  · rename_i q; omega
  · exact h.2
theorem zfr.off1 {M M' : zM} (h : zfr (PT 1) M M') {i k : Nat} (hi : 10 ≤ i) : M'.1 i k = M.1 i k := congrFun (h i (by unfold PT; omega)).1 k
theorem exw {f : Nat → Nat} {L a c e : Nat} {M : zM} (h : RS f L (ex f L c (wh f L a, e)).1 (ex f L c (wh f L a, e)).2 M) (ha : a ≤ L) : RS f L (ex f L c (a, e)).1 (ex f L c (a, e)).2 M := by
  have h1 : ex f L c (wh f L a, e) = ex f L c (a, e) := by
    unfold ex
    dsimp only
    rw [wh_wh ha]
  rw [h1] at h
  exact h
set_option maxHeartbeats 4000000 in
set_option maxRecDepth 100000 in
theorem c1_readAll (l : Launch) {rw : List zC} {M0 : zM} {f : Nat → Nat} {L : Nat} {g : Nat → Nat} (h1 : M0.1 19 1 = nI L) (h20 : ∀ j, j < L → M0.1 20 j = nI (f j)) (hB : TB f L) : CT l false 6 0 0 yX1_readAll cX1_readAll 1 (some .int) [.ref 19] (zSh ++ rw) M0 (zG (zSh ++ rw) (fun v9 M9 => v9 = some (.int (fI (wzE f L (wzB f L (wzA f L g)).1))) ∧ zfr PQ M0 M9 ∧ ((wzE f L (wzB f L (wzA f L g)).1) = 0 → M9.1 19 4 = nI (nv f L 0) ∧ M9.1 19 5 = nI (wzA f L g).2.1 ∧ M9.1 19 6 = nI (wzB f L (wzA f L g)).2.1 ∧ RW (wzA f L g).2.1 (wzB f L (wzA f L g)).2.2 M9 ∧ SW (wzB f L (wzA f L g)).2.1 (wzB f L (wzA f L g)).2.2 M9))) := by
  refine CT.ofN (by decide) (fun _ _ => Nat.le_of_ble_eq_true rfl) ?_
  have hL := hB.1
  have hsA := wzA_k (f := f) (L := L) (g := g)
  have hsB := wzB_k (f := f) (L := L) hsA
  have hsA2 : (wzA f L g).1.2 ≤ L + 1 := hsA.2
  have hsB2 : (wzB f L (wzA f L g)).1.2 ≤ L + 1 := hsB.2
  have rest : ∀ (M : zM) (a6 : Nat) (hR : RS f L a6 (wzB f L (wzA f L g)).1.2 M) (hw : wh f L a6 = wh f L (wzB f L (wzA f L g)).1.1) (ha6 : a6 ≤ L) (hz4 : M.1 19 4 = nI (nv f L 0)) (hz5 : (wzB f L (wzA f L g)).1.2 = 0 → M.1 19 5 = nI (wzA f L g).2.1) (hz6 : M.1 19 6 = nI (wzB f L (wzA f L g)).2.1) (hr : (wzB f L (wzA f L g)).1.2 = 0 → RW (wzA f L g).2.1 (wzB f L (wzA f L g)).2.2 M ∧ SW (wzB f L (wzA f L g)).2.1 (wzB f L (wzA f L g)).2.2 M) (hF : zfr PQ M0 M), RA l none (zR 6 0 0) yX1_readAll cX1_readAll 1 (some .int) (zG (zSh ++ rw) (fun v9 M9 => v9 = some (.int (fI (wzE f L (wzB f L (wzA f L g)).1))) ∧ zfr PQ M0 M9 ∧ ((wzE f L (wzB f L (wzA f L g)).1) = 0 → M9.1 19 4 = nI (nv f L 0) ∧ M9.1 19 5 = nI (wzA f L g).2.1 ∧ M9.1 19 6 = nI (wzB f L (wzA f L g)).2.1 ∧ RW (wzA f L g).2.1 (wzB f L (wzA f L g)).2.2 M9 ∧ SW (wzB f L (wzA f L g)).2.1 (wzB f L (wzA f L g)).2.2 M9))) 0 0 62 [some (.ref 19)] [] (zSh ++ rw) M := by
    intro M a6 hR hw ha6 hz4 hz5 hz6 hr hF
    refine r_aload_n dX1_readAll_62 rfl rfl ?_
    refine r_getV fl_X1_31 dX1_readAll_63 sh_19 rfl hR.2.2.1 ?_
    refine r_iconst (v := (-1)) dX1_readAll_66 rfl ?_
    refine r_icmp_ne (tgt := 86) dX1_readAll_67 (by decide) (fun c1 => ?_) (fun c1 => ?_)
    · have g1 := fun q => c1 ((fI_0 (by omega)).mpr q)
      have hE : (wzE f L (wzB f L (wzA f L g)).1) = (wzB f L (wzA f L g)).1.2 := if_neg (fun q => g1 q.1)
      refine r_aload_n dX1_readAll_86 rfl rfl ?_
      refine r_getV fl_X1_31 dX1_readAll_87 sh_19 rfl hR.2.2.1 ?_
      refine r_iret dX1_readAll_90 rfl (by decide) (by decide) ?_
      refine ⟨rfl, congrArg (fun x => some (Value.int x)) ?_, hF, fun q => ?_⟩
      · rw [hE]
      · first
        | exact absurd (hE.symm.trans q) (by omega)
        | exact ⟨hz4, hz5 (wzE_0 q), hz6, hr (wzE_0 q)⟩
    · have g1 := (fI_0 (by omega)).mp c1
      refine r_aload_n dX1_readAll_70 rfl rfl ?_
      refine r_cV0G mv_X1_next ml_X1_51 (c1_next l hR hB ha6 hsB.2) dX1_readAll_71 (Nat.le_of_ble_eq_true rfl) ⟨by decide, by decide⟩ ⟨by decide, by decide⟩ sh_19 rfl (fun _ h => nomatch h) (fun v M1 hq => ?_)
      obtain ⟨rfl, hR, hW1⟩ := hq
      have hF := hF.trans hW1.pq1
      have hz4 := (hW1.1 4 (by decide)).trans hz4
      have hz5 := fun q => (hW1.1 5 (by decide)).trans (hz5 q)
      have hz6 := (hW1.1 6 (by decide)).trans hz6
      have hr := fun q => (⟨(hr q).1.off (hW1.of1 (by decide)) (hW1.of1 (by decide)), (hr q).2.off (hW1.of1 (by decide))⟩ : _ ∧ _)
      dsimp only [zrst, List.cons_append, List.nil_append]
      refine r_iconst (v := (-1)) dX1_readAll_74 rfl ?_
      refine r_icmp_eq (tgt := 86) dX1_readAll_75 (by decide) (fun c2 => ?_) (fun c2 => ?_)
      · have g2 := (nx_end hB).mp c2
        have hE : (wzE f L (wzB f L (wzA f L g)).1) = (wzB f L (wzA f L g)).1.2 := if_neg (fun q => g2 (by rw [hw]; exact q.2))
        refine r_aload_n dX1_readAll_86 rfl rfl ?_
        refine r_getV fl_X1_31 dX1_readAll_87 sh_19 rfl hR.2.2.1 ?_
        refine r_iret dX1_readAll_90 rfl (by decide) (by decide) ?_
        refine ⟨rfl, congrArg (fun x => some (Value.int x)) ?_, hF, fun q => ?_⟩
        · rw [hE]
        · first
          | exact absurd (hE.symm.trans q) (by omega)
          | exact ⟨hz4, hz5 (wzE_0 q), hz6, hr (wzE_0 q)⟩
      · have g2 := Decidable.not_not.mp (fun q => c2 ((nx_end hB).mpr q))
        have hE : (wzE f L (wzB f L (wzA f L g)).1) = wh f L a6 + 1 := by
          rw [hw]
          exact if_pos ⟨g1, by rw [← hw]; exact g2⟩
        refine r_aload_n dX1_readAll_78 rfl rfl ?_
        refine r_aload_n dX1_readAll_79 rfl rfl ?_
        refine r_getV fl_X1_28 dX1_readAll_80 sh_19 rfl hR.2.1 ?_
        refine r_top (v' := .int (fI (wh f L a6 + 1))) (congrArg Value.int (fI_s _).symm) ?_
        refine r_S3 hR fl_X1_31 dX1_readAll_83 sh_19 rfl (fun M hR hW1 => ?_)
        have hF := hF.trans hW1.pq1
        refine r_aload_n dX1_readAll_86 rfl rfl ?_
        refine r_getV fl_X1_31 dX1_readAll_87 sh_19 rfl hR.2.2.1 ?_
        refine r_iret dX1_readAll_90 rfl (by decide) (by decide) ?_
        refine ⟨rfl, congrArg (fun x => some (Value.int x)) ?_, hF, fun q => ?_⟩
        · rw [hE]
        · first
          | exact absurd (hE.symm.trans q) (by omega)
          | exact ⟨hz4, hz5 (wzE_0 q), hz6, hr (wzE_0 q)⟩
  refine r_aload_n dX1_readAll_0 rfl rfl ?_
  refine r_iconst (v := nI 0) dX1_readAll_1 rfl ?_
  refine r_putI fl_X1_28 dX1_readAll_2 rfl rfl sh_19 rfl ?_
  refine r_aload_n dX1_readAll_5 rfl rfl ?_
  refine r_iconst (v := (-1)) dX1_readAll_6 rfl ?_
  refine r_putI fl_X1_31 dX1_readAll_7 rfl rfl sh_19 rfl ?_
  refine r_aload_n dX1_readAll_10 rfl rfl ?_
  refine r_iconst (v := nI 0) dX1_readAll_11 rfl ?_
  refine r_putI fl_X1_34 dX1_readAll_12 rfl rfl sh_19 rfl ?_
  refine r_gen (fun M hM => ?_)
  have hR : RS f L 0 0 M := by subst hM; exact ⟨h1, rfl, rfl, h20⟩
  have hz6 : M.1 19 6 = nI 0 := by subst hM; rfl
  have hF : zfr PQ M0 M := by subst hM; exact ((zfr_I (Or.inl rfl)).trans (zfr_I (Or.inl rfl))).trans (zfr_I (Or.inl rfl))
  refine r_aload_n dX1_readAll_15 rfl rfl ?_
  refine r_aload_n dX1_readAll_16 rfl rfl ?_
  refine r_iconst (v := nI 1) dX1_readAll_17 rfl ?_
  refine r_bipush (v := nI 30) dX1_readAll_18 rfl ?_
  refine r_cV2G mv_X1_readNumber ml_X1_37 (c1_readNumber l hR hB (Nat.zero_le _) (Nat.zero_le _) (by decide) (by decide)) dX1_readAll_20 (Nat.le_of_ble_eq_true rfl) ⟨by decide, by decide⟩ ⟨by decide, by decide⟩ sh_19 rfl (fun _ h => nomatch h) (fun v M1 hq => ?_)
  obtain ⟨rfl, hR, hW1⟩ := hq
  have hF := hF.trans hW1.pq1
  have hz6 := (hW1.1 6 (by decide)).trans hz6
  have hsk1 := nu_k (f := f) (lo := 1) (hi := 30) (show SK L (0, 0) from ⟨Nat.zero_le _, Nat.zero_le _⟩)
  dsimp only [zrst, List.cons_append, List.nil_append]
  refine r_S4 hR (by decide) fl_X1_41 dX1_readAll_23 sh_19 rfl (fun M hR h19 hF1 h9 => ?_)
  have hF := hF.trans (W1.pq hF1)
  have hz4 : M.1 19 4 = nI (nv f L 0) := by rw [h19]; exact pk_us
  have hz6 : M.1 19 6 = nI 0 := by rw [h19, pk_un (by decide)]; exact hz6
  refine r_aload_n dX1_readAll_26 rfl rfl ?_
  refine r_bipush (v := nI 59) dX1_readAll_27 rfl ?_
  refine r_cV1G mv_X1_expect ml_X1_44 (c1_expect l hR hB hsk1.1 hsk1.2 (by decide)) dX1_readAll_29 (Nat.le_of_ble_eq_true rfl) ⟨by decide, by decide⟩ ⟨by decide, by decide⟩ sh_19 rfl (fun _ h => nomatch h) (fun v M1 hq => ?_)
  obtain ⟨rfl, hR, hW1⟩ := hq
  have hF := hF.trans hW1.pq1
  have hz6 := (hW1.1 6 (by decide)).trans hz6
  have hz4 := (hW1.1 4 (by decide)).trans hz4
  have hsk2 := ex_k (f := f) (c := 59) hsk1
  dsimp only [zrst, List.cons_append, List.nil_append]
  refine r_aload_n dX1_readAll_32 rfl rfl ?_
  refine r_cV0G mv_X1_readPeople ml_X1_48 (c1_readPeople (g := g) l hR hB hsk2.1 hsk2.2) dX1_readAll_33 (Nat.le_of_ble_eq_true rfl) ⟨by decide, by decide⟩ ⟨by decide, by decide⟩ sh_19 rfl (fun _ h => nomatch h) (fun v M1 hq => ?_)
  obtain ⟨rfl, hR, hK, hF1, hO, hr⟩ := hq
  have hF := hF.trans hF1
  have hz4 := (hK.1 4 (by decide) (by decide)).trans hz4
  have hz6 := (hK.1 6 (by decide) (by decide)).trans hz6
  have hR : RS f L (wzA f L g).1.1 (wzA f L g).1.2 M1 := hR
  have hz5 : (wzA f L g).2.1 ≠ 0 → M1.1 19 5 = nI (wzA f L g).2.1 := fun q => hK.2.trans (if_neg q)
  have hr : (wzA f L g).1.2 = 0 → RW (wzA f L g).2.1 (wzA f L g).2.2 M1 := hr
  dsimp only [zrst, List.cons_append, List.nil_append]
  refine r_aload_n dX1_readAll_36 rfl rfl ?_
  refine r_getV fl_X1_31 dX1_readAll_37 sh_19 rfl hR.2.2.1 ?_
  refine r_iconst (v := (-1)) dX1_readAll_40 rfl ?_
  refine r_icmp_ne (tgt := 62) dX1_readAll_41 (by decide) (fun c1 => ?_) (fun c1 => ?_)
  · have g1 := fun q => c1 ((fI_0 (by omega)).mpr q)
    have hBB : (wzB f L (wzA f L g)) = ((wzA f L g).1, 0, (wzA f L g).2.2) := if_neg (fun q => g1 q.1)
    exact rest M1 _ (by rw [hBB]; exact hR) (by rw [hBB]) hsA.1 hz4 (fun q => absurd (wzB_0 q) g1) (by rw [hBB]; exact hz6) (fun q => absurd (wzB_0 q) g1) hF
  · have g1 := (fI_0 (by omega)).mp c1
    have hn1 := pl_1 (f := f) (L := L) g1
    have hz5 := hz5 hn1
    have hr := hr g1
    refine r_aload_n dX1_readAll_44 rfl rfl ?_
    refine r_cV0G mv_X1_next ml_X1_51 (c1_next l hR hB hsA.1 hsA.2) dX1_readAll_45 (Nat.le_of_ble_eq_true rfl) ⟨by decide, by decide⟩ ⟨by decide, by decide⟩ sh_19 rfl (fun _ h => nomatch h) (fun v M1 hq => ?_)
    obtain ⟨rfl, hR, hW1⟩ := hq
    have hF := hF.trans hW1.pq1
    have hz6 := (hW1.1 6 (by decide)).trans hz6
    have hz4 := (hW1.1 4 (by decide)).trans hz4
    have hz5 := (hW1.1 5 (by decide)).trans hz5
    have hr := hr.off (hW1.of1 (by decide)) (hW1.of1 (by decide))
    dsimp only [zrst, List.cons_append, List.nil_append]
    refine r_iconst (v := (-1)) dX1_readAll_48 rfl ?_
    refine r_icmp_eq (tgt := 62) dX1_readAll_49 (by decide) (fun c2 => ?_) (fun c2 => ?_)
    · have g2 := (nx_end hB).mp c2
      have hBB : (wzB f L (wzA f L g)) = ((wzA f L g).1, 0, (wzA f L g).2.2) := if_neg (fun q => g2 q.2)
      exact rest M1 _ (by rw [hBB]; exact hR) (by rw [hBB]; exact wh_wh hsA.1) (wh_b hsA.1).2.1 hz4 (fun _ => hz5) (by rw [hBB]; exact hz6) (fun _ => by rw [hBB]; exact ⟨hr, fun q hq => absurd hq (Nat.not_lt_zero _)⟩) hF
    · have g2 := Decidable.not_not.mp (fun q => c2 ((nx_end hB).mpr q))
      have hBB : (wzB f L (wzA f L g)) = sl f L 4 0 (ex f L 59 (wzA f L g).1) (wzA f L g).2.2 := if_pos ⟨g1, g2⟩
      refine r_aload_n dX1_readAll_52 rfl rfl ?_
      refine r_bipush (v := nI 59) dX1_readAll_53 rfl ?_
      refine r_cV1G mv_X1_expect ml_X1_44 (c1_expect l hR hB (wh_b hsA.1).2.1 hsA.2 (by decide)) dX1_readAll_55 (Nat.le_of_ble_eq_true rfl) ⟨by decide, by decide⟩ ⟨by decide, by decide⟩ sh_19 rfl (fun _ h => nomatch h) (fun v M1 hq => ?_)
      obtain ⟨rfl, hR, hW1⟩ := hq
      have hF := hF.trans hW1.pq1
      have hz6 := (hW1.1 6 (by decide)).trans hz6
      have hz4 := (hW1.1 4 (by decide)).trans hz4
      have hz5 := (hW1.1 5 (by decide)).trans hz5
      have hr := hr.off (hW1.of1 (by decide)) (hW1.of1 (by decide))
      have hR := exw hR (show (wzA f L g).1.1 ≤ L from hsA.1)
      have hsk3 := ex_k (f := f) (c := 59) hsA
      dsimp only [zrst, List.cons_append, List.nil_append]
      refine r_aload_n dX1_readAll_58 rfl rfl ?_
      refine r_cV0G mv_X1_readSuits ml_X1_55 (c1_readSuits (g := (wzA f L g).2.2) l hR hB hsk3.1 hsk3.2) dX1_readAll_59 (Nat.le_of_ble_eq_true rfl) ⟨by decide, by decide⟩ ⟨by decide, by decide⟩ sh_19 rfl (fun _ h => nomatch h) (fun v M1 hq => ?_)
      obtain ⟨rfl, hR, hK, hF1, hO, hs⟩ := hq
      have hF := hF.trans hF1
      have hz4 := (hK.1 4 (by decide) (by decide)).trans hz4
      have hz5 := (hK.1 5 (by decide) (by decide)).trans hz5
      have hr := (hr.off (hO 21 (Or.inr rfl)) (hO 22 (Or.inl rfl)))
      have hz6 : M1.1 19 6 = nI (wzB f L (wzA f L g)).2.1 := by
        rw [hBB, hK.2]
        split
        · rename_i q; rw [hz6, q]
        · rfl
      have hn5 := (pl_n (f := f) (L := L) (j := 5) (n := 0) (s := ex f L 59 (nu f L 1 30 (0, 0))) (g := g)).2
      dsimp only [zrst, List.cons_append, List.nil_append]
      exact rest M1 _ (by rw [hBB]; exact hR) (by rw [hBB]) (by rw [← hBB]; exact hsB.1) hz4 (fun _ => hz5) hz6 (fun q => ⟨hr.cong hn5 (fun i hi => wzB_lo hi), by rw [hBB] at q ⊢; exact hs q⟩) hF
      

set_option maxHeartbeats 4000000 in
set_option maxRecDepth 100000 in
theorem c3_takeWardrobe (l : Launch) {rw : List zC} {M0 : zM} : CT l false 1 0 0 yX3_takeWardrobe cX3_takeWardrobe 2 none [.ref 1, .ref 19] (zSh ++ rw) M0 (zG (zSh ++ rw) (fun v9 M9 => v9 = none ∧ (M9.1 1 0 = M0.1 19 5 ∧ M9.1 1 1 = M0.1 19 6 ∧ M9.1 1 2 = nI 0 ∧ M9.1 1 3 = nI 0 ∧ M9.1 1 4 = nI 0 ∧ M9.1 1 5 = nI 0 ∧ M9.1 1 6 = M0.1 19 4 ∧ M9.1 1 7 = M0.1 1 7 ∧ M9.1 1 8 = M0.1 1 8) ∧ (∀ j, j < 5 → M9.1 2 j = M0.1 21 j) ∧ (∀ j, j < 20 → M9.1 3 j = M0.1 22 j) ∧ (∀ j, j < 16 → M9.1 4 j = M0.1 23 j) ∧ zfr (PT 1) M0 M9)) := by
  refine CT.ofN (by decide) (fun _ _ => Nat.le_of_ble_eq_true rfl) ?_
  refine r_aload_n dX3_takeWardrobe_0 rfl rfl ?_
  refine r_aload_n dX3_takeWardrobe_1 rfl rfl ?_
  refine r_getV fl_X3_115 dX3_takeWardrobe_2 sh_19 rfl rfl ?_
  refine r_putI fl_X3_9 dX3_takeWardrobe_5 rfl rfl sh_1 rfl ?_
  refine r_aload_n dX3_takeWardrobe_8 rfl rfl ?_
  refine r_aload_n dX3_takeWardrobe_9 rfl rfl ?_
  refine r_getV fl_X3_118 dX3_takeWardrobe_10 sh_19 rfl rfl ?_
  refine r_putI fl_X3_46 dX3_takeWardrobe_13 rfl rfl sh_1 rfl ?_
  refine r_aload_n dX3_takeWardrobe_16 rfl rfl ?_
  refine r_aload_n dX3_takeWardrobe_17 rfl rfl ?_
  refine r_getV fl_X3_119 dX3_takeWardrobe_18 sh_19 rfl rfl ?_
  refine r_putI fl_X3_53 dX3_takeWardrobe_21 rfl rfl sh_1 rfl ?_
  refine r_aload_n dX3_takeWardrobe_24 rfl rfl ?_
  refine r_getR fl_X3_120 dX3_takeWardrobe_25 sh_19 rfl ?_
  refine r_iconst (v := nI 0) dX3_takeWardrobe_28 rfl ?_
  refine r_aload_n dX3_takeWardrobe_29 rfl rfl ?_
  refine r_getR fl_X3_21 dX3_takeWardrobe_30 sh_1 rfl ?_
  refine r_iconst (v := nI 0) dX3_takeWardrobe_33 rfl ?_
  refine r_aload_n dX3_takeWardrobe_34 rfl rfl ?_
  refine r_getR fl_X3_21 dX3_takeWardrobe_35 sh_1 rfl ?_
  refine r_alen (v := nI 5) dX3_takeWardrobe_38 sh_2 rfl ?_
  refine r_copyi ml_X3_100 dX3_takeWardrobe_39 sh_21 sh_2 (by decide) (by decide) (by decide) (by decide) (by decide) (by decide) (Nat.le_of_ble_eq_true rfl) ?_
  refine r_aload_n dX3_takeWardrobe_42 rfl rfl ?_
  refine r_getR fl_X3_121 dX3_takeWardrobe_43 sh_19 rfl ?_
  refine r_iconst (v := nI 0) dX3_takeWardrobe_46 rfl ?_
  refine r_aload_n dX3_takeWardrobe_47 rfl rfl ?_
  refine r_getR fl_X3_25 dX3_takeWardrobe_48 sh_1 rfl ?_
  refine r_iconst (v := nI 0) dX3_takeWardrobe_51 rfl ?_
  refine r_aload_n dX3_takeWardrobe_52 rfl rfl ?_
  refine r_getR fl_X3_25 dX3_takeWardrobe_53 sh_1 rfl ?_
  refine r_alen (v := nI 20) dX3_takeWardrobe_56 sh_3 rfl ?_
  refine r_copyi ml_X3_100 dX3_takeWardrobe_57 sh_22 sh_3 (by decide) (by decide) (by decide) (by decide) (by decide) (by decide) (Nat.le_of_ble_eq_true rfl) ?_
  refine r_aload_n dX3_takeWardrobe_60 rfl rfl ?_
  refine r_getR fl_X3_122 dX3_takeWardrobe_61 sh_19 rfl ?_
  refine r_iconst (v := nI 0) dX3_takeWardrobe_64 rfl ?_
  refine r_aload_n dX3_takeWardrobe_65 rfl rfl ?_
  refine r_getR fl_X3_28 dX3_takeWardrobe_66 sh_1 rfl ?_
  refine r_iconst (v := nI 0) dX3_takeWardrobe_69 rfl ?_
  refine r_aload_n dX3_takeWardrobe_70 rfl rfl ?_
  refine r_getR fl_X3_28 dX3_takeWardrobe_71 sh_1 rfl ?_
  refine r_alen (v := nI 16) dX3_takeWardrobe_74 sh_4 rfl ?_
  refine r_copyi ml_X3_100 dX3_takeWardrobe_75 sh_23 sh_4 (by decide) (by decide) (by decide) (by decide) (by decide) (by decide) (Nat.le_of_ble_eq_true rfl) ?_
  refine r_aload_n dX3_takeWardrobe_78 rfl rfl ?_
  refine r_iconst (v := nI 0) dX3_takeWardrobe_79 rfl ?_
  refine r_putI fl_X3_56 dX3_takeWardrobe_80 rfl rfl sh_1 rfl ?_
  refine r_aload_n dX3_takeWardrobe_83 rfl rfl ?_
  refine r_iconst (v := nI 0) dX3_takeWardrobe_84 rfl ?_
  refine r_putI fl_X3_65 dX3_takeWardrobe_85 rfl rfl sh_1 rfl ?_
  refine r_aload_n dX3_takeWardrobe_88 rfl rfl ?_
  refine r_iconst (v := nI 0) dX3_takeWardrobe_89 rfl ?_
  refine r_putI fl_X3_62 dX3_takeWardrobe_90 rfl rfl sh_1 rfl ?_
  refine r_aload_n dX3_takeWardrobe_93 rfl rfl ?_
  refine r_iconst (v := nI 0) dX3_takeWardrobe_94 rfl ?_
  refine r_putI fl_X3_59 dX3_takeWardrobe_95 rfl rfl sh_1 rfl ?_
  refine r_vret dX3_takeWardrobe_98 rfl (by decide) (by decide) ?_
  refine ⟨rfl, rfl, ⟨rfl, rfl, rfl, rfl, rfl, rfl, rfl, rfl, rfl⟩, fun j hj => ?_, fun j hj => ?_, fun j hj => ?_, ?_⟩
  · refine (show _ = va_cpy (M0.1 21) (M0.1 2) 0 0 5 j from rfl).trans ?_
    rw [pk_cpy_in (Nat.zero_le _) (by omega)]
    exact congrArg _ (by omega)
  · refine (show _ = va_cpy (M0.1 22) (M0.1 3) 0 0 20 j from rfl).trans ?_
    rw [pk_cpy_in (Nat.zero_le _) (by omega)]
    exact congrArg _ (by omega)
  · refine (show _ = va_cpy (M0.1 23) (M0.1 4) 0 0 16 j from rfl).trans ?_
    rw [pk_cpy_in (Nat.zero_le _) (by omega)]
    exact congrArg _ (by omega)
  · exact (((((((((zfr_I ⟨by decide, by decide⟩).trans (zfr_I ⟨by decide, by decide⟩)).trans (zfr_I ⟨by decide, by decide⟩)).trans (zfr_I ⟨by decide, by decide⟩)).trans (zfr_I ⟨by decide, by decide⟩)).trans (zfr_I ⟨by decide, by decide⟩)).trans (zfr_I ⟨by decide, by decide⟩)).trans (zfr_I ⟨by decide, by decide⟩)).trans (zfr_I ⟨by decide, by decide⟩)).trans (zfr_I ⟨by decide, by decide⟩)

theorem SI_ward {t : Nat → Nat → Nat} {M M1 M2 : zM} (hS : SI 1 (t 35) (t 38) (t 34 7) M) (h0 : wE t = 0) (hF : zfr PQ M M1) (h4 : M1.1 19 4 = nI (nv (t 36) (t 34 2) 0)) (h5 : M1.1 19 5 = nI (wA t).2.1) (h6 : M1.1 19 6 = nI (wB t).2.1) (hr : RW (wA t).2.1 (wB t).2.2 M1) (hs : SW (wB t).2.1 (wB t).2.2 M1)
  (m : M2.1 1 0 = M1.1 19 5 ∧ M2.1 1 1 = M1.1 19 6 ∧ M2.1 1 2 = nI 0 ∧ M2.1 1 3 = nI 0 ∧ M2.1 1 4 = nI 0 ∧ M2.1 1 5 = nI 0 ∧ M2.1 1 6 = M1.1 19 4 ∧ M2.1 1 7 = M1.1 1 7 ∧ M2.1 1 8 = M1.1 1 8) (m2 : ∀ j, j < 5 → M2.1 2 j = M1.1 21 j) (m3 : ∀ j, j < 20 → M2.1 3 j = M1.1 22 j) (m4 : ∀ j, j < 16 → M2.1 4 j = M1.1 23 j) : SI 1 (w35 t) (t 38) (w7 t) M2 := by
  have e0 : w35 t 0 = (wA t).2.1 := by unfold w35; rw [if_pos h0]; rfl
  have e1 : w35 t 1 = (wB t).2.1 := by unfold w35; rw [if_pos h0]; rfl
  have e2 : w35 t 2 = 0 := by unfold w35; rw [if_pos h0]; rfl
  have e3 : w35 t 3 = 0 := by unfold w35; rw [if_pos h0]; rfl
  have e4 : w35 t 4 = nv (t 36) (t 34 2) 0 := by unfold w35; rw [if_pos h0]; rfl
  have e5 : w35 t 5 = t 35 5 := by unfold w35; rw [if_pos h0]; rfl
  have e6 : w35 t 6 = 0 := by unfold w35; rw [if_pos h0]; rfl
  have e7 : w35 t 7 = t 35 7 := by unfold w35; rw [if_pos h0]; rfl
  have e8 : ∀ j, j < 41 → w35 t (8 + j) = (wB t).2.2 j := fun j hj => by
    unfold w35
    rw [if_pos h0, if_pos (by omega), show 8 + j - 8 = j by omega]
  have ew : w7 t = 0 := if_pos h0
  have n5 : (wA t).2.1 ≤ 5 := (pl_n (f := t 36) (L := t 34 2) (j := 5) (n := 0) (s := ex (t 36) (t 34 2) 59 (nu (t 36) (t 34 2) 1 30 (0, 0))) (g := t 37)).2
  have n4 : (wB t).2.1 ≤ 4 := by
    unfold wB wzB
    split
    · exact sl_n.2
    · exact Nat.zero_le _
  have c1 : M1.1 1 = M.1 1 := (hF 1 (by unfold PQ; omega)).1
  refine ⟨⟨?_, ?_, ?_, ?_, ?_, ?_, ?_, ?_, ?_⟩, fun p hp => ?_, fun p m' hp hm => ?_, fun s m' hs' hm => ?_, fun d hd => ?_, fun i hi => ?_⟩
  · rw [m.1, h5, e0]
  · rw [m.2.1, h6, e1]
  · rw [m.2.2.1, e2]
  · rw [m.2.2.2.1, e6]
  · rw [m.2.2.2.2.1, e3]
  · rw [m.2.2.2.2.2.1, ew]
  · rw [m.2.2.2.2.2.2.1, h4, e4]
  · rw [m.2.2.2.2.2.2.2.1, c1, e5]; exact hS.f7
  · rw [m.2.2.2.2.2.2.2.2, c1, e7]; exact hS.f8
  · rw [e0] at hp
    rw [m2 p (by omega), (hr p hp).1, e8 _ (by omega)]
  · rw [e0] at hp
    rw [m3 (p * 4 + m') (by omega), (hr p hp).2 m' hm, show 8 + 5 * p + 1 + m' = 8 + (5 * p + 1 + m') by omega, e8 _ (by omega)]
  · rw [e1] at hs'
    rw [m4 (s * 4 + m') (by omega), hs s hs' m' hm, show 33 + 4 * s + m' = 8 + (25 + 4 * s + m') by omega, e8 _ (by omega)]
  · rw [e2] at hd; exact absurd hd (by omega)
  · rw [ew] at hi; exact absurd hi (by omega)
theorem SI_same {t : Nat → Nat → Nat} {M M1 : zM} (hS : SI 1 (t 35) (t 38) (t 34 7) M) (h0 : ¬ wE t = 0) (hF : zfr PQ M M1) : SI 1 (w35 t) (t 38) (w7 t) M1 := by
  have e : w35 t = t 35 := by
    funext j
    exact if_neg h0
  have e7 : w7 t = t 34 7 := if_neg h0
  rw [e, e7]
  have c : ∀ i, i ≤ 9 → M1.1 i = M.1 i := fun i hi => (hF i (by unfold PQ; omega)).1
  obtain ⟨h1, h2, h3, h4, h5, h6⟩ := hS
  refine ⟨?_, ?_, ?_, ?_, ?_, ?_⟩
  · rw [c 1 (by omega)]; exact h1
  · rw [c 2 (by omega)]; exact h2
  · rw [c 3 (by omega)]; exact h3
  · rw [c 4 (by omega)]; exact h4
  · rw [c 5 (by omega), c 6 (by omega), c 7 (by omega), c 8 (by omega)]; exact h5
  · rw [c 9 (by omega)]; exact h6
set_option maxHeartbeats 4000000 in
set_option maxRecDepth 100000 in
theorem c4_wardrobe (l : Launch) {rw : List zC} {M0 : zM} {t : Nat → Nat → Nat} (hS : SI 1 (t 35) (t 38) (t 34 7) M0) (hT : TI t M0) (hB : TB (t 36) (t 34 2)) : CT l false 7 0 0 yX4_wardrobe cX4_wardrobe 2 (some .int) [.ref 0] (zSh ++ rw) M0 (zG (zSh ++ rw) (fun v9 M9 => v9 = some (.int (sp_wardrobe t)) ∧ SI 1 (w35 t) (t 38) (w7 t) M9 ∧ M9.1 19 1 = nI 0 ∧ zfr (fun i => PT 1 i ∨ PQ i) M0 M9)) := by
  refine CT.ofN (by decide) (fun _ _ => Nat.le_of_ble_eq_true rfl) ?_
  refine r_aload_n dX4_wardrobe_0 rfl rfl ?_
  refine r_getR fl_X4_22 dX4_wardrobe_1 sh_0 rfl ?_
  refine r_cV0G mv_X1_readAll ml_X4_129 (c1_readAll (g := t 37) l hT.1 hT.2 hB) dX4_wardrobe_4 (Nat.le_of_ble_eq_true rfl) ⟨by decide, by decide⟩ ⟨by decide, by decide⟩ sh_19 rfl (fun _ h => nomatch h) (fun v M1 hq => ?_)
  obtain ⟨rfl, hF, hA⟩ := hq
  have hE9 : wE t ≤ t 34 2 + 1 := wzE_k (wzB_k wzA_k)
  have hL := hB.1
  dsimp only [zrst, List.cons_append, List.nil_append]
  refine r_istore_n dX4_wardrobe_7 rfl rfl (by decide) ?_
  refine r_aload_n dX4_wardrobe_8 rfl rfl ?_
  refine r_getR fl_X4_22 dX4_wardrobe_9 sh_0 rfl ?_
  refine r_iconst (v := nI 0) dX4_wardrobe_12 rfl ?_
  refine r_putI fl_X4_123 dX4_wardrobe_13 rfl rfl sh_19 rfl ?_
  refine r_gen (fun M hM => ?_)
  have h9 : ∀ i, i ≠ 19 → M.1 i = M1.1 i := fun i hi => by subst hM; exact (zI_ne i hi).1
  have h19 : M.1 19 = upd (M1.1 19) 1 (nI 0) := by subst hM; exact zI_at
  have hF : zfr PQ M0 M := hF.trans (by subst hM; exact zfr_I (Or.inl rfl))
  have hl0 : M.1 19 1 = nI 0 := by rw [h19]; exact pk_us
  refine r_iload_n dX4_wardrobe_16 rfl rfl ?_
  refine r_iconst (v := (-1)) dX4_wardrobe_17 rfl ?_
  refine r_icmp_eq (tgt := 26) dX4_wardrobe_18 (by decide) (fun c1 => ?_) (fun c1 => ?_)
  · have g1 : wE t = 0 := (fI_0 (Nat.le_trans hE9 (by omega))).mp c1
    obtain ⟨z4, z5, z6, z7, z8⟩ := hA g1
    refine r_aload_n dX4_wardrobe_26 rfl rfl ?_
    refine r_getR fl_X4_10 dX4_wardrobe_27 sh_0 rfl ?_
    refine r_aload_n dX4_wardrobe_30 rfl rfl ?_
    refine r_getR fl_X4_22 dX4_wardrobe_31 sh_0 rfl ?_
    refine r_cV1G mv_X3_takeWardrobe ml_X4_133 (c3_takeWardrobe l) dX4_wardrobe_34 (Nat.le_of_ble_eq_true rfl) ⟨by decide, by decide⟩ ⟨by decide, by decide⟩ sh_1 rfl (fun _ h => nomatch h) (fun v M1 hq => ?_)
    obtain ⟨rfl, m1, m2, m3, m4, hF2⟩ := hq
    have hS9 := SI_ward hS g1 hF (by rw [h19, pk_un (by decide)]; exact z4) (by rw [h19, pk_un (by decide)]; exact z5) (by rw [h19, pk_un (by decide)]; exact z6) (z7.off (h9 21 (by decide)) (h9 22 (by decide))) (z8.off (h9 23 (by decide))) m1 m2 m3 m4
    have hz0 := hS9.f0
    have e0 : w35 t 0 = (wA t).2.1 := by unfold w35; rw [if_pos g1]; rfl
    dsimp only [zrst, List.cons_append, List.nil_append]
    refine r_aload_n dX4_wardrobe_37 rfl rfl ?_
    refine r_getR fl_X4_10 dX4_wardrobe_38 sh_0 rfl ?_
    refine r_getV fl_X4_45 dX4_wardrobe_41 sh_1 rfl hz0 ?_
    refine r_iret dX4_wardrobe_44 rfl (by decide) (by decide) ?_
    refine ⟨rfl, congrArg (fun x => some (Value.int x)) ?_, hS9, (hF2.off1 (by decide)).trans hl0, (hF.wk (fun i q => Or.inr q)).trans (hF2.wk (fun i q => Or.inl q))⟩
    rw [sp_wardrobe, if_pos g1, e0]
  · have g1 : ¬ wE t = 0 := fun q => c1 ((fI_0 (Nat.le_trans hE9 (by omega))).mpr q)
    refine r_bipush (v := (-20)) dX4_wardrobe_21 rfl ?_
    refine r_iload_n dX4_wardrobe_23 rfl rfl ?_
    refine r_isub dX4_wardrobe_24 ?_
    refine r_iret dX4_wardrobe_25 rfl (by decide) (by decide) ?_
    refine ⟨rfl, congrArg (fun x => some (Value.int x)) ?_, SI_same hS g1 hF, hl0, hF.wk (fun i q => Or.inr q)⟩
    rw [sp_wardrobe, if_neg g1]
    rfl

