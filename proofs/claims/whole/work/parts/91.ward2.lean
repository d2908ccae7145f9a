/-! what the reader of the class holds behind people and suits -/
def PQ : Nat → Prop := fun i => i = 19 ∨ (21 ≤ i ∧ i ≤ 23)
def PK (i : Nat) (M0 M : zM) (n : Nat) : Prop := (∀ k, 4 ≤ k → k ≠ i → M.1 19 k = M0.1 19 k) ∧ M.1 19 i = if n = 0 then M0.1 19 i else nI n
theorem PK.w {i n : Nat} {P : Nat → Prop} {M0 M M' : zM} (h : PK i M0 M n) (hi : 4 ≤ i) (hw : WF P M M') : PK i M0 M' n := ⟨fun k hk hn => (hw.1 k hk).trans (h.1 k hk hn), (hw.1 i hi).trans h.2⟩
theorem PK.set {i n : Nat} {M0 M M' : zM} (h : PK i M0 M n) (hm : M'.1 19 = upd (M.1 19) i (nI (n + 1))) : PK i M0 M' (n + 1) := ⟨fun k hk hn => by rw [hm, pk_un hn]; exact h.1 k hk hn, by rw [hm, pk_us, if_neg (by omega)]⟩
theorem WF.pq1 {M M' : zM} (h : WF W1 M M') : zfr PQ M M' := h.2.wk (fun i q => Or.inl q)
theorem WF.pq {c : Nat} {M M' : zM} (h : WF (W2 c) M M') (hc : 21 ≤ c ∧ c ≤ 23) : zfr PQ M M' := h.2.wk (fun i q => q.elim Or.inl (fun r => Or.inr (by omega)))
theorem W1.pq {M M' : zM} (h : zfr W1 M M') : zfr PQ M M' := h.wk (fun i q => Or.inl q)
theorem RW.off {k : Nat} {g : Nat → Nat} {M M' : zM} (h : RW k g M) (h1 : M'.1 21 = M.1 21) (h2 : M'.1 22 = M.1 22) : RW k g M' := fun q hq => ⟨by rw [h1]; exact (h q hq).1, fun m hm => by rw [h2]; exact (h q hq).2 m hm⟩
theorem SW.off {k : Nat} {g : Nat → Nat} {M M' : zM} (h : SW k g M) (h1 : M'.1 23 = M.1 23) : SW k g M' := fun q hq m hm => by rw [h1]; exact h q hq m hm
theorem WF.of1 {M M' : zM} (h : WF W1 M M') {i : Nat} (hi : i ≠ 19) : M'.1 i = M.1 i := (h.2 i hi).1
theorem WF.of2 {c : Nat} {M M' : zM} (h : WF (W2 c) M M') {i : Nat} (hi : i ≠ 19) (hc : i ≠ c) : M'.1 i = M.1 i := (h.2 i (fun q => q.elim hi hc)).1
theorem wpS_k {f : Nat → Nat} {L n : Nat} {s : Nat × Nat} (h : SK L s) (h2 : n = 0 ∨ (wh f L s.1 < L ∧ f (wh f L s.1) = 44)) : SK L (wpS f L n s) := fs_k (ki_k (sc_k h (h2.elim Or.inl (fun q => Or.inr q.1)))) 4
theorem wtS_k {f : Nat → Nat} {L n : Nat} {s : Nat × Nat} (h : SK L s) (h2 : n = 0 ∨ (wh f L s.1 < L ∧ f (wh f L s.1) = 44)) : SK L (wtS f L n s) := fs_k (sc_k h (h2.elim Or.inl (fun q => Or.inr q.1))) 4
theorem pl_k {f : Nat → Nat} {L : Nat} : ∀ {j n : Nat} {s : Nat × Nat} {g : Nat → Nat}, SK L s → SK L (pl f L j n s g).1
  | 0, n, s, g, h => h
  | j + 1, n, s, g, h => by
    by_cases h0 : s.2 = 0
    · by_cases h2 : n ≠ 0 ∧ ¬ (wh f L s.1 < L ∧ f (wh f L s.1) = 44)
      · rw [pl_x h0 h2]; exact ⟨(wh_b h.1).2.1, h.2⟩
      · have h3 : n = 0 ∨ (wh f L s.1 < L ∧ f (wh f L s.1) = 44) := Decidable.byContradiction (fun q => h2 ⟨fun r => q (Or.inl r), fun r => q (Or.inr r)⟩)
        rw [pl_s h0 h3]; exact pl_k (wpS_k h h3)
    · rw [pl_e h0]; exact h
theorem sl_k {f : Nat → Nat} {L : Nat} : ∀ {j n : Nat} {s : Nat × Nat} {g : Nat → Nat}, SK L s → SK L (sl f L j n s g).1
  | 0, n, s, g, h => h
  | j + 1, n, s, g, h => by
    by_cases h0 : s.2 = 0
    · by_cases h2 : n ≠ 0 ∧ ¬ (wh f L s.1 < L ∧ f (wh f L s.1) = 44)
      · rw [sl_x h0 h2]; exact ⟨(wh_b h.1).2.1, h.2⟩
      · have h3 : n = 0 ∨ (wh f L s.1 < L ∧ f (wh f L s.1) = 44) := Decidable.byContradiction (fun q => h2 ⟨fun r => q (Or.inl r), fun r => q (Or.inr r)⟩)
        rw [sl_s h0 h3]; exact sl_k (wtS_k h h3)
    · rw [sl_e h0]; exact h
theorem pl_n {f : Nat → Nat} {L : Nat} : ∀ {j n : Nat} {s : Nat × Nat} {g : Nat → Nat}, n ≤ (pl f L j n s g).2.1 ∧ (pl f L j n s g).2.1 ≤ n + j
  | 0, n, s, g => ⟨Nat.le_refl _, Nat.le_refl _⟩
  | j + 1, n, s, g => by
    rw [pl]
    split
    · exact ⟨Nat.le_refl _, by simp only []; omega⟩
    · split
      · exact ⟨Nat.le_refl _, by simp only []; omega⟩
      · have h := pl_n (f := f) (L := L) (j := j) (n := n + 1) (s := wpS f L n s) (g := wpG f L n s g)
        omega
theorem sl_n {f : Nat → Nat} {L : Nat} : ∀ {j n : Nat} {s : Nat × Nat} {g : Nat → Nat}, n ≤ (sl f L j n s g).2.1 ∧ (sl f L j n s g).2.1 ≤ n + j
  | 0, n, s, g => ⟨Nat.le_refl _, Nat.le_refl _⟩
  | j + 1, n, s, g => by
    rw [sl]
    split
    · exact ⟨Nat.le_refl _, by simp only []; omega⟩
    · split
      · exact ⟨Nat.le_refl _, by simp only []; omega⟩
      · have h := sl_n (f := f) (L := L) (j := j) (n := n + 1) (s := wtS f L n s) (g := wtG f L n s g)
        omega
/-- without a fault somebody was read -/
theorem pl_1 {f : Nat → Nat} {L : Nat} {s : Nat × Nat} {g : Nat → Nat} (h : (pl f L 5 0 s g).1.2 = 0) : (pl f L 5 0 s g).2.1 ≠ 0 := by
  by_cases h0 : s.2 = 0
  · rw [pl_s h0 (Or.inl rfl)]
    have h := pl_n (f := f) (L := L) (j := 4) (n := 0 + 1) (s := wpS f L 0 s) (g := wpG f L 0 s g)
    omega
  · rw [pl_e h0] at h
    exact absurd h h0
/-- suits leave the people alone -/
theorem sl_lo {f : Nat → Nat} {L : Nat} {i : Nat} (hi : i < 25) : ∀ {j n : Nat} {s : Nat × Nat} {g : Nat → Nat}, (sl f L j n s g).2.2 i = g i
  | 0, n, s, g => rfl
  | j + 1, n, s, g => by
    rw [sl]
    split
    · rfl
    · split
      · rfl
      · rw [sl_lo hi]
        show (if _ then _ else _) = _
        rw [if_neg (by omega)]
set_option maxHeartbeats 4000000 in
set_option maxRecDepth 100000 in
theorem c1_readPeople (l : Launch) {rw : List zC} {M0 : zM} {f : Nat → Nat} {L a e : Nat} {g : Nat → Nat} (hR : RS f L a e M0) (hB : TB f L) (ha : a ≤ L) (he : e ≤ L + 1) : CT l false 5 0 0 yX1_readPeople cX1_readPeople 2 none [.ref 19] (zSh ++ rw) M0 (zG (zSh ++ rw) (fun v9 M9 => v9 = none ∧ RS f L (pl f L 5 0 (a, e) g).1.1 (pl f L 5 0 (a, e) g).1.2 M9 ∧ PK 5 M0 M9 (pl f L 5 0 (a, e) g).2.1 ∧ zfr PQ M0 M9 ∧ (∀ i, 23 = i ∨ 23 = i → M9.1 i = M0.1 i) ∧ ((pl f L 5 0 (a, e) g).1.2 = 0 → RW (pl f L 5 0 (a, e) g).2.1 (pl f L 5 0 (a, e) g).2.2 M9))) := by
  refine CT.ofN (by decide) (fun _ _ => Nat.le_of_ble_eq_true rfl) ?_
  have hW : WF W1 M0 M0 := WF.rf
  have hL := hB.1
  have hwb := wh_b (f := f) ha
  refine r_iconst (v := nI 0) dX1_readPeople_0 rfl ?_
  refine r_istore_n dX1_readPeople_1 rfl rfl (by decide) ?_
  have loop : ∀ (j k : Nat) (M : zM) (a1 e1 : Nat) (g1 : Nat → Nat) (hR : RS f L a1 e1 M) (ha1 : a1 ≤ L) (he1 : e1 ≤ L + 1) (hK : PK 5 M0 M k) (hF : zfr PQ M0 M) (hO : ∀ i, 23 = i ∨ 23 = i → M.1 i = M0.1 i) (hp : pl f L 5 0 (a, e) g = pl f L (5 - k) k (a1, e1) g1) (hr : e1 = 0 → RW k g1 M), k ≤ 5 → 5 < k + j → RA l none (zR 5 0 0) yX1_readPeople cX1_readPeople 2 none (zG (zSh ++ rw) (fun v9 M9 => v9 = none ∧ RS f L (pl f L 5 0 (a, e) g).1.1 (pl f L 5 0 (a, e) g).1.2 M9 ∧ PK 5 M0 M9 (pl f L 5 0 (a, e) g).2.1 ∧ zfr PQ M0 M9 ∧ (∀ i, 23 = i ∨ 23 = i → M9.1 i = M0.1 i) ∧ ((pl f L 5 0 (a, e) g).1.2 = 0 → RW (pl f L 5 0 (a, e) g).2.1 (pl f L 5 0 (a, e) g).2.2 M9))) 0 0 2 [some (.ref 19), some (.int (nI k))] [] (zSh ++ rw) M := by
    intro j
    induction j with
    | zero => intro k M a1 e1 g1 hR ha1 he1 hK hF hO hp hr hk hj; exact absurd hj (by omega)
    | succ j ih =>
      intro k M a1 e1 g1 hR ha1 he1 hK hF hO hp hr hk hj
      refine r_iload_n dX1_readPeople_2 rfl rfl ?_
      refine r_iconst (v := nI 5) dX1_readPeople_3 rfl ?_
      first | refine r_icmp_geN (tgt := 67) dX1_readPeople_4 (by decide) (by omega) (by omega) (fun c1 => ?_) (fun c1 => ?_) | refine r_icmp_ge (tgt := 67) dX1_readPeople_4 (by decide) (fun c1 => ?_) (fun c1 => ?_)
      · have hx : pl f L 5 0 (a, e) g = ((a1, e1), k, g1) := by rw [hp, show 5 - k = 0 by omega, pl]
        refine r_vret dX1_readPeople_67 rfl (by decide) (by decide) ?_
        refine ⟨rfl, rfl, ?_, ?_, hF, hO, ?_⟩ <;> rw [hx]
        · exact hR
        · exact hK
        · exact hr
      · refine r_aload_n dX1_readPeople_7 rfl rfl ?_
        refine r_getV fl_X1_31 dX1_readPeople_8 sh_19 rfl hR.2.2.1 ?_
        refine r_iconst (v := (-1)) dX1_readPeople_11 rfl ?_
        refine r_icmp_ne (tgt := 67) dX1_readPeople_12 (by decide) (fun c2 => ?_) (fun c2 => ?_)
        · have g9 := fun q => c2 ((fI_0 (by omega)).mpr q)
          have hx : pl f L 5 0 (a, e) g = ((a1, e1), k, g1) := by rw [hp]; exact pl_e g9
          refine r_vret dX1_readPeople_67 rfl (by decide) (by decide) ?_
          refine ⟨rfl, rfl, ?_, ?_, hF, hO, ?_⟩ <;> rw [hx]
          · exact hR
          · exact hK
          · exact hr
        · have g9 := (fI_0 (by omega)).mp c2
          refine r_iload_n dX1_readPeople_15 rfl rfl ?_
          first | refine r_if_leN (tgt := 31) dX1_readPeople_16 (by decide) (by omega) (fun c3 => ?_) (fun c3 => ?_) | refine r_if_le (tgt := 31) dX1_readPeople_16 (by decide) (fun c3 => ?_) (fun c3 => ?_)
          · have hsc : sc f L k (a1, e1) = (a1, e1) := if_pos c3
            have hck : k = 0 ∨ (wh f L a1 < L ∧ f (wh f L a1) = 44) := Or.inl c3
            have hk1 := ha1
            refine r_aload_n dX1_readPeople_31 rfl rfl ?_
            refine r_getR fl_X1_15 dX1_readPeople_32 sh_19 rfl ?_
            refine r_iload_n dX1_readPeople_35 rfl rfl ?_
            refine r_aload_n dX1_readPeople_36 rfl rfl ?_
            refine r_cV0G mv_X1_readKind ml_X1_62 (c1_readKind l hR hB hk1 he1) dX1_readPeople_37 (Nat.le_of_ble_eq_true rfl) ⟨by decide, by decide⟩ ⟨by decide, by decide⟩ sh_19 rfl (fun _ h => nomatch h) (fun v M1 hq => ?_)
            obtain ⟨rfl, hR, hW1⟩ := hq
            have hO := fun i hi => (hW1.of1 (by omega)).trans (hO i hi)
            have hK := hK.w (by decide) hW1
            have hF := hF.trans hW1.pq1
            have hr := fun q => (hr q).off (hW1.of1 (by decide)) (hW1.of1 (by decide))
            dsimp only [zrst, List.cons_append, List.nil_append]
            refine r_rowK hR dX1_readPeople_40 sh_21 (by omega) (by decide) (by decide) (by decide) (fun M hR h21 hW1 h9 => ?_)
            have hK := hK.w (by decide) hW1
            have hF := hF.trans (hW1.pq ⟨by decide, by decide⟩)
            have hO := fun i hi => (h9 i (by omega)).trans (hO i hi)
            have e22 := h9 22 (by decide)
            refine r_aload_n dX1_readPeople_41 rfl rfl ?_
            refine r_aload_n dX1_readPeople_42 rfl rfl ?_
            refine r_getR fl_X1_18 dX1_readPeople_43 sh_19 rfl ?_
            refine r_iload_n dX1_readPeople_46 rfl rfl ?_
            refine r_bipush (v := nI 10) dX1_readPeople_47 rfl ?_
            refine r_bipush (v := nI 99) dX1_readPeople_49 rfl ?_
            refine r_cV4G mv_X1_readFour ml_X1_65 (c1_readFour22 l hR hB (ki_k ⟨hk1, he1⟩).1 (ki_k ⟨hk1, he1⟩).2 (by omega) (by decide) (by decide)) dX1_readPeople_51 (Nat.le_of_ble_eq_true rfl) ⟨by decide, by decide⟩ ⟨by decide, by decide⟩ sh_19 rfl (fun _ h => nomatch h) (fun v M1 hq => ?_)
            obtain ⟨rfl, hR, hW1, h22⟩ := hq
            have hK := hK.w (by decide) hW1
            have hF := hF.trans (hW1.pq ⟨by decide, by decide⟩)
            have hO := fun i hi => (hW1.of2 (by omega) (by omega)).trans (hO i hi)
            have h21 := (hW1.of2 (i := 21) (by decide) (by decide)).trans h21
            rw [e22] at h22
            dsimp only [zrst, List.cons_append, List.nil_append]
            refine r_aload_n dX1_readPeople_54 rfl rfl ?_
            refine r_iload_n dX1_readPeople_55 rfl rfl ?_
            refine r_iconst (v := nI 1) dX1_readPeople_56 rfl ?_
            first | refine r_iaddN dX1_readPeople_57 ?_ | refine r_iadd dX1_readPeople_57 ?_
            refine r_S4 hR (by decide) fl_X1_69 dX1_readPeople_58 sh_19 rfl (fun M hR h19 hF1 h9 => ?_)
            have hK := hK.set h19
            have hF := hF.trans (W1.pq hF1)
            have hO := fun i hi => (h9 i (by omega)).trans (hO i hi)
            have hr9 : RW (k + 1) (wpG f L k (a1, e1) g1) M := by
              unfold wpG
              rw [hsc]
              exact RW_s (hr g9) ((h9 21 (by decide)).trans h21) ((h9 22 (by decide)).trans h22)
            have hR9 : RS f L (wpS f L k (a1, e1)).1 (wpS f L k (a1, e1)).2 M := by
              unfold wpS
              rw [hsc]
              exact hR
            have hsk9 := wpS_k (f := f) (n := k) (show SK L (a1, e1) from ⟨ha1, he1⟩) hck
            first | refine r_iincN dX1_readPeople_61 rfl rfl (by decide) ?_ | refine r_iinc dX1_readPeople_61 rfl rfl rfl (by decide) ?_
            refine r_goto (tgt := 2) dX1_readPeople_64 (by decide) ?_
            exact ih (k + 1) M _ _ (wpG f L k (a1, e1) g1) hR9 hsk9.1 hsk9.2 hK hF hO (by rw [hp, show 5 - k = (5 - (k + 1)) + 1 by omega]; exact pl_s g9 hck) (fun _ => hr9) (by omega) (by omega)
          · refine r_aload_n dX1_readPeople_19 rfl rfl ?_
            refine r_bipush (v := nI 44) dX1_readPeople_20 rfl ?_
            refine r_cV1G mv_X1_took ml_X1_58 (c1_took l hR hB ha1 he1 (by decide)) dX1_readPeople_22 (Nat.le_of_ble_eq_true rfl) ⟨by decide, by decide⟩ ⟨by decide, by decide⟩ sh_19 rfl (fun _ h => nomatch h) (fun v M1 hq => ?_)
            obtain ⟨rfl, hR, hW1⟩ := hq
            have hO := fun i hi => (hW1.of1 (by omega)).trans (hO i hi)
            have hK := hK.w (by decide) hW1
            have hF := hF.trans hW1.pq1
            have hr := fun q => (hr q).off (hW1.of1 (by decide)) (hW1.of1 (by decide))
            dsimp only [zrst, List.cons_append, List.nil_append]
            first | refine r_if_neB (tgt := 31) dX1_readPeople_25 (by decide) (fun c4 => ?_) (fun c4 => ?_) | refine r_if_neN (tgt := 31) dX1_readPeople_25 (by decide) (by omega) (fun c4 => ?_) (fun c4 => ?_) | refine r_if_ne (tgt := 31) dX1_readPeople_25 (by decide) (fun c4 => ?_) (fun c4 => ?_)
            · rw [tkA, if_pos c4] at hR
              have hsc : sc f L k (a1, e1) = (wh f L a1 + 1, e1) := if_neg (by omega)
              have hck : k = 0 ∨ (wh f L a1 < L ∧ f (wh f L a1) = 44) := Or.inr c4
              have hk1 : wh f L a1 + 1 ≤ L := c4.1
              refine r_aload_n dX1_readPeople_31 rfl rfl ?_
              refine r_getR fl_X1_15 dX1_readPeople_32 sh_19 rfl ?_
              refine r_iload_n dX1_readPeople_35 rfl rfl ?_
              refine r_aload_n dX1_readPeople_36 rfl rfl ?_
              refine r_cV0G mv_X1_readKind ml_X1_62 (c1_readKind l hR hB hk1 he1) dX1_readPeople_37 (Nat.le_of_ble_eq_true rfl) ⟨by decide, by decide⟩ ⟨by decide, by decide⟩ sh_19 rfl (fun _ h => nomatch h) (fun v M1 hq => ?_)
              obtain ⟨rfl, hR, hW1⟩ := hq
              have hO := fun i hi => (hW1.of1 (by omega)).trans (hO i hi)
              have hK := hK.w (by decide) hW1
              have hF := hF.trans hW1.pq1
              have hr := fun q => (hr q).off (hW1.of1 (by decide)) (hW1.of1 (by decide))
              dsimp only [zrst, List.cons_append, List.nil_append]
              refine r_rowK hR dX1_readPeople_40 sh_21 (by omega) (by decide) (by decide) (by decide) (fun M hR h21 hW1 h9 => ?_)
              have hK := hK.w (by decide) hW1
              have hF := hF.trans (hW1.pq ⟨by decide, by decide⟩)
              have hO := fun i hi => (h9 i (by omega)).trans (hO i hi)
              have e22 := h9 22 (by decide)
              refine r_aload_n dX1_readPeople_41 rfl rfl ?_
              refine r_aload_n dX1_readPeople_42 rfl rfl ?_
              refine r_getR fl_X1_18 dX1_readPeople_43 sh_19 rfl ?_
              refine r_iload_n dX1_readPeople_46 rfl rfl ?_
              refine r_bipush (v := nI 10) dX1_readPeople_47 rfl ?_
              refine r_bipush (v := nI 99) dX1_readPeople_49 rfl ?_
              refine r_cV4G mv_X1_readFour ml_X1_65 (c1_readFour22 l hR hB (ki_k ⟨hk1, he1⟩).1 (ki_k ⟨hk1, he1⟩).2 (by omega) (by decide) (by decide)) dX1_readPeople_51 (Nat.le_of_ble_eq_true rfl) ⟨by decide, by decide⟩ ⟨by decide, by decide⟩ sh_19 rfl (fun _ h => nomatch h) (fun v M1 hq => ?_)
              obtain ⟨rfl, hR, hW1, h22⟩ := hq
              have hK := hK.w (by decide) hW1
              have hF := hF.trans (hW1.pq ⟨by decide, by decide⟩)
              have hO := fun i hi => (hW1.of2 (by omega) (by omega)).trans (hO i hi)
              have h21 := (hW1.of2 (i := 21) (by decide) (by decide)).trans h21
              rw [e22] at h22
              dsimp only [zrst, List.cons_append, List.nil_append]
              refine r_aload_n dX1_readPeople_54 rfl rfl ?_
              refine r_iload_n dX1_readPeople_55 rfl rfl ?_
              refine r_iconst (v := nI 1) dX1_readPeople_56 rfl ?_
              first | refine r_iaddN dX1_readPeople_57 ?_ | refine r_iadd dX1_readPeople_57 ?_
              refine r_S4 hR (by decide) fl_X1_69 dX1_readPeople_58 sh_19 rfl (fun M hR h19 hF1 h9 => ?_)
              have hK := hK.set h19
              have hF := hF.trans (W1.pq hF1)
              have hO := fun i hi => (h9 i (by omega)).trans (hO i hi)
              have hr9 : RW (k + 1) (wpG f L k (a1, e1) g1) M := by
                unfold wpG
                rw [hsc]
                exact RW_s (hr g9) ((h9 21 (by decide)).trans h21) ((h9 22 (by decide)).trans h22)
              have hR9 : RS f L (wpS f L k (a1, e1)).1 (wpS f L k (a1, e1)).2 M := by
                unfold wpS
                rw [hsc]
                exact hR
              have hsk9 := wpS_k (f := f) (n := k) (show SK L (a1, e1) from ⟨ha1, he1⟩) hck
              first | refine r_iincN dX1_readPeople_61 rfl rfl (by decide) ?_ | refine r_iinc dX1_readPeople_61 rfl rfl rfl (by decide) ?_
              refine r_goto (tgt := 2) dX1_readPeople_64 (by decide) ?_
              exact ih (k + 1) M _ _ (wpG f L k (a1, e1) g1) hR9 hsk9.1 hsk9.2 hK hF hO (by rw [hp, show 5 - k = (5 - (k + 1)) + 1 by omega]; exact pl_s g9 hck) (fun _ => hr9) (by omega) (by omega)
            · rw [tkA, if_neg c4] at hR
              have hx : pl f L 5 0 (a, e) g = ((wh f L a1, e1), k, g1) := by rw [hp, show 5 - k = (4 - k) + 1 by omega]; exact pl_x g9 ⟨by omega, c4⟩
              refine r_goto (tgt := 67) dX1_readPeople_28 (by decide) ?_
              refine r_vret dX1_readPeople_67 rfl (by decide) (by decide) ?_
              refine ⟨rfl, rfl, ?_, ?_, hF, hO, ?_⟩ <;> rw [hx]
              · exact hR
              · exact hK
              · exact hr
  exact loop (5 + 1) 0 M0 a e g hR ha he ⟨fun _ _ _ => rfl, rfl⟩ zfr.rf (fun _ _ => rfl) rfl (fun _ q hq => absurd hq (by omega)) (Nat.zero_le _) (by omega)

set_option maxHeartbeats 4000000 in
set_option maxRecDepth 100000 in
theorem c1_readSuits (l : Launch) {rw : List zC} {M0 : zM} {f : Nat → Nat} {L a e : Nat} {g : Nat → Nat} (hR : RS f L a e M0) (hB : TB f L) (ha : a ≤ L) (he : e ≤ L + 1) : CT l false 4 0 0 yX1_readSuits cX1_readSuits 2 none [.ref 19] (zSh ++ rw) M0 (zG (zSh ++ rw) (fun v9 M9 => v9 = none ∧ RS f L (sl f L 4 0 (a, e) g).1.1 (sl f L 4 0 (a, e) g).1.2 M9 ∧ PK 6 M0 M9 (sl f L 4 0 (a, e) g).2.1 ∧ zfr PQ M0 M9 ∧ (∀ i, 22 = i ∨ 21 = i → M9.1 i = M0.1 i) ∧ ((sl f L 4 0 (a, e) g).1.2 = 0 → SW (sl f L 4 0 (a, e) g).2.1 (sl f L 4 0 (a, e) g).2.2 M9))) := by
  refine CT.ofN (by decide) (fun _ _ => Nat.le_of_ble_eq_true rfl) ?_
  have hW : WF W1 M0 M0 := WF.rf
  have hL := hB.1
  have hwb := wh_b (f := f) ha
  refine r_iconst (v := nI 0) dX1_readSuits_0 rfl ?_
  refine r_istore_n dX1_readSuits_1 rfl rfl (by decide) ?_
  have loop : ∀ (j k : Nat) (M : zM) (a1 e1 : Nat) (g1 : Nat → Nat) (hR : RS f L a1 e1 M) (ha1 : a1 ≤ L) (he1 : e1 ≤ L + 1) (hK : PK 6 M0 M k) (hF : zfr PQ M0 M) (hO : ∀ i, 22 = i ∨ 21 = i → M.1 i = M0.1 i) (hp : sl f L 4 0 (a, e) g = sl f L (4 - k) k (a1, e1) g1) (hr : e1 = 0 → SW k g1 M), k ≤ 4 → 4 < k + j → RA l none (zR 4 0 0) yX1_readSuits cX1_readSuits 2 none (zG (zSh ++ rw) (fun v9 M9 => v9 = none ∧ RS f L (sl f L 4 0 (a, e) g).1.1 (sl f L 4 0 (a, e) g).1.2 M9 ∧ PK 6 M0 M9 (sl f L 4 0 (a, e) g).2.1 ∧ zfr PQ M0 M9 ∧ (∀ i, 22 = i ∨ 21 = i → M9.1 i = M0.1 i) ∧ ((sl f L 4 0 (a, e) g).1.2 = 0 → SW (sl f L 4 0 (a, e) g).2.1 (sl f L 4 0 (a, e) g).2.2 M9))) 0 0 2 [some (.ref 19), some (.int (nI k))] [] (zSh ++ rw) M := by
    intro j
    induction j with
    | zero => intro k M a1 e1 g1 hR ha1 he1 hK hF hO hp hr hk hj; exact absurd hj (by omega)
    | succ j ih =>
      intro k M a1 e1 g1 hR ha1 he1 hK hF hO hp hr hk hj
      refine r_iload_n dX1_readSuits_2 rfl rfl ?_
      refine r_iconst (v := nI 4) dX1_readSuits_3 rfl ?_
      first | refine r_icmp_geN (tgt := 57) dX1_readSuits_4 (by decide) (by omega) (by omega) (fun c1 => ?_) (fun c1 => ?_) | refine r_icmp_ge (tgt := 57) dX1_readSuits_4 (by decide) (fun c1 => ?_) (fun c1 => ?_)
      · have hx : sl f L 4 0 (a, e) g = ((a1, e1), k, g1) := by rw [hp, show 4 - k = 0 by omega, sl]
        refine r_vret dX1_readSuits_57 rfl (by decide) (by decide) ?_
        refine ⟨rfl, rfl, ?_, ?_, hF, hO, ?_⟩ <;> rw [hx]
        · exact hR
        · exact hK
        · exact hr
      · refine r_aload_n dX1_readSuits_7 rfl rfl ?_
        refine r_getV fl_X1_31 dX1_readSuits_8 sh_19 rfl hR.2.2.1 ?_
        refine r_iconst (v := (-1)) dX1_readSuits_11 rfl ?_
        refine r_icmp_ne (tgt := 57) dX1_readSuits_12 (by decide) (fun c2 => ?_) (fun c2 => ?_)
        · have g9 := fun q => c2 ((fI_0 (by omega)).mpr q)
          have hx : sl f L 4 0 (a, e) g = ((a1, e1), k, g1) := by rw [hp]; exact sl_e g9
          refine r_vret dX1_readSuits_57 rfl (by decide) (by decide) ?_
          refine ⟨rfl, rfl, ?_, ?_, hF, hO, ?_⟩ <;> rw [hx]
          · exact hR
          · exact hK
          · exact hr
        · have g9 := (fI_0 (by omega)).mp c2
          refine r_iload_n dX1_readSuits_15 rfl rfl ?_
          first | refine r_if_leN (tgt := 31) dX1_readSuits_16 (by decide) (by omega) (fun c3 => ?_) (fun c3 => ?_) | refine r_if_le (tgt := 31) dX1_readSuits_16 (by decide) (fun c3 => ?_) (fun c3 => ?_)
          · have hsc : sc f L k (a1, e1) = (a1, e1) := if_pos c3
            have hck : k = 0 ∨ (wh f L a1 < L ∧ f (wh f L a1) = 44) := Or.inl c3
            have hk1 := ha1
            refine r_aload_n dX1_readSuits_31 rfl rfl ?_
            refine r_aload_n dX1_readSuits_32 rfl rfl ?_
            refine r_getR fl_X1_21 dX1_readSuits_33 sh_19 rfl ?_
            refine r_iload_n dX1_readSuits_36 rfl rfl ?_
            refine r_iconst (v := nI 0) dX1_readSuits_37 rfl ?_
            refine r_sipush (v := nI 199) dX1_readSuits_38 rfl ?_
            refine r_cV4G mv_X1_readFour ml_X1_65 (c1_readFour23 l hR hB hk1 he1 (by omega) (by decide) (by decide)) dX1_readSuits_41 (Nat.le_of_ble_eq_true rfl) ⟨by decide, by decide⟩ ⟨by decide, by decide⟩ sh_19 rfl (fun _ h => nomatch h) (fun v M1 hq => ?_)
            obtain ⟨rfl, hR, hW1, h23⟩ := hq
            have hK := hK.w (by decide) hW1
            have hF := hF.trans (hW1.pq ⟨by decide, by decide⟩)
            have hO := fun i hi => (hW1.of2 (by omega) (by omega)).trans (hO i hi)
            dsimp only [zrst, List.cons_append, List.nil_append]
            refine r_aload_n dX1_readSuits_44 rfl rfl ?_
            refine r_iload_n dX1_readSuits_45 rfl rfl ?_
            refine r_iconst (v := nI 1) dX1_readSuits_46 rfl ?_
            first | refine r_iaddN dX1_readSuits_47 ?_ | refine r_iadd dX1_readSuits_47 ?_
            refine r_S4 hR (by decide) fl_X1_34 dX1_readSuits_48 sh_19 rfl (fun M hR h19 hF1 h9 => ?_)
            have hK := hK.set h19
            have hF := hF.trans (W1.pq hF1)
            have hO := fun i hi => (h9 i (by omega)).trans (hO i hi)
            have hr9 : SW (k + 1) (wtG f L k (a1, e1) g1) M := by
              unfold wtG
              rw [hsc]
              exact SW_s (hr g9) ((h9 23 (by decide)).trans h23)
            have hR9 : RS f L (wtS f L k (a1, e1)).1 (wtS f L k (a1, e1)).2 M := by
              unfold wtS
              rw [hsc]
              exact hR
            have hsk9 := wtS_k (f := f) (n := k) (show SK L (a1, e1) from ⟨ha1, he1⟩) hck
            first | refine r_iincN dX1_readSuits_51 rfl rfl (by decide) ?_ | refine r_iinc dX1_readSuits_51 rfl rfl rfl (by decide) ?_
            refine r_goto (tgt := 2) dX1_readSuits_54 (by decide) ?_
            exact ih (k + 1) M _ _ (wtG f L k (a1, e1) g1) hR9 hsk9.1 hsk9.2 hK hF hO (by rw [hp, show 4 - k = (4 - (k + 1)) + 1 by omega]; exact sl_s g9 hck) (fun _ => hr9) (by omega) (by omega)
          · refine r_aload_n dX1_readSuits_19 rfl rfl ?_
            refine r_bipush (v := nI 44) dX1_readSuits_20 rfl ?_
            refine r_cV1G mv_X1_took ml_X1_58 (c1_took l hR hB ha1 he1 (by decide)) dX1_readSuits_22 (Nat.le_of_ble_eq_true rfl) ⟨by decide, by decide⟩ ⟨by decide, by decide⟩ sh_19 rfl (fun _ h => nomatch h) (fun v M1 hq => ?_)
            obtain ⟨rfl, hR, hW1⟩ := hq
            have hO := fun i hi => (hW1.of1 (by omega)).trans (hO i hi)
            have hK := hK.w (by decide) hW1
            have hF := hF.trans hW1.pq1
            have hr := fun q => (hr q).off (hW1.of1 (by decide))
            dsimp only [zrst, List.cons_append, List.nil_append]
            first | refine r_if_neB (tgt := 31) dX1_readSuits_25 (by decide) (fun c4 => ?_) (fun c4 => ?_) | refine r_if_neN (tgt := 31) dX1_readSuits_25 (by decide) (by omega) (fun c4 => ?_) (fun c4 => ?_) | refine r_if_ne (tgt := 31) dX1_readSuits_25 (by decide) (fun c4 => ?_) (fun c4 => ?_)
            · rw [tkA, if_pos c4] at hR
              have hsc : sc f L k (a1, e1) = (wh f L a1 + 1, e1) := if_neg (by omega)
              have hck : k = 0 ∨ (wh f L a1 < L ∧ f (wh f L a1) = 44) := Or.inr c4
              have hk1 : wh f L a1 + 1 ≤ L := c4.1
              refine r_aload_n dX1_readSuits_31 rfl rfl ?_
              refine r_aload_n dX1_readSuits_32 rfl rfl ?_
              refine r_getR fl_X1_21 dX1_readSuits_33 sh_19 rfl ?_
              refine r_iload_n dX1_readSuits_36 rfl rfl ?_
              refine r_iconst (v := nI 0) dX1_readSuits_37 rfl ?_
              refine r_sipush (v := nI 199) dX1_readSuits_38 rfl ?_
              refine r_cV4G mv_X1_readFour ml_X1_65 (c1_readFour23 l hR hB hk1 he1 (by omega) (by decide) (by decide)) dX1_readSuits_41 (Nat.le_of_ble_eq_true rfl) ⟨by decide, by decide⟩ ⟨by decide, by decide⟩ sh_19 rfl (fun _ h => nomatch h) (fun v M1 hq => ?_)
              obtain ⟨rfl, hR, hW1, h23⟩ := hq
              have hK := hK.w (by decide) hW1
              have hF := hF.trans (hW1.pq ⟨by decide, by decide⟩)
              have hO := fun i hi => (hW1.of2 (by omega) (by omega)).trans (hO i hi)
              dsimp only [zrst, List.cons_append, List.nil_append]
              refine r_aload_n dX1_readSuits_44 rfl rfl ?_
              refine r_iload_n dX1_readSuits_45 rfl rfl ?_
              refine r_iconst (v := nI 1) dX1_readSuits_46 rfl ?_
              first | refine r_iaddN dX1_readSuits_47 ?_ | refine r_iadd dX1_readSuits_47 ?_
              refine r_S4 hR (by decide) fl_X1_34 dX1_readSuits_48 sh_19 rfl (fun M hR h19 hF1 h9 => ?_)
              have hK := hK.set h19
              have hF := hF.trans (W1.pq hF1)
              have hO := fun i hi => (h9 i (by omega)).trans (hO i hi)
              have hr9 : SW (k + 1) (wtG f L k (a1, e1) g1) M := by
                unfold wtG
                rw [hsc]
                exact SW_s (hr g9) ((h9 23 (by decide)).trans h23)
              have hR9 : RS f L (wtS f L k (a1, e1)).1 (wtS f L k (a1, e1)).2 M := by
                unfold wtS
                rw [hsc]
                exact hR
              have hsk9 := wtS_k (f := f) (n := k) (show SK L (a1, e1) from ⟨ha1, he1⟩) hck
              first | refine r_iincN dX1_readSuits_51 rfl rfl (by decide) ?_ | refine r_iinc dX1_readSuits_51 rfl rfl rfl (by decide) ?_
              refine r_goto (tgt := 2) dX1_readSuits_54 (by decide) ?_
              exact ih (k + 1) M _ _ (wtG f L k (a1, e1) g1) hR9 hsk9.1 hsk9.2 hK hF hO (by rw [hp, show 4 - k = (4 - (k + 1)) + 1 by omega]; exact sl_s g9 hck) (fun _ => hr9) (by omega) (by omega)
            · rw [tkA, if_neg c4] at hR
              have hx : sl f L 4 0 (a, e) g = ((wh f L a1, e1), k, g1) := by rw [hp, show 4 - k = (3 - k) + 1 by omega]; exact sl_x g9 ⟨by omega, c4⟩
              refine r_goto (tgt := 57) dX1_readSuits_28 (by decide) ?_
              refine r_vret dX1_readSuits_57 rfl (by decide) (by decide) ?_
              refine ⟨rfl, rfl, ?_, ?_, hF, hO, ?_⟩ <;> rw [hx]
              · exact hR
              · exact hK
              · exact hr
  exact loop (4 + 1) 0 M0 a e g hR ha he ⟨fun _ _ _ => rfl, rfl⟩ zfr.rf (fun _ _ => rfl) rfl (fun _ q hq => absurd hq (by omega)) (Nat.zero_le _) (by omega)

