set_option maxHeartbeats 4000000 in
set_option maxRecDepth 100000 in
theorem c0_likelihood (l : Launch) {rw : List zC} {M : zM} {n u : Nat → Nat} {kn : Nat} (hS : SI 1 n u kn M) (hn : NB n) {p q : Nat} {b : Bool} (hp : p < n 0) (hq : q < n 1) : CT l false 4 0 0 yX0_likelihood cX0_likelihood 8 (some .int) [.ref 24, .int (nI p), .int (nI q), .int (zb (b = true))] (zSh ++ rw) M (zF (some (.int (nI (if b = true then (lkC (lkc n p q)).1 else (lkC (lkc n p q)).2)))) (zSh ++ rw) M) := by
  refine CT.ofN (by decide) (fun _ _ => Nat.le_of_ble_eq_true rfl) ?_
  have hdd := hn.2.2.2.2.2.2.2.2.2.2.2
  have hkd := hn.2.2.2.2.2.2.2.2.1
  have how := hn.2.2.2.2.2.2.2.2.2.1
  have hcu := hn.2.2.2.2.2.2.2.2.2.2.1
  have hb0 := hn.1
  have hb1 := hn.2.1
  have hb2 := hn.2.2.1
  have hb3 := hn.2.2.2.1
  have hb4 := hn.2.2.2.2.1
  have hb5 := hn.2.2.2.2.2.1
  have hb6 := hn.2.2.2.2.2.2.1
  refine r_iconst (v := nI 1) dX0_likelihood_0 rfl ?_
  refine r_istore dX0_likelihood_1 rfl (by decide) ?_
  refine r_iconst (v := nI 1) dX0_likelihood_3 rfl ?_
  refine r_istore dX0_likelihood_4 rfl (by decide) ?_
  refine r_iconst (v := nI 0) dX0_likelihood_6 rfl ?_
  refine r_istore dX0_likelihood_7 rfl (by decide) ?_
  have loop : ∀ (j k : Nat)  (hz : ∀ i, i < k → lkc n p q i ≠ 0), k ≤ 4 → 4 < k + j → RA l none (zR 4 0 0) yX0_likelihood cX0_likelihood 8 (some .int) (zF (some (.int (nI (if b = true then (lkC (lkc n p q)).1 else (lkC (lkc n p q)).2)))) (zSh ++ rw) M) 0 0 9 [some (.ref 24), some (.int (nI p)), some (.int (nI q)), some (.int (zb (b = true))), some (.int (nI (pa (lkc n p q) k))), some (.int (nI (pb (lkc n p q) k))), some (.int (nI k)), none] [] (zSh ++ rw) M := by
    intro j
    induction j with
    | zero => intro k  hz hk hj; exact absurd hj (by omega)
    | succ j ih =>
      intro k  hz hk hj
      refine r_iload dX0_likelihood_9 rfl ?_
      refine r_iconst (v := nI 4) dX0_likelihood_11 rfl ?_
      first | refine r_icmp_geN (tgt := 73) dX0_likelihood_12 (by decide) (by omega) (by omega) (fun c1 => ?_) (fun c1 => ?_) | refine r_icmp_ge (tgt := 73) dX0_likelihood_12 (by decide) (fun c1 => ?_) (fun c1 => ?_)
      · refine r_iload_n dX0_likelihood_73 rfl rfl ?_
        first | refine r_if_eqB (tgt := 82) dX0_likelihood_74 (by decide) (fun c2 => ?_) (fun c2 => ?_) | refine r_if_eqN (tgt := 82) dX0_likelihood_74 (by decide) (by omega) (fun c2 => ?_) (fun c2 => ?_) | refine r_if_eq (tgt := 82) dX0_likelihood_74 (by decide) (fun c2 => ?_) (fun c2 => ?_)
        · refine r_iload dX0_likelihood_82 rfl ?_
          refine r_iret dX0_likelihood_84 rfl (by decide) (by decide) ?_
          refine ⟨congrArg (fun x => some (Value.int x)) (congrArg nI ?_), rfl, rfl⟩
          have e4 : k = 4 := by omega
          subst e4
          rw [lkC_n hz]
          first | rw [if_pos (by assumption)] | rw [if_neg (by assumption)]
        · refine r_iload dX0_likelihood_77 rfl ?_
          refine r_goto (tgt := 84) dX0_likelihood_79 (by decide) ?_
          refine r_iret dX0_likelihood_84 rfl (by decide) (by decide) ?_
          refine ⟨congrArg (fun x => some (Value.int x)) (congrArg nI ?_), rfl, rfl⟩
          have e4 : k = 4 := by omega
          subst e4
          rw [lkC_n hz]
          first | rw [if_pos (by assumption)] | rw [if_neg (by assumption)]
      · have hme := mea_le hn hp c1 (n 3 + 0) (n 6)
        have hcc := hcu q k hq c1
        have hl3 := lkc_le n p q k
        refine r_aload_n dX0_likelihood_15 rfl rfl ?_
        refine r_aload_n dX0_likelihood_16 rfl rfl ?_
        refine r_getR fl_X0_37 dX0_likelihood_17 sh_24 rfl ?_
        refine r_iload_n dX0_likelihood_20 rfl rfl ?_
        refine r_iload_n dX0_likelihood_21 rfl rfl ?_
        refine r_iload dX0_likelihood_22 rfl ?_
        refine r_iconst (v := nI 0) dX0_likelihood_24 rfl ?_
        refine r_cV4F mv_X3_gapBehind ml_X0_47 (c3_gapBehind l hS hn hp hq (by omega) (by omega)) dX0_likelihood_25 (Nat.le_of_ble_eq_true rfl) ⟨by decide, by decide⟩ ⟨by decide, by decide⟩ sh_1 rfl (fun _ h => nomatch h) ?_
        try dsimp only [zrst, List.cons_append, List.nil_append]
        refine r_cV1F mv_X0_easyReadings ml_X0_139 (c0_easy l hS hn (by omega) (by omega)) dX0_likelihood_28 (Nat.le_of_ble_eq_true rfl) ⟨by decide, by decide⟩ ⟨by decide, by decide⟩ sh_24 rfl (fun _ h => nomatch h) ?_
        try dsimp only [zrst, List.cons_append, List.nil_append]
        refine r_top (v' := .int (nI (lkc n p q k))) rfl ?_
        refine r_istore dX0_likelihood_31 rfl (by decide) ?_
        refine r_iload dX0_likelihood_33 rfl ?_
        first | refine r_if_neB (tgt := 48) dX0_likelihood_35 (by decide) (fun c3 => ?_) (fun c3 => ?_) | refine r_if_neN (tgt := 48) dX0_likelihood_35 (by decide) (by omega) (fun c3 => ?_) (fun c3 => ?_) | refine r_if_ne (tgt := 48) dX0_likelihood_35 (by decide) (fun c3 => ?_) (fun c3 => ?_)
        · have h0 : lkc n p q k ≠ 0 := c3
          refine r_iload dX0_likelihood_48 rfl ?_
          refine r_iconst (v := nI 3) dX0_likelihood_50 rfl ?_
          first | refine r_icmp_geN (tgt := 67) dX0_likelihood_51 (by decide) (by omega) (by omega) (fun c4 => ?_) (fun c4 => ?_) | refine r_icmp_ge (tgt := 67) dX0_likelihood_51 (by decide) (fun c4 => ?_) (fun c4 => ?_)
          · have hX1 : pa (lkc n p q) (k + 1) = pa (lkc n p q) k := by rw [pa, if_neg (by omega)]
            have hX2 : pb (lkc n p q) (k + 1) = pb (lkc n p q) k := by rw [pb, if_neg (by omega)]
            first | refine r_iincN dX0_likelihood_67 rfl rfl (by decide) ?_ | refine r_iinc dX0_likelihood_67 rfl rfl rfl (by decide) ?_
            refine r_goto (tgt := 9) dX0_likelihood_70 (by decide) ?_
            have hz1 : ∀ i, i < k + 1 → lkc n p q i ≠ 0 := fun i hi => by
              by_cases e : i = k
              · rw [e]; exact h0
              · exact hz i (by omega)
            have h9 := ih (k + 1) hz1 (by omega) (by omega)
            rw [hX1, hX2] at h9
            refine r_lfor 7 ?_
            exact h9
          · have hX1 : pa (lkc n p q) (k + 1) = pa (lkc n p q) k * lkc n p q k := by rw [pa, if_pos (by omega)]
            have hX2 : pb (lkc n p q) (k + 1) = pb (lkc n p q) k * 3 := by rw [pb, if_pos (by omega)]
            refine r_iload dX0_likelihood_54 rfl ?_
            refine r_iload dX0_likelihood_56 rfl ?_
            first | refine r_imulN dX0_likelihood_58 ?_ | refine r_imul dX0_likelihood_58 ?_
            refine r_istore dX0_likelihood_59 rfl (by decide) ?_
            refine r_iload dX0_likelihood_61 rfl ?_
            refine r_iconst (v := nI 3) dX0_likelihood_63 rfl ?_
            first | refine r_imulN dX0_likelihood_64 ?_ | refine r_imul dX0_likelihood_64 ?_
            refine r_istore dX0_likelihood_65 rfl (by decide) ?_
            first | refine r_iincN dX0_likelihood_67 rfl rfl (by decide) ?_ | refine r_iinc dX0_likelihood_67 rfl rfl rfl (by decide) ?_
            refine r_goto (tgt := 9) dX0_likelihood_70 (by decide) ?_
            have hz1 : ∀ i, i < k + 1 → lkc n p q i ≠ 0 := fun i hi => by
              by_cases e : i = k
              · rw [e]; exact h0
              · exact hz i (by omega)
            have h9 := ih (k + 1) hz1 (by omega) (by omega)
            rw [hX1, hX2] at h9
            refine r_lfor 7 ?_
            exact h9
        · have h0 : lkc n p q k = 0 := c3
          refine r_iload_n dX0_likelihood_38 rfl rfl ?_
          first | refine r_if_eqB (tgt := 46) dX0_likelihood_39 (by decide) (fun c5 => ?_) (fun c5 => ?_) | refine r_if_eqN (tgt := 46) dX0_likelihood_39 (by decide) (by omega) (fun c5 => ?_) (fun c5 => ?_) | refine r_if_eq (tgt := 46) dX0_likelihood_39 (by decide) (fun c5 => ?_) (fun c5 => ?_)
          · refine r_iconst (v := nI 1) dX0_likelihood_46 rfl ?_
            refine r_iret dX0_likelihood_47 rfl (by decide) (by decide) ?_
            refine ⟨congrArg (fun x => some (Value.int x)) (congrArg nI ?_), rfl, rfl⟩
            rw [lkC_0 (by omega) h0]
            first | rw [if_pos (by assumption)] | rw [if_neg (by assumption)]
          · refine r_iconst (v := nI 0) dX0_likelihood_42 rfl ?_
            refine r_goto (tgt := 47) dX0_likelihood_43 (by decide) ?_
            refine r_iret dX0_likelihood_47 rfl (by decide) (by decide) ?_
            refine ⟨congrArg (fun x => some (Value.int x)) (congrArg nI ?_), rfl, rfl⟩
            rw [lkC_0 (by omega) h0]
            first | rw [if_pos (by assumption)] | rw [if_neg (by assumption)]
  exact loop (4 + 1) 0 (fun i hi => absurd hi (by omega)) (Nat.zero_le _) (by omega)

set_option maxHeartbeats 4000000 in
set_option maxRecDepth 100000 in
theorem c4_luck (l : Launch) {rw : List zC} {M : zM} {n u : Nat → Nat} {kn : Nat} (hS : SI 1 n u kn M) (hn : NB n) (x z w : Int32) : CT l false 5 0 0 yX4_luck cX4_luck 4 (some .int) [.ref 0, .int x, .int z, .int w] (zSh ++ rw) M (zF (some (.int (sp_luck n x z w))) (zSh ++ rw) M) := by
  refine CT.ofN (by decide) (fun _ _ => Nat.le_of_ble_eq_true rfl) ?_
  have hdd := hn.2.2.2.2.2.2.2.2.2.2.2
  have hkd := hn.2.2.2.2.2.2.2.2.1
  have how := hn.2.2.2.2.2.2.2.2.2.1
  have hcu := hn.2.2.2.2.2.2.2.2.2.2.1
  have hb0 := hn.1
  have hb1 := hn.2.1
  have hb2 := hn.2.2.1
  have hb3 := hn.2.2.2.1
  have hb4 := hn.2.2.2.2.1
  have hb5 := hn.2.2.2.2.2.1
  have hb6 := hn.2.2.2.2.2.2.1
  refine r_aload_n dX4_luck_0 rfl rfl ?_
  refine r_getR fl_X4_10 dX4_luck_1 sh_0 rfl ?_
  refine r_iload_n dX4_luck_4 rfl rfl ?_
  refine r_cV1F mv_X3_hasPerson ml_X4_53 (c3_hasPerson l hS (by omega) _) dX4_luck_5 (Nat.le_of_ble_eq_true rfl) ⟨by decide, by decide⟩ ⟨by decide, by decide⟩ sh_1 rfl (fun _ h => nomatch h) ?_
  try dsimp only [zrst, List.cons_append, List.nil_append]
  first | refine r_if_eqB (tgt := 29) dX4_luck_8 (by decide) (fun c1 => ?_) (fun c1 => ?_) | refine r_if_eqN (tgt := 29) dX4_luck_8 (by decide) (by omega) (fun c1 => ?_) (fun c1 => ?_) | refine r_if_eq (tgt := 29) dX4_luck_8 (by decide) (fun c1 => ?_) (fun c1 => ?_)
  · have b1 : ¬ (0 ≤ x.toInt ∧ x.toInt < (n 0 : Int)) := by omega
    refine r_iconst (v := (-1)) dX4_luck_29 rfl ?_
    refine r_iret dX4_luck_30 rfl (by decide) (by decide) ?_
    exact ⟨congrArg (fun x => some (Value.int x)) (if_neg (fun h => by first | exact absurd h (by assumption) | exact absurd h.1 (by assumption) | exact absurd h.2 (by assumption) | exact absurd h.2.1 (by assumption) | exact absurd h.2.2 (by assumption) | exact absurd h.2.2.1 (by assumption) | exact absurd h.2.2.2 (by assumption) | exact absurd h.2.2.2.1 (by assumption) | exact absurd h.2.2.2.2 (by assumption))).symm, rfl, rfl⟩
  · have g1 : 0 ≤ x.toInt ∧ x.toInt < (n 0 : Int) := by omega
    obtain ⟨p, hp, rfl⟩ := arg_nat (n := n 0) (show 0 ≤ x.toInt ∧ x.toInt < ((n 0 : Nat) : Int) by omega)
    refine r_aload_n dX4_luck_11 rfl rfl ?_
    refine r_getR fl_X4_10 dX4_luck_12 sh_0 rfl ?_
    refine r_iload_n dX4_luck_15 rfl rfl ?_
    refine r_cV1F mv_X3_hasSuit ml_X4_71 (c3_hasSuit l hS (by omega) _) dX4_luck_16 (Nat.le_of_ble_eq_true rfl) ⟨by decide, by decide⟩ ⟨by decide, by decide⟩ sh_1 rfl (fun _ h => nomatch h) ?_
    try dsimp only [zrst, List.cons_append, List.nil_append]
    first | refine r_if_eqB (tgt := 29) dX4_luck_19 (by decide) (fun c2 => ?_) (fun c2 => ?_) | refine r_if_eqN (tgt := 29) dX4_luck_19 (by decide) (by omega) (fun c2 => ?_) (fun c2 => ?_) | refine r_if_eq (tgt := 29) dX4_luck_19 (by decide) (fun c2 => ?_) (fun c2 => ?_)
    · have b2 : ¬ (0 ≤ z.toInt ∧ z.toInt < (n 1 : Int)) := by omega
      refine r_iconst (v := (-1)) dX4_luck_29 rfl ?_
      refine r_iret dX4_luck_30 rfl (by decide) (by decide) ?_
      exact ⟨congrArg (fun x => some (Value.int x)) (if_neg (fun h => by first | exact absurd h (by assumption) | exact absurd h.1 (by assumption) | exact absurd h.2 (by assumption) | exact absurd h.2.1 (by assumption) | exact absurd h.2.2 (by assumption) | exact absurd h.2.2.1 (by assumption) | exact absurd h.2.2.2 (by assumption) | exact absurd h.2.2.2.1 (by assumption) | exact absurd h.2.2.2.2 (by assumption))).symm, rfl, rfl⟩
    · have g2 : 0 ≤ z.toInt ∧ z.toInt < (n 1 : Int) := by omega
      obtain ⟨q, hq, rfl⟩ := arg_nat (n := n 1) (show 0 ≤ z.toInt ∧ z.toInt < ((n 1 : Nat) : Int) by omega)
      refine r_iload_n dX4_luck_22 rfl rfl ?_
      refine r_cS1F ms_X4_isEither ml_X4_108 (c4_isEither l _) dX4_luck_23 (Nat.le_of_ble_eq_true rfl) ⟨by decide, by decide⟩ ⟨by decide, by decide⟩ (fun _ h => nomatch h) ?_
      try dsimp only [zrst, List.cons_append, List.nil_append]
      first | refine r_if_neB (tgt := 31) dX4_luck_26 (by decide) (fun c3 => ?_) (fun c3 => ?_) | refine r_if_neN (tgt := 31) dX4_luck_26 (by decide) (by omega) (fun c3 => ?_) (fun c3 => ?_) | refine r_if_ne (tgt := 31) dX4_luck_26 (by decide) (fun c3 => ?_) (fun c3 => ?_)
      · have c3 : ((0 : Int) ≤ w.toInt ∧ w.toInt < (2 : Int)) := c3
        have g3 : 0 ≤ w.toInt ∧ w.toInt ≤ 1 := by omega
        obtain ⟨k, hk1, hk2, rfl⟩ := arg_rng (a := 0) (b := 1) (show ((0 : Nat) : Int) ≤ w.toInt ∧ w.toInt ≤ ((1 : Nat) : Int) by omega)
        refine r_aload_n dX4_luck_31 rfl rfl ?_
        refine r_getR fl_X4_31 dX4_luck_32 sh_0 rfl ?_
        refine r_iload_n dX4_luck_35 rfl rfl ?_
        refine r_iload_n dX4_luck_36 rfl rfl ?_
        refine r_iload_n dX4_luck_37 rfl rfl ?_
        first | refine r_if_neB (tgt := 45) dX4_luck_38 (by decide) (fun c4 => ?_) (fun c4 => ?_) | refine r_if_neN (tgt := 45) dX4_luck_38 (by decide) (by omega) (fun c4 => ?_) (fun c4 => ?_) | refine r_if_ne (tgt := 45) dX4_luck_38 (by decide) (fun c4 => ?_) (fun c4 => ?_)
        · refine r_iconst (v := nI 0) dX4_luck_45 rfl ?_
          refine r_top (v' := .int (zb (false = true))) rfl ?_
          refine r_cV3F mv_X0_likelihood ml_X4_199 (c0_likelihood l hS hn (by omega) (by omega)) dX4_luck_46 (Nat.le_of_ble_eq_true rfl) ⟨by decide, by decide⟩ ⟨by decide, by decide⟩ sh_24 rfl (fun _ h => nomatch h) ?_
          try dsimp only [zrst, List.cons_append, List.nil_append]
          simp only [if_true, if_false, Bool.false_eq_true]
          refine r_iret dX4_luck_49 rfl (by decide) (by decide) ?_
          refine ⟨congrArg (fun x => some (Value.int x)) ?_, rfl, rfl⟩
          rw [sp_luck, if_pos ⟨g1, g2, g3⟩, tn_nI (show p < 2147483648 by omega), tn_nI (show q < 2147483648 by omega), tn_nI (show k < 2147483648 by omega), bo_luck]
          split <;> first | rfl | (exfalso; omega)
        · refine r_iconst (v := nI 1) dX4_luck_41 rfl ?_
          refine r_top (v' := .int (zb (true = true))) rfl ?_
          refine r_goto (tgt := 46) dX4_luck_42 (by decide) ?_
          refine r_cV3F mv_X0_likelihood ml_X4_199 (c0_likelihood l hS hn (by omega) (by omega)) dX4_luck_46 (Nat.le_of_ble_eq_true rfl) ⟨by decide, by decide⟩ ⟨by decide, by decide⟩ sh_24 rfl (fun _ h => nomatch h) ?_
          try dsimp only [zrst, List.cons_append, List.nil_append]
          simp only [if_true, if_false, Bool.false_eq_true]
          refine r_iret dX4_luck_49 rfl (by decide) (by decide) ?_
          refine ⟨congrArg (fun x => some (Value.int x)) ?_, rfl, rfl⟩
          rw [sp_luck, if_pos ⟨g1, g2, g3⟩, tn_nI (show p < 2147483648 by omega), tn_nI (show q < 2147483648 by omega), tn_nI (show k < 2147483648 by omega), bo_luck]
          split <;> first | rfl | (exfalso; omega)
      · have c3 : ¬ ((0 : Int) ≤ w.toInt ∧ w.toInt < (2 : Int)) := c3
        have b3 : ¬ (0 ≤ w.toInt ∧ w.toInt ≤ 1) := by omega
        refine r_iconst (v := (-1)) dX4_luck_29 rfl ?_
        refine r_iret dX4_luck_30 rfl (by decide) (by decide) ?_
        exact ⟨congrArg (fun x => some (Value.int x)) (if_neg (fun h => by first | exact absurd h (by assumption) | exact absurd h.1 (by assumption) | exact absurd h.2 (by assumption) | exact absurd h.2.1 (by assumption) | exact absurd h.2.2 (by assumption) | exact absurd h.2.2.1 (by assumption) | exact absurd h.2.2.2 (by assumption) | exact absurd h.2.2.2.1 (by assumption) | exact absurd h.2.2.2.2 (by assumption))).symm, rfl, rfl⟩

set_option maxHeartbeats 4000000 in
set_option maxRecDepth 100000 in
theorem c5p_luck (l : Launch) {rw : List zC} {M : zM} {t : Nat → Nat → Nat} (hR : RI t M) (hn : NB (t 35)) (x z w : Int32) : CT l false 4 0 0 yX5_luck cX5_luck 9 (some .int) [.ref 34, .int x, .int z, .int w] (zSh ++ rw) M (zF (some (.int (sp_luck (t 35) x z w))) (zSh ++ rw) M) := by
  refine CT.ofN (by decide) (fun _ _ => Nat.le_of_ble_eq_true rfl) ?_
  have hdd := hn.2.2.2.2.2.2.2.2.2.2.2
  have hkd := hn.2.2.2.2.2.2.2.2.1
  have how := hn.2.2.2.2.2.2.2.2.2.1
  have hcu := hn.2.2.2.2.2.2.2.2.2.2.1
  have hb0 := hn.1
  have hb1 := hn.2.1
  have hb2 := hn.2.2.1
  have hb3 := hn.2.2.2.1
  have hb4 := hn.2.2.2.2.1
  have hb5 := hn.2.2.2.2.2.1
  have hb6 := hn.2.2.2.2.2.2.1
  refine r_aload_n dX5_luck_0 rfl rfl ?_
  refine r_iload_n dX5_luck_1 rfl rfl ?_
  refine r_cV1F mv_X5_isPerson ml_X5_93 (c5_isPerson l hR (by omega) _) dX5_luck_2 (Nat.le_of_ble_eq_true rfl) ⟨by decide, by decide⟩ ⟨by decide, by decide⟩ sh_34 rfl (fun _ h => nomatch h) ?_
  try dsimp only [zrst, List.cons_append, List.nil_append]
  first | refine r_if_eqB (tgt := 26) dX5_luck_5 (by decide) (fun c1 => ?_) (fun c1 => ?_) | refine r_if_eqN (tgt := 26) dX5_luck_5 (by decide) (by omega) (fun c1 => ?_) (fun c1 => ?_) | refine r_if_eq (tgt := 26) dX5_luck_5 (by decide) (fun c1 => ?_) (fun c1 => ?_)
  · have b1 : ¬ (0 ≤ x.toInt ∧ x.toInt < (t 35 0 : Int)) := by omega
    refine r_iconst (v := (-1)) dX5_luck_26 rfl ?_
    refine r_iret dX5_luck_27 rfl (by decide) (by decide) ?_
    exact ⟨congrArg (fun x => some (Value.int x)) (if_neg (fun h => by first | exact absurd h (by assumption) | exact absurd h.1 (by assumption) | exact absurd h.2 (by assumption) | exact absurd h.2.1 (by assumption) | exact absurd h.2.2 (by assumption) | exact absurd h.2.2.1 (by assumption) | exact absurd h.2.2.2 (by assumption) | exact absurd h.2.2.2.1 (by assumption) | exact absurd h.2.2.2.2 (by assumption))).symm, rfl, rfl⟩
  · have g1 : 0 ≤ x.toInt ∧ x.toInt < (t 35 0 : Int) := by omega
    obtain ⟨p, hp, rfl⟩ := arg_nat (n := t 35 0) (show 0 ≤ x.toInt ∧ x.toInt < ((t 35 0 : Nat) : Int) by omega)
    refine r_aload_n dX5_luck_8 rfl rfl ?_
    refine r_iload_n dX5_luck_9 rfl rfl ?_
    refine r_cV1F mv_X5_isSuit ml_X5_102 (c5_isSuit l hR (by omega) _) dX5_luck_10 (Nat.le_of_ble_eq_true rfl) ⟨by decide, by decide⟩ ⟨by decide, by decide⟩ sh_34 rfl (fun _ h => nomatch h) ?_
    try dsimp only [zrst, List.cons_append, List.nil_append]
    first | refine r_if_eqB (tgt := 26) dX5_luck_13 (by decide) (fun c2 => ?_) (fun c2 => ?_) | refine r_if_eqN (tgt := 26) dX5_luck_13 (by decide) (by omega) (fun c2 => ?_) (fun c2 => ?_) | refine r_if_eq (tgt := 26) dX5_luck_13 (by decide) (fun c2 => ?_) (fun c2 => ?_)
    · have b2 : ¬ (0 ≤ z.toInt ∧ z.toInt < (t 35 1 : Int)) := by omega
      refine r_iconst (v := (-1)) dX5_luck_26 rfl ?_
      refine r_iret dX5_luck_27 rfl (by decide) (by decide) ?_
      exact ⟨congrArg (fun x => some (Value.int x)) (if_neg (fun h => by first | exact absurd h (by assumption) | exact absurd h.1 (by assumption) | exact absurd h.2 (by assumption) | exact absurd h.2.1 (by assumption) | exact absurd h.2.2 (by assumption) | exact absurd h.2.2.1 (by assumption) | exact absurd h.2.2.2 (by assumption) | exact absurd h.2.2.2.1 (by assumption) | exact absurd h.2.2.2.2 (by assumption))).symm, rfl, rfl⟩
    · have g2 : 0 ≤ z.toInt ∧ z.toInt < (t 35 1 : Int) := by omega
      obtain ⟨q, hq, rfl⟩ := arg_nat (n := t 35 1) (show 0 ≤ z.toInt ∧ z.toInt < ((t 35 1 : Nat) : Int) by omega)
      refine r_iload_n dX5_luck_16 rfl rfl ?_
      refine r_i2l dX5_luck_17 rfl ?_
      refine r_lconst (v := 0) dX5_luck_18 rfl ?_
      refine r_lconst (v := 1) dX5_luck_19 rfl ?_
      refine r_cS3F ms_X5_in ml_X5_41 (c5_in l _ _ _) dX5_luck_20 (Nat.le_of_ble_eq_true rfl) ⟨by decide, by decide⟩ ⟨by decide, by decide⟩ (fun _ h => nomatch h) ?_
      try dsimp only [zrst, List.cons_append, List.nil_append]
      first | refine r_if_neB (tgt := 28) dX5_luck_23 (by decide) (fun c3 => ?_) (fun c3 => ?_) | refine r_if_neN (tgt := 28) dX5_luck_23 (by decide) (by omega) (fun c3 => ?_) (fun c3 => ?_) | refine r_if_ne (tgt := 28) dX5_luck_23 (by decide) (fun c3 => ?_) (fun c3 => ?_)
      · rw [i64_of32] at c3
        have c3 : ((0 : Int) ≤ w.toInt ∧ w.toInt ≤ (1 : Int)) := c3
        have g3 : 0 ≤ w.toInt ∧ w.toInt ≤ 1 := by omega
        obtain ⟨wk, hwk1, hwk2, rfl⟩ := arg_rng (a := 0) (b := 1) (show ((0 : Nat) : Int) ≤ w.toInt ∧ w.toInt ≤ ((1 : Nat) : Int) by omega)
        refine r_iconst (v := nI 1) dX5_luck_28 rfl ?_
        refine r_istore dX5_luck_29 rfl (by decide) ?_
        refine r_bipush (v := nI 81) dX5_luck_31 rfl ?_
        refine r_istore dX5_luck_33 rfl (by decide) ?_
        refine r_iconst (v := nI 0) dX5_luck_35 rfl ?_
        refine r_istore dX5_luck_36 rfl (by decide) ?_
        have loop : ∀ (j k : Nat) , k ≤ 4 → 4 < k + j → RA l none (zR 4 0 0) yX5_luck cX5_luck 9 (some .int) (zF (some (.int (sp_luck (t 35) (nI p) (nI q) (nI wk)))) (zSh ++ rw) M) 0 0 38 [some (.ref 34), some (.int (nI p)), some (.int (nI q)), some (.int (nI wk)), some (.int (nI (prd (lkc (t 35) p q) k))), some (.int (nI 81)), some (.int (nI k)), none, none] [] (zSh ++ rw) M := by
          intro j
          induction j with
          | zero => intro k   hk hj; exact absurd hj (by omega)
          | succ j ih =>
            intro k   hk hj
            refine r_iload dX5_luck_38 rfl ?_
            refine r_iconst (v := nI 4) dX5_luck_40 rfl ?_
            first | refine r_icmp_geN (tgt := 114) dX5_luck_41 (by decide) (by omega) (by omega) (fun c1 => ?_) (fun c1 => ?_) | refine r_icmp_ge (tgt := 114) dX5_luck_41 (by decide) (fun c1 => ?_) (fun c1 => ?_)
            · have e4 : k = 4 := by omega
              subst e4
              refine r_lfor 6 ?_
              have loopw : ∀ (j k : Nat) (a b : Nat) (hr : redu 5 (prd (lkc (t 35) p q) 4, 81) = redu (5 - k) (a, b)) (hb81 : b = 81 / 3 ^ k) (ha : a ≤ 81), k ≤ 4 → 4 < k + j → RA l none (zR 4 0 0) yX5_luck cX5_luck 9 (some .int) (zF (some (.int (sp_luck (t 35) (nI p) (nI q) (nI wk)))) (zSh ++ rw) M) 0 0 114 [some (.ref 34), some (.int (nI p)), some (.int (nI q)), some (.int (nI wk)), some (.int (nI a)), some (.int (nI b)), none, none, none] [] (zSh ++ rw) M := by
                intro j
                induction j with
                | zero => intro k a b hr hb81 ha hk hj; exact absurd hj (by omega)
                | succ j ihw =>
                  intro k a b hr hb81 ha hk hj
                  have h81 := p81 k hk
                  rw [← hb81] at h81
                  refine r_iload dX5_luck_114 rfl ?_
                  refine r_iconst (v := nI 3) dX5_luck_116 rfl ?_
                  refine r_iremN dX5_luck_117 (by omega) (by omega) (by omega) ?_
                  first | refine r_if_neB (tgt := 142) dX5_luck_118 (by decide) (fun c1 => ?_) (fun c1 => ?_) | refine r_if_neN (tgt := 142) dX5_luck_118 (by decide) (by omega) (fun c1 => ?_) (fun c1 => ?_) | refine r_if_ne (tgt := 142) dX5_luck_118 (by decide) (fun c1 => ?_) (fun c1 => ?_)
                  · refine r_iload_n dX5_luck_142 rfl rfl ?_
                    first | refine r_if_neB (tgt := 151) dX5_luck_143 (by decide) (fun c2 => ?_) (fun c2 => ?_) | refine r_if_neN (tgt := 151) dX5_luck_143 (by decide) (by omega) (fun c2 => ?_) (fun c2 => ?_) | refine r_if_ne (tgt := 151) dX5_luck_143 (by decide) (fun c2 => ?_) (fun c2 => ?_)
                    · refine r_iload dX5_luck_151 rfl ?_
                      refine r_iret dX5_luck_153 rfl (by decide) (by decide) ?_
                      refine ⟨congrArg (fun x => some (Value.int x)) ?_, rfl, rfl⟩
                      have hr2 := hr.trans (by rw [show 5 - k = (4 - k) + 1 by omega, redu_f (by omega)])
                      rw [lk_eq (fun k => lkc_le _ _ _ k)] at hr2
                      rw [sp_luck, if_pos ⟨g1, g2, g3⟩, tn_nI (show p < 2147483648 by omega), tn_nI (show q < 2147483648 by omega), tn_nI (show wk < 2147483648 by omega), bo_luck, hr2]
                      split <;> first | rfl | (exfalso; omega)
                    · refine r_iload dX5_luck_146 rfl ?_
                      refine r_goto (tgt := 153) dX5_luck_148 (by decide) ?_
                      refine r_iret dX5_luck_153 rfl (by decide) (by decide) ?_
                      refine ⟨congrArg (fun x => some (Value.int x)) ?_, rfl, rfl⟩
                      have hr2 := hr.trans (by rw [show 5 - k = (4 - k) + 1 by omega, redu_f (by omega)])
                      rw [lk_eq (fun k => lkc_le _ _ _ k)] at hr2
                      rw [sp_luck, if_pos ⟨g1, g2, g3⟩, tn_nI (show p < 2147483648 by omega), tn_nI (show q < 2147483648 by omega), tn_nI (show wk < 2147483648 by omega), bo_luck, hr2]
                      split <;> first | rfl | (exfalso; omega)
                  · refine r_iload dX5_luck_121 rfl ?_
                    refine r_iconst (v := nI 1) dX5_luck_123 rfl ?_
                    first | refine r_icmp_leN (tgt := 142) dX5_luck_124 (by decide) (by omega) (by omega) (fun c3 => ?_) (fun c3 => ?_) | refine r_icmp_le (tgt := 142) dX5_luck_124 (by decide) (fun c3 => ?_) (fun c3 => ?_)
                    · refine r_iload_n dX5_luck_142 rfl rfl ?_
                      first | refine r_if_neB (tgt := 151) dX5_luck_143 (by decide) (fun c4 => ?_) (fun c4 => ?_) | refine r_if_neN (tgt := 151) dX5_luck_143 (by decide) (by omega) (fun c4 => ?_) (fun c4 => ?_) | refine r_if_ne (tgt := 151) dX5_luck_143 (by decide) (fun c4 => ?_) (fun c4 => ?_)
                      · refine r_iload dX5_luck_151 rfl ?_
                        refine r_iret dX5_luck_153 rfl (by decide) (by decide) ?_
                        refine ⟨congrArg (fun x => some (Value.int x)) ?_, rfl, rfl⟩
                        have hr2 := hr.trans (by rw [show 5 - k = (4 - k) + 1 by omega, redu_f (by omega)])
                        rw [lk_eq (fun k => lkc_le _ _ _ k)] at hr2
                        rw [sp_luck, if_pos ⟨g1, g2, g3⟩, tn_nI (show p < 2147483648 by omega), tn_nI (show q < 2147483648 by omega), tn_nI (show wk < 2147483648 by omega), bo_luck, hr2]
                        split <;> first | rfl | (exfalso; omega)
                      · refine r_iload dX5_luck_146 rfl ?_
                        refine r_goto (tgt := 153) dX5_luck_148 (by decide) ?_
                        refine r_iret dX5_luck_153 rfl (by decide) (by decide) ?_
                        refine ⟨congrArg (fun x => some (Value.int x)) ?_, rfl, rfl⟩
                        have hr2 := hr.trans (by rw [show 5 - k = (4 - k) + 1 by omega, redu_f (by omega)])
                        rw [lk_eq (fun k => lkc_le _ _ _ k)] at hr2
                        rw [sp_luck, if_pos ⟨g1, g2, g3⟩, tn_nI (show p < 2147483648 by omega), tn_nI (show q < 2147483648 by omega), tn_nI (show wk < 2147483648 by omega), bo_luck, hr2]
                        split <;> first | rfl | (exfalso; omega)
                    · refine r_iload dX5_luck_127 rfl ?_
                      refine r_iconst (v := nI 3) dX5_luck_129 rfl ?_
                      refine r_idivN dX5_luck_130 (by omega) (by omega) (by omega) ?_
                      refine r_istore dX5_luck_131 rfl (by decide) ?_
                      refine r_iload dX5_luck_133 rfl ?_
                      refine r_iconst (v := nI 3) dX5_luck_135 rfl ?_
                      refine r_idivN dX5_luck_136 (by omega) (by omega) (by omega) ?_
                      refine r_istore dX5_luck_137 rfl (by decide) ?_
                      refine r_goto (tgt := 114) dX5_luck_139 (by decide) ?_
                      exact ihw (k + 1) (a / 3) (b / 3) (by rw [hr, show 5 - k = (5 - (k + 1)) + 1 by omega, redu_t (by omega) (by omega)]) h81.2.1 (by omega) (by omega) (by omega)
              exact loopw (4 + 1) 0 (prd (lkc (t 35) p q) 4) 81 rfl rfl (prd_le (fun k => lkc_le _ _ _ k)) (Nat.zero_le _) (by omega)
            · have hme := mea_le hn hp c1 (t 35 3) (t 35 6)
              have hcc := hcu q k hq c1
              refine r_iconst (v := nI 0) dX5_luck_44 rfl ?_
              refine r_istore dX5_luck_45 rfl (by decide) ?_
              refine r_iconst (v := (-1)) dX5_luck_47 rfl ?_
              refine r_istore dX5_luck_48 rfl (by decide) ?_
              refine r_iload dX5_luck_50 rfl ?_
              refine r_iconst (v := nI 2) dX5_luck_52 rfl ?_
              refine r_icmp_ge (tgt := 101) dX5_luck_53 (by decide) (fun q9 => absurd q9 (by decide)) (fun _ => ?_)
              refine r_iload dX5_luck_56 rfl ?_
              refine r_aload_n dX5_luck_58 rfl rfl ?_
              refine r_iload_n dX5_luck_59 rfl rfl ?_
              refine r_iload dX5_luck_60 rfl ?_
              refine r_cV2F mv_X5_today ml_X5_107 (c5_today l hR hn (by omega) (by omega)) dX5_luck_62 (Nat.le_of_ble_eq_true rfl) ⟨by decide, by decide⟩ ⟨by decide, by decide⟩ sh_34 rfl (fun _ h => nomatch h) ?_
              try dsimp only [zrst, List.cons_append, List.nil_append]
              refine r_iload dX5_luck_65 rfl ?_
              refine r_iadd dX5_luck_67 ?_
              rw [nm1 (by omega)]
              refine r_aload_n dX5_luck_68 rfl rfl ?_
              refine r_iload_n dX5_luck_69 rfl rfl ?_
              refine r_iload dX5_luck_70 rfl ?_
              refine r_cV2F mv_X5_cutOf ml_X5_73 (c5_cutOf l hR (by omega) (by omega)) dX5_luck_72 (Nat.le_of_ble_eq_true rfl) ⟨by decide, by decide⟩ ⟨by decide, by decide⟩ sh_34 rfl (fun _ h => nomatch h) ?_
              try dsimp only [zrst, List.cons_append, List.nil_append]
              refine r_cS2F ms_X5_apart ml_X5_76 (c5_apart l (by omega) (by omega)) dX5_luck_75 (Nat.le_of_ble_eq_true rfl) ⟨by decide, by decide⟩ ⟨by decide, by decide⟩ (fun _ h => nomatch h) ?_
              try dsimp only [zrst, List.cons_append, List.nil_append]
              refine r_aload_n dX5_luck_78 rfl rfl ?_
              refine r_getR fl_X5_7 dX5_luck_79 sh_34 rfl ?_
              refine r_iconst (v := nI 5) dX5_luck_82 rfl ?_
              refine r_ialdN dX5_luck_83 sh_35 (by omega) (by decide) (hR.a35 _) ?_
              refine r_icmp_gtN (tgt := 91) dX5_luck_84 (by decide) (by omega) (by omega) (fun c2 => ?_) (fun c2 => ?_)
              · have hp0 : (if dst ((mea (t 35) p k (t 35 3) (t 35 6)) - 1) (t 35 (33 + 4 * q + k)) ≤ t 35 5 then 1 else 0) = 0 := if_neg (by unfold dst at *; omega)
                refine r_iconst (v := nI 0) dX5_luck_91 rfl ?_
                first | refine r_iaddN dX5_luck_92 ?_ | refine r_iadd dX5_luck_92 ?_
                refine r_istore dX5_luck_93 rfl (by decide) ?_
                refine r_iinc (v := nI 0) dX5_luck_95 rfl (by decide) rfl (by decide) ?_
                refine r_goto (tgt := 50) dX5_luck_98 (by decide) ?_
                refine r_iload dX5_luck_50 rfl ?_
                refine r_iconst (v := nI 2) dX5_luck_52 rfl ?_
                refine r_icmp_ge (tgt := 101) dX5_luck_53 (by decide) (fun q9 => absurd q9 (by decide)) (fun _ => ?_)
                refine r_iload dX5_luck_56 rfl ?_
                refine r_aload_n dX5_luck_58 rfl rfl ?_
                refine r_iload_n dX5_luck_59 rfl rfl ?_
                refine r_iload dX5_luck_60 rfl ?_
                refine r_cV2F mv_X5_today ml_X5_107 (c5_today l hR hn (by omega) (by omega)) dX5_luck_62 (Nat.le_of_ble_eq_true rfl) ⟨by decide, by decide⟩ ⟨by decide, by decide⟩ sh_34 rfl (fun _ h => nomatch h) ?_
                try dsimp only [zrst, List.cons_append, List.nil_append]
                refine r_iload dX5_luck_65 rfl ?_
                refine r_iaddN dX5_luck_67 ?_
                refine r_aload_n dX5_luck_68 rfl rfl ?_
                refine r_iload_n dX5_luck_69 rfl rfl ?_
                refine r_iload dX5_luck_70 rfl ?_
                refine r_cV2F mv_X5_cutOf ml_X5_73 (c5_cutOf l hR (by omega) (by omega)) dX5_luck_72 (Nat.le_of_ble_eq_true rfl) ⟨by decide, by decide⟩ ⟨by decide, by decide⟩ sh_34 rfl (fun _ h => nomatch h) ?_
                try dsimp only [zrst, List.cons_append, List.nil_append]
                refine r_cS2F ms_X5_apart ml_X5_76 (c5_apart l (by omega) (by omega)) dX5_luck_75 (Nat.le_of_ble_eq_true rfl) ⟨by decide, by decide⟩ ⟨by decide, by decide⟩ (fun _ h => nomatch h) ?_
                try dsimp only [zrst, List.cons_append, List.nil_append]
                refine r_aload_n dX5_luck_78 rfl rfl ?_
                refine r_getR fl_X5_7 dX5_luck_79 sh_34 rfl ?_
                refine r_iconst (v := nI 5) dX5_luck_82 rfl ?_
                refine r_ialdN dX5_luck_83 sh_35 (by omega) (by decide) (hR.a35 _) ?_
                refine r_icmp_gtN (tgt := 91) dX5_luck_84 (by decide) (by omega) (by omega) (fun c3 => ?_) (fun c3 => ?_)
                · have hp1 : (if dst (mea (t 35) p k (t 35 3) (t 35 6)) (t 35 (33 + 4 * q + k)) ≤ t 35 5 then 1 else 0) = 0 := if_neg (by unfold dst at *; omega)
                  refine r_iconst (v := nI 0) dX5_luck_91 rfl ?_
                  first | refine r_iaddN dX5_luck_92 ?_ | refine r_iadd dX5_luck_92 ?_
                  refine r_istore dX5_luck_93 rfl (by decide) ?_
                  refine r_iincN dX5_luck_95 rfl rfl (by decide) ?_
                  refine r_goto (tgt := 50) dX5_luck_98 (by decide) ?_
                  refine r_iload dX5_luck_50 rfl ?_
                  refine r_iconst (v := nI 2) dX5_luck_52 rfl ?_
                  refine r_icmp_ge (tgt := 101) dX5_luck_53 (by decide) (fun q9 => absurd q9 (by decide)) (fun _ => ?_)
                  refine r_iload dX5_luck_56 rfl ?_
                  refine r_aload_n dX5_luck_58 rfl rfl ?_
                  refine r_iload_n dX5_luck_59 rfl rfl ?_
                  refine r_iload dX5_luck_60 rfl ?_
                  refine r_cV2F mv_X5_today ml_X5_107 (c5_today l hR hn (by omega) (by omega)) dX5_luck_62 (Nat.le_of_ble_eq_true rfl) ⟨by decide, by decide⟩ ⟨by decide, by decide⟩ sh_34 rfl (fun _ h => nomatch h) ?_
                  try dsimp only [zrst, List.cons_append, List.nil_append]
                  refine r_iload dX5_luck_65 rfl ?_
                  refine r_iaddN dX5_luck_67 ?_
                  refine r_aload_n dX5_luck_68 rfl rfl ?_
                  refine r_iload_n dX5_luck_69 rfl rfl ?_
                  refine r_iload dX5_luck_70 rfl ?_
                  refine r_cV2F mv_X5_cutOf ml_X5_73 (c5_cutOf l hR (by omega) (by omega)) dX5_luck_72 (Nat.le_of_ble_eq_true rfl) ⟨by decide, by decide⟩ ⟨by decide, by decide⟩ sh_34 rfl (fun _ h => nomatch h) ?_
                  try dsimp only [zrst, List.cons_append, List.nil_append]
                  refine r_cS2F ms_X5_apart ml_X5_76 (c5_apart l (by omega) (by omega)) dX5_luck_75 (Nat.le_of_ble_eq_true rfl) ⟨by decide, by decide⟩ ⟨by decide, by decide⟩ (fun _ h => nomatch h) ?_
                  try dsimp only [zrst, List.cons_append, List.nil_append]
                  refine r_aload_n dX5_luck_78 rfl rfl ?_
                  refine r_getR fl_X5_7 dX5_luck_79 sh_34 rfl ?_
                  refine r_iconst (v := nI 5) dX5_luck_82 rfl ?_
                  refine r_ialdN dX5_luck_83 sh_35 (by omega) (by decide) (hR.a35 _) ?_
                  refine r_icmp_gtN (tgt := 91) dX5_luck_84 (by decide) (by omega) (by omega) (fun c4 => ?_) (fun c4 => ?_)
                  · have hp2 : (if dst ((mea (t 35) p k (t 35 3) (t 35 6)) + 1) (t 35 (33 + 4 * q + k)) ≤ t 35 5 then 1 else 0) = 0 := if_neg (by unfold dst at *; omega)
                    refine r_iconst (v := nI 0) dX5_luck_91 rfl ?_
                    first | refine r_iaddN dX5_luck_92 ?_ | refine r_iadd dX5_luck_92 ?_
                    refine r_istore dX5_luck_93 rfl (by decide) ?_
                    refine r_iincN dX5_luck_95 rfl rfl (by decide) ?_
                    refine r_goto (tgt := 50) dX5_luck_98 (by decide) ?_
                    refine r_iload dX5_luck_50 rfl ?_
                    refine r_iconst (v := nI 2) dX5_luck_52 rfl ?_
                    refine r_icmp_ge (tgt := 101) dX5_luck_53 (by decide) (fun _ => ?_) (fun q9 => absurd (by decide) q9)
                    have hX : lkc (t 35) p q k = 0 + 0 + 0 + 0 := by
                      show cnt (mea (t 35) p k (t 35 3) (t 35 6)) (t 35 (33 + 4 * q + k)) (t 35 5) = _
                      unfold cnt
                      rw [hp0, hp1, hp2]
                    refine r_iload dX5_luck_101 rfl ?_
                    refine r_iload dX5_luck_103 rfl ?_
                    first | refine r_imulN dX5_luck_105 ?_ | refine r_imul dX5_luck_105 ?_
                    refine r_istore dX5_luck_106 rfl (by decide) ?_
                    first | refine r_iincN dX5_luck_108 rfl rfl (by decide) ?_ | refine r_iinc dX5_luck_108 rfl rfl rfl (by decide) ?_
                    refine r_goto (tgt := 38) dX5_luck_111 (by decide) ?_
                    have h9 := ih (k + 1) (by omega) (by omega)
                    rw [prd, hX] at h9
                    refine r_lfor 7 ?_
                    refine r_lfor 8 ?_
                    exact h9
                  · have hp2 : (if dst ((mea (t 35) p k (t 35 3) (t 35 6)) + 1) (t 35 (33 + 4 * q + k)) ≤ t 35 5 then 1 else 0) = 1 := if_pos (by unfold dst at *; omega)
                    refine r_iconst (v := nI 1) dX5_luck_87 rfl ?_
                    refine r_goto (tgt := 92) dX5_luck_88 (by decide) ?_
                    first | refine r_iaddN dX5_luck_92 ?_ | refine r_iadd dX5_luck_92 ?_
                    refine r_istore dX5_luck_93 rfl (by decide) ?_
                    refine r_iincN dX5_luck_95 rfl rfl (by decide) ?_
                    refine r_goto (tgt := 50) dX5_luck_98 (by decide) ?_
                    refine r_iload dX5_luck_50 rfl ?_
                    refine r_iconst (v := nI 2) dX5_luck_52 rfl ?_
                    refine r_icmp_ge (tgt := 101) dX5_luck_53 (by decide) (fun _ => ?_) (fun q9 => absurd (by decide) q9)
                    have hX : lkc (t 35) p q k = 0 + 0 + 0 + 1 := by
                      show cnt (mea (t 35) p k (t 35 3) (t 35 6)) (t 35 (33 + 4 * q + k)) (t 35 5) = _
                      unfold cnt
                      rw [hp0, hp1, hp2]
                    refine r_iload dX5_luck_101 rfl ?_
                    refine r_iload dX5_luck_103 rfl ?_
                    first | refine r_imulN dX5_luck_105 ?_ | refine r_imul dX5_luck_105 ?_
                    refine r_istore dX5_luck_106 rfl (by decide) ?_
                    first | refine r_iincN dX5_luck_108 rfl rfl (by decide) ?_ | refine r_iinc dX5_luck_108 rfl rfl rfl (by decide) ?_
                    refine r_goto (tgt := 38) dX5_luck_111 (by decide) ?_
                    have h9 := ih (k + 1) (by omega) (by omega)
                    rw [prd, hX] at h9
                    refine r_lfor 7 ?_
                    refine r_lfor 8 ?_
                    exact h9
                · have hp1 : (if dst (mea (t 35) p k (t 35 3) (t 35 6)) (t 35 (33 + 4 * q + k)) ≤ t 35 5 then 1 else 0) = 1 := if_pos (by unfold dst at *; omega)
                  refine r_iconst (v := nI 1) dX5_luck_87 rfl ?_
                  refine r_goto (tgt := 92) dX5_luck_88 (by decide) ?_
                  first | refine r_iaddN dX5_luck_92 ?_ | refine r_iadd dX5_luck_92 ?_
                  refine r_istore dX5_luck_93 rfl (by decide) ?_
                  refine r_iincN dX5_luck_95 rfl rfl (by decide) ?_
                  refine r_goto (tgt := 50) dX5_luck_98 (by decide) ?_
                  refine r_iload dX5_luck_50 rfl ?_
                  refine r_iconst (v := nI 2) dX5_luck_52 rfl ?_
                  refine r_icmp_ge (tgt := 101) dX5_luck_53 (by decide) (fun q9 => absurd q9 (by decide)) (fun _ => ?_)
                  refine r_iload dX5_luck_56 rfl ?_
                  refine r_aload_n dX5_luck_58 rfl rfl ?_
                  refine r_iload_n dX5_luck_59 rfl rfl ?_
                  refine r_iload dX5_luck_60 rfl ?_
                  refine r_cV2F mv_X5_today ml_X5_107 (c5_today l hR hn (by omega) (by omega)) dX5_luck_62 (Nat.le_of_ble_eq_true rfl) ⟨by decide, by decide⟩ ⟨by decide, by decide⟩ sh_34 rfl (fun _ h => nomatch h) ?_
                  try dsimp only [zrst, List.cons_append, List.nil_append]
                  refine r_iload dX5_luck_65 rfl ?_
                  refine r_iaddN dX5_luck_67 ?_
                  refine r_aload_n dX5_luck_68 rfl rfl ?_
                  refine r_iload_n dX5_luck_69 rfl rfl ?_
                  refine r_iload dX5_luck_70 rfl ?_
                  refine r_cV2F mv_X5_cutOf ml_X5_73 (c5_cutOf l hR (by omega) (by omega)) dX5_luck_72 (Nat.le_of_ble_eq_true rfl) ⟨by decide, by decide⟩ ⟨by decide, by decide⟩ sh_34 rfl (fun _ h => nomatch h) ?_
                  try dsimp only [zrst, List.cons_append, List.nil_append]
                  refine r_cS2F ms_X5_apart ml_X5_76 (c5_apart l (by omega) (by omega)) dX5_luck_75 (Nat.le_of_ble_eq_true rfl) ⟨by decide, by decide⟩ ⟨by decide, by decide⟩ (fun _ h => nomatch h) ?_
                  try dsimp only [zrst, List.cons_append, List.nil_append]
                  refine r_aload_n dX5_luck_78 rfl rfl ?_
                  refine r_getR fl_X5_7 dX5_luck_79 sh_34 rfl ?_
                  refine r_iconst (v := nI 5) dX5_luck_82 rfl ?_
                  refine r_ialdN dX5_luck_83 sh_35 (by omega) (by decide) (hR.a35 _) ?_
                  refine r_icmp_gtN (tgt := 91) dX5_luck_84 (by decide) (by omega) (by omega) (fun c5 => ?_) (fun c5 => ?_)
                  · have hp2 : (if dst ((mea (t 35) p k (t 35 3) (t 35 6)) + 1) (t 35 (33 + 4 * q + k)) ≤ t 35 5 then 1 else 0) = 0 := if_neg (by unfold dst at *; omega)
                    refine r_iconst (v := nI 0) dX5_luck_91 rfl ?_
                    first | refine r_iaddN dX5_luck_92 ?_ | refine r_iadd dX5_luck_92 ?_
                    refine r_istore dX5_luck_93 rfl (by decide) ?_
                    refine r_iincN dX5_luck_95 rfl rfl (by decide) ?_
                    refine r_goto (tgt := 50) dX5_luck_98 (by decide) ?_
                    refine r_iload dX5_luck_50 rfl ?_
                    refine r_iconst (v := nI 2) dX5_luck_52 rfl ?_
                    refine r_icmp_ge (tgt := 101) dX5_luck_53 (by decide) (fun _ => ?_) (fun q9 => absurd (by decide) q9)
                    have hX : lkc (t 35) p q k = 0 + 0 + 1 + 0 := by
                      show cnt (mea (t 35) p k (t 35 3) (t 35 6)) (t 35 (33 + 4 * q + k)) (t 35 5) = _
                      unfold cnt
                      rw [hp0, hp1, hp2]
                    refine r_iload dX5_luck_101 rfl ?_
                    refine r_iload dX5_luck_103 rfl ?_
                    first | refine r_imulN dX5_luck_105 ?_ | refine r_imul dX5_luck_105 ?_
                    refine r_istore dX5_luck_106 rfl (by decide) ?_
                    first | refine r_iincN dX5_luck_108 rfl rfl (by decide) ?_ | refine r_iinc dX5_luck_108 rfl rfl rfl (by decide) ?_
                    refine r_goto (tgt := 38) dX5_luck_111 (by decide) ?_
                    have h9 := ih (k + 1) (by omega) (by omega)
                    rw [prd, hX] at h9
                    refine r_lfor 7 ?_
                    refine r_lfor 8 ?_
                    exact h9
                  · have hp2 : (if dst ((mea (t 35) p k (t 35 3) (t 35 6)) + 1) (t 35 (33 + 4 * q + k)) ≤ t 35 5 then 1 else 0) = 1 := if_pos (by unfold dst at *; omega)
                    refine r_iconst (v := nI 1) dX5_luck_87 rfl ?_
                    refine r_goto (tgt := 92) dX5_luck_88 (by decide) ?_
                    first | refine r_iaddN dX5_luck_92 ?_ | refine r_iadd dX5_luck_92 ?_
                    refine r_istore dX5_luck_93 rfl (by decide) ?_
                    refine r_iincN dX5_luck_95 rfl rfl (by decide) ?_
                    refine r_goto (tgt := 50) dX5_luck_98 (by decide) ?_
                    refine r_iload dX5_luck_50 rfl ?_
                    refine r_iconst (v := nI 2) dX5_luck_52 rfl ?_
                    refine r_icmp_ge (tgt := 101) dX5_luck_53 (by decide) (fun _ => ?_) (fun q9 => absurd (by decide) q9)
                    have hX : lkc (t 35) p q k = 0 + 0 + 1 + 1 := by
                      show cnt (mea (t 35) p k (t 35 3) (t 35 6)) (t 35 (33 + 4 * q + k)) (t 35 5) = _
                      unfold cnt
                      rw [hp0, hp1, hp2]
                    refine r_iload dX5_luck_101 rfl ?_
                    refine r_iload dX5_luck_103 rfl ?_
                    first | refine r_imulN dX5_luck_105 ?_ | refine r_imul dX5_luck_105 ?_
                    refine r_istore dX5_luck_106 rfl (by decide) ?_
                    first | refine r_iincN dX5_luck_108 rfl rfl (by decide) ?_ | refine r_iinc dX5_luck_108 rfl rfl rfl (by decide) ?_
                    refine r_goto (tgt := 38) dX5_luck_111 (by decide) ?_
                    have h9 := ih (k + 1) (by omega) (by omega)
                    rw [prd, hX] at h9
                    refine r_lfor 7 ?_
                    refine r_lfor 8 ?_
                    exact h9
              · have hp0 : (if dst ((mea (t 35) p k (t 35 3) (t 35 6)) - 1) (t 35 (33 + 4 * q + k)) ≤ t 35 5 then 1 else 0) = 1 := if_pos (by unfold dst at *; omega)
                refine r_iconst (v := nI 1) dX5_luck_87 rfl ?_
                refine r_goto (tgt := 92) dX5_luck_88 (by decide) ?_
                first | refine r_iaddN dX5_luck_92 ?_ | refine r_iadd dX5_luck_92 ?_
                refine r_istore dX5_luck_93 rfl (by decide) ?_
                refine r_iinc (v := nI 0) dX5_luck_95 rfl (by decide) rfl (by decide) ?_
                refine r_goto (tgt := 50) dX5_luck_98 (by decide) ?_
                refine r_iload dX5_luck_50 rfl ?_
                refine r_iconst (v := nI 2) dX5_luck_52 rfl ?_
                refine r_icmp_ge (tgt := 101) dX5_luck_53 (by decide) (fun q9 => absurd q9 (by decide)) (fun _ => ?_)
                refine r_iload dX5_luck_56 rfl ?_
                refine r_aload_n dX5_luck_58 rfl rfl ?_
                refine r_iload_n dX5_luck_59 rfl rfl ?_
                refine r_iload dX5_luck_60 rfl ?_
                refine r_cV2F mv_X5_today ml_X5_107 (c5_today l hR hn (by omega) (by omega)) dX5_luck_62 (Nat.le_of_ble_eq_true rfl) ⟨by decide, by decide⟩ ⟨by decide, by decide⟩ sh_34 rfl (fun _ h => nomatch h) ?_
                try dsimp only [zrst, List.cons_append, List.nil_append]
                refine r_iload dX5_luck_65 rfl ?_
                refine r_iaddN dX5_luck_67 ?_
                refine r_aload_n dX5_luck_68 rfl rfl ?_
                refine r_iload_n dX5_luck_69 rfl rfl ?_
                refine r_iload dX5_luck_70 rfl ?_
                refine r_cV2F mv_X5_cutOf ml_X5_73 (c5_cutOf l hR (by omega) (by omega)) dX5_luck_72 (Nat.le_of_ble_eq_true rfl) ⟨by decide, by decide⟩ ⟨by decide, by decide⟩ sh_34 rfl (fun _ h => nomatch h) ?_
                try dsimp only [zrst, List.cons_append, List.nil_append]
                refine r_cS2F ms_X5_apart ml_X5_76 (c5_apart l (by omega) (by omega)) dX5_luck_75 (Nat.le_of_ble_eq_true rfl) ⟨by decide, by decide⟩ ⟨by decide, by decide⟩ (fun _ h => nomatch h) ?_
                try dsimp only [zrst, List.cons_append, List.nil_append]
                refine r_aload_n dX5_luck_78 rfl rfl ?_
                refine r_getR fl_X5_7 dX5_luck_79 sh_34 rfl ?_
                refine r_iconst (v := nI 5) dX5_luck_82 rfl ?_
                refine r_ialdN dX5_luck_83 sh_35 (by omega) (by decide) (hR.a35 _) ?_
                refine r_icmp_gtN (tgt := 91) dX5_luck_84 (by decide) (by omega) (by omega) (fun c6 => ?_) (fun c6 => ?_)
                · have hp1 : (if dst (mea (t 35) p k (t 35 3) (t 35 6)) (t 35 (33 + 4 * q + k)) ≤ t 35 5 then 1 else 0) = 0 := if_neg (by unfold dst at *; omega)
                  refine r_iconst (v := nI 0) dX5_luck_91 rfl ?_
                  first | refine r_iaddN dX5_luck_92 ?_ | refine r_iadd dX5_luck_92 ?_
                  refine r_istore dX5_luck_93 rfl (by decide) ?_
                  refine r_iincN dX5_luck_95 rfl rfl (by decide) ?_
                  refine r_goto (tgt := 50) dX5_luck_98 (by decide) ?_
                  refine r_iload dX5_luck_50 rfl ?_
                  refine r_iconst (v := nI 2) dX5_luck_52 rfl ?_
                  refine r_icmp_ge (tgt := 101) dX5_luck_53 (by decide) (fun q9 => absurd q9 (by decide)) (fun _ => ?_)
                  refine r_iload dX5_luck_56 rfl ?_
                  refine r_aload_n dX5_luck_58 rfl rfl ?_
                  refine r_iload_n dX5_luck_59 rfl rfl ?_
                  refine r_iload dX5_luck_60 rfl ?_
                  refine r_cV2F mv_X5_today ml_X5_107 (c5_today l hR hn (by omega) (by omega)) dX5_luck_62 (Nat.le_of_ble_eq_true rfl) ⟨by decide, by decide⟩ ⟨by decide, by decide⟩ sh_34 rfl (fun _ h => nomatch h) ?_
                  try dsimp only [zrst, List.cons_append, List.nil_append]
                  refine r_iload dX5_luck_65 rfl ?_
                  refine r_iaddN dX5_luck_67 ?_
                  refine r_aload_n dX5_luck_68 rfl rfl ?_
                  refine r_iload_n dX5_luck_69 rfl rfl ?_
                  refine r_iload dX5_luck_70 rfl ?_
                  refine r_cV2F mv_X5_cutOf ml_X5_73 (c5_cutOf l hR (by omega) (by omega)) dX5_luck_72 (Nat.le_of_ble_eq_true rfl) ⟨by decide, by decide⟩ ⟨by decide, by decide⟩ sh_34 rfl (fun _ h => nomatch h) ?_
                  try dsimp only [zrst, List.cons_append, List.nil_append]
                  refine r_cS2F ms_X5_apart ml_X5_76 (c5_apart l (by omega) (by omega)) dX5_luck_75 (Nat.le_of_ble_eq_true rfl) ⟨by decide, by decide⟩ ⟨by decide, by decide⟩ (fun _ h => nomatch h) ?_
                  try dsimp only [zrst, List.cons_append, List.nil_append]
                  refine r_aload_n dX5_luck_78 rfl rfl ?_
                  refine r_getR fl_X5_7 dX5_luck_79 sh_34 rfl ?_
                  refine r_iconst (v := nI 5) dX5_luck_82 rfl ?_
                  refine r_ialdN dX5_luck_83 sh_35 (by omega) (by decide) (hR.a35 _) ?_
                  refine r_icmp_gtN (tgt := 91) dX5_luck_84 (by decide) (by omega) (by omega) (fun c7 => ?_) (fun c7 => ?_)
                  · have hp2 : (if dst ((mea (t 35) p k (t 35 3) (t 35 6)) + 1) (t 35 (33 + 4 * q + k)) ≤ t 35 5 then 1 else 0) = 0 := if_neg (by unfold dst at *; omega)
                    refine r_iconst (v := nI 0) dX5_luck_91 rfl ?_
                    first | refine r_iaddN dX5_luck_92 ?_ | refine r_iadd dX5_luck_92 ?_
                    refine r_istore dX5_luck_93 rfl (by decide) ?_
                    refine r_iincN dX5_luck_95 rfl rfl (by decide) ?_
                    refine r_goto (tgt := 50) dX5_luck_98 (by decide) ?_
                    refine r_iload dX5_luck_50 rfl ?_
                    refine r_iconst (v := nI 2) dX5_luck_52 rfl ?_
                    refine r_icmp_ge (tgt := 101) dX5_luck_53 (by decide) (fun _ => ?_) (fun q9 => absurd (by decide) q9)
                    have hX : lkc (t 35) p q k = 0 + 1 + 0 + 0 := by
                      show cnt (mea (t 35) p k (t 35 3) (t 35 6)) (t 35 (33 + 4 * q + k)) (t 35 5) = _
                      unfold cnt
                      rw [hp0, hp1, hp2]
                    refine r_iload dX5_luck_101 rfl ?_
                    refine r_iload dX5_luck_103 rfl ?_
                    first | refine r_imulN dX5_luck_105 ?_ | refine r_imul dX5_luck_105 ?_
                    refine r_istore dX5_luck_106 rfl (by decide) ?_
                    first | refine r_iincN dX5_luck_108 rfl rfl (by decide) ?_ | refine r_iinc dX5_luck_108 rfl rfl rfl (by decide) ?_
                    refine r_goto (tgt := 38) dX5_luck_111 (by decide) ?_
                    have h9 := ih (k + 1) (by omega) (by omega)
                    rw [prd, hX] at h9
                    refine r_lfor 7 ?_
                    refine r_lfor 8 ?_
                    exact h9
                  · have hp2 : (if dst ((mea (t 35) p k (t 35 3) (t 35 6)) + 1) (t 35 (33 + 4 * q + k)) ≤ t 35 5 then 1 else 0) = 1 := if_pos (by unfold dst at *; omega)
                    refine r_iconst (v := nI 1) dX5_luck_87 rfl ?_
                    refine r_goto (tgt := 92) dX5_luck_88 (by decide) ?_
                    first | refine r_iaddN dX5_luck_92 ?_ | refine r_iadd dX5_luck_92 ?_
                    refine r_istore dX5_luck_93 rfl (by decide) ?_
                    refine r_iincN dX5_luck_95 rfl rfl (by decide) ?_
                    refine r_goto (tgt := 50) dX5_luck_98 (by decide) ?_
                    refine r_iload dX5_luck_50 rfl ?_
                    refine r_iconst (v := nI 2) dX5_luck_52 rfl ?_
                    refine r_icmp_ge (tgt := 101) dX5_luck_53 (by decide) (fun _ => ?_) (fun q9 => absurd (by decide) q9)
                    have hX : lkc (t 35) p q k = 0 + 1 + 0 + 1 := by
                      show cnt (mea (t 35) p k (t 35 3) (t 35 6)) (t 35 (33 + 4 * q + k)) (t 35 5) = _
                      unfold cnt
                      rw [hp0, hp1, hp2]
                    refine r_iload dX5_luck_101 rfl ?_
                    refine r_iload dX5_luck_103 rfl ?_
                    first | refine r_imulN dX5_luck_105 ?_ | refine r_imul dX5_luck_105 ?_
                    refine r_istore dX5_luck_106 rfl (by decide) ?_
                    first | refine r_iincN dX5_luck_108 rfl rfl (by decide) ?_ | refine r_iinc dX5_luck_108 rfl rfl rfl (by decide) ?_
                    refine r_goto (tgt := 38) dX5_luck_111 (by decide) ?_
                    have h9 := ih (k + 1) (by omega) (by omega)
                    rw [prd, hX] at h9
                    refine r_lfor 7 ?_
                    refine r_lfor 8 ?_
                    exact h9
                · have hp1 : (if dst (mea (t 35) p k (t 35 3) (t 35 6)) (t 35 (33 + 4 * q + k)) ≤ t 35 5 then 1 else 0) = 1 := if_pos (by unfold dst at *; omega)
                  refine r_iconst (v := nI 1) dX5_luck_87 rfl ?_
                  refine r_goto (tgt := 92) dX5_luck_88 (by decide) ?_
                  first | refine r_iaddN dX5_luck_92 ?_ | refine r_iadd dX5_luck_92 ?_
                  refine r_istore dX5_luck_93 rfl (by decide) ?_
                  refine r_iincN dX5_luck_95 rfl rfl (by decide) ?_
                  refine r_goto (tgt := 50) dX5_luck_98 (by decide) ?_
                  refine r_iload dX5_luck_50 rfl ?_
                  refine r_iconst (v := nI 2) dX5_luck_52 rfl ?_
                  refine r_icmp_ge (tgt := 101) dX5_luck_53 (by decide) (fun q9 => absurd q9 (by decide)) (fun _ => ?_)
                  refine r_iload dX5_luck_56 rfl ?_
                  refine r_aload_n dX5_luck_58 rfl rfl ?_
                  refine r_iload_n dX5_luck_59 rfl rfl ?_
                  refine r_iload dX5_luck_60 rfl ?_
                  refine r_cV2F mv_X5_today ml_X5_107 (c5_today l hR hn (by omega) (by omega)) dX5_luck_62 (Nat.le_of_ble_eq_true rfl) ⟨by decide, by decide⟩ ⟨by decide, by decide⟩ sh_34 rfl (fun _ h => nomatch h) ?_
                  try dsimp only [zrst, List.cons_append, List.nil_append]
                  refine r_iload dX5_luck_65 rfl ?_
                  refine r_iaddN dX5_luck_67 ?_
                  refine r_aload_n dX5_luck_68 rfl rfl ?_
                  refine r_iload_n dX5_luck_69 rfl rfl ?_
                  refine r_iload dX5_luck_70 rfl ?_
                  refine r_cV2F mv_X5_cutOf ml_X5_73 (c5_cutOf l hR (by omega) (by omega)) dX5_luck_72 (Nat.le_of_ble_eq_true rfl) ⟨by decide, by decide⟩ ⟨by decide, by decide⟩ sh_34 rfl (fun _ h => nomatch h) ?_
                  try dsimp only [zrst, List.cons_append, List.nil_append]
                  refine r_cS2F ms_X5_apart ml_X5_76 (c5_apart l (by omega) (by omega)) dX5_luck_75 (Nat.le_of_ble_eq_true rfl) ⟨by decide, by decide⟩ ⟨by decide, by decide⟩ (fun _ h => nomatch h) ?_
                  try dsimp only [zrst, List.cons_append, List.nil_append]
                  refine r_aload_n dX5_luck_78 rfl rfl ?_
                  refine r_getR fl_X5_7 dX5_luck_79 sh_34 rfl ?_
                  refine r_iconst (v := nI 5) dX5_luck_82 rfl ?_
                  refine r_ialdN dX5_luck_83 sh_35 (by omega) (by decide) (hR.a35 _) ?_
                  refine r_icmp_gtN (tgt := 91) dX5_luck_84 (by decide) (by omega) (by omega) (fun c8 => ?_) (fun c8 => ?_)
                  · have hp2 : (if dst ((mea (t 35) p k (t 35 3) (t 35 6)) + 1) (t 35 (33 + 4 * q + k)) ≤ t 35 5 then 1 else 0) = 0 := if_neg (by unfold dst at *; omega)
                    refine r_iconst (v := nI 0) dX5_luck_91 rfl ?_
                    first | refine r_iaddN dX5_luck_92 ?_ | refine r_iadd dX5_luck_92 ?_
                    refine r_istore dX5_luck_93 rfl (by decide) ?_
                    refine r_iincN dX5_luck_95 rfl rfl (by decide) ?_
                    refine r_goto (tgt := 50) dX5_luck_98 (by decide) ?_
                    refine r_iload dX5_luck_50 rfl ?_
                    refine r_iconst (v := nI 2) dX5_luck_52 rfl ?_
                    refine r_icmp_ge (tgt := 101) dX5_luck_53 (by decide) (fun _ => ?_) (fun q9 => absurd (by decide) q9)
                    have hX : lkc (t 35) p q k = 0 + 1 + 1 + 0 := by
                      show cnt (mea (t 35) p k (t 35 3) (t 35 6)) (t 35 (33 + 4 * q + k)) (t 35 5) = _
                      unfold cnt
                      rw [hp0, hp1, hp2]
                    refine r_iload dX5_luck_101 rfl ?_
                    refine r_iload dX5_luck_103 rfl ?_
                    first | refine r_imulN dX5_luck_105 ?_ | refine r_imul dX5_luck_105 ?_
                    refine r_istore dX5_luck_106 rfl (by decide) ?_
                    first | refine r_iincN dX5_luck_108 rfl rfl (by decide) ?_ | refine r_iinc dX5_luck_108 rfl rfl rfl (by decide) ?_
                    refine r_goto (tgt := 38) dX5_luck_111 (by decide) ?_
                    have h9 := ih (k + 1) (by omega) (by omega)
                    rw [prd, hX] at h9
                    refine r_lfor 7 ?_
                    refine r_lfor 8 ?_
                    exact h9
                  · have hp2 : (if dst ((mea (t 35) p k (t 35 3) (t 35 6)) + 1) (t 35 (33 + 4 * q + k)) ≤ t 35 5 then 1 else 0) = 1 := if_pos (by unfold dst at *; omega)
                    refine r_iconst (v := nI 1) dX5_luck_87 rfl ?_
                    refine r_goto (tgt := 92) dX5_luck_88 (by decide) ?_
                    first | refine r_iaddN dX5_luck_92 ?_ | refine r_iadd dX5_luck_92 ?_
                    refine r_istore dX5_luck_93 rfl (by decide) ?_
                    refine r_iincN dX5_luck_95 rfl rfl (by decide) ?_
                    refine r_goto (tgt := 50) dX5_luck_98 (by decide) ?_
                    refine r_iload dX5_luck_50 rfl ?_
                    refine r_iconst (v := nI 2) dX5_luck_52 rfl ?_
                    refine r_icmp_ge (tgt := 101) dX5_luck_53 (by decide) (fun _ => ?_) (fun q9 => absurd (by decide) q9)
                    have hX : lkc (t 35) p q k = 0 + 1 + 1 + 1 := by
                      show cnt (mea (t 35) p k (t 35 3) (t 35 6)) (t 35 (33 + 4 * q + k)) (t 35 5) = _
                      unfold cnt
                      rw [hp0, hp1, hp2]
                    refine r_iload dX5_luck_101 rfl ?_
                    refine r_iload dX5_luck_103 rfl ?_
                    first | refine r_imulN dX5_luck_105 ?_ | refine r_imul dX5_luck_105 ?_
                    refine r_istore dX5_luck_106 rfl (by decide) ?_
                    first | refine r_iincN dX5_luck_108 rfl rfl (by decide) ?_ | refine r_iinc dX5_luck_108 rfl rfl rfl (by decide) ?_
                    refine r_goto (tgt := 38) dX5_luck_111 (by decide) ?_
                    have h9 := ih (k + 1) (by omega) (by omega)
                    rw [prd, hX] at h9
                    refine r_lfor 7 ?_
                    refine r_lfor 8 ?_
                    exact h9
        exact loop (4 + 1) 0 (Nat.zero_le _) (by omega)
      · rw [i64_of32] at c3
        have c3 : ¬ ((0 : Int) ≤ w.toInt ∧ w.toInt ≤ (1 : Int)) := c3
        have b3 : ¬ (0 ≤ w.toInt ∧ w.toInt ≤ 1) := by omega
        refine r_iconst (v := (-1)) dX5_luck_26 rfl ?_
        refine r_iret dX5_luck_27 rfl (by decide) (by decide) ?_
        exact ⟨congrArg (fun x => some (Value.int x)) (if_neg (fun h => by first | exact absurd h (by assumption) | exact absurd h.1 (by assumption) | exact absurd h.2 (by assumption) | exact absurd h.2.1 (by assumption) | exact absurd h.2.2 (by assumption) | exact absurd h.2.2.1 (by assumption) | exact absurd h.2.2.2 (by assumption) | exact absurd h.2.2.2.1 (by assumption) | exact absurd h.2.2.2.2 (by assumption))).symm, rfl, rfl⟩

