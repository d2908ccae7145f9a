theorem bst_le {n : Nat → Nat} (hn : NB n) {p m N : Nat} (hp : p < n 0) (hm : m < 4) (hN : N ≤ 40) : ∀ k, k ≤ 200 → (bst (fa_ (bcL n p m) N) k).2 ≤ 20000
  | 0, _ => fa_le hn hp hm hN (by omega) (N + 1) (Nat.le_refl _)
  | k + 1, h => by
    rw [bst]
    split
    · exact fa_le hn hp hm hN (by omega) (N + 1) (Nat.le_refl _)
    · exact bst_le hn hp hm hN k (by omega)
set_option maxHeartbeats 4000000 in
set_option maxRecDepth 100000 in
theorem c4_bestCut (l : Launch) {rw : List zC} {M0 : zM} {n u : Nat → Nat} {kn : Nat} (hS : SI 1 n u kn M0) (hn : NB n) (x z v w : Int32) : CT l false 5 0 0 yX4_bestCut cX4_bestCut 6 (some .int) [.ref 0, .int x, .int z, .int v, .int w] (zSh ++ rw) M0 (zG (zSh ++ rw) (fun v9 M9 => v9 = some (.int (sp_bestCut n x z v w)) ∧ zfr (fun i => i = 25) M0 M9)) := by
  refine CT.ofN (by decide) (fun _ _ => Nat.le_of_ble_eq_true rfl) ?_
  have hdd := hn.2.2.2.2.2.2.2.2.2.2.2
  have hkd := hn.2.2.2.2.2.2.2.2.1
  have how := hn.2.2.2.2.2.2.2.2.2.1
  have hcu := hn.2.2.2.2.2.2.2.2.2.2.1
  have hb0 := hn.1
  have hb1 := hn.2.1
  have hb2 := hn.2.2.1
  have hb3 := hn.2.2.2.1
  have hb4 := hn.2.2.2.2.1
  have hb5 := hn.2.2.2.2.2.1
  have hb6 := hn.2.2.2.2.2.2.1
  refine r_aload_n dX4_bestCut_0 rfl rfl ?_
  refine r_getR fl_X4_10 dX4_bestCut_1 sh_0 rfl ?_
  refine r_iload_n dX4_bestCut_4 rfl rfl ?_
  refine r_cV1F mv_X3_hasPerson ml_X4_53 (c3_hasPerson l hS (by omega) _) dX4_bestCut_5 (Nat.le_of_ble_eq_true rfl) ⟨by decide, by decide⟩ ⟨by decide, by decide⟩ sh_1 rfl (fun _ h => nomatch h) ?_
  try dsimp only [zrst, List.cons_append, List.nil_append]
  first | refine r_if_eqB (tgt := 36) dX4_bestCut_8 (by decide) (fun c1 => ?_) (fun c1 => ?_) | refine r_if_eqN (tgt := 36) dX4_bestCut_8 (by decide) (by omega) (fun c1 => ?_) (fun c1 => ?_) | refine r_if_eq (tgt := 36) dX4_bestCut_8 (by decide) (fun c1 => ?_) (fun c1 => ?_)
  · have b1 : ¬ (0 ≤ x.toInt ∧ x.toInt < (n 0 : Int)) := by omega
    refine r_iconst (v := (-1)) dX4_bestCut_36 rfl ?_
    refine r_iret dX4_bestCut_37 rfl (by decide) (by decide) ?_
    refine ⟨rfl, congrArg (fun x => some (Value.int x)) ?_, zfr.rf⟩
    rw [sp_bestCut, if_neg]
    intro h9; first | exact absurd h9 (by assumption) | exact absurd h9.1 (by assumption) | exact absurd h9.2 (by assumption) | exact absurd h9.2.1 (by assumption) | exact absurd h9.2.2 (by assumption) | exact absurd h9.2.2.1 (by assumption) | exact absurd h9.2.2.2 (by assumption) | exact absurd h9.2.2.2.1 (by assumption) | exact absurd h9.2.2.2.2 (by assumption)
  · have g1 : 0 ≤ x.toInt ∧ x.toInt < (n 0 : Int) := by omega
    obtain ⟨p, hp, rfl⟩ := arg_nat (n := n 0) (show 0 ≤ x.toInt ∧ x.toInt < ((n 0 : Nat) : Int) by omega)
    refine r_iload_n dX4_bestCut_11 rfl rfl ?_
    refine r_cS1F ms_X4_isMeasure ml_X4_57 (c4_isMeasure l _) dX4_bestCut_12 (Nat.le_of_ble_eq_true rfl) ⟨by decide, by decide⟩ ⟨by decide, by decide⟩ (fun _ h => nomatch h) ?_
    try dsimp only [zrst, List.cons_append, List.nil_append]
    first | refine r_if_eqB (tgt := 36) dX4_bestCut_15 (by decide) (fun c2 => ?_) (fun c2 => ?_) | refine r_if_eqN (tgt := 36) dX4_bestCut_15 (by decide) (by omega) (fun c2 => ?_) (fun c2 => ?_) | refine r_if_eq (tgt := 36) dX4_bestCut_15 (by decide) (fun c2 => ?_) (fun c2 => ?_)
    · have c2 : ¬ ((0 : Int) ≤ z.toInt ∧ z.toInt < (4 : Int)) := c2
      have b2 : ¬ (0 ≤ z.toInt ∧ z.toInt ≤ 3) := by omega
      refine r_iconst (v := (-1)) dX4_bestCut_36 rfl ?_
      refine r_iret dX4_bestCut_37 rfl (by decide) (by decide) ?_
      refine ⟨rfl, congrArg (fun x => some (Value.int x)) ?_, zfr.rf⟩
      rw [sp_bestCut, if_neg]
      intro h9; first | exact absurd h9 (by assumption) | exact absurd h9.1 (by assumption) | exact absurd h9.2 (by assumption) | exact absurd h9.2.1 (by assumption) | exact absurd h9.2.2 (by assumption) | exact absurd h9.2.2.1 (by assumption) | exact absurd h9.2.2.2 (by assumption) | exact absurd h9.2.2.2.1 (by assumption) | exact absurd h9.2.2.2.2 (by assumption)
    · have c2 : ((0 : Int) ≤ z.toInt ∧ z.toInt < (4 : Int)) := c2
      have g2 : 0 ≤ z.toInt ∧ z.toInt ≤ 3 := by omega
      obtain ⟨m, hm1, hm2, rfl⟩ := arg_rng (a := 0) (b := 3) (show ((0 : Nat) : Int) ≤ z.toInt ∧ z.toInt ≤ ((3 : Nat) : Int) by omega)
      refine r_iload_n dX4_bestCut_18 rfl rfl ?_
      refine r_iconst (v := nI 0) dX4_bestCut_19 rfl ?_
      refine r_bipush (v := nI 40) dX4_bestCut_20 rfl ?_
      refine r_cS3F ms_X4_within ml_X4_41 (c4_within l _ _ _) dX4_bestCut_22 (Nat.le_of_ble_eq_true rfl) ⟨by decide, by decide⟩ ⟨by decide, by decide⟩ (fun _ h => nomatch h) ?_
      try dsimp only [zrst, List.cons_append, List.nil_append]
      first | refine r_if_eqB (tgt := 36) dX4_bestCut_25 (by decide) (fun c3 => ?_) (fun c3 => ?_) | refine r_if_eqN (tgt := 36) dX4_bestCut_25 (by decide) (by omega) (fun c3 => ?_) (fun c3 => ?_) | refine r_if_eq (tgt := 36) dX4_bestCut_25 (by decide) (fun c3 => ?_) (fun c3 => ?_)
      · have c3 : ¬ ((0 : Int) ≤ v.toInt ∧ v.toInt ≤ (40 : Int)) := c3
        have b3 : ¬ (0 ≤ v.toInt ∧ v.toInt ≤ 40) := by omega
        refine r_iconst (v := (-1)) dX4_bestCut_36 rfl ?_
        refine r_iret dX4_bestCut_37 rfl (by decide) (by decide) ?_
        refine ⟨rfl, congrArg (fun x => some (Value.int x)) ?_, zfr.rf⟩
        rw [sp_bestCut, if_neg]
        intro h9; first | exact absurd h9 (by assumption) | exact absurd h9.1 (by assumption) | exact absurd h9.2 (by assumption) | exact absurd h9.2.1 (by assumption) | exact absurd h9.2.2 (by assumption) | exact absurd h9.2.2.1 (by assumption) | exact absurd h9.2.2.2 (by assumption) | exact absurd h9.2.2.2.1 (by assumption) | exact absurd h9.2.2.2.2 (by assumption)
      · have c3 : ((0 : Int) ≤ v.toInt ∧ v.toInt ≤ (40 : Int)) := c3
        have g3 : 0 ≤ v.toInt ∧ v.toInt ≤ 40 := by omega
        obtain ⟨N, hN1, hN2, rfl⟩ := arg_rng (a := 0) (b := 40) (show ((0 : Nat) : Int) ≤ v.toInt ∧ v.toInt ≤ ((40 : Nat) : Int) by omega)
        refine r_iload dX4_bestCut_28 rfl ?_
        refine r_cS1F ms_X4_isEither ml_X4_108 (c4_isEither l _) dX4_bestCut_30 (Nat.le_of_ble_eq_true rfl) ⟨by decide, by decide⟩ ⟨by decide, by decide⟩ (fun _ h => nomatch h) ?_
        try dsimp only [zrst, List.cons_append, List.nil_append]
        first | refine r_if_neB (tgt := 38) dX4_bestCut_33 (by decide) (fun c4 => ?_) (fun c4 => ?_) | refine r_if_neN (tgt := 38) dX4_bestCut_33 (by decide) (by omega) (fun c4 => ?_) (fun c4 => ?_) | refine r_if_ne (tgt := 38) dX4_bestCut_33 (by decide) (fun c4 => ?_) (fun c4 => ?_)
        · have c4 : ((0 : Int) ≤ w.toInt ∧ w.toInt < (2 : Int)) := c4
          have g4 : 0 ≤ w.toInt ∧ w.toInt ≤ 1 := by omega
          obtain ⟨k, hk1, hk2, rfl⟩ := arg_rng (a := 0) (b := 1) (show ((0 : Nat) : Int) ≤ w.toInt ∧ w.toInt ≤ ((1 : Nat) : Int) by omega)
          refine r_aload_n dX4_bestCut_38 rfl rfl ?_
          refine r_getR fl_X4_31 dX4_bestCut_39 sh_0 rfl ?_
          refine r_iload_n dX4_bestCut_42 rfl rfl ?_
          refine r_iload_n dX4_bestCut_43 rfl rfl ?_
          refine r_iload_n dX4_bestCut_44 rfl rfl ?_
          refine r_cV3G mv_X0_leastShowingCut ml_X4_181 (c0_leastShowingCut l hS hn hp (by omega) (by omega)) dX4_bestCut_45 (Nat.le_of_ble_eq_true rfl) ⟨by decide, by decide⟩ ⟨by decide, by decide⟩ sh_24 rfl (fun _ h => nomatch h) (fun v M1 hq => ?_)
          obtain ⟨rfl, hL, hF⟩ := hq
          dsimp only [zrst, List.cons_append, List.nil_append]
          refine r_istore dX4_bestCut_48 rfl (by decide) ?_
          refine r_iload dX4_bestCut_50 rfl ?_
          first | refine r_if_neB (tgt := 60) dX4_bestCut_52 (by decide) (fun c5 => ?_) (fun c5 => ?_) | refine r_if_neN (tgt := 60) dX4_bestCut_52 (by decide) (by omega) (fun c5 => ?_) (fun c5 => ?_) | refine r_if_ne (tgt := 60) dX4_bestCut_52 (by decide) (fun c5 => ?_) (fun c5 => ?_)
          · refine r_aload_n dX4_bestCut_60 rfl rfl ?_
            refine r_getR fl_X4_31 dX4_bestCut_61 sh_0 rfl ?_
            refine r_iload dX4_bestCut_64 rfl ?_
            refine r_iload_n dX4_bestCut_66 rfl rfl ?_
            refine r_cV2F mv_X0_farInAll ml_X4_184 (c0_farInAll l hn hp (by omega) (by omega) (by have := lsk_le (f := fa_ (bcL n p m) N) 199 0; omega) hL) dX4_bestCut_67 (Nat.le_of_ble_eq_true rfl) ⟨by decide, by decide⟩ ⟨by decide, by decide⟩ sh_24 rfl (fun _ h => nomatch h) ?_
            try dsimp only [zrst, List.cons_append, List.nil_append]
            refine r_iret dX4_bestCut_70 rfl (by decide) (by decide) ?_
            refine ⟨rfl, congrArg (fun x => some (Value.int x)) ?_, hF⟩
            rw [sp_bestCut, if_pos ⟨g1, g2, g3, g4⟩, tn_nI (show p < 2147483648 by omega), tn_nI (show m < 2147483648 by omega), tn_nI (show N < 2147483648 by omega), tn_nI (show k < 2147483648 by omega), bo_bestCut, best_eq]
            split <;> first | rfl | (exfalso; omega)
          · refine r_iload dX4_bestCut_55 rfl ?_
            refine r_goto (tgt := 70) dX4_bestCut_57 (by decide) ?_
            refine r_iret dX4_bestCut_70 rfl (by decide) (by decide) ?_
            refine ⟨rfl, congrArg (fun x => some (Value.int x)) ?_, hF⟩
            rw [sp_bestCut, if_pos ⟨g1, g2, g3, g4⟩, tn_nI (show p < 2147483648 by omega), tn_nI (show m < 2147483648 by omega), tn_nI (show N < 2147483648 by omega), tn_nI (show k < 2147483648 by omega), bo_bestCut, best_eq]
            split <;> first | rfl | (exfalso; omega)
        · have c4 : ¬ ((0 : Int) ≤ w.toInt ∧ w.toInt < (2 : Int)) := c4
          have b4 : ¬ (0 ≤ w.toInt ∧ w.toInt ≤ 1) := by omega
          refine r_iconst (v := (-1)) dX4_bestCut_36 rfl ?_
          refine r_iret dX4_bestCut_37 rfl (by decide) (by decide) ?_
          refine ⟨rfl, congrArg (fun x => some (Value.int x)) ?_, zfr.rf⟩
          rw [sp_bestCut, if_neg]
          intro h9; first | exact absurd h9 (by assumption) | exact absurd h9.1 (by assumption) | exact absurd h9.2 (by assumption) | exact absurd h9.2.1 (by assumption) | exact absurd h9.2.2 (by assumption) | exact absurd h9.2.2.1 (by assumption) | exact absurd h9.2.2.2 (by assumption) | exact absurd h9.2.2.2.1 (by assumption) | exact absurd h9.2.2.2.2 (by assumption)

set_option maxHeartbeats 4000000 in
set_option maxRecDepth 100000 in
theorem c5p_bestCut (l : Launch) {rw : List zC} {M0 : zM} {t : Nat → Nat → Nat} (hR : RI t M0) (hn : NB (t 35)) (x z v w : Int32) : CT l false 3 0 0 yX5_bestCut cX5_bestCut 10 (some .int) [.ref 34, .int x, .int z, .int v, .int w] (zSh ++ rw) M0 (zG (zSh ++ rw) (fun v9 M9 => v9 = some (.int (sp_bestCut (t 35) x z v w)) ∧ (∃ T, RI T M9 ∧ ∀ c, c ≠ 39 → T c = t c) ∧ zfr PR M0 M9)) := by
  refine CT.ofN (by decide) (fun _ _ => Nat.le_of_ble_eq_true rfl) ?_
  have hdd := hn.2.2.2.2.2.2.2.2.2.2.2
  have hkd := hn.2.2.2.2.2.2.2.2.1
  have how := hn.2.2.2.2.2.2.2.2.2.1
  have hcu := hn.2.2.2.2.2.2.2.2.2.2.1
  have hb0 := hn.1
  have hb1 := hn.2.1
  have hb2 := hn.2.2.1
  have hb3 := hn.2.2.2.1
  have hb4 := hn.2.2.2.2.1
  have hb5 := hn.2.2.2.2.2.1
  have hb6 := hn.2.2.2.2.2.2.1
  have hF : zfr PR M0 M0 := zfr.rf
  refine r_aload_n dX5_bestCut_0 rfl rfl ?_
  refine r_iload_n dX5_bestCut_1 rfl rfl ?_
  refine r_cV1F mv_X5_isPerson ml_X5_93 (c5_isPerson l hR (by omega) _) dX5_bestCut_2 (Nat.le_of_ble_eq_true rfl) ⟨by decide, by decide⟩ ⟨by decide, by decide⟩ sh_34 rfl (fun _ h => nomatch h) ?_
  try dsimp only [zrst, List.cons_append, List.nil_append]
  first | refine r_if_eqB (tgt := 38) dX5_bestCut_5 (by decide) (fun c1 => ?_) (fun c1 => ?_) | refine r_if_eqN (tgt := 38) dX5_bestCut_5 (by decide) (by omega) (fun c1 => ?_) (fun c1 => ?_) | refine r_if_eq (tgt := 38) dX5_bestCut_5 (by decide) (fun c1 => ?_) (fun c1 => ?_)
  · have b1 : ¬ (0 ≤ x.toInt ∧ x.toInt < (t 35 0 : Int)) := by omega
    refine r_iconst (v := (-1)) dX5_bestCut_38 rfl ?_
    refine r_iret dX5_bestCut_39 rfl (by decide) (by decide) ?_
    refine ⟨rfl, congrArg (fun x => some (Value.int x)) ?_, ⟨t, hR, fun _ _ => rfl⟩, zfr.rf⟩
    rw [sp_bestCut, if_neg]
    intro h9; first | exact absurd h9 (by assumption) | exact absurd h9.1 (by assumption) | exact absurd h9.2 (by assumption) | exact absurd h9.2.1 (by assumption) | exact absurd h9.2.2 (by assumption) | exact absurd h9.2.2.1 (by assumption) | exact absurd h9.2.2.2 (by assumption) | exact absurd h9.2.2.2.1 (by assumption) | exact absurd h9.2.2.2.2 (by assumption)
  · have g1 : 0 ≤ x.toInt ∧ x.toInt < (t 35 0 : Int) := by omega
    obtain ⟨p, hp, rfl⟩ := arg_nat (n := t 35 0) (show 0 ≤ x.toInt ∧ x.toInt < ((t 35 0 : Nat) : Int) by omega)
    refine r_iload_n dX5_bestCut_8 rfl rfl ?_
    refine r_cS1F ms_X5_isMeasure ml_X5_97 (c5_isMeasure l _) dX5_bestCut_9 (Nat.le_of_ble_eq_true rfl) ⟨by decide, by decide⟩ ⟨by decide, by decide⟩ (fun _ h => nomatch h) ?_
    try dsimp only [zrst, List.cons_append, List.nil_append]
    first | refine r_if_eqB (tgt := 38) dX5_bestCut_12 (by decide) (fun c2 => ?_) (fun c2 => ?_) | refine r_if_eqN (tgt := 38) dX5_bestCut_12 (by decide) (by omega) (fun c2 => ?_) (fun c2 => ?_) | refine r_if_eq (tgt := 38) dX5_bestCut_12 (by decide) (fun c2 => ?_) (fun c2 => ?_)
    · have c2 : ¬ ((0 : Int) ≤ z.toInt ∧ z.toInt < (4 : Int)) := c2
      have b2 : ¬ (0 ≤ z.toInt ∧ z.toInt ≤ 3) := by omega
      refine r_iconst (v := (-1)) dX5_bestCut_38 rfl ?_
      refine r_iret dX5_bestCut_39 rfl (by decide) (by decide) ?_
      refine ⟨rfl, congrArg (fun x => some (Value.int x)) ?_, ⟨t, hR, fun _ _ => rfl⟩, zfr.rf⟩
      rw [sp_bestCut, if_neg]
      intro h9; first | exact absurd h9 (by assumption) | exact absurd h9.1 (by assumption) | exact absurd h9.2 (by assumption) | exact absurd h9.2.1 (by assumption) | exact absurd h9.2.2 (by assumption) | exact absurd h9.2.2.1 (by assumption) | exact absurd h9.2.2.2 (by assumption) | exact absurd h9.2.2.2.1 (by assumption) | exact absurd h9.2.2.2.2 (by assumption)
    · have c2 : ((0 : Int) ≤ z.toInt ∧ z.toInt < (4 : Int)) := c2
      have g2 : 0 ≤ z.toInt ∧ z.toInt ≤ 3 := by omega
      obtain ⟨m, hm1, hm2, rfl⟩ := arg_rng (a := 0) (b := 3) (show ((0 : Nat) : Int) ≤ z.toInt ∧ z.toInt ≤ ((3 : Nat) : Int) by omega)
      refine r_iload_n dX5_bestCut_15 rfl rfl ?_
      refine r_i2l dX5_bestCut_16 rfl ?_
      refine r_lconst (v := 0) dX5_bestCut_17 rfl ?_
      refine r_ldc2 kc_X5_186 dX5_bestCut_18 ?_
      refine r_cS3F ms_X5_in ml_X5_41 (c5_in l _ _ _) dX5_bestCut_21 (Nat.le_of_ble_eq_true rfl) ⟨by decide, by decide⟩ ⟨by decide, by decide⟩ (fun _ h => nomatch h) ?_
      try dsimp only [zrst, List.cons_append, List.nil_append]
      first | refine r_if_eqB (tgt := 38) dX5_bestCut_24 (by decide) (fun c3 => ?_) (fun c3 => ?_) | refine r_if_eqN (tgt := 38) dX5_bestCut_24 (by decide) (by omega) (fun c3 => ?_) (fun c3 => ?_) | refine r_if_eq (tgt := 38) dX5_bestCut_24 (by decide) (fun c3 => ?_) (fun c3 => ?_)
      · rw [i64_of32] at c3
        have c3 : ¬ ((0 : Int) ≤ v.toInt ∧ v.toInt ≤ (40 : Int)) := c3
        have b3 : ¬ (0 ≤ v.toInt ∧ v.toInt ≤ 40) := by omega
        refine r_iconst (v := (-1)) dX5_bestCut_38 rfl ?_
        refine r_iret dX5_bestCut_39 rfl (by decide) (by decide) ?_
        refine ⟨rfl, congrArg (fun x => some (Value.int x)) ?_, ⟨t, hR, fun _ _ => rfl⟩, zfr.rf⟩
        rw [sp_bestCut, if_neg]
        intro h9; first | exact absurd h9 (by assumption) | exact absurd h9.1 (by assumption) | exact absurd h9.2 (by assumption) | exact absurd h9.2.1 (by assumption) | exact absurd h9.2.2 (by assumption) | exact absurd h9.2.2.1 (by assumption) | exact absurd h9.2.2.2 (by assumption) | exact absurd h9.2.2.2.1 (by assumption) | exact absurd h9.2.2.2.2 (by assumption)
      · rw [i64_of32] at c3
        have c3 : ((0 : Int) ≤ v.toInt ∧ v.toInt ≤ (40 : Int)) := c3
        have g3 : 0 ≤ v.toInt ∧ v.toInt ≤ 40 := by omega
        obtain ⟨N, hN1, hN2, rfl⟩ := arg_rng (a := 0) (b := 40) (show ((0 : Nat) : Int) ≤ v.toInt ∧ v.toInt ≤ ((40 : Nat) : Int) by omega)
        refine r_iload dX5_bestCut_27 rfl ?_
        refine r_i2l dX5_bestCut_29 rfl ?_
        refine r_lconst (v := 0) dX5_bestCut_30 rfl ?_
        refine r_lconst (v := 1) dX5_bestCut_31 rfl ?_
        refine r_cS3F ms_X5_in ml_X5_41 (c5_in l _ _ _) dX5_bestCut_32 (Nat.le_of_ble_eq_true rfl) ⟨by decide, by decide⟩ ⟨by decide, by decide⟩ (fun _ h => nomatch h) ?_
        try dsimp only [zrst, List.cons_append, List.nil_append]
        first | refine r_if_neB (tgt := 40) dX5_bestCut_35 (by decide) (fun c4 => ?_) (fun c4 => ?_) | refine r_if_neN (tgt := 40) dX5_bestCut_35 (by decide) (by omega) (fun c4 => ?_) (fun c4 => ?_) | refine r_if_ne (tgt := 40) dX5_bestCut_35 (by decide) (fun c4 => ?_) (fun c4 => ?_)
        · rw [i64_of32] at c4
          have c4 : ((0 : Int) ≤ w.toInt ∧ w.toInt ≤ (1 : Int)) := c4
          have g4 : 0 ≤ w.toInt ∧ w.toInt ≤ 1 := by omega
          obtain ⟨wk, hwk1, hwk2, rfl⟩ := arg_rng (a := 0) (b := 1) (show ((0 : Nat) : Int) ≤ w.toInt ∧ w.toInt ≤ ((1 : Nat) : Int) by omega)
          refine r_iconst (v := nI 0) dX5_bestCut_40 rfl ?_
          refine r_istore dX5_bestCut_41 rfl (by decide) ?_
          have loop : ∀ (j k : Nat) (T : Nat → Nat → Nat) (M : zM) (hTc : ∀ c, c ≠ 39 → T c = t c) (hT9 : ∀ i, i < k → T 39 i = bcL (t 35) p m i) (hR : RI T M) (hF : zfr PR M0 M), k ≤ (N + 1) → (N + 1) < k + j → RA l none (zR 3 0 0) yX5_bestCut cX5_bestCut 10 (some .int) (zG (zSh ++ rw) (fun v9 M9 => v9 = some (.int (sp_bestCut (t 35) (nI p) (nI m) (nI N) (nI wk))) ∧ (∃ T, RI T M9 ∧ ∀ c, c ≠ 39 → T c = t c) ∧ zfr PR M0 M9)) 0 0 43 [some (.ref 34), some (.int (nI p)), some (.int (nI m)), some (.int (nI N)), some (.int (nI wk)), some (.int (nI k)), none, none, none, none] [] (zSh ++ rw) M := by
            intro j
            induction j with
            | zero => intro k T M hTc hT9 hR hF hk hj; exact absurd hj (by omega)
            | succ j ih =>
              intro k T M hTc hT9 hR hF hk hj
              refine r_iload dX5_bestCut_43 rfl ?_
              refine r_iload_n dX5_bestCut_45 rfl rfl ?_
              first | refine r_icmp_gtN (tgt := 84) dX5_bestCut_46 (by decide) (by omega) (by omega) (fun c1 => ?_) (fun c1 => ?_) | refine r_icmp_gt (tgt := 84) dX5_bestCut_46 (by decide) (fun c1 => ?_) (fun c1 => ?_)
              · have eN : k = N + 1 := by omega
                subst eN
                refine r_iconst (v := nI 0) dX5_bestCut_84 rfl ?_
                refine r_istore dX5_bestCut_85 rfl (by decide) ?_
                refine r_iconst (v := (-1)) dX5_bestCut_87 rfl ?_
                refine r_istore dX5_bestCut_88 rfl (by decide) ?_
                refine r_iconst (v := nI 0) dX5_bestCut_90 rfl ?_
                refine r_istore dX5_bestCut_91 rfl (by decide) ?_
                refine r_iload dX5_bestCut_93 rfl ?_
                refine r_sipush (v := nI 200) dX5_bestCut_95 rfl ?_
                first | refine r_icmp_geN (tgt := 184) dX5_bestCut_98 (by decide) (by omega) (by omega) (fun c2 => ?_) (fun c2 => ?_) | refine r_icmp_ge (tgt := 184) dX5_bestCut_98 (by decide) (fun c2 => ?_) (fun c2 => ?_)
                · exact absurd c2 (by decide)
                · refine r_iconst (v := nI 0) dX5_bestCut_101 rfl ?_
                  refine r_istore dX5_bestCut_102 rfl (by decide) ?_
                  refine r_iconst (v := nI 0) dX5_bestCut_104 rfl ?_
                  refine r_istore dX5_bestCut_105 rfl (by decide) ?_
                  have loop4 : ∀ (j i : Nat), i ≤ (N + 1) → (N + 1) < i + j → RA l none (zR 3 0 0) yX5_bestCut cX5_bestCut 10 (some .int) (zG (zSh ++ rw) (fun v9 M9 => v9 = some (.int (sp_bestCut (t 35) (nI p) (nI m) (nI N) (nI wk))) ∧ (∃ T, RI T M9 ∧ ∀ c, c ≠ 39 → T c = t c) ∧ zfr PR M0 M9)) 0 0 107 [some (.ref 34), some (.int (nI p)), some (.int (nI m)), some (.int (nI N)), some (.int (nI wk)), some (.int (nI 0)), some (.int (-1)), some (.int (nI (0))), some (.int (nI (sm (fun kz => dst (bcL (t 35) p m kz) (0)) i))), some (.int (nI i))] [] (zSh ++ rw) M := by
                    intro j
                    induction j with
                    | zero => intro i   hk hj; exact absurd hj (by omega)
                    | succ j ih9 =>
                      intro i   hk hj
                      refine r_iload dX5_bestCut_107 rfl ?_
                      refine r_iload_n dX5_bestCut_109 rfl rfl ?_
                      first | refine r_icmp_gtN (tgt := 136) dX5_bestCut_110 (by decide) (by omega) (by omega) (fun c1 => ?_) (fun c1 => ?_) | refine r_icmp_gt (tgt := 136) dX5_bestCut_110 (by decide) (fun c1 => ?_) (fun c1 => ?_)
                      · have eN : i = N + 1 := by omega
                        subst eN
                        have q1 : fa_ (bcL (t 35) p m) N (0) ≤ 20000 := fa_le hn hp (show m < 4 by omega) (show N ≤ 40 by omega) (show 0 ≤ 199 by omega) (N + 1) (Nat.le_refl _)
                        change RA l none (zR 3 0 0) yX5_bestCut cX5_bestCut 10 (some .int) _ 0 0 136 [some (.ref 34), some (.int (nI p)), some (.int (nI m)), some (.int (nI N)), some (.int (nI wk)), some (.int (nI 0)), some (.int (-1)), some (.int (nI (0))), some (.int (nI (fa_ (bcL (t 35) p m) N (0)))), some (.int (nI (N + 1)))] [] (zSh ++ rw) M
                        refine r_iload dX5_bestCut_136 rfl ?_
                        refine r_if_lt (tgt := 148) dX5_bestCut_138 (by decide) (fun c2 => ?_) (fun c2 => ?_)
                        · refine r_iload dX5_bestCut_148 rfl ?_
                          refine r_goto (tgt := 155) dX5_bestCut_150 (by decide) ?_
                          refine r_istore dX5_bestCut_155 rfl (by decide) ?_
                          refine r_iload dX5_bestCut_157 rfl ?_
                          refine r_if_lt (tgt := 169) dX5_bestCut_159 (by decide) (fun c3 => ?_) (fun c3 => ?_)
                          · refine r_iload dX5_bestCut_169 rfl ?_
                            refine r_goto (tgt := 176) dX5_bestCut_171 (by decide) ?_
                            refine r_istore dX5_bestCut_176 rfl (by decide) ?_
                            first | refine r_iincN dX5_bestCut_178 rfl rfl (by decide) ?_ | refine r_iinc dX5_bestCut_178 rfl rfl rfl (by decide) ?_
                            refine r_goto (tgt := 93) dX5_bestCut_181 (by decide) ?_
                            refine r_lfor 8 ?_
                            refine r_lfor 9 ?_
                            have loop2 : ∀ (j k : Nat)  (h1 : 1 ≤ k), k ≤ 200 → 200 < k + j → RA l none (zR 3 0 0) yX5_bestCut cX5_bestCut 10 (some .int) (zG (zSh ++ rw) (fun v9 M9 => v9 = some (.int (sp_bestCut (t 35) (nI p) (nI m) (nI N) (nI wk))) ∧ (∃ T, RI T M9 ∧ ∀ c, c ≠ 39 → T c = t c) ∧ zfr PR M0 M9)) 0 0 93 [some (.ref 34), some (.int (nI p)), some (.int (nI m)), some (.int (nI N)), some (.int (nI wk)), some (.int (nI (bst (fa_ (bcL (t 35) p m) N) (k)).1)), some (.int (nI (bst (fa_ (bcL (t 35) p m) N) (k)).2)), some (.int (nI k)), none, none] [] (zSh ++ rw) M := by
                              intro j
                              induction j with
                              | zero => intro k  h1 hk hj; exact absurd hj (by omega)
                              | succ j ih2 =>
                                intro k  h1 hk hj
                                refine r_iload dX5_bestCut_93 rfl ?_
                                refine r_sipush (v := nI 200) dX5_bestCut_95 rfl ?_
                                first | refine r_icmp_geN (tgt := 184) dX5_bestCut_98 (by decide) (by omega) (by omega) (fun c1 => ?_) (fun c1 => ?_) | refine r_icmp_ge (tgt := 184) dX5_bestCut_98 (by decide) (fun c1 => ?_) (fun c1 => ?_)
                                · refine r_iload dX5_bestCut_184 rfl ?_
                                  first | refine r_if_neB (tgt := 194) dX5_bestCut_186 (by decide) (fun c2 => ?_) (fun c2 => ?_) | refine r_if_neN (tgt := 194) dX5_bestCut_186 (by decide) (by omega) (fun c2 => ?_) (fun c2 => ?_) | refine r_if_ne (tgt := 194) dX5_bestCut_186 (by decide) (fun c2 => ?_) (fun c2 => ?_)
                                  · refine r_iload dX5_bestCut_194 rfl ?_
                                    refine r_iret dX5_bestCut_196 rfl (by decide) (by decide) ?_
                                    refine ⟨rfl, congrArg (fun x => some (Value.int x)) ?_, ⟨T, hR, hTc⟩, hF⟩
                                    rw [sp_bestCut, if_pos ⟨g1, g2, g3, g4⟩, tn_nI (show p < 2147483648 by omega), tn_nI (show m < 2147483648 by omega), tn_nI (show N < 2147483648 by omega), tn_nI (show wk < 2147483648 by omega), bo_bestCut]
                                    have e2 : k = 200 := by omega
                                    rw [← e2]
                                    split <;> first | (exfalso; omega) | with_reducible rfl
                                  · refine r_iload dX5_bestCut_189 rfl ?_
                                    refine r_goto (tgt := 196) dX5_bestCut_191 (by decide) ?_
                                    refine r_iret dX5_bestCut_196 rfl (by decide) (by decide) ?_
                                    refine ⟨rfl, congrArg (fun x => some (Value.int x)) ?_, ⟨T, hR, hTc⟩, hF⟩
                                    rw [sp_bestCut, if_pos ⟨g1, g2, g3, g4⟩, tn_nI (show p < 2147483648 by omega), tn_nI (show m < 2147483648 by omega), tn_nI (show N < 2147483648 by omega), tn_nI (show wk < 2147483648 by omega), bo_bestCut]
                                    have e2 : k = 200 := by omega
                                    rw [← e2]
                                    split <;> first | (exfalso; omega) | with_reducible rfl
                                · refine r_iconst (v := nI 0) dX5_bestCut_101 rfl ?_
                                  refine r_istore dX5_bestCut_102 rfl (by decide) ?_
                                  refine r_iconst (v := nI 0) dX5_bestCut_104 rfl ?_
                                  refine r_istore dX5_bestCut_105 rfl (by decide) ?_
                                  have loop3 : ∀ (j i : Nat), i ≤ (N + 1) → (N + 1) < i + j → RA l none (zR 3 0 0) yX5_bestCut cX5_bestCut 10 (some .int) (zG (zSh ++ rw) (fun v9 M9 => v9 = some (.int (sp_bestCut (t 35) (nI p) (nI m) (nI N) (nI wk))) ∧ (∃ T, RI T M9 ∧ ∀ c, c ≠ 39 → T c = t c) ∧ zfr PR M0 M9)) 0 0 107 [some (.ref 34), some (.int (nI p)), some (.int (nI m)), some (.int (nI N)), some (.int (nI wk)), some (.int (nI (bst (fa_ (bcL (t 35) p m) N) (k)).1)), some (.int (nI (bst (fa_ (bcL (t 35) p m) N) (k)).2)), some (.int (nI (k))), some (.int (nI (sm (fun kz => dst (bcL (t 35) p m kz) (k)) i))), some (.int (nI i))] [] (zSh ++ rw) M := by
                                    intro j
                                    induction j with
                                    | zero => intro i   hk hj; exact absurd hj (by omega)
                                    | succ j ih9 =>
                                      intro i   hk hj
                                      refine r_iload dX5_bestCut_107 rfl ?_
                                      refine r_iload_n dX5_bestCut_109 rfl rfl ?_
                                      first | refine r_icmp_gtN (tgt := 136) dX5_bestCut_110 (by decide) (by omega) (by omega) (fun c1 => ?_) (fun c1 => ?_) | refine r_icmp_gt (tgt := 136) dX5_bestCut_110 (by decide) (fun c1 => ?_) (fun c1 => ?_)
                                      · have eN : i = N + 1 := by omega
                                        subst eN
                                        have q1 : fa_ (bcL (t 35) p m) N (k) ≤ 20000 := fa_le hn hp (show m < 4 by omega) (show N ≤ 40 by omega) (show k ≤ 199 by omega) (N + 1) (Nat.le_refl _)
                                        change RA l none (zR 3 0 0) yX5_bestCut cX5_bestCut 10 (some .int) _ 0 0 136 [some (.ref 34), some (.int (nI p)), some (.int (nI m)), some (.int (nI N)), some (.int (nI wk)), some (.int (nI (bst (fa_ (bcL (t 35) p m) N) (k)).1)), some (.int (nI (bst (fa_ (bcL (t 35) p m) N) (k)).2)), some (.int (nI (k))), some (.int (nI (fa_ (bcL (t 35) p m) N (k)))), some (.int (nI (N + 1)))] [] (zSh ++ rw) M
                                        have q2 := bst_le (N := N) hn hp (show m < 4 by omega) (show N ≤ 40 by omega) k (by omega)
                                        refine r_iload dX5_bestCut_136 rfl ?_
                                        refine r_if_ltN (tgt := 148) dX5_bestCut_138 (by decide) (by omega) ?_
                                        refine r_iload dX5_bestCut_141 rfl ?_
                                        refine r_iload dX5_bestCut_143 rfl ?_
                                        refine r_icmp_geN (tgt := 153) dX5_bestCut_145 (by decide) (by omega) (by omega) (fun c3 => ?_) (fun c3 => ?_)
                                        · have hu : bst (fa_ (bcL (t 35) p m) N) (k + 1) = bst (fa_ (bcL (t 35) p m) N) k := by rw [bst, if_neg (show ¬ fa_ (bcL (t 35) p m) N k < (bst (fa_ (bcL (t 35) p m) N) k).2 by omega)]
                                          refine r_iload dX5_bestCut_153 rfl ?_
                                          refine r_istore dX5_bestCut_155 rfl (by decide) ?_
                                          refine r_iload dX5_bestCut_157 rfl ?_
                                          refine r_if_ltN (tgt := 169) dX5_bestCut_159 (by decide) (by omega) ?_
                                          refine r_iload dX5_bestCut_162 rfl ?_
                                          refine r_iload dX5_bestCut_164 rfl ?_
                                          refine r_icmp_geN (tgt := 174) dX5_bestCut_166 (by decide) (by omega) (by omega) (fun _ => ?_) (fun q9 => absurd q9 (by omega))
                                          refine r_iload dX5_bestCut_174 rfl ?_
                                          refine r_istore dX5_bestCut_176 rfl (by decide) ?_
                                          first | refine r_iincN dX5_bestCut_178 rfl rfl (by decide) ?_ | refine r_iinc dX5_bestCut_178 rfl rfl rfl (by decide) ?_
                                          refine r_goto (tgt := 93) dX5_bestCut_181 (by decide) ?_
                                          have h9 := ih2 (k + 1) (by omega) (by omega) (by omega)
                                          rw [hu] at h9
                                          refine r_lfor 8 ?_
                                          refine r_lfor 9 ?_
                                          exact h9
                                        · have hu : bst (fa_ (bcL (t 35) p m) N) (k + 1) = (k, fa_ (bcL (t 35) p m) N k) := by rw [bst, if_pos (show fa_ (bcL (t 35) p m) N k < (bst (fa_ (bcL (t 35) p m) N) k).2 by omega)]
                                          refine r_iload dX5_bestCut_148 rfl ?_
                                          refine r_goto (tgt := 155) dX5_bestCut_150 (by decide) ?_
                                          refine r_istore dX5_bestCut_155 rfl (by decide) ?_
                                          refine r_iload dX5_bestCut_157 rfl ?_
                                          refine r_if_ltN (tgt := 169) dX5_bestCut_159 (by decide) (by omega) ?_
                                          refine r_iload dX5_bestCut_162 rfl ?_
                                          refine r_iload dX5_bestCut_164 rfl ?_
                                          refine r_icmp_geN (tgt := 174) dX5_bestCut_166 (by decide) (by omega) (by omega) (fun q9 => absurd q9 (by omega)) (fun _ => ?_)
                                          refine r_iload dX5_bestCut_169 rfl ?_
                                          refine r_goto (tgt := 176) dX5_bestCut_171 (by decide) ?_
                                          refine r_istore dX5_bestCut_176 rfl (by decide) ?_
                                          first | refine r_iincN dX5_bestCut_178 rfl rfl (by decide) ?_ | refine r_iinc dX5_bestCut_178 rfl rfl rfl (by decide) ?_
                                          refine r_goto (tgt := 93) dX5_bestCut_181 (by decide) ?_
                                          have h9 := ih2 (k + 1) (by omega) (by omega) (by omega)
                                          rw [hu] at h9
                                          refine r_lfor 8 ?_
                                          refine r_lfor 9 ?_
                                          exact h9
                                      · have hme := mea_le hn hp (show m < 4 by omega) (t 35 3 + i) (t 35 6)
                                        change 10 ≤ bcL (t 35) p m i ∧ bcL (t 35) p m i ≤ 279 at hme
                                        refine r_iload dX5_bestCut_113 rfl ?_
                                        refine r_aload_n dX5_bestCut_115 rfl rfl ?_
                                        refine r_getR fl_X5_22 dX5_bestCut_116 sh_34 rfl ?_
                                        refine r_iload dX5_bestCut_119 rfl ?_
                                        refine r_ialdN dX5_bestCut_121 sh_39 (by omega) (by decide) ((hR.a39 _).trans (by rw [hT9 _ (by omega)])) ?_
                                        refine r_iload dX5_bestCut_122 rfl ?_
                                        refine r_cS2F ms_X5_apart ml_X5_76 (c5_apart l (by omega) (by omega)) dX5_bestCut_124 (Nat.le_of_ble_eq_true rfl) ⟨by decide, by decide⟩ ⟨by decide, by decide⟩ (fun _ h => nomatch h) ?_
                                        try dsimp only [zrst, List.cons_append, List.nil_append]
                                        first | refine r_iaddN dX5_bestCut_127 ?_ | refine r_iadd dX5_bestCut_127 ?_
                                        refine r_istore dX5_bestCut_128 rfl (by decide) ?_
                                        first | refine r_iincN dX5_bestCut_130 rfl rfl (by decide) ?_ | refine r_iinc dX5_bestCut_130 rfl rfl rfl (by decide) ?_
                                        refine r_goto (tgt := 107) dX5_bestCut_133 (by decide) ?_
                                        exact ih9 (i + 1) (by omega) (by omega)
                                  exact loop3 ((N + 1) + 1) 0 (Nat.zero_le _) (by omega)
                            have e1 : bst (fa_ (bcL (t 35) p m) N) (1) = (0, fa_ (bcL (t 35) p m) N 0) := by rw [bst]; split <;> rfl
                            have h9 := loop2 (200 + 1) 1 (Nat.le_refl _) (by decide) (by decide)
                            rw [e1] at h9
                            exact h9
                          · exact absurd (by decide) c3
                        · exact absurd (by decide) c2
                      · have hme := mea_le hn hp (show m < 4 by omega) (t 35 3 + i) (t 35 6)
                        change 10 ≤ bcL (t 35) p m i ∧ bcL (t 35) p m i ≤ 279 at hme
                        refine r_iload dX5_bestCut_113 rfl ?_
                        refine r_aload_n dX5_bestCut_115 rfl rfl ?_
                        refine r_getR fl_X5_22 dX5_bestCut_116 sh_34 rfl ?_
                        refine r_iload dX5_bestCut_119 rfl ?_
                        refine r_ialdN dX5_bestCut_121 sh_39 (by omega) (by decide) ((hR.a39 _).trans (by rw [hT9 _ (by omega)])) ?_
                        refine r_iload dX5_bestCut_122 rfl ?_
                        refine r_cS2F ms_X5_apart ml_X5_76 (c5_apart l (by omega) (by omega)) dX5_bestCut_124 (Nat.le_of_ble_eq_true rfl) ⟨by decide, by decide⟩ ⟨by decide, by decide⟩ (fun _ h => nomatch h) ?_
                        try dsimp only [zrst, List.cons_append, List.nil_append]
                        first | refine r_iaddN dX5_bestCut_127 ?_ | refine r_iadd dX5_bestCut_127 ?_
                        refine r_istore dX5_bestCut_128 rfl (by decide) ?_
                        first | refine r_iincN dX5_bestCut_130 rfl rfl (by decide) ?_ | refine r_iinc dX5_bestCut_130 rfl rfl rfl (by decide) ?_
                        refine r_goto (tgt := 107) dX5_bestCut_133 (by decide) ?_
                        exact ih9 (i + 1) (by omega) (by omega)
                  exact loop4 ((N + 1) + 1) 0 (Nat.zero_le _) (by omega)
              · have e35 := hTc 35 (by decide)
                refine r_aload_n dX5_bestCut_49 rfl rfl ?_
                refine r_getR fl_X5_22 dX5_bestCut_50 sh_34 rfl ?_
                refine r_iload dX5_bestCut_53 rfl ?_
                refine r_aload_n dX5_bestCut_55 rfl rfl ?_
                refine r_iload_n dX5_bestCut_56 rfl rfl ?_
                refine r_iload_n dX5_bestCut_57 rfl rfl ?_
                refine r_aload_n dX5_bestCut_58 rfl rfl ?_
                refine r_getR fl_X5_7 dX5_bestCut_59 sh_34 rfl ?_
                refine r_iconst (v := nI 3) dX5_bestCut_62 rfl ?_
                refine r_ialdN dX5_bestCut_63 sh_35 (by omega) (by decide) ((hR.a35 _).trans (by rw [hTc 35 (by decide)])) ?_
                refine r_iload dX5_bestCut_64 rfl ?_
                first | refine r_iaddN dX5_bestCut_66 ?_ | refine r_iadd dX5_bestCut_66 ?_
                refine r_aload_n dX5_bestCut_67 rfl rfl ?_
                refine r_getR fl_X5_7 dX5_bestCut_68 sh_34 rfl ?_
                refine r_bipush (v := nI 6) dX5_bestCut_71 rfl ?_
                refine r_ialdN dX5_bestCut_73 sh_35 (by omega) (by decide) ((hR.a35 _).trans (by rw [hTc 35 (by decide)])) ?_
                refine r_cV4F mv_X5_measure ml_X5_70 (c5_measure l hR (by rw [e35]; exact hn) (by rw [e35]; omega) (by omega) (by rw [e35]; omega) (by omega) (by omega)) dX5_bestCut_74 (Nat.le_of_ble_eq_true rfl) ⟨by decide, by decide⟩ ⟨by decide, by decide⟩ sh_34 rfl (fun _ h => nomatch h) ?_
                try dsimp only [zrst, List.cons_append, List.nil_append]
                refine r_top (v' := .int (nI (bcL (t 35) p m k))) (congrArg (fun z => Value.int (nI z)) (by rw [e35]; rfl)) ?_
                refine r_Rast dX5_bestCut_77 sh_39 (by omega) (by decide) hR (by decide) (fun M hR hF1 => ?_)
                have hF := hF.trans hF1
                first | refine r_iincN dX5_bestCut_78 rfl rfl (by decide) ?_ | refine r_iinc dX5_bestCut_78 rfl rfl rfl (by decide) ?_
                refine r_goto (tgt := 43) dX5_bestCut_81 (by decide) ?_
                exact ih (k + 1) (ts T 39 k (bcL (t 35) p m k)) M (fun c hc => (ts_nc hc).trans (hTc c hc)) (fun i hi => by
                  by_cases e : i = k
                  · rw [e, ts_at]
                  · rw [ts_nk e]; exact hT9 i (by omega)) hR hF (by omega) (by omega)
          exact loop ((N + 1) + 1) 0 t M0 (fun _ _ => rfl) (fun i hi => absurd hi (by omega)) hR hF (Nat.zero_le _) (by omega)
        · rw [i64_of32] at c4
          have c4 : ¬ ((0 : Int) ≤ w.toInt ∧ w.toInt ≤ (1 : Int)) := c4
          have b4 : ¬ (0 ≤ w.toInt ∧ w.toInt ≤ 1) := by omega
          refine r_iconst (v := (-1)) dX5_bestCut_38 rfl ?_
          refine r_iret dX5_bestCut_39 rfl (by decide) (by decide) ?_
          refine ⟨rfl, congrArg (fun x => some (Value.int x)) ?_, ⟨t, hR, fun _ _ => rfl⟩, zfr.rf⟩
          rw [sp_bestCut, if_neg]
          intro h9; first | exact absurd h9 (by assumption) | exact absurd h9.1 (by assumption) | exact absurd h9.2 (by assumption) | exact absurd h9.2.1 (by assumption) | exact absurd h9.2.2 (by assumption) | exact absurd h9.2.2.1 (by assumption) | exact absurd h9.2.2.2 (by assumption) | exact absurd h9.2.2.2.1 (by assumption) | exact absurd h9.2.2.2.2 (by assumption)

