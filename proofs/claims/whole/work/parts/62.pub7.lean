theorem bst_le {n : Nat → Nat} (hn : NB n) {p m N : Nat} (hp : p < n 0) (hm : m < 4) (hN : N ≤ 40) : ∀ k, k ≤ 200 → (bst (fa_ (bcL n p m) N) k).2 ≤ 20000
  | 0, _ => fa_le hn hp hm hN (by omega) (N + 1) (Nat.le_refl _)
  | k + 1, h => by
    rw [bst]
    split
    · exact fa_le hn hp hm hN (by omega) (N + 1) (Nat.le_refl _)
    · exact bst_le hn hp hm hN k (by omega)
set_option maxHeartbeats 4000000 in
set_option maxRecDepth 100000 in
theorem c4_bestCut (l : Launch) {rw : List zC} {M0 : zM} {n u : Nat → Nat} {kn : Nat} (hS : SI 1 n u kn M0) (hn : NB n) (x z v w : Int32) : CT l false 5 0 0 yX4_bestCut cX4_bestCut 6 (some .int) [.ref 0, .int x, .int z, .int v, .int w] (zSh ++ rw) M0 (zG (zSh ++ rw) (fun v9 M9 => v9 = some (.int (sp_bestCut n x z v w)) ∧ zfr (fun i => i = 25) M0 M9)) := by
  refine CT.ofN (by decide) (fun _ _ => Nat.le_of_ble_eq_true rfl) ?_
  have hdd := hn.2.2.2.2.2.2.2.2.2.2.2
  have hkd := hn.2.2.2.2.2.2.2.2.1
  have how := hn.2.2.2.2.2.2.2.2.2.1
  have hcu := hn.2.2.2.2.2.2.2.2.2.2.1
  have hb0 := hn.1
  have hb1 := hn.2.1
  have hb2 := hn.2.2.1
  have hb3 := hn.2.2.2.1
  have hb4 := hn.2.2.2.2.1
  have hb5 := hn.2.2.2.2.2.1
  have hb6 := hn.2.2.2.2.2.2.1
  refine r_aload_n dX4_bestCut_0 rfl rfl ?_
  refine r_getR fl_X4_10 dX4_bestCut_1 sh_0 rfl ?_
  refine r_iload_n dX4_bestCut_4 rfl rfl ?_
  refine r_cV1F mv_X3_hasPerson ml_X4_53 (c3_hasPerson l hS (by omega) _) dX4_bestCut_5 (Nat.le_of_ble_eq_true rfl) ⟨by decide, by decide⟩ ⟨by decide, by decide⟩ sh_1 rfl (fun _ h => nomatch h) ?_
  try dsimp only [zrst, List.cons_append, List.nil_append]
  first | refine r_if_eqB (tgt := 36) dX4_bestCut_8 (by decide) (fun c1 => ?_) (fun c1 => ?_) | refine r_if_eqN (tgt := 36) dX4_bestCut_8 (by decide) (by omega) (fun c1 => ?_) (fun c1 => ?_) | refine r_if_eq (tgt := 36) dX4_bestCut_8 (by decide) (fun c1 => ?_) (fun c1 => ?_)
  · have b1 : ¬ (0 ≤ x.toInt ∧ x.toInt < (n 0 : Int)) := by omega
    refine r_iconst (v := (-1)) dX4_bestCut_36 rfl ?_
    refine r_iret dX4_bestCut_37 rfl (by decide) (by decide) ?_
    refine ⟨rfl, congrArg (fun x => some (Value.int x)) ?_, zfr.rf⟩
    rw [sp_bestCut, if_neg]
    intro h9; first | exact absurd h9 (by assumption) | exact absurd h9.1 (by assumption) | exact absurd h9.2 (by assumption) | exact absurd h9.2.1 (by assumption) | exact absurd h9.2.2 (by assumption) | exact absurd h9.2.2.1 (by assumption) | exact absurd h9.2.2.2 (by assumption) | exact absurd h9.2.2.2.1 (by assumption) | exact absurd h9.2.2.2.2 (by assumption)
  · have g1 : 0 ≤ x.toInt ∧ x.toInt < (n 0 : Int) := by omega
    obtain ⟨p, hp, rfl⟩ := arg_nat (n := n 0) (show 0 ≤ x.toInt ∧ x.toInt < ((n 0 : Nat) : Int) by omega)
    refine r_iload_n dX4_bestCut_11 rfl rfl ?_
    refine r_cS1F ms_X4_isMeasure ml_X4_57 (c4_isMeasure l _) dX4_bestCut_12 (Nat.le_of_ble_eq_true rfl) ⟨by decide, by decide⟩ ⟨by decide, by decide⟩ (fun _ h => nomatch h) ?_
    try dsimp only [zrst, List.cons_append, List.nil_append]
    first | refine r_if_eqB (tgt := 36) dX4_bestCut_15 (by decide) (fun c2 => ?_) (fun c2 => ?_) | refine r_if_eqN (tgt := 36) dX4_bestCut_15 (by decide) (by omega) (fun c2 => ?_) (fun c2 => ?_) | refine r_if_eq (tgt := 36) dX4_bestCut_15 (by decide) (fun c2 => ?_) (fun c2 => ?_)
    · have c2 : ¬ ((0 : Int) ≤ z.toInt ∧ z.toInt < (4 : Int)) := c2
      have b2 : ¬ (0 ≤ z.toInt ∧ z.toInt ≤ 3) := by omega
      refine r_iconst (v := (-1)) dX4_bestCut_36 rfl ?_
      refine r_iret dX4_bestCut_37 rfl (by decide) (by decide) ?_
      refine ⟨rfl, congrArg (fun x => some (Value.int x)) ?_, zfr.rf⟩
      rw [sp_bestCut, if_neg]
      intro h9; first | exact absurd h9 (by assumption) | exact absurd h9.1 (by assumption) | exact absurd h9.2 (by assumption) | exact absurd h9.2.1 (by assumption) | exact absurd h9.2.2 (by assumption) | exact absurd h9.2.2.1 (by assumption) | exact absurd h9.2.2.2 (by assumption) | exact absurd h9.2.2.2.1 (by assumption) | exact absurd h9.2.2.2.2 (by assumption)
    · have c2 : ((0 : Int) ≤ z.toInt ∧ z.toInt < (4 : Int)) := c2
      have g2 : 0 ≤ z.toInt ∧ z.toInt ≤ 3 := by omega
      obtain ⟨m, hm1, hm2, rfl⟩ := arg_rng (a := 0) (b := 3) (show ((0 : Nat) : Int) ≤ z.toInt ∧ z.toInt ≤ ((3 : Nat) : Int) by omega)
      refine r_iload_n dX4_bestCut_18 rfl rfl ?_
      refine r_iconst (v := nI 0) dX4_bestCut_19 rfl ?_
      refine r_bipush (v := nI 40) dX4_bestCut_20 rfl ?_
      refine r_cS3F ms_X4_within ml_X4_41 (c4_within l _ _ _) dX4_bestCut_22 (Nat.le_of_ble_eq_true rfl) ⟨by decide, by decide⟩ ⟨by decide, by decide⟩ (fun _ h => nomatch h) ?_
      try dsimp only [zrst, List.cons_append, List.nil_append]
      first | refine r_if_eqB (tgt := 36) dX4_bestCut_25 (by decide) (fun c3 => ?_) (fun c3 => ?_) | refine r_if_eqN (tgt := 36) dX4_bestCut_25 (by decide) (by omega) (fun c3 => ?_) (fun c3 => ?_) | refine r_if_eq (tgt := 36) dX4_bestCut_25 (by decide) (fun c3 => ?_) (fun c3 => ?_)
      · have c3 : ¬ ((0 : Int) ≤ v.toInt ∧ v.toInt ≤ (40 : Int)) := c3
        have b3 : ¬ (0 ≤ v.toInt ∧ v.toInt ≤ 40) := by omega
        refine r_iconst (v := (-1)) dX4_bestCut_36 rfl ?_
        refine r_iret dX4_bestCut_37 rfl (by decide) (by decide) ?_
        refine ⟨rfl, congrArg (fun x => some (Value.int x)) ?_, zfr.rf⟩
        rw [sp_bestCut, if_neg]
        intro h9; first | exact absurd h9 (by assumption) | exact absurd h9.1 (by assumption) | exact absurd h9.2 (by assumption) | exact absurd h9.2.1 (by assumption) | exact absurd h9.2.2 (by assumption) | exact absurd h9.2.2.1 (by assumption) | exact absurd h9.2.2.2 (by assumption) | exact absurd h9.2.2.2.1 (by assumption) | exact absurd h9.2.2.2.2 (by assumption)
      · have c3 : ((0 : Int) ≤ v.toInt ∧ v.toInt ≤ (40 : Int)) := c3
        have g3 : 0 ≤ v.toInt ∧ v.toInt ≤ 40 := by omega
        obtain ⟨N, hN1, hN2, rfl⟩ := arg_rng (a := 0) (b := 40) (show ((0 : Nat) : Int) ≤ v.toInt ∧ v.toInt ≤ ((40 : Nat) : Int) by omega)
        refine r_iload dX4_bestCut_28 rfl ?_
        refine r_cS1F ms_X4_isEither ml_X4_108 (c4_isEither l _) dX4_bestCut_30 (Nat.le_of_ble_eq_true rfl) ⟨by decide, by decide⟩ ⟨by decide, by decide⟩ (fun _ h => nomatch h) ?_
        try dsimp only [zrst, List.cons_append, List.nil_append]
        first | refine r_if_neB (tgt := 38) dX4_bestCut_33 (by decide) (fun c4 => ?_) (fun c4 => ?_) | refine r_if_neN (tgt := 38) dX4_bestCut_33 (by decide) (by omega) (fun c4 => ?_) (fun c4 => ?_) | refine r_if_ne (tgt := 38) dX4_bestCut_33 (by decide) (fun c4 => ?_) (fun c4 => ?_)
        · have c4 : ((0 : Int) ≤ w.toInt ∧ w.toInt < (2 : Int)) := c4
          have g4 : 0 ≤ w.toInt ∧ w.toInt ≤ 1 := by omega
          obtain ⟨k, hk1, hk2, rfl⟩ := arg_rng (a := 0) (b := 1) (show ((0 : Nat) : Int) ≤ w.toInt ∧ w.toInt ≤ ((1 : Nat) : Int) by omega)
          refine r_aload_n dX4_bestCut_38 rfl rfl ?_
          refine r_getR fl_X4_31 dX4_bestCut_39 sh_0 rfl ?_
          refine r_iload_n dX4_bestCut_42 rfl rfl ?_
          refine r_iload_n dX4_bestCut_43 rfl rfl ?_
          refine r_iload_n dX4_bestCut_44 rfl rfl ?_
          refine r_cV3G mv_X0_leastShowingCut ml_X4_181 (c0_leastShowingCut l hS hn hp (by omega) (by omega)) dX4_bestCut_45 (Nat.le_of_ble_eq_true rfl) ⟨by decide, by decide⟩ ⟨by decide, by decide⟩ sh_24 rfl (fun _ h => nomatch h) (fun v M1 hq => ?_)
          obtain ⟨rfl, hL, hF⟩ := hq
          dsimp only [zrst, List.cons_append, List.nil_append]
          refine r_istore dX4_bestCut_48 rfl (by decide) ?_
          refine r_iload dX4_bestCut_50 rfl ?_
          first | refine r_if_neB (tgt := 60) dX4_bestCut_52 (by decide) (fun c5 => ?_) (fun c5 => ?_) | refine r_if_neN (tgt := 60) dX4_bestCut_52 (by decide) (by omega) (fun c5 => ?_) (fun c5 => ?_) | refine r_if_ne (tgt := 60) dX4_bestCut_52 (by decide) (fun c5 => ?_) (fun c5 => ?_)
          · refine r_aload_n dX4_bestCut_60 rfl rfl ?_
            refine r_getR fl_X4_31 dX4_bestCut_61 sh_0 rfl ?_
            refine r_iload dX4_bestCut_64 rfl ?_
            refine r_iload_n dX4_bestCut_66 rfl rfl ?_
            refine r_cV2F mv_X0_farInAll ml_X4_184 (c0_farInAll l hn hp (by omega) (by omega) (by have := lsk_le (f := fa_ (bcL n p m) N) 199 0; omega) hL) dX4_bestCut_67 (Nat.le_of_ble_eq_true rfl) ⟨by decide, by decide⟩ ⟨by decide, by decide⟩ sh_24 rfl (fun _ h => nomatch h) ?_
            try dsimp only [zrst, List.cons_append, List.nil_append]
            refine r_iret dX4_bestCut_70 rfl (by decide) (by decide) ?_
            refine ⟨rfl, congrArg (fun x => some (Value.int x)) ?_, hF⟩
            rw [sp_bestCut, if_pos ⟨g1, g2, g3, g4⟩, tn_nI (show p < 2147483648 by omega), tn_nI (show m < 2147483648 by omega), tn_nI (show N < 2147483648 by omega), tn_nI (show k < 2147483648 by omega), bo_bestCut, best_eq]
            split <;> first | rfl | (exfalso; omega)
          · refine r_iload dX4_bestCut_55 rfl ?_
            refine r_goto (tgt := 70) dX4_bestCut_57 (by decide) ?_
            refine r_iret dX4_bestCut_70 rfl (by decide) (by decide) ?_
            refine ⟨rfl, congrArg (fun x => some (Value.int x)) ?_, hF⟩
            rw [sp_bestCut, if_pos ⟨g1, g2, g3, g4⟩, tn_nI (show p < 2147483648 by omega), tn_nI (show m < 2147483648 by omega), tn_nI (show N < 2147483648 by omega), tn_nI (show k < 2147483648 by omega), bo_bestCut, best_eq]
            split <;> first | rfl | (exfalso; omega)
        · have c4 : ¬ ((0 : Int) ≤ w.toInt ∧ w.toInt < (2 : Int)) := c4
          have b4 : ¬ (0 ≤ w.toInt ∧ w.toInt ≤ 1) := by omega
          refine r_iconst (v := (-1)) dX4_bestCut_36 rfl ?_
          refine r_iret dX4_bestCut_37 rfl (by decide) (by decide) ?_
          refine ⟨rfl, congrArg (fun x => some (Value.int x)) ?_, zfr.rf⟩
          rw [sp_bestCut, if_neg]
          intro h9; first | exact absurd h9 (by assumption) | exact absurd h9.1 (by assumption) | exact absurd h9.2 (by assumption) | exact absurd h9.2.1 (by assumption) | exact absurd h9.2.2 (by assumption) | exact absurd h9.2.2.1 (by assumption) | exact absurd h9.2.2.2 (by assumption) | exact absurd h9.2.2.2.1 (by assumption) | exact absurd h9.2.2.2.2 (by assumption)

