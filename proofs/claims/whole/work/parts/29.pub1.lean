set_option maxHeartbeats 4000000 in
set_option maxRecDepth 100000 in
theorem c4_of (l : Launch) {rw : List zC} {M : zM} {n u : Nat → Nat} {kn : Nat} (hS : SI 1 n u kn M) (hn : NB n) (x w : Int32) : CT l false 4 0 0 yX4_of cX4_of 3 (some .int) [.ref 0, .int x, .int w] (zSh ++ rw) M (zF (some (.int (sp_of n x w))) (zSh ++ rw) M) := by
  refine CT.ofN (by decide) (fun _ _ => Nat.le_of_ble_eq_true rfl) ?_
  have hdd := hn.2.2.2.2.2.2.2.2.2.2.2
  have hkd := hn.2.2.2.2.2.2.2.2.1
  have how := hn.2.2.2.2.2.2.2.2.2.1
  have hcu := hn.2.2.2.2.2.2.2.2.2.2.1
  have hb0 := hn.1
  have hb1 := hn.2.1
  have hb2 := hn.2.2.1
  have hb3 := hn.2.2.2.1
  have hb4 := hn.2.2.2.2.1
  have hb5 := hn.2.2.2.2.2.1
  have hb6 := hn.2.2.2.2.2.2.1
  refine r_aload_n dX4_of_0 rfl rfl ?_
  refine r_getR fl_X4_10 dX4_of_1 sh_0 rfl ?_
  refine r_iload_n dX4_of_4 rfl rfl ?_
  refine r_cV1F mv_X3_hasPerson ml_X4_53 (c3_hasPerson l hS (by omega) _) dX4_of_5 (Nat.le_of_ble_eq_true rfl) ⟨by decide, by decide⟩ ⟨by decide, by decide⟩ sh_1 rfl (fun _ h => nomatch h) ?_
  try dsimp only [zrst, List.cons_append, List.nil_append]
  first | refine r_if_eqB (tgt := 21) dX4_of_8 (by decide) (fun c1 => ?_) (fun c1 => ?_) | refine r_if_eqN (tgt := 21) dX4_of_8 (by decide) (by omega) (fun c1 => ?_) (fun c1 => ?_) | refine r_if_eq (tgt := 21) dX4_of_8 (by decide) (fun c1 => ?_) (fun c1 => ?_)
  · have b1 : ¬ (0 ≤ x.toInt ∧ x.toInt < (n 0 : Int)) := by omega
    refine r_iconst (v := (-1)) dX4_of_21 rfl ?_
    refine r_iret dX4_of_22 rfl (by decide) (by decide) ?_
    exact ⟨congrArg (fun x => some (Value.int x)) (if_neg (fun h => by first | exact absurd h (by assumption) | exact absurd h.1 (by assumption) | exact absurd h.2 (by assumption) | exact absurd h.2.1 (by assumption) | exact absurd h.2.2 (by assumption) | exact absurd h.2.2.1 (by assumption) | exact absurd h.2.2.2 (by assumption) | exact absurd h.2.2.2.1 (by assumption) | exact absurd h.2.2.2.2 (by assumption))).symm, rfl, rfl⟩
  · have g1 : 0 ≤ x.toInt ∧ x.toInt < (n 0 : Int) := by omega
    obtain ⟨p, hp, rfl⟩ := arg_nat (n := n 0) (show 0 ≤ x.toInt ∧ x.toInt < ((n 0 : Nat) : Int) by omega)
    refine r_iload_n dX4_of_11 rfl rfl ?_
    refine r_iconst (v := nI 0) dX4_of_12 rfl ?_
    refine r_bipush (v := nI 9) dX4_of_13 rfl ?_
    refine r_cS3F ms_X4_within ml_X4_41 (c4_within l _ _ _) dX4_of_15 (Nat.le_of_ble_eq_true rfl) ⟨by decide, by decide⟩ ⟨by decide, by decide⟩ (fun _ h => nomatch h) ?_
    try dsimp only [zrst, List.cons_append, List.nil_append]
    first | refine r_if_neB (tgt := 23) dX4_of_18 (by decide) (fun c2 => ?_) (fun c2 => ?_) | refine r_if_neN (tgt := 23) dX4_of_18 (by decide) (by omega) (fun c2 => ?_) (fun c2 => ?_) | refine r_if_ne (tgt := 23) dX4_of_18 (by decide) (fun c2 => ?_) (fun c2 => ?_)
    · have c2 : ((0 : Int) ≤ w.toInt ∧ w.toInt ≤ (9 : Int)) := c2
      have g2 : 0 ≤ w.toInt ∧ w.toInt ≤ 9 := by omega
      obtain ⟨k, hk1, hk2, rfl⟩ := arg_rng (a := 0) (b := 9) (show ((0 : Nat) : Int) ≤ w.toInt ∧ w.toInt ≤ ((9 : Nat) : Int) by omega)
      refine r_iload_n dX4_of_23 rfl rfl ?_
      refine r_iconst (v := nI 4) dX4_of_24 rfl ?_
      first | refine r_icmp_geN (tgt := 39) dX4_of_25 (by decide) (by omega) (by omega) (fun c3 => ?_) (fun c3 => ?_) | refine r_icmp_ge (tgt := 39) dX4_of_25 (by decide) (fun c3 => ?_) (fun c3 => ?_)
      · refine r_iload_n dX4_of_39 rfl rfl ?_
        refine r_bipush (v := nI 8) dX4_of_40 rfl ?_
        first | refine r_icmp_geN (tgt := 61) dX4_of_42 (by decide) (by omega) (by omega) (fun c4 => ?_) (fun c4 => ?_) | refine r_icmp_ge (tgt := 61) dX4_of_42 (by decide) (fun c4 => ?_) (fun c4 => ?_)
        · refine r_iload_n dX4_of_61 rfl rfl ?_
          refine r_bipush (v := nI 8) dX4_of_62 rfl ?_
          first | refine r_icmp_neN (tgt := 79) dX4_of_64 (by decide) (by omega) (by omega) (fun c5 => ?_) (fun c5 => ?_) | refine r_icmp_ne (tgt := 79) dX4_of_64 (by decide) (fun c5 => ?_) (fun c5 => ?_)
          · refine r_aload_n dX4_of_79 rfl rfl ?_
            refine r_getR fl_X4_10 dX4_of_80 sh_0 rfl ?_
            refine r_iload_n dX4_of_83 rfl rfl ?_
            refine r_cV1F mv_X3_deedsBy ml_X4_84 (c3_deedsBy l hS hn (by omega)) dX4_of_84 (Nat.le_of_ble_eq_true rfl) ⟨by decide, by decide⟩ ⟨by decide, by decide⟩ sh_1 rfl (fun _ h => nomatch h) ?_
            try dsimp only [zrst, List.cons_append, List.nil_append]
            refine r_iret dX4_of_87 rfl (by decide) (by decide) ?_
            refine ⟨congrArg (fun x => some (Value.int x)) ?_, rfl, rfl⟩
            rw [sp_of, if_pos ⟨g1, g2⟩, tn_nI (show p < 2147483648 by omega), tn_nI (show k < 2147483648 by omega), bo_of]
            (repeat' split) <;> first | rfl | (exfalso; omega)
          · refine r_aload_n dX4_of_67 rfl rfl ?_
            refine r_getR fl_X4_10 dX4_of_68 sh_0 rfl ?_
            refine r_getR fl_X4_81 dX4_of_71 sh_1 rfl ?_
            refine r_iload_n dX4_of_74 rfl rfl ?_
            refine r_ialdN dX4_of_75 sh_2 (by omega) (by decide) (hS.a2 (by omega)) ?_
            refine r_goto (tgt := 87) dX4_of_76 (by decide) ?_
            refine r_iret dX4_of_87 rfl (by decide) (by decide) ?_
            refine ⟨congrArg (fun x => some (Value.int x)) ?_, rfl, rfl⟩
            rw [sp_of, if_pos ⟨g1, g2⟩, tn_nI (show p < 2147483648 by omega), tn_nI (show k < 2147483648 by omega), bo_of]
            (repeat' split) <;> first | rfl | (exfalso; omega)
        · refine r_aload_n dX4_of_45 rfl rfl ?_
          refine r_getR fl_X4_10 dX4_of_46 sh_0 rfl ?_
          refine r_getR fl_X4_60 dX4_of_49 sh_1 rfl ?_
          refine r_iload_n dX4_of_52 rfl rfl ?_
          refine r_iconst (v := nI 4) dX4_of_53 rfl ?_
          first | refine r_imulN dX4_of_54 ?_ | refine r_imul dX4_of_54 ?_
          refine r_iload_n dX4_of_55 rfl rfl ?_
          first | refine r_iaddN dX4_of_56 ?_ | refine r_iadd dX4_of_56 ?_
          refine r_iconst (v := nI 4) dX4_of_57 rfl ?_
          first | refine r_isubN dX4_of_58 (by omega) ?_ | refine r_isub dX4_of_58 ?_
          refine r_ialdN dX4_of_59 sh_3 (by omega) (by decide) (show M.1 3 (p * 4 + k - 4) = nI (n (8 + 5 * p + 1 + (k - 4))) from by rw [show p * 4 + k - 4 = p * 4 + (k - 4) by omega]; exact hS.a3 (by omega) (by omega)) ?_
          refine r_iret dX4_of_60 rfl (by decide) (by decide) ?_
          refine ⟨congrArg (fun x => some (Value.int x)) ?_, rfl, rfl⟩
          rw [sp_of, if_pos ⟨g1, g2⟩, tn_nI (show p < 2147483648 by omega), tn_nI (show k < 2147483648 by omega), bo_of]
          (repeat' split) <;> first | rfl | (exfalso; omega)
      · refine r_aload_n dX4_of_28 rfl rfl ?_
        refine r_getR fl_X4_10 dX4_of_29 sh_0 rfl ?_
        refine r_iload_n dX4_of_32 rfl rfl ?_
        refine r_iload_n dX4_of_33 rfl rfl ?_
        refine r_iconst (v := nI 0) dX4_of_34 rfl ?_
        refine r_cV3F mv_X3_measureBehind ml_X4_77 (c3_measureBehind l hS hn (by omega) (by omega) (by omega)) dX4_of_35 (Nat.le_of_ble_eq_true rfl) ⟨by decide, by decide⟩ ⟨by decide, by decide⟩ sh_1 rfl (fun _ h => nomatch h) ?_
        try dsimp only [zrst, List.cons_append, List.nil_append]
        refine r_iret dX4_of_38 rfl (by decide) (by decide) ?_
        refine ⟨congrArg (fun x => some (Value.int x)) ?_, rfl, rfl⟩
        rw [sp_of, if_pos ⟨g1, g2⟩, tn_nI (show p < 2147483648 by omega), tn_nI (show k < 2147483648 by omega), bo_of]
        (repeat' split) <;> first | rfl | (exfalso; omega)
    · have c2 : ¬ ((0 : Int) ≤ w.toInt ∧ w.toInt ≤ (9 : Int)) := c2
      have b2 : ¬ (0 ≤ w.toInt ∧ w.toInt ≤ 9) := by omega
      refine r_iconst (v := (-1)) dX4_of_21 rfl ?_
      refine r_iret dX4_of_22 rfl (by decide) (by decide) ?_
      exact ⟨congrArg (fun x => some (Value.int x)) (if_neg (fun h => by first | exact absurd h (by assumption) | exact absurd h.1 (by assumption) | exact absurd h.2 (by assumption) | exact absurd h.2.1 (by assumption) | exact absurd h.2.2 (by assumption) | exact absurd h.2.2.1 (by assumption) | exact absurd h.2.2.2 (by assumption) | exact absurd h.2.2.2.1 (by assumption) | exact absurd h.2.2.2.2 (by assumption))).symm, rfl, rfl⟩

set_option maxHeartbeats 4000000 in
set_option maxRecDepth 100000 in
theorem c5p_of (l : Launch) {rw : List zC} {M : zM} {t : Nat → Nat → Nat} (hR : RI t M) (hn : NB (t 35)) (x w : Int32) : CT l false 4 0 0 yX5_of cX5_of 3 (some .int) [.ref 34, .int x, .int w] (zSh ++ rw) M (zF (some (.int (sp_of (t 35) x w))) (zSh ++ rw) M) := by
  refine CT.ofN (by decide) (fun _ _ => Nat.le_of_ble_eq_true rfl) ?_
  have hdd := hn.2.2.2.2.2.2.2.2.2.2.2
  have hkd := hn.2.2.2.2.2.2.2.2.1
  have how := hn.2.2.2.2.2.2.2.2.2.1
  have hcu := hn.2.2.2.2.2.2.2.2.2.2.1
  have hb0 := hn.1
  have hb1 := hn.2.1
  have hb2 := hn.2.2.1
  have hb3 := hn.2.2.2.1
  have hb4 := hn.2.2.2.2.1
  have hb5 := hn.2.2.2.2.2.1
  have hb6 := hn.2.2.2.2.2.2.1
  refine r_aload_n dX5_of_0 rfl rfl ?_
  refine r_iload_n dX5_of_1 rfl rfl ?_
  refine r_cV1F mv_X5_isPerson ml_X5_93 (c5_isPerson l hR (by omega) _) dX5_of_2 (Nat.le_of_ble_eq_true rfl) ⟨by decide, by decide⟩ ⟨by decide, by decide⟩ sh_34 rfl (fun _ h => nomatch h) ?_
  try dsimp only [zrst, List.cons_append, List.nil_append]
  first | refine r_if_eqB (tgt := 20) dX5_of_5 (by decide) (fun c1 => ?_) (fun c1 => ?_) | refine r_if_eqN (tgt := 20) dX5_of_5 (by decide) (by omega) (fun c1 => ?_) (fun c1 => ?_) | refine r_if_eq (tgt := 20) dX5_of_5 (by decide) (fun c1 => ?_) (fun c1 => ?_)
  · have b1 : ¬ (0 ≤ x.toInt ∧ x.toInt < (t 35 0 : Int)) := by omega
    refine r_iconst (v := (-1)) dX5_of_20 rfl ?_
    refine r_iret dX5_of_21 rfl (by decide) (by decide) ?_
    exact ⟨congrArg (fun x => some (Value.int x)) (if_neg (fun h => by first | exact absurd h (by assumption) | exact absurd h.1 (by assumption) | exact absurd h.2 (by assumption) | exact absurd h.2.1 (by assumption) | exact absurd h.2.2 (by assumption) | exact absurd h.2.2.1 (by assumption) | exact absurd h.2.2.2 (by assumption) | exact absurd h.2.2.2.1 (by assumption) | exact absurd h.2.2.2.2 (by assumption))).symm, rfl, rfl⟩
  · have g1 : 0 ≤ x.toInt ∧ x.toInt < (t 35 0 : Int) := by omega
    obtain ⟨p, hp, rfl⟩ := arg_nat (n := t 35 0) (show 0 ≤ x.toInt ∧ x.toInt < ((t 35 0 : Nat) : Int) by omega)
    refine r_iload_n dX5_of_8 rfl rfl ?_
    refine r_i2l dX5_of_9 rfl ?_
    refine r_lconst (v := 0) dX5_of_10 rfl ?_
    refine r_ldc2 kc_X5_105 dX5_of_11 ?_
    refine r_cS3F ms_X5_in ml_X5_41 (c5_in l _ _ _) dX5_of_14 (Nat.le_of_ble_eq_true rfl) ⟨by decide, by decide⟩ ⟨by decide, by decide⟩ (fun _ h => nomatch h) ?_
    try dsimp only [zrst, List.cons_append, List.nil_append]
    first | refine r_if_neB (tgt := 22) dX5_of_17 (by decide) (fun c2 => ?_) (fun c2 => ?_) | refine r_if_neN (tgt := 22) dX5_of_17 (by decide) (by omega) (fun c2 => ?_) (fun c2 => ?_) | refine r_if_ne (tgt := 22) dX5_of_17 (by decide) (fun c2 => ?_) (fun c2 => ?_)
    · rw [i64_of32] at c2
      have c2 : ((0 : Int) ≤ w.toInt ∧ w.toInt ≤ (9 : Int)) := c2
      have g2 : 0 ≤ w.toInt ∧ w.toInt ≤ 9 := by omega
      obtain ⟨k, hk1, hk2, rfl⟩ := arg_rng (a := 0) (b := 9) (show ((0 : Nat) : Int) ≤ w.toInt ∧ w.toInt ≤ ((9 : Nat) : Int) by omega)
      refine r_iload_n dX5_of_22 rfl rfl ?_
      refine r_iconst (v := nI 4) dX5_of_23 rfl ?_
      first | refine r_icmp_geN (tgt := 36) dX5_of_24 (by decide) (by omega) (by omega) (fun c3 => ?_) (fun c3 => ?_) | refine r_icmp_ge (tgt := 36) dX5_of_24 (by decide) (fun c3 => ?_) (fun c3 => ?_)
      · refine r_iload_n dX5_of_36 rfl rfl ?_
        refine r_bipush (v := nI 8) dX5_of_37 rfl ?_
        first | refine r_icmp_geN (tgt := 53) dX5_of_39 (by decide) (by omega) (by omega) (fun c4 => ?_) (fun c4 => ?_) | refine r_icmp_ge (tgt := 53) dX5_of_39 (by decide) (fun c4 => ?_) (fun c4 => ?_)
        · refine r_iload_n dX5_of_53 rfl rfl ?_
          refine r_bipush (v := nI 8) dX5_of_54 rfl ?_
          first | refine r_icmp_neN (tgt := 67) dX5_of_56 (by decide) (by omega) (by omega) (fun c5 => ?_) (fun c5 => ?_) | refine r_icmp_ne (tgt := 67) dX5_of_56 (by decide) (fun c5 => ?_) (fun c5 => ?_)
          · refine r_aload_n dX5_of_67 rfl rfl ?_
            refine r_iload_n dX5_of_68 rfl rfl ?_
            refine r_cV1F mv_X5_deedsOf ml_X5_110 (c5_deedsOf l hR hn (by omega)) dX5_of_69 (Nat.le_of_ble_eq_true rfl) ⟨by decide, by decide⟩ ⟨by decide, by decide⟩ sh_34 rfl (fun _ h => nomatch h) ?_
            try dsimp only [zrst, List.cons_append, List.nil_append]
            refine r_iret dX5_of_72 rfl (by decide) (by decide) ?_
            refine ⟨congrArg (fun x => some (Value.int x)) ?_, rfl, rfl⟩
            rw [sp_of, if_pos ⟨g1, g2⟩, tn_nI (show p < 2147483648 by omega), tn_nI (show k < 2147483648 by omega), bo_of]
            (repeat' split) <;> first | rfl | (exfalso; omega)
          · refine r_aload_n dX5_of_59 rfl rfl ?_
            refine r_iload_n dX5_of_60 rfl rfl ?_
            refine r_cV1F mv_X5_kind ml_X5_58 (c5_kind l hR (by omega)) dX5_of_61 (Nat.le_of_ble_eq_true rfl) ⟨by decide, by decide⟩ ⟨by decide, by decide⟩ sh_34 rfl (fun _ h => nomatch h) ?_
            try dsimp only [zrst, List.cons_append, List.nil_append]
            refine r_goto (tgt := 72) dX5_of_64 (by decide) ?_
            refine r_iret dX5_of_72 rfl (by decide) (by decide) ?_
            refine ⟨congrArg (fun x => some (Value.int x)) ?_, rfl, rfl⟩
            rw [sp_of, if_pos ⟨g1, g2⟩, tn_nI (show p < 2147483648 by omega), tn_nI (show k < 2147483648 by omega), bo_of]
            (repeat' split) <;> first | rfl | (exfalso; omega)
        · refine r_aload_n dX5_of_42 rfl rfl ?_
          refine r_iload_n dX5_of_43 rfl rfl ?_
          refine r_iload_n dX5_of_44 rfl rfl ?_
          refine r_iconst (v := nI 4) dX5_of_45 rfl ?_
          first | refine r_isubN dX5_of_46 (by omega) ?_ | refine r_isub dX5_of_46 ?_
          refine r_cV2F mv_X5_ownOf ml_X5_55 (c5_ownOf l hR (by omega) (by omega)) dX5_of_47 (Nat.le_of_ble_eq_true rfl) ⟨by decide, by decide⟩ ⟨by decide, by decide⟩ sh_34 rfl (fun _ h => nomatch h) ?_
          try dsimp only [zrst, List.cons_append, List.nil_append]
          refine r_goto (tgt := 72) dX5_of_50 (by decide) ?_
          refine r_iret dX5_of_72 rfl (by decide) (by decide) ?_
          refine ⟨congrArg (fun x => some (Value.int x)) ?_, rfl, rfl⟩
          rw [sp_of, if_pos ⟨g1, g2⟩, tn_nI (show p < 2147483648 by omega), tn_nI (show k < 2147483648 by omega), bo_of]
          (repeat' split) <;> first | rfl | (exfalso; omega)
      · refine r_aload_n dX5_of_27 rfl rfl ?_
        refine r_iload_n dX5_of_28 rfl rfl ?_
        refine r_iload_n dX5_of_29 rfl rfl ?_
        refine r_cV2F mv_X5_today ml_X5_107 (c5_today l hR hn (by omega) (by omega)) dX5_of_30 (Nat.le_of_ble_eq_true rfl) ⟨by decide, by decide⟩ ⟨by decide, by decide⟩ sh_34 rfl (fun _ h => nomatch h) ?_
        try dsimp only [zrst, List.cons_append, List.nil_append]
        refine r_goto (tgt := 72) dX5_of_33 (by decide) ?_
        refine r_iret dX5_of_72 rfl (by decide) (by decide) ?_
        refine ⟨congrArg (fun x => some (Value.int x)) ?_, rfl, rfl⟩
        rw [sp_of, if_pos ⟨g1, g2⟩, tn_nI (show p < 2147483648 by omega), tn_nI (show k < 2147483648 by omega), bo_of]
        (repeat' split) <;> first | rfl | (exfalso; omega)
    · rw [i64_of32] at c2
      have c2 : ¬ ((0 : Int) ≤ w.toInt ∧ w.toInt ≤ (9 : Int)) := c2
      have b2 : ¬ (0 ≤ w.toInt ∧ w.toInt ≤ 9) := by omega
      refine r_iconst (v := (-1)) dX5_of_20 rfl ?_
      refine r_iret dX5_of_21 rfl (by decide) (by decide) ?_
      exact ⟨congrArg (fun x => some (Value.int x)) (if_neg (fun h => by first | exact absurd h (by assumption) | exact absurd h.1 (by assumption) | exact absurd h.2 (by assumption) | exact absurd h.2.1 (by assumption) | exact absurd h.2.2 (by assumption) | exact absurd h.2.2.1 (by assumption) | exact absurd h.2.2.2 (by assumption) | exact absurd h.2.2.2.1 (by assumption) | exact absurd h.2.2.2.2 (by assumption))).symm, rfl, rfl⟩

set_option maxHeartbeats 4000000 in
set_option maxRecDepth 100000 in
theorem c4_tries (l : Launch) {rw : List zC} {M : zM} {n u : Nat → Nat} {kn : Nat} (hS : SI 1 n u kn M) (hn : NB n) (x z w : Int32) : CT l false 5 0 0 yX4_tries cX4_tries 4 (some .int) [.ref 0, .int x, .int z, .int w] (zSh ++ rw) M (zF (some (.int (sp_tries n x z w))) (zSh ++ rw) M) := by
  refine CT.ofN (by decide) (fun _ _ => Nat.le_of_ble_eq_true rfl) ?_
  have hdd := hn.2.2.2.2.2.2.2.2.2.2.2
  have hkd := hn.2.2.2.2.2.2.2.2.1
  have how := hn.2.2.2.2.2.2.2.2.2.1
  have hcu := hn.2.2.2.2.2.2.2.2.2.2.1
  have hb0 := hn.1
  have hb1 := hn.2.1
  have hb2 := hn.2.2.1
  have hb3 := hn.2.2.2.1
  have hb4 := hn.2.2.2.2.1
  have hb5 := hn.2.2.2.2.2.1
  have hb6 := hn.2.2.2.2.2.2.1
  refine r_aload_n dX4_tries_0 rfl rfl ?_
  refine r_getR fl_X4_10 dX4_tries_1 sh_0 rfl ?_
  refine r_iload_n dX4_tries_4 rfl rfl ?_
  refine r_cV1F mv_X3_hasPerson ml_X4_53 (c3_hasPerson l hS (by omega) _) dX4_tries_5 (Nat.le_of_ble_eq_true rfl) ⟨by decide, by decide⟩ ⟨by decide, by decide⟩ sh_1 rfl (fun _ h => nomatch h) ?_
  try dsimp only [zrst, List.cons_append, List.nil_append]
  first | refine r_if_eqB (tgt := 29) dX4_tries_8 (by decide) (fun c1 => ?_) (fun c1 => ?_) | refine r_if_eqN (tgt := 29) dX4_tries_8 (by decide) (by omega) (fun c1 => ?_) (fun c1 => ?_) | refine r_if_eq (tgt := 29) dX4_tries_8 (by decide) (fun c1 => ?_) (fun c1 => ?_)
  · have b1 : ¬ (0 ≤ x.toInt ∧ x.toInt < (n 0 : Int)) := by omega
    refine r_iconst (v := (-1)) dX4_tries_29 rfl ?_
    refine r_iret dX4_tries_30 rfl (by decide) (by decide) ?_
    exact ⟨congrArg (fun x => some (Value.int x)) (if_neg (fun h => by first | exact absurd h (by assumption) | exact absurd h.1 (by assumption) | exact absurd h.2 (by assumption) | exact absurd h.2.1 (by assumption) | exact absurd h.2.2 (by assumption) | exact absurd h.2.2.1 (by assumption) | exact absurd h.2.2.2 (by assumption) | exact absurd h.2.2.2.1 (by assumption) | exact absurd h.2.2.2.2 (by assumption))).symm, rfl, rfl⟩
  · have g1 : 0 ≤ x.toInt ∧ x.toInt < (n 0 : Int) := by omega
    obtain ⟨p, hp, rfl⟩ := arg_nat (n := n 0) (show 0 ≤ x.toInt ∧ x.toInt < ((n 0 : Nat) : Int) by omega)
    refine r_aload_n dX4_tries_11 rfl rfl ?_
    refine r_getR fl_X4_10 dX4_tries_12 sh_0 rfl ?_
    refine r_iload_n dX4_tries_15 rfl rfl ?_
    refine r_cV1F mv_X3_hasSuit ml_X4_71 (c3_hasSuit l hS (by omega) _) dX4_tries_16 (Nat.le_of_ble_eq_true rfl) ⟨by decide, by decide⟩ ⟨by decide, by decide⟩ sh_1 rfl (fun _ h => nomatch h) ?_
    try dsimp only [zrst, List.cons_append, List.nil_append]
    first | refine r_if_eqB (tgt := 29) dX4_tries_19 (by decide) (fun c2 => ?_) (fun c2 => ?_) | refine r_if_eqN (tgt := 29) dX4_tries_19 (by decide) (by omega) (fun c2 => ?_) (fun c2 => ?_) | refine r_if_eq (tgt := 29) dX4_tries_19 (by decide) (fun c2 => ?_) (fun c2 => ?_)
    · have b2 : ¬ (0 ≤ z.toInt ∧ z.toInt < (n 1 : Int)) := by omega
      refine r_iconst (v := (-1)) dX4_tries_29 rfl ?_
      refine r_iret dX4_tries_30 rfl (by decide) (by decide) ?_
      exact ⟨congrArg (fun x => some (Value.int x)) (if_neg (fun h => by first | exact absurd h (by assumption) | exact absurd h.1 (by assumption) | exact absurd h.2 (by assumption) | exact absurd h.2.1 (by assumption) | exact absurd h.2.2 (by assumption) | exact absurd h.2.2.1 (by assumption) | exact absurd h.2.2.2 (by assumption) | exact absurd h.2.2.2.1 (by assumption) | exact absurd h.2.2.2.2 (by assumption))).symm, rfl, rfl⟩
    · have g2 : 0 ≤ z.toInt ∧ z.toInt < (n 1 : Int) := by omega
      obtain ⟨q, hq, rfl⟩ := arg_nat (n := n 1) (show 0 ≤ z.toInt ∧ z.toInt < ((n 1 : Nat) : Int) by omega)
      refine r_iload_n dX4_tries_22 rfl rfl ?_
      refine r_cS1F ms_X4_isEither ml_X4_108 (c4_isEither l _) dX4_tries_23 (Nat.le_of_ble_eq_true rfl) ⟨by decide, by decide⟩ ⟨by decide, by decide⟩ (fun _ h => nomatch h) ?_
      try dsimp only [zrst, List.cons_append, List.nil_append]
      first | refine r_if_neB (tgt := 31) dX4_tries_26 (by decide) (fun c3 => ?_) (fun c3 => ?_) | refine r_if_neN (tgt := 31) dX4_tries_26 (by decide) (by omega) (fun c3 => ?_) (fun c3 => ?_) | refine r_if_ne (tgt := 31) dX4_tries_26 (by decide) (fun c3 => ?_) (fun c3 => ?_)
      · have c3 : ((0 : Int) ≤ w.toInt ∧ w.toInt < (2 : Int)) := c3
        have g3 : 0 ≤ w.toInt ∧ w.toInt ≤ 1 := by omega
        obtain ⟨k, hk1, hk2, rfl⟩ := arg_rng (a := 0) (b := 1) (show ((0 : Nat) : Int) ≤ w.toInt ∧ w.toInt ≤ ((1 : Nat) : Int) by omega)
        refine r_iload_n dX4_tries_31 rfl rfl ?_
        first | refine r_if_neB (tgt := 46) dX4_tries_32 (by decide) (fun c4 => ?_) (fun c4 => ?_) | refine r_if_neN (tgt := 46) dX4_tries_32 (by decide) (by omega) (fun c4 => ?_) (fun c4 => ?_) | refine r_if_ne (tgt := 46) dX4_tries_32 (by decide) (fun c4 => ?_) (fun c4 => ?_)
        · refine r_aload_n dX4_tries_46 rfl rfl ?_
          refine r_getR fl_X4_10 dX4_tries_47 sh_0 rfl ?_
          refine r_iload_n dX4_tries_50 rfl rfl ?_
          refine r_iload_n dX4_tries_51 rfl rfl ?_
          refine r_iconst (v := nI 0) dX4_tries_52 rfl ?_
          refine r_cV3F mv_X3_fitsBehind ml_X4_114 (c3_fitsBehind l hS hn (by omega) (by omega) (by omega)) dX4_tries_53 (Nat.le_of_ble_eq_true rfl) ⟨by decide, by decide⟩ ⟨by decide, by decide⟩ sh_1 rfl (fun _ h => nomatch h) ?_
          try dsimp only [zrst, List.cons_append, List.nil_append]
          first | refine r_if_eqB (tgt := 63) dX4_tries_56 (by decide) (fun c5 => ?_) (fun c5 => ?_) | refine r_if_eqN (tgt := 63) dX4_tries_56 (by decide) (by omega) (fun c5 => ?_) (fun c5 => ?_) | refine r_if_eq (tgt := 63) dX4_tries_56 (by decide) (fun c5 => ?_) (fun c5 => ?_)
          · refine r_iconst (v := nI 0) dX4_tries_63 rfl ?_
            refine r_iret dX4_tries_64 rfl (by decide) (by decide) ?_
            refine ⟨congrArg (fun x => some (Value.int x)) ?_, rfl, rfl⟩
            rw [sp_tries, if_pos ⟨g1, g2, g3⟩, tn_nI (show p < 2147483648 by omega), tn_nI (show q < 2147483648 by omega), tn_nI (show k < 2147483648 by omega), bo_tries]
            split
            · first | rfl | (exfalso; omega)
            · first | (exfalso; omega) | exact (zb_f1 (by assumption)).symm | exact (zb_t1 (by assumption)).symm
          · refine r_iconst (v := nI 1) dX4_tries_59 rfl ?_
            refine r_goto (tgt := 64) dX4_tries_60 (by decide) ?_
            refine r_iret dX4_tries_64 rfl (by decide) (by decide) ?_
            refine ⟨congrArg (fun x => some (Value.int x)) ?_, rfl, rfl⟩
            rw [sp_tries, if_pos ⟨g1, g2, g3⟩, tn_nI (show p < 2147483648 by omega), tn_nI (show q < 2147483648 by omega), tn_nI (show k < 2147483648 by omega), bo_tries]
            split
            · first | rfl | (exfalso; omega)
            · first | (exfalso; omega) | exact (zb_f1 (by assumption)).symm | exact (zb_t1 (by assumption)).symm
        · refine r_aload_n dX4_tries_35 rfl rfl ?_
          refine r_getR fl_X4_10 dX4_tries_36 sh_0 rfl ?_
          refine r_iload_n dX4_tries_39 rfl rfl ?_
          refine r_iload_n dX4_tries_40 rfl rfl ?_
          refine r_iconst (v := nI 0) dX4_tries_41 rfl ?_
          refine r_cV3F mv_X3_showsBehind ml_X4_111 (c3_showsBehind l hS hn (by omega) (by omega) (by omega)) dX4_tries_42 (Nat.le_of_ble_eq_true rfl) ⟨by decide, by decide⟩ ⟨by decide, by decide⟩ sh_1 rfl (fun _ h => nomatch h) ?_
          try dsimp only [zrst, List.cons_append, List.nil_append]
          refine r_iret dX4_tries_45 rfl (by decide) (by decide) ?_
          refine ⟨congrArg (fun x => some (Value.int x)) ?_, rfl, rfl⟩
          rw [sp_tries, if_pos ⟨g1, g2, g3⟩, tn_nI (show p < 2147483648 by omega), tn_nI (show q < 2147483648 by omega), tn_nI (show k < 2147483648 by omega), bo_tries]
          split
          · first | rfl | (exfalso; omega)
          · first | (exfalso; omega) | exact (zb_f1 (by assumption)).symm | exact (zb_t1 (by assumption)).symm
      · have c3 : ¬ ((0 : Int) ≤ w.toInt ∧ w.toInt < (2 : Int)) := c3
        have b3 : ¬ (0 ≤ w.toInt ∧ w.toInt ≤ 1) := by omega
        refine r_iconst (v := (-1)) dX4_tries_29 rfl ?_
        refine r_iret dX4_tries_30 rfl (by decide) (by decide) ?_
        exact ⟨congrArg (fun x => some (Value.int x)) (if_neg (fun h => by first | exact absurd h (by assumption) | exact absurd h.1 (by assumption) | exact absurd h.2 (by assumption) | exact absurd h.2.1 (by assumption) | exact absurd h.2.2 (by assumption) | exact absurd h.2.2.1 (by assumption) | exact absurd h.2.2.2 (by assumption) | exact absurd h.2.2.2.1 (by assumption) | exact absurd h.2.2.2.2 (by assumption))).symm, rfl, rfl⟩

set_option maxHeartbeats 4000000 in
set_option maxRecDepth 100000 in
theorem c5p_tries (l : Launch) {rw : List zC} {M : zM} {t : Nat → Nat → Nat} (hR : RI t M) (hn : NB (t 35)) (x z w : Int32) : CT l false 5 0 0 yX5_tries cX5_tries 4 (some .int) [.ref 34, .int x, .int z, .int w] (zSh ++ rw) M (zF (some (.int (sp_tries (t 35) x z w))) (zSh ++ rw) M) := by
  refine CT.ofN (by decide) (fun _ _ => Nat.le_of_ble_eq_true rfl) ?_
  have hdd := hn.2.2.2.2.2.2.2.2.2.2.2
  have hkd := hn.2.2.2.2.2.2.2.2.1
  have how := hn.2.2.2.2.2.2.2.2.2.1
  have hcu := hn.2.2.2.2.2.2.2.2.2.2.1
  have hb0 := hn.1
  have hb1 := hn.2.1
  have hb2 := hn.2.2.1
  have hb3 := hn.2.2.2.1
  have hb4 := hn.2.2.2.2.1
  have hb5 := hn.2.2.2.2.2.1
  have hb6 := hn.2.2.2.2.2.2.1
  refine r_aload_n dX5_tries_0 rfl rfl ?_
  refine r_iload_n dX5_tries_1 rfl rfl ?_
  refine r_cV1F mv_X5_isPerson ml_X5_93 (c5_isPerson l hR (by omega) _) dX5_tries_2 (Nat.le_of_ble_eq_true rfl) ⟨by decide, by decide⟩ ⟨by decide, by decide⟩ sh_34 rfl (fun _ h => nomatch h) ?_
  try dsimp only [zrst, List.cons_append, List.nil_append]
  first | refine r_if_eqB (tgt := 26) dX5_tries_5 (by decide) (fun c1 => ?_) (fun c1 => ?_) | refine r_if_eqN (tgt := 26) dX5_tries_5 (by decide) (by omega) (fun c1 => ?_) (fun c1 => ?_) | refine r_if_eq (tgt := 26) dX5_tries_5 (by decide) (fun c1 => ?_) (fun c1 => ?_)
  · have b1 : ¬ (0 ≤ x.toInt ∧ x.toInt < (t 35 0 : Int)) := by omega
    refine r_iconst (v := (-1)) dX5_tries_26 rfl ?_
    refine r_iret dX5_tries_27 rfl (by decide) (by decide) ?_
    exact ⟨congrArg (fun x => some (Value.int x)) (if_neg (fun h => by first | exact absurd h (by assumption) | exact absurd h.1 (by assumption) | exact absurd h.2 (by assumption) | exact absurd h.2.1 (by assumption) | exact absurd h.2.2 (by assumption) | exact absurd h.2.2.1 (by assumption) | exact absurd h.2.2.2 (by assumption) | exact absurd h.2.2.2.1 (by assumption) | exact absurd h.2.2.2.2 (by assumption))).symm, rfl, rfl⟩
  · have g1 : 0 ≤ x.toInt ∧ x.toInt < (t 35 0 : Int) := by omega
    obtain ⟨p, hp, rfl⟩ := arg_nat (n := t 35 0) (show 0 ≤ x.toInt ∧ x.toInt < ((t 35 0 : Nat) : Int) by omega)
    refine r_aload_n dX5_tries_8 rfl rfl ?_
    refine r_iload_n dX5_tries_9 rfl rfl ?_
    refine r_cV1F mv_X5_isSuit ml_X5_102 (c5_isSuit l hR (by omega) _) dX5_tries_10 (Nat.le_of_ble_eq_true rfl) ⟨by decide, by decide⟩ ⟨by decide, by decide⟩ sh_34 rfl (fun _ h => nomatch h) ?_
    try dsimp only [zrst, List.cons_append, List.nil_append]
    first | refine r_if_eqB (tgt := 26) dX5_tries_13 (by decide) (fun c2 => ?_) (fun c2 => ?_) | refine r_if_eqN (tgt := 26) dX5_tries_13 (by decide) (by omega) (fun c2 => ?_) (fun c2 => ?_) | refine r_if_eq (tgt := 26) dX5_tries_13 (by decide) (fun c2 => ?_) (fun c2 => ?_)
    · have b2 : ¬ (0 ≤ z.toInt ∧ z.toInt < (t 35 1 : Int)) := by omega
      refine r_iconst (v := (-1)) dX5_tries_26 rfl ?_
      refine r_iret dX5_tries_27 rfl (by decide) (by decide) ?_
      exact ⟨congrArg (fun x => some (Value.int x)) (if_neg (fun h => by first | exact absurd h (by assumption) | exact absurd h.1 (by assumption) | exact absurd h.2 (by assumption) | exact absurd h.2.1 (by assumption) | exact absurd h.2.2 (by assumption) | exact absurd h.2.2.1 (by assumption) | exact absurd h.2.2.2 (by assumption) | exact absurd h.2.2.2.1 (by assumption) | exact absurd h.2.2.2.2 (by assumption))).symm, rfl, rfl⟩
    · have g2 : 0 ≤ z.toInt ∧ z.toInt < (t 35 1 : Int) := by omega
      obtain ⟨q, hq, rfl⟩ := arg_nat (n := t 35 1) (show 0 ≤ z.toInt ∧ z.toInt < ((t 35 1 : Nat) : Int) by omega)
      refine r_iload_n dX5_tries_16 rfl rfl ?_
      refine r_i2l dX5_tries_17 rfl ?_
      refine r_lconst (v := 0) dX5_tries_18 rfl ?_
      refine r_lconst (v := 1) dX5_tries_19 rfl ?_
      refine r_cS3F ms_X5_in ml_X5_41 (c5_in l _ _ _) dX5_tries_20 (Nat.le_of_ble_eq_true rfl) ⟨by decide, by decide⟩ ⟨by decide, by decide⟩ (fun _ h => nomatch h) ?_
      try dsimp only [zrst, List.cons_append, List.nil_append]
      first | refine r_if_neB (tgt := 28) dX5_tries_23 (by decide) (fun c3 => ?_) (fun c3 => ?_) | refine r_if_neN (tgt := 28) dX5_tries_23 (by decide) (by omega) (fun c3 => ?_) (fun c3 => ?_) | refine r_if_ne (tgt := 28) dX5_tries_23 (by decide) (fun c3 => ?_) (fun c3 => ?_)
      · rw [i64_of32] at c3
        have c3 : ((0 : Int) ≤ w.toInt ∧ w.toInt ≤ (1 : Int)) := c3
        have g3 : 0 ≤ w.toInt ∧ w.toInt ≤ 1 := by omega
        obtain ⟨k, hk1, hk2, rfl⟩ := arg_rng (a := 0) (b := 1) (show ((0 : Nat) : Int) ≤ w.toInt ∧ w.toInt ≤ ((1 : Nat) : Int) by omega)
        refine r_iload_n dX5_tries_28 rfl rfl ?_
        first | refine r_if_neB (tgt := 47) dX5_tries_29 (by decide) (fun c4 => ?_) (fun c4 => ?_) | refine r_if_neN (tgt := 47) dX5_tries_29 (by decide) (by omega) (fun c4 => ?_) (fun c4 => ?_) | refine r_if_ne (tgt := 47) dX5_tries_29 (by decide) (fun c4 => ?_) (fun c4 => ?_)
        · refine r_aload_n dX5_tries_47 rfl rfl ?_
          refine r_iload_n dX5_tries_48 rfl rfl ?_
          refine r_iload_n dX5_tries_49 rfl rfl ?_
          refine r_cV2F mv_X5_fitsNow ml_X5_121 (c5_fitsNow l hR hn (by omega) (by omega)) dX5_tries_50 (Nat.le_of_ble_eq_true rfl) ⟨by decide, by decide⟩ ⟨by decide, by decide⟩ sh_34 rfl (fun _ h => nomatch h) ?_
          try dsimp only [zrst, List.cons_append, List.nil_append]
          first | refine r_if_eqB (tgt := 60) dX5_tries_53 (by decide) (fun c5 => ?_) (fun c5 => ?_) | refine r_if_eqN (tgt := 60) dX5_tries_53 (by decide) (by omega) (fun c5 => ?_) (fun c5 => ?_) | refine r_if_eq (tgt := 60) dX5_tries_53 (by decide) (fun c5 => ?_) (fun c5 => ?_)
          · refine r_iconst (v := nI 0) dX5_tries_60 rfl ?_
            refine r_iret dX5_tries_61 rfl (by decide) (by decide) ?_
            refine ⟨congrArg (fun x => some (Value.int x)) ?_, rfl, rfl⟩
            rw [sp_tries, if_pos ⟨g1, g2, g3⟩, tn_nI (show p < 2147483648 by omega), tn_nI (show q < 2147483648 by omega), tn_nI (show k < 2147483648 by omega), bo_tries]
            split
            · first | rfl | (exfalso; omega)
            · first | (exfalso; omega) | exact (zb_f1 (by assumption)).symm | exact (zb_t1 (by assumption)).symm
          · refine r_iconst (v := nI 1) dX5_tries_56 rfl ?_
            refine r_goto (tgt := 61) dX5_tries_57 (by decide) ?_
            refine r_iret dX5_tries_61 rfl (by decide) (by decide) ?_
            refine ⟨congrArg (fun x => some (Value.int x)) ?_, rfl, rfl⟩
            rw [sp_tries, if_pos ⟨g1, g2, g3⟩, tn_nI (show p < 2147483648 by omega), tn_nI (show q < 2147483648 by omega), tn_nI (show k < 2147483648 by omega), bo_tries]
            split
            · first | rfl | (exfalso; omega)
            · first | (exfalso; omega) | exact (zb_f1 (by assumption)).symm | exact (zb_t1 (by assumption)).symm
        · refine r_aload_n dX5_tries_32 rfl rfl ?_
          refine r_iload_n dX5_tries_33 rfl rfl ?_
          refine r_iload_n dX5_tries_34 rfl rfl ?_
          refine r_aload_n dX5_tries_35 rfl rfl ?_
          refine r_getR fl_X5_7 dX5_tries_36 sh_34 rfl ?_
          refine r_iconst (v := nI 3) dX5_tries_39 rfl ?_
          refine r_ialdN dX5_tries_40 sh_35 (by omega) (by decide) (hR.a35 _) ?_
          refine r_cV3F mv_X5_showsOn ml_X5_118 (c5_showsOn l hR hn (by omega) (by omega) (Nat.le_refl _) (by omega)) dX5_tries_41 (Nat.le_of_ble_eq_true rfl) ⟨by decide, by decide⟩ ⟨by decide, by decide⟩ sh_34 rfl (fun _ h => nomatch h) ?_
          try dsimp only [zrst, List.cons_append, List.nil_append]
          refine r_goto (tgt := 61) dX5_tries_44 (by decide) ?_
          refine r_iret dX5_tries_61 rfl (by decide) (by decide) ?_
          refine ⟨congrArg (fun x => some (Value.int x)) ?_, rfl, rfl⟩
          rw [sp_tries, if_pos ⟨g1, g2, g3⟩, tn_nI (show p < 2147483648 by omega), tn_nI (show q < 2147483648 by omega), tn_nI (show k < 2147483648 by omega), bo_tries]
          split
          · first | rfl | (exfalso; omega)
          · first | (exfalso; omega) | exact (zb_f1 (by assumption)).symm | exact (zb_t1 (by assumption)).symm
      · rw [i64_of32] at c3
        have c3 : ¬ ((0 : Int) ≤ w.toInt ∧ w.toInt ≤ (1 : Int)) := c3
        have b3 : ¬ (0 ≤ w.toInt ∧ w.toInt ≤ 1) := by omega
        refine r_iconst (v := (-1)) dX5_tries_26 rfl ?_
        refine r_iret dX5_tries_27 rfl (by decide) (by decide) ?_
        exact ⟨congrArg (fun x => some (Value.int x)) (if_neg (fun h => by first | exact absurd h (by assumption) | exact absurd h.1 (by assumption) | exact absurd h.2 (by assumption) | exact absurd h.2.1 (by assumption) | exact absurd h.2.2 (by assumption) | exact absurd h.2.2.1 (by assumption) | exact absurd h.2.2.2 (by assumption) | exact absurd h.2.2.2.1 (by assumption) | exact absurd h.2.2.2.2 (by assumption))).symm, rfl, rfl⟩

set_option maxHeartbeats 4000000 in
set_option maxRecDepth 100000 in
theorem c4_ahead (l : Launch) {rw : List zC} {M : zM} {n u : Nat → Nat} {kn : Nat} (hS : SI 1 n u kn M) (hn : NB n) (x z w : Int32) : CT l false 4 0 0 yX4_ahead cX4_ahead 4 (some .int) [.ref 0, .int x, .int z, .int w] (zSh ++ rw) M (zF (some (.int (sp_ahead n x z w))) (zSh ++ rw) M) := by
  refine CT.ofN (by decide) (fun _ _ => Nat.le_of_ble_eq_true rfl) ?_
  have hdd := hn.2.2.2.2.2.2.2.2.2.2.2
  have hkd := hn.2.2.2.2.2.2.2.2.1
  have how := hn.2.2.2.2.2.2.2.2.2.1
  have hcu := hn.2.2.2.2.2.2.2.2.2.2.1
  have hb0 := hn.1
  have hb1 := hn.2.1
  have hb2 := hn.2.2.1
  have hb3 := hn.2.2.2.1
  have hb4 := hn.2.2.2.2.1
  have hb5 := hn.2.2.2.2.2.1
  have hb6 := hn.2.2.2.2.2.2.1
  refine r_aload_n dX4_ahead_0 rfl rfl ?_
  refine r_getR fl_X4_10 dX4_ahead_1 sh_0 rfl ?_
  refine r_iload_n dX4_ahead_4 rfl rfl ?_
  refine r_cV1F mv_X3_hasPerson ml_X4_53 (c3_hasPerson l hS (by omega) _) dX4_ahead_5 (Nat.le_of_ble_eq_true rfl) ⟨by decide, by decide⟩ ⟨by decide, by decide⟩ sh_1 rfl (fun _ h => nomatch h) ?_
  try dsimp only [zrst, List.cons_append, List.nil_append]
  first | refine r_if_eqB (tgt := 28) dX4_ahead_8 (by decide) (fun c1 => ?_) (fun c1 => ?_) | refine r_if_eqN (tgt := 28) dX4_ahead_8 (by decide) (by omega) (fun c1 => ?_) (fun c1 => ?_) | refine r_if_eq (tgt := 28) dX4_ahead_8 (by decide) (fun c1 => ?_) (fun c1 => ?_)
  · have b1 : ¬ (0 ≤ x.toInt ∧ x.toInt < (n 0 : Int)) := by omega
    refine r_iconst (v := (-1)) dX4_ahead_28 rfl ?_
    refine r_iret dX4_ahead_29 rfl (by decide) (by decide) ?_
    exact ⟨congrArg (fun x => some (Value.int x)) (if_neg (fun h => by first | exact absurd h (by assumption) | exact absurd h.1 (by assumption) | exact absurd h.2 (by assumption) | exact absurd h.2.1 (by assumption) | exact absurd h.2.2 (by assumption) | exact absurd h.2.2.1 (by assumption) | exact absurd h.2.2.2 (by assumption) | exact absurd h.2.2.2.1 (by assumption) | exact absurd h.2.2.2.2 (by assumption))).symm, rfl, rfl⟩
  · have g1 : 0 ≤ x.toInt ∧ x.toInt < (n 0 : Int) := by omega
    obtain ⟨p, hp, rfl⟩ := arg_nat (n := n 0) (show 0 ≤ x.toInt ∧ x.toInt < ((n 0 : Nat) : Int) by omega)
    refine r_iload_n dX4_ahead_11 rfl rfl ?_
    refine r_cS1F ms_X4_isMeasure ml_X4_57 (c4_isMeasure l _) dX4_ahead_12 (Nat.le_of_ble_eq_true rfl) ⟨by decide, by decide⟩ ⟨by decide, by decide⟩ (fun _ h => nomatch h) ?_
    try dsimp only [zrst, List.cons_append, List.nil_append]
    first | refine r_if_eqB (tgt := 28) dX4_ahead_15 (by decide) (fun c2 => ?_) (fun c2 => ?_) | refine r_if_eqN (tgt := 28) dX4_ahead_15 (by decide) (by omega) (fun c2 => ?_) (fun c2 => ?_) | refine r_if_eq (tgt := 28) dX4_ahead_15 (by decide) (fun c2 => ?_) (fun c2 => ?_)
    · have c2 : ¬ ((0 : Int) ≤ z.toInt ∧ z.toInt < (4 : Int)) := c2
      have b2 : ¬ (0 ≤ z.toInt ∧ z.toInt ≤ 3) := by omega
      refine r_iconst (v := (-1)) dX4_ahead_28 rfl ?_
      refine r_iret dX4_ahead_29 rfl (by decide) (by decide) ?_
      exact ⟨congrArg (fun x => some (Value.int x)) (if_neg (fun h => by first | exact absurd h (by assumption) | exact absurd h.1 (by assumption) | exact absurd h.2 (by assumption) | exact absurd h.2.1 (by assumption) | exact absurd h.2.2 (by assumption) | exact absurd h.2.2.1 (by assumption) | exact absurd h.2.2.2 (by assumption) | exact absurd h.2.2.2.1 (by assumption) | exact absurd h.2.2.2.2 (by assumption))).symm, rfl, rfl⟩
    · have c2 : ((0 : Int) ≤ z.toInt ∧ z.toInt < (4 : Int)) := c2
      have g2 : 0 ≤ z.toInt ∧ z.toInt ≤ 3 := by omega
      obtain ⟨q, hq1, hq2, rfl⟩ := arg_rng (a := 0) (b := 3) (show ((0 : Nat) : Int) ≤ z.toInt ∧ z.toInt ≤ ((3 : Nat) : Int) by omega)
      refine r_iload_n dX4_ahead_18 rfl rfl ?_
      refine r_iconst (v := nI 0) dX4_ahead_19 rfl ?_
      refine r_bipush (v := nI 99) dX4_ahead_20 rfl ?_
      refine r_cS3F ms_X4_within ml_X4_41 (c4_within l _ _ _) dX4_ahead_22 (Nat.le_of_ble_eq_true rfl) ⟨by decide, by decide⟩ ⟨by decide, by decide⟩ (fun _ h => nomatch h) ?_
      try dsimp only [zrst, List.cons_append, List.nil_append]
      first | refine r_if_neB (tgt := 30) dX4_ahead_25 (by decide) (fun c3 => ?_) (fun c3 => ?_) | refine r_if_neN (tgt := 30) dX4_ahead_25 (by decide) (by omega) (fun c3 => ?_) (fun c3 => ?_) | refine r_if_ne (tgt := 30) dX4_ahead_25 (by decide) (fun c3 => ?_) (fun c3 => ?_)
      · have c3 : ((0 : Int) ≤ w.toInt ∧ w.toInt ≤ (99 : Int)) := c3
        have g3 : 0 ≤ w.toInt ∧ w.toInt ≤ 99 := by omega
        obtain ⟨k, hk1, hk2, rfl⟩ := arg_rng (a := 0) (b := 99) (show ((0 : Nat) : Int) ≤ w.toInt ∧ w.toInt ≤ ((99 : Nat) : Int) by omega)
        refine r_aload_n dX4_ahead_30 rfl rfl ?_
        refine r_getR fl_X4_10 dX4_ahead_31 sh_0 rfl ?_
        refine r_iload_n dX4_ahead_34 rfl rfl ?_
        refine r_iload_n dX4_ahead_35 rfl rfl ?_
        refine r_iload_n dX4_ahead_36 rfl rfl ?_
        refine r_cV3F mv_X3_measureBehind ml_X4_77 (c3_measureBehind l hS hn (by omega) (by omega) (by omega)) dX4_ahead_37 (Nat.le_of_ble_eq_true rfl) ⟨by decide, by decide⟩ ⟨by decide, by decide⟩ sh_1 rfl (fun _ h => nomatch h) ?_
        try dsimp only [zrst, List.cons_append, List.nil_append]
        refine r_iret dX4_ahead_40 rfl (by decide) (by decide) ?_
        refine ⟨congrArg (fun x => some (Value.int x)) ?_, rfl, rfl⟩
        rw [sp_ahead, if_pos ⟨g1, g2, g3⟩, tn_nI (show p < 2147483648 by omega), tn_nI (show q < 2147483648 by omega), tn_nI (show k < 2147483648 by omega)]
        try rfl
      · have c3 : ¬ ((0 : Int) ≤ w.toInt ∧ w.toInt ≤ (99 : Int)) := c3
        have b3 : ¬ (0 ≤ w.toInt ∧ w.toInt ≤ 99) := by omega
        refine r_iconst (v := (-1)) dX4_ahead_28 rfl ?_
        refine r_iret dX4_ahead_29 rfl (by decide) (by decide) ?_
        exact ⟨congrArg (fun x => some (Value.int x)) (if_neg (fun h => by first | exact absurd h (by assumption) | exact absurd h.1 (by assumption) | exact absurd h.2 (by assumption) | exact absurd h.2.1 (by assumption) | exact absurd h.2.2 (by assumption) | exact absurd h.2.2.1 (by assumption) | exact absurd h.2.2.2 (by assumption) | exact absurd h.2.2.2.1 (by assumption) | exact absurd h.2.2.2.2 (by assumption))).symm, rfl, rfl⟩

set_option maxHeartbeats 4000000 in
set_option maxRecDepth 100000 in
theorem c5p_ahead (l : Launch) {rw : List zC} {M : zM} {t : Nat → Nat → Nat} (hR : RI t M) (hn : NB (t 35)) (x z w : Int32) : CT l false 4 0 0 yX5_ahead cX5_ahead 4 (some .int) [.ref 34, .int x, .int z, .int w] (zSh ++ rw) M (zF (some (.int (sp_ahead (t 35) x z w))) (zSh ++ rw) M) := by
  refine CT.ofN (by decide) (fun _ _ => Nat.le_of_ble_eq_true rfl) ?_
  have hdd := hn.2.2.2.2.2.2.2.2.2.2.2
  have hkd := hn.2.2.2.2.2.2.2.2.1
  have how := hn.2.2.2.2.2.2.2.2.2.1
  have hcu := hn.2.2.2.2.2.2.2.2.2.2.1
  have hb0 := hn.1
  have hb1 := hn.2.1
  have hb2 := hn.2.2.1
  have hb3 := hn.2.2.2.1
  have hb4 := hn.2.2.2.2.1
  have hb5 := hn.2.2.2.2.2.1
  have hb6 := hn.2.2.2.2.2.2.1
  refine r_aload_n dX5_ahead_0 rfl rfl ?_
  refine r_iload_n dX5_ahead_1 rfl rfl ?_
  refine r_cV1F mv_X5_isPerson ml_X5_93 (c5_isPerson l hR (by omega) _) dX5_ahead_2 (Nat.le_of_ble_eq_true rfl) ⟨by decide, by decide⟩ ⟨by decide, by decide⟩ sh_34 rfl (fun _ h => nomatch h) ?_
  try dsimp only [zrst, List.cons_append, List.nil_append]
  first | refine r_if_eqB (tgt := 51) dX5_ahead_5 (by decide) (fun c1 => ?_) (fun c1 => ?_) | refine r_if_eqN (tgt := 51) dX5_ahead_5 (by decide) (by omega) (fun c1 => ?_) (fun c1 => ?_) | refine r_if_eq (tgt := 51) dX5_ahead_5 (by decide) (fun c1 => ?_) (fun c1 => ?_)
  · have b1 : ¬ (0 ≤ x.toInt ∧ x.toInt < (t 35 0 : Int)) := by omega
    refine r_iconst (v := (-1)) dX5_ahead_51 rfl ?_
    refine r_iret dX5_ahead_52 rfl (by decide) (by decide) ?_
    first
    | (exact ⟨congrArg (fun x => some (Value.int x)) (if_neg (fun h => by first | exact absurd h (by assumption) | exact absurd h.1 (by assumption) | exact absurd h.2 (by assumption) | exact absurd h.2.1 (by assumption) | exact absurd h.2.2 (by assumption) | exact absurd h.2.2.1 (by assumption) | exact absurd h.2.2.2 (by assumption) | exact absurd h.2.2.2.1 (by assumption) | exact absurd h.2.2.2.2 (by assumption))).symm, rfl, rfl⟩)
    | (refine ⟨congrArg (fun x => some (Value.int x)) ?_, rfl, rfl⟩; rw [sp_ahead, if_pos ⟨g1, g2, g3⟩, tn_nI (show p < 2147483648 by omega), tn_nI (show q < 2147483648 by omega), tn_nI (show k < 2147483648 by omega)]; try rfl)
  · have g1 : 0 ≤ x.toInt ∧ x.toInt < (t 35 0 : Int) := by omega
    obtain ⟨p, hp, rfl⟩ := arg_nat (n := t 35 0) (show 0 ≤ x.toInt ∧ x.toInt < ((t 35 0 : Nat) : Int) by omega)
    refine r_iload_n dX5_ahead_8 rfl rfl ?_
    refine r_cS1F ms_X5_isMeasure ml_X5_97 (c5_isMeasure l _) dX5_ahead_9 (Nat.le_of_ble_eq_true rfl) ⟨by decide, by decide⟩ ⟨by decide, by decide⟩ (fun _ h => nomatch h) ?_
    try dsimp only [zrst, List.cons_append, List.nil_append]
    first | refine r_if_eqB (tgt := 51) dX5_ahead_12 (by decide) (fun c2 => ?_) (fun c2 => ?_) | refine r_if_eqN (tgt := 51) dX5_ahead_12 (by decide) (by omega) (fun c2 => ?_) (fun c2 => ?_) | refine r_if_eq (tgt := 51) dX5_ahead_12 (by decide) (fun c2 => ?_) (fun c2 => ?_)
    · have c2 : ¬ ((0 : Int) ≤ z.toInt ∧ z.toInt < (4 : Int)) := c2
      have b2 : ¬ (0 ≤ z.toInt ∧ z.toInt ≤ 3) := by omega
      refine r_iconst (v := (-1)) dX5_ahead_51 rfl ?_
      refine r_iret dX5_ahead_52 rfl (by decide) (by decide) ?_
      first
      | (exact ⟨congrArg (fun x => some (Value.int x)) (if_neg (fun h => by first | exact absurd h (by assumption) | exact absurd h.1 (by assumption) | exact absurd h.2 (by assumption) | exact absurd h.2.1 (by assumption) | exact absurd h.2.2 (by assumption) | exact absurd h.2.2.1 (by assumption) | exact absurd h.2.2.2 (by assumption) | exact absurd h.2.2.2.1 (by assumption) | exact absurd h.2.2.2.2 (by assumption))).symm, rfl, rfl⟩)
      | (refine ⟨congrArg (fun x => some (Value.int x)) ?_, rfl, rfl⟩; rw [sp_ahead, if_pos ⟨g1, g2, g3⟩, tn_nI (show p < 2147483648 by omega), tn_nI (show q < 2147483648 by omega), tn_nI (show k < 2147483648 by omega)]; try rfl)
    · have c2 : ((0 : Int) ≤ z.toInt ∧ z.toInt < (4 : Int)) := c2
      have g2 : 0 ≤ z.toInt ∧ z.toInt ≤ 3 := by omega
      obtain ⟨q, hq1, hq2, rfl⟩ := arg_rng (a := 0) (b := 3) (show ((0 : Nat) : Int) ≤ z.toInt ∧ z.toInt ≤ ((3 : Nat) : Int) by omega)
      refine r_iload_n dX5_ahead_15 rfl rfl ?_
      refine r_i2l dX5_ahead_16 rfl ?_
      refine r_lconst (v := 0) dX5_ahead_17 rfl ?_
      refine r_ldc2 kc_X5_87 dX5_ahead_18 ?_
      refine r_cS3F ms_X5_in ml_X5_41 (c5_in l _ _ _) dX5_ahead_21 (Nat.le_of_ble_eq_true rfl) ⟨by decide, by decide⟩ ⟨by decide, by decide⟩ (fun _ h => nomatch h) ?_
      try dsimp only [zrst, List.cons_append, List.nil_append]
      first | refine r_if_eqB (tgt := 51) dX5_ahead_24 (by decide) (fun c3 => ?_) (fun c3 => ?_) | refine r_if_eqN (tgt := 51) dX5_ahead_24 (by decide) (by omega) (fun c3 => ?_) (fun c3 => ?_) | refine r_if_eq (tgt := 51) dX5_ahead_24 (by decide) (fun c3 => ?_) (fun c3 => ?_)
      · rw [i64_of32] at c3
        have c3 : ¬ ((0 : Int) ≤ w.toInt ∧ w.toInt ≤ (99 : Int)) := c3
        have b3 : ¬ (0 ≤ w.toInt ∧ w.toInt ≤ 99) := by omega
        refine r_iconst (v := (-1)) dX5_ahead_51 rfl ?_
        refine r_iret dX5_ahead_52 rfl (by decide) (by decide) ?_
        first
        | (exact ⟨congrArg (fun x => some (Value.int x)) (if_neg (fun h => by first | exact absurd h (by assumption) | exact absurd h.1 (by assumption) | exact absurd h.2 (by assumption) | exact absurd h.2.1 (by assumption) | exact absurd h.2.2 (by assumption) | exact absurd h.2.2.1 (by assumption) | exact absurd h.2.2.2 (by assumption) | exact absurd h.2.2.2.1 (by assumption) | exact absurd h.2.2.2.2 (by assumption))).symm, rfl, rfl⟩)
        | (refine ⟨congrArg (fun x => some (Value.int x)) ?_, rfl, rfl⟩; rw [sp_ahead, if_pos ⟨g1, g2, g3⟩, tn_nI (show p < 2147483648 by omega), tn_nI (show q < 2147483648 by omega), tn_nI (show k < 2147483648 by omega)]; try rfl)
      · rw [i64_of32] at c3
        have c3 : ((0 : Int) ≤ w.toInt ∧ w.toInt ≤ (99 : Int)) := c3
        have g3 : 0 ≤ w.toInt ∧ w.toInt ≤ 99 := by omega
        obtain ⟨k, hk1, hk2, rfl⟩ := arg_rng (a := 0) (b := 99) (show ((0 : Nat) : Int) ≤ w.toInt ∧ w.toInt ≤ ((99 : Nat) : Int) by omega)
        refine r_aload_n dX5_ahead_27 rfl rfl ?_
        refine r_iload_n dX5_ahead_28 rfl rfl ?_
        refine r_iload_n dX5_ahead_29 rfl rfl ?_
        refine r_aload_n dX5_ahead_30 rfl rfl ?_
        refine r_getR fl_X5_7 dX5_ahead_31 sh_34 rfl ?_
        refine r_iconst (v := nI 3) dX5_ahead_34 rfl ?_
        refine r_ialdN dX5_ahead_35 sh_35 (by omega) (by decide) (hR.a35 _) ?_
        refine r_iload_n dX5_ahead_36 rfl rfl ?_
        first | refine r_iaddN dX5_ahead_37 ?_ | refine r_iadd dX5_ahead_37 ?_
        refine r_aload_n dX5_ahead_38 rfl rfl ?_
        refine r_getR fl_X5_7 dX5_ahead_39 sh_34 rfl ?_
        refine r_bipush (v := nI 6) dX5_ahead_42 rfl ?_
        refine r_ialdN dX5_ahead_44 sh_35 (by omega) (by decide) (hR.a35 _) ?_
        refine r_cV4F mv_X5_measure ml_X5_70 (c5_measure l hR hn (by omega) (by omega) (by omega) (by omega) (by omega)) dX5_ahead_45 (Nat.le_of_ble_eq_true rfl) ⟨by decide, by decide⟩ ⟨by decide, by decide⟩ sh_34 rfl (fun _ h => nomatch h) ?_
        try dsimp only [zrst, List.cons_append, List.nil_append]
        refine r_goto (tgt := 52) dX5_ahead_48 (by decide) ?_
        refine r_iret dX5_ahead_52 rfl (by decide) (by decide) ?_
        first
        | (exact ⟨congrArg (fun x => some (Value.int x)) (if_neg (fun h => by first | exact absurd h (by assumption) | exact absurd h.1 (by assumption) | exact absurd h.2 (by assumption) | exact absurd h.2.1 (by assumption) | exact absurd h.2.2 (by assumption) | exact absurd h.2.2.1 (by assumption) | exact absurd h.2.2.2 (by assumption) | exact absurd h.2.2.2.1 (by assumption) | exact absurd h.2.2.2.2 (by assumption))).symm, rfl, rfl⟩)
        | (refine ⟨congrArg (fun x => some (Value.int x)) ?_, rfl, rfl⟩; rw [sp_ahead, if_pos ⟨g1, g2, g3⟩, tn_nI (show p < 2147483648 by omega), tn_nI (show q < 2147483648 by omega), tn_nI (show k < 2147483648 by omega)]; try rfl)

