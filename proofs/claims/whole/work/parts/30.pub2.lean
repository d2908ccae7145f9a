set_option maxHeartbeats 4000000 in
set_option maxRecDepth 100000 in
theorem c4_showsAhead (l : Launch) {rw : List zC} {M : zM} {n u : Nat → Nat} {kn : Nat} (hS : SI 1 n u kn M) (hn : NB n) (x z w : Int32) : CT l false 5 0 0 yX4_showsAhead cX4_showsAhead 4 (some .int) [.ref 0, .int x, .int z, .int w] (zSh ++ rw) M (zF (some (.int (sp_showsAhead n x z w))) (zSh ++ rw) M) := by
  refine CT.ofN (by decide) (fun _ _ => Nat.le_of_ble_eq_true rfl) ?_
  have hdd := hn.2.2.2.2.2.2.2.2.2.2.2
  have hkd := hn.2.2.2.2.2.2.2.2.1
  have how := hn.2.2.2.2.2.2.2.2.2.1
  have hcu := hn.2.2.2.2.2.2.2.2.2.2.1
  have hb0 := hn.1
  have hb1 := hn.2.1
  have hb2 := hn.2.2.1
  have hb3 := hn.2.2.2.1
  have hb4 := hn.2.2.2.2.1
  have hb5 := hn.2.2.2.2.2.1
  have hb6 := hn.2.2.2.2.2.2.1
  refine r_aload_n dX4_showsAhead_0 rfl rfl ?_
  refine r_getR fl_X4_10 dX4_showsAhead_1 sh_0 rfl ?_
  refine r_iload_n dX4_showsAhead_4 rfl rfl ?_
  refine r_cV1F mv_X3_hasPerson ml_X4_53 (c3_hasPerson l hS (by omega) _) dX4_showsAhead_5 (Nat.le_of_ble_eq_true rfl) ⟨by decide, by decide⟩ ⟨by decide, by decide⟩ sh_1 rfl (fun _ h => nomatch h) ?_
  try dsimp only [zrst, List.cons_append, List.nil_append]
  first | refine r_if_eqB (tgt := 32) dX4_showsAhead_8 (by decide) (fun c1 => ?_) (fun c1 => ?_) | refine r_if_eqN (tgt := 32) dX4_showsAhead_8 (by decide) (by omega) (fun c1 => ?_) (fun c1 => ?_) | refine r_if_eq (tgt := 32) dX4_showsAhead_8 (by decide) (fun c1 => ?_) (fun c1 => ?_)
  · have b1 : ¬ (0 ≤ x.toInt ∧ x.toInt < (n 0 : Int)) := by omega
    refine r_iconst (v := (-1)) dX4_showsAhead_32 rfl ?_
    refine r_iret dX4_showsAhead_33 rfl (by decide) (by decide) ?_
    exact ⟨congrArg (fun x => some (Value.int x)) (if_neg (fun h => by first | exact absurd h (by assumption) | exact absurd h.1 (by assumption) | exact absurd h.2 (by assumption) | exact absurd h.2.1 (by assumption) | exact absurd h.2.2 (by assumption) | exact absurd h.2.2.1 (by assumption) | exact absurd h.2.2.2 (by assumption) | exact absurd h.2.2.2.1 (by assumption) | exact absurd h.2.2.2.2 (by assumption))).symm, rfl, rfl⟩
  · have g1 : 0 ≤ x.toInt ∧ x.toInt < (n 0 : Int) := by omega
    obtain ⟨p, hp, rfl⟩ := arg_nat (n := n 0) (show 0 ≤ x.toInt ∧ x.toInt < ((n 0 : Nat) : Int) by omega)
    refine r_aload_n dX4_showsAhead_11 rfl rfl ?_
    refine r_getR fl_X4_10 dX4_showsAhead_12 sh_0 rfl ?_
    refine r_iload_n dX4_showsAhead_15 rfl rfl ?_
    refine r_cV1F mv_X3_hasSuit ml_X4_71 (c3_hasSuit l hS (by omega) _) dX4_showsAhead_16 (Nat.le_of_ble_eq_true rfl) ⟨by decide, by decide⟩ ⟨by decide, by decide⟩ sh_1 rfl (fun _ h => nomatch h) ?_
    try dsimp only [zrst, List.cons_append, List.nil_append]
    first | refine r_if_eqB (tgt := 32) dX4_showsAhead_19 (by decide) (fun c2 => ?_) (fun c2 => ?_) | refine r_if_eqN (tgt := 32) dX4_showsAhead_19 (by decide) (by omega) (fun c2 => ?_) (fun c2 => ?_) | refine r_if_eq (tgt := 32) dX4_showsAhead_19 (by decide) (fun c2 => ?_) (fun c2 => ?_)
    · have b2 : ¬ (0 ≤ z.toInt ∧ z.toInt < (n 1 : Int)) := by omega
      refine r_iconst (v := (-1)) dX4_showsAhead_32 rfl ?_
      refine r_iret dX4_showsAhead_33 rfl (by decide) (by decide) ?_
      exact ⟨congrArg (fun x => some (Value.int x)) (if_neg (fun h => by first | exact absurd h (by assumption) | exact absurd h.1 (by assumption) | exact absurd h.2 (by assumption) | exact absurd h.2.1 (by assumption) | exact absurd h.2.2 (by assumption) | exact absurd h.2.2.1 (by assumption) | exact absurd h.2.2.2 (by assumption) | exact absurd h.2.2.2.1 (by assumption) | exact absurd h.2.2.2.2 (by assumption))).symm, rfl, rfl⟩
    · have g2 : 0 ≤ z.toInt ∧ z.toInt < (n 1 : Int) := by omega
      obtain ⟨q, hq, rfl⟩ := arg_nat (n := n 1) (show 0 ≤ z.toInt ∧ z.toInt < ((n 1 : Nat) : Int) by omega)
      refine r_iload_n dX4_showsAhead_22 rfl rfl ?_
      refine r_iconst (v := nI 0) dX4_showsAhead_23 rfl ?_
      refine r_bipush (v := nI 99) dX4_showsAhead_24 rfl ?_
      refine r_cS3F ms_X4_within ml_X4_41 (c4_within l _ _ _) dX4_showsAhead_26 (Nat.le_of_ble_eq_true rfl) ⟨by decide, by decide⟩ ⟨by decide, by decide⟩ (fun _ h => nomatch h) ?_
      try dsimp only [zrst, List.cons_append, List.nil_append]
      first | refine r_if_neB (tgt := 34) dX4_showsAhead_29 (by decide) (fun c3 => ?_) (fun c3 => ?_) | refine r_if_neN (tgt := 34) dX4_showsAhead_29 (by decide) (by omega) (fun c3 => ?_) (fun c3 => ?_) | refine r_if_ne (tgt := 34) dX4_showsAhead_29 (by decide) (fun c3 => ?_) (fun c3 => ?_)
      · have c3 : ((0 : Int) ≤ w.toInt ∧ w.toInt ≤ (99 : Int)) := c3
        have g3 : 0 ≤ w.toInt ∧ w.toInt ≤ 99 := by omega
        obtain ⟨k, hk1, hk2, rfl⟩ := arg_rng (a := 0) (b := 99) (show ((0 : Nat) : Int) ≤ w.toInt ∧ w.toInt ≤ ((99 : Nat) : Int) by omega)
        refine r_aload_n dX4_showsAhead_34 rfl rfl ?_
        refine r_getR fl_X4_10 dX4_showsAhead_35 sh_0 rfl ?_
        refine r_iload_n dX4_showsAhead_38 rfl rfl ?_
        refine r_iload_n dX4_showsAhead_39 rfl rfl ?_
        refine r_iload_n dX4_showsAhead_40 rfl rfl ?_
        refine r_cV3F mv_X3_showsBehind ml_X4_111 (c3_showsBehind l hS hn (by omega) (by omega) (by omega)) dX4_showsAhead_41 (Nat.le_of_ble_eq_true rfl) ⟨by decide, by decide⟩ ⟨by decide, by decide⟩ sh_1 rfl (fun _ h => nomatch h) ?_
        try dsimp only [zrst, List.cons_append, List.nil_append]
        refine r_iret dX4_showsAhead_44 rfl (by decide) (by decide) ?_
        refine ⟨congrArg (fun x => some (Value.int x)) ?_, rfl, rfl⟩
        rw [sp_showsAhead, if_pos ⟨g1, g2, g3⟩, tn_nI (show p < 2147483648 by omega), tn_nI (show q < 2147483648 by omega), tn_nI (show k < 2147483648 by omega)]
        try rfl
      · have c3 : ¬ ((0 : Int) ≤ w.toInt ∧ w.toInt ≤ (99 : Int)) := c3
        have b3 : ¬ (0 ≤ w.toInt ∧ w.toInt ≤ 99) := by omega
        refine r_iconst (v := (-1)) dX4_showsAhead_32 rfl ?_
        refine r_iret dX4_showsAhead_33 rfl (by decide) (by decide) ?_
        exact ⟨congrArg (fun x => some (Value.int x)) (if_neg (fun h => by first | exact absurd h (by assumption) | exact absurd h.1 (by assumption) | exact absurd h.2 (by assumption) | exact absurd h.2.1 (by assumption) | exact absurd h.2.2 (by assumption) | exact absurd h.2.2.1 (by assumption) | exact absurd h.2.2.2 (by assumption) | exact absurd h.2.2.2.1 (by assumption) | exact absurd h.2.2.2.2 (by assumption))).symm, rfl, rfl⟩

set_option maxHeartbeats 4000000 in
set_option maxRecDepth 100000 in
theorem c5p_showsAhead (l : Launch) {rw : List zC} {M : zM} {t : Nat → Nat → Nat} (hR : RI t M) (hn : NB (t 35)) (x z w : Int32) : CT l false 4 0 0 yX5_showsAhead cX5_showsAhead 4 (some .int) [.ref 34, .int x, .int z, .int w] (zSh ++ rw) M (zF (some (.int (sp_showsAhead (t 35) x z w))) (zSh ++ rw) M) := by
  refine CT.ofN (by decide) (fun _ _ => Nat.le_of_ble_eq_true rfl) ?_
  have hdd := hn.2.2.2.2.2.2.2.2.2.2.2
  have hkd := hn.2.2.2.2.2.2.2.2.1
  have how := hn.2.2.2.2.2.2.2.2.2.1
  have hcu := hn.2.2.2.2.2.2.2.2.2.2.1
  have hb0 := hn.1
  have hb1 := hn.2.1
  have hb2 := hn.2.2.1
  have hb3 := hn.2.2.2.1
  have hb4 := hn.2.2.2.2.1
  have hb5 := hn.2.2.2.2.2.1
  have hb6 := hn.2.2.2.2.2.2.1
  refine r_aload_n dX5_showsAhead_0 rfl rfl ?_
  refine r_iload_n dX5_showsAhead_1 rfl rfl ?_
  refine r_cV1F mv_X5_isPerson ml_X5_93 (c5_isPerson l hR (by omega) _) dX5_showsAhead_2 (Nat.le_of_ble_eq_true rfl) ⟨by decide, by decide⟩ ⟨by decide, by decide⟩ sh_34 rfl (fun _ h => nomatch h) ?_
  try dsimp only [zrst, List.cons_append, List.nil_append]
  first | refine r_if_eqB (tgt := 45) dX5_showsAhead_5 (by decide) (fun c1 => ?_) (fun c1 => ?_) | refine r_if_eqN (tgt := 45) dX5_showsAhead_5 (by decide) (by omega) (fun c1 => ?_) (fun c1 => ?_) | refine r_if_eq (tgt := 45) dX5_showsAhead_5 (by decide) (fun c1 => ?_) (fun c1 => ?_)
  · have b1 : ¬ (0 ≤ x.toInt ∧ x.toInt < (t 35 0 : Int)) := by omega
    refine r_iconst (v := (-1)) dX5_showsAhead_45 rfl ?_
    refine r_iret dX5_showsAhead_46 rfl (by decide) (by decide) ?_
    first
    | (exact ⟨congrArg (fun x => some (Value.int x)) (if_neg (fun h => by first | exact absurd h (by assumption) | exact absurd h.1 (by assumption) | exact absurd h.2 (by assumption) | exact absurd h.2.1 (by assumption) | exact absurd h.2.2 (by assumption) | exact absurd h.2.2.1 (by assumption) | exact absurd h.2.2.2 (by assumption) | exact absurd h.2.2.2.1 (by assumption) | exact absurd h.2.2.2.2 (by assumption))).symm, rfl, rfl⟩)
    | (refine ⟨congrArg (fun x => some (Value.int x)) ?_, rfl, rfl⟩; rw [sp_showsAhead, if_pos ⟨g1, g2, g3⟩, tn_nI (show p < 2147483648 by omega), tn_nI (show q < 2147483648 by omega), tn_nI (show k < 2147483648 by omega)]; try rfl)
  · have g1 : 0 ≤ x.toInt ∧ x.toInt < (t 35 0 : Int) := by omega
    obtain ⟨p, hp, rfl⟩ := arg_nat (n := t 35 0) (show 0 ≤ x.toInt ∧ x.toInt < ((t 35 0 : Nat) : Int) by omega)
    refine r_aload_n dX5_showsAhead_8 rfl rfl ?_
    refine r_iload_n dX5_showsAhead_9 rfl rfl ?_
    refine r_cV1F mv_X5_isSuit ml_X5_102 (c5_isSuit l hR (by omega) _) dX5_showsAhead_10 (Nat.le_of_ble_eq_true rfl) ⟨by decide, by decide⟩ ⟨by decide, by decide⟩ sh_34 rfl (fun _ h => nomatch h) ?_
    try dsimp only [zrst, List.cons_append, List.nil_append]
    first | refine r_if_eqB (tgt := 45) dX5_showsAhead_13 (by decide) (fun c2 => ?_) (fun c2 => ?_) | refine r_if_eqN (tgt := 45) dX5_showsAhead_13 (by decide) (by omega) (fun c2 => ?_) (fun c2 => ?_) | refine r_if_eq (tgt := 45) dX5_showsAhead_13 (by decide) (fun c2 => ?_) (fun c2 => ?_)
    · have b2 : ¬ (0 ≤ z.toInt ∧ z.toInt < (t 35 1 : Int)) := by omega
      refine r_iconst (v := (-1)) dX5_showsAhead_45 rfl ?_
      refine r_iret dX5_showsAhead_46 rfl (by decide) (by decide) ?_
      first
      | (exact ⟨congrArg (fun x => some (Value.int x)) (if_neg (fun h => by first | exact absurd h (by assumption) | exact absurd h.1 (by assumption) | exact absurd h.2 (by assumption) | exact absurd h.2.1 (by assumption) | exact absurd h.2.2 (by assumption) | exact absurd h.2.2.1 (by assumption) | exact absurd h.2.2.2 (by assumption) | exact absurd h.2.2.2.1 (by assumption) | exact absurd h.2.2.2.2 (by assumption))).symm, rfl, rfl⟩)
      | (refine ⟨congrArg (fun x => some (Value.int x)) ?_, rfl, rfl⟩; rw [sp_showsAhead, if_pos ⟨g1, g2, g3⟩, tn_nI (show p < 2147483648 by omega), tn_nI (show q < 2147483648 by omega), tn_nI (show k < 2147483648 by omega)]; try rfl)
    · have g2 : 0 ≤ z.toInt ∧ z.toInt < (t 35 1 : Int) := by omega
      obtain ⟨q, hq, rfl⟩ := arg_nat (n := t 35 1) (show 0 ≤ z.toInt ∧ z.toInt < ((t 35 1 : Nat) : Int) by omega)
      refine r_iload_n dX5_showsAhead_16 rfl rfl ?_
      refine r_i2l dX5_showsAhead_17 rfl ?_
      refine r_lconst (v := 0) dX5_showsAhead_18 rfl ?_
      refine r_ldc2 kc_X5_87 dX5_showsAhead_19 ?_
      refine r_cS3F ms_X5_in ml_X5_41 (c5_in l _ _ _) dX5_showsAhead_22 (Nat.le_of_ble_eq_true rfl) ⟨by decide, by decide⟩ ⟨by decide, by decide⟩ (fun _ h => nomatch h) ?_
      try dsimp only [zrst, List.cons_append, List.nil_append]
      first | refine r_if_eqB (tgt := 45) dX5_showsAhead_25 (by decide) (fun c3 => ?_) (fun c3 => ?_) | refine r_if_eqN (tgt := 45) dX5_showsAhead_25 (by decide) (by omega) (fun c3 => ?_) (fun c3 => ?_) | refine r_if_eq (tgt := 45) dX5_showsAhead_25 (by decide) (fun c3 => ?_) (fun c3 => ?_)
      · rw [i64_of32] at c3
        have c3 : ¬ ((0 : Int) ≤ w.toInt ∧ w.toInt ≤ (99 : Int)) := c3
        have b3 : ¬ (0 ≤ w.toInt ∧ w.toInt ≤ 99) := by omega
        refine r_iconst (v := (-1)) dX5_showsAhead_45 rfl ?_
        refine r_iret dX5_showsAhead_46 rfl (by decide) (by decide) ?_
        first
        | (exact ⟨congrArg (fun x => some (Value.int x)) (if_neg (fun h => by first | exact absurd h (by assumption) | exact absurd h.1 (by assumption) | exact absurd h.2 (by assumption) | exact absurd h.2.1 (by assumption) | exact absurd h.2.2 (by assumption) | exact absurd h.2.2.1 (by assumption) | exact absurd h.2.2.2 (by assumption) | exact absurd h.2.2.2.1 (by assumption) | exact absurd h.2.2.2.2 (by assumption))).symm, rfl, rfl⟩)
        | (refine ⟨congrArg (fun x => some (Value.int x)) ?_, rfl, rfl⟩; rw [sp_showsAhead, if_pos ⟨g1, g2, g3⟩, tn_nI (show p < 2147483648 by omega), tn_nI (show q < 2147483648 by omega), tn_nI (show k < 2147483648 by omega)]; try rfl)
      · rw [i64_of32] at c3
        have c3 : ((0 : Int) ≤ w.toInt ∧ w.toInt ≤ (99 : Int)) := c3
        have g3 : 0 ≤ w.toInt ∧ w.toInt ≤ 99 := by omega
        obtain ⟨k, hk1, hk2, rfl⟩ := arg_rng (a := 0) (b := 99) (show ((0 : Nat) : Int) ≤ w.toInt ∧ w.toInt ≤ ((99 : Nat) : Int) by omega)
        refine r_aload_n dX5_showsAhead_28 rfl rfl ?_
        refine r_iload_n dX5_showsAhead_29 rfl rfl ?_
        refine r_iload_n dX5_showsAhead_30 rfl rfl ?_
        refine r_aload_n dX5_showsAhead_31 rfl rfl ?_
        refine r_getR fl_X5_7 dX5_showsAhead_32 sh_34 rfl ?_
        refine r_iconst (v := nI 3) dX5_showsAhead_35 rfl ?_
        refine r_ialdN dX5_showsAhead_36 sh_35 (by omega) (by decide) (hR.a35 _) ?_
        refine r_iload_n dX5_showsAhead_37 rfl rfl ?_
        first | refine r_iaddN dX5_showsAhead_38 ?_ | refine r_iadd dX5_showsAhead_38 ?_
        refine r_cV3F mv_X5_showsOn ml_X5_118 (c5_showsOn l hR hn (by omega) (by omega) (by omega) (by omega)) dX5_showsAhead_39 (Nat.le_of_ble_eq_true rfl) ⟨by decide, by decide⟩ ⟨by decide, by decide⟩ sh_34 rfl (fun _ h => nomatch h) ?_
        try dsimp only [zrst, List.cons_append, List.nil_append]
        refine r_goto (tgt := 46) dX5_showsAhead_42 (by decide) ?_
        refine r_iret dX5_showsAhead_46 rfl (by decide) (by decide) ?_
        first
        | (exact ⟨congrArg (fun x => some (Value.int x)) (if_neg (fun h => by first | exact absurd h (by assumption) | exact absurd h.1 (by assumption) | exact absurd h.2 (by assumption) | exact absurd h.2.1 (by assumption) | exact absurd h.2.2 (by assumption) | exact absurd h.2.2.1 (by assumption) | exact absurd h.2.2.2 (by assumption) | exact absurd h.2.2.2.1 (by assumption) | exact absurd h.2.2.2.2 (by assumption))).symm, rfl, rfl⟩)
        | (refine ⟨congrArg (fun x => some (Value.int x)) ?_, rfl, rfl⟩; rw [sp_showsAhead, if_pos ⟨g1, g2, g3⟩, tn_nI (show p < 2147483648 by omega), tn_nI (show q < 2147483648 by omega), tn_nI (show k < 2147483648 by omega)]; try rfl)

set_option maxHeartbeats 4000000 in
set_option maxRecDepth 100000 in
theorem c4_deed (l : Launch) {rw : List zC} {M : zM} {n u : Nat → Nat} {kn : Nat} (hS : SI 1 n u kn M) (hn : NB n) (x w : Int32) : CT l false 3 0 0 yX4_deed cX4_deed 3 (some .int) [.ref 0, .int x, .int w] (zSh ++ rw) M (zF (some (.int (sp_deed n x w))) (zSh ++ rw) M) := by
  refine CT.ofN (by decide) (fun _ _ => Nat.le_of_ble_eq_true rfl) ?_
  have hdd := hn.2.2.2.2.2.2.2.2.2.2.2
  have hkd := hn.2.2.2.2.2.2.2.2.1
  have how := hn.2.2.2.2.2.2.2.2.2.1
  have hcu := hn.2.2.2.2.2.2.2.2.2.2.1
  have hb0 := hn.1
  have hb1 := hn.2.1
  have hb2 := hn.2.2.1
  have hb3 := hn.2.2.2.1
  have hb4 := hn.2.2.2.2.1
  have hb5 := hn.2.2.2.2.2.1
  have hb6 := hn.2.2.2.2.2.2.1
  refine r_aload_n dX4_deed_0 rfl rfl ?_
  refine r_getR fl_X4_10 dX4_deed_1 sh_0 rfl ?_
  refine r_iload_n dX4_deed_4 rfl rfl ?_
  refine r_cV1F mv_X3_hasDeed ml_X4_87 (c3_hasDeed l hS (by omega) _) dX4_deed_5 (Nat.le_of_ble_eq_true rfl) ⟨by decide, by decide⟩ ⟨by decide, by decide⟩ sh_1 rfl (fun _ h => nomatch h) ?_
  try dsimp only [zrst, List.cons_append, List.nil_append]
  first | refine r_if_neB (tgt := 13) dX4_deed_8 (by decide) (fun c1 => ?_) (fun c1 => ?_) | refine r_if_neN (tgt := 13) dX4_deed_8 (by decide) (by omega) (fun c1 => ?_) (fun c1 => ?_) | refine r_if_ne (tgt := 13) dX4_deed_8 (by decide) (fun c1 => ?_) (fun c1 => ?_)
  · have g1 : 0 ≤ x.toInt ∧ x.toInt < (n 2 : Int) := by omega
    obtain ⟨p, hp, rfl⟩ := arg_nat (n := n 2) (show 0 ≤ x.toInt ∧ x.toInt < ((n 2 : Nat) : Int) by omega)
    have hd9 := hdd p hp
    refine r_iload_n dX4_deed_13 rfl rfl ?_
    by_cases hw9 : 0 ≤ w.toInt ∧ w.toInt ≤ 5
    · have g2 : 0 ≤ w.toInt ∧ w.toInt ≤ 5 := hw9
      obtain ⟨k, hk1, hk2, rfl⟩ := arg_rng (a := 0) (b := 5) hw9
      rcases (show k = 0 ∨ k = 1 ∨ k = 2 ∨ k = 3 ∨ k = 4 ∨ k = 5 by omega) with e | e | e | e | e | e
      · refine r_tabIn (off := 38) (tgt := 52) dX4_deed_14 (by rw [e]; decide) (by rw [e]; decide) (by rw [e]; decide) (by decide) ?_
        refine r_aload_n dX4_deed_52 rfl rfl ?_
        refine r_getR fl_X4_10 dX4_deed_53 sh_0 rfl ?_
        refine r_getR fl_X4_90 dX4_deed_56 sh_1 rfl ?_
        refine r_iload_n dX4_deed_59 rfl rfl ?_
        refine r_ialdN dX4_deed_60 sh_5 (by omega) (by decide) (hS.a5 (by omega)) ?_
        refine r_iret dX4_deed_61 rfl (by decide) (by decide) ?_
        refine ⟨congrArg (fun x => some (Value.int x)) ?_, rfl, rfl⟩
        rw [sp_deed, if_pos ⟨g1, g2⟩, tn_nI (show p < 2147483648 by omega), tn_nI (show k < 2147483648 by omega), bo_deed]
        (repeat' split) <;> first | (exfalso; omega) | rfl | (subst e; rfl) | exact (zb_f1 (by assumption)).symm | exact (zb_t1 (by assumption)).symm
      · refine r_tabIn (off := 48) (tgt := 62) dX4_deed_14 (by rw [e]; decide) (by rw [e]; decide) (by rw [e]; decide) (by decide) ?_
        refine r_aload_n dX4_deed_62 rfl rfl ?_
        refine r_getR fl_X4_10 dX4_deed_63 sh_0 rfl ?_
        refine r_getR fl_X4_93 dX4_deed_66 sh_1 rfl ?_
        refine r_iload_n dX4_deed_69 rfl rfl ?_
        refine r_ialdN dX4_deed_70 sh_6 (by omega) (by decide) (hS.a6 (by omega)) ?_
        refine r_iret dX4_deed_71 rfl (by decide) (by decide) ?_
        refine ⟨congrArg (fun x => some (Value.int x)) ?_, rfl, rfl⟩
        rw [sp_deed, if_pos ⟨g1, g2⟩, tn_nI (show p < 2147483648 by omega), tn_nI (show k < 2147483648 by omega), bo_deed]
        (repeat' split) <;> first | (exfalso; omega) | rfl | (subst e; rfl) | exact (zb_f1 (by assumption)).symm | exact (zb_t1 (by assumption)).symm
      · refine r_tabIn (off := 58) (tgt := 72) dX4_deed_14 (by rw [e]; decide) (by rw [e]; decide) (by rw [e]; decide) (by decide) ?_
        refine r_aload_n dX4_deed_72 rfl rfl ?_
        refine r_getR fl_X4_10 dX4_deed_73 sh_0 rfl ?_
        refine r_getR fl_X4_96 dX4_deed_76 sh_1 rfl ?_
        refine r_iload_n dX4_deed_79 rfl rfl ?_
        refine r_ialdN dX4_deed_80 sh_7 (by omega) (by decide) (hS.a7 (by omega)) ?_
        refine r_iret dX4_deed_81 rfl (by decide) (by decide) ?_
        refine ⟨congrArg (fun x => some (Value.int x)) ?_, rfl, rfl⟩
        rw [sp_deed, if_pos ⟨g1, g2⟩, tn_nI (show p < 2147483648 by omega), tn_nI (show k < 2147483648 by omega), bo_deed]
        (repeat' split) <;> first | (exfalso; omega) | rfl | (subst e; rfl) | exact (zb_f1 (by assumption)).symm | exact (zb_t1 (by assumption)).symm
      · refine r_tabIn (off := 68) (tgt := 82) dX4_deed_14 (by rw [e]; decide) (by rw [e]; decide) (by rw [e]; decide) (by decide) ?_
        refine r_aload_n dX4_deed_82 rfl rfl ?_
        refine r_getR fl_X4_10 dX4_deed_83 sh_0 rfl ?_
        refine r_getR fl_X4_99 dX4_deed_86 sh_1 rfl ?_
        refine r_iload_n dX4_deed_89 rfl rfl ?_
        refine r_ialdN dX4_deed_90 sh_8 (by omega) (by decide) (hS.a8 (by omega)) ?_
        refine r_iret dX4_deed_91 rfl (by decide) (by decide) ?_
        refine ⟨congrArg (fun x => some (Value.int x)) ?_, rfl, rfl⟩
        rw [sp_deed, if_pos ⟨g1, g2⟩, tn_nI (show p < 2147483648 by omega), tn_nI (show k < 2147483648 by omega), bo_deed]
        (repeat' split) <;> first | (exfalso; omega) | rfl | (subst e; rfl) | exact (zb_f1 (by assumption)).symm | exact (zb_t1 (by assumption)).symm
      · refine r_tabIn (off := 78) (tgt := 92) dX4_deed_14 (by rw [e]; decide) (by rw [e]; decide) (by rw [e]; decide) (by decide) ?_
        refine r_aload_n dX4_deed_92 rfl rfl ?_
        refine r_getR fl_X4_10 dX4_deed_93 sh_0 rfl ?_
        refine r_iload_n dX4_deed_96 rfl rfl ?_
        refine r_cV1F mv_X3_isMended ml_X4_102 (c3_isMended l hS (by omega) hb6) dX4_deed_97 (Nat.le_of_ble_eq_true rfl) ⟨by decide, by decide⟩ ⟨by decide, by decide⟩ sh_1 rfl (fun _ h => nomatch h) ?_
        try dsimp only [zrst, List.cons_append, List.nil_append]
        first | refine r_if_eqB (tgt := 107) dX4_deed_100 (by decide) (fun c2 => ?_) (fun c2 => ?_) | refine r_if_eqN (tgt := 107) dX4_deed_100 (by decide) (by omega) (fun c2 => ?_) (fun c2 => ?_) | refine r_if_eq (tgt := 107) dX4_deed_100 (by decide) (fun c2 => ?_) (fun c2 => ?_)
        · refine r_iconst (v := nI 0) dX4_deed_107 rfl ?_
          refine r_iret dX4_deed_108 rfl (by decide) (by decide) ?_
          refine ⟨congrArg (fun x => some (Value.int x)) ?_, rfl, rfl⟩
          rw [sp_deed, if_pos ⟨g1, g2⟩, tn_nI (show p < 2147483648 by omega), tn_nI (show k < 2147483648 by omega), bo_deed]
          (repeat' split) <;> first | (exfalso; omega) | rfl | (subst e; rfl) | exact (zb_f1 (by assumption)).symm | exact (zb_t1 (by assumption)).symm
        · refine r_iconst (v := nI 1) dX4_deed_103 rfl ?_
          refine r_goto (tgt := 108) dX4_deed_104 (by decide) ?_
          refine r_iret dX4_deed_108 rfl (by decide) (by decide) ?_
          refine ⟨congrArg (fun x => some (Value.int x)) ?_, rfl, rfl⟩
          rw [sp_deed, if_pos ⟨g1, g2⟩, tn_nI (show p < 2147483648 by omega), tn_nI (show k < 2147483648 by omega), bo_deed]
          (repeat' split) <;> first | (exfalso; omega) | rfl | (subst e; rfl) | exact (zb_f1 (by assumption)).symm | exact (zb_t1 (by assumption)).symm
      · refine r_tabIn (off := 95) (tgt := 109) dX4_deed_14 (by rw [e]; decide) (by rw [e]; decide) (by rw [e]; decide) (by decide) ?_
        refine r_aload_n dX4_deed_109 rfl rfl ?_
        refine r_getR fl_X4_10 dX4_deed_110 sh_0 rfl ?_
        refine r_iload_n dX4_deed_113 rfl rfl ?_
        refine r_cV1F mv_X3_leftNow ml_X4_105 (c3_leftNow l hS hn (by omega)) dX4_deed_114 (Nat.le_of_ble_eq_true rfl) ⟨by decide, by decide⟩ ⟨by decide, by decide⟩ sh_1 rfl (fun _ h => nomatch h) ?_
        try dsimp only [zrst, List.cons_append, List.nil_append]
        refine r_iret dX4_deed_117 rfl (by decide) (by decide) ?_
        refine ⟨congrArg (fun x => some (Value.int x)) ?_, rfl, rfl⟩
        rw [sp_deed, if_pos ⟨g1, g2⟩, tn_nI (show p < 2147483648 by omega), tn_nI (show k < 2147483648 by omega), bo_deed]
        (repeat' split) <;> first | (exfalso; omega) | rfl | (subst e; rfl) | exact (zb_f1 (by assumption)).symm | exact (zb_t1 (by assumption)).symm
    · refine r_tabOut (tgt := 118) dX4_deed_14 (by omega) (by decide) ?_
      refine r_iconst (v := (-1)) dX4_deed_118 rfl ?_
      refine r_iret dX4_deed_119 rfl (by decide) (by decide) ?_
      exact ⟨congrArg (fun x => some (Value.int x)) (if_neg (fun h => by first | exact absurd h (by assumption) | exact absurd h.1 (by assumption) | exact absurd h.2 (by assumption) | exact absurd h.2.1 (by assumption) | exact absurd h.2.2 (by assumption) | exact absurd h.2.2.1 (by assumption) | exact absurd h.2.2.2 (by assumption) | exact absurd h.2.2.2.1 (by assumption) | exact absurd h.2.2.2.2 (by assumption))).symm, rfl, rfl⟩
  · have b1 : ¬ (0 ≤ x.toInt ∧ x.toInt < (n 2 : Int)) := by omega
    refine r_iconst (v := (-1)) dX4_deed_11 rfl ?_
    refine r_iret dX4_deed_12 rfl (by decide) (by decide) ?_
    exact ⟨congrArg (fun x => some (Value.int x)) (if_neg (fun h => by first | exact absurd h (by assumption) | exact absurd h.1 (by assumption) | exact absurd h.2 (by assumption) | exact absurd h.2.1 (by assumption) | exact absurd h.2.2 (by assumption) | exact absurd h.2.2.1 (by assumption) | exact absurd h.2.2.2 (by assumption) | exact absurd h.2.2.2.1 (by assumption) | exact absurd h.2.2.2.2 (by assumption))).symm, rfl, rfl⟩

set_option maxHeartbeats 4000000 in
set_option maxRecDepth 100000 in
theorem c5p_deed (l : Launch) {rw : List zC} {M : zM} {t : Nat → Nat → Nat} (hR : RI t M) (hn : NB (t 35)) (x w : Int32) : CT l false 2 0 0 yX5_deed cX5_deed 3 (some .int) [.ref 34, .int x, .int w] (zSh ++ rw) M (zF (some (.int (sp_deed (t 35) x w))) (zSh ++ rw) M) := by
  refine CT.ofN (by decide) (fun _ _ => Nat.le_of_ble_eq_true rfl) ?_
  have hdd := hn.2.2.2.2.2.2.2.2.2.2.2
  have hkd := hn.2.2.2.2.2.2.2.2.1
  have how := hn.2.2.2.2.2.2.2.2.2.1
  have hcu := hn.2.2.2.2.2.2.2.2.2.2.1
  have hb0 := hn.1
  have hb1 := hn.2.1
  have hb2 := hn.2.2.1
  have hb3 := hn.2.2.2.1
  have hb4 := hn.2.2.2.2.1
  have hb5 := hn.2.2.2.2.2.1
  have hb6 := hn.2.2.2.2.2.2.1
  refine r_aload_n dX5_deed_0 rfl rfl ?_
  refine r_iload_n dX5_deed_1 rfl rfl ?_
  refine r_cV1F mv_X5_isDeed ml_X5_113 (c5_isDeed l hR (by omega) _) dX5_deed_2 (Nat.le_of_ble_eq_true rfl) ⟨by decide, by decide⟩ ⟨by decide, by decide⟩ sh_34 rfl (fun _ h => nomatch h) ?_
  try dsimp only [zrst, List.cons_append, List.nil_append]
  first | refine r_if_eqB (tgt := 20) dX5_deed_5 (by decide) (fun c1 => ?_) (fun c1 => ?_) | refine r_if_eqN (tgt := 20) dX5_deed_5 (by decide) (by omega) (fun c1 => ?_) (fun c1 => ?_) | refine r_if_eq (tgt := 20) dX5_deed_5 (by decide) (fun c1 => ?_) (fun c1 => ?_)
  · have b1 : ¬ (0 ≤ x.toInt ∧ x.toInt < (t 35 2 : Int)) := by omega
    refine r_iconst (v := (-1)) dX5_deed_20 rfl ?_
    refine r_iret dX5_deed_21 rfl (by decide) (by decide) ?_
    exact ⟨congrArg (fun x => some (Value.int x)) (if_neg (fun h => by first | exact absurd h (by assumption) | exact absurd h.1 (by assumption) | exact absurd h.2 (by assumption) | exact absurd h.2.1 (by assumption) | exact absurd h.2.2 (by assumption) | exact absurd h.2.2.1 (by assumption) | exact absurd h.2.2.2 (by assumption) | exact absurd h.2.2.2.1 (by assumption) | exact absurd h.2.2.2.2 (by assumption))).symm, rfl, rfl⟩
  · have g1 : 0 ≤ x.toInt ∧ x.toInt < (t 35 2 : Int) := by omega
    obtain ⟨p, hp, rfl⟩ := arg_nat (n := t 35 2) (show 0 ≤ x.toInt ∧ x.toInt < ((t 35 2 : Nat) : Int) by omega)
    refine r_iload_n dX5_deed_8 rfl rfl ?_
    refine r_i2l dX5_deed_9 rfl ?_
    refine r_lconst (v := 0) dX5_deed_10 rfl ?_
    refine r_ldc2 kc_X5_116 dX5_deed_11 ?_
    refine r_cS3F ms_X5_in ml_X5_41 (c5_in l _ _ _) dX5_deed_14 (Nat.le_of_ble_eq_true rfl) ⟨by decide, by decide⟩ ⟨by decide, by decide⟩ (fun _ h => nomatch h) ?_
    try dsimp only [zrst, List.cons_append, List.nil_append]
    first | refine r_if_neB (tgt := 22) dX5_deed_17 (by decide) (fun c2 => ?_) (fun c2 => ?_) | refine r_if_neN (tgt := 22) dX5_deed_17 (by decide) (by omega) (fun c2 => ?_) (fun c2 => ?_) | refine r_if_ne (tgt := 22) dX5_deed_17 (by decide) (fun c2 => ?_) (fun c2 => ?_)
    · rw [i64_of32] at c2
      have c2 : ((0 : Int) ≤ w.toInt ∧ w.toInt ≤ (5 : Int)) := c2
      have g2 : 0 ≤ w.toInt ∧ w.toInt ≤ 5 := by omega
      obtain ⟨k, hk1, hk2, rfl⟩ := arg_rng (a := 0) (b := 5) (show ((0 : Nat) : Int) ≤ w.toInt ∧ w.toInt ≤ ((5 : Nat) : Int) by omega)
      have hd9 := hdd p hp
      refine r_iload_n dX5_deed_22 rfl rfl ?_
      refine r_iconst (v := nI 4) dX5_deed_23 rfl ?_
      first | refine r_icmp_geN (tgt := 36) dX5_deed_24 (by decide) (by omega) (by omega) (fun c3 => ?_) (fun c3 => ?_) | refine r_icmp_ge (tgt := 36) dX5_deed_24 (by decide) (fun c3 => ?_) (fun c3 => ?_)
      · refine r_iload_n dX5_deed_36 rfl rfl ?_
        refine r_iconst (v := nI 4) dX5_deed_37 rfl ?_
        first | refine r_icmp_neN (tgt := 55) dX5_deed_38 (by decide) (by omega) (by omega) (fun c4 => ?_) (fun c4 => ?_) | refine r_icmp_ne (tgt := 55) dX5_deed_38 (by decide) (fun c4 => ?_) (fun c4 => ?_)
        · refine r_aload_n dX5_deed_55 rfl rfl ?_
          refine r_iload_n dX5_deed_56 rfl rfl ?_
          refine r_aload_n dX5_deed_57 rfl rfl ?_
          refine r_getR fl_X5_7 dX5_deed_58 sh_34 rfl ?_
          refine r_iconst (v := nI 3) dX5_deed_61 rfl ?_
          refine r_ialdN dX5_deed_62 sh_35 (by omega) (by decide) (hR.a35 _) ?_
          refine r_aload_n dX5_deed_63 rfl rfl ?_
          refine r_getR fl_X5_7 dX5_deed_64 sh_34 rfl ?_
          refine r_bipush (v := nI 6) dX5_deed_67 rfl ?_
          refine r_ialdN dX5_deed_69 sh_35 (by omega) (by decide) (hR.a35 _) ?_
          refine r_cV3F mv_X5_left ml_X5_62 (c5_left l hR (by omega) (by omega) (by omega) (by omega) hb4 (by omega)) dX5_deed_70 (Nat.le_of_ble_eq_true rfl) ⟨by decide, by decide⟩ ⟨by decide, by decide⟩ sh_34 rfl (fun _ h => nomatch h) ?_
          try dsimp only [zrst, List.cons_append, List.nil_append]
          refine r_iret dX5_deed_73 rfl (by decide) (by decide) ?_
          refine ⟨congrArg (fun x => some (Value.int x)) ?_, rfl, rfl⟩
          rw [sp_deed, if_pos ⟨g1, g2⟩, tn_nI (show p < 2147483648 by omega), tn_nI (show k < 2147483648 by omega), bo_deed]
          (repeat' split) <;> first | (exfalso; omega) | rfl
        · refine r_aload_n dX5_deed_41 rfl rfl ?_
          refine r_getR fl_X5_7 dX5_deed_42 sh_34 rfl ?_
          refine r_bipush (v := nI 6) dX5_deed_45 rfl ?_
          refine r_ialdN dX5_deed_47 sh_35 (by omega) (by decide) (hR.a35 _) ?_
          refine r_iload_n dX5_deed_48 rfl rfl ?_
          first | refine r_ishrN dX5_deed_49 (by omega) (by omega) ?_ | refine r_ishr dX5_deed_49 ?_
          refine r_iconst (v := nI 1) dX5_deed_50 rfl ?_
          first | refine r_iandN dX5_deed_51 ?_ | refine r_iand dX5_deed_51 ?_
          rw [bit1, bitzb]
          refine r_goto (tgt := 73) dX5_deed_52 (by decide) ?_
          refine r_iret dX5_deed_73 rfl (by decide) (by decide) ?_
          refine ⟨congrArg (fun x => some (Value.int x)) ?_, rfl, rfl⟩
          rw [sp_deed, if_pos ⟨g1, g2⟩, tn_nI (show p < 2147483648 by omega), tn_nI (show k < 2147483648 by omega), bo_deed]
          (repeat' split) <;> first | (exfalso; omega) | rfl
      · refine r_aload_n dX5_deed_27 rfl rfl ?_
        refine r_iload_n dX5_deed_28 rfl rfl ?_
        refine r_iload_n dX5_deed_29 rfl rfl ?_
        refine r_cV2F mv_X5_told ml_X5_47 (c5_told l hR (by omega) (by omega)) dX5_deed_30 (Nat.le_of_ble_eq_true rfl) ⟨by decide, by decide⟩ ⟨by decide, by decide⟩ sh_34 rfl (fun _ h => nomatch h) ?_
        try dsimp only [zrst, List.cons_append, List.nil_append]
        refine r_goto (tgt := 73) dX5_deed_33 (by decide) ?_
        refine r_iret dX5_deed_73 rfl (by decide) (by decide) ?_
        refine ⟨congrArg (fun x => some (Value.int x)) ?_, rfl, rfl⟩
        rw [sp_deed, if_pos ⟨g1, g2⟩, tn_nI (show p < 2147483648 by omega), tn_nI (show k < 2147483648 by omega), bo_deed]
        (repeat' split) <;> first | (exfalso; omega) | rfl
    · rw [i64_of32] at c2
      have c2 : ¬ ((0 : Int) ≤ w.toInt ∧ w.toInt ≤ (5 : Int)) := c2
      have b2 : ¬ (0 ≤ w.toInt ∧ w.toInt ≤ 5) := by omega
      refine r_iconst (v := (-1)) dX5_deed_20 rfl ?_
      refine r_iret dX5_deed_21 rfl (by decide) (by decide) ?_
      exact ⟨congrArg (fun x => some (Value.int x)) (if_neg (fun h => by first | exact absurd h (by assumption) | exact absurd h.1 (by assumption) | exact absurd h.2 (by assumption) | exact absurd h.2.1 (by assumption) | exact absurd h.2.2 (by assumption) | exact absurd h.2.2.1 (by assumption) | exact absurd h.2.2.2 (by assumption) | exact absurd h.2.2.2.1 (by assumption) | exact absurd h.2.2.2.2 (by assumption))).symm, rfl, rfl⟩

set_option maxHeartbeats 4000000 in
set_option maxRecDepth 100000 in
theorem c4_count (l : Launch) {rw : List zC} {M : zM} {n u : Nat → Nat} {kn : Nat} (hS : SI 1 n u kn M) (hn : NB n) (w : Int32) : CT l false 4 0 0 yX4_count cX4_count 2 (some .int) [.ref 0, .int w] (zSh ++ rw) M (zF (some (.int (sp_count n kn w))) (zSh ++ rw) M) := by
  refine CT.ofN (by decide) (fun _ _ => Nat.le_of_ble_eq_true rfl) ?_
  have hdd := hn.2.2.2.2.2.2.2.2.2.2.2
  have hkd := hn.2.2.2.2.2.2.2.2.1
  have how := hn.2.2.2.2.2.2.2.2.2.1
  have hcu := hn.2.2.2.2.2.2.2.2.2.2.1
  have hb0 := hn.1
  have hb1 := hn.2.1
  have hb2 := hn.2.2.1
  have hb3 := hn.2.2.2.1
  have hb4 := hn.2.2.2.2.1
  have hb5 := hn.2.2.2.2.2.1
  have hb6 := hn.2.2.2.2.2.2.1
  refine r_iload_n dX4_count_0 rfl rfl ?_
  by_cases hw9 : 0 ≤ w.toInt ∧ w.toInt ≤ 8
  · have g1 : 0 ≤ w.toInt ∧ w.toInt ≤ 8 := hw9
    obtain ⟨k, hk1, hk2, rfl⟩ := arg_rng (a := 0) (b := 8) hw9
    rcases (show k = 0 ∨ k = 1 ∨ k = 2 ∨ k = 3 ∨ k = 4 ∨ k = 5 ∨ k = 6 ∨ k = 7 ∨ k = 8 by omega) with e | e | e | e | e | e | e | e | e
    · refine r_tabIn (off := 51) (tgt := 52) dX4_count_1 (by rw [e]; decide) (by rw [e]; decide) (by rw [e]; decide) (by decide) ?_
      refine r_aload_n dX4_count_52 rfl rfl ?_
      refine r_getR fl_X4_10 dX4_count_53 sh_0 rfl ?_
      refine r_getV fl_X4_45 dX4_count_56 sh_1 rfl hS.f0 ?_
      refine r_iret dX4_count_59 rfl (by decide) (by decide) ?_
      refine ⟨congrArg (fun x => some (Value.int x)) ?_, rfl, rfl⟩
      rw [sp_count, if_pos (g1), tn_nI (show k < 2147483648 by omega), bo_count]
      (repeat' split) <;> first | (exfalso; omega) | rfl | (subst e; rfl) | exact (zb_f1 (by assumption)).symm | exact (zb_t1 (by assumption)).symm
    · refine r_tabIn (off := 59) (tgt := 60) dX4_count_1 (by rw [e]; decide) (by rw [e]; decide) (by rw [e]; decide) (by decide) ?_
      refine r_aload_n dX4_count_60 rfl rfl ?_
      refine r_getR fl_X4_10 dX4_count_61 sh_0 rfl ?_
      refine r_getV fl_X4_64 dX4_count_64 sh_1 rfl hS.f1 ?_
      refine r_iret dX4_count_67 rfl (by decide) (by decide) ?_
      refine ⟨congrArg (fun x => some (Value.int x)) ?_, rfl, rfl⟩
      rw [sp_count, if_pos (g1), tn_nI (show k < 2147483648 by omega), bo_count]
      (repeat' split) <;> first | (exfalso; omega) | rfl | (subst e; rfl) | exact (zb_f1 (by assumption)).symm | exact (zb_t1 (by assumption)).symm
    · refine r_tabIn (off := 67) (tgt := 68) dX4_count_1 (by rw [e]; decide) (by rw [e]; decide) (by rw [e]; decide) (by decide) ?_
      refine r_aload_n dX4_count_68 rfl rfl ?_
      refine r_getR fl_X4_10 dX4_count_69 sh_0 rfl ?_
      refine r_getV fl_X4_137 dX4_count_72 sh_1 rfl hS.f2 ?_
      refine r_iret dX4_count_75 rfl (by decide) (by decide) ?_
      refine ⟨congrArg (fun x => some (Value.int x)) ?_, rfl, rfl⟩
      rw [sp_count, if_pos (g1), tn_nI (show k < 2147483648 by omega), bo_count]
      (repeat' split) <;> first | (exfalso; omega) | rfl | (subst e; rfl) | exact (zb_f1 (by assumption)).symm | exact (zb_t1 (by assumption)).symm
    · refine r_tabIn (off := 75) (tgt := 76) dX4_count_1 (by rw [e]; decide) (by rw [e]; decide) (by rw [e]; decide) (by decide) ?_
      refine r_aload_n dX4_count_76 rfl rfl ?_
      refine r_getR fl_X4_10 dX4_count_77 sh_0 rfl ?_
      refine r_getV fl_X4_140 dX4_count_80 sh_1 rfl hS.f4 ?_
      refine r_iret dX4_count_83 rfl (by decide) (by decide) ?_
      refine ⟨congrArg (fun x => some (Value.int x)) ?_, rfl, rfl⟩
      rw [sp_count, if_pos (g1), tn_nI (show k < 2147483648 by omega), bo_count]
      (repeat' split) <;> first | (exfalso; omega) | rfl | (subst e; rfl) | exact (zb_f1 (by assumption)).symm | exact (zb_t1 (by assumption)).symm
    · refine r_tabIn (off := 83) (tgt := 84) dX4_count_1 (by rw [e]; decide) (by rw [e]; decide) (by rw [e]; decide) (by decide) ?_
      refine r_aload_n dX4_count_84 rfl rfl ?_
      refine r_getR fl_X4_10 dX4_count_85 sh_0 rfl ?_
      refine r_getV fl_X4_117 dX4_count_88 sh_1 rfl hS.f6 ?_
      refine r_iret dX4_count_91 rfl (by decide) (by decide) ?_
      refine ⟨congrArg (fun x => some (Value.int x)) ?_, rfl, rfl⟩
      rw [sp_count, if_pos (g1), tn_nI (show k < 2147483648 by omega), bo_count]
      (repeat' split) <;> first | (exfalso; omega) | rfl | (subst e; rfl) | exact (zb_f1 (by assumption)).symm | exact (zb_t1 (by assumption)).symm
    · refine r_tabIn (off := 91) (tgt := 92) dX4_count_1 (by rw [e]; decide) (by rw [e]; decide) (by rw [e]; decide) (by decide) ?_
      refine r_aload_n dX4_count_92 rfl rfl ?_
      refine r_getR fl_X4_10 dX4_count_93 sh_0 rfl ?_
      refine r_getV fl_X4_120 dX4_count_96 sh_1 rfl hS.f7 ?_
      refine r_iret dX4_count_99 rfl (by decide) (by decide) ?_
      refine ⟨congrArg (fun x => some (Value.int x)) ?_, rfl, rfl⟩
      rw [sp_count, if_pos (g1), tn_nI (show k < 2147483648 by omega), bo_count]
      (repeat' split) <;> first | (exfalso; omega) | rfl | (subst e; rfl) | exact (zb_f1 (by assumption)).symm | exact (zb_t1 (by assumption)).symm
    · refine r_tabIn (off := 99) (tgt := 100) dX4_count_1 (by rw [e]; decide) (by rw [e]; decide) (by rw [e]; decide) (by decide) ?_
      refine r_aload_n dX4_count_100 rfl rfl ?_
      refine r_getR fl_X4_10 dX4_count_101 sh_0 rfl ?_
      refine r_getV fl_X4_143 dX4_count_104 sh_1 rfl hS.f3 ?_
      refine r_iret dX4_count_107 rfl (by decide) (by decide) ?_
      refine ⟨congrArg (fun x => some (Value.int x)) ?_, rfl, rfl⟩
      rw [sp_count, if_pos (g1), tn_nI (show k < 2147483648 by omega), bo_count]
      (repeat' split) <;> first | (exfalso; omega) | rfl | (subst e; rfl) | exact (zb_f1 (by assumption)).symm | exact (zb_t1 (by assumption)).symm
    · refine r_tabIn (off := 107) (tgt := 108) dX4_count_1 (by rw [e]; decide) (by rw [e]; decide) (by rw [e]; decide) (by decide) ?_
      refine r_aload_n dX4_count_108 rfl rfl ?_
      refine r_getR fl_X4_10 dX4_count_109 sh_0 rfl ?_
      refine r_cV0F mv_X3_leftOfAll ml_X4_146 (c3_leftOfAll l hS hn) dX4_count_112 (Nat.le_of_ble_eq_true rfl) ⟨by decide, by decide⟩ ⟨by decide, by decide⟩ sh_1 rfl (fun _ h => nomatch h) ?_
      try dsimp only [zrst, List.cons_append, List.nil_append]
      refine r_iret dX4_count_115 rfl (by decide) (by decide) ?_
      refine ⟨congrArg (fun x => some (Value.int x)) ?_, rfl, rfl⟩
      rw [sp_count, if_pos (g1), tn_nI (show k < 2147483648 by omega), bo_count]
      (repeat' split) <;> first | (exfalso; omega) | rfl | (subst e; rfl) | exact (zb_f1 (by assumption)).symm | exact (zb_t1 (by assumption)).symm
    · refine r_tabIn (off := 115) (tgt := 116) dX4_count_1 (by rw [e]; decide) (by rw [e]; decide) (by rw [e]; decide) (by decide) ?_
      refine r_aload_n dX4_count_116 rfl rfl ?_
      refine r_getR fl_X4_10 dX4_count_117 sh_0 rfl ?_
      refine r_getV fl_X4_149 dX4_count_120 sh_1 rfl hS.f5 ?_
      refine r_iret dX4_count_123 rfl (by decide) (by decide) ?_
      refine ⟨congrArg (fun x => some (Value.int x)) ?_, rfl, rfl⟩
      rw [sp_count, if_pos (g1), tn_nI (show k < 2147483648 by omega), bo_count]
      (repeat' split) <;> first | (exfalso; omega) | rfl | (subst e; rfl) | exact (zb_f1 (by assumption)).symm | exact (zb_t1 (by assumption)).symm
  · refine r_tabOut (tgt := 124) dX4_count_1 (by omega) (by decide) ?_
    refine r_iconst (v := (-1)) dX4_count_124 rfl ?_
    refine r_iret dX4_count_125 rfl (by decide) (by decide) ?_
    exact ⟨congrArg (fun x => some (Value.int x)) (if_neg (fun h => by first | exact absurd h (by assumption) | exact absurd h.1 (by assumption) | exact absurd h.2 (by assumption) | exact absurd h.2.1 (by assumption) | exact absurd h.2.2 (by assumption) | exact absurd h.2.2.1 (by assumption) | exact absurd h.2.2.2 (by assumption) | exact absurd h.2.2.2.1 (by assumption) | exact absurd h.2.2.2.2 (by assumption))).symm, rfl, rfl⟩

set_option maxHeartbeats 4000000 in
set_option maxRecDepth 100000 in
theorem c5p_count (l : Launch) {rw : List zC} {M : zM} {t : Nat → Nat → Nat} (hR : RI t M) (hn : NB (t 35)) (w : Int32) : CT l false 3 0 0 yX5_count cX5_count 2 (some .int) [.ref 34, .int w] (zSh ++ rw) M (zF (some (.int (sp_count (t 35) (t 34 7) w))) (zSh ++ rw) M) := by
  refine CT.ofN (by decide) (fun _ _ => Nat.le_of_ble_eq_true rfl) ?_
  have hdd := hn.2.2.2.2.2.2.2.2.2.2.2
  have hkd := hn.2.2.2.2.2.2.2.2.1
  have how := hn.2.2.2.2.2.2.2.2.2.1
  have hcu := hn.2.2.2.2.2.2.2.2.2.2.1
  have hb0 := hn.1
  have hb1 := hn.2.1
  have hb2 := hn.2.2.1
  have hb3 := hn.2.2.2.1
  have hb4 := hn.2.2.2.2.1
  have hb5 := hn.2.2.2.2.2.1
  have hb6 := hn.2.2.2.2.2.2.1
  refine r_iload_n dX5_count_0 rfl rfl ?_
  refine r_i2l dX5_count_1 rfl ?_
  refine r_lconst (v := 0) dX5_count_2 rfl ?_
  refine r_ldc2 kc_X5_126 dX5_count_3 ?_
  refine r_cS3F ms_X5_in ml_X5_41 (c5_in l _ _ _) dX5_count_6 (Nat.le_of_ble_eq_true rfl) ⟨by decide, by decide⟩ ⟨by decide, by decide⟩ (fun _ h => nomatch h) ?_
  try dsimp only [zrst, List.cons_append, List.nil_append]
  first | refine r_if_eqB (tgt := 21) dX5_count_9 (by decide) (fun c1 => ?_) (fun c1 => ?_) | refine r_if_eqN (tgt := 21) dX5_count_9 (by decide) (by omega) (fun c1 => ?_) (fun c1 => ?_) | refine r_if_eq (tgt := 21) dX5_count_9 (by decide) (fun c1 => ?_) (fun c1 => ?_)
  · rw [i64_of32] at c1
    have c1 : ¬ ((0 : Int) ≤ w.toInt ∧ w.toInt ≤ 6) := c1
    refine r_iload_n dX5_count_21 rfl rfl ?_
    refine r_bipush (v := nI 7) dX5_count_22 rfl ?_
    first | refine r_icmp_neN (tgt := 34) dX5_count_24 (by decide) (by omega) (by omega) (fun c2 => ?_) (fun c2 => ?_) | refine r_icmp_ne (tgt := 34) dX5_count_24 (by decide) (fun c2 => ?_) (fun c2 => ?_)
    · have h7 : ¬ w.toInt = 7 := fun h => c2 (i32_eq.mpr h)
      refine r_iload_n dX5_count_34 rfl rfl ?_
      refine r_bipush (v := nI 8) dX5_count_35 rfl ?_
      first | refine r_icmp_neN (tgt := 47) dX5_count_37 (by decide) (by omega) (by omega) (fun c3 => ?_) (fun c3 => ?_) | refine r_icmp_ne (tgt := 47) dX5_count_37 (by decide) (fun c3 => ?_) (fun c3 => ?_)
      · have h8 : ¬ w.toInt = 8 := fun h => c3 (i32_eq.mpr h)
        have b1 : ¬ (0 ≤ w.toInt ∧ w.toInt ≤ 8) := by omega
        refine r_iconst (v := (-1)) dX5_count_47 rfl ?_
        refine r_iret dX5_count_48 rfl (by decide) (by decide) ?_
        first
        | exact ⟨congrArg (fun x => some (Value.int x)) (if_neg (by assumption)).symm, rfl, rfl⟩
        | (refine ⟨congrArg (fun x => some (Value.int x)) ?_, rfl, rfl⟩; rw [sp_count, if_pos g1, tn_nI (show k < 2147483648 by omega), bo_count, if_pos hk2])
        | (refine ⟨congrArg (fun x => some (Value.int x)) ?_, rfl, rfl⟩; rw [sp_count, if_pos (by decide)]; rfl)
      · subst c3
        refine r_aload_n dX5_count_40 rfl rfl ?_
        refine r_getV fl_X5_89 dX5_count_41 sh_34 rfl (hR.a34 _) ?_
        refine r_goto (tgt := 48) dX5_count_44 (by decide) ?_
        refine r_iret dX5_count_48 rfl (by decide) (by decide) ?_
        first
        | exact ⟨congrArg (fun x => some (Value.int x)) (if_neg (by assumption)).symm, rfl, rfl⟩
        | (refine ⟨congrArg (fun x => some (Value.int x)) ?_, rfl, rfl⟩; rw [sp_count, if_pos g1, tn_nI (show k < 2147483648 by omega), bo_count, if_pos hk2])
        | (refine ⟨congrArg (fun x => some (Value.int x)) ?_, rfl, rfl⟩; rw [sp_count, if_pos (by decide)]; rfl)
    · subst c2
      refine r_aload_n dX5_count_27 rfl rfl ?_
      refine r_cV0F mv_X5_leftOfAll ml_X5_128 (c5_leftOfAll l hR hn) dX5_count_28 (Nat.le_of_ble_eq_true rfl) ⟨by decide, by decide⟩ ⟨by decide, by decide⟩ sh_34 rfl (fun _ h => nomatch h) ?_
      try dsimp only [zrst, List.cons_append, List.nil_append]
      refine r_goto (tgt := 48) dX5_count_31 (by decide) ?_
      refine r_iret dX5_count_48 rfl (by decide) (by decide) ?_
      first
      | exact ⟨congrArg (fun x => some (Value.int x)) (if_neg (by assumption)).symm, rfl, rfl⟩
      | (refine ⟨congrArg (fun x => some (Value.int x)) ?_, rfl, rfl⟩; rw [sp_count, if_pos g1, tn_nI (show k < 2147483648 by omega), bo_count, if_pos hk2])
      | (refine ⟨congrArg (fun x => some (Value.int x)) ?_, rfl, rfl⟩; rw [sp_count, if_pos (by decide)]; rfl)
  · rw [i64_of32] at c1
    have c1 : (0 : Int) ≤ w.toInt ∧ w.toInt ≤ 6 := c1
    have g1 : 0 ≤ w.toInt ∧ w.toInt ≤ 8 := by omega
    obtain ⟨k, hk1, hk2, rfl⟩ := arg_rng (a := 0) (b := 6) c1
    refine r_aload_n dX5_count_12 rfl rfl ?_
    refine r_getR fl_X5_7 dX5_count_13 sh_34 rfl ?_
    refine r_iload_n dX5_count_16 rfl rfl ?_
    refine r_ialdN dX5_count_17 sh_35 (by omega) (by decide) (hR.a35 _) ?_
    refine r_goto (tgt := 48) dX5_count_18 (by decide) ?_
    refine r_iret dX5_count_48 rfl (by decide) (by decide) ?_
    first
    | exact ⟨congrArg (fun x => some (Value.int x)) (if_neg (by assumption)).symm, rfl, rfl⟩
    | (refine ⟨congrArg (fun x => some (Value.int x)) ?_, rfl, rfl⟩; rw [sp_count, if_pos g1, tn_nI (show k < 2147483648 by omega), bo_count, if_pos hk2])
    | (refine ⟨congrArg (fun x => some (Value.int x)) ?_, rfl, rfl⟩; rw [sp_count, if_pos (by decide)]; rfl)

