set_option maxHeartbeats 4000000 in
set_option maxRecDepth 100000 in
theorem c4_drop (l : Launch) {rw : List zC} {M : zM} {z : Nat → Option (Nat × Nat × Nat)} {sz : Nat → Nat} (hC : SHC (zSh ++ rw) z sz M) (x : Int32) : CT l false 2 0 0 yX4_drop cX4_drop 3 (some .int) [.ref 0, .int x] (zSh ++ rw) M (zG (zSh ++ rw) (fun v9 M9 => v9 = some (.int (sp_drop z sz x)) ∧ M9 = mc_drop z x M)) := by
  refine CT.ofN (by decide) (fun _ _ => Nat.le_of_ble_eq_true rfl) ?_
  refine r_iload_n dX4_drop_0 rfl rfl ?_
  refine r_cS1F ms_X4_isSheet ml_X4_213 (c4_isSheet l _) dX4_drop_1 (Nat.le_of_ble_eq_true rfl) ⟨by decide, by decide⟩ ⟨by decide, by decide⟩ (fun _ h => nomatch h) ?_
  try dsimp only [zrst, List.cons_append, List.nil_append]
  first | refine r_if_neB (tgt := 9) dX4_drop_4 (by decide) (fun c1 => ?_) (fun c1 => ?_) | refine r_if_neN (tgt := 9) dX4_drop_4 (by decide) (by omega) (fun c1 => ?_) (fun c1 => ?_) | refine r_if_ne (tgt := 9) dX4_drop_4 (by decide) (fun c1 => ?_) (fun c1 => ?_)
  · have c1 : ((0 : Int) ≤ x.toInt ∧ x.toInt < (4 : Int)) := c1
    have g1 : 0 ≤ x.toInt ∧ x.toInt ≤ 3 := by omega
    obtain ⟨j, hj1, hj2, rfl⟩ := arg_rng (a := 0) (b := 3) (show ((0 : Nat) : Int) ≤ x.toInt ∧ x.toInt ≤ ((3 : Nat) : Int) by omega)
    refine r_aload_n dX4_drop_9 rfl rfl ?_
    refine r_getR fl_X4_37 dX4_drop_10 sh_0 rfl ?_
    refine r_iload_n dX4_drop_13 rfl rfl ?_
    rcases hzr : z j with _ | ⟨r, ri, L⟩
    · refine r_aldN dX4_drop_14 sh_33 (by omega) (by decide) ((hC j (by omega)).1 hzr) ?_
      refine r_astore_nN dX4_drop_15 rfl rfl (by decide) ?_
      refine r_aload_nN dX4_drop_16 rfl rfl ?_
      refine r_ifnonnullN dX4_drop_17 ?_
      refine r_bipush (v := (-11)) dX4_drop_20 rfl ?_
      refine r_iret dX4_drop_22 rfl (by decide) (by decide) ?_
      refine ⟨rfl, congrArg (fun x => some (Value.int x)) ?_, ?_⟩
      · rw [sp_drop, if_pos (g1), tn_nI (show j < 2147483648 by omega), hzr]
        try rfl
      · rw [mc_drop, if_pos (g1), tn_nI (show j < 2147483648 by omega), hzr]
        try rfl
    · obtain ⟨h33r, hs_r, hs_ri, ⟨hrr, hrir, hL, hszr⟩, hlaner⟩ := (hC j (by omega)).2 _ _ _ hzr
      refine r_aldS dX4_drop_14 sh_33 (by omega) (by decide) h33r ?_
      refine r_astore_n dX4_drop_15 rfl rfl (by decide) ?_
      refine r_aload_n dX4_drop_16 rfl rfl ?_
      refine r_ifnonnull (tgt := 23) dX4_drop_17 (by decide) ?_
      refine r_aload_n dX4_drop_23 rfl rfl ?_
      refine r_getR fl_X4_37 dX4_drop_24 sh_0 rfl ?_
      refine r_iload_n dX4_drop_27 rfl rfl ?_
      refine r_null dX4_drop_28 ?_
      refine r_astN dX4_drop_29 sh_33 (by omega) (by decide) ?_
      refine r_aload_n dX4_drop_30 rfl rfl ?_
      refine r_getR fl_X4_239 dX4_drop_31 hs_r rfl ?_
      refine r_alen (v := nI (sz j)) dX4_drop_34 hs_ri rfl ?_
      refine r_iret dX4_drop_35 rfl (by decide) (by decide) ?_
      refine ⟨rfl, congrArg (fun x => some (Value.int x)) ?_, ?_⟩
      · rw [sp_drop, if_pos (g1), tn_nI (show j < 2147483648 by omega), hzr]
        try rfl
      · rw [mc_drop, if_pos (g1), tn_nI (show j < 2147483648 by omega), hzr]
        try rfl
  · have c1 : ¬ ((0 : Int) ≤ x.toInt ∧ x.toInt < (4 : Int)) := c1
    have b1 : ¬ (0 ≤ x.toInt ∧ x.toInt ≤ 3) := by omega
    refine r_iconst (v := (-1)) dX4_drop_7 rfl ?_
    refine r_iret dX4_drop_8 rfl (by decide) (by decide) ?_
    refine ⟨rfl, congrArg (fun x => some (Value.int x)) ?_, ?_⟩
    · rw [sp_drop, if_neg]
      intro h9; first | exact absurd h9 (by assumption) | exact absurd h9.1 (by assumption) | exact absurd h9.2 (by assumption) | exact absurd h9.2.1 (by assumption) | exact absurd h9.2.2 (by assumption) | exact absurd h9.2.2.1 (by assumption) | exact absurd h9.2.2.2 (by assumption) | exact absurd h9.2.2.2.1 (by assumption) | exact absurd h9.2.2.2.2 (by assumption)
    · rw [mc_drop, if_neg]
      intro h9; first | exact absurd h9 (by assumption) | exact absurd h9.1 (by assumption) | exact absurd h9.2 (by assumption) | exact absurd h9.2.1 (by assumption) | exact absurd h9.2.2 (by assumption) | exact absurd h9.2.2.1 (by assumption) | exact absurd h9.2.2.2 (by assumption) | exact absurd h9.2.2.2.1 (by assumption) | exact absurd h9.2.2.2.2 (by assumption)

set_option maxHeartbeats 4000000 in
set_option maxRecDepth 100000 in
theorem c5p_drop (l : Launch) {rw : List zC} {M : zM} {t : Nat → Nat → Nat} {z : Nat → Option (Nat × Nat × Nat)} (hR : RI t M) (hC : SHR z (t 42) M) (x : Int32) : CT l false 2 0 0 yX5_drop cX5_drop 2 (some .int) [.ref 34, .int x] (zSh ++ rw) M (zG (zSh ++ rw) (fun v9 M9 => v9 = some (.int (sp_drop z (t 42) x)) ∧ M9 = mr_drop z x M)) := by
  refine CT.ofN (by decide) (fun _ _ => Nat.le_of_ble_eq_true rfl) ?_
  refine r_iload_n dX5_drop_0 rfl rfl ?_
  refine r_cS1F ms_X5_isSheet ml_X5_194 (c5_isSheet l _) dX5_drop_1 (Nat.le_of_ble_eq_true rfl) ⟨by decide, by decide⟩ ⟨by decide, by decide⟩ (fun _ h => nomatch h) ?_
  try dsimp only [zrst, List.cons_append, List.nil_append]
  first | refine r_if_neB (tgt := 9) dX5_drop_4 (by decide) (fun c1 => ?_) (fun c1 => ?_) | refine r_if_neN (tgt := 9) dX5_drop_4 (by decide) (by omega) (fun c1 => ?_) (fun c1 => ?_) | refine r_if_ne (tgt := 9) dX5_drop_4 (by decide) (fun c1 => ?_) (fun c1 => ?_)
  · have c1 : ((0 : Int) ≤ x.toInt ∧ x.toInt < (4 : Int)) := c1
    have g1 : 0 ≤ x.toInt ∧ x.toInt ≤ 3 := by omega
    obtain ⟨j, hj1, hj2, rfl⟩ := arg_rng (a := 0) (b := 3) (show ((0 : Nat) : Int) ≤ x.toInt ∧ x.toInt ≤ ((3 : Nat) : Int) by omega)
    refine r_aload_n dX5_drop_9 rfl rfl ?_
    refine r_getR fl_X5_28 dX5_drop_10 sh_34 rfl ?_
    refine r_iload_n dX5_drop_13 rfl rfl ?_
    rcases hzr : z j with _ | ⟨r, ri, L⟩
    · have hlr := (hC j (by omega)).1 hzr
      refine r_ialdN dX5_drop_14 sh_41 (by omega) (by decide) hlr ?_
      refine r_if_ge (tgt := 21) dX5_drop_15 (by decide) (fun q9 => absurd q9 (by decide)) (fun _ => ?_)
      refine r_bipush (v := (-11)) dX5_drop_18 rfl ?_
      refine r_iret dX5_drop_20 rfl (by decide) (by decide) ?_
      refine ⟨rfl, congrArg (fun x => some (Value.int x)) ?_, ?_⟩
      · rw [sp_drop, if_pos (g1), tn_nI (show j < 2147483648 by omega), hzr]
        try rfl
      · rw [mr_drop, if_pos (g1), tn_nI (show j < 2147483648 by omega), hzr]
        try rfl
    · obtain ⟨hlr, hL, hszr⟩ := (hC j (by omega)).2 _ _ _ hzr
      refine r_ialdN dX5_drop_14 sh_41 (by omega) (by decide) hlr ?_
      refine r_if_geN (tgt := 21) dX5_drop_15 (by decide) (by omega) ?_
      refine r_aload_n dX5_drop_21 rfl rfl ?_
      refine r_getR fl_X5_28 dX5_drop_22 sh_34 rfl ?_
      refine r_iload_n dX5_drop_25 rfl rfl ?_
      refine r_iconst (v := (-1)) dX5_drop_26 rfl ?_
      refine r_iastN dX5_drop_27 sh_41 (by omega) (by decide) ?_
      refine r_aload_n dX5_drop_28 rfl rfl ?_
      refine r_getR fl_X5_31 dX5_drop_29 sh_34 rfl ?_
      refine r_iload_n dX5_drop_32 rfl rfl ?_
      refine r_ialdN dX5_drop_33 sh_42 (by omega) (by decide) (hR.a42 _) ?_
      refine r_iret dX5_drop_34 rfl (by decide) (by decide) ?_
      refine ⟨rfl, congrArg (fun x => some (Value.int x)) ?_, ?_⟩
      · rw [sp_drop, if_pos (g1), tn_nI (show j < 2147483648 by omega), hzr]
        try rfl
      · rw [mr_drop, if_pos (g1), tn_nI (show j < 2147483648 by omega), hzr]
        try rfl
  · have c1 : ¬ ((0 : Int) ≤ x.toInt ∧ x.toInt < (4 : Int)) := c1
    have b1 : ¬ (0 ≤ x.toInt ∧ x.toInt ≤ 3) := by omega
    refine r_iconst (v := (-1)) dX5_drop_7 rfl ?_
    refine r_iret dX5_drop_8 rfl (by decide) (by decide) ?_
    refine ⟨rfl, congrArg (fun x => some (Value.int x)) ?_, ?_⟩
    · rw [sp_drop, if_neg]
      intro h9; first | exact absurd h9 (by assumption) | exact absurd h9.1 (by assumption) | exact absurd h9.2 (by assumption) | exact absurd h9.2.1 (by assumption) | exact absurd h9.2.2 (by assumption) | exact absurd h9.2.2.1 (by assumption) | exact absurd h9.2.2.2 (by assumption) | exact absurd h9.2.2.2.1 (by assumption) | exact absurd h9.2.2.2.2 (by assumption)
    · rw [mr_drop, if_neg]
      intro h9; first | exact absurd h9 (by assumption) | exact absurd h9.1 (by assumption) | exact absurd h9.2 (by assumption) | exact absurd h9.2.1 (by assumption) | exact absurd h9.2.2 (by assumption) | exact absurd h9.2.2.1 (by assumption) | exact absurd h9.2.2.2 (by assumption) | exact absurd h9.2.2.2.1 (by assumption) | exact absurd h9.2.2.2.2 (by assumption)

set_option maxHeartbeats 4000000 in
set_option maxRecDepth 100000 in
theorem c4_item (l : Launch) {rw : List zC} {M : zM} {z : Nat → Option (Nat × Nat × Nat)} {sz : Nat → Nat} (hC : SHC (zSh ++ rw) z sz M) (x w i : Int32) (v : Int64) : CT l false 2 0 0 yX4_item cX4_item 8 (some .int) [.ref 0, .int x, .int w, .int i, .long v] (zSh ++ rw) M (zG (zSh ++ rw) (fun v9 M9 => v9 = some (.int (sp_item z sz x w i)) ∧ M9 = mc_item z sz x w i v M)) := by
  refine CT.ofN (by decide) (fun _ _ => Nat.le_of_ble_eq_true rfl) ?_
  refine r_iload_n dX4_item_0 rfl rfl ?_
  refine r_cS1F ms_X4_isSheet ml_X4_213 (c4_isSheet l _) dX4_item_1 (Nat.le_of_ble_eq_true rfl) ⟨by decide, by decide⟩ ⟨by decide, by decide⟩ (fun _ h => nomatch h) ?_
  try dsimp only [zrst, List.cons_append, List.nil_append]
  first | refine r_if_eqB (tgt := 14) dX4_item_4 (by decide) (fun c1 => ?_) (fun c1 => ?_) | refine r_if_eqN (tgt := 14) dX4_item_4 (by decide) (by omega) (fun c1 => ?_) (fun c1 => ?_) | refine r_if_eq (tgt := 14) dX4_item_4 (by decide) (fun c1 => ?_) (fun c1 => ?_)
  · have c1 : ¬ ((0 : Int) ≤ x.toInt ∧ x.toInt < (4 : Int)) := c1
    have b1 : ¬ (0 ≤ x.toInt ∧ x.toInt ≤ 3) := by omega
    refine r_iconst (v := (-1)) dX4_item_14 rfl ?_
    refine r_iret dX4_item_15 rfl (by decide) (by decide) ?_
    refine ⟨rfl, congrArg (fun x => some (Value.int x)) ?_, ?_⟩
    · rw [sp_item, if_neg]
      intro h9; first | exact absurd h9 (by assumption) | exact absurd h9.1 (by assumption) | exact absurd h9.2 (by assumption) | exact absurd h9.2.1 (by assumption) | exact absurd h9.2.2 (by assumption) | exact absurd h9.2.2.1 (by assumption) | exact absurd h9.2.2.2 (by assumption) | exact absurd h9.2.2.2.1 (by assumption) | exact absurd h9.2.2.2.2 (by assumption)
    · rw [mc_item, if_neg]
      intro h9; first | exact absurd h9 (by assumption) | exact absurd h9.1 (by assumption) | exact absurd h9.2 (by assumption) | exact absurd h9.2.1 (by assumption) | exact absurd h9.2.2 (by assumption) | exact absurd h9.2.2.1 (by assumption) | exact absurd h9.2.2.2 (by assumption) | exact absurd h9.2.2.2.1 (by assumption) | exact absurd h9.2.2.2.2 (by assumption)
  · have c1 : ((0 : Int) ≤ x.toInt ∧ x.toInt < (4 : Int)) := c1
    have g1 : 0 ≤ x.toInt ∧ x.toInt ≤ 3 := by omega
    obtain ⟨j, hj1, hj2, rfl⟩ := arg_rng (a := 0) (b := 3) (show ((0 : Nat) : Int) ≤ x.toInt ∧ x.toInt ≤ ((3 : Nat) : Int) by omega)
    refine r_iload_n dX4_item_7 rfl rfl ?_
    refine r_cS1F ms_X4_isLane ml_X4_216 (c4_isLane l _) dX4_item_8 (Nat.le_of_ble_eq_true rfl) ⟨by decide, by decide⟩ ⟨by decide, by decide⟩ (fun _ h => nomatch h) ?_
    try dsimp only [zrst, List.cons_append, List.nil_append]
    first | refine r_if_neB (tgt := 16) dX4_item_11 (by decide) (fun c2 => ?_) (fun c2 => ?_) | refine r_if_neN (tgt := 16) dX4_item_11 (by decide) (by omega) (fun c2 => ?_) (fun c2 => ?_) | refine r_if_ne (tgt := 16) dX4_item_11 (by decide) (fun c2 => ?_) (fun c2 => ?_)
    · have c2 : ((0 : Int) ≤ w.toInt ∧ w.toInt < (4 : Int)) := c2
      have g2 : 0 ≤ w.toInt ∧ w.toInt ≤ 3 := by omega
      obtain ⟨La, hLa1, hLa2, rfl⟩ := arg_rng (a := 0) (b := 3) (show ((0 : Nat) : Int) ≤ w.toInt ∧ w.toInt ≤ ((3 : Nat) : Int) by omega)
      refine r_aload_n dX4_item_16 rfl rfl ?_
      refine r_getR fl_X4_37 dX4_item_17 sh_0 rfl ?_
      refine r_iload_n dX4_item_20 rfl rfl ?_
      rcases hzr : z j with _ | ⟨r, ri, L⟩
      · refine r_aldN dX4_item_21 sh_33 (by omega) (by decide) ((hC j (by omega)).1 hzr) ?_
        refine r_astoreN dX4_item_22 rfl (by decide) ?_
        refine r_aloadN dX4_item_24 rfl ?_
        refine r_ifnonnullN dX4_item_26 ?_
        refine r_bipush (v := (-11)) dX4_item_29 rfl ?_
        refine r_iret dX4_item_31 rfl (by decide) (by decide) ?_
        refine ⟨rfl, congrArg (fun x => some (Value.int x)) ?_, ?_⟩
        · rw [sp_item, if_pos ⟨g1, g2⟩, tn_nI (show j < 2147483648 by omega), hzr]
          try rfl
        · rw [mc_item, if_pos ⟨g1, g2⟩, tn_nI (show j < 2147483648 by omega), hzr]
          try rfl
      · obtain ⟨h33r, hs_r, hs_ri, ⟨hrr, hrir, hL, hszr⟩, hlaner⟩ := (hC j (by omega)).2 _ _ _ hzr
        refine r_aldS dX4_item_21 sh_33 (by omega) (by decide) h33r ?_
        refine r_astore dX4_item_22 rfl (by decide) ?_
        refine r_aload dX4_item_24 rfl ?_
        refine r_ifnonnull (tgt := 32) dX4_item_26 (by decide) ?_
        refine r_aload dX4_item_32 rfl ?_
        refine r_iload_n dX4_item_34 rfl rfl ?_
        refine r_iload_n dX4_item_35 rfl rfl ?_
        refine r_iconst (v := nI 1) dX4_item_36 rfl ?_
        refine r_cV3F mv_X2_refusal ml_X4_219 (c2_refusal l hs_r hs_ri hszr i (nI 1) (by omega) hL hlaner) dX4_item_37 (Nat.le_of_ble_eq_true rfl) ⟨by decide, by decide⟩ ⟨by decide, by decide⟩ hs_r rfl (fun _ h => nomatch h) ?_
        try dsimp only [zrst, List.cons_append, List.nil_append]
        refine r_istore dX4_item_40 rfl (by decide) ?_
        refine r_iload dX4_item_42 rfl ?_
        refine r_if_eq (tgt := 50) dX4_item_44 (by decide) (fun c3 => ?_) (fun c3 => ?_)
        · have e0 : rfz La L i (nI 1) (sz j) = nI 0 := c3
          obtain ⟨eL, q1, q2, q3⟩ := rfz0 e0
          have e1 : (nI 1).toInt = 1 := rfl
          rw [e1] at q3
          obtain ⟨ii, hi1, rfl, hi2⟩ := arg_pos2 q1
          refine r_aload dX4_item_50 rfl ?_
          refine r_iload_n dX4_item_52 rfl rfl ?_
          refine r_lload dX4_item_53 rfl ?_
          refine r_cV2G mv_X2_put ml_X4_232 (c2_put l hs_r hs_ri hszr v (by omega) hL hlaner) dX4_item_55 (Nat.le_of_ble_eq_true rfl) ⟨by decide, by decide⟩ ⟨by decide, by decide⟩ hs_r rfl (fun _ h => nomatch h) (fun v M1 hq => ?_)
          obtain ⟨rfl, rfl⟩ := hq
          dsimp only [zrst, List.cons_append, List.nil_append]
          rw [fil_1]
          refine r_iconst (v := nI 1) dX4_item_58 rfl ?_
          refine r_iret dX4_item_59 rfl (by decide) (by decide) ?_
          refine ⟨rfl, congrArg (fun x => some (Value.int x)) ?_, ?_⟩
          · rw [sp_item, if_pos ⟨g1, g2⟩, tn_nI (show j < 2147483648 by omega), tn_nI (show La < 2147483648 by omega), hzr]
            exact (if_pos e0).symm
          · rw [mc_item, if_pos ⟨g1, g2⟩, tn_nI (show j < 2147483648 by omega), tn_nI (show La < 2147483648 by omega), hzr]
            rw [tn_nI (show ii < 2147483648 by omega)]
            exact (if_pos e0).symm
        · refine r_iload dX4_item_47 rfl ?_
          refine r_iret dX4_item_49 rfl (by decide) (by decide) ?_
          refine ⟨rfl, congrArg (fun x => some (Value.int x)) ?_, ?_⟩
          · rw [sp_item, if_pos ⟨g1, g2⟩, tn_nI (show j < 2147483648 by omega), tn_nI (show La < 2147483648 by omega), hzr]
            exact (if_neg (by assumption)).symm
          · rw [mc_item, if_pos ⟨g1, g2⟩, tn_nI (show j < 2147483648 by omega), tn_nI (show La < 2147483648 by omega), hzr]
            exact (if_neg (by assumption)).symm
    · have c2 : ¬ ((0 : Int) ≤ w.toInt ∧ w.toInt < (4 : Int)) := c2
      have b2 : ¬ (0 ≤ w.toInt ∧ w.toInt ≤ 3) := by omega
      refine r_iconst (v := (-1)) dX4_item_14 rfl ?_
      refine r_iret dX4_item_15 rfl (by decide) (by decide) ?_
      refine ⟨rfl, congrArg (fun x => some (Value.int x)) ?_, ?_⟩
      · rw [sp_item, if_neg]
        intro h9; first | exact absurd h9 (by assumption) | exact absurd h9.1 (by assumption) | exact absurd h9.2 (by assumption) | exact absurd h9.2.1 (by assumption) | exact absurd h9.2.2 (by assumption) | exact absurd h9.2.2.1 (by assumption) | exact absurd h9.2.2.2 (by assumption) | exact absurd h9.2.2.2.1 (by assumption) | exact absurd h9.2.2.2.2 (by assumption)
      · rw [mc_item, if_neg]
        intro h9; first | exact absurd h9 (by assumption) | exact absurd h9.1 (by assumption) | exact absurd h9.2 (by assumption) | exact absurd h9.2.1 (by assumption) | exact absurd h9.2.2 (by assumption) | exact absurd h9.2.2.1 (by assumption) | exact absurd h9.2.2.2 (by assumption) | exact absurd h9.2.2.2.1 (by assumption) | exact absurd h9.2.2.2.2 (by assumption)

set_option maxHeartbeats 4000000 in
set_option maxRecDepth 100000 in
theorem c5p_item (l : Launch) {rw : List zC} {M : zM} {t : Nat → Nat → Nat} {z : Nat → Option (Nat × Nat × Nat)} (hR : RI t M) (hC : SHR z (t 42) M) (x w i : Int32) (v : Int64) : CT l false 2 0 0 yX5_item cX5_item 7 (some .int) [.ref 34, .int x, .int w, .int i, .long v] (zSh ++ rw) M (zG (zSh ++ rw) (fun v9 M9 => v9 = some (.int (sp_item z (t 42) x w i)) ∧ M9 = mr_item z (t 42) x w i v M)) := by
  refine CT.ofN (by decide) (fun _ _ => Nat.le_of_ble_eq_true rfl) ?_
  refine r_iload_n dX5_item_0 rfl rfl ?_
  refine r_cS1F ms_X5_isSheet ml_X5_194 (c5_isSheet l _) dX5_item_1 (Nat.le_of_ble_eq_true rfl) ⟨by decide, by decide⟩ ⟨by decide, by decide⟩ (fun _ h => nomatch h) ?_
  try dsimp only [zrst, List.cons_append, List.nil_append]
  first | refine r_if_eqB (tgt := 14) dX5_item_4 (by decide) (fun c1 => ?_) (fun c1 => ?_) | refine r_if_eqN (tgt := 14) dX5_item_4 (by decide) (by omega) (fun c1 => ?_) (fun c1 => ?_) | refine r_if_eq (tgt := 14) dX5_item_4 (by decide) (fun c1 => ?_) (fun c1 => ?_)
  · have c1 : ¬ ((0 : Int) ≤ x.toInt ∧ x.toInt < (4 : Int)) := c1
    have b1 : ¬ (0 ≤ x.toInt ∧ x.toInt ≤ 3) := by omega
    refine r_iconst (v := (-1)) dX5_item_14 rfl ?_
    refine r_iret dX5_item_15 rfl (by decide) (by decide) ?_
    refine ⟨rfl, congrArg (fun x => some (Value.int x)) ?_, ?_⟩
    · rw [sp_item, if_neg]
      intro h9; first | exact absurd h9 (by assumption) | exact absurd h9.1 (by assumption) | exact absurd h9.2 (by assumption) | exact absurd h9.2.1 (by assumption) | exact absurd h9.2.2 (by assumption) | exact absurd h9.2.2.1 (by assumption) | exact absurd h9.2.2.2 (by assumption) | exact absurd h9.2.2.2.1 (by assumption) | exact absurd h9.2.2.2.2 (by assumption)
    · rw [mr_item, if_neg]
      intro h9; first | exact absurd h9 (by assumption) | exact absurd h9.1 (by assumption) | exact absurd h9.2 (by assumption) | exact absurd h9.2.1 (by assumption) | exact absurd h9.2.2 (by assumption) | exact absurd h9.2.2.1 (by assumption) | exact absurd h9.2.2.2 (by assumption) | exact absurd h9.2.2.2.1 (by assumption) | exact absurd h9.2.2.2.2 (by assumption)
  · have c1 : ((0 : Int) ≤ x.toInt ∧ x.toInt < (4 : Int)) := c1
    have g1 : 0 ≤ x.toInt ∧ x.toInt ≤ 3 := by omega
    obtain ⟨j, hj1, hj2, rfl⟩ := arg_rng (a := 0) (b := 3) (show ((0 : Nat) : Int) ≤ x.toInt ∧ x.toInt ≤ ((3 : Nat) : Int) by omega)
    refine r_iload_n dX5_item_7 rfl rfl ?_
    refine r_cS1F ms_X5_isLane ml_X5_197 (c5_isLane l _) dX5_item_8 (Nat.le_of_ble_eq_true rfl) ⟨by decide, by decide⟩ ⟨by decide, by decide⟩ (fun _ h => nomatch h) ?_
    try dsimp only [zrst, List.cons_append, List.nil_append]
    first | refine r_if_neB (tgt := 16) dX5_item_11 (by decide) (fun c2 => ?_) (fun c2 => ?_) | refine r_if_neN (tgt := 16) dX5_item_11 (by decide) (by omega) (fun c2 => ?_) (fun c2 => ?_) | refine r_if_ne (tgt := 16) dX5_item_11 (by decide) (fun c2 => ?_) (fun c2 => ?_)
    · have c2 : ((0 : Int) ≤ w.toInt ∧ w.toInt < (4 : Int)) := c2
      have g2 : 0 ≤ w.toInt ∧ w.toInt ≤ 3 := by omega
      obtain ⟨La, hLa1, hLa2, rfl⟩ := arg_rng (a := 0) (b := 3) (show ((0 : Nat) : Int) ≤ w.toInt ∧ w.toInt ≤ ((3 : Nat) : Int) by omega)
      refine r_aload_n dX5_item_16 rfl rfl ?_
      refine r_iload_n dX5_item_17 rfl rfl ?_
      refine r_iload_n dX5_item_18 rfl rfl ?_
      refine r_iload_n dX5_item_19 rfl rfl ?_
      refine r_iconst (v := nI 1) dX5_item_20 rfl ?_
      rcases hzr : z j with _ | ⟨r, ri, L⟩
      · have hlr := (hC j (by omega)).1 hzr
        refine r_cV4F mv_X5_why ml_X5_200 (c5_whyN l hR (by omega) hlr _ _ _) dX5_item_21 (Nat.le_of_ble_eq_true rfl) ⟨by decide, by decide⟩ ⟨by decide, by decide⟩ sh_34 rfl (fun _ h => nomatch h) ?_
        dsimp only [zrst, List.cons_append, List.nil_append]
        refine r_istore dX5_item_24 rfl (by decide) ?_
        refine r_iload dX5_item_26 rfl ?_
        refine r_if_ge (tgt := 34) dX5_item_28 (by decide) (fun q9 => absurd q9 (by decide)) (fun _ => ?_)
        refine r_iload dX5_item_31 rfl ?_
        refine r_iret dX5_item_33 rfl (by decide) (by decide) ?_
        first
        | (refine ⟨rfl, congrArg (fun x => some (Value.int x)) ?_, ?_⟩
           · rw [sp_item, if_pos ⟨g1, g2⟩, tn_nI (show j < 2147483648 by omega), hzr]
             try rfl
           · rw [mr_item, if_pos ⟨g1, g2⟩, tn_nI (show j < 2147483648 by omega), hzr]
             try rfl)
        | (refine ⟨rfl, congrArg (fun x => some (Value.int x)) ?_, ?_⟩
           · rw [sp_item, if_pos ⟨g1, g2⟩, tn_nI (show j < 2147483648 by omega), tn_nI (show La < 2147483648 by omega), hzr]
             exact (if_neg e0).symm
           · rw [mr_item, if_pos ⟨g1, g2⟩, tn_nI (show j < 2147483648 by omega), tn_nI (show La < 2147483648 by omega), hzr]
             exact (if_neg e0).symm)
      · obtain ⟨hlr, hL, hszr⟩ := (hC j (by omega)).2 _ _ _ hzr
        refine r_cV4F mv_X5_why ml_X5_200 (c5_why l hR (by omega) (by omega) hL hlr hszr _ _) dX5_item_21 (Nat.le_of_ble_eq_true rfl) ⟨by decide, by decide⟩ ⟨by decide, by decide⟩ sh_34 rfl (fun _ h => nomatch h) ?_
        dsimp only [zrst, List.cons_append, List.nil_append]
        refine r_istore dX5_item_24 rfl (by decide) ?_
        refine r_iload dX5_item_26 rfl ?_
        refine r_if_ge (tgt := 34) dX5_item_28 (by decide) (fun c9 => ?_) (fun c9 => ?_)
        · have e0 := rfz_nn (ge_nneg c9)
          obtain ⟨eL, q1, q2, q3⟩ := rfz0 e0
          have e1 : (nI 1).toInt = 1 := rfl
          rw [e1] at q3
          obtain ⟨ii, hi1, rfl, hi2⟩ := arg_pos2 q1
          refine r_aload_n dX5_item_34 rfl rfl ?_
          refine r_getR fl_X5_34 dX5_item_35 sh_34 rfl ?_
          refine r_bipush (v := nI 24) dX5_item_38 rfl ?_
          refine r_iload_n dX5_item_40 rfl rfl ?_
          first | refine r_imulN dX5_item_41 ?_ | refine r_imul dX5_item_41 ?_
          refine r_iload_n dX5_item_42 rfl rfl ?_
          first | refine r_iaddN dX5_item_43 ?_ | refine r_iadd dX5_item_43 ?_
          refine r_iload_n dX5_item_44 rfl rfl ?_
          refine r_lload dX5_item_45 rfl ?_
          refine r_cS2F ms_X5_lowest ml_X5_205 (c5_lowest l v (by omega)) dX5_item_47 (Nat.le_of_ble_eq_true rfl) ⟨by decide, by decide⟩ ⟨by decide, by decide⟩ (fun _ h => nomatch h) ?_
          try dsimp only [zrst, List.cons_append, List.nil_append]
          refine r_lastN dX5_item_50 sh_43 (by omega) (by decide) ?_
          rw [fil_1]
          refine r_iconst (v := nI 1) dX5_item_51 rfl ?_
          refine r_iret dX5_item_52 rfl (by decide) (by decide) ?_
          refine ⟨rfl, congrArg (fun x => some (Value.int x)) ?_, ?_⟩
          · rw [sp_item, if_pos ⟨g1, g2⟩, tn_nI (show j < 2147483648 by omega), tn_nI (show La < 2147483648 by omega), hzr]
            exact (if_pos e0).symm
          · rw [mr_item, if_pos ⟨g1, g2⟩, tn_nI (show j < 2147483648 by omega), tn_nI (show La < 2147483648 by omega), hzr]
            rw [tn_nI (show ii < 2147483648 by omega), eL]
            exact (if_pos (eL ▸ e0)).symm
        · have e0 := rfz_neg (nge_neg c9)
          refine r_iload dX5_item_31 rfl ?_
          refine r_iret dX5_item_33 rfl (by decide) (by decide) ?_
          first
          | (refine ⟨rfl, congrArg (fun x => some (Value.int x)) ?_, ?_⟩
             · rw [sp_item, if_pos ⟨g1, g2⟩, tn_nI (show j < 2147483648 by omega), hzr]
               try rfl
             · rw [mr_item, if_pos ⟨g1, g2⟩, tn_nI (show j < 2147483648 by omega), hzr]
               try rfl)
          | (refine ⟨rfl, congrArg (fun x => some (Value.int x)) ?_, ?_⟩
             · rw [sp_item, if_pos ⟨g1, g2⟩, tn_nI (show j < 2147483648 by omega), tn_nI (show La < 2147483648 by omega), hzr]
               exact (if_neg e0).symm
             · rw [mr_item, if_pos ⟨g1, g2⟩, tn_nI (show j < 2147483648 by omega), tn_nI (show La < 2147483648 by omega), hzr]
               exact (if_neg e0).symm)
    · have c2 : ¬ ((0 : Int) ≤ w.toInt ∧ w.toInt < (4 : Int)) := c2
      have b2 : ¬ (0 ≤ w.toInt ∧ w.toInt ≤ 3) := by omega
      refine r_iconst (v := (-1)) dX5_item_14 rfl ?_
      refine r_iret dX5_item_15 rfl (by decide) (by decide) ?_
      refine ⟨rfl, congrArg (fun x => some (Value.int x)) ?_, ?_⟩
      · rw [sp_item, if_neg]
        intro h9; first | exact absurd h9 (by assumption) | exact absurd h9.1 (by assumption) | exact absurd h9.2 (by assumption) | exact absurd h9.2.1 (by assumption) | exact absurd h9.2.2 (by assumption) | exact absurd h9.2.2.1 (by assumption) | exact absurd h9.2.2.2 (by assumption) | exact absurd h9.2.2.2.1 (by assumption) | exact absurd h9.2.2.2.2 (by assumption)
      · rw [mr_item, if_neg]
        intro h9; first | exact absurd h9 (by assumption) | exact absurd h9.1 (by assumption) | exact absurd h9.2 (by assumption) | exact absurd h9.2.1 (by assumption) | exact absurd h9.2.2 (by assumption) | exact absurd h9.2.2.1 (by assumption) | exact absurd h9.2.2.2 (by assumption) | exact absurd h9.2.2.2.1 (by assumption) | exact absurd h9.2.2.2.2 (by assumption)

