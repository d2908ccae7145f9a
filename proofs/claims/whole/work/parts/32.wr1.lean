set_option maxHeartbeats 4000000 in
set_option maxRecDepth 100000 in
theorem c5p_own (l : Launch) {rw : List zC} {M0 : zM} {t : Nat → Nat → Nat} (hR : RI t M0) (hn : NB (t 35)) (x z w : Int32) : CT l false 2 0 0 yX5_own cX5_own 5 (some .int) [.ref 34, .int x, .int z, .int w] (zSh ++ rw) M0 (zG (zSh ++ rw) (zQR (sp_own t x z w) (st_own t x z w) M0)) := by
  refine CT.ofN (by decide) (fun _ _ => Nat.le_of_ble_eq_true rfl) ?_
  have hdd := hn.2.2.2.2.2.2.2.2.2.2.2
  have hkd := hn.2.2.2.2.2.2.2.2.1
  have how := hn.2.2.2.2.2.2.2.2.2.1
  have hcu := hn.2.2.2.2.2.2.2.2.2.2.1
  have hb0 := hn.1
  have hb1 := hn.2.1
  have hb2 := hn.2.2.1
  have hb3 := hn.2.2.2.1
  have hb4 := hn.2.2.2.2.1
  have hb5 := hn.2.2.2.2.2.1
  have hb6 := hn.2.2.2.2.2.2.1
  have hF : zfr PR M0 M0 := zfr.rf
  refine r_aload_n dX5_own_0 rfl rfl ?_
  refine r_iload_n dX5_own_1 rfl rfl ?_
  refine r_cV1F mv_X5_isPerson ml_X5_93 (c5_isPerson l hR (by omega) _) dX5_own_2 (Nat.le_of_ble_eq_true rfl) ⟨by decide, by decide⟩ ⟨by decide, by decide⟩ sh_34 rfl (fun _ h => nomatch h) ?_
  try dsimp only [zrst, List.cons_append, List.nil_append]
  first | refine r_if_eqB (tgt := 29) dX5_own_5 (by decide) (fun c1 => ?_) (fun c1 => ?_) | refine r_if_eqN (tgt := 29) dX5_own_5 (by decide) (by omega) (fun c1 => ?_) (fun c1 => ?_) | refine r_if_eq (tgt := 29) dX5_own_5 (by decide) (fun c1 => ?_) (fun c1 => ?_)
  · have b1 : ¬ (0 ≤ x.toInt ∧ x.toInt < (t 35 0 : Int)) := by omega
    refine r_iconst (v := (-1)) dX5_own_29 rfl ?_
    refine r_iret dX5_own_30 rfl (by decide) (by decide) ?_
    refine ⟨rfl, congrArg (fun x => some (Value.int x)) ?_, ?_, hF⟩
    · rw [sp_own, if_neg]
      intro h9; first | exact absurd h9 (by assumption) | exact absurd h9.1 (by assumption) | exact absurd h9.2 (by assumption) | exact absurd h9.2.1 (by assumption) | exact absurd h9.2.2 (by assumption) | exact absurd h9.2.2.1 (by assumption) | exact absurd h9.2.2.2 (by assumption) | exact absurd h9.2.2.2.1 (by assumption) | exact absurd h9.2.2.2.2 (by assumption)
    · rw [st_own, if_neg]
      · exact hR
      · intro h9; first | exact absurd h9 (by assumption) | exact absurd h9.1 (by assumption) | exact absurd h9.2 (by assumption) | exact absurd h9.2.1 (by assumption) | exact absurd h9.2.2 (by assumption) | exact absurd h9.2.2.1 (by assumption) | exact absurd h9.2.2.2 (by assumption) | exact absurd h9.2.2.2.1 (by assumption) | exact absurd h9.2.2.2.2 (by assumption)
  · have g1 : 0 ≤ x.toInt ∧ x.toInt < (t 35 0 : Int) := by omega
    obtain ⟨p, hp, rfl⟩ := arg_nat (n := t 35 0) (show 0 ≤ x.toInt ∧ x.toInt < ((t 35 0 : Nat) : Int) by omega)
    refine r_iload_n dX5_own_8 rfl rfl ?_
    refine r_cS1F ms_X5_isMeasure ml_X5_97 (c5_isMeasure l _) dX5_own_9 (Nat.le_of_ble_eq_true rfl) ⟨by decide, by decide⟩ ⟨by decide, by decide⟩ (fun _ h => nomatch h) ?_
    try dsimp only [zrst, List.cons_append, List.nil_append]
    first | refine r_if_eqB (tgt := 29) dX5_own_12 (by decide) (fun c2 => ?_) (fun c2 => ?_) | refine r_if_eqN (tgt := 29) dX5_own_12 (by decide) (by omega) (fun c2 => ?_) (fun c2 => ?_) | refine r_if_eq (tgt := 29) dX5_own_12 (by decide) (fun c2 => ?_) (fun c2 => ?_)
    · have c2 : ¬ ((0 : Int) ≤ z.toInt ∧ z.toInt < (4 : Int)) := c2
      have b2 : ¬ (0 ≤ z.toInt ∧ z.toInt ≤ 3) := by omega
      refine r_iconst (v := (-1)) dX5_own_29 rfl ?_
      refine r_iret dX5_own_30 rfl (by decide) (by decide) ?_
      refine ⟨rfl, congrArg (fun x => some (Value.int x)) ?_, ?_, hF⟩
      · rw [sp_own, if_neg]
        intro h9; first | exact absurd h9 (by assumption) | exact absurd h9.1 (by assumption) | exact absurd h9.2 (by assumption) | exact absurd h9.2.1 (by assumption) | exact absurd h9.2.2 (by assumption) | exact absurd h9.2.2.1 (by assumption) | exact absurd h9.2.2.2 (by assumption) | exact absurd h9.2.2.2.1 (by assumption) | exact absurd h9.2.2.2.2 (by assumption)
      · rw [st_own, if_neg]
        · exact hR
        · intro h9; first | exact absurd h9 (by assumption) | exact absurd h9.1 (by assumption) | exact absurd h9.2 (by assumption) | exact absurd h9.2.1 (by assumption) | exact absurd h9.2.2 (by assumption) | exact absurd h9.2.2.1 (by assumption) | exact absurd h9.2.2.2 (by assumption) | exact absurd h9.2.2.2.1 (by assumption) | exact absurd h9.2.2.2.2 (by assumption)
    · have c2 : ((0 : Int) ≤ z.toInt ∧ z.toInt < (4 : Int)) := c2
      have g2 : 0 ≤ z.toInt ∧ z.toInt ≤ 3 := by omega
      obtain ⟨q, hq1, hq2, rfl⟩ := arg_rng (a := 0) (b := 3) (show ((0 : Nat) : Int) ≤ z.toInt ∧ z.toInt ≤ ((3 : Nat) : Int) by omega)
      refine r_iload_n dX5_own_15 rfl rfl ?_
      refine r_i2l dX5_own_16 rfl ?_
      refine r_ldc2 kc_X5_85 dX5_own_17 ?_
      refine r_ldc2 kc_X5_87 dX5_own_20 ?_
      refine r_cS3F ms_X5_in ml_X5_41 (c5_in l _ _ _) dX5_own_23 (Nat.le_of_ble_eq_true rfl) ⟨by decide, by decide⟩ ⟨by decide, by decide⟩ (fun _ h => nomatch h) ?_
      try dsimp only [zrst, List.cons_append, List.nil_append]
      first | refine r_if_neB (tgt := 31) dX5_own_26 (by decide) (fun c3 => ?_) (fun c3 => ?_) | refine r_if_neN (tgt := 31) dX5_own_26 (by decide) (by omega) (fun c3 => ?_) (fun c3 => ?_) | refine r_if_ne (tgt := 31) dX5_own_26 (by decide) (fun c3 => ?_) (fun c3 => ?_)
      · rw [i64_of32] at c3
        have c3 : ((10 : Int) ≤ w.toInt ∧ w.toInt ≤ (99 : Int)) := c3
        have g3 : 10 ≤ w.toInt ∧ w.toInt ≤ 99 := by omega
        obtain ⟨k, hk1, hk2, rfl⟩ := arg_rng (a := 10) (b := 99) (show ((10 : Nat) : Int) ≤ w.toInt ∧ w.toInt ≤ ((99 : Nat) : Int) by omega)
        refine r_aload_n dX5_own_31 rfl rfl ?_
        refine r_iload_n dX5_own_32 rfl rfl ?_
        refine r_iload_n dX5_own_33 rfl rfl ?_
        refine r_cV2F mv_X5_ownOf ml_X5_55 (c5_ownOf l hR (by omega) (by omega)) dX5_own_34 (Nat.le_of_ble_eq_true rfl) ⟨by decide, by decide⟩ ⟨by decide, by decide⟩ sh_34 rfl (fun _ h => nomatch h) ?_
        try dsimp only [zrst, List.cons_append, List.nil_append]
        refine r_istore dX5_own_37 rfl (by decide) ?_
        refine r_aload_n dX5_own_39 rfl rfl ?_
        refine r_getR fl_X5_7 dX5_own_40 sh_34 rfl ?_
        refine r_bipush (v := nI 8) dX5_own_43 rfl ?_
        refine r_iconst (v := nI 5) dX5_own_45 rfl ?_
        refine r_iload_n dX5_own_46 rfl rfl ?_
        first | refine r_imulN dX5_own_47 ?_ | refine r_imul dX5_own_47 ?_
        first | refine r_iaddN dX5_own_48 ?_ | refine r_iadd dX5_own_48 ?_
        refine r_iconst (v := nI 1) dX5_own_49 rfl ?_
        first | refine r_iaddN dX5_own_50 ?_ | refine r_iadd dX5_own_50 ?_
        refine r_iload_n dX5_own_51 rfl rfl ?_
        first | refine r_iaddN dX5_own_52 ?_ | refine r_iadd dX5_own_52 ?_
        refine r_iload_n dX5_own_53 rfl rfl ?_
        refine r_Rast dX5_own_54 sh_35 (by omega) (by decide) hR (by decide) (fun M hR hF1 => ?_)
        have hF := hF.trans hF1
        refine r_iload dX5_own_55 rfl ?_
        refine r_iret dX5_own_57 rfl (by decide) (by decide) ?_
        refine ⟨rfl, congrArg (fun x => some (Value.int x)) ?_, ?_, hF⟩
        · rw [sp_own, if_pos ⟨g1, g2, g3⟩, tn_nI (show p < 2147483648 by omega), tn_nI (show q < 2147483648 by omega)]
        · rw [st_own, if_pos ⟨g1, g2, g3⟩, tn_nI (show p < 2147483648 by omega), tn_nI (show q < 2147483648 by omega), tn_nI (show k < 2147483648 by omega)]
          exact hR
      · rw [i64_of32] at c3
        have c3 : ¬ ((10 : Int) ≤ w.toInt ∧ w.toInt ≤ (99 : Int)) := c3
        have b3 : ¬ (10 ≤ w.toInt ∧ w.toInt ≤ 99) := by omega
        refine r_iconst (v := (-1)) dX5_own_29 rfl ?_
        refine r_iret dX5_own_30 rfl (by decide) (by decide) ?_
        refine ⟨rfl, congrArg (fun x => some (Value.int x)) ?_, ?_, hF⟩
        · rw [sp_own, if_neg]
          intro h9; first | exact absurd h9 (by assumption) | exact absurd h9.1 (by assumption) | exact absurd h9.2 (by assumption) | exact absurd h9.2.1 (by assumption) | exact absurd h9.2.2 (by assumption) | exact absurd h9.2.2.1 (by assumption) | exact absurd h9.2.2.2 (by assumption) | exact absurd h9.2.2.2.1 (by assumption) | exact absurd h9.2.2.2.2 (by assumption)
        · rw [st_own, if_neg]
          · exact hR
          · intro h9; first | exact absurd h9 (by assumption) | exact absurd h9.1 (by assumption) | exact absurd h9.2 (by assumption) | exact absurd h9.2.1 (by assumption) | exact absurd h9.2.2 (by assumption) | exact absurd h9.2.2.1 (by assumption) | exact absurd h9.2.2.2 (by assumption) | exact absurd h9.2.2.2.1 (by assumption) | exact absurd h9.2.2.2.2 (by assumption)

set_option maxHeartbeats 4000000 in
set_option maxRecDepth 100000 in
theorem c5p_cut (l : Launch) {rw : List zC} {M0 : zM} {t : Nat → Nat → Nat} (hR : RI t M0) (hn : NB (t 35)) (x z w : Int32) : CT l false 2 0 0 yX5_cut cX5_cut 5 (some .int) [.ref 34, .int x, .int z, .int w] (zSh ++ rw) M0 (zG (zSh ++ rw) (zQR (sp_cut t x z w) (st_cut t x z w) M0)) := by
  refine CT.ofN (by decide) (fun _ _ => Nat.le_of_ble_eq_true rfl) ?_
  have hdd := hn.2.2.2.2.2.2.2.2.2.2.2
  have hkd := hn.2.2.2.2.2.2.2.2.1
  have how := hn.2.2.2.2.2.2.2.2.2.1
  have hcu := hn.2.2.2.2.2.2.2.2.2.2.1
  have hb0 := hn.1
  have hb1 := hn.2.1
  have hb2 := hn.2.2.1
  have hb3 := hn.2.2.2.1
  have hb4 := hn.2.2.2.2.1
  have hb5 := hn.2.2.2.2.2.1
  have hb6 := hn.2.2.2.2.2.2.1
  have hF : zfr PR M0 M0 := zfr.rf
  refine r_aload_n dX5_cut_0 rfl rfl ?_
  refine r_iload_n dX5_cut_1 rfl rfl ?_
  refine r_cV1F mv_X5_isSuit ml_X5_102 (c5_isSuit l hR (by omega) _) dX5_cut_2 (Nat.le_of_ble_eq_true rfl) ⟨by decide, by decide⟩ ⟨by decide, by decide⟩ sh_34 rfl (fun _ h => nomatch h) ?_
  try dsimp only [zrst, List.cons_append, List.nil_append]
  first | refine r_if_eqB (tgt := 27) dX5_cut_5 (by decide) (fun c1 => ?_) (fun c1 => ?_) | refine r_if_eqN (tgt := 27) dX5_cut_5 (by decide) (by omega) (fun c1 => ?_) (fun c1 => ?_) | refine r_if_eq (tgt := 27) dX5_cut_5 (by decide) (fun c1 => ?_) (fun c1 => ?_)
  · have b1 : ¬ (0 ≤ x.toInt ∧ x.toInt < (t 35 1 : Int)) := by omega
    refine r_iconst (v := (-1)) dX5_cut_27 rfl ?_
    refine r_iret dX5_cut_28 rfl (by decide) (by decide) ?_
    refine ⟨rfl, congrArg (fun x => some (Value.int x)) ?_, ?_, hF⟩
    · rw [sp_cut, if_neg]
      intro h9; first | exact absurd h9 (by assumption) | exact absurd h9.1 (by assumption) | exact absurd h9.2 (by assumption) | exact absurd h9.2.1 (by assumption) | exact absurd h9.2.2 (by assumption) | exact absurd h9.2.2.1 (by assumption) | exact absurd h9.2.2.2 (by assumption) | exact absurd h9.2.2.2.1 (by assumption) | exact absurd h9.2.2.2.2 (by assumption)
    · rw [st_cut, if_neg]
      · exact hR
      · intro h9; first | exact absurd h9 (by assumption) | exact absurd h9.1 (by assumption) | exact absurd h9.2 (by assumption) | exact absurd h9.2.1 (by assumption) | exact absurd h9.2.2 (by assumption) | exact absurd h9.2.2.1 (by assumption) | exact absurd h9.2.2.2 (by assumption) | exact absurd h9.2.2.2.1 (by assumption) | exact absurd h9.2.2.2.2 (by assumption)
  · have g1 : 0 ≤ x.toInt ∧ x.toInt < (t 35 1 : Int) := by omega
    obtain ⟨p, hp, rfl⟩ := arg_nat (n := t 35 1) (show 0 ≤ x.toInt ∧ x.toInt < ((t 35 1 : Nat) : Int) by omega)
    refine r_iload_n dX5_cut_8 rfl rfl ?_
    refine r_cS1F ms_X5_isMeasure ml_X5_97 (c5_isMeasure l _) dX5_cut_9 (Nat.le_of_ble_eq_true rfl) ⟨by decide, by decide⟩ ⟨by decide, by decide⟩ (fun _ h => nomatch h) ?_
    try dsimp only [zrst, List.cons_append, List.nil_append]
    first | refine r_if_eqB (tgt := 27) dX5_cut_12 (by decide) (fun c2 => ?_) (fun c2 => ?_) | refine r_if_eqN (tgt := 27) dX5_cut_12 (by decide) (by omega) (fun c2 => ?_) (fun c2 => ?_) | refine r_if_eq (tgt := 27) dX5_cut_12 (by decide) (fun c2 => ?_) (fun c2 => ?_)
    · have c2 : ¬ ((0 : Int) ≤ z.toInt ∧ z.toInt < (4 : Int)) := c2
      have b2 : ¬ (0 ≤ z.toInt ∧ z.toInt ≤ 3) := by omega
      refine r_iconst (v := (-1)) dX5_cut_27 rfl ?_
      refine r_iret dX5_cut_28 rfl (by decide) (by decide) ?_
      refine ⟨rfl, congrArg (fun x => some (Value.int x)) ?_, ?_, hF⟩
      · rw [sp_cut, if_neg]
        intro h9; first | exact absurd h9 (by assumption) | exact absurd h9.1 (by assumption) | exact absurd h9.2 (by assumption) | exact absurd h9.2.1 (by assumption) | exact absurd h9.2.2 (by assumption) | exact absurd h9.2.2.1 (by assumption) | exact absurd h9.2.2.2 (by assumption) | exact absurd h9.2.2.2.1 (by assumption) | exact absurd h9.2.2.2.2 (by assumption)
      · rw [st_cut, if_neg]
        · exact hR
        · intro h9; first | exact absurd h9 (by assumption) | exact absurd h9.1 (by assumption) | exact absurd h9.2 (by assumption) | exact absurd h9.2.1 (by assumption) | exact absurd h9.2.2 (by assumption) | exact absurd h9.2.2.1 (by assumption) | exact absurd h9.2.2.2 (by assumption) | exact absurd h9.2.2.2.1 (by assumption) | exact absurd h9.2.2.2.2 (by assumption)
    · have c2 : ((0 : Int) ≤ z.toInt ∧ z.toInt < (4 : Int)) := c2
      have g2 : 0 ≤ z.toInt ∧ z.toInt ≤ 3 := by omega
      obtain ⟨q, hq1, hq2, rfl⟩ := arg_rng (a := 0) (b := 3) (show ((0 : Nat) : Int) ≤ z.toInt ∧ z.toInt ≤ ((3 : Nat) : Int) by omega)
      refine r_iload_n dX5_cut_15 rfl rfl ?_
      refine r_i2l dX5_cut_16 rfl ?_
      refine r_lconst (v := 0) dX5_cut_17 rfl ?_
      refine r_ldc2 kc_X5_100 dX5_cut_18 ?_
      refine r_cS3F ms_X5_in ml_X5_41 (c5_in l _ _ _) dX5_cut_21 (Nat.le_of_ble_eq_true rfl) ⟨by decide, by decide⟩ ⟨by decide, by decide⟩ (fun _ h => nomatch h) ?_
      try dsimp only [zrst, List.cons_append, List.nil_append]
      first | refine r_if_neB (tgt := 29) dX5_cut_24 (by decide) (fun c3 => ?_) (fun c3 => ?_) | refine r_if_neN (tgt := 29) dX5_cut_24 (by decide) (by omega) (fun c3 => ?_) (fun c3 => ?_) | refine r_if_ne (tgt := 29) dX5_cut_24 (by decide) (fun c3 => ?_) (fun c3 => ?_)
      · rw [i64_of32] at c3
        have c3 : ((0 : Int) ≤ w.toInt ∧ w.toInt ≤ (199 : Int)) := c3
        have g3 : 0 ≤ w.toInt ∧ w.toInt ≤ 199 := by omega
        obtain ⟨k, hk1, hk2, rfl⟩ := arg_rng (a := 0) (b := 199) (show ((0 : Nat) : Int) ≤ w.toInt ∧ w.toInt ≤ ((199 : Nat) : Int) by omega)
        refine r_aload_n dX5_cut_29 rfl rfl ?_
        refine r_iload_n dX5_cut_30 rfl rfl ?_
        refine r_iload_n dX5_cut_31 rfl rfl ?_
        refine r_cV2F mv_X5_cutOf ml_X5_73 (c5_cutOf l hR (by omega) (by omega)) dX5_cut_32 (Nat.le_of_ble_eq_true rfl) ⟨by decide, by decide⟩ ⟨by decide, by decide⟩ sh_34 rfl (fun _ h => nomatch h) ?_
        try dsimp only [zrst, List.cons_append, List.nil_append]
        refine r_istore dX5_cut_35 rfl (by decide) ?_
        refine r_aload_n dX5_cut_37 rfl rfl ?_
        refine r_getR fl_X5_7 dX5_cut_38 sh_34 rfl ?_
        refine r_bipush (v := nI 33) dX5_cut_41 rfl ?_
        refine r_iconst (v := nI 4) dX5_cut_43 rfl ?_
        refine r_iload_n dX5_cut_44 rfl rfl ?_
        first | refine r_imulN dX5_cut_45 ?_ | refine r_imul dX5_cut_45 ?_
        first | refine r_iaddN dX5_cut_46 ?_ | refine r_iadd dX5_cut_46 ?_
        refine r_iload_n dX5_cut_47 rfl rfl ?_
        first | refine r_iaddN dX5_cut_48 ?_ | refine r_iadd dX5_cut_48 ?_
        refine r_iload_n dX5_cut_49 rfl rfl ?_
        refine r_Rast dX5_cut_50 sh_35 (by omega) (by decide) hR (by decide) (fun M hR hF1 => ?_)
        have hF := hF.trans hF1
        refine r_iload dX5_cut_51 rfl ?_
        refine r_iret dX5_cut_53 rfl (by decide) (by decide) ?_
        refine ⟨rfl, congrArg (fun x => some (Value.int x)) ?_, ?_, hF⟩
        · rw [sp_cut, if_pos ⟨g1, g2, g3⟩, tn_nI (show p < 2147483648 by omega), tn_nI (show q < 2147483648 by omega)]
        · rw [st_cut, if_pos ⟨g1, g2, g3⟩, tn_nI (show p < 2147483648 by omega), tn_nI (show q < 2147483648 by omega), tn_nI (show k < 2147483648 by omega)]
          exact hR
      · rw [i64_of32] at c3
        have c3 : ¬ ((0 : Int) ≤ w.toInt ∧ w.toInt ≤ (199 : Int)) := c3
        have b3 : ¬ (0 ≤ w.toInt ∧ w.toInt ≤ 199) := by omega
        refine r_iconst (v := (-1)) dX5_cut_27 rfl ?_
        refine r_iret dX5_cut_28 rfl (by decide) (by decide) ?_
        refine ⟨rfl, congrArg (fun x => some (Value.int x)) ?_, ?_, hF⟩
        · rw [sp_cut, if_neg]
          intro h9; first | exact absurd h9 (by assumption) | exact absurd h9.1 (by assumption) | exact absurd h9.2 (by assumption) | exact absurd h9.2.1 (by assumption) | exact absurd h9.2.2 (by assumption) | exact absurd h9.2.2.1 (by assumption) | exact absurd h9.2.2.2 (by assumption) | exact absurd h9.2.2.2.1 (by assumption) | exact absurd h9.2.2.2.2 (by assumption)
        · rw [st_cut, if_neg]
          · exact hR
          · intro h9; first | exact absurd h9 (by assumption) | exact absurd h9.1 (by assumption) | exact absurd h9.2 (by assumption) | exact absurd h9.2.1 (by assumption) | exact absurd h9.2.2 (by assumption) | exact absurd h9.2.2.1 (by assumption) | exact absurd h9.2.2.2 (by assumption) | exact absurd h9.2.2.2.1 (by assumption) | exact absurd h9.2.2.2.2 (by assumption)

set_option maxHeartbeats 4000000 in
set_option maxRecDepth 100000 in
theorem c5p_seed (l : Launch) {rw : List zC} {M0 : zM} {t : Nat → Nat → Nat} (hR : RI t M0) (hn : NB (t 35)) (x : Int32) : CT l false 0 0 0 yX5_seed cX5_seed 3 (some .int) [.ref 34, .int x] (zSh ++ rw) M0 (zG (zSh ++ rw) (zQR (sp_seed t x) (st_seed t x) M0)) := by
  refine CT.ofN (by decide) (fun _ _ => Nat.le_of_ble_eq_true rfl) ?_
  have hdd := hn.2.2.2.2.2.2.2.2.2.2.2
  have hkd := hn.2.2.2.2.2.2.2.2.1
  have how := hn.2.2.2.2.2.2.2.2.2.1
  have hcu := hn.2.2.2.2.2.2.2.2.2.2.1
  have hb0 := hn.1
  have hb1 := hn.2.1
  have hb2 := hn.2.2.1
  have hb3 := hn.2.2.2.1
  have hb4 := hn.2.2.2.2.1
  have hb5 := hn.2.2.2.2.2.1
  have hb6 := hn.2.2.2.2.2.2.1
  have hF : zfr PR M0 M0 := zfr.rf
  refine r_iload_n dX5_seed_0 rfl rfl ?_
  refine r_if_ge (tgt := 6) dX5_seed_1 (by decide) (fun c1 => ?_) (fun c1 => ?_)
  · have g1 : 0 ≤ x.toInt := i32_le.mp c1
    have hxr := i32_rng x
    obtain ⟨k, hk1, hk2, rfl⟩ := arg_rng (a := 0) (b := 2147483647) (show ((0 : Nat) : Int) ≤ x.toInt ∧ x.toInt ≤ ((2147483647 : Nat) : Int) by omega)
    refine r_aload_n dX5_seed_6 rfl rfl ?_
    refine r_getR fl_X5_7 dX5_seed_7 sh_34 rfl ?_
    refine r_bipush (v := nI 7) dX5_seed_10 rfl ?_
    refine r_ialdN dX5_seed_12 sh_35 (by omega) (by decide) (hR.a35 _) ?_
    refine r_istore_n dX5_seed_13 rfl rfl (by decide) ?_
    refine r_aload_n dX5_seed_14 rfl rfl ?_
    refine r_getR fl_X5_7 dX5_seed_15 sh_34 rfl ?_
    refine r_bipush (v := nI 7) dX5_seed_18 rfl ?_
    refine r_iload_n dX5_seed_20 rfl rfl ?_
    refine r_Rast dX5_seed_21 sh_35 (by omega) (by decide) hR (by decide) (fun M hR hF1 => ?_)
    have hF := hF.trans hF1
    refine r_iload_n dX5_seed_22 rfl rfl ?_
    refine r_iret dX5_seed_23 rfl (by decide) (by decide) ?_
    refine ⟨rfl, congrArg (fun x => some (Value.int x)) ?_, ?_, hF⟩
    · rw [sp_seed, if_pos (g1)]
    · rw [st_seed, if_pos (g1), tn_nI (show k < 2147483648 by omega)]
      exact hR
  · have b1 : ¬ 0 ≤ x.toInt := fun h => c1 (i32_le.mpr h)
    refine r_iconst (v := (-1)) dX5_seed_4 rfl ?_
    refine r_iret dX5_seed_5 rfl (by decide) (by decide) ?_
    refine ⟨rfl, congrArg (fun x => some (Value.int x)) ?_, ?_, hF⟩
    · rw [sp_seed, if_neg]
      intro h9; first | exact absurd h9 (by assumption) | exact absurd h9.1 (by assumption) | exact absurd h9.2 (by assumption) | exact absurd h9.2.1 (by assumption) | exact absurd h9.2.2 (by assumption) | exact absurd h9.2.2.1 (by assumption) | exact absurd h9.2.2.2 (by assumption) | exact absurd h9.2.2.2.1 (by assumption) | exact absurd h9.2.2.2.2 (by assumption)
    · rw [st_seed, if_neg]
      · exact hR
      · intro h9; first | exact absurd h9 (by assumption) | exact absurd h9.1 (by assumption) | exact absurd h9.2 (by assumption) | exact absurd h9.2.1 (by assumption) | exact absurd h9.2.2 (by assumption) | exact absurd h9.2.2.1 (by assumption) | exact absurd h9.2.2.2 (by assumption) | exact absurd h9.2.2.2.1 (by assumption) | exact absurd h9.2.2.2.2 (by assumption)

theorem SI_own {t : Nat → Nat → Nat} {M : zM} {p q v : Nat} (h : SI 1 (t 35) (t 38) (t 34 7) M) (hn : NB (t 35)) (hp : p < t 35 0) (hq : q < 4) : SI 1 (ts t 35 (8 + 5 * p + 1 + q) v 35) (ts t 35 (8 + 5 * p + 1 + q) v 38) (ts t 35 (8 + 5 * p + 1 + q) v 34 7) (zI M 3 (upd (M.1 3) (p * 4 + q) (nI v))) := by
  obtain ⟨⟨f0, f1, f2, f3, f4, f5, f6, f7, f8⟩, a2, a3, a4, a5, a9⟩ := h
  have hb0 := hn.1
  have hb1 := hn.2.1
  have hb2 := hn.2.2.1
  have e8 : ∀ j, j ≠ 8 + 5 * p + 1 + q → ts t 35 (8 + 5 * p + 1 + q) v 35 j = t 35 j := fun j hj => ts_nk hj
  refine ⟨⟨by (try rw [e8 _ (by omega)]); exact f0, by (try rw [e8 _ (by omega)]); exact f1, by (try rw [e8 _ (by omega)]); exact f2, by (try rw [e8 _ (by omega)]); exact f3, by (try rw [e8 _ (by omega)]); exact f4, by (try rw [e8 _ (by omega)]); exact f5, by (try rw [e8 _ (by omega)]); exact f6, by (try rw [e8 _ (by omega)]); exact f7, by (try rw [e8 _ (by omega)]); exact f8⟩, ?_, ?_, ?_, ?_, ?_⟩
  · intro p2 hp2; (try rw [e8 0 (by omega)] at hp2); rw [e8 _ (by omega)]; exact a2 p2 hp2
  · intro p2 m2 hp2 hm2
    rw [e8 0 (by omega)] at hp2
    by_cases hh : p2 = p ∧ m2 = q
    · obtain ⟨rfl, rfl⟩ := hh
      rw [ts_at]
      exact pk_us
    · rw [e8 _ (by omega)]
      exact (pk_un (by omega)).trans (a3 p2 m2 hp2 hm2)
  · intro p2 m2 hp2 hm2; (try rw [e8 1 (by omega)] at hp2); rw [e8 _ (by omega)]; exact a4 p2 m2 hp2 hm2
  · intro d2 hd2; (try rw [e8 2 (by omega)] at hd2); rw [e8 _ (by omega), e8 _ (by omega), e8 _ (by omega), e8 _ (by omega)]; exact a5 d2 hd2
  · exact a9
theorem SI_cut {t : Nat → Nat → Nat} {M : zM} {p q v : Nat} (h : SI 1 (t 35) (t 38) (t 34 7) M) (hn : NB (t 35)) (hp : p < t 35 1) (hq : q < 4) : SI 1 (ts t 35 (33 + 4 * p + q) v 35) (ts t 35 (33 + 4 * p + q) v 38) (ts t 35 (33 + 4 * p + q) v 34 7) (zI M 4 (upd (M.1 4) (p * 4 + q) (nI v))) := by
  obtain ⟨⟨f0, f1, f2, f3, f4, f5, f6, f7, f8⟩, a2, a3, a4, a5, a9⟩ := h
  have hb0 := hn.1
  have hb1 := hn.2.1
  have hb2 := hn.2.2.1
  have e8 : ∀ j, j ≠ 33 + 4 * p + q → ts t 35 (33 + 4 * p + q) v 35 j = t 35 j := fun j hj => ts_nk hj
  refine ⟨⟨by (try rw [e8 _ (by omega)]); exact f0, by (try rw [e8 _ (by omega)]); exact f1, by (try rw [e8 _ (by omega)]); exact f2, by (try rw [e8 _ (by omega)]); exact f3, by (try rw [e8 _ (by omega)]); exact f4, by (try rw [e8 _ (by omega)]); exact f5, by (try rw [e8 _ (by omega)]); exact f6, by (try rw [e8 _ (by omega)]); exact f7, by (try rw [e8 _ (by omega)]); exact f8⟩, ?_, ?_, ?_, ?_, ?_⟩
  · intro p2 hp2; (try rw [e8 0 (by omega)] at hp2); rw [e8 _ (by omega)]; exact a2 p2 hp2
  · intro p2 m2 hp2 hm2; (try rw [e8 0 (by omega)] at hp2); rw [e8 _ (by omega)]; exact a3 p2 m2 hp2 hm2
  · intro p2 m2 hp2 hm2
    rw [e8 1 (by omega)] at hp2
    by_cases hh : p2 = p ∧ m2 = q
    · obtain ⟨rfl, rfl⟩ := hh
      rw [ts_at]
      exact pk_us
    · rw [e8 _ (by omega)]
      exact (pk_un (by omega)).trans (a4 p2 m2 hp2 hm2)
  · intro d2 hd2; (try rw [e8 2 (by omega)] at hd2); rw [e8 _ (by omega), e8 _ (by omega), e8 _ (by omega), e8 _ (by omega)]; exact a5 d2 hd2
  · exact a9
theorem SI_seed {t : Nat → Nat → Nat} {M : zM} {v : Nat} (h : SI 1 (t 35) (t 38) (t 34 7) M) (hn : NB (t 35))  : SI 1 (ts t 35 7 v 35) (ts t 35 7 v 38) (ts t 35 7 v 34 7) (zI M 1 (upd (M.1 1) 8 (nI v))) := by
  obtain ⟨⟨f0, f1, f2, f3, f4, f5, f6, f7, f8⟩, a2, a3, a4, a5, a9⟩ := h
  have hb0 := hn.1
  have hb1 := hn.2.1
  have hb2 := hn.2.2.1
  have e8 : ∀ j, j ≠ 7 → ts t 35 (7) v 35 j = t 35 j := fun j hj => ts_nk hj
  refine ⟨⟨by (try rw [e8 _ (by omega)]); exact f0, by (try rw [e8 _ (by omega)]); exact f1, by (try rw [e8 _ (by omega)]); exact f2, by (try rw [e8 _ (by omega)]); exact f3, by (try rw [e8 _ (by omega)]); exact f4, by (try rw [e8 _ (by omega)]); exact f5, by (try rw [e8 _ (by omega)]); exact f6, by (try rw [e8 _ (by omega)]); exact f7, by rw [ts_at, zI_at]; exact pk_us⟩, ?_, ?_, ?_, ?_, ?_⟩
  · intro p2 hp2; (try rw [e8 0 (by omega)] at hp2); rw [e8 _ (by omega)]; exact a2 p2 hp2
  · intro p2 m2 hp2 hm2; (try rw [e8 0 (by omega)] at hp2); rw [e8 _ (by omega)]; exact a3 p2 m2 hp2 hm2
  · intro p2 m2 hp2 hm2; (try rw [e8 1 (by omega)] at hp2); rw [e8 _ (by omega)]; exact a4 p2 m2 hp2 hm2
  · intro d2 hd2; (try rw [e8 2 (by omega)] at hd2); rw [e8 _ (by omega), e8 _ (by omega), e8 _ (by omega), e8 _ (by omega)]; exact a5 d2 hd2
  · exact a9
set_option maxHeartbeats 4000000 in
set_option maxRecDepth 100000 in
theorem c4_own (l : Launch) {rw : List zC} {M0 : zM} {t : Nat → Nat → Nat} (hS : SI 1 (t 35) (t 38) (t 34 7) M0) (hn : NB (t 35)) (x z w : Int32) : CT l false 2 0 0 yX4_own cX4_own 5 (some .int) [.ref 0, .int x, .int z, .int w] (zSh ++ rw) M0 (zG (zSh ++ rw) (zQC (sp_own t x z w) (st_own t x z w) (fun i => i = 3) M0)) := by
  refine CT.ofN (by decide) (fun _ _ => Nat.le_of_ble_eq_true rfl) ?_
  have hdd := hn.2.2.2.2.2.2.2.2.2.2.2
  have hkd := hn.2.2.2.2.2.2.2.2.1
  have how := hn.2.2.2.2.2.2.2.2.2.1
  have hcu := hn.2.2.2.2.2.2.2.2.2.2.1
  have hb0 := hn.1
  have hb1 := hn.2.1
  have hb2 := hn.2.2.1
  have hb3 := hn.2.2.2.1
  have hb4 := hn.2.2.2.2.1
  have hb5 := hn.2.2.2.2.2.1
  have hb6 := hn.2.2.2.2.2.2.1
  refine r_aload_n dX4_own_0 rfl rfl ?_
  refine r_getR fl_X4_10 dX4_own_1 sh_0 rfl ?_
  refine r_iload_n dX4_own_4 rfl rfl ?_
  refine r_cV1F mv_X3_hasPerson ml_X4_53 (c3_hasPerson l hS (by omega) _) dX4_own_5 (Nat.le_of_ble_eq_true rfl) ⟨by decide, by decide⟩ ⟨by decide, by decide⟩ sh_1 rfl (fun _ h => nomatch h) ?_
  try dsimp only [zrst, List.cons_append, List.nil_append]
  first | refine r_if_eqB (tgt := 29) dX4_own_8 (by decide) (fun c1 => ?_) (fun c1 => ?_) | refine r_if_eqN (tgt := 29) dX4_own_8 (by decide) (by omega) (fun c1 => ?_) (fun c1 => ?_) | refine r_if_eq (tgt := 29) dX4_own_8 (by decide) (fun c1 => ?_) (fun c1 => ?_)
  · have b1 : ¬ (0 ≤ x.toInt ∧ x.toInt < (t 35 0 : Int)) := by omega
    refine r_iconst (v := (-1)) dX4_own_29 rfl ?_
    refine r_iret dX4_own_30 rfl (by decide) (by decide) ?_
    refine ⟨rfl, congrArg (fun x => some (Value.int x)) ?_, ?_, zfr.rf⟩
    · rw [sp_own, if_neg]
      intro h9; first | exact absurd h9 (by assumption) | exact absurd h9.1 (by assumption) | exact absurd h9.2 (by assumption) | exact absurd h9.2.1 (by assumption) | exact absurd h9.2.2 (by assumption) | exact absurd h9.2.2.1 (by assumption) | exact absurd h9.2.2.2 (by assumption) | exact absurd h9.2.2.2.1 (by assumption) | exact absurd h9.2.2.2.2 (by assumption)
    · rw [st_own, if_neg]
      · exact hS
      · intro h9; first | exact absurd h9 (by assumption) | exact absurd h9.1 (by assumption) | exact absurd h9.2 (by assumption) | exact absurd h9.2.1 (by assumption) | exact absurd h9.2.2 (by assumption) | exact absurd h9.2.2.1 (by assumption) | exact absurd h9.2.2.2 (by assumption) | exact absurd h9.2.2.2.1 (by assumption) | exact absurd h9.2.2.2.2 (by assumption)
  · have g1 : 0 ≤ x.toInt ∧ x.toInt < (t 35 0 : Int) := by omega
    obtain ⟨p, hp, rfl⟩ := arg_nat (n := t 35 0) (show 0 ≤ x.toInt ∧ x.toInt < ((t 35 0 : Nat) : Int) by omega)
    refine r_iload_n dX4_own_11 rfl rfl ?_
    refine r_cS1F ms_X4_isMeasure ml_X4_57 (c4_isMeasure l _) dX4_own_12 (Nat.le_of_ble_eq_true rfl) ⟨by decide, by decide⟩ ⟨by decide, by decide⟩ (fun _ h => nomatch h) ?_
    try dsimp only [zrst, List.cons_append, List.nil_append]
    first | refine r_if_eqB (tgt := 29) dX4_own_15 (by decide) (fun c2 => ?_) (fun c2 => ?_) | refine r_if_eqN (tgt := 29) dX4_own_15 (by decide) (by omega) (fun c2 => ?_) (fun c2 => ?_) | refine r_if_eq (tgt := 29) dX4_own_15 (by decide) (fun c2 => ?_) (fun c2 => ?_)
    · have c2 : ¬ ((0 : Int) ≤ z.toInt ∧ z.toInt < (4 : Int)) := c2
      have b2 : ¬ (0 ≤ z.toInt ∧ z.toInt ≤ 3) := by omega
      refine r_iconst (v := (-1)) dX4_own_29 rfl ?_
      refine r_iret dX4_own_30 rfl (by decide) (by decide) ?_
      refine ⟨rfl, congrArg (fun x => some (Value.int x)) ?_, ?_, zfr.rf⟩
      · rw [sp_own, if_neg]
        intro h9; first | exact absurd h9 (by assumption) | exact absurd h9.1 (by assumption) | exact absurd h9.2 (by assumption) | exact absurd h9.2.1 (by assumption) | exact absurd h9.2.2 (by assumption) | exact absurd h9.2.2.1 (by assumption) | exact absurd h9.2.2.2 (by assumption) | exact absurd h9.2.2.2.1 (by assumption) | exact absurd h9.2.2.2.2 (by assumption)
      · rw [st_own, if_neg]
        · exact hS
        · intro h9; first | exact absurd h9 (by assumption) | exact absurd h9.1 (by assumption) | exact absurd h9.2 (by assumption) | exact absurd h9.2.1 (by assumption) | exact absurd h9.2.2 (by assumption) | exact absurd h9.2.2.1 (by assumption) | exact absurd h9.2.2.2 (by assumption) | exact absurd h9.2.2.2.1 (by assumption) | exact absurd h9.2.2.2.2 (by assumption)
    · have c2 : ((0 : Int) ≤ z.toInt ∧ z.toInt < (4 : Int)) := c2
      have g2 : 0 ≤ z.toInt ∧ z.toInt ≤ 3 := by omega
      obtain ⟨q, hq1, hq2, rfl⟩ := arg_rng (a := 0) (b := 3) (show ((0 : Nat) : Int) ≤ z.toInt ∧ z.toInt ≤ ((3 : Nat) : Int) by omega)
      refine r_iload_n dX4_own_18 rfl rfl ?_
      refine r_bipush (v := nI 10) dX4_own_19 rfl ?_
      refine r_bipush (v := nI 99) dX4_own_21 rfl ?_
      refine r_cS3F ms_X4_within ml_X4_41 (c4_within l _ _ _) dX4_own_23 (Nat.le_of_ble_eq_true rfl) ⟨by decide, by decide⟩ ⟨by decide, by decide⟩ (fun _ h => nomatch h) ?_
      try dsimp only [zrst, List.cons_append, List.nil_append]
      first | refine r_if_neB (tgt := 31) dX4_own_26 (by decide) (fun c3 => ?_) (fun c3 => ?_) | refine r_if_neN (tgt := 31) dX4_own_26 (by decide) (by omega) (fun c3 => ?_) (fun c3 => ?_) | refine r_if_ne (tgt := 31) dX4_own_26 (by decide) (fun c3 => ?_) (fun c3 => ?_)
      · have c3 : ((10 : Int) ≤ w.toInt ∧ w.toInt ≤ (99 : Int)) := c3
        have g3 : 10 ≤ w.toInt ∧ w.toInt ≤ 99 := by omega
        obtain ⟨k, hk1, hk2, rfl⟩ := arg_rng (a := 10) (b := 99) (show ((10 : Nat) : Int) ≤ w.toInt ∧ w.toInt ≤ ((99 : Nat) : Int) by omega)
        refine r_aload_n dX4_own_31 rfl rfl ?_
        refine r_getR fl_X4_10 dX4_own_32 sh_0 rfl ?_
        refine r_getR fl_X4_60 dX4_own_35 sh_1 rfl ?_
        refine r_iload_n dX4_own_38 rfl rfl ?_
        refine r_iconst (v := nI 4) dX4_own_39 rfl ?_
        first | refine r_imulN dX4_own_40 ?_ | refine r_imul dX4_own_40 ?_
        refine r_iload_n dX4_own_41 rfl rfl ?_
        first | refine r_iaddN dX4_own_42 ?_ | refine r_iadd dX4_own_42 ?_
        refine r_ialdN dX4_own_43 sh_3 (by omega) (by decide) (hS.a3 (by omega) (by omega)) ?_
        refine r_istore dX4_own_44 rfl (by decide) ?_
        refine r_aload_n dX4_own_46 rfl rfl ?_
        refine r_getR fl_X4_10 dX4_own_47 sh_0 rfl ?_
        refine r_getR fl_X4_60 dX4_own_50 sh_1 rfl ?_
        refine r_iload_n dX4_own_53 rfl rfl ?_
        refine r_iconst (v := nI 4) dX4_own_54 rfl ?_
        first | refine r_imulN dX4_own_55 ?_ | refine r_imul dX4_own_55 ?_
        refine r_iload_n dX4_own_56 rfl rfl ?_
        first | refine r_iaddN dX4_own_57 ?_ | refine r_iadd dX4_own_57 ?_
        refine r_iload_n dX4_own_58 rfl rfl ?_
        refine r_iastN dX4_own_59 sh_3 (by omega) (by decide) ?_
        refine r_iload dX4_own_60 rfl ?_
        refine r_iret dX4_own_62 rfl (by decide) (by decide) ?_
        refine ⟨rfl, congrArg (fun x => some (Value.int x)) ?_, ?_, zfr_I rfl⟩
        · rw [sp_own, if_pos ⟨g1, g2, g3⟩, tn_nI (show p < 2147483648 by omega), tn_nI (show q < 2147483648 by omega)]
        · rw [st_own, if_pos ⟨g1, g2, g3⟩, tn_nI (show p < 2147483648 by omega), tn_nI (show q < 2147483648 by omega), tn_nI (show k < 2147483648 by omega)]
          exact SI_own hS hn hp (by omega)
      · have c3 : ¬ ((10 : Int) ≤ w.toInt ∧ w.toInt ≤ (99 : Int)) := c3
        have b3 : ¬ (10 ≤ w.toInt ∧ w.toInt ≤ 99) := by omega
        refine r_iconst (v := (-1)) dX4_own_29 rfl ?_
        refine r_iret dX4_own_30 rfl (by decide) (by decide) ?_
        refine ⟨rfl, congrArg (fun x => some (Value.int x)) ?_, ?_, zfr.rf⟩
        · rw [sp_own, if_neg]
          intro h9; first | exact absurd h9 (by assumption) | exact absurd h9.1 (by assumption) | exact absurd h9.2 (by assumption) | exact absurd h9.2.1 (by assumption) | exact absurd h9.2.2 (by assumption) | exact absurd h9.2.2.1 (by assumption) | exact absurd h9.2.2.2 (by assumption) | exact absurd h9.2.2.2.1 (by assumption) | exact absurd h9.2.2.2.2 (by assumption)
        · rw [st_own, if_neg]
          · exact hS
          · intro h9; first | exact absurd h9 (by assumption) | exact absurd h9.1 (by assumption) | exact absurd h9.2 (by assumption) | exact absurd h9.2.1 (by assumption) | exact absurd h9.2.2 (by assumption) | exact absurd h9.2.2.1 (by assumption) | exact absurd h9.2.2.2 (by assumption) | exact absurd h9.2.2.2.1 (by assumption) | exact absurd h9.2.2.2.2 (by assumption)

set_option maxHeartbeats 4000000 in
set_option maxRecDepth 100000 in
theorem c4_cut (l : Launch) {rw : List zC} {M0 : zM} {t : Nat → Nat → Nat} (hS : SI 1 (t 35) (t 38) (t 34 7) M0) (hn : NB (t 35)) (x z w : Int32) : CT l false 2 0 0 yX4_cut cX4_cut 5 (some .int) [.ref 0, .int x, .int z, .int w] (zSh ++ rw) M0 (zG (zSh ++ rw) (zQC (sp_cut t x z w) (st_cut t x z w) (fun i => i = 4) M0)) := by
  refine CT.ofN (by decide) (fun _ _ => Nat.le_of_ble_eq_true rfl) ?_
  have hdd := hn.2.2.2.2.2.2.2.2.2.2.2
  have hkd := hn.2.2.2.2.2.2.2.2.1
  have how := hn.2.2.2.2.2.2.2.2.2.1
  have hcu := hn.2.2.2.2.2.2.2.2.2.2.1
  have hb0 := hn.1
  have hb1 := hn.2.1
  have hb2 := hn.2.2.1
  have hb3 := hn.2.2.2.1
  have hb4 := hn.2.2.2.2.1
  have hb5 := hn.2.2.2.2.2.1
  have hb6 := hn.2.2.2.2.2.2.1
  refine r_aload_n dX4_cut_0 rfl rfl ?_
  refine r_getR fl_X4_10 dX4_cut_1 sh_0 rfl ?_
  refine r_iload_n dX4_cut_4 rfl rfl ?_
  refine r_cV1F mv_X3_hasSuit ml_X4_71 (c3_hasSuit l hS (by omega) _) dX4_cut_5 (Nat.le_of_ble_eq_true rfl) ⟨by decide, by decide⟩ ⟨by decide, by decide⟩ sh_1 rfl (fun _ h => nomatch h) ?_
  try dsimp only [zrst, List.cons_append, List.nil_append]
  first | refine r_if_eqB (tgt := 29) dX4_cut_8 (by decide) (fun c1 => ?_) (fun c1 => ?_) | refine r_if_eqN (tgt := 29) dX4_cut_8 (by decide) (by omega) (fun c1 => ?_) (fun c1 => ?_) | refine r_if_eq (tgt := 29) dX4_cut_8 (by decide) (fun c1 => ?_) (fun c1 => ?_)
  · have b1 : ¬ (0 ≤ x.toInt ∧ x.toInt < (t 35 1 : Int)) := by omega
    refine r_iconst (v := (-1)) dX4_cut_29 rfl ?_
    refine r_iret dX4_cut_30 rfl (by decide) (by decide) ?_
    refine ⟨rfl, congrArg (fun x => some (Value.int x)) ?_, ?_, zfr.rf⟩
    · rw [sp_cut, if_neg]
      intro h9; first | exact absurd h9 (by assumption) | exact absurd h9.1 (by assumption) | exact absurd h9.2 (by assumption) | exact absurd h9.2.1 (by assumption) | exact absurd h9.2.2 (by assumption) | exact absurd h9.2.2.1 (by assumption) | exact absurd h9.2.2.2 (by assumption) | exact absurd h9.2.2.2.1 (by assumption) | exact absurd h9.2.2.2.2 (by assumption)
    · rw [st_cut, if_neg]
      · exact hS
      · intro h9; first | exact absurd h9 (by assumption) | exact absurd h9.1 (by assumption) | exact absurd h9.2 (by assumption) | exact absurd h9.2.1 (by assumption) | exact absurd h9.2.2 (by assumption) | exact absurd h9.2.2.1 (by assumption) | exact absurd h9.2.2.2 (by assumption) | exact absurd h9.2.2.2.1 (by assumption) | exact absurd h9.2.2.2.2 (by assumption)
  · have g1 : 0 ≤ x.toInt ∧ x.toInt < (t 35 1 : Int) := by omega
    obtain ⟨p, hp, rfl⟩ := arg_nat (n := t 35 1) (show 0 ≤ x.toInt ∧ x.toInt < ((t 35 1 : Nat) : Int) by omega)
    refine r_iload_n dX4_cut_11 rfl rfl ?_
    refine r_cS1F ms_X4_isMeasure ml_X4_57 (c4_isMeasure l _) dX4_cut_12 (Nat.le_of_ble_eq_true rfl) ⟨by decide, by decide⟩ ⟨by decide, by decide⟩ (fun _ h => nomatch h) ?_
    try dsimp only [zrst, List.cons_append, List.nil_append]
    first | refine r_if_eqB (tgt := 29) dX4_cut_15 (by decide) (fun c2 => ?_) (fun c2 => ?_) | refine r_if_eqN (tgt := 29) dX4_cut_15 (by decide) (by omega) (fun c2 => ?_) (fun c2 => ?_) | refine r_if_eq (tgt := 29) dX4_cut_15 (by decide) (fun c2 => ?_) (fun c2 => ?_)
    · have c2 : ¬ ((0 : Int) ≤ z.toInt ∧ z.toInt < (4 : Int)) := c2
      have b2 : ¬ (0 ≤ z.toInt ∧ z.toInt ≤ 3) := by omega
      refine r_iconst (v := (-1)) dX4_cut_29 rfl ?_
      refine r_iret dX4_cut_30 rfl (by decide) (by decide) ?_
      refine ⟨rfl, congrArg (fun x => some (Value.int x)) ?_, ?_, zfr.rf⟩
      · rw [sp_cut, if_neg]
        intro h9; first | exact absurd h9 (by assumption) | exact absurd h9.1 (by assumption) | exact absurd h9.2 (by assumption) | exact absurd h9.2.1 (by assumption) | exact absurd h9.2.2 (by assumption) | exact absurd h9.2.2.1 (by assumption) | exact absurd h9.2.2.2 (by assumption) | exact absurd h9.2.2.2.1 (by assumption) | exact absurd h9.2.2.2.2 (by assumption)
      · rw [st_cut, if_neg]
        · exact hS
        · intro h9; first | exact absurd h9 (by assumption) | exact absurd h9.1 (by assumption) | exact absurd h9.2 (by assumption) | exact absurd h9.2.1 (by assumption) | exact absurd h9.2.2 (by assumption) | exact absurd h9.2.2.1 (by assumption) | exact absurd h9.2.2.2 (by assumption) | exact absurd h9.2.2.2.1 (by assumption) | exact absurd h9.2.2.2.2 (by assumption)
    · have c2 : ((0 : Int) ≤ z.toInt ∧ z.toInt < (4 : Int)) := c2
      have g2 : 0 ≤ z.toInt ∧ z.toInt ≤ 3 := by omega
      obtain ⟨q, hq1, hq2, rfl⟩ := arg_rng (a := 0) (b := 3) (show ((0 : Nat) : Int) ≤ z.toInt ∧ z.toInt ≤ ((3 : Nat) : Int) by omega)
      refine r_iload_n dX4_cut_18 rfl rfl ?_
      refine r_iconst (v := nI 0) dX4_cut_19 rfl ?_
      refine r_sipush (v := nI 199) dX4_cut_20 rfl ?_
      refine r_cS3F ms_X4_within ml_X4_41 (c4_within l _ _ _) dX4_cut_23 (Nat.le_of_ble_eq_true rfl) ⟨by decide, by decide⟩ ⟨by decide, by decide⟩ (fun _ h => nomatch h) ?_
      try dsimp only [zrst, List.cons_append, List.nil_append]
      first | refine r_if_neB (tgt := 31) dX4_cut_26 (by decide) (fun c3 => ?_) (fun c3 => ?_) | refine r_if_neN (tgt := 31) dX4_cut_26 (by decide) (by omega) (fun c3 => ?_) (fun c3 => ?_) | refine r_if_ne (tgt := 31) dX4_cut_26 (by decide) (fun c3 => ?_) (fun c3 => ?_)
      · have c3 : ((0 : Int) ≤ w.toInt ∧ w.toInt ≤ (199 : Int)) := c3
        have g3 : 0 ≤ w.toInt ∧ w.toInt ≤ 199 := by omega
        obtain ⟨k, hk1, hk2, rfl⟩ := arg_rng (a := 0) (b := 199) (show ((0 : Nat) : Int) ≤ w.toInt ∧ w.toInt ≤ ((199 : Nat) : Int) by omega)
        refine r_aload_n dX4_cut_31 rfl rfl ?_
        refine r_getR fl_X4_10 dX4_cut_32 sh_0 rfl ?_
        refine r_getR fl_X4_74 dX4_cut_35 sh_1 rfl ?_
        refine r_iload_n dX4_cut_38 rfl rfl ?_
        refine r_iconst (v := nI 4) dX4_cut_39 rfl ?_
        first | refine r_imulN dX4_cut_40 ?_ | refine r_imul dX4_cut_40 ?_
        refine r_iload_n dX4_cut_41 rfl rfl ?_
        first | refine r_iaddN dX4_cut_42 ?_ | refine r_iadd dX4_cut_42 ?_
        refine r_ialdN dX4_cut_43 sh_4 (by omega) (by decide) (hS.a4 (by omega) (by omega)) ?_
        refine r_istore dX4_cut_44 rfl (by decide) ?_
        refine r_aload_n dX4_cut_46 rfl rfl ?_
        refine r_getR fl_X4_10 dX4_cut_47 sh_0 rfl ?_
        refine r_getR fl_X4_74 dX4_cut_50 sh_1 rfl ?_
        refine r_iload_n dX4_cut_53 rfl rfl ?_
        refine r_iconst (v := nI 4) dX4_cut_54 rfl ?_
        first | refine r_imulN dX4_cut_55 ?_ | refine r_imul dX4_cut_55 ?_
        refine r_iload_n dX4_cut_56 rfl rfl ?_
        first | refine r_iaddN dX4_cut_57 ?_ | refine r_iadd dX4_cut_57 ?_
        refine r_iload_n dX4_cut_58 rfl rfl ?_
        refine r_iastN dX4_cut_59 sh_4 (by omega) (by decide) ?_
        refine r_iload dX4_cut_60 rfl ?_
        refine r_iret dX4_cut_62 rfl (by decide) (by decide) ?_
        refine ⟨rfl, congrArg (fun x => some (Value.int x)) ?_, ?_, zfr_I rfl⟩
        · rw [sp_cut, if_pos ⟨g1, g2, g3⟩, tn_nI (show p < 2147483648 by omega), tn_nI (show q < 2147483648 by omega)]
        · rw [st_cut, if_pos ⟨g1, g2, g3⟩, tn_nI (show p < 2147483648 by omega), tn_nI (show q < 2147483648 by omega), tn_nI (show k < 2147483648 by omega)]
          exact SI_cut hS hn hp (by omega)
      · have c3 : ¬ ((0 : Int) ≤ w.toInt ∧ w.toInt ≤ (199 : Int)) := c3
        have b3 : ¬ (0 ≤ w.toInt ∧ w.toInt ≤ 199) := by omega
        refine r_iconst (v := (-1)) dX4_cut_29 rfl ?_
        refine r_iret dX4_cut_30 rfl (by decide) (by decide) ?_
        refine ⟨rfl, congrArg (fun x => some (Value.int x)) ?_, ?_, zfr.rf⟩
        · rw [sp_cut, if_neg]
          intro h9; first | exact absurd h9 (by assumption) | exact absurd h9.1 (by assumption) | exact absurd h9.2 (by assumption) | exact absurd h9.2.1 (by assumption) | exact absurd h9.2.2 (by assumption) | exact absurd h9.2.2.1 (by assumption) | exact absurd h9.2.2.2 (by assumption) | exact absurd h9.2.2.2.1 (by assumption) | exact absurd h9.2.2.2.2 (by assumption)
        · rw [st_cut, if_neg]
          · exact hS
          · intro h9; first | exact absurd h9 (by assumption) | exact absurd h9.1 (by assumption) | exact absurd h9.2 (by assumption) | exact absurd h9.2.1 (by assumption) | exact absurd h9.2.2 (by assumption) | exact absurd h9.2.2.1 (by assumption) | exact absurd h9.2.2.2 (by assumption) | exact absurd h9.2.2.2.1 (by assumption) | exact absurd h9.2.2.2.2 (by assumption)

set_option maxHeartbeats 4000000 in
set_option maxRecDepth 100000 in
theorem c4_seed (l : Launch) {rw : List zC} {M0 : zM} {t : Nat → Nat → Nat} (hS : SI 1 (t 35) (t 38) (t 34 7) M0) (hn : NB (t 35)) (x : Int32) : CT l false 0 0 0 yX4_seed cX4_seed 3 (some .int) [.ref 0, .int x] (zSh ++ rw) M0 (zG (zSh ++ rw) (zQC (sp_seed t x) (st_seed t x) (fun i => i = 1) M0)) := by
  refine CT.ofN (by decide) (fun _ _ => Nat.le_of_ble_eq_true rfl) ?_
  have hdd := hn.2.2.2.2.2.2.2.2.2.2.2
  have hkd := hn.2.2.2.2.2.2.2.2.1
  have how := hn.2.2.2.2.2.2.2.2.2.1
  have hcu := hn.2.2.2.2.2.2.2.2.2.2.1
  have hb0 := hn.1
  have hb1 := hn.2.1
  have hb2 := hn.2.2.1
  have hb3 := hn.2.2.2.1
  have hb4 := hn.2.2.2.2.1
  have hb5 := hn.2.2.2.2.2.1
  have hb6 := hn.2.2.2.2.2.2.1
  refine r_iload_n dX4_seed_0 rfl rfl ?_
  refine r_if_ge (tgt := 6) dX4_seed_1 (by decide) (fun c1 => ?_) (fun c1 => ?_)
  · have g1 : 0 ≤ x.toInt := i32_le.mp c1
    have hxr := i32_rng x
    obtain ⟨k, hk1, hk2, rfl⟩ := arg_rng (a := 0) (b := 2147483647) (show ((0 : Nat) : Int) ≤ x.toInt ∧ x.toInt ≤ ((2147483647 : Nat) : Int) by omega)
    refine r_aload_n dX4_seed_6 rfl rfl ?_
    refine r_getR fl_X4_10 dX4_seed_7 sh_0 rfl ?_
    refine r_getV fl_X4_167 dX4_seed_10 sh_1 rfl hS.f8 ?_
    refine r_istore_n dX4_seed_13 rfl rfl (by decide) ?_
    refine r_aload_n dX4_seed_14 rfl rfl ?_
    refine r_getR fl_X4_10 dX4_seed_15 sh_0 rfl ?_
    refine r_iload_n dX4_seed_18 rfl rfl ?_
    refine r_putI fl_X4_167 dX4_seed_19 rfl rfl sh_1 rfl ?_
    refine r_iload_n dX4_seed_22 rfl rfl ?_
    refine r_iret dX4_seed_23 rfl (by decide) (by decide) ?_
    refine ⟨rfl, congrArg (fun x => some (Value.int x)) ?_, ?_, zfr_I rfl⟩
    · rw [sp_seed, if_pos (g1)]
    · rw [st_seed, if_pos (g1), tn_nI (show k < 2147483648 by omega)]
      exact SI_seed hS hn
  · have b1 : ¬ 0 ≤ x.toInt := fun h => c1 (i32_le.mpr h)
    refine r_iconst (v := (-1)) dX4_seed_4 rfl ?_
    refine r_iret dX4_seed_5 rfl (by decide) (by decide) ?_
    refine ⟨rfl, congrArg (fun x => some (Value.int x)) ?_, ?_, zfr.rf⟩
    · rw [sp_seed, if_neg]
      intro h9; first | exact absurd h9 (by assumption) | exact absurd h9.1 (by assumption) | exact absurd h9.2 (by assumption) | exact absurd h9.2.1 (by assumption) | exact absurd h9.2.2 (by assumption) | exact absurd h9.2.2.1 (by assumption) | exact absurd h9.2.2.2 (by assumption) | exact absurd h9.2.2.2.1 (by assumption) | exact absurd h9.2.2.2.2 (by assumption)
    · rw [st_seed, if_neg]
      · exact hS
      · intro h9; first | exact absurd h9 (by assumption) | exact absurd h9.1 (by assumption) | exact absurd h9.2 (by assumption) | exact absurd h9.2.1 (by assumption) | exact absurd h9.2.2 (by assumption) | exact absurd h9.2.2.1 (by assumption) | exact absurd h9.2.2.2 (by assumption) | exact absurd h9.2.2.2.1 (by assumption) | exact absurd h9.2.2.2.2 (by assumption)

