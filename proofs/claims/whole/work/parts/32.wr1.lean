set_option maxHeartbeats 4000000 in
set_option maxRecDepth 100000 in
theorem c5p_own (l : Launch) {rw : List zC} {M0 : zM} {t : Nat → Nat → Nat} (hR : RI t M0) (hn : NB (t 35)) (x z w : Int32) : CT l false 2 0 0 yX5_own cX5_own 5 (some .int) [.ref 34, .int x, .int z, .int w] (zSh ++ rw) M0 (zG (zSh ++ rw) (zQR (sp_own t x z w) (st_own t x z w) M0)) := by
  refine CT.ofN (by decide) (fun _ _ => Nat.le_of_ble_eq_true rfl) ?_
  have hdd := hn.2.2.2.2.2.2.2.2.2.2.2
  have hkd := hn.2.2.2.2.2.2.2.2.1
  have how := hn.2.2.2.2.2.2.2.2.2.1
  have hcu := hn.2.2.2.2.2.2.2.2.2.2.1
  have hb0 := hn.1
  have hb1 := hn.2.1
  have hb2 := hn.2.2.1
  have hb3 := hn.2.2.2.1
  have hb4 := hn.2.2.2.2.1
  have hb5 := hn.2.2.2.2.2.1
  have hb6 := hn.2.2.2.2.2.2.1
  have hF : zfr PR M0 M0 := zfr.rf
  refine r_aload_n dX5_own_0 rfl rfl ?_
  refine r_iload_n dX5_own_1 rfl rfl ?_
  refine r_cV1F mv_X5_isPerson ml_X5_93 (c5_isPerson l hR (by omega) _) dX5_own_2 (Nat.le_of_ble_eq_true rfl) ⟨by decide, by decide⟩ ⟨by decide, by decide⟩ sh_34 rfl (fun _ h => nomatch h) ?_
  try dsimp only [zrst, List.cons_append, List.nil_append]
  first | refine r_if_eqB (tgt := 29) dX5_own_5 (by decide) (fun c1 => ?_) (fun c1 => ?_) | refine r_if_eqN (tgt := 29) dX5_own_5 (by decide) (by omega) (fun c1 => ?_) (fun c1 => ?_) | refine r_if_eq (tgt := 29) dX5_own_5 (by decide) (fun c1 => ?_) (fun c1 => ?_)
  · have b1 : ¬ (0 ≤ x.toInt ∧ x.toInt < (t 35 0 : Int)) := by omega
    refine r_iconst (v := (-1)) dX5_own_29 rfl ?_
    refine r_iret dX5_own_30 rfl (by decide) (by decide) ?_
    refine ⟨rfl, congrArg (fun x => some (Value.int x)) ?_, ?_, hF⟩
    · rw [sp_own, if_neg]
      intro h9; first | exact absurd h9 (by assumption) | exact absurd h9.1 (by assumption) | exact absurd h9.2 (by assumption) | exact absurd h9.2.1 (by assumption) | exact absurd h9.2.2 (by assumption) | exact absurd h9.2.2.1 (by assumption) | exact absurd h9.2.2.2 (by assumption) | exact absurd h9.2.2.2.1 (by assumption) | exact absurd h9.2.2.2.2 (by assumption)
    · rw [st_own, if_neg]
      · exact hR
      · intro h9; first | exact absurd h9 (by assumption) | exact absurd h9.1 (by assumption) | exact absurd h9.2 (by assumption) | exact absurd h9.2.1 (by assumption) | exact absurd h9.2.2 (by assumption) | exact absurd h9.2.2.1 (by assumption) | exact absurd h9.2.2.2 (by assumption) | exact absurd h9.2.2.2.1 (by assumption) | exact absurd h9.2.2.2.2 (by assumption)
  · have g1 : 0 ≤ x.toInt ∧ x.toInt < (t 35 0 : Int) := by omega
    obtain ⟨p, hp, rfl⟩ := arg_nat (n := t 35 0) (show 0 ≤ x.toInt ∧ x.toInt < ((t 35 0 : Nat) : Int) by omega)
    refine r_iload_n dX5_own_8 rfl rfl ?_
    refine r_cS1F ms_X5_isMeasure ml_X5_97 (c5_isMeasure l _) dX5_own_9 (Nat.le_of_ble_eq_true rfl) ⟨by decide, by decide⟩ ⟨by decide, by decide⟩ (fun _ h => nomatch h) ?_
    try dsimp only [zrst, List.cons_append, List.nil_append]
    first | refine r_if_eqB (tgt := 29) dX5_own_12 (by decide) (fun c2 => ?_) (fun c2 => ?_) | refine r_if_eqN (tgt := 29) dX5_own_12 (by decide) (by omega) (fun c2 => ?_) (fun c2 => ?_) | refine r_if_eq (tgt := 29) dX5_own_12 (by decide) (fun c2 => ?_) (fun c2 => ?_)
    · have c2 : ¬ ((0 : Int) ≤ z.toInt ∧ z.toInt < (4 : Int)) := c2
      have b2 : ¬ (0 ≤ z.toInt ∧ z.toInt ≤ 3) := by omega
      refine r_iconst (v := (-1)) dX5_own_29 rfl ?_
      refine r_iret dX5_own_30 rfl (by decide) (by decide) ?_
      refine ⟨rfl, congrArg (fun x => some (Value.int x)) ?_, ?_, hF⟩
      · rw [sp_own, if_neg]
        intro h9; first | exact absurd h9 (by assumption) | exact absurd h9.1 (by assumption) | exact absurd h9.2 (by assumption) | exact absurd h9.2.1 (by assumption) | exact absurd h9.2.2 (by assumption) | exact absurd h9.2.2.1 (by assumption) | exact absurd h9.2.2.2 (by assumption) | exact absurd h9.2.2.2.1 (by assumption) | exact absurd h9.2.2.2.2 (by assumption)
      · rw [st_own, if_neg]
        · exact hR
        · intro h9; first | exact absurd h9 (by assumption) | exact absurd h9.1 (by assumption) | exact absurd h9.2 (by assumption) | exact absurd h9.2.1 (by assumption) | exact absurd h9.2.2 (by assumption) | exact absurd h9.2.2.1 (by assumption) | exact absurd h9.2.2.2 (by assumption) | exact absurd h9.2.2.2.1 (by assumption) | exact absurd h9.2.2.2.2 (by assumption)
    · have c2 : ((0 : Int) ≤ z.toInt ∧ z.toInt < (4 : Int)) := c2
      have g2 : 0 ≤ z.toInt ∧ z.toInt ≤ 3 := by omega
      obtain ⟨q, hq1, hq2, rfl⟩ := arg_rng (a := 0) (b := 3) (show ((0 : Nat) : Int) ≤ z.toInt ∧ z.toInt ≤ ((3 : Nat) : Int) by omega)
      refine r_iload_n dX5_own_15 rfl rfl ?_
      refine r_i2l dX5_own_16 rfl ?_
      refine r_ldc2 kc_X5_85 dX5_own_17 ?_
      refine r_ldc2 kc_X5_87 dX5_own_20 ?_
      refine r_cS3F ms_X5_in ml_X5_41 (c5_in l _ _ _) dX5_own_23 (Nat.le_of_ble_eq_true rfl) ⟨by decide, by decide⟩ ⟨by decide, by decide⟩ (fun _ h => nomatch h) ?_
      try dsimp only [zrst, List.cons_append, List.nil_append]
      first | refine r_if_neB (tgt := 31) dX5_own_26 (by decide) (fun c3 => ?_) (fun c3 => ?_) | refine r_if_neN (tgt := 31) dX5_own_26 (by decide) (by omega) (fun c3 => ?_) (fun c3 => ?_) | refine r_if_ne (tgt := 31) dX5_own_26 (by decide) (fun c3 => ?_) (fun c3 => ?_)
      · rw [i64_of32] at c3
        have c3 : ((10 : Int) ≤ w.toInt ∧ w.toInt ≤ (99 : Int)) := c3
        have g3 : 10 ≤ w.toInt ∧ w.toInt ≤ 99 := by omega
        obtain ⟨k, hk1, hk2, rfl⟩ := arg_rng (a := 10) (b := 99) (show ((10 : Nat) : Int) ≤ w.toInt ∧ w.toInt ≤ ((99 : Nat) : Int) by omega)
        refine r_aload_n dX5_own_31 rfl rfl ?_
        refine r_iload_n dX5_own_32 rfl rfl ?_
        refine r_iload_n dX5_own_33 rfl rfl ?_
        refine r_cV2F mv_X5_ownOf ml_X5_55 (c5_ownOf l hR (by omega) (by omega)) dX5_own_34 (Nat.le_of_ble_eq_true rfl) ⟨by decide, by decide⟩ ⟨by decide, by decide⟩ sh_34 rfl (fun _ h => nomatch h) ?_
        try dsimp only [zrst, List.cons_append, List.nil_append]
        refine r_istore dX5_own_37 rfl (by decide) ?_
        refine r_aload_n dX5_own_39 rfl rfl ?_
        refine r_getR fl_X5_7 dX5_own_40 sh_34 rfl ?_
        refine r_bipush (v := nI 8) dX5_own_43 rfl ?_
        refine r_iconst (v := nI 5) dX5_own_45 rfl ?_
        refine r_iload_n dX5_own_46 rfl rfl ?_
        first | refine r_imulN dX5_own_47 ?_ | refine r_imul dX5_own_47 ?_
        first | refine r_iaddN dX5_own_48 ?_ | refine r_iadd dX5_own_48 ?_
        refine r_iconst (v := nI 1) dX5_own_49 rfl ?_
        first | refine r_iaddN dX5_own_50 ?_ | refine r_iadd dX5_own_50 ?_
        refine r_iload_n dX5_own_51 rfl rfl ?_
        first | refine r_iaddN dX5_own_52 ?_ | refine r_iadd dX5_own_52 ?_
        refine r_iload_n dX5_own_53 rfl rfl ?_
        refine r_Rast dX5_own_54 sh_35 (by omega) (by decide) hR (by decide) (fun M hR hF1 => ?_)
        have hF := hF.trans hF1
        refine r_iload dX5_own_55 rfl ?_
        refine r_iret dX5_own_57 rfl (by decide) (by decide) ?_
        refine ⟨rfl, congrArg (fun x => some (Value.int x)) ?_, ?_, hF⟩
        · rw [sp_own, if_pos ⟨g1, g2, g3⟩, tn_nI (show p < 2147483648 by omega), tn_nI (show q < 2147483648 by omega)]
        · rw [st_own, if_pos ⟨g1, g2, g3⟩, tn_nI (show p < 2147483648 by omega), tn_nI (show q < 2147483648 by omega), tn_nI (show k < 2147483648 by omega)]
          exact hR
      · rw [i64_of32] at c3
        have c3 : ¬ ((10 : Int) ≤ w.toInt ∧ w.toInt ≤ (99 : Int)) := c3
        have b3 : ¬ (10 ≤ w.toInt ∧ w.toInt ≤ 99) := by omega
        refine r_iconst (v := (-1)) dX5_own_29 rfl ?_
        refine r_iret dX5_own_30 rfl (by decide) (by decide) ?_
        refine ⟨rfl, congrArg (fun x => some (Value.int x)) ?_, ?_, hF⟩
        · rw [sp_own, if_neg]
          intro h9; first | exact absurd h9 (by assumption) | exact absurd h9.1 (by assumption) | exact absurd h9.2 (by assumption) | exact absurd h9.2.1 (by assumption) | exact absurd h9.2.2 (by assumption) | exact absurd h9.2.2.1 (by assumption) | exact absurd h9.2.2.2 (by assumption) | exact absurd h9.2.2.2.1 (by assumption) | exact absurd h9.2.2.2.2 (by assumption)
        · rw [st_own, if_neg]
          · exact hR
          · intro h9; first | exact absurd h9 (by assumption) | exact absurd h9.1 (by assumption) | exact absurd h9.2 (by assumption) | exact absurd h9.2.1 (by assumption) | exact absurd h9.2.2 (by assumption) | exact absurd h9.2.2.1 (by assumption) | exact absurd h9.2.2.2 (by assumption) | exact absurd h9.2.2.2.1 (by assumption) | exact absurd h9.2.2.2.2 (by assumption)

set_option maxHeartbeats 4000000 in
set_option maxRecDepth 100000 in
theorem c5p_cut (l : Launch) {rw : List zC} {M0 : zM} {t : Nat → Nat → Nat} (hR : RI t M0) (hn : NB (t 35)) (x z w : Int32) : CT l false 2 0 0 yX5_cut cX5_cut 5 (some .int) [.ref 34, .int x, .int z, .int w] (zSh ++ rw) M0 (zG (zSh ++ rw) (zQR (sp_cut t x z w) (st_cut t x z w) M0)) := by
  refine CT.ofN (by decide) (fun _ _ => Nat.le_of_ble_eq_true rfl) ?_
  have hdd := hn.2.2.2.2.2.2.2.2.2.2.2
  have hkd := hn.2.2.2.2.2.2.2.2.1
  have how := hn.2.2.2.2.2.2.2.2.2.1
  have hcu := hn.2.2.2.2.2.2.2.2.2.2.1
  have hb0 := hn.1
  have hb1 := hn.2.1
  have hb2 := hn.2.2.1
  have hb3 := hn.2.2.2.1
  have hb4 := hn.2.2.2.2.1
  have hb5 := hn.2.2.2.2.2.1
  have hb6 := hn.2.2.2.2.2.2.1
  have hF : zfr PR M0 M0 := zfr.rf
  refine r_aload_n dX5_cut_0 rfl rfl ?_
  refine r_iload_n dX5_cut_1 rfl rfl ?_
  refine r_cV1F mv_X5_isSuit ml_X5_102 (c5_isSuit l hR (by omega) _) dX5_cut_2 (Nat.le_of_ble_eq_true rfl) ⟨by decide, by decide⟩ ⟨by decide, by decide⟩ sh_34 rfl (fun _ h => nomatch h) ?_
  try dsimp only [zrst, List.cons_append, List.nil_append]
  first | refine r_if_eqB (tgt := 27) dX5_cut_5 (by decide) (fun c1 => ?_) (fun c1 => ?_) | refine r_if_eqN (tgt := 27) dX5_cut_5 (by decide) (by omega) (fun c1 => ?_) (fun c1 => ?_) | refine r_if_eq (tgt := 27) dX5_cut_5 (by decide) (fun c1 => ?_) (fun c1 => ?_)
  · have b1 : ¬ (0 ≤ x.toInt ∧ x.toInt < (t 35 1 : Int)) := by omega
    refine r_iconst (v := (-1)) dX5_cut_27 rfl ?_
    refine r_iret dX5_cut_28 rfl (by decide) (by decide) ?_
    refine ⟨rfl, congrArg (fun x => some (Value.int x)) ?_, ?_, hF⟩
    · rw [sp_cut, if_neg]
      intro h9; first | exact absurd h9 (by assumption) | exact absurd h9.1 (by assumption) | exact absurd h9.2 (by assumption) | exact absurd h9.2.1 (by assumption) | exact absurd h9.2.2 (by assumption) | exact absurd h9.2.2.1 (by assumption) | exact absurd h9.2.2.2 (by assumption) | exact absurd h9.2.2.2.1 (by assumption) | exact absurd h9.2.2.2.2 (by assumption)
    · rw [st_cut, if_neg]
      · exact hR
      · intro h9; first | exact absurd h9 (by assumption) | exact absurd h9.1 (by assumption) | exact absurd h9.2 (by assumption) | exact absurd h9.2.1 (by assumption) | exact absurd h9.2.2 (by assumption) | exact absurd h9.2.2.1 (by assumption) | exact absurd h9.2.2.2 (by assumption) | exact absurd h9.2.2.2.1 (by assumption) | exact absurd h9.2.2.2.2 (by assumption)
  · have g1 : 0 ≤ x.toInt ∧ x.toInt < (t 35 1 : Int) := by omega
    obtain ⟨p, hp, rfl⟩ := arg_nat (n := t 35 1) (show 0 ≤ x.toInt ∧ x.toInt < ((t 35 1 : Nat) : Int) by omega)
    refine r_iload_n dX5_cut_8 rfl rfl ?_
    refine r_cS1F ms_X5_isMeasure ml_X5_97 (c5_isMeasure l _) dX5_cut_9 (Nat.le_of_ble_eq_true rfl) ⟨by decide, by decide⟩ ⟨by decide, by decide⟩ (fun _ h => nomatch h) ?_
    try dsimp only [zrst, List.cons_append, List.nil_append]
    first | refine r_if_eqB (tgt := 27) dX5_cut_12 (by decide) (fun c2 => ?_) (fun c2 => ?_) | refine r_if_eqN (tgt := 27) dX5_cut_12 (by decide) (by omega) (fun c2 => ?_) (fun c2 => ?_) | refine r_if_eq (tgt := 27) dX5_cut_12 (by decide) (fun c2 => ?_) (fun c2 => ?_)
    · have c2 : ¬ ((0 : Int) ≤ z.toInt ∧ z.toInt < (4 : Int)) := c2
      have b2 : ¬ (0 ≤ z.toInt ∧ z.toInt ≤ 3) := by omega
      refine r_iconst (v := (-1)) dX5_cut_27 rfl ?_
      refine r_iret dX5_cut_28 rfl (by decide) (by decide) ?_
      refine ⟨rfl, congrArg (fun x => some (Value.int x)) ?_, ?_, hF⟩
      · rw [sp_cut, if_neg]
        intro h9; first | exact absurd h9 (by assumption) | exact absurd h9.1 (by assumption) | exact absurd h9.2 (by assumption) | exact absurd h9.2.1 (by assumption) | exact absurd h9.2.2 (by assumption) | exact absurd h9.2.2.1 (by assumption) | exact absurd h9.2.2.2 (by assumption) | exact absurd h9.2.2.2.1 (by assumption) | exact absurd h9.2.2.2.2 (by assumption)
      · rw [st_cut, if_neg]
        · exact hR
        · intro h9; first | exact absurd h9 (by assumption) | exact absurd h9.1 (by assumption) | exact absurd h9.2 (by assumption) | exact absurd h9.2.1 (by assumption) | exact absurd h9.2.2 (by assumption) | exact absurd h9.2.2.1 (by assumption) | exact absurd h9.2.2.2 (by assumption) | exact absurd h9.2.2.2.1 (by assumption) | exact absurd h9.2.2.2.2 (by assumption)
    · have c2 : ((0 : Int) ≤ z.toInt ∧ z.toInt < (4 : Int)) := c2
      have g2 : 0 ≤ z.toInt ∧ z.toInt ≤ 3 := by omega
      obtain ⟨q, hq1, hq2, rfl⟩ := arg_rng (a := 0) (b := 3) (show ((0 : Nat) : Int) ≤ z.toInt ∧ z.toInt ≤ ((3 : Nat) : Int) by omega)
      refine r_iload_n dX5_cut_15 rfl rfl ?_
      refine r_i2l dX5_cut_16 rfl ?_
      refine r_lconst (v := 0) dX5_cut_17 rfl ?_
      refine r_ldc2 kc_X5_100 dX5_cut_18 ?_
      refine r_cS3F ms_X5_in ml_X5_41 (c5_in l _ _ _) dX5_cut_21 (Nat.le_of_ble_eq_true rfl) ⟨by decide, by decide⟩ ⟨by decide, by decide⟩ (fun _ h => nomatch h) ?_
      try dsimp only [zrst, List.cons_append, List.nil_append]
      first | refine r_if_neB (tgt := 29) dX5_cut_24 (by decide) (fun c3 => ?_) (fun c3 => ?_) | refine r_if_neN (tgt := 29) dX5_cut_24 (by decide) (by omega) (fun c3 => ?_) (fun c3 => ?_) | refine r_if_ne (tgt := 29) dX5_cut_24 (by decide) (fun c3 => ?_) (fun c3 => ?_)
      · rw [i64_of32] at c3
        have c3 : ((0 : Int) ≤ w.toInt ∧ w.toInt ≤ (199 : Int)) := c3
        have g3 : 0 ≤ w.toInt ∧ w.toInt ≤ 199 := by omega
        obtain ⟨k, hk1, hk2, rfl⟩ := arg_rng (a := 0) (b := 199) (show ((0 : Nat) : Int) ≤ w.toInt ∧ w.toInt ≤ ((199 : Nat) : Int) by omega)
        refine r_aload_n dX5_cut_29 rfl rfl ?_
        refine r_iload_n dX5_cut_30 rfl rfl ?_
        refine r_iload_n dX5_cut_31 rfl rfl ?_
        refine r_cV2F mv_X5_cutOf ml_X5_73 (c5_cutOf l hR (by omega) (by omega)) dX5_cut_32 (Nat.le_of_ble_eq_true rfl) ⟨by decide, by decide⟩ ⟨by decide, by decide⟩ sh_34 rfl (fun _ h => nomatch h) ?_
        try dsimp only [zrst, List.cons_append, List.nil_append]
        refine r_istore dX5_cut_35 rfl (by decide) ?_
        refine r_aload_n dX5_cut_37 rfl rfl ?_
        refine r_getR fl_X5_7 dX5_cut_38 sh_34 rfl ?_
        refine r_bipush (v := nI 33) dX5_cut_41 rfl ?_
        refine r_iconst (v := nI 4) dX5_cut_43 rfl ?_
        refine r_iload_n dX5_cut_44 rfl rfl ?_
        first | refine r_imulN dX5_cut_45 ?_ | refine r_imul dX5_cut_45 ?_
        first | refine r_iaddN dX5_cut_46 ?_ | refine r_iadd dX5_cut_46 ?_
        refine r_iload_n dX5_cut_47 rfl rfl ?_
        first | refine r_iaddN dX5_cut_48 ?_ | refine r_iadd dX5_cut_48 ?_
        refine r_iload_n dX5_cut_49 rfl rfl ?_
        refine r_Rast dX5_cut_50 sh_35 (by omega) (by decide) hR (by decide) (fun M hR hF1 => ?_)
        have hF := hF.trans hF1
        refine r_iload dX5_cut_51 rfl ?_
        refine r_iret dX5_cut_53 rfl (by decide) (by decide) ?_
        refine ⟨rfl, congrArg (fun x => some (Value.int x)) ?_, ?_, hF⟩
        · rw [sp_cut, if_pos ⟨g1, g2, g3⟩, tn_nI (show p < 2147483648 by omega), tn_nI (show q < 2147483648 by omega)]
        · rw [st_cut, if_pos ⟨g1, g2, g3⟩, tn_nI (show p < 2147483648 by omega), tn_nI (show q < 2147483648 by omega), tn_nI (show k < 2147483648 by omega)]
          exact hR
      · rw [i64_of32] at c3
        have c3 : ¬ ((0 : Int) ≤ w.toInt ∧ w.toInt ≤ (199 : Int)) := c3
        have b3 : ¬ (0 ≤ w.toInt ∧ w.toInt ≤ 199) := by omega
        refine r_iconst (v := (-1)) dX5_cut_27 rfl ?_
        refine r_iret dX5_cut_28 rfl (by decide) (by decide) ?_
        refine ⟨rfl, congrArg (fun x => some (Value.int x)) ?_, ?_, hF⟩
        · rw [sp_cut, if_neg]
          intro h9; first | exact absurd h9 (by assumption) | exact absurd h9.1 (by assumption) | exact absurd h9.2 (by assumption) | exact absurd h9.2.1 (by assumption) | exact absurd h9.2.2 (by assumption) | exact absurd h9.2.2.1 (by assumption) | exact absurd h9.2.2.2 (by assumption) | exact absurd h9.2.2.2.1 (by assumption) | exact absurd h9.2.2.2.2 (by assumption)
        · rw [st_cut, if_neg]
          · exact hR
          · intro h9; first | exact absurd h9 (by assumption) | exact absurd h9.1 (by assumption) | exact absurd h9.2 (by assumption) | exact absurd h9.2.1 (by assumption) | exact absurd h9.2.2 (by assumption) | exact absurd h9.2.2.1 (by assumption) | exact absurd h9.2.2.2 (by assumption) | exact absurd h9.2.2.2.1 (by assumption) | exact absurd h9.2.2.2.2 (by assumption)

set_option maxHeartbeats 4000000 in
set_option maxRecDepth 100000 in
theorem c5p_seed (l : Launch) {rw : List zC} {M0 : zM} {t : Nat → Nat → Nat} (hR : RI t M0) (hn : NB (t 35)) (x : Int32) : CT l false 0 0 0 yX5_seed cX5_seed 3 (some .int) [.ref 34, .int x] (zSh ++ rw) M0 (zG (zSh ++ rw) (zQR (sp_seed t x) (st_seed t x) M0)) := by
  refine CT.ofN (by decide) (fun _ _ => Nat.le_of_ble_eq_true rfl) ?_
  have hdd := hn.2.2.2.2.2.2.2.2.2.2.2
  have hkd := hn.2.2.2.2.2.2.2.2.1
  have how := hn.2.2.2.2.2.2.2.2.2.1
  have hcu := hn.2.2.2.2.2.2.2.2.2.2.1
  have hb0 := hn.1
  have hb1 := hn.2.1
  have hb2 := hn.2.2.1
  have hb3 := hn.2.2.2.1
  have hb4 := hn.2.2.2.2.1
  have hb5 := hn.2.2.2.2.2.1
  have hb6 := hn.2.2.2.2.2.2.1
  have hF : zfr PR M0 M0 := zfr.rf
  refine r_iload_n dX5_seed_0 rfl rfl ?_
  refine r_if_ge (tgt := 6) dX5_seed_1 (by decide) (fun c1 => ?_) (fun c1 => ?_)
  · have g1 : 0 ≤ x.toInt := i32_le.mp c1
    have hxr := i32_rng x
    obtain ⟨k, hk1, hk2, rfl⟩ := arg_rng (a := 0) (b := 2147483647) (show ((0 : Nat) : Int) ≤ x.toInt ∧ x.toInt ≤ ((2147483647 : Nat) : Int) by omega)
    refine r_aload_n dX5_seed_6 rfl rfl ?_
    refine r_getR fl_X5_7 dX5_seed_7 sh_34 rfl ?_
    refine r_bipush (v := nI 7) dX5_seed_10 rfl ?_
    refine r_ialdN dX5_seed_12 sh_35 (by omega) (by decide) (hR.a35 _) ?_
    refine r_istore_n dX5_seed_13 rfl rfl (by decide) ?_
    refine r_aload_n dX5_seed_14 rfl rfl ?_
    refine r_getR fl_X5_7 dX5_seed_15 sh_34 rfl ?_
    refine r_bipush (v := nI 7) dX5_seed_18 rfl ?_
    refine r_iload_n dX5_seed_20 rfl rfl ?_
    refine r_Rast dX5_seed_21 sh_35 (by omega) (by decide) hR (by decide) (fun M hR hF1 => ?_)
    have hF := hF.trans hF1
    refine r_iload_n dX5_seed_22 rfl rfl ?_
    refine r_iret dX5_seed_23 rfl (by decide) (by decide) ?_
    refine ⟨rfl, congrArg (fun x => some (Value.int x)) ?_, ?_, hF⟩
    · rw [sp_seed, if_pos (g1)]
    · rw [st_seed, if_pos (g1), tn_nI (show k < 2147483648 by omega)]
      exact hR
  · have b1 : ¬ 0 ≤ x.toInt := fun h => c1 (i32_le.mpr h)
    refine r_iconst (v := (-1)) dX5_seed_4 rfl ?_
    refine r_iret dX5_seed_5 rfl (by decide) (by decide) ?_
    refine ⟨rfl, congrArg (fun x => some (Value.int x)) ?_, ?_, hF⟩
    · rw [sp_seed, if_neg]
      intro h9; first | exact absurd h9 (by assumption) | exact absurd h9.1 (by assumption) | exact absurd h9.2 (by assumption) | exact absurd h9.2.1 (by assumption) | exact absurd h9.2.2 (by assumption) | exact absurd h9.2.2.1 (by assumption) | exact absurd h9.2.2.2 (by assumption) | exact absurd h9.2.2.2.1 (by assumption) | exact absurd h9.2.2.2.2 (by assumption)
    · rw [st_seed, if_neg]
      · exact hR
      · intro h9; first | exact absurd h9 (by assumption) | exact absurd h9.1 (by assumption) | exact absurd h9.2 (by assumption) | exact absurd h9.2.1 (by assumption) | exact absurd h9.2.2 (by assumption) | exact absurd h9.2.2.1 (by assumption) | exact absurd h9.2.2.2 (by assumption) | exact absurd h9.2.2.2.1 (by assumption) | exact absurd h9.2.2.2.2 (by assumption)

theorem SI_own {t : Nat → Nat → Nat} {M : zM} {p q v : Nat} (h : SI 1 (t 35) (t 38) (t 34 7) M) (hp : p < t 35 0) (hq : q < 4) : SI 1 (ts t 35 (8 + 5 * p + 1 + q) v 35) (ts t 35 (8 + 5 * p + 1 + q) v 38) (ts t 35 (8 + 5 * p + 1 + q) v 34 7) (zI M 3 (upd (M.1 3) (p * 4 + q) (nI v))) := by
  obtain ⟨⟨f0, f1, f2, f3, f4, f5, f6, f7, f8⟩, a2, a3, a4, a5, a9⟩ := h
  have e8 : ∀ j, j ≠ 8 + 5 * p + 1 + q → ts t 35 (8 + 5 * p + 1 + q) v 35 j = t 35 j := fun j hj => ts_nk hj
  sorry
