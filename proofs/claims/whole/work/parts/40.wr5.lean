set_option maxHeartbeats 4000000 in
set_option maxRecDepth 100000 in
theorem c5_isDone (l : Launch) {rw : List zC} {M0 : zM} {t : Nat → Nat → Nat} (hR : RI t M0) {p s w : Nat} (hlt : t 35 2 < 10) : CT l false 0 0 0 yX5_isDone cX5_isDone 5 none [.ref 34, .int (nI p), .int (nI s), .int (nI w)] (zSh ++ rw) M0 (zG (zSh ++ rw) (fun v M9 => v = none ∧ RI (nd t p s w) M9 ∧ zfr PR M0 M9)) := by
  refine CT.ofN (by decide) (fun _ _ => Nat.le_of_ble_eq_true rfl) ?_
  have hF : zfr PR M0 M0 := zfr.rf
  refine r_bipush (v := nI 49) dX5_isDone_0 rfl ?_
  refine r_iconst (v := nI 4) dX5_isDone_2 rfl ?_
  refine r_aload_n dX5_isDone_3 rfl rfl ?_
  refine r_getR fl_X5_7 dX5_isDone_4 sh_34 rfl ?_
  refine r_iconst (v := nI 2) dX5_isDone_7 rfl ?_
  refine r_ialdN dX5_isDone_8 sh_35 (by omega) (by decide) (hR.a35 _) ?_
  first | refine r_imulN dX5_isDone_9 ?_ | refine r_imul dX5_isDone_9 ?_
  first | refine r_iaddN dX5_isDone_10 ?_ | refine r_iadd dX5_isDone_10 ?_
  refine r_istore dX5_isDone_11 rfl (by decide) ?_
  refine r_aload_n dX5_isDone_13 rfl rfl ?_
  refine r_getR fl_X5_7 dX5_isDone_14 sh_34 rfl ?_
  refine r_iload dX5_isDone_17 rfl ?_
  refine r_iload_n dX5_isDone_19 rfl rfl ?_
  refine r_Rast dX5_isDone_20 sh_35 (by omega) (by decide) hR (by decide) (fun M hR hF1 => ?_)
  have hF := hF.trans hF1
  refine r_aload_n dX5_isDone_21 rfl rfl ?_
  refine r_getR fl_X5_7 dX5_isDone_22 sh_34 rfl ?_
  refine r_iload dX5_isDone_25 rfl ?_
  refine r_iconst (v := nI 1) dX5_isDone_27 rfl ?_
  first | refine r_iaddN dX5_isDone_28 ?_ | refine r_iadd dX5_isDone_28 ?_
  refine r_iload_n dX5_isDone_29 rfl rfl ?_
  refine r_Rast dX5_isDone_30 sh_35 (by omega) (by decide) hR (by decide) (fun M hR hF1 => ?_)
  have hF := hF.trans hF1
  refine r_aload_n dX5_isDone_31 rfl rfl ?_
  refine r_getR fl_X5_7 dX5_isDone_32 sh_34 rfl ?_
  refine r_iload dX5_isDone_35 rfl ?_
  refine r_iconst (v := nI 2) dX5_isDone_37 rfl ?_
  first | refine r_iaddN dX5_isDone_38 ?_ | refine r_iadd dX5_isDone_38 ?_
  refine r_iload_n dX5_isDone_39 rfl rfl ?_
  refine r_Rast dX5_isDone_40 sh_35 (by omega) (by decide) hR (by decide) (fun M hR hF1 => ?_)
  have hF := hF.trans hF1
  refine r_aload_n dX5_isDone_41 rfl rfl ?_
  refine r_getR fl_X5_7 dX5_isDone_42 sh_34 rfl ?_
  refine r_iload dX5_isDone_45 rfl ?_
  refine r_iconst (v := nI 3) dX5_isDone_47 rfl ?_
  first | refine r_iaddN dX5_isDone_48 ?_ | refine r_iadd dX5_isDone_48 ?_
  refine r_aload_n dX5_isDone_49 rfl rfl ?_
  refine r_getR fl_X5_7 dX5_isDone_50 sh_34 rfl ?_
  refine r_iconst (v := nI 3) dX5_isDone_53 rfl ?_
  refine r_ialdN dX5_isDone_54 sh_35 (by omega) (by decide) (hR.a35 _) ?_
  refine r_top (v' := .int (nI (t 35 3))) (congrArg (fun z => Value.int (nI z)) (by rw [ts_nk (by omega), ts_nk (by omega), ts_nk (by omega)])) ?_
  refine r_Rast dX5_isDone_55 sh_35 (by omega) (by decide) hR (by decide) (fun M hR hF1 => ?_)
  have hF := hF.trans hF1
  refine r_aload_n dX5_isDone_56 rfl rfl ?_
  refine r_getR fl_X5_7 dX5_isDone_57 sh_34 rfl ?_
  refine r_iconst (v := nI 2) dX5_isDone_60 rfl ?_
  refine r_dup2 dX5_isDone_61 rfl rfl ?_
  refine r_ialdN dX5_isDone_62 sh_35 (by omega) (by decide) (hR.a35 _) ?_
  refine r_top (v' := .int (nI (t 35 2))) (congrArg (fun z => Value.int (nI z)) (by rw [ts_nk (by omega), ts_nk (by omega), ts_nk (by omega), ts_nk (by omega)])) ?_
  refine r_iconst (v := nI 1) dX5_isDone_63 rfl ?_
  first | refine r_iaddN dX5_isDone_64 ?_ | refine r_iadd dX5_isDone_64 ?_
  refine r_Rast dX5_isDone_65 sh_35 (by omega) (by decide) hR (by decide) (fun M hR hF1 => ?_)
  have hF := hF.trans hF1
  refine r_vret dX5_isDone_66 rfl (by decide) (by decide) ?_
  exact ⟨rfl, rfl, hR, hF⟩

set_option maxHeartbeats 4000000 in
set_option maxRecDepth 100000 in
theorem c3_addDeed (l : Launch) {rw : List zC} {M0 : zM} {t : Nat → Nat → Nat} (hS : SI 1 (t 35) (t 38) (t 34 7) M0) (hn : NB (t 35)) {p s w : Nat} (hlt : t 35 2 < 10) : CT l false 0 0 0 yX3_addDeed cX3_addDeed 5 (some .int) [.ref 1, .int (nI p), .int (nI s), .int (nI w)] (zSh ++ rw) M0 (zG (zSh ++ rw) (zQC (nI (t 35 2)) (nd t p s w) (fun i => i = 1 ∨ i = 5 ∨ i = 6 ∨ i = 7 ∨ i = 8) M0)) := by
  refine CT.ofN (by decide) (fun _ _ => Nat.le_of_ble_eq_true rfl) ?_
  have hdd := hn.2.2.2.2.2.2.2.2.2.2.2
  have hkd := hn.2.2.2.2.2.2.2.2.1
  have how := hn.2.2.2.2.2.2.2.2.2.1
  have hcu := hn.2.2.2.2.2.2.2.2.2.2.1
  have hb0 := hn.1
  have hb1 := hn.2.1
  have hb2 := hn.2.2.1
  have hb3 := hn.2.2.2.1
  have hb4 := hn.2.2.2.2.1
  have hb5 := hn.2.2.2.2.2.1
  have hb6 := hn.2.2.2.2.2.2.1
  refine r_aload_n dX3_addDeed_0 rfl rfl ?_
  refine r_getV fl_X3_56 dX3_addDeed_1 sh_1 rfl hS.f2 ?_
  refine r_istore dX3_addDeed_4 rfl (by decide) ?_
  refine r_aload_n dX3_addDeed_6 rfl rfl ?_
  refine r_getR fl_X3_31 dX3_addDeed_7 sh_1 rfl ?_
  refine r_iload dX3_addDeed_10 rfl ?_
  refine r_iload_n dX3_addDeed_12 rfl rfl ?_
  refine r_iastN dX3_addDeed_13 sh_5 (by omega) (by decide) ?_
  refine r_aload_n dX3_addDeed_14 rfl rfl ?_
  refine r_getR fl_X3_34 dX3_addDeed_15 sh_1 rfl ?_
  refine r_iload dX3_addDeed_18 rfl ?_
  refine r_iload_n dX3_addDeed_20 rfl rfl ?_
  refine r_iastN dX3_addDeed_21 sh_6 (by omega) (by decide) ?_
  refine r_aload_n dX3_addDeed_22 rfl rfl ?_
  refine r_getR fl_X3_37 dX3_addDeed_23 sh_1 rfl ?_
  refine r_iload dX3_addDeed_26 rfl ?_
  refine r_iload_n dX3_addDeed_28 rfl rfl ?_
  refine r_iastN dX3_addDeed_29 sh_7 (by omega) (by decide) ?_
  refine r_aload_n dX3_addDeed_30 rfl rfl ?_
  refine r_getR fl_X3_40 dX3_addDeed_31 sh_1 rfl ?_
  refine r_iload dX3_addDeed_34 rfl ?_
  refine r_aload_n dX3_addDeed_36 rfl rfl ?_
  refine r_getV fl_X3_62 dX3_addDeed_37 sh_1 rfl hS.f4 ?_
  refine r_iastN dX3_addDeed_40 sh_8 (by omega) (by decide) ?_
  refine r_aload_n dX3_addDeed_41 rfl rfl ?_
  refine r_iload dX3_addDeed_42 rfl ?_
  refine r_iconst (v := nI 1) dX3_addDeed_44 rfl ?_
  first | refine r_iaddN dX3_addDeed_45 ?_ | refine r_iadd dX3_addDeed_45 ?_
  refine r_putI fl_X3_56 dX3_addDeed_46 rfl rfl sh_1 rfl ?_
  refine r_iload dX3_addDeed_49 rfl ?_
  refine r_iret dX3_addDeed_51 rfl (by decide) (by decide) ?_
  exact ⟨rfl, rfl, SI_deed hS hn hlt rfl rfl rfl rfl rfl (fun c h1 h2 h3 h4 h5 h6 => by rcases (show c = 2 ∨ c = 3 ∨ c = 4 ∨ c = 9 by omega) with rfl | rfl | rfl | rfl <;> rfl), (zfr.trans (zfr.trans (zfr.trans (zfr.trans (zfr.trans zfr.rf (zfr_I (by simp))) (zfr_I (by simp))) (zfr_I (by simp))) (zfr_I (by simp))) (zfr_I (by simp)))⟩

set_option maxHeartbeats 4000000 in
set_option maxRecDepth 100000 in
theorem c5p_does (l : Launch) {rw : List zC} {M0 : zM} {t : Nat → Nat → Nat} (hR : RI t M0) (hn : NB (t 35)) (x z w : Int32) (hkn : t 34 7 ≤ 8) : CT l false 2 0 0 yX5_does cX5_does 4 (some .int) [.ref 34, .int x, .int z, .int w] (zSh ++ rw) M0 (zG (zSh ++ rw) (zQR (sp_does t x z w) (st_does t x z w) M0)) := by
  refine CT.ofN (by decide) (fun _ _ => Nat.le_of_ble_eq_true rfl) ?_
  have hdd := hn.2.2.2.2.2.2.2.2.2.2.2
  have hkd := hn.2.2.2.2.2.2.2.2.1
  have how := hn.2.2.2.2.2.2.2.2.2.1
  have hcu := hn.2.2.2.2.2.2.2.2.2.2.1
  have hb0 := hn.1
  have hb1 := hn.2.1
  have hb2 := hn.2.2.1
  have hb3 := hn.2.2.2.1
  have hb4 := hn.2.2.2.2.1
  have hb5 := hn.2.2.2.2.2.1
  have hb6 := hn.2.2.2.2.2.2.1
  have hF : zfr PR M0 M0 := zfr.rf
  refine r_aload_n dX5_does_0 rfl rfl ?_
  refine r_iload_n dX5_does_1 rfl rfl ?_
  refine r_cV1F mv_X5_isPerson ml_X5_93 (c5_isPerson l hR (by omega) _) dX5_does_2 (Nat.le_of_ble_eq_true rfl) ⟨by decide, by decide⟩ ⟨by decide, by decide⟩ sh_34 rfl (fun _ h => nomatch h) ?_
  try dsimp only [zrst, List.cons_append, List.nil_append]
  first | refine r_if_eqB (tgt := 32) dX5_does_5 (by decide) (fun c1 => ?_) (fun c1 => ?_) | refine r_if_eqN (tgt := 32) dX5_does_5 (by decide) (by omega) (fun c1 => ?_) (fun c1 => ?_) | refine r_if_eq (tgt := 32) dX5_does_5 (by decide) (fun c1 => ?_) (fun c1 => ?_)
  · have b1 : ¬ (0 ≤ x.toInt ∧ x.toInt < (t 35 0 : Int)) := by omega
    refine r_iconst (v := (-1)) dX5_does_32 rfl ?_
    refine r_iret dX5_does_33 rfl (by decide) (by decide) ?_
    refine ⟨rfl, congrArg (fun x => some (Value.int x)) ?_, ?_, hF⟩
    · rw [sp_does, if_neg]
      intro h9; first | exact absurd h9 (by assumption) | exact absurd h9.1 (by assumption) | exact absurd h9.2 (by assumption) | exact absurd h9.2.1 (by assumption) | exact absurd h9.2.2 (by assumption) | exact absurd h9.2.2.1 (by assumption) | exact absurd h9.2.2.2 (by assumption) | exact absurd h9.2.2.2.1 (by assumption) | exact absurd h9.2.2.2.2 (by assumption)
    · rw [st_does, if_neg]
      · exact hR
      · intro h9; first | exact absurd h9 (by assumption) | exact absurd h9.1 (by assumption) | exact absurd h9.2 (by assumption) | exact absurd h9.2.1 (by assumption) | exact absurd h9.2.2 (by assumption) | exact absurd h9.2.2.1 (by assumption) | exact absurd h9.2.2.2 (by assumption) | exact absurd h9.2.2.2.1 (by assumption) | exact absurd h9.2.2.2.2 (by assumption)
  · have g1 : 0 ≤ x.toInt ∧ x.toInt < (t 35 0 : Int) := by omega
    obtain ⟨p, hp, rfl⟩ := arg_nat (n := t 35 0) (show 0 ≤ x.toInt ∧ x.toInt < ((t 35 0 : Nat) : Int) by omega)
    refine r_iload_n dX5_does_8 rfl rfl ?_
    refine r_i2l dX5_does_9 rfl ?_
    refine r_lconst (v := 0) dX5_does_10 rfl ?_
    refine r_ldc2 kc_X5_116 dX5_does_11 ?_
    refine r_cS3F ms_X5_in ml_X5_41 (c5_in l _ _ _) dX5_does_14 (Nat.le_of_ble_eq_true rfl) ⟨by decide, by decide⟩ ⟨by decide, by decide⟩ (fun _ h => nomatch h) ?_
    try dsimp only [zrst, List.cons_append, List.nil_append]
    first | refine r_if_eqB (tgt := 32) dX5_does_17 (by decide) (fun c2 => ?_) (fun c2 => ?_) | refine r_if_eqN (tgt := 32) dX5_does_17 (by decide) (by omega) (fun c2 => ?_) (fun c2 => ?_) | refine r_if_eq (tgt := 32) dX5_does_17 (by decide) (fun c2 => ?_) (fun c2 => ?_)
    · rw [i64_of32] at c2
      have c2 : ¬ ((0 : Int) ≤ z.toInt ∧ z.toInt ≤ (5 : Int)) := c2
      have b2 : ¬ (0 ≤ z.toInt ∧ z.toInt ≤ 5) := by omega
      refine r_iconst (v := (-1)) dX5_does_32 rfl ?_
      refine r_iret dX5_does_33 rfl (by decide) (by decide) ?_
      refine ⟨rfl, congrArg (fun x => some (Value.int x)) ?_, ?_, hF⟩
      · rw [sp_does, if_neg]
        intro h9; first | exact absurd h9 (by assumption) | exact absurd h9.1 (by assumption) | exact absurd h9.2 (by assumption) | exact absurd h9.2.1 (by assumption) | exact absurd h9.2.2 (by assumption) | exact absurd h9.2.2.1 (by assumption) | exact absurd h9.2.2.2 (by assumption) | exact absurd h9.2.2.2.1 (by assumption) | exact absurd h9.2.2.2.2 (by assumption)
      · rw [st_does, if_neg]
        · exact hR
        · intro h9; first | exact absurd h9 (by assumption) | exact absurd h9.1 (by assumption) | exact absurd h9.2 (by assumption) | exact absurd h9.2.1 (by assumption) | exact absurd h9.2.2 (by assumption) | exact absurd h9.2.2.1 (by assumption) | exact absurd h9.2.2.2 (by assumption) | exact absurd h9.2.2.2.1 (by assumption) | exact absurd h9.2.2.2.2 (by assumption)
    · rw [i64_of32] at c2
      have c2 : ((0 : Int) ≤ z.toInt ∧ z.toInt ≤ (5 : Int)) := c2
      have g2 : 0 ≤ z.toInt ∧ z.toInt ≤ 5 := by omega
      obtain ⟨q, hq1, hq2, rfl⟩ := arg_rng (a := 0) (b := 5) (show ((0 : Nat) : Int) ≤ z.toInt ∧ z.toInt ≤ ((5 : Nat) : Int) by omega)
      refine r_iload_n dX5_does_20 rfl rfl ?_
      refine r_i2l dX5_does_21 rfl ?_
      refine r_lconst (v := 1) dX5_does_22 rfl ?_
      refine r_ldc2 kc_X5_105 dX5_does_23 ?_
      refine r_cS3F ms_X5_in ml_X5_41 (c5_in l _ _ _) dX5_does_26 (Nat.le_of_ble_eq_true rfl) ⟨by decide, by decide⟩ ⟨by decide, by decide⟩ (fun _ h => nomatch h) ?_
      try dsimp only [zrst, List.cons_append, List.nil_append]
      first | refine r_if_neB (tgt := 34) dX5_does_29 (by decide) (fun c3 => ?_) (fun c3 => ?_) | refine r_if_neN (tgt := 34) dX5_does_29 (by decide) (by omega) (fun c3 => ?_) (fun c3 => ?_) | refine r_if_ne (tgt := 34) dX5_does_29 (by decide) (fun c3 => ?_) (fun c3 => ?_)
      · rw [i64_of32] at c3
        have c3 : ((1 : Int) ≤ w.toInt ∧ w.toInt ≤ (9 : Int)) := c3
        have g3 : 1 ≤ w.toInt ∧ w.toInt ≤ 9 := by omega
        obtain ⟨k, hk1, hk2, rfl⟩ := arg_rng (a := 1) (b := 9) (show ((1 : Nat) : Int) ≤ w.toInt ∧ w.toInt ≤ ((9 : Nat) : Int) by omega)
        refine r_aload_n dX5_does_34 rfl rfl ?_
        refine r_getR fl_X5_7 dX5_does_35 sh_34 rfl ?_
        refine r_iconst (v := nI 2) dX5_does_38 rfl ?_
        refine r_ialdN dX5_does_39 sh_35 (by omega) (by decide) (hR.a35 _) ?_
        refine r_bipush (v := nI 10) dX5_does_40 rfl ?_
        first | refine r_icmp_neN (tgt := 48) dX5_does_42 (by decide) (by omega) (by omega) (fun c4 => ?_) (fun c4 => ?_) | refine r_icmp_ne (tgt := 48) dX5_does_42 (by decide) (fun c4 => ?_) (fun c4 => ?_)
        · refine r_aload_n dX5_does_48 rfl rfl ?_
          refine r_cV0G mv_X5_notes ml_X5_170 (c5_notes l hR hkn) dX5_does_49 (Nat.le_of_ble_eq_true rfl) ⟨by decide, by decide⟩ ⟨by decide, by decide⟩ sh_34 rfl (fun _ h => nomatch h) (fun v M1 hq => ?_)
          obtain ⟨rfl, hR, hF1⟩ := hq
          have hF := hF.trans hF1
          dsimp only [zrst, List.cons_append, List.nil_append]
          refine r_aload_n dX5_does_52 rfl rfl ?_
          refine r_iload_n dX5_does_53 rfl rfl ?_
          refine r_iload_n dX5_does_54 rfl rfl ?_
          refine r_iload_n dX5_does_55 rfl rfl ?_
          refine r_cV3G mv_X5_isDone ml_X5_173 (c5_isDone l hR (by rw [sn_35]; omega)) dX5_does_56 (Nat.le_of_ble_eq_true rfl) ⟨by decide, by decide⟩ ⟨by decide, by decide⟩ sh_34 rfl (fun _ h => nomatch h) (fun v M1 hq => ?_)
          obtain ⟨rfl, hR, hF1⟩ := hq
          have hF := hF.trans hF1
          dsimp only [zrst, List.cons_append, List.nil_append]
          refine r_aload_n dX5_does_59 rfl rfl ?_
          refine r_getR fl_X5_7 dX5_does_60 sh_34 rfl ?_
          refine r_iconst (v := nI 2) dX5_does_63 rfl ?_
          refine r_ialdN dX5_does_64 sh_35 (by omega) (by decide) (hR.a35 _) ?_
          refine r_top (v' := .int (nI (t 35 2 + 1))) (congrArg (fun z => Value.int (nI z)) (by rw [nd_2, sn_35])) ?_
          refine r_iconst (v := nI 1) dX5_does_65 rfl ?_
          first | refine r_isubN dX5_does_66 (by omega) ?_ | refine r_isub dX5_does_66 ?_
          rw [Nat.add_sub_cancel]
          refine r_iret dX5_does_67 rfl (by decide) (by decide) ?_
          (refine ⟨rfl, congrArg (fun x => some (Value.int x)) ?_, ?_, hF⟩; (rw [sp_does, if_pos ⟨g1, g2, g3⟩, if_neg (show ¬ t 35 2 = 10 by omega)]); (rw [st_does, if_pos ⟨g1, g2, g3⟩, if_neg (show ¬ t 35 2 = 10 by omega), tn_nI (show p < 2147483648 by omega), tn_nI (show q < 2147483648 by omega), tn_nI (show k < 2147483648 by omega)]; first | exact hR | exact hS))
        · refine r_bipush (v := (-3)) dX5_does_45 rfl ?_
          refine r_iret dX5_does_47 rfl (by decide) (by decide) ?_
          (refine ⟨rfl, congrArg (fun x => some (Value.int x)) ?_, ?_, hF⟩; (rw [sp_does, if_pos ⟨g1, g2, g3⟩, if_pos (show t 35 2 = 10 by omega)]); (rw [st_does, if_pos ⟨g1, g2, g3⟩, if_pos (show t 35 2 = 10 by omega)]; exact hR))
      · rw [i64_of32] at c3
        have c3 : ¬ ((1 : Int) ≤ w.toInt ∧ w.toInt ≤ (9 : Int)) := c3
        have b3 : ¬ (1 ≤ w.toInt ∧ w.toInt ≤ 9) := by omega
        refine r_iconst (v := (-1)) dX5_does_32 rfl ?_
        refine r_iret dX5_does_33 rfl (by decide) (by decide) ?_
        refine ⟨rfl, congrArg (fun x => some (Value.int x)) ?_, ?_, hF⟩
        · rw [sp_does, if_neg]
          intro h9; first | exact absurd h9 (by assumption) | exact absurd h9.1 (by assumption) | exact absurd h9.2 (by assumption) | exact absurd h9.2.1 (by assumption) | exact absurd h9.2.2 (by assumption) | exact absurd h9.2.2.1 (by assumption) | exact absurd h9.2.2.2 (by assumption) | exact absurd h9.2.2.2.1 (by assumption) | exact absurd h9.2.2.2.2 (by assumption)
        · rw [st_does, if_neg]
          · exact hR
          · intro h9; first | exact absurd h9 (by assumption) | exact absurd h9.1 (by assumption) | exact absurd h9.2 (by assumption) | exact absurd h9.2.1 (by assumption) | exact absurd h9.2.2 (by assumption) | exact absurd h9.2.2.1 (by assumption) | exact absurd h9.2.2.2 (by assumption) | exact absurd h9.2.2.2.1 (by assumption) | exact absurd h9.2.2.2.2 (by assumption)

set_option maxHeartbeats 4000000 in
set_option maxRecDepth 100000 in
theorem c4_does (l : Launch) {rw : List zC} {M0 : zM} {t : Nat → Nat → Nat} (hS : SI 1 (t 35) (t 38) (t 34 7) M0) (hn : NB (t 35)) (x z w : Int32) (hkn : t 34 7 ≤ 8) : CT l false 2 0 0 yX4_does cX4_does 4 (some .int) [.ref 0, .int x, .int z, .int w] (zSh ++ rw) M0 (zG (zSh ++ rw) (zQC (sp_does t x z w) (st_does t x z w) (fun i => i = 1 ∨ i = 5 ∨ i = 6 ∨ i = 7 ∨ i = 8 ∨ i = 9) M0)) := by
  refine CT.ofN (by decide) (fun _ _ => Nat.le_of_ble_eq_true rfl) ?_
  have hdd := hn.2.2.2.2.2.2.2.2.2.2.2
  have hkd := hn.2.2.2.2.2.2.2.2.1
  have how := hn.2.2.2.2.2.2.2.2.2.1
  have hcu := hn.2.2.2.2.2.2.2.2.2.2.1
  have hb0 := hn.1
  have hb1 := hn.2.1
  have hb2 := hn.2.2.1
  have hb3 := hn.2.2.2.1
  have hb4 := hn.2.2.2.2.1
  have hb5 := hn.2.2.2.2.2.1
  have hb6 := hn.2.2.2.2.2.2.1
  refine r_aload_n dX4_does_0 rfl rfl ?_
  refine r_getR fl_X4_10 dX4_does_1 sh_0 rfl ?_
  refine r_iload_n dX4_does_4 rfl rfl ?_
  refine r_cV1F mv_X3_hasPerson ml_X4_53 (c3_hasPerson l hS (by omega) _) dX4_does_5 (Nat.le_of_ble_eq_true rfl) ⟨by decide, by decide⟩ ⟨by decide, by decide⟩ sh_1 rfl (fun _ h => nomatch h) ?_
  try dsimp only [zrst, List.cons_append, List.nil_append]
  first | refine r_if_eqB (tgt := 30) dX4_does_8 (by decide) (fun c1 => ?_) (fun c1 => ?_) | refine r_if_eqN (tgt := 30) dX4_does_8 (by decide) (by omega) (fun c1 => ?_) (fun c1 => ?_) | refine r_if_eq (tgt := 30) dX4_does_8 (by decide) (fun c1 => ?_) (fun c1 => ?_)
  · have b1 : ¬ (0 ≤ x.toInt ∧ x.toInt < (t 35 0 : Int)) := by omega
    refine r_iconst (v := (-1)) dX4_does_30 rfl ?_
    refine r_iret dX4_does_31 rfl (by decide) (by decide) ?_
    refine ⟨rfl, congrArg (fun x => some (Value.int x)) ?_, ?_, zfr.rf⟩
    · rw [sp_does, if_neg]
      intro h9; first | exact absurd h9 (by assumption) | exact absurd h9.1 (by assumption) | exact absurd h9.2 (by assumption) | exact absurd h9.2.1 (by assumption) | exact absurd h9.2.2 (by assumption) | exact absurd h9.2.2.1 (by assumption) | exact absurd h9.2.2.2 (by assumption) | exact absurd h9.2.2.2.1 (by assumption) | exact absurd h9.2.2.2.2 (by assumption)
    · rw [st_does, if_neg]
      · exact hS
      · intro h9; first | exact absurd h9 (by assumption) | exact absurd h9.1 (by assumption) | exact absurd h9.2 (by assumption) | exact absurd h9.2.1 (by assumption) | exact absurd h9.2.2 (by assumption) | exact absurd h9.2.2.1 (by assumption) | exact absurd h9.2.2.2 (by assumption) | exact absurd h9.2.2.2.1 (by assumption) | exact absurd h9.2.2.2.2 (by assumption)
  · have g1 : 0 ≤ x.toInt ∧ x.toInt < (t 35 0 : Int) := by omega
    obtain ⟨p, hp, rfl⟩ := arg_nat (n := t 35 0) (show 0 ≤ x.toInt ∧ x.toInt < ((t 35 0 : Nat) : Int) by omega)
    refine r_iload_n dX4_does_11 rfl rfl ?_
    refine r_iconst (v := nI 0) dX4_does_12 rfl ?_
    refine r_iconst (v := nI 5) dX4_does_13 rfl ?_
    refine r_cS3F ms_X4_within ml_X4_41 (c4_within l _ _ _) dX4_does_14 (Nat.le_of_ble_eq_true rfl) ⟨by decide, by decide⟩ ⟨by decide, by decide⟩ (fun _ h => nomatch h) ?_
    try dsimp only [zrst, List.cons_append, List.nil_append]
    first | refine r_if_eqB (tgt := 30) dX4_does_17 (by decide) (fun c2 => ?_) (fun c2 => ?_) | refine r_if_eqN (tgt := 30) dX4_does_17 (by decide) (by omega) (fun c2 => ?_) (fun c2 => ?_) | refine r_if_eq (tgt := 30) dX4_does_17 (by decide) (fun c2 => ?_) (fun c2 => ?_)
    · have c2 : ¬ ((0 : Int) ≤ z.toInt ∧ z.toInt ≤ (5 : Int)) := c2
      have b2 : ¬ (0 ≤ z.toInt ∧ z.toInt ≤ 5) := by omega
      refine r_iconst (v := (-1)) dX4_does_30 rfl ?_
      refine r_iret dX4_does_31 rfl (by decide) (by decide) ?_
      refine ⟨rfl, congrArg (fun x => some (Value.int x)) ?_, ?_, zfr.rf⟩
      · rw [sp_does, if_neg]
        intro h9; first | exact absurd h9 (by assumption) | exact absurd h9.1 (by assumption) | exact absurd h9.2 (by assumption) | exact absurd h9.2.1 (by assumption) | exact absurd h9.2.2 (by assumption) | exact absurd h9.2.2.1 (by assumption) | exact absurd h9.2.2.2 (by assumption) | exact absurd h9.2.2.2.1 (by assumption) | exact absurd h9.2.2.2.2 (by assumption)
      · rw [st_does, if_neg]
        · exact hS
        · intro h9; first | exact absurd h9 (by assumption) | exact absurd h9.1 (by assumption) | exact absurd h9.2 (by assumption) | exact absurd h9.2.1 (by assumption) | exact absurd h9.2.2 (by assumption) | exact absurd h9.2.2.1 (by assumption) | exact absurd h9.2.2.2 (by assumption) | exact absurd h9.2.2.2.1 (by assumption) | exact absurd h9.2.2.2.2 (by assumption)
    · have c2 : ((0 : Int) ≤ z.toInt ∧ z.toInt ≤ (5 : Int)) := c2
      have g2 : 0 ≤ z.toInt ∧ z.toInt ≤ 5 := by omega
      obtain ⟨q, hq1, hq2, rfl⟩ := arg_rng (a := 0) (b := 5) (show ((0 : Nat) : Int) ≤ z.toInt ∧ z.toInt ≤ ((5 : Nat) : Int) by omega)
      refine r_iload_n dX4_does_20 rfl rfl ?_
      refine r_iconst (v := nI 1) dX4_does_21 rfl ?_
      refine r_bipush (v := nI 9) dX4_does_22 rfl ?_
      refine r_cS3F ms_X4_within ml_X4_41 (c4_within l _ _ _) dX4_does_24 (Nat.le_of_ble_eq_true rfl) ⟨by decide, by decide⟩ ⟨by decide, by decide⟩ (fun _ h => nomatch h) ?_
      try dsimp only [zrst, List.cons_append, List.nil_append]
      first | refine r_if_neB (tgt := 32) dX4_does_27 (by decide) (fun c3 => ?_) (fun c3 => ?_) | refine r_if_neN (tgt := 32) dX4_does_27 (by decide) (by omega) (fun c3 => ?_) (fun c3 => ?_) | refine r_if_ne (tgt := 32) dX4_does_27 (by decide) (fun c3 => ?_) (fun c3 => ?_)
      · have c3 : ((1 : Int) ≤ w.toInt ∧ w.toInt ≤ (9 : Int)) := c3
        have g3 : 1 ≤ w.toInt ∧ w.toInt ≤ 9 := by omega
        obtain ⟨k, hk1, hk2, rfl⟩ := arg_rng (a := 1) (b := 9) (show ((1 : Nat) : Int) ≤ w.toInt ∧ w.toInt ≤ ((9 : Nat) : Int) by omega)
        refine r_aload_n dX4_does_32 rfl rfl ?_
        refine r_getR fl_X4_10 dX4_does_33 sh_0 rfl ?_
        refine r_getV fl_X4_137 dX4_does_36 sh_1 rfl hS.f2 ?_
        refine r_bipush (v := nI 10) dX4_does_39 rfl ?_
        first | refine r_icmp_ltN (tgt := 47) dX4_does_41 (by decide) (by omega) (by omega) (fun c4 => ?_) (fun c4 => ?_) | refine r_icmp_lt (tgt := 47) dX4_does_41 (by decide) (fun c4 => ?_) (fun c4 => ?_)
        · refine r_aload_n dX4_does_47 rfl rfl ?_
          refine r_getR fl_X4_10 dX4_does_48 sh_0 rfl ?_
          refine r_cV0G mv_X3_remember ml_X4_152 (c3_remember l hS hkn) dX4_does_51 (Nat.le_of_ble_eq_true rfl) ⟨by decide, by decide⟩ ⟨by decide, by decide⟩ sh_1 rfl (fun _ h => nomatch h) (fun v M1 hq => ?_)
          obtain ⟨rfl, hS, hF⟩ := hq
          have hF := hF.wk (P' := (fun i => i = 1 ∨ i = 5 ∨ i = 6 ∨ i = 7 ∨ i = 8 ∨ i = 9)) (fun i h => by omega)
          dsimp only [zrst, List.cons_append, List.nil_append]
          refine r_aload_n dX4_does_54 rfl rfl ?_
          refine r_getR fl_X4_10 dX4_does_55 sh_0 rfl ?_
          refine r_iload_n dX4_does_58 rfl rfl ?_
          refine r_iload_n dX4_does_59 rfl rfl ?_
          refine r_iload_n dX4_does_60 rfl rfl ?_
          refine r_cV3G mv_X3_addDeed ml_X4_155 (c3_addDeed l hS (by rw [sn_35]; exact hn) (by rw [sn_35]; omega)) dX4_does_61 (Nat.le_of_ble_eq_true rfl) ⟨by decide, by decide⟩ ⟨by decide, by decide⟩ sh_1 rfl (fun _ h => nomatch h) (fun v M1 hq => ?_)
          obtain ⟨rfl, hS, hF2⟩ := hq
          have hF := hF.trans (hF2.wk (fun i h => by omega))
          dsimp only [zrst, List.cons_append, List.nil_append]
          rw [sn_35]
          refine r_iret dX4_does_64 rfl (by decide) (by decide) ?_
          (refine ⟨rfl, congrArg (fun x => some (Value.int x)) ?_, ?_, hF⟩; (rw [sp_does, if_pos ⟨g1, g2, g3⟩, if_neg (show ¬ t 35 2 = 10 by omega)]); (rw [st_does, if_pos ⟨g1, g2, g3⟩, if_neg (show ¬ t 35 2 = 10 by omega), tn_nI (show p < 2147483648 by omega), tn_nI (show q < 2147483648 by omega), tn_nI (show k < 2147483648 by omega)]; first | exact hR | exact hS))
        · refine r_bipush (v := (-3)) dX4_does_44 rfl ?_
          refine r_iret dX4_does_46 rfl (by decide) (by decide) ?_
          (refine ⟨rfl, congrArg (fun x => some (Value.int x)) ?_, ?_, zfr.rf⟩; (rw [sp_does, if_pos ⟨g1, g2, g3⟩, if_pos (show t 35 2 = 10 by omega)]); (rw [st_does, if_pos ⟨g1, g2, g3⟩, if_pos (show t 35 2 = 10 by omega)]; exact hS))
      · have c3 : ¬ ((1 : Int) ≤ w.toInt ∧ w.toInt ≤ (9 : Int)) := c3
        have b3 : ¬ (1 ≤ w.toInt ∧ w.toInt ≤ 9) := by omega
        refine r_iconst (v := (-1)) dX4_does_30 rfl ?_
        refine r_iret dX4_does_31 rfl (by decide) (by decide) ?_
        refine ⟨rfl, congrArg (fun x => some (Value.int x)) ?_, ?_, zfr.rf⟩
        · rw [sp_does, if_neg]
          intro h9; first | exact absurd h9 (by assumption) | exact absurd h9.1 (by assumption) | exact absurd h9.2 (by assumption) | exact absurd h9.2.1 (by assumption) | exact absurd h9.2.2 (by assumption) | exact absurd h9.2.2.1 (by assumption) | exact absurd h9.2.2.2 (by assumption) | exact absurd h9.2.2.2.1 (by assumption) | exact absurd h9.2.2.2.2 (by assumption)
        · rw [st_does, if_neg]
          · exact hS
          · intro h9; first | exact absurd h9 (by assumption) | exact absurd h9.1 (by assumption) | exact absurd h9.2 (by assumption) | exact absurd h9.2.1 (by assumption) | exact absurd h9.2.2 (by assumption) | exact absurd h9.2.2.1 (by assumption) | exact absurd h9.2.2.2 (by assumption) | exact absurd h9.2.2.2.1 (by assumption) | exact absurd h9.2.2.2.2 (by assumption)

