set_option maxHeartbeats 4000000 in
set_option maxRecDepth 100000 in
theorem c3_addPerson (l : Launch) {rw : List zC} {M0 : zM} {t : Nat → Nat → Nat} (hS : SI 1 (t 35) (t 38) (t 34 7) M0) (hn : NB (t 35)) {kd v : Nat} (hlt : t 35 0 < 5) : CT l false 0 0 0 yX3_addPerson cX3_addPerson 5 (some .int) [.ref 1, .int (nI kd), .int (nI v)] (zSh ++ rw) M0 (zG (zSh ++ rw) (zQC (nI (t 35 0)) (np t kd v) (fun i => i = 1 ∨ i = 2 ∨ i = 3) M0)) := by
  refine CT.ofN (by decide) (fun _ _ => Nat.le_of_ble_eq_true rfl) ?_
  have hdd := hn.2.2.2.2.2.2.2.2.2.2.2
  have hkd := hn.2.2.2.2.2.2.2.2.1
  have how := hn.2.2.2.2.2.2.2.2.2.1
  have hcu := hn.2.2.2.2.2.2.2.2.2.2.1
  have hb0 := hn.1
  have hb1 := hn.2.1
  have hb2 := hn.2.2.1
  have hb3 := hn.2.2.2.1
  have hb4 := hn.2.2.2.2.1
  have hb5 := hn.2.2.2.2.2.1
  have hb6 := hn.2.2.2.2.2.2.1
  refine r_aload_n dX3_addPerson_0 rfl rfl ?_
  refine r_getV fl_X3_46 dX3_addPerson_1 sh_1 rfl hS.f0 ?_
  refine r_istore_n dX3_addPerson_4 rfl rfl (by decide) ?_
  refine r_aload_n dX3_addPerson_5 rfl rfl ?_
  refine r_getR fl_X3_21 dX3_addPerson_6 sh_1 rfl ?_
  refine r_iload_n dX3_addPerson_9 rfl rfl ?_
  refine r_iload_n dX3_addPerson_10 rfl rfl ?_
  refine r_iastN dX3_addPerson_11 sh_2 (by omega) (by decide) ?_
  refine r_iconst (v := nI 0) dX3_addPerson_12 rfl ?_
  refine r_istore dX3_addPerson_13 rfl (by decide) ?_
  refine r_iload dX3_addPerson_15 rfl ?_
  refine r_iconst (v := nI 4) dX3_addPerson_17 rfl ?_
  refine r_icmp_geN (tgt := 39) dX3_addPerson_18 (by decide) (by omega) (by omega) (fun q9 => absurd q9 (by decide)) (fun _ => ?_)
  refine r_aload_n dX3_addPerson_21 rfl rfl ?_
  refine r_getR fl_X3_25 dX3_addPerson_22 sh_1 rfl ?_
  refine r_iload_n dX3_addPerson_25 rfl rfl ?_
  refine r_iconst (v := nI 4) dX3_addPerson_26 rfl ?_
  first | refine r_imulN dX3_addPerson_27 ?_ | refine r_imul dX3_addPerson_27 ?_
  refine r_iload dX3_addPerson_28 rfl ?_
  first | refine r_iaddN dX3_addPerson_30 ?_ | refine r_iadd dX3_addPerson_30 ?_
  refine r_iload_n dX3_addPerson_31 rfl rfl ?_
  refine r_iastN dX3_addPerson_32 sh_3 (by omega) (by decide) ?_
  first | refine r_iincN dX3_addPerson_33 rfl rfl (by decide) ?_ | refine r_iinc dX3_addPerson_33 rfl rfl rfl (by decide) ?_
  refine r_goto (tgt := 15) dX3_addPerson_36 (by decide) ?_
  refine r_iload dX3_addPerson_15 rfl ?_
  refine r_iconst (v := nI 4) dX3_addPerson_17 rfl ?_
  refine r_icmp_geN (tgt := 39) dX3_addPerson_18 (by decide) (by omega) (by omega) (fun q9 => absurd q9 (by decide)) (fun _ => ?_)
  refine r_aload_n dX3_addPerson_21 rfl rfl ?_
  refine r_getR fl_X3_25 dX3_addPerson_22 sh_1 rfl ?_
  refine r_iload_n dX3_addPerson_25 rfl rfl ?_
  refine r_iconst (v := nI 4) dX3_addPerson_26 rfl ?_
  first | refine r_imulN dX3_addPerson_27 ?_ | refine r_imul dX3_addPerson_27 ?_
  refine r_iload dX3_addPerson_28 rfl ?_
  first | refine r_iaddN dX3_addPerson_30 ?_ | refine r_iadd dX3_addPerson_30 ?_
  refine r_iload_n dX3_addPerson_31 rfl rfl ?_
  refine r_iastN dX3_addPerson_32 sh_3 (by omega) (by decide) ?_
  first | refine r_iincN dX3_addPerson_33 rfl rfl (by decide) ?_ | refine r_iinc dX3_addPerson_33 rfl rfl rfl (by decide) ?_
  refine r_goto (tgt := 15) dX3_addPerson_36 (by decide) ?_
  refine r_iload dX3_addPerson_15 rfl ?_
  refine r_iconst (v := nI 4) dX3_addPerson_17 rfl ?_
  refine r_icmp_geN (tgt := 39) dX3_addPerson_18 (by decide) (by omega) (by omega) (fun q9 => absurd q9 (by decide)) (fun _ => ?_)
  refine r_aload_n dX3_addPerson_21 rfl rfl ?_
  refine r_getR fl_X3_25 dX3_addPerson_22 sh_1 rfl ?_
  refine r_iload_n dX3_addPerson_25 rfl rfl ?_
  refine r_iconst (v := nI 4) dX3_addPerson_26 rfl ?_
  first | refine r_imulN dX3_addPerson_27 ?_ | refine r_imul dX3_addPerson_27 ?_
  refine r_iload dX3_addPerson_28 rfl ?_
  first | refine r_iaddN dX3_addPerson_30 ?_ | refine r_iadd dX3_addPerson_30 ?_
  refine r_iload_n dX3_addPerson_31 rfl rfl ?_
  refine r_iastN dX3_addPerson_32 sh_3 (by omega) (by decide) ?_
  first | refine r_iincN dX3_addPerson_33 rfl rfl (by decide) ?_ | refine r_iinc dX3_addPerson_33 rfl rfl rfl (by decide) ?_
  refine r_goto (tgt := 15) dX3_addPerson_36 (by decide) ?_
  refine r_iload dX3_addPerson_15 rfl ?_
  refine r_iconst (v := nI 4) dX3_addPerson_17 rfl ?_
  refine r_icmp_geN (tgt := 39) dX3_addPerson_18 (by decide) (by omega) (by omega) (fun q9 => absurd q9 (by decide)) (fun _ => ?_)
  refine r_aload_n dX3_addPerson_21 rfl rfl ?_
  refine r_getR fl_X3_25 dX3_addPerson_22 sh_1 rfl ?_
  refine r_iload_n dX3_addPerson_25 rfl rfl ?_
  refine r_iconst (v := nI 4) dX3_addPerson_26 rfl ?_
  first | refine r_imulN dX3_addPerson_27 ?_ | refine r_imul dX3_addPerson_27 ?_
  refine r_iload dX3_addPerson_28 rfl ?_
  first | refine r_iaddN dX3_addPerson_30 ?_ | refine r_iadd dX3_addPerson_30 ?_
  refine r_iload_n dX3_addPerson_31 rfl rfl ?_
  refine r_iastN dX3_addPerson_32 sh_3 (by omega) (by decide) ?_
  first | refine r_iincN dX3_addPerson_33 rfl rfl (by decide) ?_ | refine r_iinc dX3_addPerson_33 rfl rfl rfl (by decide) ?_
  refine r_goto (tgt := 15) dX3_addPerson_36 (by decide) ?_
  refine r_iload dX3_addPerson_15 rfl ?_
  refine r_iconst (v := nI 4) dX3_addPerson_17 rfl ?_
  refine r_icmp_geN (tgt := 39) dX3_addPerson_18 (by decide) (by omega) (by omega) (fun _ => ?_) (fun q9 => absurd q9 (by decide))
  refine r_aload_n dX3_addPerson_39 rfl rfl ?_
  refine r_iload_n dX3_addPerson_40 rfl rfl ?_
  refine r_iconst (v := nI 1) dX3_addPerson_41 rfl ?_
  first | refine r_iaddN dX3_addPerson_42 ?_ | refine r_iadd dX3_addPerson_42 ?_
  refine r_putI fl_X3_46 dX3_addPerson_43 rfl rfl sh_1 rfl ?_
  refine r_aload_n dX3_addPerson_46 rfl rfl ?_
  refine r_iconst (v := nI 0) dX3_addPerson_47 rfl ?_
  refine r_putI fl_X3_59 dX3_addPerson_48 rfl rfl sh_1 rfl ?_
  refine r_iload_n dX3_addPerson_51 rfl rfl ?_
  refine r_iret dX3_addPerson_52 rfl (by decide) (by decide) ?_
  exact ⟨rfl, rfl, SI_person hS hn hlt rfl rfl rfl (fun c h1 h2 => by rcases (show c = 4 ∨ c = 5 ∨ c = 6 ∨ c = 7 ∨ c = 8 ∨ c = 9 by omega) with rfl | rfl | rfl | rfl | rfl | rfl <;> rfl), (zfr.trans (zfr.trans (zfr.trans (zfr.trans (zfr.trans (zfr.trans (zfr.trans zfr.rf (zfr_I (by simp))) (zfr_I (by simp))) (zfr_I (by simp))) (zfr_I (by simp))) (zfr_I (by simp))) (zfr_I (by simp))) (zfr_I (by simp)))⟩

set_option maxHeartbeats 4000000 in
set_option maxRecDepth 100000 in
theorem c3_addSuit (l : Launch) {rw : List zC} {M0 : zM} {t : Nat → Nat → Nat} (hS : SI 1 (t 35) (t 38) (t 34 7) M0) (hn : NB (t 35)) {v : Nat} (hlt : t 35 1 < 4) : CT l false 0 0 0 yX3_addSuit cX3_addSuit 4 (some .int) [.ref 1, .int (nI v)] (zSh ++ rw) M0 (zG (zSh ++ rw) (zQC (nI (t 35 1)) (ns t v) (fun i => i = 1 ∨ i = 4) M0)) := by
  refine CT.ofN (by decide) (fun _ _ => Nat.le_of_ble_eq_true rfl) ?_
  have hdd := hn.2.2.2.2.2.2.2.2.2.2.2
  have hkd := hn.2.2.2.2.2.2.2.2.1
  have how := hn.2.2.2.2.2.2.2.2.2.1
  have hcu := hn.2.2.2.2.2.2.2.2.2.2.1
  have hb0 := hn.1
  have hb1 := hn.2.1
  have hb2 := hn.2.2.1
  have hb3 := hn.2.2.2.1
  have hb4 := hn.2.2.2.2.1
  have hb5 := hn.2.2.2.2.2.1
  have hb6 := hn.2.2.2.2.2.2.1
  refine r_aload_n dX3_addSuit_0 rfl rfl ?_
  refine r_getV fl_X3_53 dX3_addSuit_1 sh_1 rfl hS.f1 ?_
  refine r_istore_n dX3_addSuit_4 rfl rfl (by decide) ?_
  refine r_iconst (v := nI 0) dX3_addSuit_5 rfl ?_
  refine r_istore_n dX3_addSuit_6 rfl rfl (by decide) ?_
  refine r_iload_n dX3_addSuit_7 rfl rfl ?_
  refine r_iconst (v := nI 4) dX3_addSuit_8 rfl ?_
  refine r_icmp_geN (tgt := 29) dX3_addSuit_9 (by decide) (by omega) (by omega) (fun q9 => absurd q9 (by decide)) (fun _ => ?_)
  refine r_aload_n dX3_addSuit_12 rfl rfl ?_
  refine r_getR fl_X3_28 dX3_addSuit_13 sh_1 rfl ?_
  refine r_iload_n dX3_addSuit_16 rfl rfl ?_
  refine r_iconst (v := nI 4) dX3_addSuit_17 rfl ?_
  first | refine r_imulN dX3_addSuit_18 ?_ | refine r_imul dX3_addSuit_18 ?_
  refine r_iload_n dX3_addSuit_19 rfl rfl ?_
  first | refine r_iaddN dX3_addSuit_20 ?_ | refine r_iadd dX3_addSuit_20 ?_
  refine r_iload_n dX3_addSuit_21 rfl rfl ?_
  refine r_iastN dX3_addSuit_22 sh_4 (by omega) (by decide) ?_
  first | refine r_iincN dX3_addSuit_23 rfl rfl (by decide) ?_ | refine r_iinc dX3_addSuit_23 rfl rfl rfl (by decide) ?_
  refine r_goto (tgt := 7) dX3_addSuit_26 (by decide) ?_
  refine r_iload_n dX3_addSuit_7 rfl rfl ?_
  refine r_iconst (v := nI 4) dX3_addSuit_8 rfl ?_
  refine r_icmp_geN (tgt := 29) dX3_addSuit_9 (by decide) (by omega) (by omega) (fun q9 => absurd q9 (by decide)) (fun _ => ?_)
  refine r_aload_n dX3_addSuit_12 rfl rfl ?_
  refine r_getR fl_X3_28 dX3_addSuit_13 sh_1 rfl ?_
  refine r_iload_n dX3_addSuit_16 rfl rfl ?_
  refine r_iconst (v := nI 4) dX3_addSuit_17 rfl ?_
  first | refine r_imulN dX3_addSuit_18 ?_ | refine r_imul dX3_addSuit_18 ?_
  refine r_iload_n dX3_addSuit_19 rfl rfl ?_
  first | refine r_iaddN dX3_addSuit_20 ?_ | refine r_iadd dX3_addSuit_20 ?_
  refine r_iload_n dX3_addSuit_21 rfl rfl ?_
  refine r_iastN dX3_addSuit_22 sh_4 (by omega) (by decide) ?_
  first | refine r_iincN dX3_addSuit_23 rfl rfl (by decide) ?_ | refine r_iinc dX3_addSuit_23 rfl rfl rfl (by decide) ?_
  refine r_goto (tgt := 7) dX3_addSuit_26 (by decide) ?_
  refine r_iload_n dX3_addSuit_7 rfl rfl ?_
  refine r_iconst (v := nI 4) dX3_addSuit_8 rfl ?_
  refine r_icmp_geN (tgt := 29) dX3_addSuit_9 (by decide) (by omega) (by omega) (fun q9 => absurd q9 (by decide)) (fun _ => ?_)
  refine r_aload_n dX3_addSuit_12 rfl rfl ?_
  refine r_getR fl_X3_28 dX3_addSuit_13 sh_1 rfl ?_
  refine r_iload_n dX3_addSuit_16 rfl rfl ?_
  refine r_iconst (v := nI 4) dX3_addSuit_17 rfl ?_
  first | refine r_imulN dX3_addSuit_18 ?_ | refine r_imul dX3_addSuit_18 ?_
  refine r_iload_n dX3_addSuit_19 rfl rfl ?_
  first | refine r_iaddN dX3_addSuit_20 ?_ | refine r_iadd dX3_addSuit_20 ?_
  refine r_iload_n dX3_addSuit_21 rfl rfl ?_
  refine r_iastN dX3_addSuit_22 sh_4 (by omega) (by decide) ?_
  first | refine r_iincN dX3_addSuit_23 rfl rfl (by decide) ?_ | refine r_iinc dX3_addSuit_23 rfl rfl rfl (by decide) ?_
  refine r_goto (tgt := 7) dX3_addSuit_26 (by decide) ?_
  refine r_iload_n dX3_addSuit_7 rfl rfl ?_
  refine r_iconst (v := nI 4) dX3_addSuit_8 rfl ?_
  refine r_icmp_geN (tgt := 29) dX3_addSuit_9 (by decide) (by omega) (by omega) (fun q9 => absurd q9 (by decide)) (fun _ => ?_)
  refine r_aload_n dX3_addSuit_12 rfl rfl ?_
  refine r_getR fl_X3_28 dX3_addSuit_13 sh_1 rfl ?_
  refine r_iload_n dX3_addSuit_16 rfl rfl ?_
  refine r_iconst (v := nI 4) dX3_addSuit_17 rfl ?_
  first | refine r_imulN dX3_addSuit_18 ?_ | refine r_imul dX3_addSuit_18 ?_
  refine r_iload_n dX3_addSuit_19 rfl rfl ?_
  first | refine r_iaddN dX3_addSuit_20 ?_ | refine r_iadd dX3_addSuit_20 ?_
  refine r_iload_n dX3_addSuit_21 rfl rfl ?_
  refine r_iastN dX3_addSuit_22 sh_4 (by omega) (by decide) ?_
  first | refine r_iincN dX3_addSuit_23 rfl rfl (by decide) ?_ | refine r_iinc dX3_addSuit_23 rfl rfl rfl (by decide) ?_
  refine r_goto (tgt := 7) dX3_addSuit_26 (by decide) ?_
  refine r_iload_n dX3_addSuit_7 rfl rfl ?_
  refine r_iconst (v := nI 4) dX3_addSuit_8 rfl ?_
  refine r_icmp_geN (tgt := 29) dX3_addSuit_9 (by decide) (by omega) (by omega) (fun _ => ?_) (fun q9 => absurd q9 (by decide))
  refine r_aload_n dX3_addSuit_29 rfl rfl ?_
  refine r_iload_n dX3_addSuit_30 rfl rfl ?_
  refine r_iconst (v := nI 1) dX3_addSuit_31 rfl ?_
  first | refine r_iaddN dX3_addSuit_32 ?_ | refine r_iadd dX3_addSuit_32 ?_
  refine r_putI fl_X3_53 dX3_addSuit_33 rfl rfl sh_1 rfl ?_
  refine r_aload_n dX3_addSuit_36 rfl rfl ?_
  refine r_iconst (v := nI 0) dX3_addSuit_37 rfl ?_
  refine r_putI fl_X3_59 dX3_addSuit_38 rfl rfl sh_1 rfl ?_
  refine r_iload_n dX3_addSuit_41 rfl rfl ?_
  refine r_iret dX3_addSuit_42 rfl (by decide) (by decide) ?_
  exact ⟨rfl, rfl, SI_suit hS hn hlt rfl rfl (fun c h1 h2 h3 => by rcases (show c = 2 ∨ c = 3 ∨ c = 5 ∨ c = 6 ∨ c = 7 ∨ c = 8 ∨ c = 9 by omega) with rfl | rfl | rfl | rfl | rfl | rfl | rfl <;> rfl), (zfr.trans (zfr.trans (zfr.trans (zfr.trans (zfr.trans (zfr.trans zfr.rf (zfr_I (by simp))) (zfr_I (by simp))) (zfr_I (by simp))) (zfr_I (by simp))) (zfr_I (by simp))) (zfr_I (by simp)))⟩

set_option maxHeartbeats 4000000 in
set_option maxRecDepth 100000 in
theorem c4_person (l : Launch) {rw : List zC} {M0 : zM} {t : Nat → Nat → Nat} (hS : SI 1 (t 35) (t 38) (t 34 7) M0) (hn : NB (t 35)) (x w : Int32) : CT l false 1 0 0 yX4_person cX4_person 3 (some .int) [.ref 0, .int x, .int w] (zSh ++ rw) M0 (zG (zSh ++ rw) (zQC (sp_person t x w) (st_person t x w) (fun i => i = 1 ∨ i = 2 ∨ i = 3) M0)) := by
  refine CT.ofN (by decide) (fun _ _ => Nat.le_of_ble_eq_true rfl) ?_
  have hdd := hn.2.2.2.2.2.2.2.2.2.2.2
  have hkd := hn.2.2.2.2.2.2.2.2.1
  have how := hn.2.2.2.2.2.2.2.2.2.1
  have hcu := hn.2.2.2.2.2.2.2.2.2.2.1
  have hb0 := hn.1
  have hb1 := hn.2.1
  have hb2 := hn.2.2.1
  have hb3 := hn.2.2.2.1
  have hb4 := hn.2.2.2.2.1
  have hb5 := hn.2.2.2.2.2.1
  have hb6 := hn.2.2.2.2.2.2.1
  refine r_iload_n dX4_person_0 rfl rfl ?_
  refine r_iconst (v := nI 0) dX4_person_1 rfl ?_
  refine r_iconst (v := nI 4) dX4_person_2 rfl ?_
  refine r_cS3F ms_X4_within ml_X4_41 (c4_within l _ _ _) dX4_person_3 (Nat.le_of_ble_eq_true rfl) ⟨by decide, by decide⟩ ⟨by decide, by decide⟩ (fun _ h => nomatch h) ?_
  try dsimp only [zrst, List.cons_append, List.nil_append]
  first | refine r_if_eqB (tgt := 20) dX4_person_6 (by decide) (fun c1 => ?_) (fun c1 => ?_) | refine r_if_eqN (tgt := 20) dX4_person_6 (by decide) (by omega) (fun c1 => ?_) (fun c1 => ?_) | refine r_if_eq (tgt := 20) dX4_person_6 (by decide) (fun c1 => ?_) (fun c1 => ?_)
  · have c1 : ¬ ((0 : Int) ≤ x.toInt ∧ x.toInt ≤ (4 : Int)) := c1
    have b1 : ¬ (0 ≤ x.toInt ∧ x.toInt ≤ 4) := by omega
    refine r_iconst (v := (-1)) dX4_person_20 rfl ?_
    refine r_iret dX4_person_21 rfl (by decide) (by decide) ?_
    refine ⟨rfl, congrArg (fun x => some (Value.int x)) ?_, ?_, zfr.rf⟩
    · rw [sp_person, if_neg]
      intro h9; first | exact absurd h9 (by assumption) | exact absurd h9.1 (by assumption) | exact absurd h9.2 (by assumption) | exact absurd h9.2.1 (by assumption) | exact absurd h9.2.2 (by assumption) | exact absurd h9.2.2.1 (by assumption) | exact absurd h9.2.2.2 (by assumption) | exact absurd h9.2.2.2.1 (by assumption) | exact absurd h9.2.2.2.2 (by assumption)
    · rw [st_person, if_neg]
      · exact hS
      · intro h9; first | exact absurd h9 (by assumption) | exact absurd h9.1 (by assumption) | exact absurd h9.2 (by assumption) | exact absurd h9.2.1 (by assumption) | exact absurd h9.2.2 (by assumption) | exact absurd h9.2.2.1 (by assumption) | exact absurd h9.2.2.2 (by assumption) | exact absurd h9.2.2.2.1 (by assumption) | exact absurd h9.2.2.2.2 (by assumption)
  · have c1 : ((0 : Int) ≤ x.toInt ∧ x.toInt ≤ (4 : Int)) := c1
    have g1 : 0 ≤ x.toInt ∧ x.toInt ≤ 4 := by omega
    obtain ⟨p, hp1, hp2, rfl⟩ := arg_rng (a := 0) (b := 4) (show ((0 : Nat) : Int) ≤ x.toInt ∧ x.toInt ≤ ((4 : Nat) : Int) by omega)
    refine r_iload_n dX4_person_9 rfl rfl ?_
    refine r_bipush (v := nI 10) dX4_person_10 rfl ?_
    refine r_bipush (v := nI 99) dX4_person_12 rfl ?_
    refine r_cS3F ms_X4_within ml_X4_41 (c4_within l _ _ _) dX4_person_14 (Nat.le_of_ble_eq_true rfl) ⟨by decide, by decide⟩ ⟨by decide, by decide⟩ (fun _ h => nomatch h) ?_
    try dsimp only [zrst, List.cons_append, List.nil_append]
    first | refine r_if_neB (tgt := 22) dX4_person_17 (by decide) (fun c2 => ?_) (fun c2 => ?_) | refine r_if_neN (tgt := 22) dX4_person_17 (by decide) (by omega) (fun c2 => ?_) (fun c2 => ?_) | refine r_if_ne (tgt := 22) dX4_person_17 (by decide) (fun c2 => ?_) (fun c2 => ?_)
    · have c2 : ((10 : Int) ≤ w.toInt ∧ w.toInt ≤ (99 : Int)) := c2
      have g2 : 10 ≤ w.toInt ∧ w.toInt ≤ 99 := by omega
      obtain ⟨k, hk1, hk2, rfl⟩ := arg_rng (a := 10) (b := 99) (show ((10 : Nat) : Int) ≤ w.toInt ∧ w.toInt ≤ ((99 : Nat) : Int) by omega)
      refine r_aload_n dX4_person_22 rfl rfl ?_
      refine r_getR fl_X4_10 dX4_person_23 sh_0 rfl ?_
      refine r_getV fl_X4_45 dX4_person_26 sh_1 rfl hS.f0 ?_
      refine r_iconst (v := nI 5) dX4_person_29 rfl ?_
      first | refine r_icmp_geN (tgt := 45) dX4_person_30 (by decide) (by omega) (by omega) (fun c3 => ?_) (fun c3 => ?_) | refine r_icmp_ge (tgt := 45) dX4_person_30 (by decide) (fun c3 => ?_) (fun c3 => ?_)
      · refine r_bipush (v := (-3)) dX4_person_45 rfl ?_
        refine r_iret dX4_person_47 rfl (by decide) (by decide) ?_
        first
        | (refine ⟨rfl, congrArg (fun x => some (Value.int x)) ?_, ?_, zfr.rf⟩; (rw [sp_person, if_pos ⟨g1, g2⟩, if_pos (show t 35 0 = 5 by omega)]); (rw [st_person, if_pos ⟨g1, g2⟩, if_pos (show t 35 0 = 5 by omega)]; exact hS))
        | (refine ⟨rfl, congrArg (fun x => some (Value.int x)) ?_, ?_, hF⟩; (rw [sp_person, if_pos ⟨g1, g2⟩, if_neg (show ¬ t 35 0 = 5 by omega)]); (rw [st_person, if_pos ⟨g1, g2⟩, if_neg (show ¬ t 35 0 = 5 by omega), tn_nI (show p < 2147483648 by omega), tn_nI (show k < 2147483648 by omega)]; exact hS1))
        | fail "leaf"
      · refine r_aload_n dX4_person_33 rfl rfl ?_
        refine r_getR fl_X4_10 dX4_person_34 sh_0 rfl ?_
        refine r_iload_n dX4_person_37 rfl rfl ?_
        refine r_iload_n dX4_person_38 rfl rfl ?_
        refine r_cV2G mv_X3_addPerson ml_X4_49 (c3_addPerson l hS hn (by omega)) dX4_person_39 (Nat.le_of_ble_eq_true rfl) ⟨by decide, by decide⟩ ⟨by decide, by decide⟩ sh_1 rfl (fun _ h => nomatch h) (fun v M1 hq => ?_)
        obtain ⟨rfl, hS1, hF⟩ := hq
        dsimp only [zrst, List.cons_append, List.nil_append]
        refine r_goto (tgt := 47) dX4_person_42 (by decide) ?_
        refine r_iret dX4_person_47 rfl (by decide) (by decide) ?_
        first
        | (refine ⟨rfl, congrArg (fun x => some (Value.int x)) ?_, ?_, zfr.rf⟩; (rw [sp_person, if_pos ⟨g1, g2⟩, if_pos (show t 35 0 = 5 by omega)]); (rw [st_person, if_pos ⟨g1, g2⟩, if_pos (show t 35 0 = 5 by omega)]; exact hS))
        | (refine ⟨rfl, congrArg (fun x => some (Value.int x)) ?_, ?_, hF⟩; (rw [sp_person, if_pos ⟨g1, g2⟩, if_neg (show ¬ t 35 0 = 5 by omega)]); (rw [st_person, if_pos ⟨g1, g2⟩, if_neg (show ¬ t 35 0 = 5 by omega), tn_nI (show p < 2147483648 by omega), tn_nI (show k < 2147483648 by omega)]; exact hS1))
        | fail "leaf"
    · have c2 : ¬ ((10 : Int) ≤ w.toInt ∧ w.toInt ≤ (99 : Int)) := c2
      have b2 : ¬ (10 ≤ w.toInt ∧ w.toInt ≤ 99) := by omega
      refine r_iconst (v := (-1)) dX4_person_20 rfl ?_
      refine r_iret dX4_person_21 rfl (by decide) (by decide) ?_
      refine ⟨rfl, congrArg (fun x => some (Value.int x)) ?_, ?_, zfr.rf⟩
      · rw [sp_person, if_neg]
        intro h9; first | exact absurd h9 (by assumption) | exact absurd h9.1 (by assumption) | exact absurd h9.2 (by assumption) | exact absurd h9.2.1 (by assumption) | exact absurd h9.2.2 (by assumption) | exact absurd h9.2.2.1 (by assumption) | exact absurd h9.2.2.2 (by assumption) | exact absurd h9.2.2.2.1 (by assumption) | exact absurd h9.2.2.2.2 (by assumption)
      · rw [st_person, if_neg]
        · exact hS
        · intro h9; first | exact absurd h9 (by assumption) | exact absurd h9.1 (by assumption) | exact absurd h9.2 (by assumption) | exact absurd h9.2.1 (by assumption) | exact absurd h9.2.2 (by assumption) | exact absurd h9.2.2.1 (by assumption) | exact absurd h9.2.2.2 (by assumption) | exact absurd h9.2.2.2.1 (by assumption) | exact absurd h9.2.2.2.2 (by assumption)

