set_option maxHeartbeats 4000000 in
set_option maxRecDepth 100000 in
theorem c5p_rule (l : Launch) {rw : List zC} {M0 : zM} {t : Nat → Nat → Nat} (hR : RI t M0) (hn : NB (t 35)) (x w : Int32) : CT l false 1 0 0 yX5_rule cX5_rule 4 (some .int) [.ref 34, .int x, .int w] (zSh ++ rw) M0 (zG (zSh ++ rw) (zQR (sp_rule t x w) (st_rule t x w) M0)) := by
  refine CT.ofN (by decide) (fun _ _ => Nat.le_of_ble_eq_true rfl) ?_
  have hdd := hn.2.2.2.2.2.2.2.2.2.2.2
  have hkd := hn.2.2.2.2.2.2.2.2.1
  have how := hn.2.2.2.2.2.2.2.2.2.1
  have hcu := hn.2.2.2.2.2.2.2.2.2.2.1
  have hb0 := hn.1
  have hb1 := hn.2.1
  have hb2 := hn.2.2.1
  have hb3 := hn.2.2.2.1
  have hb4 := hn.2.2.2.2.1
  have hb5 := hn.2.2.2.2.2.1
  have hb6 := hn.2.2.2.2.2.2.1
  have hF : zfr PR M0 M0 := zfr.rf
  refine r_iload_n dX5_rule_0 rfl rfl ?_
  first | refine r_if_neB (tgt := 19) dX5_rule_1 (by decide) (fun c1 => ?_) (fun c1 => ?_) | refine r_if_neN (tgt := 19) dX5_rule_1 (by decide) (by omega) (fun c1 => ?_) (fun c1 => ?_) | refine r_if_ne (tgt := 19) dX5_rule_1 (by decide) (fun c1 => ?_) (fun c1 => ?_)
  · have hx0 : ¬ x = nI 0 := c1
    refine r_iload_n dX5_rule_19 rfl rfl ?_
    refine r_iconst (v := nI 1) dX5_rule_20 rfl ?_
    first | refine r_icmp_neN (tgt := 36) dX5_rule_21 (by decide) (by omega) (by omega) (fun c2 => ?_) (fun c2 => ?_) | refine r_icmp_ne (tgt := 36) dX5_rule_21 (by decide) (fun c2 => ?_) (fun c2 => ?_)
    · refine r_iconst (v := (-1)) dX5_rule_36 rfl ?_
      refine r_iret dX5_rule_37 rfl (by decide) (by decide) ?_
      refine ⟨rfl, congrArg (fun x => some (Value.int x)) ?_, ?_, hF⟩
      · rw [sp_rule, if_neg, if_neg] <;> (intro h9; first | exact absurd h9.1 (by assumption) | exact absurd h9.2 (by assumption) | exact absurd h9.1 (by decide))
      · rw [st_rule, if_neg, if_neg]
        · exact hR
        all_goals (intro h9; first | exact absurd h9.1 (by assumption) | exact absurd h9.2 (by assumption) | exact absurd h9.1 (by decide))
    · subst c2
      refine r_iload_n dX5_rule_24 rfl rfl ?_
      refine r_i2l dX5_rule_25 rfl ?_
      refine r_lconst (v := 0) dX5_rule_26 rfl ?_
      refine r_ldc2 kc_X5_105 dX5_rule_27 ?_
      refine r_cS3F ms_X5_in ml_X5_41 (c5_in l _ _ _) dX5_rule_30 (Nat.le_of_ble_eq_true rfl) ⟨by decide, by decide⟩ ⟨by decide, by decide⟩ (fun _ h => nomatch h) ?_
      try dsimp only [zrst, List.cons_append, List.nil_append]
      first | refine r_if_neB (tgt := 38) dX5_rule_33 (by decide) (fun c3 => ?_) (fun c3 => ?_) | refine r_if_neN (tgt := 38) dX5_rule_33 (by decide) (by omega) (fun c3 => ?_) (fun c3 => ?_) | refine r_if_ne (tgt := 38) dX5_rule_33 (by decide) (fun c3 => ?_) (fun c3 => ?_)
      · rw [i64_of32] at c3
        have c3 : (0 : Int) ≤ w.toInt ∧ w.toInt ≤ 9 := c3
        have g1 : 0 ≤ w.toInt ∧ w.toInt ≤ 9 := c3
        obtain ⟨k, hk1, hk2, rfl⟩ := arg_rng (a := 0) (b := 9) c3
        refine r_aload_n dX5_rule_38 rfl rfl ?_
        refine r_getR fl_X5_7 dX5_rule_39 sh_34 rfl ?_
        refine r_iconst (v := nI 4) dX5_rule_42 rfl ?_
        refine r_iload_n dX5_rule_43 rfl rfl ?_
        first | refine r_iaddN dX5_rule_44 ?_ | refine r_iadd dX5_rule_44 ?_
        refine r_ialdN dX5_rule_45 sh_35 (by omega) (by decide) (hR.a35 _) ?_
        refine r_istore_n dX5_rule_46 rfl rfl (by decide) ?_
        refine r_aload_n dX5_rule_47 rfl rfl ?_
        refine r_getR fl_X5_7 dX5_rule_48 sh_34 rfl ?_
        refine r_iconst (v := nI 4) dX5_rule_51 rfl ?_
        refine r_iload_n dX5_rule_52 rfl rfl ?_
        first | refine r_iaddN dX5_rule_53 ?_ | refine r_iadd dX5_rule_53 ?_
        refine r_iload_n dX5_rule_54 rfl rfl ?_
        refine r_Rast dX5_rule_55 sh_35 (by omega) (by decide) hR (by decide) (fun M hR hF1 => ?_)
        have hF := hF.trans hF1
        refine r_iload_n dX5_rule_56 rfl rfl ?_
        refine r_iret dX5_rule_57 rfl (by decide) (by decide) ?_
        first
        | (refine ⟨rfl, congrArg (fun x => some (Value.int x)) ?_, ?_, hF⟩
           · rw [sp_rule, if_pos ⟨rfl, g1⟩]
           · rw [st_rule, if_pos ⟨rfl, g1⟩, tn_nI (show k < 2147483648 by omega)]
             exact hR)
        | (refine ⟨rfl, congrArg (fun x => some (Value.int x)) ?_, ?_, hF⟩
           · rw [sp_rule, if_neg, if_pos ⟨rfl, g1⟩]
             intro h9; exact absurd h9.1 (by decide)
           · rw [st_rule, if_neg, if_pos ⟨rfl, g1⟩, tn_nI (show k < 2147483648 by omega)]
             · exact hR
             · intro h9; exact absurd h9.1 (by decide))
      · rw [i64_of32] at c3
        have c3 : ¬ ((0 : Int) ≤ w.toInt ∧ w.toInt ≤ 9) := c3
        refine r_iconst (v := (-1)) dX5_rule_36 rfl ?_
        refine r_iret dX5_rule_37 rfl (by decide) (by decide) ?_
        refine ⟨rfl, congrArg (fun x => some (Value.int x)) ?_, ?_, hF⟩
        · rw [sp_rule, if_neg, if_neg] <;> (intro h9; first | exact absurd h9.1 (by assumption) | exact absurd h9.2 (by assumption) | exact absurd h9.1 (by decide))
        · rw [st_rule, if_neg, if_neg]
          · exact hR
          all_goals (intro h9; first | exact absurd h9.1 (by assumption) | exact absurd h9.2 (by assumption) | exact absurd h9.1 (by decide))
  · have hx0 : x = nI 0 := c1
    subst hx0
    refine r_iload_n dX5_rule_4 rfl rfl ?_
    refine r_i2l dX5_rule_5 rfl ?_
    refine r_lconst (v := 1) dX5_rule_6 rfl ?_
    refine r_ldc2 kc_X5_124 dX5_rule_7 ?_
    refine r_cS3F ms_X5_in ml_X5_41 (c5_in l _ _ _) dX5_rule_10 (Nat.le_of_ble_eq_true rfl) ⟨by decide, by decide⟩ ⟨by decide, by decide⟩ (fun _ h => nomatch h) ?_
    try dsimp only [zrst, List.cons_append, List.nil_append]
    first | refine r_if_neB (tgt := 38) dX5_rule_13 (by decide) (fun c4 => ?_) (fun c4 => ?_) | refine r_if_neN (tgt := 38) dX5_rule_13 (by decide) (by omega) (fun c4 => ?_) (fun c4 => ?_) | refine r_if_ne (tgt := 38) dX5_rule_13 (by decide) (fun c4 => ?_) (fun c4 => ?_)
    · rw [i64_of32] at c4
      have c4 : (1 : Int) ≤ w.toInt ∧ w.toInt ≤ 30 := c4
      have g1 : 1 ≤ w.toInt ∧ w.toInt ≤ 30 := c4
      obtain ⟨k, hk1, hk2, rfl⟩ := arg_rng (a := 1) (b := 30) c4
      refine r_aload_n dX5_rule_38 rfl rfl ?_
      refine r_getR fl_X5_7 dX5_rule_39 sh_34 rfl ?_
      refine r_iconst (v := nI 4) dX5_rule_42 rfl ?_
      refine r_iload_n dX5_rule_43 rfl rfl ?_
      first | refine r_iaddN dX5_rule_44 ?_ | refine r_iadd dX5_rule_44 ?_
      refine r_ialdN dX5_rule_45 sh_35 (by omega) (by decide) (hR.a35 _) ?_
      refine r_istore_n dX5_rule_46 rfl rfl (by decide) ?_
      refine r_aload_n dX5_rule_47 rfl rfl ?_
      refine r_getR fl_X5_7 dX5_rule_48 sh_34 rfl ?_
      refine r_iconst (v := nI 4) dX5_rule_51 rfl ?_
      refine r_iload_n dX5_rule_52 rfl rfl ?_
      first | refine r_iaddN dX5_rule_53 ?_ | refine r_iadd dX5_rule_53 ?_
      refine r_iload_n dX5_rule_54 rfl rfl ?_
      refine r_Rast dX5_rule_55 sh_35 (by omega) (by decide) hR (by decide) (fun M hR hF1 => ?_)
      have hF := hF.trans hF1
      refine r_iload_n dX5_rule_56 rfl rfl ?_
      refine r_iret dX5_rule_57 rfl (by decide) (by decide) ?_
      first
      | (refine ⟨rfl, congrArg (fun x => some (Value.int x)) ?_, ?_, hF⟩
         · rw [sp_rule, if_pos ⟨rfl, g1⟩]
         · rw [st_rule, if_pos ⟨rfl, g1⟩, tn_nI (show k < 2147483648 by omega)]
           exact hR)
      | (refine ⟨rfl, congrArg (fun x => some (Value.int x)) ?_, ?_, hF⟩
         · rw [sp_rule, if_neg, if_pos ⟨rfl, g1⟩]
           intro h9; exact absurd h9.1 (by decide)
         · rw [st_rule, if_neg, if_pos ⟨rfl, g1⟩, tn_nI (show k < 2147483648 by omega)]
           · exact hR
           · intro h9; exact absurd h9.1 (by decide))
    · rw [i64_of32] at c4
      have c4 : ¬ ((1 : Int) ≤ w.toInt ∧ w.toInt ≤ 30) := c4
      refine r_goto (tgt := 36) dX5_rule_16 (by decide) ?_
      refine r_iconst (v := (-1)) dX5_rule_36 rfl ?_
      refine r_iret dX5_rule_37 rfl (by decide) (by decide) ?_
      refine ⟨rfl, congrArg (fun x => some (Value.int x)) ?_, ?_, hF⟩
      · rw [sp_rule, if_neg, if_neg] <;> (intro h9; first | exact absurd h9.1 (by assumption) | exact absurd h9.2 (by assumption) | exact absurd h9.1 (by decide))
      · rw [st_rule, if_neg, if_neg]
        · exact hR
        all_goals (intro h9; first | exact absurd h9.1 (by assumption) | exact absurd h9.2 (by assumption) | exact absurd h9.1 (by decide))

theorem SI_fade {t : Nat → Nat → Nat} {M : zM} {v : Nat} (h : SI 1 (t 35) (t 38) (t 34 7) M) (hn : NB (t 35))  : SI 1 (ts t 35 4 v 35) (ts t 35 4 v 38) (ts t 35 4 v 34 7) (zI M 1 (upd (M.1 1) 6 (nI v))) := by
  obtain ⟨⟨f0, f1, f2, f3, f4, f5, f6, f7, f8⟩, a2, a3, a4, a5, a9⟩ := h
  have hb0 := hn.1
  have hb1 := hn.2.1
  have hb2 := hn.2.2.1
  have e8 : ∀ j, j ≠ 4 → ts t 35 (4) v 35 j = t 35 j := fun j hj => ts_nk hj
  refine ⟨⟨by (try rw [e8 _ (by omega)]); exact f0, by (try rw [e8 _ (by omega)]); exact f1, by (try rw [e8 _ (by omega)]); exact f2, by (try rw [e8 _ (by omega)]); exact f3, by (try rw [e8 _ (by omega)]); exact f4, by (try rw [e8 _ (by omega)]); exact f5, by rw [ts_at, zI_at]; exact pk_us, by (try rw [e8 _ (by omega)]); exact f7, by (try rw [e8 _ (by omega)]); exact f8⟩, ?_, ?_, ?_, ?_, ?_⟩
  · intro p2 hp2; (try rw [e8 0 (by omega)] at hp2); rw [e8 _ (by omega)]; exact a2 p2 hp2
  · intro p2 m2 hp2 hm2; (try rw [e8 0 (by omega)] at hp2); rw [e8 _ (by omega)]; exact a3 p2 m2 hp2 hm2
  · intro p2 m2 hp2 hm2; (try rw [e8 1 (by omega)] at hp2); rw [e8 _ (by omega)]; exact a4 p2 m2 hp2 hm2
  · intro d2 hd2; (try rw [e8 2 (by omega)] at hd2); rw [e8 _ (by omega), e8 _ (by omega), e8 _ (by omega), e8 _ (by omega)]; exact a5 d2 hd2
  · exact a9
theorem SI_ease {t : Nat → Nat → Nat} {M : zM} {v : Nat} (h : SI 1 (t 35) (t 38) (t 34 7) M) (hn : NB (t 35))  : SI 1 (ts t 35 5 v 35) (ts t 35 5 v 38) (ts t 35 5 v 34 7) (zI M 1 (upd (M.1 1) 7 (nI v))) := by
  obtain ⟨⟨f0, f1, f2, f3, f4, f5, f6, f7, f8⟩, a2, a3, a4, a5, a9⟩ := h
  have hb0 := hn.1
  have hb1 := hn.2.1
  have hb2 := hn.2.2.1
  have e8 : ∀ j, j ≠ 5 → ts t 35 (5) v 35 j = t 35 j := fun j hj => ts_nk hj
  refine ⟨⟨by (try rw [e8 _ (by omega)]); exact f0, by (try rw [e8 _ (by omega)]); exact f1, by (try rw [e8 _ (by omega)]); exact f2, by (try rw [e8 _ (by omega)]); exact f3, by (try rw [e8 _ (by omega)]); exact f4, by (try rw [e8 _ (by omega)]); exact f5, by (try rw [e8 _ (by omega)]); exact f6, by rw [ts_at, zI_at]; exact pk_us, by (try rw [e8 _ (by omega)]); exact f8⟩, ?_, ?_, ?_, ?_, ?_⟩
  · intro p2 hp2; (try rw [e8 0 (by omega)] at hp2); rw [e8 _ (by omega)]; exact a2 p2 hp2
  · intro p2 m2 hp2 hm2; (try rw [e8 0 (by omega)] at hp2); rw [e8 _ (by omega)]; exact a3 p2 m2 hp2 hm2
  · intro p2 m2 hp2 hm2; (try rw [e8 1 (by omega)] at hp2); rw [e8 _ (by omega)]; exact a4 p2 m2 hp2 hm2
  · intro d2 hd2; (try rw [e8 2 (by omega)] at hd2); rw [e8 _ (by omega), e8 _ (by omega), e8 _ (by omega), e8 _ (by omega)]; exact a5 d2 hd2
  · exact a9
set_option maxHeartbeats 4000000 in
set_option maxRecDepth 100000 in
theorem c4_rule (l : Launch) {rw : List zC} {M0 : zM} {t : Nat → Nat → Nat} (hS : SI 1 (t 35) (t 38) (t 34 7) M0) (hn : NB (t 35)) (x w : Int32) : CT l false 1 0 0 yX4_rule cX4_rule 4 (some .int) [.ref 0, .int x, .int w] (zSh ++ rw) M0 (zG (zSh ++ rw) (zQC (sp_rule t x w) (st_rule t x w) (fun i => i = 1) M0)) := by
  refine CT.ofN (by decide) (fun _ _ => Nat.le_of_ble_eq_true rfl) ?_
  have hdd := hn.2.2.2.2.2.2.2.2.2.2.2
  have hkd := hn.2.2.2.2.2.2.2.2.1
  have how := hn.2.2.2.2.2.2.2.2.2.1
  have hcu := hn.2.2.2.2.2.2.2.2.2.2.1
  have hb0 := hn.1
  have hb1 := hn.2.1
  have hb2 := hn.2.2.1
  have hb3 := hn.2.2.2.1
  have hb4 := hn.2.2.2.2.1
  have hb5 := hn.2.2.2.2.2.1
  have hb6 := hn.2.2.2.2.2.2.1
  refine r_iload_n dX4_rule_0 rfl rfl ?_
  first | refine r_if_neB (tgt := 32) dX4_rule_1 (by decide) (fun c1 => ?_) (fun c1 => ?_) | refine r_if_neN (tgt := 32) dX4_rule_1 (by decide) (by omega) (fun c1 => ?_) (fun c1 => ?_) | refine r_if_ne (tgt := 32) dX4_rule_1 (by decide) (fun c1 => ?_) (fun c1 => ?_)
  · have hx0 : ¬ x = nI 0 := c1
    refine r_iload_n dX4_rule_32 rfl rfl ?_
    refine r_iconst (v := nI 1) dX4_rule_33 rfl ?_
    first | refine r_icmp_neN (tgt := 65) dX4_rule_34 (by decide) (by omega) (by omega) (fun c2 => ?_) (fun c2 => ?_) | refine r_icmp_ne (tgt := 65) dX4_rule_34 (by decide) (fun c2 => ?_) (fun c2 => ?_)
    · have hx1 : ¬ x = nI 1 := c2
      refine r_iconst (v := (-1)) dX4_rule_65 rfl ?_
      refine r_iret dX4_rule_66 rfl (by decide) (by decide) ?_
      refine ⟨rfl, congrArg (fun x => some (Value.int x)) ?_, ?_, zfr.rf⟩
      · rw [sp_rule, if_neg, if_neg] <;> (intro h9; first | exact absurd h9.1 (by assumption) | exact absurd h9.2 (by assumption) | (rw [h9.1] at hx0; exact absurd hx0 (by decide)))
      · rw [st_rule, if_neg, if_neg]
        · exact hS
        all_goals (intro h9; first | exact absurd h9.1 (by assumption) | exact absurd h9.2 (by assumption) | (rw [h9.1] at hx0; exact absurd hx0 (by decide)))
    · have hx1 : x = nI 1 := c2
      refine r_iload_n dX4_rule_37 rfl rfl ?_
      refine r_iconst (v := nI 0) dX4_rule_38 rfl ?_
      refine r_bipush (v := nI 9) dX4_rule_39 rfl ?_
      refine r_cS3F ms_X4_within ml_X4_41 (c4_within l _ _ _) dX4_rule_41 (Nat.le_of_ble_eq_true rfl) ⟨by decide, by decide⟩ ⟨by decide, by decide⟩ (fun _ h => nomatch h) ?_
      try dsimp only [zrst, List.cons_append, List.nil_append]
      first | refine r_if_eqB (tgt := 65) dX4_rule_44 (by decide) (fun c3 => ?_) (fun c3 => ?_) | refine r_if_eqN (tgt := 65) dX4_rule_44 (by decide) (by omega) (fun c3 => ?_) (fun c3 => ?_) | refine r_if_eq (tgt := 65) dX4_rule_44 (by decide) (fun c3 => ?_) (fun c3 => ?_)
      · have c3 : ¬ ((0 : Int) ≤ w.toInt ∧ w.toInt ≤ 9) := c3
        refine r_iconst (v := (-1)) dX4_rule_65 rfl ?_
        refine r_iret dX4_rule_66 rfl (by decide) (by decide) ?_
        refine ⟨rfl, congrArg (fun x => some (Value.int x)) ?_, ?_, zfr.rf⟩
        · rw [sp_rule, if_neg, if_neg] <;> (intro h9; first | exact absurd h9.1 (by assumption) | exact absurd h9.2 (by assumption) | (rw [h9.1] at hx0; exact absurd hx0 (by decide)))
        · rw [st_rule, if_neg, if_neg]
          · exact hS
          all_goals (intro h9; first | exact absurd h9.1 (by assumption) | exact absurd h9.2 (by assumption) | (rw [h9.1] at hx0; exact absurd hx0 (by decide)))
      · have c3 : (0 : Int) ≤ w.toInt ∧ w.toInt ≤ 9 := c3
        have g1 : 0 ≤ w.toInt ∧ w.toInt ≤ 9 := c3
        obtain ⟨k, hk1, hk2, rfl⟩ := arg_rng (a := 0) (b := 9) c3
        refine r_aload_n dX4_rule_47 rfl rfl ?_
        refine r_getR fl_X4_10 dX4_rule_48 sh_0 rfl ?_
        refine r_getV fl_X4_120 dX4_rule_51 sh_1 rfl hS.f7 ?_
        refine r_istore_n dX4_rule_54 rfl rfl (by decide) ?_
        refine r_aload_n dX4_rule_55 rfl rfl ?_
        refine r_getR fl_X4_10 dX4_rule_56 sh_0 rfl ?_
        refine r_iload_n dX4_rule_59 rfl rfl ?_
        refine r_putI fl_X4_120 dX4_rule_60 rfl rfl sh_1 rfl ?_
        refine r_iload_n dX4_rule_63 rfl rfl ?_
        refine r_iret dX4_rule_64 rfl (by decide) (by decide) ?_
        subst hx1
        refine ⟨rfl, congrArg (fun x => some (Value.int x)) ?_, ?_, zfr_I rfl⟩
        · rw [sp_rule, if_neg, if_pos ⟨rfl, g1⟩]
          intro h9; exact absurd h9.1 (by decide)
        · rw [st_rule, if_neg, if_pos ⟨rfl, g1⟩, tn_nI (show k < 2147483648 by omega)]
          · exact SI_ease hS hn
          · intro h9; exact absurd h9.1 (by decide)
  · have hx0 : x = nI 0 := c1
    refine r_iload_n dX4_rule_4 rfl rfl ?_
    refine r_iconst (v := nI 1) dX4_rule_5 rfl ?_
    refine r_bipush (v := nI 30) dX4_rule_6 rfl ?_
    refine r_cS3F ms_X4_within ml_X4_41 (c4_within l _ _ _) dX4_rule_8 (Nat.le_of_ble_eq_true rfl) ⟨by decide, by decide⟩ ⟨by decide, by decide⟩ (fun _ h => nomatch h) ?_
    try dsimp only [zrst, List.cons_append, List.nil_append]
    first | refine r_if_eqB (tgt := 32) dX4_rule_11 (by decide) (fun c4 => ?_) (fun c4 => ?_) | refine r_if_eqN (tgt := 32) dX4_rule_11 (by decide) (by omega) (fun c4 => ?_) (fun c4 => ?_) | refine r_if_eq (tgt := 32) dX4_rule_11 (by decide) (fun c4 => ?_) (fun c4 => ?_)
    · have c4 : ¬ ((1 : Int) ≤ w.toInt ∧ w.toInt ≤ 30) := c4
      refine r_iload_n dX4_rule_32 rfl rfl ?_
      refine r_iconst (v := nI 1) dX4_rule_33 rfl ?_
      first | refine r_icmp_neN (tgt := 65) dX4_rule_34 (by decide) (by omega) (by omega) (fun c5 => ?_) (fun c5 => ?_) | refine r_icmp_ne (tgt := 65) dX4_rule_34 (by decide) (fun c5 => ?_) (fun c5 => ?_)
      · have hx1 : ¬ x = nI 1 := c5
        refine r_iconst (v := (-1)) dX4_rule_65 rfl ?_
        refine r_iret dX4_rule_66 rfl (by decide) (by decide) ?_
        refine ⟨rfl, congrArg (fun x => some (Value.int x)) ?_, ?_, zfr.rf⟩
        · rw [sp_rule, if_neg, if_neg] <;> (intro h9; first | exact absurd h9.1 (by assumption) | exact absurd h9.2 (by assumption) | (rw [h9.1] at hx0; exact absurd hx0 (by decide)))
        · rw [st_rule, if_neg, if_neg]
          · exact hS
          all_goals (intro h9; first | exact absurd h9.1 (by assumption) | exact absurd h9.2 (by assumption) | (rw [h9.1] at hx0; exact absurd hx0 (by decide)))
      · have hx1 : x = nI 1 := c5
        refine r_iload_n dX4_rule_37 rfl rfl ?_
        refine r_iconst (v := nI 0) dX4_rule_38 rfl ?_
        refine r_bipush (v := nI 9) dX4_rule_39 rfl ?_
        refine r_cS3F ms_X4_within ml_X4_41 (c4_within l _ _ _) dX4_rule_41 (Nat.le_of_ble_eq_true rfl) ⟨by decide, by decide⟩ ⟨by decide, by decide⟩ (fun _ h => nomatch h) ?_
        try dsimp only [zrst, List.cons_append, List.nil_append]
        first | refine r_if_eqB (tgt := 65) dX4_rule_44 (by decide) (fun c6 => ?_) (fun c6 => ?_) | refine r_if_eqN (tgt := 65) dX4_rule_44 (by decide) (by omega) (fun c6 => ?_) (fun c6 => ?_) | refine r_if_eq (tgt := 65) dX4_rule_44 (by decide) (fun c6 => ?_) (fun c6 => ?_)
        · have c6 : ¬ ((0 : Int) ≤ w.toInt ∧ w.toInt ≤ 9) := c6
          refine r_iconst (v := (-1)) dX4_rule_65 rfl ?_
          refine r_iret dX4_rule_66 rfl (by decide) (by decide) ?_
          refine ⟨rfl, congrArg (fun x => some (Value.int x)) ?_, ?_, zfr.rf⟩
          · rw [sp_rule, if_neg, if_neg] <;> (intro h9; first | exact absurd h9.1 (by assumption) | exact absurd h9.2 (by assumption) | (rw [h9.1] at hx0; exact absurd hx0 (by decide)))
          · rw [st_rule, if_neg, if_neg]
            · exact hS
            all_goals (intro h9; first | exact absurd h9.1 (by assumption) | exact absurd h9.2 (by assumption) | (rw [h9.1] at hx0; exact absurd hx0 (by decide)))
        · have c6 : (0 : Int) ≤ w.toInt ∧ w.toInt ≤ 9 := c6
          have g1 : 0 ≤ w.toInt ∧ w.toInt ≤ 9 := c6
          obtain ⟨k, hk1, hk2, rfl⟩ := arg_rng (a := 0) (b := 9) c6
          refine r_aload_n dX4_rule_47 rfl rfl ?_
          refine r_getR fl_X4_10 dX4_rule_48 sh_0 rfl ?_
          refine r_getV fl_X4_120 dX4_rule_51 sh_1 rfl hS.f7 ?_
          refine r_istore_n dX4_rule_54 rfl rfl (by decide) ?_
          refine r_aload_n dX4_rule_55 rfl rfl ?_
          refine r_getR fl_X4_10 dX4_rule_56 sh_0 rfl ?_
          refine r_iload_n dX4_rule_59 rfl rfl ?_
          refine r_putI fl_X4_120 dX4_rule_60 rfl rfl sh_1 rfl ?_
          refine r_iload_n dX4_rule_63 rfl rfl ?_
          refine r_iret dX4_rule_64 rfl (by decide) (by decide) ?_
          subst hx1
          refine ⟨rfl, congrArg (fun x => some (Value.int x)) ?_, ?_, zfr_I rfl⟩
          · rw [sp_rule, if_neg, if_pos ⟨rfl, g1⟩]
            intro h9; exact absurd h9.1 (by decide)
          · rw [st_rule, if_neg, if_pos ⟨rfl, g1⟩, tn_nI (show k < 2147483648 by omega)]
            · exact SI_ease hS hn
            · intro h9; exact absurd h9.1 (by decide)
    · have c4 : (1 : Int) ≤ w.toInt ∧ w.toInt ≤ 30 := c4
      have g1 : 1 ≤ w.toInt ∧ w.toInt ≤ 30 := c4
      obtain ⟨k, hk1, hk2, rfl⟩ := arg_rng (a := 1) (b := 30) c4
      refine r_aload_n dX4_rule_14 rfl rfl ?_
      refine r_getR fl_X4_10 dX4_rule_15 sh_0 rfl ?_
      refine r_getV fl_X4_117 dX4_rule_18 sh_1 rfl hS.f6 ?_
      refine r_istore_n dX4_rule_21 rfl rfl (by decide) ?_
      refine r_aload_n dX4_rule_22 rfl rfl ?_
      refine r_getR fl_X4_10 dX4_rule_23 sh_0 rfl ?_
      refine r_iload_n dX4_rule_26 rfl rfl ?_
      refine r_putI fl_X4_117 dX4_rule_27 rfl rfl sh_1 rfl ?_
      refine r_iload_n dX4_rule_30 rfl rfl ?_
      refine r_iret dX4_rule_31 rfl (by decide) (by decide) ?_
      subst hx0
      refine ⟨rfl, congrArg (fun x => some (Value.int x)) ?_, ?_, zfr_I rfl⟩
      · rw [sp_rule, if_pos ⟨rfl, g1⟩]
      · rw [st_rule, if_pos ⟨rfl, g1⟩, tn_nI (show k < 2147483648 by omega)]
        exact SI_fade hS hn

set_option maxHeartbeats 4000000 in
set_option maxRecDepth 100000 in
theorem c5p_person (l : Launch) {rw : List zC} {M0 : zM} {t : Nat → Nat → Nat} (hR : RI t M0) (hn : NB (t 35)) (x w : Int32) : CT l false 1 0 0 yX5_person cX5_person 5 (some .int) [.ref 34, .int x, .int w] (zSh ++ rw) M0 (zG (zSh ++ rw) (zQR (sp_person t x w) (st_person t x w) M0)) := by
  refine CT.ofN (by decide) (fun _ _ => Nat.le_of_ble_eq_true rfl) ?_
  have hdd := hn.2.2.2.2.2.2.2.2.2.2.2
  have hkd := hn.2.2.2.2.2.2.2.2.1
  have how := hn.2.2.2.2.2.2.2.2.2.1
  have hcu := hn.2.2.2.2.2.2.2.2.2.2.1
  have hb0 := hn.1
  have hb1 := hn.2.1
  have hb2 := hn.2.2.1
  have hb3 := hn.2.2.2.1
  have hb4 := hn.2.2.2.2.1
  have hb5 := hn.2.2.2.2.2.1
  have hb6 := hn.2.2.2.2.2.2.1
  have hF : zfr PR M0 M0 := zfr.rf
  refine r_iload_n dX5_person_0 rfl rfl ?_
  refine r_i2l dX5_person_1 rfl ?_
  refine r_lconst (v := 0) dX5_person_2 rfl ?_
  refine r_ldc2 kc_X5_83 dX5_person_3 ?_
  refine r_cS3F ms_X5_in ml_X5_41 (c5_in l _ _ _) dX5_person_6 (Nat.le_of_ble_eq_true rfl) ⟨by decide, by decide⟩ ⟨by decide, by decide⟩ (fun _ h => nomatch h) ?_
  try dsimp only [zrst, List.cons_append, List.nil_append]
  first | refine r_if_eqB (tgt := 26) dX5_person_9 (by decide) (fun c1 => ?_) (fun c1 => ?_) | refine r_if_eqN (tgt := 26) dX5_person_9 (by decide) (by omega) (fun c1 => ?_) (fun c1 => ?_) | refine r_if_eq (tgt := 26) dX5_person_9 (by decide) (fun c1 => ?_) (fun c1 => ?_)
  · rw [i64_of32] at c1
    have c1 : ¬ ((0 : Int) ≤ x.toInt ∧ x.toInt ≤ (4 : Int)) := c1
    have b1 : ¬ (0 ≤ x.toInt ∧ x.toInt ≤ 4) := by omega
    refine r_iconst (v := (-1)) dX5_person_26 rfl ?_
    refine r_iret dX5_person_27 rfl (by decide) (by decide) ?_
    refine ⟨rfl, congrArg (fun x => some (Value.int x)) ?_, ?_, hF⟩
    · rw [sp_person, if_neg]
      intro h9; first | exact absurd h9 (by assumption) | exact absurd h9.1 (by assumption) | exact absurd h9.2 (by assumption) | exact absurd h9.2.1 (by assumption) | exact absurd h9.2.2 (by assumption) | exact absurd h9.2.2.1 (by assumption) | exact absurd h9.2.2.2 (by assumption) | exact absurd h9.2.2.2.1 (by assumption) | exact absurd h9.2.2.2.2 (by assumption)
    · rw [st_person, if_neg]
      · exact hR
      · intro h9; first | exact absurd h9 (by assumption) | exact absurd h9.1 (by assumption) | exact absurd h9.2 (by assumption) | exact absurd h9.2.1 (by assumption) | exact absurd h9.2.2 (by assumption) | exact absurd h9.2.2.1 (by assumption) | exact absurd h9.2.2.2 (by assumption) | exact absurd h9.2.2.2.1 (by assumption) | exact absurd h9.2.2.2.2 (by assumption)
  · rw [i64_of32] at c1
    have c1 : ((0 : Int) ≤ x.toInt ∧ x.toInt ≤ (4 : Int)) := c1
    have g1 : 0 ≤ x.toInt ∧ x.toInt ≤ 4 := by omega
    obtain ⟨p, hp1, hp2, rfl⟩ := arg_rng (a := 0) (b := 4) (show ((0 : Nat) : Int) ≤ x.toInt ∧ x.toInt ≤ ((4 : Nat) : Int) by omega)
    refine r_iload_n dX5_person_12 rfl rfl ?_
    refine r_i2l dX5_person_13 rfl ?_
    refine r_ldc2 kc_X5_85 dX5_person_14 ?_
    refine r_ldc2 kc_X5_87 dX5_person_17 ?_
    refine r_cS3F ms_X5_in ml_X5_41 (c5_in l _ _ _) dX5_person_20 (Nat.le_of_ble_eq_true rfl) ⟨by decide, by decide⟩ ⟨by decide, by decide⟩ (fun _ h => nomatch h) ?_
    try dsimp only [zrst, List.cons_append, List.nil_append]
    first | refine r_if_neB (tgt := 28) dX5_person_23 (by decide) (fun c2 => ?_) (fun c2 => ?_) | refine r_if_neN (tgt := 28) dX5_person_23 (by decide) (by omega) (fun c2 => ?_) (fun c2 => ?_) | refine r_if_ne (tgt := 28) dX5_person_23 (by decide) (fun c2 => ?_) (fun c2 => ?_)
    · rw [i64_of32] at c2
      have c2 : ((10 : Int) ≤ w.toInt ∧ w.toInt ≤ (99 : Int)) := c2
      have g2 : 10 ≤ w.toInt ∧ w.toInt ≤ 99 := by omega
      obtain ⟨k, hk1, hk2, rfl⟩ := arg_rng (a := 10) (b := 99) (show ((10 : Nat) : Int) ≤ w.toInt ∧ w.toInt ≤ ((99 : Nat) : Int) by omega)
      refine r_aload_n dX5_person_28 rfl rfl ?_
      refine r_getR fl_X5_7 dX5_person_29 sh_34 rfl ?_
      refine r_iconst (v := nI 0) dX5_person_32 rfl ?_
      refine r_ialdN dX5_person_33 sh_35 (by omega) (by decide) (hR.a35 _) ?_
      refine r_iconst (v := nI 5) dX5_person_34 rfl ?_
      first | refine r_icmp_neN (tgt := 41) dX5_person_35 (by decide) (by omega) (by omega) (fun c3 => ?_) (fun c3 => ?_) | refine r_icmp_ne (tgt := 41) dX5_person_35 (by decide) (fun c3 => ?_) (fun c3 => ?_)
      · refine r_bipush (v := nI 8) dX5_person_41 rfl ?_
        refine r_iconst (v := nI 5) dX5_person_43 rfl ?_
        refine r_aload_n dX5_person_44 rfl rfl ?_
        refine r_getR fl_X5_7 dX5_person_45 sh_34 rfl ?_
        refine r_iconst (v := nI 0) dX5_person_48 rfl ?_
        refine r_ialdN dX5_person_49 sh_35 (by omega) (by decide) (hR.a35 _) ?_
        first | refine r_imulN dX5_person_50 ?_ | refine r_imul dX5_person_50 ?_
        first | refine r_iaddN dX5_person_51 ?_ | refine r_iadd dX5_person_51 ?_
        refine r_istore_n dX5_person_52 rfl rfl (by decide) ?_
        refine r_aload_n dX5_person_53 rfl rfl ?_
        refine r_getR fl_X5_7 dX5_person_54 sh_34 rfl ?_
        refine r_iload_n dX5_person_57 rfl rfl ?_
        refine r_iload_n dX5_person_58 rfl rfl ?_
        refine r_Rast dX5_person_59 sh_35 (by omega) (by decide) hR (by decide) (fun M hR hF1 => ?_)
        have hF := hF.trans hF1
        refine r_iconst (v := nI 1) dX5_person_60 rfl ?_
        refine r_istore dX5_person_61 rfl (by decide) ?_
        refine r_iload dX5_person_63 rfl ?_
        refine r_iconst (v := nI 5) dX5_person_65 rfl ?_
        refine r_icmp_geN (tgt := 85) dX5_person_66 (by decide) (by omega) (by omega) (fun q9 => absurd q9 (by decide)) (fun _ => ?_)
        refine r_aload_n dX5_person_69 rfl rfl ?_
        refine r_getR fl_X5_7 dX5_person_70 sh_34 rfl ?_
        refine r_iload_n dX5_person_73 rfl rfl ?_
        refine r_iload dX5_person_74 rfl ?_
        first | refine r_iaddN dX5_person_76 ?_ | refine r_iadd dX5_person_76 ?_
        refine r_iload_n dX5_person_77 rfl rfl ?_
        refine r_Rast dX5_person_78 sh_35 (by omega) (by decide) hR (by decide) (fun M hR hF1 => ?_)
        have hF := hF.trans hF1
        first | refine r_iincN dX5_person_79 rfl rfl (by decide) ?_ | refine r_iinc dX5_person_79 rfl rfl rfl (by decide) ?_
        refine r_goto (tgt := 63) dX5_person_82 (by decide) ?_
        refine r_iload dX5_person_63 rfl ?_
        refine r_iconst (v := nI 5) dX5_person_65 rfl ?_
        refine r_icmp_geN (tgt := 85) dX5_person_66 (by decide) (by omega) (by omega) (fun q9 => absurd q9 (by decide)) (fun _ => ?_)
        refine r_aload_n dX5_person_69 rfl rfl ?_
        refine r_getR fl_X5_7 dX5_person_70 sh_34 rfl ?_
        refine r_iload_n dX5_person_73 rfl rfl ?_
        refine r_iload dX5_person_74 rfl ?_
        first | refine r_iaddN dX5_person_76 ?_ | refine r_iadd dX5_person_76 ?_
        refine r_iload_n dX5_person_77 rfl rfl ?_
        refine r_Rast dX5_person_78 sh_35 (by omega) (by decide) hR (by decide) (fun M hR hF1 => ?_)
        have hF := hF.trans hF1
        first | refine r_iincN dX5_person_79 rfl rfl (by decide) ?_ | refine r_iinc dX5_person_79 rfl rfl rfl (by decide) ?_
        refine r_goto (tgt := 63) dX5_person_82 (by decide) ?_
        refine r_iload dX5_person_63 rfl ?_
        refine r_iconst (v := nI 5) dX5_person_65 rfl ?_
        refine r_icmp_geN (tgt := 85) dX5_person_66 (by decide) (by omega) (by omega) (fun q9 => absurd q9 (by decide)) (fun _ => ?_)
        refine r_aload_n dX5_person_69 rfl rfl ?_
        refine r_getR fl_X5_7 dX5_person_70 sh_34 rfl ?_
        refine r_iload_n dX5_person_73 rfl rfl ?_
        refine r_iload dX5_person_74 rfl ?_
        first | refine r_iaddN dX5_person_76 ?_ | refine r_iadd dX5_person_76 ?_
        refine r_iload_n dX5_person_77 rfl rfl ?_
        refine r_Rast dX5_person_78 sh_35 (by omega) (by decide) hR (by decide) (fun M hR hF1 => ?_)
        have hF := hF.trans hF1
        first | refine r_iincN dX5_person_79 rfl rfl (by decide) ?_ | refine r_iinc dX5_person_79 rfl rfl rfl (by decide) ?_
        refine r_goto (tgt := 63) dX5_person_82 (by decide) ?_
        refine r_iload dX5_person_63 rfl ?_
        refine r_iconst (v := nI 5) dX5_person_65 rfl ?_
        refine r_icmp_geN (tgt := 85) dX5_person_66 (by decide) (by omega) (by omega) (fun q9 => absurd q9 (by decide)) (fun _ => ?_)
        refine r_aload_n dX5_person_69 rfl rfl ?_
        refine r_getR fl_X5_7 dX5_person_70 sh_34 rfl ?_
        refine r_iload_n dX5_person_73 rfl rfl ?_
        refine r_iload dX5_person_74 rfl ?_
        first | refine r_iaddN dX5_person_76 ?_ | refine r_iadd dX5_person_76 ?_
        refine r_iload_n dX5_person_77 rfl rfl ?_
        refine r_Rast dX5_person_78 sh_35 (by omega) (by decide) hR (by decide) (fun M hR hF1 => ?_)
        have hF := hF.trans hF1
        first | refine r_iincN dX5_person_79 rfl rfl (by decide) ?_ | refine r_iinc dX5_person_79 rfl rfl rfl (by decide) ?_
        refine r_goto (tgt := 63) dX5_person_82 (by decide) ?_
        refine r_iload dX5_person_63 rfl ?_
        refine r_iconst (v := nI 5) dX5_person_65 rfl ?_
        refine r_icmp_geN (tgt := 85) dX5_person_66 (by decide) (by omega) (by omega) (fun _ => ?_) (fun q9 => absurd q9 (by decide))
        refine r_aload_n dX5_person_85 rfl rfl ?_
        refine r_getR fl_X5_7 dX5_person_86 sh_34 rfl ?_
        refine r_iconst (v := nI 0) dX5_person_89 rfl ?_
        refine r_dup2 dX5_person_90 rfl rfl ?_
        refine r_ialdN dX5_person_91 sh_35 (by omega) (by decide) (hR.a35 _) ?_
        refine r_top (v' := .int (nI (t 35 0))) (congrArg (fun z => Value.int (nI z)) (by rw [ts_nk (by omega), ts_nk (by omega), ts_nk (by omega), ts_nk (by omega), ts_nk (by omega)])) ?_
        refine r_iconst (v := nI 1) dX5_person_92 rfl ?_
        first | refine r_iaddN dX5_person_93 ?_ | refine r_iadd dX5_person_93 ?_
        refine r_Rast dX5_person_94 sh_35 (by omega) (by decide) hR (by decide) (fun M hR hF1 => ?_)
        have hF := hF.trans hF1
        refine r_aload_n dX5_person_95 rfl rfl ?_
        refine r_iconst (v := nI 0) dX5_person_96 rfl ?_
        refine r_Rput fl_X5_89 dX5_person_97 rfl rfl sh_34 rfl hR (fun M hR hF1 => ?_)
        have hF := hF.trans hF1
        refine r_aload_n dX5_person_100 rfl rfl ?_
        refine r_getR fl_X5_7 dX5_person_101 sh_34 rfl ?_
        refine r_iconst (v := nI 0) dX5_person_104 rfl ?_
        refine r_ialdN dX5_person_105 sh_35 (by omega) (by decide) (hR.a35 _) ?_
        refine r_top (v' := .int (nI (t 35 0 + 1))) (congrArg (fun z => Value.int (nI z)) (by rw [ts_nc (by decide), ts_at])) ?_
        refine r_iconst (v := nI 1) dX5_person_106 rfl ?_
        first | refine r_isubN dX5_person_107 (by omega) ?_ | refine r_isub dX5_person_107 ?_
        rw [Nat.add_sub_cancel]
        refine r_iret dX5_person_108 rfl (by decide) (by decide) ?_
        refine ⟨rfl, congrArg (fun x => some (Value.int x)) ?_, ?_, hF⟩
        · rw [sp_person, if_pos ⟨g1, g2⟩, if_neg c3]
        · rw [st_person, if_pos ⟨g1, g2⟩, if_neg c3, tn_nI (show p < 2147483648 by omega), tn_nI (show k < 2147483648 by omega)]
          exact hR
      · refine r_bipush (v := (-3)) dX5_person_38 rfl ?_
        refine r_iret dX5_person_40 rfl (by decide) (by decide) ?_
        refine ⟨rfl, congrArg (fun x => some (Value.int x)) ?_, ?_, hF⟩
        · rw [sp_person, if_pos ⟨g1, g2⟩, if_pos c3]
        · rw [st_person, if_pos ⟨g1, g2⟩, if_pos c3]
          exact hR
    · rw [i64_of32] at c2
      have c2 : ¬ ((10 : Int) ≤ w.toInt ∧ w.toInt ≤ (99 : Int)) := c2
      have b2 : ¬ (10 ≤ w.toInt ∧ w.toInt ≤ 99) := by omega
      refine r_iconst (v := (-1)) dX5_person_26 rfl ?_
      refine r_iret dX5_person_27 rfl (by decide) (by decide) ?_
      refine ⟨rfl, congrArg (fun x => some (Value.int x)) ?_, ?_, hF⟩
      · rw [sp_person, if_neg]
        intro h9; first | exact absurd h9 (by assumption) | exact absurd h9.1 (by assumption) | exact absurd h9.2 (by assumption) | exact absurd h9.2.1 (by assumption) | exact absurd h9.2.2 (by assumption) | exact absurd h9.2.2.1 (by assumption) | exact absurd h9.2.2.2 (by assumption) | exact absurd h9.2.2.2.1 (by assumption) | exact absurd h9.2.2.2.2 (by assumption)
      · rw [st_person, if_neg]
        · exact hR
        · intro h9; first | exact absurd h9 (by assumption) | exact absurd h9.1 (by assumption) | exact absurd h9.2 (by assumption) | exact absurd h9.2.1 (by assumption) | exact absurd h9.2.2 (by assumption) | exact absurd h9.2.2.1 (by assumption) | exact absurd h9.2.2.2 (by assumption) | exact absurd h9.2.2.2.1 (by assumption) | exact absurd h9.2.2.2.2 (by assumption)

set_option maxHeartbeats 4000000 in
set_option maxRecDepth 100000 in
theorem c5p_suit (l : Launch) {rw : List zC} {M0 : zM} {t : Nat → Nat → Nat} (hR : RI t M0) (hn : NB (t 35)) (x : Int32) : CT l false 1 0 0 yX5_suit cX5_suit 3 (some .int) [.ref 34, .int x] (zSh ++ rw) M0 (zG (zSh ++ rw) (zQR (sp_suit t x) (st_suit t x) M0)) := by
  refine CT.ofN (by decide) (fun _ _ => Nat.le_of_ble_eq_true rfl) ?_
  have hdd := hn.2.2.2.2.2.2.2.2.2.2.2
  have hkd := hn.2.2.2.2.2.2.2.2.1
  have how := hn.2.2.2.2.2.2.2.2.2.1
  have hcu := hn.2.2.2.2.2.2.2.2.2.2.1
  have hb0 := hn.1
  have hb1 := hn.2.1
  have hb2 := hn.2.2.1
  have hb3 := hn.2.2.2.1
  have hb4 := hn.2.2.2.2.1
  have hb5 := hn.2.2.2.2.2.1
  have hb6 := hn.2.2.2.2.2.2.1
  have hF : zfr PR M0 M0 := zfr.rf
  refine r_iload_n dX5_suit_0 rfl rfl ?_
  refine r_i2l dX5_suit_1 rfl ?_
  refine r_lconst (v := 0) dX5_suit_2 rfl ?_
  refine r_ldc2 kc_X5_100 dX5_suit_3 ?_
  refine r_cS3F ms_X5_in ml_X5_41 (c5_in l _ _ _) dX5_suit_6 (Nat.le_of_ble_eq_true rfl) ⟨by decide, by decide⟩ ⟨by decide, by decide⟩ (fun _ h => nomatch h) ?_
  try dsimp only [zrst, List.cons_append, List.nil_append]
  first | refine r_if_neB (tgt := 14) dX5_suit_9 (by decide) (fun c1 => ?_) (fun c1 => ?_) | refine r_if_neN (tgt := 14) dX5_suit_9 (by decide) (by omega) (fun c1 => ?_) (fun c1 => ?_) | refine r_if_ne (tgt := 14) dX5_suit_9 (by decide) (fun c1 => ?_) (fun c1 => ?_)
  · rw [i64_of32] at c1
    have c1 : ((0 : Int) ≤ x.toInt ∧ x.toInt ≤ (199 : Int)) := c1
    have g1 : 0 ≤ x.toInt ∧ x.toInt ≤ 199 := by omega
    obtain ⟨k, hk1, hk2, rfl⟩ := arg_rng (a := 0) (b := 199) (show ((0 : Nat) : Int) ≤ x.toInt ∧ x.toInt ≤ ((199 : Nat) : Int) by omega)
    refine r_aload_n dX5_suit_14 rfl rfl ?_
    refine r_getR fl_X5_7 dX5_suit_15 sh_34 rfl ?_
    refine r_iconst (v := nI 1) dX5_suit_18 rfl ?_
    refine r_ialdN dX5_suit_19 sh_35 (by omega) (by decide) (hR.a35 _) ?_
    refine r_iconst (v := nI 4) dX5_suit_20 rfl ?_
    first | refine r_icmp_neN (tgt := 27) dX5_suit_21 (by decide) (by omega) (by omega) (fun c2 => ?_) (fun c2 => ?_) | refine r_icmp_ne (tgt := 27) dX5_suit_21 (by decide) (fun c2 => ?_) (fun c2 => ?_)
    · refine r_iconst (v := nI 0) dX5_suit_27 rfl ?_
      refine r_istore_n dX5_suit_28 rfl rfl (by decide) ?_
      refine r_iload_n dX5_suit_29 rfl rfl ?_
      refine r_iconst (v := nI 4) dX5_suit_30 rfl ?_
      refine r_icmp_geN (tgt := 59) dX5_suit_31 (by decide) (by omega) (by omega) (fun q9 => absurd q9 (by decide)) (fun _ => ?_)
      refine r_aload_n dX5_suit_34 rfl rfl ?_
      refine r_getR fl_X5_7 dX5_suit_35 sh_34 rfl ?_
      refine r_bipush (v := nI 33) dX5_suit_38 rfl ?_
      refine r_iconst (v := nI 4) dX5_suit_40 rfl ?_
      refine r_aload_n dX5_suit_41 rfl rfl ?_
      refine r_getR fl_X5_7 dX5_suit_42 sh_34 rfl ?_
      refine r_iconst (v := nI 1) dX5_suit_45 rfl ?_
      refine r_ialdN dX5_suit_46 sh_35 (by omega) (by decide) (hR.a35 _) ?_
      refine r_top (v' := .int (nI (t 35 1))) (congrArg (fun z => Value.int (nI z)) (by first | with_reducible rfl | (repeat rw [ts_nk (by omega)]))) ?_
      first | refine r_imulN dX5_suit_47 ?_ | refine r_imul dX5_suit_47 ?_
      first | refine r_iaddN dX5_suit_48 ?_ | refine r_iadd dX5_suit_48 ?_
      refine r_iload_n dX5_suit_49 rfl rfl ?_
      first | refine r_iaddN dX5_suit_50 ?_ | refine r_iadd dX5_suit_50 ?_
      refine r_iload_n dX5_suit_51 rfl rfl ?_
      refine r_Rast dX5_suit_52 sh_35 (by omega) (by decide) hR (by decide) (fun M hR hF1 => ?_)
      have hF := hF.trans hF1
      first | refine r_iincN dX5_suit_53 rfl rfl (by decide) ?_ | refine r_iinc dX5_suit_53 rfl rfl rfl (by decide) ?_
      refine r_goto (tgt := 29) dX5_suit_56 (by decide) ?_
      refine r_iload_n dX5_suit_29 rfl rfl ?_
      refine r_iconst (v := nI 4) dX5_suit_30 rfl ?_
      refine r_icmp_geN (tgt := 59) dX5_suit_31 (by decide) (by omega) (by omega) (fun q9 => absurd q9 (by decide)) (fun _ => ?_)
      refine r_aload_n dX5_suit_34 rfl rfl ?_
      refine r_getR fl_X5_7 dX5_suit_35 sh_34 rfl ?_
      refine r_bipush (v := nI 33) dX5_suit_38 rfl ?_
      refine r_iconst (v := nI 4) dX5_suit_40 rfl ?_
      refine r_aload_n dX5_suit_41 rfl rfl ?_
      refine r_getR fl_X5_7 dX5_suit_42 sh_34 rfl ?_
      refine r_iconst (v := nI 1) dX5_suit_45 rfl ?_
      refine r_ialdN dX5_suit_46 sh_35 (by omega) (by decide) (hR.a35 _) ?_
      refine r_top (v' := .int (nI (t 35 1))) (congrArg (fun z => Value.int (nI z)) (by first | with_reducible rfl | (repeat rw [ts_nk (by omega)]))) ?_
      first | refine r_imulN dX5_suit_47 ?_ | refine r_imul dX5_suit_47 ?_
      first | refine r_iaddN dX5_suit_48 ?_ | refine r_iadd dX5_suit_48 ?_
      refine r_iload_n dX5_suit_49 rfl rfl ?_
      first | refine r_iaddN dX5_suit_50 ?_ | refine r_iadd dX5_suit_50 ?_
      refine r_iload_n dX5_suit_51 rfl rfl ?_
      refine r_Rast dX5_suit_52 sh_35 (by omega) (by decide) hR (by decide) (fun M hR hF1 => ?_)
      have hF := hF.trans hF1
      first | refine r_iincN dX5_suit_53 rfl rfl (by decide) ?_ | refine r_iinc dX5_suit_53 rfl rfl rfl (by decide) ?_
      refine r_goto (tgt := 29) dX5_suit_56 (by decide) ?_
      refine r_iload_n dX5_suit_29 rfl rfl ?_
      refine r_iconst (v := nI 4) dX5_suit_30 rfl ?_
      refine r_icmp_geN (tgt := 59) dX5_suit_31 (by decide) (by omega) (by omega) (fun q9 => absurd q9 (by decide)) (fun _ => ?_)
      refine r_aload_n dX5_suit_34 rfl rfl ?_
      refine r_getR fl_X5_7 dX5_suit_35 sh_34 rfl ?_
      refine r_bipush (v := nI 33) dX5_suit_38 rfl ?_
      refine r_iconst (v := nI 4) dX5_suit_40 rfl ?_
      refine r_aload_n dX5_suit_41 rfl rfl ?_
      refine r_getR fl_X5_7 dX5_suit_42 sh_34 rfl ?_
      refine r_iconst (v := nI 1) dX5_suit_45 rfl ?_
      refine r_ialdN dX5_suit_46 sh_35 (by omega) (by decide) (hR.a35 _) ?_
      refine r_top (v' := .int (nI (t 35 1))) (congrArg (fun z => Value.int (nI z)) (by first | with_reducible rfl | (repeat rw [ts_nk (by omega)]))) ?_
      first | refine r_imulN dX5_suit_47 ?_ | refine r_imul dX5_suit_47 ?_
      first | refine r_iaddN dX5_suit_48 ?_ | refine r_iadd dX5_suit_48 ?_
      refine r_iload_n dX5_suit_49 rfl rfl ?_
      first | refine r_iaddN dX5_suit_50 ?_ | refine r_iadd dX5_suit_50 ?_
      refine r_iload_n dX5_suit_51 rfl rfl ?_
      refine r_Rast dX5_suit_52 sh_35 (by omega) (by decide) hR (by decide) (fun M hR hF1 => ?_)
      have hF := hF.trans hF1
      first | refine r_iincN dX5_suit_53 rfl rfl (by decide) ?_ | refine r_iinc dX5_suit_53 rfl rfl rfl (by decide) ?_
      refine r_goto (tgt := 29) dX5_suit_56 (by decide) ?_
      refine r_iload_n dX5_suit_29 rfl rfl ?_
      refine r_iconst (v := nI 4) dX5_suit_30 rfl ?_
      refine r_icmp_geN (tgt := 59) dX5_suit_31 (by decide) (by omega) (by omega) (fun q9 => absurd q9 (by decide)) (fun _ => ?_)
      refine r_aload_n dX5_suit_34 rfl rfl ?_
      refine r_getR fl_X5_7 dX5_suit_35 sh_34 rfl ?_
      refine r_bipush (v := nI 33) dX5_suit_38 rfl ?_
      refine r_iconst (v := nI 4) dX5_suit_40 rfl ?_
      refine r_aload_n dX5_suit_41 rfl rfl ?_
      refine r_getR fl_X5_7 dX5_suit_42 sh_34 rfl ?_
      refine r_iconst (v := nI 1) dX5_suit_45 rfl ?_
      refine r_ialdN dX5_suit_46 sh_35 (by omega) (by decide) (hR.a35 _) ?_
      refine r_top (v' := .int (nI (t 35 1))) (congrArg (fun z => Value.int (nI z)) (by first | with_reducible rfl | (repeat rw [ts_nk (by omega)]))) ?_
      first | refine r_imulN dX5_suit_47 ?_ | refine r_imul dX5_suit_47 ?_
      first | refine r_iaddN dX5_suit_48 ?_ | refine r_iadd dX5_suit_48 ?_
      refine r_iload_n dX5_suit_49 rfl rfl ?_
      first | refine r_iaddN dX5_suit_50 ?_ | refine r_iadd dX5_suit_50 ?_
      refine r_iload_n dX5_suit_51 rfl rfl ?_
      refine r_Rast dX5_suit_52 sh_35 (by omega) (by decide) hR (by decide) (fun M hR hF1 => ?_)
      have hF := hF.trans hF1
      first | refine r_iincN dX5_suit_53 rfl rfl (by decide) ?_ | refine r_iinc dX5_suit_53 rfl rfl rfl (by decide) ?_
      refine r_goto (tgt := 29) dX5_suit_56 (by decide) ?_
      refine r_iload_n dX5_suit_29 rfl rfl ?_
      refine r_iconst (v := nI 4) dX5_suit_30 rfl ?_
      refine r_icmp_geN (tgt := 59) dX5_suit_31 (by decide) (by omega) (by omega) (fun _ => ?_) (fun q9 => absurd q9 (by decide))
      refine r_aload_n dX5_suit_59 rfl rfl ?_
      refine r_getR fl_X5_7 dX5_suit_60 sh_34 rfl ?_
      refine r_iconst (v := nI 1) dX5_suit_63 rfl ?_
      refine r_dup2 dX5_suit_64 rfl rfl ?_
      refine r_ialdN dX5_suit_65 sh_35 (by omega) (by decide) (hR.a35 _) ?_
      refine r_top (v' := .int (nI (t 35 1))) (congrArg (fun z => Value.int (nI z)) (by rw [ts_nk (by omega), ts_nk (by omega), ts_nk (by omega), ts_nk (by omega)])) ?_
      refine r_iconst (v := nI 1) dX5_suit_66 rfl ?_
      first | refine r_iaddN dX5_suit_67 ?_ | refine r_iadd dX5_suit_67 ?_
      refine r_Rast dX5_suit_68 sh_35 (by omega) (by decide) hR (by decide) (fun M hR hF1 => ?_)
      have hF := hF.trans hF1
      refine r_aload_n dX5_suit_69 rfl rfl ?_
      refine r_iconst (v := nI 0) dX5_suit_70 rfl ?_
      refine r_Rput fl_X5_89 dX5_suit_71 rfl rfl sh_34 rfl hR (fun M hR hF1 => ?_)
      have hF := hF.trans hF1
      refine r_aload_n dX5_suit_74 rfl rfl ?_
      refine r_getR fl_X5_7 dX5_suit_75 sh_34 rfl ?_
      refine r_iconst (v := nI 1) dX5_suit_78 rfl ?_
      refine r_ialdN dX5_suit_79 sh_35 (by omega) (by decide) (hR.a35 _) ?_
      refine r_top (v' := .int (nI (t 35 1 + 1))) (congrArg (fun z => Value.int (nI z)) (by rw [ts_nc (by decide), ts_at])) ?_
      refine r_iconst (v := nI 1) dX5_suit_80 rfl ?_
      first | refine r_isubN dX5_suit_81 (by omega) ?_ | refine r_isub dX5_suit_81 ?_
      rw [Nat.add_sub_cancel]
      refine r_iret dX5_suit_82 rfl (by decide) (by decide) ?_
      refine ⟨rfl, congrArg (fun x => some (Value.int x)) ?_, ?_, hF⟩
      · rw [sp_suit, if_pos (g1), if_neg c2]
      · rw [st_suit, if_pos (g1), if_neg c2, tn_nI (show k < 2147483648 by omega)]
        exact hR
    · refine r_bipush (v := (-3)) dX5_suit_24 rfl ?_
      refine r_iret dX5_suit_26 rfl (by decide) (by decide) ?_
      refine ⟨rfl, congrArg (fun x => some (Value.int x)) ?_, ?_, hF⟩
      · rw [sp_suit, if_pos (g1), if_pos c2]
      · rw [st_suit, if_pos (g1), if_pos c2]
        exact hR
  · rw [i64_of32] at c1
    have c1 : ¬ ((0 : Int) ≤ x.toInt ∧ x.toInt ≤ (199 : Int)) := c1
    have b1 : ¬ (0 ≤ x.toInt ∧ x.toInt ≤ 199) := by omega
    refine r_iconst (v := (-1)) dX5_suit_12 rfl ?_
    refine r_iret dX5_suit_13 rfl (by decide) (by decide) ?_
    refine ⟨rfl, congrArg (fun x => some (Value.int x)) ?_, ?_, hF⟩
    · rw [sp_suit, if_neg]
      intro h9; first | exact absurd h9 (by assumption) | exact absurd h9.1 (by assumption) | exact absurd h9.2 (by assumption) | exact absurd h9.2.1 (by assumption) | exact absurd h9.2.2 (by assumption) | exact absurd h9.2.2.1 (by assumption) | exact absurd h9.2.2.2 (by assumption) | exact absurd h9.2.2.2.1 (by assumption) | exact absurd h9.2.2.2.2 (by assumption)
    · rw [st_suit, if_neg]
      · exact hR
      · intro h9; first | exact absurd h9 (by assumption) | exact absurd h9.1 (by assumption) | exact absurd h9.2 (by assumption) | exact absurd h9.2.1 (by assumption) | exact absurd h9.2.2 (by assumption) | exact absurd h9.2.2.1 (by assumption) | exact absurd h9.2.2.2 (by assumption) | exact absurd h9.2.2.2.1 (by assumption) | exact absurd h9.2.2.2.2 (by assumption)

