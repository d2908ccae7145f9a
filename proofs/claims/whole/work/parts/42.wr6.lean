set_option maxHeartbeats 4000000 in
set_option maxRecDepth 100000 in
theorem c5p_mend (l : Launch) {rw : List zC} {M0 : zM} {t : Nat → Nat → Nat} (hR : RI t M0) (hn : NB (t 35)) (x : Int32) (hkn : t 34 7 ≤ 8) : CT l false 3 0 0 yX5_mend cX5_mend 2 (some .int) [.ref 34, .int x] (zSh ++ rw) M0 (zG (zSh ++ rw) (zQR (sp_mend t x) (st_mend t x) M0)) := by
  refine CT.ofN (by decide) (fun _ _ => Nat.le_of_ble_eq_true rfl) ?_
  have hdd := hn.2.2.2.2.2.2.2.2.2.2.2
  have hkd := hn.2.2.2.2.2.2.2.2.1
  have how := hn.2.2.2.2.2.2.2.2.2.1
  have hcu := hn.2.2.2.2.2.2.2.2.2.2.1
  have hb0 := hn.1
  have hb1 := hn.2.1
  have hb2 := hn.2.2.1
  have hb3 := hn.2.2.2.1
  have hb4 := hn.2.2.2.2.1
  have hb5 := hn.2.2.2.2.2.1
  have hb6 := hn.2.2.2.2.2.2.1
  have hF : zfr PR M0 M0 := zfr.rf
  refine r_aload_n dX5_mend_0 rfl rfl ?_
  refine r_iload_n dX5_mend_1 rfl rfl ?_
  refine r_cV1F mv_X5_isDeed ml_X5_113 (c5_isDeed l hR (by omega) _) dX5_mend_2 (Nat.le_of_ble_eq_true rfl) ⟨by decide, by decide⟩ ⟨by decide, by decide⟩ sh_34 rfl (fun _ h => nomatch h) ?_
  try dsimp only [zrst, List.cons_append, List.nil_append]
  first | refine r_if_neB (tgt := 10) dX5_mend_5 (by decide) (fun c1 => ?_) (fun c1 => ?_) | refine r_if_neN (tgt := 10) dX5_mend_5 (by decide) (by omega) (fun c1 => ?_) (fun c1 => ?_) | refine r_if_ne (tgt := 10) dX5_mend_5 (by decide) (fun c1 => ?_) (fun c1 => ?_)
  · have g1 : 0 ≤ x.toInt ∧ x.toInt < (t 35 2 : Int) := by omega
    obtain ⟨p, hp, rfl⟩ := arg_nat (n := t 35 2) (show 0 ≤ x.toInt ∧ x.toInt < ((t 35 2 : Nat) : Int) by omega)
    refine r_aload_n dX5_mend_10 rfl rfl ?_
    refine r_getR fl_X5_7 dX5_mend_11 sh_34 rfl ?_
    refine r_bipush (v := nI 6) dX5_mend_14 rfl ?_
    refine r_ialdN dX5_mend_16 sh_35 (by omega) (by decide) (hR.a35 _) ?_
    refine r_iload_n dX5_mend_17 rfl rfl ?_
    first | refine r_ishrN dX5_mend_18 (by omega) (by omega) ?_ | refine r_ishr dX5_mend_18 ?_
    refine r_iconst (v := nI 1) dX5_mend_19 rfl ?_
    first | refine r_iandN dX5_mend_20 ?_ | refine r_iand dX5_mend_20 ?_
    rw [bit1]
    have hbt : (if (t 35 6).testBit p = true then 1 else 0) < 2 := by split <;> decide
    refine r_iconst (v := nI 1) dX5_mend_21 rfl ?_
    first | refine r_icmp_neN (tgt := 28) dX5_mend_22 (by decide) (by omega) (by omega) (fun c2 => ?_) (fun c2 => ?_) | refine r_icmp_ne (tgt := 28) dX5_mend_22 (by decide) (fun c2 => ?_) (fun c2 => ?_)
    · have hnb : ¬ (t 35 6).testBit p = true := by intro h; rw [if_pos h] at c2; exact c2 rfl
      have hpk := pw_le (show p ≤ 10 by omega)
      have hor : t 35 6 ||| 1 * 2 ^ p < 1024 := or_lt (k := 10) hb6 (pw_lt (by omega))
      have hd9 := hdd p hp
      refine r_aload_n dX5_mend_28 rfl rfl ?_
      refine r_cV0G mv_X5_notes ml_X5_170 (c5_notes l hR hkn) dX5_mend_29 (Nat.le_of_ble_eq_true rfl) ⟨by decide, by decide⟩ ⟨by decide, by decide⟩ sh_34 rfl (fun _ h => nomatch h) (fun v M1 hq => ?_)
      obtain ⟨rfl, hR, hF1⟩ := hq
      have hF := hF.trans hF1
      dsimp only [zrst, List.cons_append, List.nil_append]
      refine r_aload_n dX5_mend_32 rfl rfl ?_
      refine r_getR fl_X5_7 dX5_mend_33 sh_34 rfl ?_
      refine r_bipush (v := nI 6) dX5_mend_36 rfl ?_
      refine r_dup2 dX5_mend_38 rfl rfl ?_
      refine r_ialdN dX5_mend_39 sh_35 (by omega) (by decide) (hR.a35 _) ?_
      refine r_top (v' := .int (nI (t 35 6))) (congrArg (fun z => Value.int (nI z)) (by rw [sn_35])) ?_
      refine r_iconst (v := nI 1) dX5_mend_40 rfl ?_
      refine r_iload_n dX5_mend_41 rfl rfl ?_
      first | refine r_ishlN dX5_mend_42 (by omega) (by omega) ?_ | refine r_ishl dX5_mend_42 ?_
      first | refine r_iorN dX5_mend_43 ?_ | refine r_ior dX5_mend_43 ?_
      refine r_Rast dX5_mend_44 sh_35 (by omega) (by decide) hR (by decide) (fun M hR hF1 => ?_)
      have hF := hF.trans hF1
      refine r_aload_n dX5_mend_45 rfl rfl ?_
      refine r_iload_n dX5_mend_46 rfl rfl ?_
      refine r_aload_n dX5_mend_47 rfl rfl ?_
      refine r_getR fl_X5_7 dX5_mend_48 sh_34 rfl ?_
      refine r_iconst (v := nI 3) dX5_mend_51 rfl ?_
      refine r_ialdN dX5_mend_52 sh_35 (by omega) (by decide) (hR.a35 _) ?_
      refine r_top (v' := .int (nI (t 35 3))) (congrArg (fun z => Value.int (nI z)) (by rw [ts_nk (by decide), sn_35])) ?_
      refine r_aload_n dX5_mend_53 rfl rfl ?_
      refine r_getR fl_X5_7 dX5_mend_54 sh_34 rfl ?_
      refine r_bipush (v := nI 6) dX5_mend_57 rfl ?_
      refine r_ialdN dX5_mend_59 sh_35 (by omega) (by decide) (hR.a35 _) ?_
      refine r_top (v' := .int (nI (t 35 6 ||| 1 * 2 ^ p))) (congrArg (fun z => Value.int (nI z)) (by rw [ts_at])) ?_
      refine r_cV3F mv_X5_left ml_X5_62 (c5_left l hR (by omega) (by rw [ts_nk (by omega), sn_35]; omega) (by omega) (by omega) (by rw [ts_nk (by decide), sn_35]; exact hb4) (by rw [ts_nk (by omega), sn_35]; omega)) dX5_mend_60 (Nat.le_of_ble_eq_true rfl) ⟨by decide, by decide⟩ ⟨by decide, by decide⟩ sh_34 rfl (fun _ h => nomatch h) ?_
      try dsimp only [zrst, List.cons_append, List.nil_append]
      refine r_top (v' := .int (nI (lft (t 35) p (t 35 3) (t 35 6 ||| 1 * 2 ^ p)))) (congrArg (fun z => Value.int (nI z)) (lft_cong (by rw [ts_nk (by decide), sn_35]) (by rw [ts_nk (by omega), sn_35]) (by rw [ts_nk (by omega), sn_35]))) ?_
      refine r_iret dX5_mend_63 rfl (by decide) (by decide) ?_
      refine ⟨rfl, congrArg (fun x => some (Value.int x)) ?_, ?_, hF⟩
      · rw [sp_mend, if_pos g1, tn_nI (show p < 2147483648 by omega), if_neg hnb]
      · rw [st_mend, if_pos g1, tn_nI (show p < 2147483648 by omega), if_neg hnb]
        exact hR
    · have hyb : (t 35 6).testBit p = true := by
        by_cases h : (t 35 6).testBit p = true
        · exact h
        · rw [if_neg h] at c2; exact absurd c2 (by decide)
      refine r_bipush (v := (-2)) dX5_mend_25 rfl ?_
      refine r_iret dX5_mend_27 rfl (by decide) (by decide) ?_
      refine ⟨rfl, congrArg (fun x => some (Value.int x)) ?_, ?_, hF⟩
      · rw [sp_mend, if_pos g1, tn_nI (show p < 2147483648 by omega), if_pos hyb]
      · rw [st_mend, if_pos g1, tn_nI (show p < 2147483648 by omega), if_pos hyb]
        exact hR
  · have b1 : ¬ (0 ≤ x.toInt ∧ x.toInt < (t 35 2 : Int)) := by omega
    refine r_iconst (v := (-1)) dX5_mend_8 rfl ?_
    refine r_iret dX5_mend_9 rfl (by decide) (by decide) ?_
    refine ⟨rfl, congrArg (fun x => some (Value.int x)) ?_, ?_, hF⟩
    · rw [sp_mend, if_neg]
      intro h9; first | exact absurd h9 (by assumption) | exact absurd h9.1 (by assumption) | exact absurd h9.2 (by assumption) | exact absurd h9.2.1 (by assumption) | exact absurd h9.2.2 (by assumption) | exact absurd h9.2.2.1 (by assumption) | exact absurd h9.2.2.2 (by assumption) | exact absurd h9.2.2.2.1 (by assumption) | exact absurd h9.2.2.2.2 (by assumption)
    · rw [st_mend, if_neg]
      · exact hR
      · intro h9; first | exact absurd h9 (by assumption) | exact absurd h9.1 (by assumption) | exact absurd h9.2 (by assumption) | exact absurd h9.2.1 (by assumption) | exact absurd h9.2.2 (by assumption) | exact absurd h9.2.2.1 (by assumption) | exact absurd h9.2.2.2 (by assumption) | exact absurd h9.2.2.2.1 (by assumption) | exact absurd h9.2.2.2.2 (by assumption)

theorem SI_mended {t : Nat → Nat → Nat} {M : zM} {v : Nat} (h : SI 1 (t 35) (t 38) (t 34 7) M) (hn : NB (t 35))  : SI 1 (ts t 35 6 v 35) (ts t 35 6 v 38) (ts t 35 6 v 34 7) (zI M 1 (upd (M.1 1) 3 (nI v))) := by
  obtain ⟨⟨f0, f1, f2, f3, f4, f5, f6, f7, f8⟩, a2, a3, a4, a5, a9⟩ := h
  have hb0 := hn.1
  have hb1 := hn.2.1
  have hb2 := hn.2.2.1
  have e8 : ∀ j, j ≠ 6 → ts t 35 (6) v 35 j = t 35 j := fun j hj => ts_nk hj
  refine ⟨⟨by (try rw [e8 _ (by omega)]); exact f0, by (try rw [e8 _ (by omega)]); exact f1, by (try rw [e8 _ (by omega)]); exact f2, by rw [ts_at, zI_at]; exact pk_us, by (try rw [e8 _ (by omega)]); exact f4, by (try rw [e8 _ (by omega)]); exact f5, by (try rw [e8 _ (by omega)]); exact f6, by (try rw [e8 _ (by omega)]); exact f7, by (try rw [e8 _ (by omega)]); exact f8⟩, ?_, ?_, ?_, ?_, ?_⟩
  · intro p2 hp2; (try rw [e8 0 (by omega)] at hp2); rw [e8 _ (by omega)]; exact a2 p2 hp2
  · intro p2 m2 hp2 hm2; (try rw [e8 0 (by omega)] at hp2); rw [e8 _ (by omega)]; exact a3 p2 m2 hp2 hm2
  · intro p2 m2 hp2 hm2; (try rw [e8 1 (by omega)] at hp2); rw [e8 _ (by omega)]; exact a4 p2 m2 hp2 hm2
  · intro d2 hd2; (try rw [e8 2 (by omega)] at hd2); rw [e8 _ (by omega), e8 _ (by omega), e8 _ (by omega), e8 _ (by omega)]; exact a5 d2 hd2
  · exact a9
set_option maxHeartbeats 4000000 in
set_option maxRecDepth 100000 in
theorem c4_mend (l : Launch) {rw : List zC} {M0 : zM} {t : Nat → Nat → Nat} (hS : SI 1 (t 35) (t 38) (t 34 7) M0) (hn : NB (t 35)) (x : Int32) (hkn : t 34 7 ≤ 8) : CT l false 3 0 0 yX4_mend cX4_mend 2 (some .int) [.ref 0, .int x] (zSh ++ rw) M0 (zG (zSh ++ rw) (zQC (sp_mend t x) (st_mend t x) (fun i => i = 1 ∨ i = 9) M0)) := by
  refine CT.ofN (by decide) (fun _ _ => Nat.le_of_ble_eq_true rfl) ?_
  have hdd := hn.2.2.2.2.2.2.2.2.2.2.2
  have hkd := hn.2.2.2.2.2.2.2.2.1
  have how := hn.2.2.2.2.2.2.2.2.2.1
  have hcu := hn.2.2.2.2.2.2.2.2.2.2.1
  have hb0 := hn.1
  have hb1 := hn.2.1
  have hb2 := hn.2.2.1
  have hb3 := hn.2.2.2.1
  have hb4 := hn.2.2.2.2.1
  have hb5 := hn.2.2.2.2.2.1
  have hb6 := hn.2.2.2.2.2.2.1
  refine r_aload_n dX4_mend_0 rfl rfl ?_
  refine r_getR fl_X4_10 dX4_mend_1 sh_0 rfl ?_
  refine r_iload_n dX4_mend_4 rfl rfl ?_
  refine r_cV1F mv_X3_hasDeed ml_X4_87 (c3_hasDeed l hS (by omega) _) dX4_mend_5 (Nat.le_of_ble_eq_true rfl) ⟨by decide, by decide⟩ ⟨by decide, by decide⟩ sh_1 rfl (fun _ h => nomatch h) ?_
  try dsimp only [zrst, List.cons_append, List.nil_append]
  first | refine r_if_neB (tgt := 13) dX4_mend_8 (by decide) (fun c1 => ?_) (fun c1 => ?_) | refine r_if_neN (tgt := 13) dX4_mend_8 (by decide) (by omega) (fun c1 => ?_) (fun c1 => ?_) | refine r_if_ne (tgt := 13) dX4_mend_8 (by decide) (fun c1 => ?_) (fun c1 => ?_)
  · have g1 : 0 ≤ x.toInt ∧ x.toInt < (t 35 2 : Int) := by omega
    obtain ⟨p, hp, rfl⟩ := arg_nat (n := t 35 2) (show 0 ≤ x.toInt ∧ x.toInt < ((t 35 2 : Nat) : Int) by omega)
    refine r_aload_n dX4_mend_13 rfl rfl ?_
    refine r_getR fl_X4_10 dX4_mend_14 sh_0 rfl ?_
    refine r_iload_n dX4_mend_17 rfl rfl ?_
    refine r_cV1F mv_X3_isMended ml_X4_102 (c3_isMended l hS (by omega) hb6) dX4_mend_18 (Nat.le_of_ble_eq_true rfl) ⟨by decide, by decide⟩ ⟨by decide, by decide⟩ sh_1 rfl (fun _ h => nomatch h) ?_
    try dsimp only [zrst, List.cons_append, List.nil_append]
    first | refine r_if_eqB (tgt := 27) dX4_mend_21 (by decide) (fun c2 => ?_) (fun c2 => ?_) | refine r_if_eqN (tgt := 27) dX4_mend_21 (by decide) (by omega) (fun c2 => ?_) (fun c2 => ?_) | refine r_if_eq (tgt := 27) dX4_mend_21 (by decide) (fun c2 => ?_) (fun c2 => ?_)
    · have hnb : ¬ (t 35 6).testBit p = true := c2
      have hpk := pw_le (show p ≤ 10 by omega)
      have hor : t 35 6 ||| 1 * 2 ^ p < 1024 := or_lt (k := 10) hb6 (pw_lt (by omega))
      have hd9 := hdd p hp
      refine r_aload_n dX4_mend_27 rfl rfl ?_
      refine r_getR fl_X4_10 dX4_mend_28 sh_0 rfl ?_
      refine r_cV0G mv_X3_remember ml_X4_152 (c3_remember l hS hkn) dX4_mend_31 (Nat.le_of_ble_eq_true rfl) ⟨by decide, by decide⟩ ⟨by decide, by decide⟩ sh_1 rfl (fun _ h => nomatch h) (fun v M1 hq => ?_)
      obtain ⟨rfl, hS, hF⟩ := hq
      dsimp only [zrst, List.cons_append, List.nil_append]
      refine r_aload_n dX4_mend_34 rfl rfl ?_
      refine r_getR fl_X4_10 dX4_mend_35 sh_0 rfl ?_
      refine r_dup dX4_mend_38 rfl ?_
      refine r_getV fl_X4_143 dX4_mend_39 sh_1 rfl hS.f3 ?_
      refine r_top (v' := .int (nI (t 35 6))) (congrArg (fun z => Value.int (nI z)) (by rw [sn_35])) ?_
      refine r_iconst (v := nI 1) dX4_mend_42 rfl ?_
      refine r_iload_n dX4_mend_43 rfl rfl ?_
      first | refine r_ishlN dX4_mend_44 (by omega) (by omega) ?_ | refine r_ishl dX4_mend_44 ?_
      first | refine r_iorN dX4_mend_45 ?_ | refine r_ior dX4_mend_45 ?_
      refine r_putI fl_X4_143 dX4_mend_46 rfl rfl sh_1 rfl ?_
      have hS := SI_mended (v := t 35 6 ||| 1 * 2 ^ p) hS (by rw [sn_35]; exact hn)
      refine r_aload_n dX4_mend_49 rfl rfl ?_
      refine r_getR fl_X4_10 dX4_mend_50 sh_0 rfl ?_
      refine r_iload_n dX4_mend_53 rfl rfl ?_
      refine r_cV1F mv_X3_leftNow ml_X4_105 (c3_leftNow l hS (NB_6 (by rw [sn_35]; exact hn) hor) (by rw [ts_nk (by decide), sn_35]; omega)) dX4_mend_54 (Nat.le_of_ble_eq_true rfl) ⟨by decide, by decide⟩ ⟨by decide, by decide⟩ sh_1 rfl (fun _ h => nomatch h) ?_
      try dsimp only [zrst, List.cons_append, List.nil_append]
      refine r_top (v' := .int (nI (lft (t 35) p (t 35 3) (t 35 6 ||| 1 * 2 ^ p)))) (congrArg (fun z => Value.int (nI z)) (by rw [ts_at, ts_nk (show (3 : Nat) ≠ 6 by decide), sn_35]; exact lft_cong (by rw [ts_nk (by decide), sn_35]) (by rw [ts_nk (by omega), sn_35]) (by rw [ts_nk (by omega), sn_35]))) ?_
      refine r_iret dX4_mend_57 rfl (by decide) (by decide) ?_
      refine ⟨rfl, congrArg (fun x => some (Value.int x)) ?_, ?_, hF.trans (zfr_I (by simp))⟩
      · rw [sp_mend, if_pos g1, tn_nI (show p < 2147483648 by omega), if_neg hnb]
      · rw [st_mend, if_pos g1, tn_nI (show p < 2147483648 by omega), if_neg hnb]
        exact hS
    · have hyb : (t 35 6).testBit p = true := c2
      refine r_bipush (v := (-2)) dX4_mend_24 rfl ?_
      refine r_iret dX4_mend_26 rfl (by decide) (by decide) ?_
      refine ⟨rfl, congrArg (fun x => some (Value.int x)) ?_, ?_, zfr.rf⟩
      · rw [sp_mend, if_pos g1, tn_nI (show p < 2147483648 by omega), if_pos hyb]
      · rw [st_mend, if_pos g1, tn_nI (show p < 2147483648 by omega), if_pos hyb]
        exact hS
  · have b1 : ¬ (0 ≤ x.toInt ∧ x.toInt < (t 35 2 : Int)) := by omega
    refine r_iconst (v := (-1)) dX4_mend_11 rfl ?_
    refine r_iret dX4_mend_12 rfl (by decide) (by decide) ?_
    refine ⟨rfl, congrArg (fun x => some (Value.int x)) ?_, ?_, zfr.rf⟩
    · rw [sp_mend, if_neg]
      intro h9; first | exact absurd h9 (by assumption) | exact absurd h9.1 (by assumption) | exact absurd h9.2 (by assumption) | exact absurd h9.2.1 (by assumption) | exact absurd h9.2.2 (by assumption) | exact absurd h9.2.2.1 (by assumption) | exact absurd h9.2.2.2 (by assumption) | exact absurd h9.2.2.2.1 (by assumption) | exact absurd h9.2.2.2.2 (by assumption)
    · rw [st_mend, if_neg]
      · exact hS
      · intro h9; first | exact absurd h9 (by assumption) | exact absurd h9.1 (by assumption) | exact absurd h9.2 (by assumption) | exact absurd h9.2.1 (by assumption) | exact absurd h9.2.2 (by assumption) | exact absurd h9.2.2.1 (by assumption) | exact absurd h9.2.2.2 (by assumption) | exact absurd h9.2.2.2.1 (by assumption) | exact absurd h9.2.2.2.2 (by assumption)

set_option maxHeartbeats 4000000 in
set_option maxRecDepth 100000 in
theorem c5p_undo (l : Launch) {rw : List zC} {M0 : zM} {t : Nat → Nat → Nat} (hR : RI t M0) (hkn : t 34 7 ≤ 8) : CT l false 0 0 0 yX5_undo cX5_undo 3 (some .int) [.ref 34] (zSh ++ rw) M0 (zG (zSh ++ rw) (zQR (sp_undo t) (st_undo t) M0)) := by
  refine CT.ofN (by decide) (fun _ _ => Nat.le_of_ble_eq_true rfl) ?_
  have hF : zfr PR M0 M0 := zfr.rf
  refine r_aload_n dX5_undo_0 rfl rfl ?_
  refine r_getV fl_X5_89 dX5_undo_1 sh_34 rfl (hR.a34 _) ?_
  first | refine r_if_neB (tgt := 10) dX5_undo_4 (by decide) (fun c1 => ?_) (fun c1 => ?_) | refine r_if_neN (tgt := 10) dX5_undo_4 (by decide) (by omega) (fun c1 => ?_) (fun c1 => ?_) | refine r_if_ne (tgt := 10) dX5_undo_4 (by decide) (fun c1 => ?_) (fun c1 => ?_)
  · have hk0 : ¬ t 34 7 = 0 := c1
    refine r_aload_n dX5_undo_10 rfl rfl ?_
    refine r_dup dX5_undo_11 rfl ?_
    refine r_getV fl_X5_89 dX5_undo_12 sh_34 rfl (hR.a34 _) ?_
    refine r_iconst (v := nI 1) dX5_undo_15 rfl ?_
    first | refine r_isubN dX5_undo_16 (by omega) ?_ | refine r_isub dX5_undo_16 ?_
    refine r_Rput fl_X5_89 dX5_undo_17 rfl rfl sh_34 rfl hR (fun M hR hF1 => ?_)
    have hF := hF.trans hF1
    refine r_bipush (v := nI 44) dX5_undo_20 rfl ?_
    refine r_aload_n dX5_undo_22 rfl rfl ?_
    refine r_getV fl_X5_89 dX5_undo_23 sh_34 rfl (hR.a34 _) ?_
    refine r_top (v' := .int (nI (t 34 7 - 1))) (congrArg (fun z => Value.int (nI z)) (ts_at _ _ _ _)) ?_
    first | refine r_imulN dX5_undo_26 ?_ | refine r_imul dX5_undo_26 ?_
    refine r_istore_n dX5_undo_27 rfl rfl (by decide) ?_
    refine r_aload_n dX5_undo_28 rfl rfl ?_
    refine r_getR fl_X5_7 dX5_undo_29 sh_34 rfl ?_
    refine r_iconst (v := nI 2) dX5_undo_32 rfl ?_
    refine r_aload_n dX5_undo_33 rfl rfl ?_
    refine r_getR fl_X5_19 dX5_undo_34 sh_34 rfl ?_
    refine r_iload_n dX5_undo_37 rfl rfl ?_
    refine r_ialdN dX5_undo_38 sh_38 (by omega) (by decide) (hR.a38 _) ?_
    refine r_top (v' := .int (nI (t 38 (44 * (t 34 7 - 1))))) rfl ?_
    refine r_Rast dX5_undo_39 sh_35 (by omega) (by decide) hR (by decide) (fun M hR hF1 => ?_)
    have hF := hF.trans hF1
    refine r_aload_n dX5_undo_40 rfl rfl ?_
    refine r_getR fl_X5_7 dX5_undo_41 sh_34 rfl ?_
    refine r_iconst (v := nI 3) dX5_undo_44 rfl ?_
    refine r_aload_n dX5_undo_45 rfl rfl ?_
    refine r_getR fl_X5_19 dX5_undo_46 sh_34 rfl ?_
    refine r_iload_n dX5_undo_49 rfl rfl ?_
    refine r_iconst (v := nI 1) dX5_undo_50 rfl ?_
    first | refine r_iaddN dX5_undo_51 ?_ | refine r_iadd dX5_undo_51 ?_
    refine r_ialdN dX5_undo_52 sh_38 (by omega) (by decide) (hR.a38 _) ?_
    refine r_top (v' := .int (nI (t 38 (44 * (t 34 7 - 1) + 1)))) rfl ?_
    refine r_Rast dX5_undo_53 sh_35 (by omega) (by decide) hR (by decide) (fun M hR hF1 => ?_)
    have hF := hF.trans hF1
    refine r_aload_n dX5_undo_54 rfl rfl ?_
    refine r_getR fl_X5_7 dX5_undo_55 sh_34 rfl ?_
    refine r_bipush (v := nI 6) dX5_undo_58 rfl ?_
    refine r_aload_n dX5_undo_60 rfl rfl ?_
    refine r_getR fl_X5_19 dX5_undo_61 sh_34 rfl ?_
    refine r_iload_n dX5_undo_64 rfl rfl ?_
    refine r_iconst (v := nI 2) dX5_undo_65 rfl ?_
    first | refine r_iaddN dX5_undo_66 ?_ | refine r_iadd dX5_undo_66 ?_
    refine r_ialdN dX5_undo_67 sh_38 (by omega) (by decide) (hR.a38 _) ?_
    refine r_top (v' := .int (nI (t 38 (44 * (t 34 7 - 1) + 2)))) rfl ?_
    refine r_Rast dX5_undo_68 sh_35 (by omega) (by decide) hR (by decide) (fun M hR hF1 => ?_)
    have hF := hF.trans hF1
    refine r_aload_n dX5_undo_69 rfl rfl ?_
    refine r_getR fl_X5_7 dX5_undo_70 sh_34 rfl ?_
    refine r_bipush (v := nI 7) dX5_undo_73 rfl ?_
    refine r_aload_n dX5_undo_75 rfl rfl ?_
    refine r_getR fl_X5_19 dX5_undo_76 sh_34 rfl ?_
    refine r_iload_n dX5_undo_79 rfl rfl ?_
    refine r_iconst (v := nI 3) dX5_undo_80 rfl ?_
    first | refine r_iaddN dX5_undo_81 ?_ | refine r_iadd dX5_undo_81 ?_
    refine r_ialdN dX5_undo_82 sh_38 (by omega) (by decide) (hR.a38 _) ?_
    refine r_top (v' := .int (nI (t 38 (44 * (t 34 7 - 1) + 3)))) rfl ?_
    refine r_Rast dX5_undo_83 sh_35 (by omega) (by decide) hR (by decide) (fun M hR hF1 => ?_)
    have hF := hF.trans hF1
    rw [udk_0] at hR
    refine r_iconst (v := nI 0) dX5_undo_84 rfl ?_
    refine r_istore_n dX5_undo_85 rfl rfl (by decide) ?_
    have loop : ∀ (j k : Nat) (M : zM) (hR : RI (udk t k) M) (hF : zfr PR M0 M), k ≤ 40 → 40 < k + j → RA l none (zR 0 0 0) yX5_undo cX5_undo 3 (some .int) (zG (zSh ++ rw) (zQR (sp_undo t) (st_undo t) M0)) 0 0 86 [some (.ref 34), some (.int (nI (44 * (t 34 7 - 1)))), some (.int (nI k))] [] (zSh ++ rw) M := by
      intro j
      induction j with
      | zero => intro k M hR hF hk hj; exact absurd hj (by omega)
      | succ j ih =>
        intro k M hR hF hk hj
        refine r_iload_n dX5_undo_86 rfl rfl ?_
        refine r_bipush (v := nI 40) dX5_undo_87 rfl ?_
        first | refine r_icmp_geN (tgt := 117) dX5_undo_89 (by decide) (by omega) (by omega) (fun c1 => ?_) (fun c1 => ?_) | refine r_icmp_ge (tgt := 117) dX5_undo_89 (by decide) (fun c1 => ?_) (fun c1 => ?_)
        · refine r_aload_n dX5_undo_117 rfl rfl ?_
          refine r_getV fl_X5_89 dX5_undo_118 sh_34 rfl (hR.a34 _) ?_
          refine r_top (v' := .int (nI (t 34 7 - 1))) rfl ?_
          refine r_iret dX5_undo_121 rfl (by decide) (by decide) ?_
          have e40 : k = 40 := by omega
          subst e40
          refine ⟨rfl, congrArg (fun x => some (Value.int x)) ?_, ?_, hF⟩
          · rw [sp_undo, if_neg hk0]
          · rw [st_undo, if_neg hk0]
            exact hR
        · refine r_aload_n dX5_undo_92 rfl rfl ?_
          refine r_getR fl_X5_7 dX5_undo_93 sh_34 rfl ?_
          refine r_bipush (v := nI 49) dX5_undo_96 rfl ?_
          refine r_iload_n dX5_undo_98 rfl rfl ?_
          first | refine r_iaddN dX5_undo_99 ?_ | refine r_iadd dX5_undo_99 ?_
          refine r_aload_n dX5_undo_100 rfl rfl ?_
          refine r_getR fl_X5_19 dX5_undo_101 sh_34 rfl ?_
          refine r_iload_n dX5_undo_104 rfl rfl ?_
          refine r_iconst (v := nI 4) dX5_undo_105 rfl ?_
          first | refine r_iaddN dX5_undo_106 ?_ | refine r_iadd dX5_undo_106 ?_
          refine r_iload_n dX5_undo_107 rfl rfl ?_
          first | refine r_iaddN dX5_undo_108 ?_ | refine r_iadd dX5_undo_108 ?_
          refine r_ialdN dX5_undo_109 sh_38 (by omega) (by decide) (hR.a38 _) ?_
          refine r_top (v' := .int (nI (t 38 (44 * (t 34 7 - 1) + 4 + k)))) rfl ?_
          refine r_Rast dX5_undo_110 sh_35 (by omega) (by decide) hR (by decide) (fun M hR hF1 => ?_)
          have hF := hF.trans hF1
          first | refine r_iincN dX5_undo_111 rfl rfl (by decide) ?_ | refine r_iinc dX5_undo_111 rfl rfl rfl (by decide) ?_
          refine r_goto (tgt := 86) dX5_undo_114 (by decide) ?_
          rw [udk_succ] at hR
          exact ih (k + 1) M hR hF (by omega) (by omega)
    exact loop (40 + 1) 0 M hR hF (Nat.zero_le _) (by omega)
  · have hk0 : t 34 7 = 0 := c1
    refine r_bipush (v := (-4)) dX5_undo_7 rfl ?_
    refine r_iret dX5_undo_9 rfl (by decide) (by decide) ?_
    refine ⟨rfl, congrArg (fun x => some (Value.int x)) ?_, ?_, hF⟩
    · rw [sp_undo, if_pos hk0]
    · rw [st_undo, if_pos hk0]
      exact hR

set_option maxHeartbeats 4000000 in
set_option maxRecDepth 100000 in
theorem c3_takeBack (l : Launch) {rw : List zC} {M0 : zM} {t : Nat → Nat → Nat} (hS : SI 1 (t 35) (t 38) (t 34 7) M0) (hn : NB (t 35)) (hu : UB t) (h0 : ¬ t 34 7 = 0) : CT l false 0 0 0 yX3_takeBack cX3_takeBack 2 none [.ref 1] (zSh ++ rw) M0 (zG (zSh ++ rw) (fun v M9 => v = none ∧ SI 1 (udk t 40 35) (udk t 40 38) (udk t 40 34 7) M9 ∧ zfr (fun i => i = 1) M0 M9)) := by
  refine CT.ofN (by decide) (fun _ _ => Nat.le_of_ble_eq_true rfl) ?_
  have hdd := hn.2.2.2.2.2.2.2.2.2.2.2
  have hkd := hn.2.2.2.2.2.2.2.2.1
  have how := hn.2.2.2.2.2.2.2.2.2.1
  have hcu := hn.2.2.2.2.2.2.2.2.2.2.1
  have hb0 := hn.1
  have hb1 := hn.2.1
  have hb2 := hn.2.2.1
  have hb3 := hn.2.2.2.1
  have hb4 := hn.2.2.2.2.1
  have hb5 := hn.2.2.2.2.2.1
  have hb6 := hn.2.2.2.2.2.2.1
  have hkn := hu.1
  have ha9 := hS.2.2.2.2.2 (t 34 7 - 1) (by omega)
  refine r_aload_n dX3_takeBack_0 rfl rfl ?_
  refine r_dup dX3_takeBack_1 rfl ?_
  refine r_getV fl_X3_59 dX3_takeBack_2 sh_1 rfl hS.f5 ?_
  refine r_iconst (v := nI 1) dX3_takeBack_5 rfl ?_
  first | refine r_isubN dX3_takeBack_6 (by omega) ?_ | refine r_isub dX3_takeBack_6 ?_
  refine r_putI fl_X3_59 dX3_takeBack_7 rfl rfl sh_1 rfl ?_
  refine r_aload_n dX3_takeBack_10 rfl rfl ?_
  refine r_getV fl_X3_59 dX3_takeBack_11 sh_1 rfl (show _ = nI (t 34 7 - 1) from by rw [zI_at]; exact pk_us) ?_
  refine r_iconst (v := nI 4) dX3_takeBack_14 rfl ?_
  first | refine r_imulN dX3_takeBack_15 ?_ | refine r_imul dX3_takeBack_15 ?_
  refine r_istore_n dX3_takeBack_16 rfl rfl (by decide) ?_
  refine r_aload_n dX3_takeBack_17 rfl rfl ?_
  refine r_aload_n dX3_takeBack_18 rfl rfl ?_
  refine r_getR fl_X3_43 dX3_takeBack_19 sh_1 rfl ?_
  refine r_iload_n dX3_takeBack_22 rfl rfl ?_
  refine r_ialdN dX3_takeBack_23 sh_9 (by omega) (by decide) ha9.1 ?_
  refine r_putI fl_X3_56 dX3_takeBack_24 rfl rfl sh_1 rfl ?_
  refine r_aload_n dX3_takeBack_27 rfl rfl ?_
  refine r_aload_n dX3_takeBack_28 rfl rfl ?_
  refine r_getR fl_X3_43 dX3_takeBack_29 sh_1 rfl ?_
  refine r_iload_n dX3_takeBack_32 rfl rfl ?_
  refine r_iconst (v := nI 1) dX3_takeBack_33 rfl ?_
  first | refine r_iaddN dX3_takeBack_34 ?_ | refine r_iadd dX3_takeBack_34 ?_
  refine r_ialdN dX3_takeBack_35 sh_9 (by omega) (by decide) ha9.2.1 ?_
  refine r_putI fl_X3_65 dX3_takeBack_36 rfl rfl sh_1 rfl ?_
  refine r_aload_n dX3_takeBack_39 rfl rfl ?_
  refine r_aload_n dX3_takeBack_40 rfl rfl ?_
  refine r_getR fl_X3_43 dX3_takeBack_41 sh_1 rfl ?_
  refine r_iload_n dX3_takeBack_44 rfl rfl ?_
  refine r_iconst (v := nI 2) dX3_takeBack_45 rfl ?_
  first | refine r_iaddN dX3_takeBack_46 ?_ | refine r_iadd dX3_takeBack_46 ?_
  refine r_ialdN dX3_takeBack_47 sh_9 (by omega) (by decide) ha9.2.2.1 ?_
  refine r_putI fl_X3_62 dX3_takeBack_48 rfl rfl sh_1 rfl ?_
  refine r_aload_n dX3_takeBack_51 rfl rfl ?_
  refine r_aload_n dX3_takeBack_52 rfl rfl ?_
  refine r_getR fl_X3_43 dX3_takeBack_53 sh_1 rfl ?_
  refine r_iload_n dX3_takeBack_56 rfl rfl ?_
  refine r_iconst (v := nI 3) dX3_takeBack_57 rfl ?_
  first | refine r_iaddN dX3_takeBack_58 ?_ | refine r_iadd dX3_takeBack_58 ?_
  refine r_ialdN dX3_takeBack_59 sh_9 (by omega) (by decide) ha9.2.2.2 ?_
  refine r_putI fl_X3_18 dX3_takeBack_60 rfl rfl sh_1 rfl ?_
  refine r_vret dX3_takeBack_63 rfl (by decide) (by decide) ?_
  exact ⟨rfl, rfl, SI_undo hS hn hu h0 rfl (fun c h1 h2 => by rcases (show c = 2 ∨ c = 3 ∨ c = 4 ∨ c = 5 ∨ c = 6 ∨ c = 7 ∨ c = 8 ∨ c = 9 by omega) with rfl | rfl | rfl | rfl | rfl | rfl | rfl | rfl <;> rfl), (zfr.trans (zfr.trans (zfr.trans (zfr.trans (zfr.trans zfr.rf (zfr_I (by simp))) (zfr_I (by simp))) (zfr_I (by simp))) (zfr_I (by simp))) (zfr_I (by simp)))⟩

set_option maxHeartbeats 4000000 in
set_option maxRecDepth 100000 in
theorem c4_undo (l : Launch) {rw : List zC} {M0 : zM} {t : Nat → Nat → Nat} (hS : SI 1 (t 35) (t 38) (t 34 7) M0) (hn : NB (t 35)) (hu : UB t) : CT l false 1 0 0 yX4_undo cX4_undo 1 (some .int) [.ref 0] (zSh ++ rw) M0 (zG (zSh ++ rw) (zQC (sp_undo t) (st_undo t) (fun i => i = 1) M0)) := by
  refine CT.ofN (by decide) (fun _ _ => Nat.le_of_ble_eq_true rfl) ?_
  have hdd := hn.2.2.2.2.2.2.2.2.2.2.2
  have hkd := hn.2.2.2.2.2.2.2.2.1
  have how := hn.2.2.2.2.2.2.2.2.2.1
  have hcu := hn.2.2.2.2.2.2.2.2.2.2.1
  have hb0 := hn.1
  have hb1 := hn.2.1
  have hb2 := hn.2.2.1
  have hb3 := hn.2.2.2.1
  have hb4 := hn.2.2.2.2.1
  have hb5 := hn.2.2.2.2.2.1
  have hb6 := hn.2.2.2.2.2.2.1
  have hkn := hu.1
  refine r_aload_n dX4_undo_0 rfl rfl ?_
  refine r_getR fl_X4_10 dX4_undo_1 sh_0 rfl ?_
  refine r_getV fl_X4_149 dX4_undo_4 sh_1 rfl hS.f5 ?_
  refine r_iconst (v := nI 1) dX4_undo_7 rfl ?_
  first | refine r_icmp_geN (tgt := 14) dX4_undo_8 (by decide) (by omega) (by omega) (fun c1 => ?_) (fun c1 => ?_) | refine r_icmp_ge (tgt := 14) dX4_undo_8 (by decide) (fun c1 => ?_) (fun c1 => ?_)
  · refine r_aload_n dX4_undo_14 rfl rfl ?_
    refine r_getR fl_X4_10 dX4_undo_15 sh_0 rfl ?_
    refine r_cV0G mv_X3_takeBack ml_X4_164 (c3_takeBack l hS hn hu (by omega)) dX4_undo_18 (Nat.le_of_ble_eq_true rfl) ⟨by decide, by decide⟩ ⟨by decide, by decide⟩ sh_1 rfl (fun _ h => nomatch h) (fun v M1 hq => ?_)
    obtain ⟨rfl, hS1, hF⟩ := hq
    dsimp only [zrst, List.cons_append, List.nil_append]
    refine r_aload_n dX4_undo_21 rfl rfl ?_
    refine r_getR fl_X4_10 dX4_undo_22 sh_0 rfl ?_
    refine r_getV fl_X4_149 dX4_undo_25 sh_1 rfl hS1.f5 ?_
    refine r_iret dX4_undo_28 rfl (by decide) (by decide) ?_
    refine ⟨rfl, congrArg (fun x => some (Value.int x)) ?_, ?_, hF⟩
    · rw [sp_undo, if_neg (by omega)]; rfl
    · rw [st_undo, if_neg (by omega)]
      exact hS1
  · refine r_bipush (v := (-4)) dX4_undo_11 rfl ?_
    refine r_iret dX4_undo_13 rfl (by decide) (by decide) ?_
    refine ⟨rfl, congrArg (fun x => some (Value.int x)) ?_, ?_, zfr.rf⟩
    · rw [sp_undo, if_pos (by omega)]
    · rw [st_undo, if_pos (by omega)]
      exact hS

