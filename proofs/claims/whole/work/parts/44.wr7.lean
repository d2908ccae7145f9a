set_option maxHeartbeats 4000000 in
set_option maxRecDepth 100000 in
theorem c5p_days (l : Launch) {rw : List zC} {M0 : zM} {t : Nat → Nat → Nat} (hR : RI t M0) (hn : NB (t 35)) (x : Int32) (hkn : t 34 7 ≤ 8) : CT l false 3 0 0 yX5_days cX5_days 3 (some .int) [.ref 34, .int x] (zSh ++ rw) M0 (zG (zSh ++ rw) (zQR (sp_days t x) (st_days t x) M0)) := by
  refine CT.ofN (by decide) (fun _ _ => Nat.le_of_ble_eq_true rfl) ?_
  have hdd := hn.2.2.2.2.2.2.2.2.2.2.2
  have hkd := hn.2.2.2.2.2.2.2.2.1
  have how := hn.2.2.2.2.2.2.2.2.2.1
  have hcu := hn.2.2.2.2.2.2.2.2.2.2.1
  have hb0 := hn.1
  have hb1 := hn.2.1
  have hb2 := hn.2.2.1
  have hb3 := hn.2.2.2.1
  have hb4 := hn.2.2.2.2.1
  have hb5 := hn.2.2.2.2.2.1
  have hb6 := hn.2.2.2.2.2.2.1
  have hF : zfr PR M0 M0 := zfr.rf
  refine r_iload_n dX5_days_0 rfl rfl ?_
  refine r_i2l dX5_days_1 rfl ?_
  refine r_lconst (v := 1) dX5_days_2 rfl ?_
  refine r_ldc2 kc_X5_87 dX5_days_3 ?_
  refine r_cS3F ms_X5_in ml_X5_41 (c5_in l _ _ _) dX5_days_6 (Nat.le_of_ble_eq_true rfl) ⟨by decide, by decide⟩ ⟨by decide, by decide⟩ (fun _ h => nomatch h) ?_
  try dsimp only [zrst, List.cons_append, List.nil_append]
  first | refine r_if_neB (tgt := 14) dX5_days_9 (by decide) (fun c1 => ?_) (fun c1 => ?_) | refine r_if_neN (tgt := 14) dX5_days_9 (by decide) (by omega) (fun c1 => ?_) (fun c1 => ?_) | refine r_if_ne (tgt := 14) dX5_days_9 (by decide) (fun c1 => ?_) (fun c1 => ?_)
  · rw [i64_of32] at c1
    have c1 : ((1 : Int) ≤ x.toInt ∧ x.toInt ≤ (99 : Int)) := c1
    have g1 : 1 ≤ x.toInt ∧ x.toInt ≤ 99 := by omega
    obtain ⟨K, hK1, hK2, rfl⟩ := arg_rng (a := 1) (b := 99) (show ((1 : Nat) : Int) ≤ x.toInt ∧ x.toInt ≤ ((99 : Nat) : Int) by omega)
    refine r_aload_n dX5_days_14 rfl rfl ?_
    refine r_getR fl_X5_7 dX5_days_15 sh_34 rfl ?_
    refine r_iconst (v := nI 3) dX5_days_18 rfl ?_
    refine r_ialdN dX5_days_19 sh_35 (by omega) (by decide) (hR.a35 _) ?_
    refine r_iload_n dX5_days_20 rfl rfl ?_
    first | refine r_iaddN dX5_days_21 ?_ | refine r_iadd dX5_days_21 ?_
    refine r_sipush (v := nI 9999) dX5_days_22 rfl ?_
    first | refine r_icmp_leN (tgt := 31) dX5_days_25 (by decide) (by omega) (by omega) (fun c2 => ?_) (fun c2 => ?_) | refine r_icmp_le (tgt := 31) dX5_days_25 (by decide) (fun c2 => ?_) (fun c2 => ?_)
    · refine r_iconst (v := nI 0) dX5_days_31 rfl ?_
      refine r_istore_n dX5_days_32 rfl rfl (by decide) ?_
      have loop : ∀ (j k : Nat) (M : zM) (hR : RI (dyk t k) M) (hF : zfr PR M0 M), k ≤ K → K < k + j → RA l none (zR 3 0 0) yX5_days cX5_days 3 (some .int) (zG (zSh ++ rw) (zQR (sp_days t (nI K)) (st_days t (nI K)) M0)) 0 0 33 [some (.ref 34), some (.int (nI K)), some (.int (nI k))] [] (zSh ++ rw) M := by
        intro j
        induction j with
        | zero => intro k M hR hF hk hj; exact absurd hj (by omega)
        | succ j ih =>
          intro k M hR hF hk hj
          refine r_iload_n dX5_days_33 rfl rfl ?_
          refine r_iload_n dX5_days_34 rfl rfl ?_
          first | refine r_icmp_geN (tgt := 58) dX5_days_35 (by decide) (by omega) (by omega) (fun c1 => ?_) (fun c1 => ?_) | refine r_icmp_ge (tgt := 58) dX5_days_35 (by decide) (fun c1 => ?_) (fun c1 => ?_)
          · refine r_aload_n dX5_days_58 rfl rfl ?_
            refine r_cV0F mv_X5_leftOfAll ml_X5_128 (c5_leftOfAll l hR (NB_dyk hn k (by omega))) dX5_days_59 (Nat.le_of_ble_eq_true rfl) ⟨by decide, by decide⟩ ⟨by decide, by decide⟩ sh_34 rfl (fun _ h => nomatch h) ?_
            try dsimp only [zrst, List.cons_append, List.nil_append]
            refine r_iret dX5_days_62 rfl (by decide) (by decide) ?_
            have eK : k = K := by omega
            subst eK
            refine ⟨rfl, congrArg (fun x => some (Value.int x)) ?_, ?_, hF⟩
            · rw [sp_days, if_pos g1, tn_nI (show k < 2147483648 by omega), if_neg (by omega)]
            · rw [st_days, if_pos g1, tn_nI (show k < 2147483648 by omega), if_neg (by omega)]
              exact hR
          · have h3 := dyk_3 t k
            refine r_aload_n dX5_days_38 rfl rfl ?_
            refine r_cV0G mv_X5_notes ml_X5_170 (c5_notes l hR (dyk_kn hkn k)) dX5_days_39 (Nat.le_of_ble_eq_true rfl) ⟨by decide, by decide⟩ ⟨by decide, by decide⟩ sh_34 rfl (fun _ h => nomatch h) (fun v M1 hq => ?_)
            obtain ⟨rfl, hR, hF1⟩ := hq
            have hF := hF.trans hF1
            dsimp only [zrst, List.cons_append, List.nil_append]
            refine r_aload_n dX5_days_42 rfl rfl ?_
            refine r_getR fl_X5_7 dX5_days_43 sh_34 rfl ?_
            refine r_iconst (v := nI 3) dX5_days_46 rfl ?_
            refine r_dup2 dX5_days_47 rfl rfl ?_
            refine r_ialdN dX5_days_48 sh_35 (by omega) (by decide) (hR.a35 _) ?_
            refine r_top (v' := .int (nI (dyk t k 35 3))) (congrArg (fun z => Value.int (nI z)) (by rw [sn_35])) ?_
            refine r_iconst (v := nI 1) dX5_days_49 rfl ?_
            first | refine r_iaddN dX5_days_50 ?_ | refine r_iadd dX5_days_50 ?_
            refine r_Rast dX5_days_51 sh_35 (by omega) (by decide) hR (by decide) (fun M hR hF1 => ?_)
            have hF := hF.trans hF1
            first | refine r_iincN dX5_days_52 rfl rfl (by decide) ?_ | refine r_iinc dX5_days_52 rfl rfl rfl (by decide) ?_
            refine r_goto (tgt := 33) dX5_days_55 (by decide) ?_
            exact ih (k + 1) M (by rw [dyk, dy]; exact hR) hF (by omega) (by omega)
      exact loop (K + 1) 0 M0 hR hF (Nat.zero_le _) (by omega)
    · refine r_bipush (v := (-3)) dX5_days_28 rfl ?_
      refine r_iret dX5_days_30 rfl (by decide) (by decide) ?_
      refine ⟨rfl, congrArg (fun x => some (Value.int x)) ?_, ?_, hF⟩
      · rw [sp_days, if_pos g1, tn_nI (show K < 2147483648 by omega), if_pos (by omega)]
      · rw [st_days, if_pos g1, tn_nI (show K < 2147483648 by omega), if_pos (by omega)]
        exact hR
  · rw [i64_of32] at c1
    have c1 : ¬ ((1 : Int) ≤ x.toInt ∧ x.toInt ≤ (99 : Int)) := c1
    have b1 : ¬ (1 ≤ x.toInt ∧ x.toInt ≤ 99) := by omega
    refine r_iconst (v := (-1)) dX5_days_12 rfl ?_
    refine r_iret dX5_days_13 rfl (by decide) (by decide) ?_
    refine ⟨rfl, congrArg (fun x => some (Value.int x)) ?_, ?_, hF⟩
    · rw [sp_days, if_neg]
      intro h9; first | exact absurd h9 (by assumption) | exact absurd h9.1 (by assumption) | exact absurd h9.2 (by assumption) | exact absurd h9.2.1 (by assumption) | exact absurd h9.2.2 (by assumption) | exact absurd h9.2.2.1 (by assumption) | exact absurd h9.2.2.2 (by assumption) | exact absurd h9.2.2.2.1 (by assumption) | exact absurd h9.2.2.2.2 (by assumption)
    · rw [st_days, if_neg]
      · exact hR
      · intro h9; first | exact absurd h9 (by assumption) | exact absurd h9.1 (by assumption) | exact absurd h9.2 (by assumption) | exact absurd h9.2.1 (by assumption) | exact absurd h9.2.2 (by assumption) | exact absurd h9.2.2.1 (by assumption) | exact absurd h9.2.2.2 (by assumption) | exact absurd h9.2.2.2.1 (by assumption) | exact absurd h9.2.2.2.2 (by assumption)

set_option maxHeartbeats 4000000 in
set_option maxRecDepth 100000 in
theorem c4_refuse (l : Launch) {rw : List zC} {M : zM} {t : Nat → Nat → Nat} (hS : SI 1 (t 35) (t 38) (t 34 7) M) (hn : NB (t 35)) (x : Int32) : CT l false 1 0 0 yX4_refusalOfDays cX4_refusalOfDays 2 (some .int) [.ref 0, .int x] (zSh ++ rw) M (zF (some (.int (sp_refuse t x))) (zSh ++ rw) M) := by
  refine CT.ofN (by decide) (fun _ _ => Nat.le_of_ble_eq_true rfl) ?_
  have hdd := hn.2.2.2.2.2.2.2.2.2.2.2
  have hkd := hn.2.2.2.2.2.2.2.2.1
  have how := hn.2.2.2.2.2.2.2.2.2.1
  have hcu := hn.2.2.2.2.2.2.2.2.2.2.1
  have hb0 := hn.1
  have hb1 := hn.2.1
  have hb2 := hn.2.2.1
  have hb3 := hn.2.2.2.1
  have hb4 := hn.2.2.2.2.1
  have hb5 := hn.2.2.2.2.2.1
  have hb6 := hn.2.2.2.2.2.2.1
  refine r_iload_n dX4_refusalOfDays_0 rfl rfl ?_
  refine r_iconst (v := nI 1) dX4_refusalOfDays_1 rfl ?_
  refine r_bipush (v := nI 99) dX4_refusalOfDays_2 rfl ?_
  refine r_cS3F ms_X4_within ml_X4_41 (c4_within l _ _ _) dX4_refusalOfDays_4 (Nat.le_of_ble_eq_true rfl) ⟨by decide, by decide⟩ ⟨by decide, by decide⟩ (fun _ h => nomatch h) ?_
  try dsimp only [zrst, List.cons_append, List.nil_append]
  first | refine r_if_neB (tgt := 12) dX4_refusalOfDays_7 (by decide) (fun c1 => ?_) (fun c1 => ?_) | refine r_if_neN (tgt := 12) dX4_refusalOfDays_7 (by decide) (by omega) (fun c1 => ?_) (fun c1 => ?_) | refine r_if_ne (tgt := 12) dX4_refusalOfDays_7 (by decide) (fun c1 => ?_) (fun c1 => ?_)
  · have c1 : ((1 : Int) ≤ x.toInt ∧ x.toInt ≤ (99 : Int)) := c1
    have g1 : 1 ≤ x.toInt ∧ x.toInt ≤ 99 := by omega
    obtain ⟨K, hK1, hK2, rfl⟩ := arg_rng (a := 1) (b := 99) (show ((1 : Nat) : Int) ≤ x.toInt ∧ x.toInt ≤ ((99 : Nat) : Int) by omega)
    refine r_aload_n dX4_refusalOfDays_12 rfl rfl ?_
    refine r_getR fl_X4_10 dX4_refusalOfDays_13 sh_0 rfl ?_
    refine r_getV fl_X4_140 dX4_refusalOfDays_16 sh_1 rfl hS.f4 ?_
    refine r_iload_n dX4_refusalOfDays_19 rfl rfl ?_
    first | refine r_iaddN dX4_refusalOfDays_20 ?_ | refine r_iadd dX4_refusalOfDays_20 ?_
    refine r_sipush (v := nI 9999) dX4_refusalOfDays_21 rfl ?_
    first | refine r_icmp_leN (tgt := 32) dX4_refusalOfDays_24 (by decide) (by omega) (by omega) (fun c2 => ?_) (fun c2 => ?_) | refine r_icmp_le (tgt := 32) dX4_refusalOfDays_24 (by decide) (fun c2 => ?_) (fun c2 => ?_)
    · refine r_iconst (v := nI 0) dX4_refusalOfDays_32 rfl ?_
      refine r_iret dX4_refusalOfDays_33 rfl (by decide) (by decide) ?_
      refine ⟨congrArg (fun x => some (Value.int x)) ?_, rfl, rfl⟩
      rw [sp_refuse, if_pos g1, tn_nI (show K < 2147483648 by omega)]
      first | rw [if_pos (by omega)] | rw [if_neg (by omega)]
    · refine r_bipush (v := (-3)) dX4_refusalOfDays_27 rfl ?_
      refine r_goto (tgt := 33) dX4_refusalOfDays_29 (by decide) ?_
      refine r_iret dX4_refusalOfDays_33 rfl (by decide) (by decide) ?_
      refine ⟨congrArg (fun x => some (Value.int x)) ?_, rfl, rfl⟩
      rw [sp_refuse, if_pos g1, tn_nI (show K < 2147483648 by omega)]
      first | rw [if_pos (by omega)] | rw [if_neg (by omega)]
  · have c1 : ¬ ((1 : Int) ≤ x.toInt ∧ x.toInt ≤ (99 : Int)) := c1
    have b1 : ¬ (1 ≤ x.toInt ∧ x.toInt ≤ 99) := by omega
    refine r_iconst (v := (-1)) dX4_refusalOfDays_10 rfl ?_
    refine r_iret dX4_refusalOfDays_11 rfl (by decide) (by decide) ?_
    exact ⟨congrArg (fun x => some (Value.int x)) (if_neg (by assumption)).symm, rfl, rfl⟩

theorem refuse_0 {t : Nat → Nat → Nat} {x : Int32} (h : sp_refuse t x = 0) : (1 ≤ x.toInt ∧ x.toInt ≤ 99) ∧ ¬ 9999 < t 35 3 + tn x := by
  unfold sp_refuse at h
  by_cases h1 : 1 ≤ x.toInt ∧ x.toInt ≤ 99
  · rw [if_pos h1] at h
    by_cases h2 : 9999 < t 35 3 + tn x
    · rw [if_pos h2] at h; exact absurd h (by decide)
    · exact ⟨h1, h2⟩
  · rw [if_neg h1] at h; exact absurd h (by decide)
theorem refuse_days {t : Nat → Nat → Nat} {x : Int32} (h : ¬ sp_refuse t x = 0) : sp_days t x = sp_refuse t x ∧ st_days t x = t ∧ sp_drift t x = sp_refuse t x ∧ st_drift t x = t := by
  unfold sp_refuse at h
  unfold sp_days st_days sp_drift st_drift sp_refuse
  by_cases h1 : 1 ≤ x.toInt ∧ x.toInt ≤ 99
  · rw [if_pos h1] at h
    by_cases h2 : 9999 < t 35 3 + tn x
    · simp only [if_pos h1, if_pos h2, and_self]
    · rw [if_neg h2] at h; exact absurd rfl h
  · simp only [if_neg h1, and_self]
theorem SI_today {t : Nat → Nat → Nat} {M : zM} {v : Nat} (h : SI 1 (t 35) (t 38) (t 34 7) M) (hn : NB (t 35))  : SI 1 (ts t 35 3 v 35) (ts t 35 3 v 38) (ts t 35 3 v 34 7) (zI M 1 (upd (M.1 1) 4 (nI v))) := by
  obtain ⟨⟨f0, f1, f2, f3, f4, f5, f6, f7, f8⟩, a2, a3, a4, a5, a9⟩ := h
  have hb0 := hn.1
  have hb1 := hn.2.1
  have hb2 := hn.2.2.1
  have e8 : ∀ j, j ≠ 3 → ts t 35 (3) v 35 j = t 35 j := fun j hj => ts_nk hj
  refine ⟨⟨by (try rw [e8 _ (by omega)]); exact f0, by (try rw [e8 _ (by omega)]); exact f1, by (try rw [e8 _ (by omega)]); exact f2, by (try rw [e8 _ (by omega)]); exact f3, by rw [ts_at, zI_at]; exact pk_us, by (try rw [e8 _ (by omega)]); exact f5, by (try rw [e8 _ (by omega)]); exact f6, by (try rw [e8 _ (by omega)]); exact f7, by (try rw [e8 _ (by omega)]); exact f8⟩, ?_, ?_, ?_, ?_, ?_⟩
  · intro p2 hp2; (try rw [e8 0 (by omega)] at hp2); rw [e8 _ (by omega)]; exact a2 p2 hp2
  · intro p2 m2 hp2 hm2; (try rw [e8 0 (by omega)] at hp2); rw [e8 _ (by omega)]; exact a3 p2 m2 hp2 hm2
  · intro p2 m2 hp2 hm2; (try rw [e8 1 (by omega)] at hp2); rw [e8 _ (by omega)]; exact a4 p2 m2 hp2 hm2
  · intro d2 hd2; (try rw [e8 2 (by omega)] at hd2); rw [e8 _ (by omega), e8 _ (by omega), e8 _ (by omega), e8 _ (by omega)]; exact a5 d2 hd2
  · exact a9
set_option maxHeartbeats 4000000 in
set_option maxRecDepth 100000 in
theorem c4_days (l : Launch) {rw : List zC} {M0 : zM} {t : Nat → Nat → Nat} (hS : SI 1 (t 35) (t 38) (t 34 7) M0) (hn : NB (t 35)) (x : Int32) (hkn : t 34 7 ≤ 8) : CT l false 4 0 0 yX4_days cX4_days 4 (some .int) [.ref 0, .int x] (zSh ++ rw) M0 (zG (zSh ++ rw) (zQC (sp_days t x) (st_days t x) (fun i => i = 1 ∨ i = 9) M0)) := by
  refine CT.ofN (by decide) (fun _ _ => Nat.le_of_ble_eq_true rfl) ?_
  have hdd := hn.2.2.2.2.2.2.2.2.2.2.2
  have hkd := hn.2.2.2.2.2.2.2.2.1
  have how := hn.2.2.2.2.2.2.2.2.2.1
  have hcu := hn.2.2.2.2.2.2.2.2.2.2.1
  have hb0 := hn.1
  have hb1 := hn.2.1
  have hb2 := hn.2.2.1
  have hb3 := hn.2.2.2.1
  have hb4 := hn.2.2.2.2.1
  have hb5 := hn.2.2.2.2.2.1
  have hb6 := hn.2.2.2.2.2.2.1
  refine r_aload_n dX4_days_0 rfl rfl ?_
  refine r_iload_n dX4_days_1 rfl rfl ?_
  refine r_cV1F mv_X4_refusalOfDays ml_X4_158 (c4_refuse l hS hn x) dX4_days_2 (Nat.le_of_ble_eq_true rfl) ⟨by decide, by decide⟩ ⟨by decide, by decide⟩ sh_0 rfl (fun _ h => nomatch h) ?_
  try dsimp only [zrst, List.cons_append, List.nil_append]
  refine r_istore_n dX4_days_5 rfl rfl (by decide) ?_
  refine r_iload_n dX4_days_6 rfl rfl ?_
  refine r_if_eq (tgt := 12) dX4_days_7 (by decide) (fun c1 => ?_) (fun c1 => ?_)
  · have h0 := refuse_0 (t := t) (x := x) c1
    have g1 := h0.1
    obtain ⟨K, hK1, hK2, rfl⟩ := arg_rng (a := 1) (b := 99) h0.1
    have h99 := h0.2
    rw [tn_nI (show K < 2147483648 by omega)] at h99
    refine r_iconst (v := nI 0) dX4_days_12 rfl ?_
    refine r_istore_n dX4_days_13 rfl rfl (by decide) ?_
    have loop : ∀ (j k : Nat) (M : zM) (hS : SI 1 (dyk t k 35) (dyk t k 38) (dyk t k 34 7) M) (hF : zfr (fun i => i = 1 ∨ i = 9) M0 M), k ≤ K → K < k + j → RA l none (zR 4 0 0) yX4_days cX4_days 4 (some .int) (zG (zSh ++ rw) (zQC (sp_days t (nI K)) (st_days t (nI K)) (fun i => i = 1 ∨ i = 9) M0)) 0 0 14 [some (.ref 0), some (.int (nI K)), some (.int (sp_refuse t (nI K))), some (.int (nI k))] [] (zSh ++ rw) M := by
      intro j
      induction j with
      | zero => intro k M hS hF hk hj; exact absurd hj (by omega)
      | succ j ih =>
        intro k M hS hF hk hj
        refine r_iload_n dX4_days_14 rfl rfl ?_
        refine r_iload_n dX4_days_15 rfl rfl ?_
        first | refine r_icmp_geN (tgt := 45) dX4_days_16 (by decide) (by omega) (by omega) (fun c1 => ?_) (fun c1 => ?_) | refine r_icmp_ge (tgt := 45) dX4_days_16 (by decide) (fun c1 => ?_) (fun c1 => ?_)
        · refine r_aload_n dX4_days_45 rfl rfl ?_
          refine r_getR fl_X4_10 dX4_days_46 sh_0 rfl ?_
          refine r_cV0F mv_X3_leftOfAll ml_X4_146 (c3_leftOfAll l hS (NB_dyk hn k (by omega))) dX4_days_49 (Nat.le_of_ble_eq_true rfl) ⟨by decide, by decide⟩ ⟨by decide, by decide⟩ sh_1 rfl (fun _ h => nomatch h) ?_
          try dsimp only [zrst, List.cons_append, List.nil_append]
          refine r_iret dX4_days_52 rfl (by decide) (by decide) ?_
          have eK : k = K := by omega
          subst eK
          refine ⟨rfl, congrArg (fun x => some (Value.int x)) ?_, ?_, hF⟩
          · rw [sp_days, if_pos g1, tn_nI (show k < 2147483648 by omega), if_neg (by omega)]
          · rw [st_days, if_pos g1, tn_nI (show k < 2147483648 by omega), if_neg (by omega)]
            exact hS
        · have h3 := dyk_3 t k
          have hnT := NB_dyk hn k (by omega)
          refine r_aload_n dX4_days_19 rfl rfl ?_
          refine r_getR fl_X4_10 dX4_days_20 sh_0 rfl ?_
          refine r_cV0G mv_X3_remember ml_X4_152 (c3_remember l hS (dyk_kn hkn k)) dX4_days_23 (Nat.le_of_ble_eq_true rfl) ⟨by decide, by decide⟩ ⟨by decide, by decide⟩ sh_1 rfl (fun _ h => nomatch h) (fun v M1 hq => ?_)
          obtain ⟨rfl, hS, hF1⟩ := hq
          have hF := hF.trans hF1
          dsimp only [zrst, List.cons_append, List.nil_append]
          refine r_aload_n dX4_days_26 rfl rfl ?_
          refine r_getR fl_X4_10 dX4_days_27 sh_0 rfl ?_
          refine r_dup dX4_days_30 rfl ?_
          refine r_getV fl_X4_140 dX4_days_31 sh_1 rfl hS.f4 ?_
          refine r_top (v' := .int (nI (dyk t k 35 3))) (congrArg (fun z => Value.int (nI z)) (by rw [sn_35])) ?_
          refine r_iconst (v := nI 1) dX4_days_34 rfl ?_
          first | refine r_iaddN dX4_days_35 ?_ | refine r_iadd dX4_days_35 ?_
          refine r_putI fl_X4_140 dX4_days_36 rfl rfl sh_1 rfl ?_
          have hS := SI_today (v := dyk t k 35 3 + 1) hS (by rw [sn_35]; exact hnT)
          first | refine r_iincN dX4_days_39 rfl rfl (by decide) ?_ | refine r_iinc dX4_days_39 rfl rfl rfl (by decide) ?_
          refine r_goto (tgt := 14) dX4_days_42 (by decide) ?_
          exact ih (k + 1) _ (by rw [dyk, dy]; exact hS) (hF.trans (zfr_I (by simp))) (by omega) (by omega)
    exact loop (K + 1) 0 M0 hS zfr.rf (Nat.zero_le _) (by omega)
  · have h0 := refuse_days (t := t) (x := x) c1
    refine r_iload_n dX4_days_10 rfl rfl ?_
    refine r_iret dX4_days_11 rfl (by decide) (by decide) ?_
    refine ⟨rfl, congrArg (fun x => some (Value.int x)) ?_, ?_, zfr.rf⟩
    · rw [h0.1]
    · rw [h0.2.1]; exact hS

