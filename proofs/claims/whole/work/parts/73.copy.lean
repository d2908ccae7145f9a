set_option maxHeartbeats 4000000 in
set_option maxRecDepth 100000 in
theorem c4_copy (l : Launch) {rw : List zC} {M : zM} {z : Nat → Option (Nat × Nat × Nat)} {sz : Nat → Nat} (hC : SHC (zSh ++ rw) z sz M) (x i w jj k : Int32) : CT l false 2 0 0 yX4_copy cX4_copy 8 (some .int) [.ref 0, .int x, .int i, .int w, .int jj, .int k] (zSh ++ rw) M (zG (zSh ++ rw) (fun v9 M9 => v9 = some (.int (sp_copy z sz x i w jj k)) ∧ M9 = mc_copy z sz x i w jj k M)) := by
  refine CT.ofN (by decide) (fun _ _ => Nat.le_of_ble_eq_true rfl) ?_
  refine r_iload_n dX4_copy_0 rfl rfl ?_
  refine r_cS1F ms_X4_isSheet ml_X4_213 (c4_isSheet l _) dX4_copy_1 (Nat.le_of_ble_eq_true rfl) ⟨by decide, by decide⟩ ⟨by decide, by decide⟩ (fun _ h => nomatch h) ?_
  try dsimp only [zrst, List.cons_append, List.nil_append]
  first | refine r_if_eqB (tgt := 14) dX4_copy_4 (by decide) (fun c1 => ?_) (fun c1 => ?_) | refine r_if_eqN (tgt := 14) dX4_copy_4 (by decide) (by omega) (fun c1 => ?_) (fun c1 => ?_) | refine r_if_eq (tgt := 14) dX4_copy_4 (by decide) (fun c1 => ?_) (fun c1 => ?_)
  · have c1 : ¬ ((0 : Int) ≤ x.toInt ∧ x.toInt < (4 : Int)) := c1
    have b1 : ¬ (0 ≤ x.toInt ∧ x.toInt ≤ 3) := by omega
    refine r_iconst (v := (-1)) dX4_copy_14 rfl ?_
    refine r_iret dX4_copy_15 rfl (by decide) (by decide) ?_
    refine ⟨rfl, congrArg (fun x => some (Value.int x)) ?_, ?_⟩
    · rw [sp_copy, if_neg]
      intro h9; first | exact absurd h9 (by assumption) | exact absurd h9.1 (by assumption) | exact absurd h9.2 (by assumption) | exact absurd h9.2.1 (by assumption) | exact absurd h9.2.2 (by assumption) | exact absurd h9.2.2.1 (by assumption) | exact absurd h9.2.2.2 (by assumption) | exact absurd h9.2.2.2.1 (by assumption) | exact absurd h9.2.2.2.2 (by assumption)
    · rw [mc_copy, if_neg]
      intro h9; first | exact absurd h9 (by assumption) | exact absurd h9.1 (by assumption) | exact absurd h9.2 (by assumption) | exact absurd h9.2.1 (by assumption) | exact absurd h9.2.2 (by assumption) | exact absurd h9.2.2.1 (by assumption) | exact absurd h9.2.2.2 (by assumption) | exact absurd h9.2.2.2.1 (by assumption) | exact absurd h9.2.2.2.2 (by assumption)
  · have c1 : ((0 : Int) ≤ x.toInt ∧ x.toInt < (4 : Int)) := c1
    have g1 : 0 ≤ x.toInt ∧ x.toInt ≤ 3 := by omega
    obtain ⟨jx, hjx1, hjx2, rfl⟩ := arg_rng (a := 0) (b := 3) (show ((0 : Nat) : Int) ≤ x.toInt ∧ x.toInt ≤ ((3 : Nat) : Int) by omega)
    refine r_iload_n dX4_copy_7 rfl rfl ?_
    refine r_cS1F ms_X4_isSheet ml_X4_213 (c4_isSheet l _) dX4_copy_8 (Nat.le_of_ble_eq_true rfl) ⟨by decide, by decide⟩ ⟨by decide, by decide⟩ (fun _ h => nomatch h) ?_
    try dsimp only [zrst, List.cons_append, List.nil_append]
    first | refine r_if_neB (tgt := 16) dX4_copy_11 (by decide) (fun c2 => ?_) (fun c2 => ?_) | refine r_if_neN (tgt := 16) dX4_copy_11 (by decide) (by omega) (fun c2 => ?_) (fun c2 => ?_) | refine r_if_ne (tgt := 16) dX4_copy_11 (by decide) (fun c2 => ?_) (fun c2 => ?_)
    · have c2 : ((0 : Int) ≤ w.toInt ∧ w.toInt < (4 : Int)) := c2
      have g2 : 0 ≤ w.toInt ∧ w.toInt ≤ 3 := by omega
      obtain ⟨jw, hjw1, hjw2, rfl⟩ := arg_rng (a := 0) (b := 3) (show ((0 : Nat) : Int) ≤ w.toInt ∧ w.toInt ≤ ((3 : Nat) : Int) by omega)
      refine r_aload_n dX4_copy_16 rfl rfl ?_
      refine r_getR fl_X4_37 dX4_copy_17 sh_0 rfl ?_
      refine r_iload_n dX4_copy_20 rfl rfl ?_
      rcases hzr : z jx with _ | ⟨r, ri, L⟩
      · refine r_aldN dX4_copy_21 sh_33 (by omega) (by decide) ((hC jx (by omega)).1 hzr) ?_
        refine r_astoreN dX4_copy_22 rfl (by decide) ?_
        refine r_aload_n dX4_copy_24 rfl rfl ?_
        refine r_getR fl_X4_37 dX4_copy_25 sh_0 rfl ?_
        refine r_iload_n dX4_copy_28 rfl rfl ?_
        rcases hzq : z jw with _ | ⟨q, qi, K⟩
        · refine r_aldN dX4_copy_29 sh_33 (by omega) (by decide) ((hC jw (by omega)).1 hzq) ?_
          refine r_astoreN dX4_copy_30 rfl (by decide) ?_
          refine r_aloadN dX4_copy_32 rfl ?_
          refine r_ifnullN (tgt := 42) dX4_copy_34 (by decide) ?_
          refine r_bipush (v := (-11)) dX4_copy_42 rfl ?_
          refine r_iret dX4_copy_44 rfl (by decide) (by decide) ?_
          first
          | (refine ⟨rfl, congrArg (fun x => some (Value.int x)) ?_, ?_⟩
             · rw [sp_copy, if_pos ⟨g1, g2⟩, tn_nI (show jx < 2147483648 by omega), hzr]
               try rfl
             · rw [mc_copy, if_pos ⟨g1, g2⟩, tn_nI (show jx < 2147483648 by omega), hzr]
               try rfl)
          | (refine ⟨rfl, congrArg (fun x => some (Value.int x)) ?_, ?_⟩
             · rw [sp_copy, if_pos ⟨g1, g2⟩, tn_nI (show jx < 2147483648 by omega), tn_nI (show jw < 2147483648 by omega), hzr, hzq]
               try rfl
             · rw [mc_copy, if_pos ⟨g1, g2⟩, tn_nI (show jx < 2147483648 by omega), tn_nI (show jw < 2147483648 by omega), hzr, hzq]
               try rfl)
        · obtain ⟨h33q, hs_q, hs_qi, ⟨hrq, hriq, hK, hszq⟩, hlaneq⟩ := (hC jw (by omega)).2 _ _ _ hzq
          refine r_aldS dX4_copy_29 sh_33 (by omega) (by decide) h33q ?_
          refine r_astore dX4_copy_30 rfl (by decide) ?_
          refine r_aloadN dX4_copy_32 rfl ?_
          refine r_ifnullN (tgt := 42) dX4_copy_34 (by decide) ?_
          refine r_bipush (v := (-11)) dX4_copy_42 rfl ?_
          refine r_iret dX4_copy_44 rfl (by decide) (by decide) ?_
          first
          | (refine ⟨rfl, congrArg (fun x => some (Value.int x)) ?_, ?_⟩
             · rw [sp_copy, if_pos ⟨g1, g2⟩, tn_nI (show jx < 2147483648 by omega), hzr]
               try rfl
             · rw [mc_copy, if_pos ⟨g1, g2⟩, tn_nI (show jx < 2147483648 by omega), hzr]
               try rfl)
          | (refine ⟨rfl, congrArg (fun x => some (Value.int x)) ?_, ?_⟩
             · rw [sp_copy, if_pos ⟨g1, g2⟩, tn_nI (show jx < 2147483648 by omega), tn_nI (show jw < 2147483648 by omega), hzr, hzq]
               try rfl
             · rw [mc_copy, if_pos ⟨g1, g2⟩, tn_nI (show jx < 2147483648 by omega), tn_nI (show jw < 2147483648 by omega), hzr, hzq]
               try rfl)
      · obtain ⟨h33r, hs_r, hs_ri, ⟨hrr, hrir, hL, hszr⟩, hlaner⟩ := (hC jx (by omega)).2 _ _ _ hzr
        refine r_aldS dX4_copy_21 sh_33 (by omega) (by decide) h33r ?_
        refine r_astore dX4_copy_22 rfl (by decide) ?_
        refine r_aload_n dX4_copy_24 rfl rfl ?_
        refine r_getR fl_X4_37 dX4_copy_25 sh_0 rfl ?_
        refine r_iload_n dX4_copy_28 rfl rfl ?_
        rcases hzq : z jw with _ | ⟨q, qi, K⟩
        · refine r_aldN dX4_copy_29 sh_33 (by omega) (by decide) ((hC jw (by omega)).1 hzq) ?_
          refine r_astoreN dX4_copy_30 rfl (by decide) ?_
          refine r_aload dX4_copy_32 rfl ?_
          refine r_ifnull dX4_copy_34 ?_
          refine r_aloadN dX4_copy_37 rfl ?_
          refine r_ifnonnullN dX4_copy_39 ?_
          refine r_bipush (v := (-11)) dX4_copy_42 rfl ?_
          refine r_iret dX4_copy_44 rfl (by decide) (by decide) ?_
          first
          | (refine ⟨rfl, congrArg (fun x => some (Value.int x)) ?_, ?_⟩
             · rw [sp_copy, if_pos ⟨g1, g2⟩, tn_nI (show jx < 2147483648 by omega), hzr]
               try rfl
             · rw [mc_copy, if_pos ⟨g1, g2⟩, tn_nI (show jx < 2147483648 by omega), hzr]
               try rfl)
          | (refine ⟨rfl, congrArg (fun x => some (Value.int x)) ?_, ?_⟩
             · rw [sp_copy, if_pos ⟨g1, g2⟩, tn_nI (show jx < 2147483648 by omega), tn_nI (show jw < 2147483648 by omega), hzr, hzq]
               try rfl
             · rw [mc_copy, if_pos ⟨g1, g2⟩, tn_nI (show jx < 2147483648 by omega), tn_nI (show jw < 2147483648 by omega), hzr, hzq]
               try rfl)
        · obtain ⟨h33q, hs_q, hs_qi, ⟨hrq, hriq, hK, hszq⟩, hlaneq⟩ := (hC jw (by omega)).2 _ _ _ hzq
          refine r_aldS dX4_copy_29 sh_33 (by omega) (by decide) h33q ?_
          refine r_astore dX4_copy_30 rfl (by decide) ?_
          refine r_aload dX4_copy_32 rfl ?_
          refine r_ifnull dX4_copy_34 ?_
          refine r_aload dX4_copy_37 rfl ?_
          refine r_ifnonnull (tgt := 45) dX4_copy_39 (by decide) ?_
          refine r_aload dX4_copy_45 rfl ?_
          refine r_getV fl_X4_243 dX4_copy_47 hs_r rfl hlaner ?_
          refine r_aload dX4_copy_50 rfl ?_
          refine r_getV fl_X4_243 dX4_copy_52 hs_q rfl hlaneq ?_
          first | refine r_icmp_eqN (tgt := 61) dX4_copy_55 (by decide) (by omega) (by omega) (fun c3 => ?_) (fun c3 => ?_) | refine r_icmp_eq (tgt := 61) dX4_copy_55 (by decide) (fun c3 => ?_) (fun c3 => ?_)
          · refine r_aload dX4_copy_61 rfl ?_
            refine r_iload_n dX4_copy_63 rfl rfl ?_
            refine r_iload dX4_copy_64 rfl ?_
            refine r_cV2F mv_X2_holds ml_X4_246 (c2_holds l hs_r hs_ri hszr i k) dX4_copy_66 (Nat.le_of_ble_eq_true rfl) ⟨by decide, by decide⟩ ⟨by decide, by decide⟩ hs_r rfl (fun _ h => nomatch h) ?_
            try dsimp only [zrst, List.cons_append, List.nil_append]
            first | refine r_if_eqB (tgt := 84) dX4_copy_69 (by decide) (fun c4 => ?_) (fun c4 => ?_) | refine r_if_eqN (tgt := 84) dX4_copy_69 (by decide) (by omega) (fun c4 => ?_) (fun c4 => ?_) | refine r_if_eq (tgt := 84) dX4_copy_69 (by decide) (fun c4 => ?_) (fun c4 => ?_)
            · refine r_bipush (v := (-13)) dX4_copy_84 rfl ?_
              refine r_iret dX4_copy_86 rfl (by decide) (by decide) ?_
              refine ⟨rfl, congrArg (fun x => some (Value.int x)) ?_, ?_⟩
              · rw [sp_copy, if_pos ⟨g1, g2⟩, tn_nI (show jx < 2147483648 by omega), tn_nI (show jw < 2147483648 by omega), hzr]
                dsimp only
                rw [hzq]
                dsimp only
                rw [if_pos (by omega)]
                exact (if_neg (fun q => by first | exact absurd q.1 (by assumption) | exact absurd q.2 (by assumption))).symm
              · rw [mc_copy, if_pos ⟨g1, g2⟩, tn_nI (show jx < 2147483648 by omega), tn_nI (show jw < 2147483648 by omega), hzr]
                dsimp only
                rw [hzq]
                dsimp only
                rw [if_pos (by omega)]
                exact (if_neg (fun q => by first | exact absurd q.1 (by assumption) | exact absurd q.2 (by assumption))).symm
            · have k1 := c4
              refine r_aload dX4_copy_72 rfl ?_
              refine r_iload dX4_copy_74 rfl ?_
              refine r_iload dX4_copy_76 rfl ?_
              refine r_cV2F mv_X2_holds ml_X4_246 (c2_holds l hs_q hs_qi hszq jj k) dX4_copy_78 (Nat.le_of_ble_eq_true rfl) ⟨by decide, by decide⟩ ⟨by decide, by decide⟩ hs_q rfl (fun _ h => nomatch h) ?_
              try dsimp only [zrst, List.cons_append, List.nil_append]
              first | refine r_if_neB (tgt := 87) dX4_copy_81 (by decide) (fun c5 => ?_) (fun c5 => ?_) | refine r_if_neN (tgt := 87) dX4_copy_81 (by decide) (by omega) (fun c5 => ?_) (fun c5 => ?_) | refine r_if_ne (tgt := 87) dX4_copy_81 (by decide) (fun c5 => ?_) (fun c5 => ?_)
              · have k2 := c5
                obtain ⟨i9, hi1, rfl, hi2⟩ := arg_pos2 k1.1
                obtain ⟨j9, hj1, rfl, hj2⟩ := arg_pos2 k2.1
                obtain ⟨n9, hn1, rfl, hn2⟩ := arg_pos2 k1.2.1
                have k1a := k1.2.2
                have k2a := k2.2.2
                rw [hi2, hn2] at k1a
                rw [hj2, hn2] at k2a
                refine r_aload dX4_copy_87 rfl ?_
                refine r_getR fl_X4_239 dX4_copy_89 hs_r rfl ?_
                refine r_iload_n dX4_copy_92 rfl rfl ?_
                refine r_aload dX4_copy_93 rfl ?_
                refine r_getR fl_X4_239 dX4_copy_95 hs_q rfl ?_
                refine r_iload dX4_copy_98 rfl ?_
                refine r_iload dX4_copy_100 rfl ?_
                refine r_copyl ml_X4_250 dX4_copy_102 hs_ri hs_qi (nI_pos (by omega)) (nI_pos (by omega)) (nI_pos (by omega)) (by rw [nI_clamp (by omega), nI_clamp (by omega)]; omega) (by rw [nI_clamp (by omega), nI_clamp (by omega)]; omega) (by decide) (Nat.le_of_ble_eq_true rfl) ?_
                refine r_iload dX4_copy_105 rfl ?_
                refine r_iret dX4_copy_107 rfl (by decide) (by decide) ?_
                refine ⟨rfl, congrArg (fun x => some (Value.int x)) ?_, ?_⟩
                · rw [sp_copy, if_pos ⟨g1, g2⟩, tn_nI (show jx < 2147483648 by omega), tn_nI (show jw < 2147483648 by omega), hzr]
                  dsimp only
                  rw [hzq]
                  dsimp only
                  rw [if_pos (by omega)]
                  exact (if_pos ⟨k1, k2⟩).symm
                · rw [mc_copy, if_pos ⟨g1, g2⟩, tn_nI (show jx < 2147483648 by omega), tn_nI (show jw < 2147483648 by omega), hzr]
                  dsimp only
                  rw [hzq]
                  dsimp only
                  rw [if_pos (by omega), if_pos ⟨k1, k2⟩, tn_nI (show j9 < 2147483648 by omega), tn_nI (show n9 < 2147483648 by omega), tn_nI (show i9 < 2147483648 by omega)]
                  unfold fil va_cpy
                  rw [nI_clamp (by omega), nI_clamp (by omega), nI_clamp (by omega)]
              · refine r_bipush (v := (-13)) dX4_copy_84 rfl ?_
                refine r_iret dX4_copy_86 rfl (by decide) (by decide) ?_
                refine ⟨rfl, congrArg (fun x => some (Value.int x)) ?_, ?_⟩
                · rw [sp_copy, if_pos ⟨g1, g2⟩, tn_nI (show jx < 2147483648 by omega), tn_nI (show jw < 2147483648 by omega), hzr]
                  dsimp only
                  rw [hzq]
                  dsimp only
                  rw [if_pos (by omega)]
                  exact (if_neg (fun q => by first | exact absurd q.1 (by assumption) | exact absurd q.2 (by assumption))).symm
                · rw [mc_copy, if_pos ⟨g1, g2⟩, tn_nI (show jx < 2147483648 by omega), tn_nI (show jw < 2147483648 by omega), hzr]
                  dsimp only
                  rw [hzq]
                  dsimp only
                  rw [if_pos (by omega)]
                  exact (if_neg (fun q => by first | exact absurd q.1 (by assumption) | exact absurd q.2 (by assumption))).symm
          · refine r_bipush (v := (-12)) dX4_copy_58 rfl ?_
            refine r_iret dX4_copy_60 rfl (by decide) (by decide) ?_
            refine ⟨rfl, congrArg (fun x => some (Value.int x)) ?_, ?_⟩
            · rw [sp_copy, if_pos ⟨g1, g2⟩, tn_nI (show jx < 2147483648 by omega), tn_nI (show jw < 2147483648 by omega), hzr]
              dsimp only
              rw [hzq]
              exact (if_neg (by omega)).symm
            · rw [mc_copy, if_pos ⟨g1, g2⟩, tn_nI (show jx < 2147483648 by omega), tn_nI (show jw < 2147483648 by omega), hzr]
              dsimp only
              rw [hzq]
              exact (if_neg (by omega)).symm
    · have c2 : ¬ ((0 : Int) ≤ w.toInt ∧ w.toInt < (4 : Int)) := c2
      have b2 : ¬ (0 ≤ w.toInt ∧ w.toInt ≤ 3) := by omega
      refine r_iconst (v := (-1)) dX4_copy_14 rfl ?_
      refine r_iret dX4_copy_15 rfl (by decide) (by decide) ?_
      refine ⟨rfl, congrArg (fun x => some (Value.int x)) ?_, ?_⟩
      · rw [sp_copy, if_neg]
        intro h9; first | exact absurd h9 (by assumption) | exact absurd h9.1 (by assumption) | exact absurd h9.2 (by assumption) | exact absurd h9.2.1 (by assumption) | exact absurd h9.2.2 (by assumption) | exact absurd h9.2.2.1 (by assumption) | exact absurd h9.2.2.2 (by assumption) | exact absurd h9.2.2.2.1 (by assumption) | exact absurd h9.2.2.2.2 (by assumption)
      · rw [mc_copy, if_neg]
        intro h9; first | exact absurd h9 (by assumption) | exact absurd h9.1 (by assumption) | exact absurd h9.2 (by assumption) | exact absurd h9.2.1 (by assumption) | exact absurd h9.2.2 (by assumption) | exact absurd h9.2.2.1 (by assumption) | exact absurd h9.2.2.2 (by assumption) | exact absurd h9.2.2.2.1 (by assumption) | exact absurd h9.2.2.2.2 (by assumption)

set_option maxHeartbeats 4000000 in
set_option maxRecDepth 100000 in
theorem c5p_copy (l : Launch) {rw : List zC} {M : zM} {t : Nat → Nat → Nat} {z : Nat → Option (Nat × Nat × Nat)} (hR : RI t M) (hC : SHR z (t 42) M) (x i w jj k : Int32) : CT l false 2 0 0 yX5_copy cX5_copy 8 (some .int) [.ref 34, .int x, .int i, .int w, .int jj, .int k] (zSh ++ rw) M (zG (zSh ++ rw) (fun v9 M9 => v9 = some (.int (sp_copy z (t 42) x i w jj k)) ∧ M9 = mr_copy z (t 42) x i w jj k M)) := by
  refine CT.ofN (by decide) (fun _ _ => Nat.le_of_ble_eq_true rfl) ?_
  refine r_iload_n dX5_copy_0 rfl rfl ?_
  refine r_cS1F ms_X5_isSheet ml_X5_194 (c5_isSheet l _) dX5_copy_1 (Nat.le_of_ble_eq_true rfl) ⟨by decide, by decide⟩ ⟨by decide, by decide⟩ (fun _ h => nomatch h) ?_
  try dsimp only [zrst, List.cons_append, List.nil_append]
  first | refine r_if_eqB (tgt := 14) dX5_copy_4 (by decide) (fun c1 => ?_) (fun c1 => ?_) | refine r_if_eqN (tgt := 14) dX5_copy_4 (by decide) (by omega) (fun c1 => ?_) (fun c1 => ?_) | refine r_if_eq (tgt := 14) dX5_copy_4 (by decide) (fun c1 => ?_) (fun c1 => ?_)
  · have c1 : ¬ ((0 : Int) ≤ x.toInt ∧ x.toInt < (4 : Int)) := c1
    have b1 : ¬ (0 ≤ x.toInt ∧ x.toInt ≤ 3) := by omega
    refine r_iconst (v := (-1)) dX5_copy_14 rfl ?_
    refine r_iret dX5_copy_15 rfl (by decide) (by decide) ?_
    refine ⟨rfl, congrArg (fun x => some (Value.int x)) ?_, ?_⟩
    · rw [sp_copy, if_neg]
      intro h9; first | exact absurd h9 (by assumption) | exact absurd h9.1 (by assumption) | exact absurd h9.2 (by assumption) | exact absurd h9.2.1 (by assumption) | exact absurd h9.2.2 (by assumption) | exact absurd h9.2.2.1 (by assumption) | exact absurd h9.2.2.2 (by assumption) | exact absurd h9.2.2.2.1 (by assumption) | exact absurd h9.2.2.2.2 (by assumption)
    · rw [mr_copy, if_neg]
      intro h9; first | exact absurd h9 (by assumption) | exact absurd h9.1 (by assumption) | exact absurd h9.2 (by assumption) | exact absurd h9.2.1 (by assumption) | exact absurd h9.2.2 (by assumption) | exact absurd h9.2.2.1 (by assumption) | exact absurd h9.2.2.2 (by assumption) | exact absurd h9.2.2.2.1 (by assumption) | exact absurd h9.2.2.2.2 (by assumption)
  · have c1 : ((0 : Int) ≤ x.toInt ∧ x.toInt < (4 : Int)) := c1
    have g1 : 0 ≤ x.toInt ∧ x.toInt ≤ 3 := by omega
    obtain ⟨jx, hjx1, hjx2, rfl⟩ := arg_rng (a := 0) (b := 3) (show ((0 : Nat) : Int) ≤ x.toInt ∧ x.toInt ≤ ((3 : Nat) : Int) by omega)
    refine r_iload_n dX5_copy_7 rfl rfl ?_
    refine r_cS1F ms_X5_isSheet ml_X5_194 (c5_isSheet l _) dX5_copy_8 (Nat.le_of_ble_eq_true rfl) ⟨by decide, by decide⟩ ⟨by decide, by decide⟩ (fun _ h => nomatch h) ?_
    try dsimp only [zrst, List.cons_append, List.nil_append]
    first | refine r_if_neB (tgt := 16) dX5_copy_11 (by decide) (fun c2 => ?_) (fun c2 => ?_) | refine r_if_neN (tgt := 16) dX5_copy_11 (by decide) (by omega) (fun c2 => ?_) (fun c2 => ?_) | refine r_if_ne (tgt := 16) dX5_copy_11 (by decide) (fun c2 => ?_) (fun c2 => ?_)
    · have c2 : ((0 : Int) ≤ w.toInt ∧ w.toInt < (4 : Int)) := c2
      have g2 : 0 ≤ w.toInt ∧ w.toInt ≤ 3 := by omega
      obtain ⟨jw, hjw1, hjw2, rfl⟩ := arg_rng (a := 0) (b := 3) (show ((0 : Nat) : Int) ≤ w.toInt ∧ w.toInt ≤ ((3 : Nat) : Int) by omega)
      refine r_aload_n dX5_copy_16 rfl rfl ?_
      refine r_getR fl_X5_28 dX5_copy_17 sh_34 rfl ?_
      refine r_iload_n dX5_copy_20 rfl rfl ?_
      rcases hzr : z jx with _ | ⟨r, ri, L⟩
      · have hlr := (hC jx (by omega)).1 hzr
        refine r_ialdN dX5_copy_21 sh_41 (by omega) (by decide) hlr ?_
        refine r_if_lt (tgt := 34) dX5_copy_22 (by decide) (fun _ => ?_) (fun q9 => absurd (by decide) q9)
        refine r_bipush (v := (-11)) dX5_copy_34 rfl ?_
        refine r_iret dX5_copy_36 rfl (by decide) (by decide) ?_
        first
        | (refine ⟨rfl, congrArg (fun x => some (Value.int x)) ?_, ?_⟩
           · rw [sp_copy, if_pos ⟨g1, g2⟩, tn_nI (show jx < 2147483648 by omega), hzr]
             try rfl
           · rw [mr_copy, if_pos ⟨g1, g2⟩, tn_nI (show jx < 2147483648 by omega), hzr]
             try rfl)
        | (refine ⟨rfl, congrArg (fun x => some (Value.int x)) ?_, ?_⟩
           · rw [sp_copy, if_pos ⟨g1, g2⟩, tn_nI (show jx < 2147483648 by omega), tn_nI (show jw < 2147483648 by omega), hzr, hzq]
             try rfl
           · rw [mr_copy, if_pos ⟨g1, g2⟩, tn_nI (show jx < 2147483648 by omega), tn_nI (show jw < 2147483648 by omega), hzr, hzq]
             try rfl)
      · obtain ⟨hlr, hL, hszr⟩ := (hC jx (by omega)).2 _ _ _ hzr
        refine r_ialdN dX5_copy_21 sh_41 (by omega) (by decide) hlr ?_
        refine r_if_ltN (tgt := 34) dX5_copy_22 (by decide) (by omega) ?_
        refine r_aload_n dX5_copy_25 rfl rfl ?_
        refine r_getR fl_X5_28 dX5_copy_26 sh_34 rfl ?_
        refine r_iload_n dX5_copy_29 rfl rfl ?_
        rcases hzq : z jw with _ | ⟨q, qi, K⟩
        · have hlq := (hC jw (by omega)).1 hzq
          refine r_ialdN dX5_copy_30 sh_41 (by omega) (by decide) hlq ?_
          refine r_if_ge (tgt := 37) dX5_copy_31 (by decide) (fun q9 => absurd q9 (by decide)) (fun _ => ?_)
          refine r_bipush (v := (-11)) dX5_copy_34 rfl ?_
          refine r_iret dX5_copy_36 rfl (by decide) (by decide) ?_
          first
          | (refine ⟨rfl, congrArg (fun x => some (Value.int x)) ?_, ?_⟩
             · rw [sp_copy, if_pos ⟨g1, g2⟩, tn_nI (show jx < 2147483648 by omega), hzr]
               try rfl
             · rw [mr_copy, if_pos ⟨g1, g2⟩, tn_nI (show jx < 2147483648 by omega), hzr]
               try rfl)
          | (refine ⟨rfl, congrArg (fun x => some (Value.int x)) ?_, ?_⟩
             · rw [sp_copy, if_pos ⟨g1, g2⟩, tn_nI (show jx < 2147483648 by omega), tn_nI (show jw < 2147483648 by omega), hzr, hzq]
               try rfl
             · rw [mr_copy, if_pos ⟨g1, g2⟩, tn_nI (show jx < 2147483648 by omega), tn_nI (show jw < 2147483648 by omega), hzr, hzq]
               try rfl)
        · obtain ⟨hlq, hK, hszq⟩ := (hC jw (by omega)).2 _ _ _ hzq
          refine r_ialdN dX5_copy_30 sh_41 (by omega) (by decide) hlq ?_
          refine r_if_geN (tgt := 37) dX5_copy_31 (by decide) (by omega) ?_
          refine r_aload_n dX5_copy_37 rfl rfl ?_
          refine r_iload_n dX5_copy_38 rfl rfl ?_
          refine r_aload_n dX5_copy_39 rfl rfl ?_
          refine r_getR fl_X5_28 dX5_copy_40 sh_34 rfl ?_
          refine r_iload_n dX5_copy_43 rfl rfl ?_
          refine r_ialdN dX5_copy_44 sh_41 (by omega) (by decide) hlr ?_
          refine r_iload dX5_copy_45 rfl ?_
          refine r_iload dX5_copy_47 rfl ?_
          refine r_cV4F mv_X5_why ml_X5_200 (c5_why l hR (by omega) hL hK hlq hszq jj k) dX5_copy_49 (Nat.le_of_ble_eq_true rfl) ⟨by decide, by decide⟩ ⟨by decide, by decide⟩ sh_34 rfl (fun _ h => nomatch h) ?_
          try dsimp only [zrst, List.cons_append, List.nil_append]
          refine r_istore dX5_copy_52 rfl (by decide) ?_
          refine r_iload dX5_copy_54 rfl ?_
          refine r_if_ne (tgt := 76) dX5_copy_56 (by decide) (fun c9 => ?_) (fun c9 => ?_)
          · have e0 : ¬ rfz L K jj k (t 42 jw) = nI 0 := c9
            refine r_iload dX5_copy_76 rfl ?_
            refine r_istore dX5_copy_78 rfl (by decide) ?_
            refine r_iload dX5_copy_80 rfl ?_
            refine r_if_ge (tgt := 88) dX5_copy_82 (by decide) (fun q9 => absurd (rfz_nn (ge_nneg q9)) e0) (fun _ => ?_)
            refine r_iload dX5_copy_85 rfl ?_
            refine r_iret dX5_copy_87 rfl (by decide) (by decide) ?_
            first
            | (refine ⟨rfl, congrArg (fun x => some (Value.int x)) ?_, ?_⟩
               · rw [sp_copy, if_pos ⟨g1, g2⟩, tn_nI (show jx < 2147483648 by omega), tn_nI (show jw < 2147483648 by omega), hzr]
                 dsimp only
                 rw [hzq]
                 exact cp_A2 e0
               · rw [mr_copy, if_pos ⟨g1, g2⟩, tn_nI (show jx < 2147483648 by omega), tn_nI (show jw < 2147483648 by omega), hzr]
                 dsimp only
                 rw [hzq]
                 exact (cp_A e0 (fun _ => rfl)).symm)
            | (refine ⟨rfl, congrArg (fun x => some (Value.int x)) ?_, ?_⟩
               · rw [sp_copy, if_pos ⟨g1, g2⟩, tn_nI (show jx < 2147483648 by omega), tn_nI (show jw < 2147483648 by omega), hzr]
                 dsimp only
                 rw [hzq]
                 dsimp only
                 rw [if_pos eL, if_neg (fun q => k1 q.1), e2]
               · rw [mr_copy, if_pos ⟨g1, g2⟩, tn_nI (show jx < 2147483648 by omega), tn_nI (show jw < 2147483648 by omega), hzr]
                 dsimp only
                 rw [hzq]
                 dsimp only
                 rw [if_pos eL, if_neg (fun q => k1 q.1)])
          · have e0 : rfz L K jj k (t 42 jw) = nI 0 := c9
            refine r_aload_n dX5_copy_59 rfl rfl ?_
            refine r_iload_n dX5_copy_60 rfl rfl ?_
            refine r_aload_n dX5_copy_61 rfl rfl ?_
            refine r_getR fl_X5_28 dX5_copy_62 sh_34 rfl ?_
            refine r_iload_n dX5_copy_65 rfl rfl ?_
            refine r_ialdN dX5_copy_66 sh_41 (by omega) (by decide) hlr ?_
            refine r_iload_n dX5_copy_67 rfl rfl ?_
            refine r_iload dX5_copy_68 rfl ?_
            refine r_cV4F mv_X5_why ml_X5_200 (c5_why l hR (by omega) hL hL hlr hszr i k) dX5_copy_70 (Nat.le_of_ble_eq_true rfl) ⟨by decide, by decide⟩ ⟨by decide, by decide⟩ sh_34 rfl (fun _ h => nomatch h) ?_
            try dsimp only [zrst, List.cons_append, List.nil_append]
            refine r_goto (tgt := 78) dX5_copy_73 (by decide) ?_
            refine r_istore dX5_copy_78 rfl (by decide) ?_
            refine r_iload dX5_copy_80 rfl ?_
            refine r_if_ge (tgt := 88) dX5_copy_82 (by decide) (fun c9 => ?_) (fun c9 => ?_)
            · have e1 := rfz_nn (ge_nneg c9)
              obtain ⟨eL, k2⟩ := rfz0 e0
              obtain ⟨-, k1⟩ := rfz0 e1
              obtain ⟨i9, hi1, rfl, hi2⟩ := arg_pos2 k1.1
              obtain ⟨j9, hj1, rfl, hj2⟩ := arg_pos2 k2.1
              obtain ⟨n9, hn1, rfl, hn2⟩ := arg_pos2 k1.2.1
              have k1a := k1.2.2
              have k2a := k2.2.2
              rw [hi2, hn2] at k1a
              rw [hj2, hn2] at k2a
              rw [e1]
              refine r_iconst (v := nI 0) dX5_copy_88 rfl ?_
              refine r_istore dX5_copy_89 rfl (by decide) ?_
              have loop : ∀ (j k : Nat) , k ≤ n9 → n9 < k + j → RA l none (zR 2 0 0) yX5_copy cX5_copy 8 (some .int) (zG (zSh ++ rw) (fun v9 M9 => v9 = some (.int (sp_copy z (t 42) (nI jx) (nI i9) (nI jw) (nI j9) (nI n9))) ∧ M9 = mr_copy z (t 42) (nI jx) (nI i9) (nI jw) (nI j9) (nI n9) M)) 0 0 91 [some (.ref 34), some (.int (nI jx)), some (.int (nI i9)), some (.int (nI jw)), some (.int (nI j9)), some (.int (nI n9)), some (.int 0), some (.int (nI k))] [] (zSh ++ rw) (fil M 44 0 k (fun k => M.2.1 43 (24 * jx + i9 + k))) := by
                intro j
                induction j with
                | zero => intro k   hk hj; exact absurd hj (by omega)
                | succ j ih =>
                  intro k   hk hj
                  refine r_iload dX5_copy_91 rfl ?_
                  refine r_iload dX5_copy_93 rfl ?_
                  first | refine r_icmp_geN (tgt := 125) dX5_copy_95 (by decide) (by omega) (by omega) (fun c1 => ?_) (fun c1 => ?_) | refine r_icmp_ge (tgt := 125) dX5_copy_95 (by decide) (fun c1 => ?_) (fun c1 => ?_)
                  · refine r_iconst (v := nI 0) dX5_copy_125 rfl ?_
                    refine r_istore dX5_copy_126 rfl (by decide) ?_
                    have ek : k = n9 := by omega
                    rw [ek]
                    have loop2 : ∀ (j k : Nat), k ≤ n9 → n9 < k + j → RA l none (zR 2 0 0) yX5_copy cX5_copy 8 (some .int) (zG (zSh ++ rw) (fun v9 M9 => v9 = some (.int (sp_copy z (t 42) (nI jx) (nI i9) (nI jw) (nI j9) (nI n9))) ∧ M9 = mr_copy z (t 42) (nI jx) (nI i9) (nI jw) (nI j9) (nI n9) M)) 0 0 128 [some (.ref 34), some (.int (nI jx)), some (.int (nI i9)), some (.int (nI jw)), some (.int (nI j9)), some (.int (nI n9)), some (.int 0), some (.int (nI k))] [] (zSh ++ rw) (fil (fil M 44 0 n9 (fun k => M.2.1 43 (24 * jx + i9 + k))) 43 (24 * jw + j9) k (fun k => M.2.1 43 (24 * jx + i9 + k))) := by
                      intro j
                      induction j with
                      | zero => intro k   hk hj; exact absurd hj (by omega)
                      | succ j ih2 =>
                        intro k   hk hj
                        refine r_iload dX5_copy_128 rfl ?_
                        refine r_iload dX5_copy_130 rfl ?_
                        first | refine r_icmp_geN (tgt := 163) dX5_copy_132 (by decide) (by omega) (by omega) (fun c1 => ?_) (fun c1 => ?_) | refine r_icmp_ge (tgt := 163) dX5_copy_132 (by decide) (fun c1 => ?_) (fun c1 => ?_)
                        · refine r_iload dX5_copy_163 rfl ?_
                          refine r_iret dX5_copy_165 rfl (by decide) (by decide) ?_
                          have ek : k = n9 := by omega
                          subst ek
                          refine ⟨rfl, congrArg (fun x => some (Value.int x)) ?_, ?_⟩
                          · rw [sp_copy, if_pos ⟨g1, g2⟩, tn_nI (show jx < 2147483648 by omega), tn_nI (show jw < 2147483648 by omega), hzr]
                            dsimp only
                            rw [hzq]
                            dsimp only
                            rw [if_pos (by omega)]
                            exact (if_pos ⟨k1, k2⟩).symm
                          · rw [mr_copy, if_pos ⟨g1, g2⟩, tn_nI (show jx < 2147483648 by omega), tn_nI (show jw < 2147483648 by omega), hzr]
                            dsimp only
                            rw [hzq]
                            dsimp only
                            rw [if_pos (by omega), if_pos ⟨k1, k2⟩, tn_nI (show j9 < 2147483648 by omega), tn_nI (show k < 2147483648 by omega), tn_nI (show i9 < 2147483648 by omega)]
                        · refine r_aload_n dX5_copy_135 rfl rfl ?_
                          refine r_getR fl_X5_34 dX5_copy_136 sh_34 rfl ?_
                          refine r_bipush (v := nI 24) dX5_copy_139 rfl ?_
                          refine r_iload_n dX5_copy_141 rfl rfl ?_
                          first | refine r_imulN dX5_copy_142 ?_ | refine r_imul dX5_copy_142 ?_
                          refine r_iload dX5_copy_143 rfl ?_
                          first | refine r_iaddN dX5_copy_145 ?_ | refine r_iadd dX5_copy_145 ?_
                          refine r_iload dX5_copy_146 rfl ?_
                          first | refine r_iaddN dX5_copy_148 ?_ | refine r_iadd dX5_copy_148 ?_
                          refine r_aload_n dX5_copy_149 rfl rfl ?_
                          refine r_getR fl_X5_38 dX5_copy_150 sh_34 rfl ?_
                          refine r_iload dX5_copy_153 rfl ?_
                          refine r_laldN dX5_copy_155 sh_44 (by omega) (by decide) (show (fil (fil M 44 0 n9 (fun k => M.2.1 43 (24 * jx + i9 + k))) 43 (24 * jw + j9) k (fun k => M.2.1 43 (24 * jx + i9 + k))).2.1 44 k = (fun k => M.2.1 43 (24 * jx + i9 + k)) k from by rw [fil_ne 44 (by decide), fil_at, if_pos (by omega)]; rfl) ?_
                          refine r_lastN dX5_copy_156 sh_43 (by omega) (by decide) ?_
                          rw [fil_step (f := (fun k => M.2.1 43 (24 * jx + i9 + k))) (N := k) (v := (fun k => M.2.1 43 (24 * jx + i9 + k)) k) rfl]
                          first | refine r_iincN dX5_copy_157 rfl rfl (by decide) ?_ | refine r_iinc dX5_copy_157 rfl rfl rfl (by decide) ?_
                          refine r_goto (tgt := 128) dX5_copy_160 (by decide) ?_
                          exact ih2 (k + 1) (by omega) (by omega)
                    have h9 := loop2 (n9 + 1) 0 (Nat.zero_le _) (by omega)
                    rw [fil_0] at h9
                    exact h9
                  · refine r_aload_n dX5_copy_98 rfl rfl ?_
                    refine r_getR fl_X5_38 dX5_copy_99 sh_34 rfl ?_
                    refine r_iload dX5_copy_102 rfl ?_
                    refine r_aload_n dX5_copy_104 rfl rfl ?_
                    refine r_getR fl_X5_34 dX5_copy_105 sh_34 rfl ?_
                    refine r_bipush (v := nI 24) dX5_copy_108 rfl ?_
                    refine r_iload_n dX5_copy_110 rfl rfl ?_
                    first | refine r_imulN dX5_copy_111 ?_ | refine r_imul dX5_copy_111 ?_
                    refine r_iload_n dX5_copy_112 rfl rfl ?_
                    first | refine r_iaddN dX5_copy_113 ?_ | refine r_iadd dX5_copy_113 ?_
                    refine r_iload dX5_copy_114 rfl ?_
                    first | refine r_iaddN dX5_copy_116 ?_ | refine r_iadd dX5_copy_116 ?_
                    refine r_laldN dX5_copy_117 sh_43 (by omega) (by decide) (show (fil M 44 0 k (fun k => M.2.1 43 (24 * jx + i9 + k))).2.1 43 (24 * jx + i9 + k) = (fun k => M.2.1 43 (24 * jx + i9 + k)) k from by rw [fil_ne 43 (by decide)]) ?_
                    have es := fil_step (M := M) (c := 44) (a := 0) (f := (fun k => M.2.1 43 (24 * jx + i9 + k))) (N := k) (v := (fun k => M.2.1 43 (24 * jx + i9 + k)) k) rfl
                    rw [Nat.zero_add] at es
                    refine r_lastN dX5_copy_118 sh_44 (by omega) (by decide) ?_
                    rw [es]
                    first | refine r_iincN dX5_copy_119 rfl rfl (by decide) ?_ | refine r_iinc dX5_copy_119 rfl rfl rfl (by decide) ?_
                    refine r_goto (tgt := 91) dX5_copy_122 (by decide) ?_
                    exact ih (k + 1) (by omega) (by omega)
              have h9 := loop (n9 + 1) 0 (Nat.zero_le _) (by omega)
              rw [fil_0] at h9
              exact h9
            · have e1 := rfz_neg (nge_neg c9)
              obtain ⟨eL, k2⟩ := rfz0 e0
              obtain ⟨k1, e2⟩ := rfz_self e1
              refine r_iload dX5_copy_85 rfl ?_
              refine r_iret dX5_copy_87 rfl (by decide) (by decide) ?_
              first
              | (refine ⟨rfl, congrArg (fun x => some (Value.int x)) ?_, ?_⟩
                 · rw [sp_copy, if_pos ⟨g1, g2⟩, tn_nI (show jx < 2147483648 by omega), tn_nI (show jw < 2147483648 by omega), hzr]
                   dsimp only
                   rw [hzq]
                   exact cp_A2 e0
                 · rw [mr_copy, if_pos ⟨g1, g2⟩, tn_nI (show jx < 2147483648 by omega), tn_nI (show jw < 2147483648 by omega), hzr]
                   dsimp only
                   rw [hzq]
                   exact (cp_A e0 (fun _ => rfl)).symm)
              | (refine ⟨rfl, congrArg (fun x => some (Value.int x)) ?_, ?_⟩
                 · rw [sp_copy, if_pos ⟨g1, g2⟩, tn_nI (show jx < 2147483648 by omega), tn_nI (show jw < 2147483648 by omega), hzr]
                   dsimp only
                   rw [hzq]
                   dsimp only
                   rw [if_pos eL, if_neg (fun q => k1 q.1), e2]
                 · rw [mr_copy, if_pos ⟨g1, g2⟩, tn_nI (show jx < 2147483648 by omega), tn_nI (show jw < 2147483648 by omega), hzr]
                   dsimp only
                   rw [hzq]
                   dsimp only
                   rw [if_pos eL, if_neg (fun q => k1 q.1)])
    · have c2 : ¬ ((0 : Int) ≤ w.toInt ∧ w.toInt < (4 : Int)) := c2
      have b2 : ¬ (0 ≤ w.toInt ∧ w.toInt ≤ 3) := by omega
      refine r_iconst (v := (-1)) dX5_copy_14 rfl ?_
      refine r_iret dX5_copy_15 rfl (by decide) (by decide) ?_
      refine ⟨rfl, congrArg (fun x => some (Value.int x)) ?_, ?_⟩
      · rw [sp_copy, if_neg]
        intro h9; first | exact absurd h9 (by assumption) | exact absurd h9.1 (by assumption) | exact absurd h9.2 (by assumption) | exact absurd h9.2.1 (by assumption) | exact absurd h9.2.2 (by assumption) | exact absurd h9.2.2.1 (by assumption) | exact absurd h9.2.2.2 (by assumption) | exact absurd h9.2.2.2.1 (by assumption) | exact absurd h9.2.2.2.2 (by assumption)
      · rw [mr_copy, if_neg]
        intro h9; first | exact absurd h9 (by assumption) | exact absurd h9.1 (by assumption) | exact absurd h9.2 (by assumption) | exact absurd h9.2.1 (by assumption) | exact absurd h9.2.2 (by assumption) | exact absurd h9.2.2.1 (by assumption) | exact absurd h9.2.2.2 (by assumption) | exact absurd h9.2.2.2.1 (by assumption) | exact absurd h9.2.2.2.2 (by assumption)

