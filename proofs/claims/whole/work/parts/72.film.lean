set_option maxHeartbeats 4000000 in
set_option maxRecDepth 100000 in
theorem c4_film (l : Launch) {rw : List zC} {M : zM} {n u : Nat → Nat} {kn : Nat} {z : Nat → Option (Nat × Nat × Nat)} {sz : Nat → Nat} (hS : SI 1 n u kn M) (hn : NB n) (hC : SHC (zSh ++ rw) z sz M) (x mm kx s w i : Int32) : CT l false 4 0 0 yX4_film cX4_film 10 (some .int) [.ref 0, .int x, .int mm, .int kx, .int s, .int w, .int i] (zSh ++ rw) M (zG (zSh ++ rw) (fun v9 M9 => v9 = some (.int (sp_film n z sz x mm kx s w i)) ∧ M9 = mc_film n z sz x mm kx s w i M)) := by
  refine CT.ofN (by decide) (fun _ _ => Nat.le_of_ble_eq_true rfl) ?_
  have hdd := hn.2.2.2.2.2.2.2.2.2.2.2
  have hkd := hn.2.2.2.2.2.2.2.2.1
  have how := hn.2.2.2.2.2.2.2.2.2.1
  have hcu := hn.2.2.2.2.2.2.2.2.2.2.1
  have hb0 := hn.1
  have hb1 := hn.2.1
  have hb2 := hn.2.2.1
  have hb3 := hn.2.2.2.1
  have hb4 := hn.2.2.2.2.1
  have hb5 := hn.2.2.2.2.2.1
  have hb6 := hn.2.2.2.2.2.2.1
  refine r_aload_n dX4_film_0 rfl rfl ?_
  refine r_getR fl_X4_10 dX4_film_1 sh_0 rfl ?_
  refine r_iload_n dX4_film_4 rfl rfl ?_
  refine r_cV1F mv_X3_hasPerson ml_X4_53 (c3_hasPerson l hS (by omega) _) dX4_film_5 (Nat.le_of_ble_eq_true rfl) ⟨by decide, by decide⟩ ⟨by decide, by decide⟩ sh_1 rfl (fun _ h => nomatch h) ?_
  try dsimp only [zrst, List.cons_append, List.nil_append]
  first | refine r_if_eqB (tgt := 44) dX4_film_8 (by decide) (fun c1 => ?_) (fun c1 => ?_) | refine r_if_eqN (tgt := 44) dX4_film_8 (by decide) (by omega) (fun c1 => ?_) (fun c1 => ?_) | refine r_if_eq (tgt := 44) dX4_film_8 (by decide) (fun c1 => ?_) (fun c1 => ?_)
  · have b1 : ¬ (0 ≤ x.toInt ∧ x.toInt < (n 0 : Int)) := by omega
    refine r_iconst (v := (-1)) dX4_film_44 rfl ?_
    refine r_iret dX4_film_45 rfl (by decide) (by decide) ?_
    refine ⟨rfl, congrArg (fun x => some (Value.int x)) ?_, ?_⟩
    · rw [sp_film, if_neg]
      intro h9; first | exact absurd h9 (by assumption) | exact absurd h9.1 (by assumption) | exact absurd h9.2 (by assumption) | exact absurd h9.2.1 (by assumption) | exact absurd h9.2.2 (by assumption) | exact absurd h9.2.2.1 (by assumption) | exact absurd h9.2.2.2 (by assumption) | exact absurd h9.2.2.2.1 (by assumption) | exact absurd h9.2.2.2.2 (by assumption)
    · rw [mc_film, if_neg]
      intro h9; first | exact absurd h9 (by assumption) | exact absurd h9.1 (by assumption) | exact absurd h9.2 (by assumption) | exact absurd h9.2.1 (by assumption) | exact absurd h9.2.2 (by assumption) | exact absurd h9.2.2.1 (by assumption) | exact absurd h9.2.2.2 (by assumption) | exact absurd h9.2.2.2.1 (by assumption) | exact absurd h9.2.2.2.2 (by assumption)
  · have g1 : 0 ≤ x.toInt ∧ x.toInt < (n 0 : Int) := by omega
    obtain ⟨p, hp, rfl⟩ := arg_nat (n := n 0) (show 0 ≤ x.toInt ∧ x.toInt < ((n 0 : Nat) : Int) by omega)
    refine r_iload_n dX4_film_11 rfl rfl ?_
    refine r_cS1F ms_X4_isMeasure ml_X4_57 (c4_isMeasure l _) dX4_film_12 (Nat.le_of_ble_eq_true rfl) ⟨by decide, by decide⟩ ⟨by decide, by decide⟩ (fun _ h => nomatch h) ?_
    try dsimp only [zrst, List.cons_append, List.nil_append]
    first | refine r_if_eqB (tgt := 44) dX4_film_15 (by decide) (fun c2 => ?_) (fun c2 => ?_) | refine r_if_eqN (tgt := 44) dX4_film_15 (by decide) (by omega) (fun c2 => ?_) (fun c2 => ?_) | refine r_if_eq (tgt := 44) dX4_film_15 (by decide) (fun c2 => ?_) (fun c2 => ?_)
    · have c2 : ¬ ((0 : Int) ≤ mm.toInt ∧ mm.toInt < (4 : Int)) := c2
      have b2 : ¬ (0 ≤ mm.toInt ∧ mm.toInt ≤ 3) := by omega
      refine r_iconst (v := (-1)) dX4_film_44 rfl ?_
      refine r_iret dX4_film_45 rfl (by decide) (by decide) ?_
      refine ⟨rfl, congrArg (fun x => some (Value.int x)) ?_, ?_⟩
      · rw [sp_film, if_neg]
        intro h9; first | exact absurd h9 (by assumption) | exact absurd h9.1 (by assumption) | exact absurd h9.2 (by assumption) | exact absurd h9.2.1 (by assumption) | exact absurd h9.2.2 (by assumption) | exact absurd h9.2.2.1 (by assumption) | exact absurd h9.2.2.2 (by assumption) | exact absurd h9.2.2.2.1 (by assumption) | exact absurd h9.2.2.2.2 (by assumption)
      · rw [mc_film, if_neg]
        intro h9; first | exact absurd h9 (by assumption) | exact absurd h9.1 (by assumption) | exact absurd h9.2 (by assumption) | exact absurd h9.2.1 (by assumption) | exact absurd h9.2.2 (by assumption) | exact absurd h9.2.2.1 (by assumption) | exact absurd h9.2.2.2 (by assumption) | exact absurd h9.2.2.2.1 (by assumption) | exact absurd h9.2.2.2.2 (by assumption)
    · have c2 : ((0 : Int) ≤ mm.toInt ∧ mm.toInt < (4 : Int)) := c2
      have g2 : 0 ≤ mm.toInt ∧ mm.toInt ≤ 3 := by omega
      obtain ⟨m, hm1, hm2, rfl⟩ := arg_rng (a := 0) (b := 3) (show ((0 : Nat) : Int) ≤ mm.toInt ∧ mm.toInt ≤ ((3 : Nat) : Int) by omega)
      refine r_iload_n dX4_film_18 rfl rfl ?_
      refine r_iconst (v := nI 1) dX4_film_19 rfl ?_
      refine r_bipush (v := nI 24) dX4_film_20 rfl ?_
      refine r_cS3F ms_X4_within ml_X4_41 (c4_within l _ _ _) dX4_film_22 (Nat.le_of_ble_eq_true rfl) ⟨by decide, by decide⟩ ⟨by decide, by decide⟩ (fun _ h => nomatch h) ?_
      try dsimp only [zrst, List.cons_append, List.nil_append]
      first | refine r_if_eqB (tgt := 44) dX4_film_25 (by decide) (fun c3 => ?_) (fun c3 => ?_) | refine r_if_eqN (tgt := 44) dX4_film_25 (by decide) (by omega) (fun c3 => ?_) (fun c3 => ?_) | refine r_if_eq (tgt := 44) dX4_film_25 (by decide) (fun c3 => ?_) (fun c3 => ?_)
      · have c3 : ¬ ((1 : Int) ≤ kx.toInt ∧ kx.toInt ≤ (24 : Int)) := c3
        have b3 : ¬ (1 ≤ kx.toInt ∧ kx.toInt ≤ 24) := by omega
        refine r_iconst (v := (-1)) dX4_film_44 rfl ?_
        refine r_iret dX4_film_45 rfl (by decide) (by decide) ?_
        refine ⟨rfl, congrArg (fun x => some (Value.int x)) ?_, ?_⟩
        · rw [sp_film, if_neg]
          intro h9; first | exact absurd h9 (by assumption) | exact absurd h9.1 (by assumption) | exact absurd h9.2 (by assumption) | exact absurd h9.2.1 (by assumption) | exact absurd h9.2.2 (by assumption) | exact absurd h9.2.2.1 (by assumption) | exact absurd h9.2.2.2 (by assumption) | exact absurd h9.2.2.2.1 (by assumption) | exact absurd h9.2.2.2.2 (by assumption)
        · rw [mc_film, if_neg]
          intro h9; first | exact absurd h9 (by assumption) | exact absurd h9.1 (by assumption) | exact absurd h9.2 (by assumption) | exact absurd h9.2.1 (by assumption) | exact absurd h9.2.2 (by assumption) | exact absurd h9.2.2.1 (by assumption) | exact absurd h9.2.2.2 (by assumption) | exact absurd h9.2.2.2.1 (by assumption) | exact absurd h9.2.2.2.2 (by assumption)
      · have c3 : ((1 : Int) ≤ kx.toInt ∧ kx.toInt ≤ (24 : Int)) := c3
        have g3 : 1 ≤ kx.toInt ∧ kx.toInt ≤ 24 := by omega
        obtain ⟨N, hN1, hN2, rfl⟩ := arg_rng (a := 1) (b := 24) (show ((1 : Nat) : Int) ≤ kx.toInt ∧ kx.toInt ≤ ((24 : Nat) : Int) by omega)
        refine r_iload dX4_film_28 rfl ?_
        refine r_cS1F ms_X4_isSheet ml_X4_213 (c4_isSheet l _) dX4_film_30 (Nat.le_of_ble_eq_true rfl) ⟨by decide, by decide⟩ ⟨by decide, by decide⟩ (fun _ h => nomatch h) ?_
        try dsimp only [zrst, List.cons_append, List.nil_append]
        first | refine r_if_eqB (tgt := 44) dX4_film_33 (by decide) (fun c4 => ?_) (fun c4 => ?_) | refine r_if_eqN (tgt := 44) dX4_film_33 (by decide) (by omega) (fun c4 => ?_) (fun c4 => ?_) | refine r_if_eq (tgt := 44) dX4_film_33 (by decide) (fun c4 => ?_) (fun c4 => ?_)
        · have c4 : ¬ ((0 : Int) ≤ s.toInt ∧ s.toInt < (4 : Int)) := c4
          have b4 : ¬ (0 ≤ s.toInt ∧ s.toInt ≤ 3) := by omega
          refine r_iconst (v := (-1)) dX4_film_44 rfl ?_
          refine r_iret dX4_film_45 rfl (by decide) (by decide) ?_
          refine ⟨rfl, congrArg (fun x => some (Value.int x)) ?_, ?_⟩
          · rw [sp_film, if_neg]
            intro h9; first | exact absurd h9 (by assumption) | exact absurd h9.1 (by assumption) | exact absurd h9.2 (by assumption) | exact absurd h9.2.1 (by assumption) | exact absurd h9.2.2 (by assumption) | exact absurd h9.2.2.1 (by assumption) | exact absurd h9.2.2.2 (by assumption) | exact absurd h9.2.2.2.1 (by assumption) | exact absurd h9.2.2.2.2 (by assumption)
          · rw [mc_film, if_neg]
            intro h9; first | exact absurd h9 (by assumption) | exact absurd h9.1 (by assumption) | exact absurd h9.2 (by assumption) | exact absurd h9.2.1 (by assumption) | exact absurd h9.2.2 (by assumption) | exact absurd h9.2.2.1 (by assumption) | exact absurd h9.2.2.2 (by assumption) | exact absurd h9.2.2.2.1 (by assumption) | exact absurd h9.2.2.2.2 (by assumption)
        · have c4 : ((0 : Int) ≤ s.toInt ∧ s.toInt < (4 : Int)) := c4
          have g4 : 0 ≤ s.toInt ∧ s.toInt ≤ 3 := by omega
          obtain ⟨sj, hsj1, hsj2, rfl⟩ := arg_rng (a := 0) (b := 3) (show ((0 : Nat) : Int) ≤ s.toInt ∧ s.toInt ≤ ((3 : Nat) : Int) by omega)
          refine r_iload dX4_film_36 rfl ?_
          refine r_cS1F ms_X4_isLane ml_X4_216 (c4_isLane l _) dX4_film_38 (Nat.le_of_ble_eq_true rfl) ⟨by decide, by decide⟩ ⟨by decide, by decide⟩ (fun _ h => nomatch h) ?_
          try dsimp only [zrst, List.cons_append, List.nil_append]
          first | refine r_if_neB (tgt := 46) dX4_film_41 (by decide) (fun c5 => ?_) (fun c5 => ?_) | refine r_if_neN (tgt := 46) dX4_film_41 (by decide) (by omega) (fun c5 => ?_) (fun c5 => ?_) | refine r_if_ne (tgt := 46) dX4_film_41 (by decide) (fun c5 => ?_) (fun c5 => ?_)
          · have c5 : ((0 : Int) ≤ w.toInt ∧ w.toInt < (4 : Int)) := c5
            have g5 : 0 ≤ w.toInt ∧ w.toInt ≤ 3 := by omega
            obtain ⟨La, hLa1, hLa2, rfl⟩ := arg_rng (a := 0) (b := 3) (show ((0 : Nat) : Int) ≤ w.toInt ∧ w.toInt ≤ ((3 : Nat) : Int) by omega)
            refine r_aload_n dX4_film_46 rfl rfl ?_
            refine r_getR fl_X4_37 dX4_film_47 sh_0 rfl ?_
            refine r_iload dX4_film_50 rfl ?_
            rcases hzr : z sj with _ | ⟨r, ri, L⟩
            · refine r_aldN dX4_film_52 sh_33 (by omega) (by decide) ((hC sj (by omega)).1 hzr) ?_
              refine r_astoreN dX4_film_53 rfl (by decide) ?_
              refine r_aloadN dX4_film_55 rfl ?_
              refine r_ifnonnullN dX4_film_57 ?_
              refine r_bipush (v := (-11)) dX4_film_60 rfl ?_
              refine r_iret dX4_film_62 rfl (by decide) (by decide) ?_
              refine ⟨rfl, congrArg (fun x => some (Value.int x)) ?_, ?_⟩
              · rw [sp_film, if_pos ⟨g1, g2, g3, g4, g5⟩, tn_nI (show sj < 2147483648 by omega), hzr]
                try rfl
              · rw [mc_film, if_pos ⟨g1, g2, g3, g4, g5⟩, tn_nI (show sj < 2147483648 by omega), hzr]
                try rfl
            · obtain ⟨h33r, hs_r, hs_ri, ⟨hrr, hrir, hL, hszr⟩, hlaner⟩ := (hC sj (by omega)).2 _ _ _ hzr
              refine r_aldS dX4_film_52 sh_33 (by omega) (by decide) h33r ?_
              refine r_astore dX4_film_53 rfl (by decide) ?_
              refine r_aload dX4_film_55 rfl ?_
              refine r_ifnonnull (tgt := 63) dX4_film_57 (by decide) ?_
              refine r_aload dX4_film_63 rfl ?_
              refine r_iload dX4_film_65 rfl ?_
              refine r_iload dX4_film_67 rfl ?_
              refine r_iload_n dX4_film_69 rfl rfl ?_
              refine r_cV3F mv_X2_refusal ml_X4_219 (c2_refusal l hs_r hs_ri hszr i (nI N) (by omega) hL hlaner) dX4_film_70 (Nat.le_of_ble_eq_true rfl) ⟨by decide, by decide⟩ ⟨by decide, by decide⟩ hs_r rfl (fun _ h => nomatch h) ?_
              try dsimp only [zrst, List.cons_append, List.nil_append]
              refine r_istore dX4_film_73 rfl (by decide) ?_
              refine r_iload dX4_film_75 rfl ?_
              refine r_if_eq (tgt := 83) dX4_film_77 (by decide) (fun c6 => ?_) (fun c6 => ?_)
              · have e0 : rfz La L i (nI N) (sz sj) = nI 0 := c6
                obtain ⟨eL, q1, q2, q3⟩ := rfz0 e0
                rw [nI_toInt (by omega)] at q2 q3
                obtain ⟨ii, hi1, rfl, hi2⟩ := arg_pos2 q1
                rw [e0]
                refine r_iconst (v := nI 0) dX4_film_83 rfl ?_
                refine r_istore dX4_film_84 rfl (by decide) ?_
                have loop : ∀ (j k : Nat) , k ≤ N → N < k + j → RA l none (zR 4 0 0) yX4_film cX4_film 10 (some .int) (zG (zSh ++ rw) (fun v9 M9 => v9 = some (.int (sp_film n z sz (nI p) (nI m) (nI N) (nI sj) (nI La) (nI ii))) ∧ M9 = mc_film n z sz (nI p) (nI m) (nI N) (nI sj) (nI La) (nI ii) M)) 0 0 86 [some (.ref 0), some (.int (nI p)), some (.int (nI m)), some (.int (nI N)), some (.int (nI sj)), some (.int (nI La)), some (.int (nI ii)), some (.ref r), some (.int 0), some (.int (nI k))] [] (zSh ++ rw) (fil M ri ii k (fmw n p m L)) := by
                  intro j
                  induction j with
                  | zero => intro k   hk hj; exact absurd hj (by omega)
                  | succ j ih =>
                    intro k   hk hj
                    refine r_iload dX4_film_86 rfl ?_
                    refine r_iload_n dX4_film_88 rfl rfl ?_
                    first | refine r_icmp_geN (tgt := 122) dX4_film_89 (by decide) (by omega) (by omega) (fun c1 => ?_) (fun c1 => ?_) | refine r_icmp_ge (tgt := 122) dX4_film_89 (by decide) (fun c1 => ?_) (fun c1 => ?_)
                    · refine r_iload_n dX4_film_122 rfl rfl ?_
                      refine r_iret dX4_film_123 rfl (by decide) (by decide) ?_
                      have ek : k = N := by omega
                      subst ek
                      refine ⟨rfl, congrArg (fun x => some (Value.int x)) ?_, ?_⟩
                      · rw [sp_film, if_pos ⟨g1, g2, g3, g4, g5⟩, tn_nI (show sj < 2147483648 by omega), tn_nI (show La < 2147483648 by omega), hzr]
                        exact (if_pos e0).symm
                      · rw [mc_film, if_pos ⟨g1, g2, g3, g4, g5⟩, tn_nI (show sj < 2147483648 by omega), tn_nI (show La < 2147483648 by omega), hzr]
                        rw [tn_nI (show ii < 2147483648 by omega), tn_nI (show k < 2147483648 by omega), tn_nI (show p < 2147483648 by omega), tn_nI (show m < 2147483648 by omega)]
                        exact (if_pos e0).symm
                    · refine r_aload dX4_film_92 rfl ?_
                      refine r_iload dX4_film_94 rfl ?_
                      refine r_iload dX4_film_96 rfl ?_
                      first | refine r_iaddN dX4_film_98 ?_ | refine r_iadd dX4_film_98 ?_
                      refine r_aload_n dX4_film_99 rfl rfl ?_
                      refine r_getR fl_X4_10 dX4_film_100 sh_0 rfl ?_
                      refine r_iload_n dX4_film_103 rfl rfl ?_
                      refine r_iload_n dX4_film_104 rfl rfl ?_
                      refine r_iload dX4_film_105 rfl ?_
                      refine r_iconst (v := nI 1) dX4_film_107 rfl ?_
                      first | refine r_iaddN dX4_film_108 ?_ | refine r_iadd dX4_film_108 ?_
                      refine r_cV3F mv_X3_measureBehind ml_X4_77 (c3_measureBehind l (show SI 1 n u kn (fil M ri ii k (fmw n p m L)) from hS) hn hp (by omega) (by omega)) dX4_film_109 (Nat.le_of_ble_eq_true rfl) ⟨by decide, by decide⟩ ⟨by decide, by decide⟩ sh_1 rfl (fun _ h => nomatch h) ?_
                      try dsimp only [zrst, List.cons_append, List.nil_append]
                      refine r_i2l dX4_film_112 rfl ?_
                      refine r_cV2G mv_X2_put ml_X4_232 (c2_put l (M := fil M ri ii k (fmw n p m L)) hs_r hs_ri hszr _ (by omega) hL hlaner) dX4_film_113 (Nat.le_of_ble_eq_true rfl) ⟨by decide, by decide⟩ ⟨by decide, by decide⟩ hs_r rfl (fun _ h => nomatch h) (fun v M1 hq => ?_)
                      obtain ⟨rfl, rfl⟩ := hq
                      dsimp only [zrst, List.cons_append, List.nil_append]
                      rw [fil_step (f := fmw n p m L) (N := k) (v := lowl L (nI (mea n p m (n 3 + (k + 1)) (n 6))).toInt64) rfl]
                      first | refine r_iincN dX4_film_116 rfl rfl (by decide) ?_ | refine r_iinc dX4_film_116 rfl rfl rfl (by decide) ?_
                      refine r_goto (tgt := 86) dX4_film_119 (by decide) ?_
                      exact ih (k + 1) (by omega) (by omega)
                have h9 := loop (N + 1) 0 (Nat.zero_le _) (by omega)
                rw [fil_0] at h9
                exact h9
              · refine r_iload dX4_film_80 rfl ?_
                refine r_iret dX4_film_82 rfl (by decide) (by decide) ?_
                refine ⟨rfl, congrArg (fun x => some (Value.int x)) ?_, ?_⟩
                · rw [sp_film, if_pos ⟨g1, g2, g3, g4, g5⟩, tn_nI (show sj < 2147483648 by omega), tn_nI (show La < 2147483648 by omega), hzr]
                  exact (if_neg (by assumption)).symm
                · rw [mc_film, if_pos ⟨g1, g2, g3, g4, g5⟩, tn_nI (show sj < 2147483648 by omega), tn_nI (show La < 2147483648 by omega), hzr]
                  exact (if_neg (by assumption)).symm
          · have c5 : ¬ ((0 : Int) ≤ w.toInt ∧ w.toInt < (4 : Int)) := c5
            have b5 : ¬ (0 ≤ w.toInt ∧ w.toInt ≤ 3) := by omega
            refine r_iconst (v := (-1)) dX4_film_44 rfl ?_
            refine r_iret dX4_film_45 rfl (by decide) (by decide) ?_
            refine ⟨rfl, congrArg (fun x => some (Value.int x)) ?_, ?_⟩
            · rw [sp_film, if_neg]
              intro h9; first | exact absurd h9 (by assumption) | exact absurd h9.1 (by assumption) | exact absurd h9.2 (by assumption) | exact absurd h9.2.1 (by assumption) | exact absurd h9.2.2 (by assumption) | exact absurd h9.2.2.1 (by assumption) | exact absurd h9.2.2.2 (by assumption) | exact absurd h9.2.2.2.1 (by assumption) | exact absurd h9.2.2.2.2 (by assumption)
            · rw [mc_film, if_neg]
              intro h9; first | exact absurd h9 (by assumption) | exact absurd h9.1 (by assumption) | exact absurd h9.2 (by assumption) | exact absurd h9.2.1 (by assumption) | exact absurd h9.2.2 (by assumption) | exact absurd h9.2.2.1 (by assumption) | exact absurd h9.2.2.2 (by assumption) | exact absurd h9.2.2.2.1 (by assumption) | exact absurd h9.2.2.2.2 (by assumption)

set_option maxHeartbeats 4000000 in
set_option maxRecDepth 100000 in
theorem c5p_film (l : Launch) {rw : List zC} {M : zM} {t : Nat → Nat → Nat} {z : Nat → Option (Nat × Nat × Nat)} (hR : RI t M) (hC : SHR z (t 42) M) (hn : NB (t 35)) (x mm kx s w i : Int32) : CT l false 4 0 0 yX5_film cX5_film 9 (some .int) [.ref 34, .int x, .int mm, .int kx, .int s, .int w, .int i] (zSh ++ rw) M (zG (zSh ++ rw) (fun v9 M9 => v9 = some (.int (sp_film (t 35) z (t 42) x mm kx s w i)) ∧ M9 = mr_film (t 35) z (t 42) x mm kx s w i M)) := by
  refine CT.ofN (by decide) (fun _ _ => Nat.le_of_ble_eq_true rfl) ?_
  have hdd := hn.2.2.2.2.2.2.2.2.2.2.2
  have hkd := hn.2.2.2.2.2.2.2.2.1
  have how := hn.2.2.2.2.2.2.2.2.2.1
  have hcu := hn.2.2.2.2.2.2.2.2.2.2.1
  have hb0 := hn.1
  have hb1 := hn.2.1
  have hb2 := hn.2.2.1
  have hb3 := hn.2.2.2.1
  have hb4 := hn.2.2.2.2.1
  have hb5 := hn.2.2.2.2.2.1
  have hb6 := hn.2.2.2.2.2.2.1
  refine r_aload_n dX5_film_0 rfl rfl ?_
  refine r_iload_n dX5_film_1 rfl rfl ?_
  refine r_cV1F mv_X5_isPerson ml_X5_93 (c5_isPerson l hR (by omega) _) dX5_film_2 (Nat.le_of_ble_eq_true rfl) ⟨by decide, by decide⟩ ⟨by decide, by decide⟩ sh_34 rfl (fun _ h => nomatch h) ?_
  try dsimp only [zrst, List.cons_append, List.nil_append]
  first | refine r_if_eqB (tgt := 43) dX5_film_5 (by decide) (fun c1 => ?_) (fun c1 => ?_) | refine r_if_eqN (tgt := 43) dX5_film_5 (by decide) (by omega) (fun c1 => ?_) (fun c1 => ?_) | refine r_if_eq (tgt := 43) dX5_film_5 (by decide) (fun c1 => ?_) (fun c1 => ?_)
  · have b1 : ¬ (0 ≤ x.toInt ∧ x.toInt < (t 35 0 : Int)) := by omega
    refine r_iconst (v := (-1)) dX5_film_43 rfl ?_
    refine r_iret dX5_film_44 rfl (by decide) (by decide) ?_
    refine ⟨rfl, congrArg (fun x => some (Value.int x)) ?_, ?_⟩
    · rw [sp_film, if_neg]
      intro h9; first | exact absurd h9 (by assumption) | exact absurd h9.1 (by assumption) | exact absurd h9.2 (by assumption) | exact absurd h9.2.1 (by assumption) | exact absurd h9.2.2 (by assumption) | exact absurd h9.2.2.1 (by assumption) | exact absurd h9.2.2.2 (by assumption) | exact absurd h9.2.2.2.1 (by assumption) | exact absurd h9.2.2.2.2 (by assumption)
    · rw [mr_film, if_neg]
      intro h9; first | exact absurd h9 (by assumption) | exact absurd h9.1 (by assumption) | exact absurd h9.2 (by assumption) | exact absurd h9.2.1 (by assumption) | exact absurd h9.2.2 (by assumption) | exact absurd h9.2.2.1 (by assumption) | exact absurd h9.2.2.2 (by assumption) | exact absurd h9.2.2.2.1 (by assumption) | exact absurd h9.2.2.2.2 (by assumption)
  · have g1 : 0 ≤ x.toInt ∧ x.toInt < (t 35 0 : Int) := by omega
    obtain ⟨p, hp, rfl⟩ := arg_nat (n := t 35 0) (show 0 ≤ x.toInt ∧ x.toInt < ((t 35 0 : Nat) : Int) by omega)
    refine r_iload_n dX5_film_8 rfl rfl ?_
    refine r_cS1F ms_X5_isMeasure ml_X5_97 (c5_isMeasure l _) dX5_film_9 (Nat.le_of_ble_eq_true rfl) ⟨by decide, by decide⟩ ⟨by decide, by decide⟩ (fun _ h => nomatch h) ?_
    try dsimp only [zrst, List.cons_append, List.nil_append]
    first | refine r_if_eqB (tgt := 43) dX5_film_12 (by decide) (fun c2 => ?_) (fun c2 => ?_) | refine r_if_eqN (tgt := 43) dX5_film_12 (by decide) (by omega) (fun c2 => ?_) (fun c2 => ?_) | refine r_if_eq (tgt := 43) dX5_film_12 (by decide) (fun c2 => ?_) (fun c2 => ?_)
    · have c2 : ¬ ((0 : Int) ≤ mm.toInt ∧ mm.toInt < (4 : Int)) := c2
      have b2 : ¬ (0 ≤ mm.toInt ∧ mm.toInt ≤ 3) := by omega
      refine r_iconst (v := (-1)) dX5_film_43 rfl ?_
      refine r_iret dX5_film_44 rfl (by decide) (by decide) ?_
      refine ⟨rfl, congrArg (fun x => some (Value.int x)) ?_, ?_⟩
      · rw [sp_film, if_neg]
        intro h9; first | exact absurd h9 (by assumption) | exact absurd h9.1 (by assumption) | exact absurd h9.2 (by assumption) | exact absurd h9.2.1 (by assumption) | exact absurd h9.2.2 (by assumption) | exact absurd h9.2.2.1 (by assumption) | exact absurd h9.2.2.2 (by assumption) | exact absurd h9.2.2.2.1 (by assumption) | exact absurd h9.2.2.2.2 (by assumption)
      · rw [mr_film, if_neg]
        intro h9; first | exact absurd h9 (by assumption) | exact absurd h9.1 (by assumption) | exact absurd h9.2 (by assumption) | exact absurd h9.2.1 (by assumption) | exact absurd h9.2.2 (by assumption) | exact absurd h9.2.2.1 (by assumption) | exact absurd h9.2.2.2 (by assumption) | exact absurd h9.2.2.2.1 (by assumption) | exact absurd h9.2.2.2.2 (by assumption)
    · have c2 : ((0 : Int) ≤ mm.toInt ∧ mm.toInt < (4 : Int)) := c2
      have g2 : 0 ≤ mm.toInt ∧ mm.toInt ≤ 3 := by omega
      obtain ⟨m, hm1, hm2, rfl⟩ := arg_rng (a := 0) (b := 3) (show ((0 : Nat) : Int) ≤ mm.toInt ∧ mm.toInt ≤ ((3 : Nat) : Int) by omega)
      refine r_iload_n dX5_film_15 rfl rfl ?_
      refine r_i2l dX5_film_16 rfl ?_
      refine r_lconst (v := 1) dX5_film_17 rfl ?_
      refine r_ldc2 kc_X5_203 dX5_film_18 ?_
      refine r_cS3F ms_X5_in ml_X5_41 (c5_in l _ _ _) dX5_film_21 (Nat.le_of_ble_eq_true rfl) ⟨by decide, by decide⟩ ⟨by decide, by decide⟩ (fun _ h => nomatch h) ?_
      try dsimp only [zrst, List.cons_append, List.nil_append]
      first | refine r_if_eqB (tgt := 43) dX5_film_24 (by decide) (fun c3 => ?_) (fun c3 => ?_) | refine r_if_eqN (tgt := 43) dX5_film_24 (by decide) (by omega) (fun c3 => ?_) (fun c3 => ?_) | refine r_if_eq (tgt := 43) dX5_film_24 (by decide) (fun c3 => ?_) (fun c3 => ?_)
      · rw [i64_of32] at c3
        have c3 : ¬ ((1 : Int) ≤ kx.toInt ∧ kx.toInt ≤ (24 : Int)) := c3
        have b3 : ¬ (1 ≤ kx.toInt ∧ kx.toInt ≤ 24) := by omega
        refine r_iconst (v := (-1)) dX5_film_43 rfl ?_
        refine r_iret dX5_film_44 rfl (by decide) (by decide) ?_
        refine ⟨rfl, congrArg (fun x => some (Value.int x)) ?_, ?_⟩
        · rw [sp_film, if_neg]
          intro h9; first | exact absurd h9 (by assumption) | exact absurd h9.1 (by assumption) | exact absurd h9.2 (by assumption) | exact absurd h9.2.1 (by assumption) | exact absurd h9.2.2 (by assumption) | exact absurd h9.2.2.1 (by assumption) | exact absurd h9.2.2.2 (by assumption) | exact absurd h9.2.2.2.1 (by assumption) | exact absurd h9.2.2.2.2 (by assumption)
        · rw [mr_film, if_neg]
          intro h9; first | exact absurd h9 (by assumption) | exact absurd h9.1 (by assumption) | exact absurd h9.2 (by assumption) | exact absurd h9.2.1 (by assumption) | exact absurd h9.2.2 (by assumption) | exact absurd h9.2.2.1 (by assumption) | exact absurd h9.2.2.2 (by assumption) | exact absurd h9.2.2.2.1 (by assumption) | exact absurd h9.2.2.2.2 (by assumption)
      · rw [i64_of32] at c3
        have c3 : ((1 : Int) ≤ kx.toInt ∧ kx.toInt ≤ (24 : Int)) := c3
        have g3 : 1 ≤ kx.toInt ∧ kx.toInt ≤ 24 := by omega
        obtain ⟨N, hN1, hN2, rfl⟩ := arg_rng (a := 1) (b := 24) (show ((1 : Nat) : Int) ≤ kx.toInt ∧ kx.toInt ≤ ((24 : Nat) : Int) by omega)
        refine r_iload dX5_film_27 rfl ?_
        refine r_cS1F ms_X5_isSheet ml_X5_194 (c5_isSheet l _) dX5_film_29 (Nat.le_of_ble_eq_true rfl) ⟨by decide, by decide⟩ ⟨by decide, by decide⟩ (fun _ h => nomatch h) ?_
        try dsimp only [zrst, List.cons_append, List.nil_append]
        first | refine r_if_eqB (tgt := 43) dX5_film_32 (by decide) (fun c4 => ?_) (fun c4 => ?_) | refine r_if_eqN (tgt := 43) dX5_film_32 (by decide) (by omega) (fun c4 => ?_) (fun c4 => ?_) | refine r_if_eq (tgt := 43) dX5_film_32 (by decide) (fun c4 => ?_) (fun c4 => ?_)
        · have c4 : ¬ ((0 : Int) ≤ s.toInt ∧ s.toInt < (4 : Int)) := c4
          have b4 : ¬ (0 ≤ s.toInt ∧ s.toInt ≤ 3) := by omega
          refine r_iconst (v := (-1)) dX5_film_43 rfl ?_
          refine r_iret dX5_film_44 rfl (by decide) (by decide) ?_
          refine ⟨rfl, congrArg (fun x => some (Value.int x)) ?_, ?_⟩
          · rw [sp_film, if_neg]
            intro h9; first | exact absurd h9 (by assumption) | exact absurd h9.1 (by assumption) | exact absurd h9.2 (by assumption) | exact absurd h9.2.1 (by assumption) | exact absurd h9.2.2 (by assumption) | exact absurd h9.2.2.1 (by assumption) | exact absurd h9.2.2.2 (by assumption) | exact absurd h9.2.2.2.1 (by assumption) | exact absurd h9.2.2.2.2 (by assumption)
          · rw [mr_film, if_neg]
            intro h9; first | exact absurd h9 (by assumption) | exact absurd h9.1 (by assumption) | exact absurd h9.2 (by assumption) | exact absurd h9.2.1 (by assumption) | exact absurd h9.2.2 (by assumption) | exact absurd h9.2.2.1 (by assumption) | exact absurd h9.2.2.2 (by assumption) | exact absurd h9.2.2.2.1 (by assumption) | exact absurd h9.2.2.2.2 (by assumption)
        · have c4 : ((0 : Int) ≤ s.toInt ∧ s.toInt < (4 : Int)) := c4
          have g4 : 0 ≤ s.toInt ∧ s.toInt ≤ 3 := by omega
          obtain ⟨sj, hsj1, hsj2, rfl⟩ := arg_rng (a := 0) (b := 3) (show ((0 : Nat) : Int) ≤ s.toInt ∧ s.toInt ≤ ((3 : Nat) : Int) by omega)
          refine r_iload dX5_film_35 rfl ?_
          refine r_cS1F ms_X5_isLane ml_X5_197 (c5_isLane l _) dX5_film_37 (Nat.le_of_ble_eq_true rfl) ⟨by decide, by decide⟩ ⟨by decide, by decide⟩ (fun _ h => nomatch h) ?_
          try dsimp only [zrst, List.cons_append, List.nil_append]
          first | refine r_if_neB (tgt := 45) dX5_film_40 (by decide) (fun c5 => ?_) (fun c5 => ?_) | refine r_if_neN (tgt := 45) dX5_film_40 (by decide) (by omega) (fun c5 => ?_) (fun c5 => ?_) | refine r_if_ne (tgt := 45) dX5_film_40 (by decide) (fun c5 => ?_) (fun c5 => ?_)
          · have c5 : ((0 : Int) ≤ w.toInt ∧ w.toInt < (4 : Int)) := c5
            have g5 : 0 ≤ w.toInt ∧ w.toInt ≤ 3 := by omega
            obtain ⟨La, hLa1, hLa2, rfl⟩ := arg_rng (a := 0) (b := 3) (show ((0 : Nat) : Int) ≤ w.toInt ∧ w.toInt ≤ ((3 : Nat) : Int) by omega)
            refine r_aload_n dX5_film_45 rfl rfl ?_
            refine r_iload dX5_film_46 rfl ?_
            refine r_iload dX5_film_48 rfl ?_
            refine r_iload dX5_film_50 rfl ?_
            refine r_iload_n dX5_film_52 rfl rfl ?_
            rcases hzr : z sj with _ | ⟨r, ri, L⟩
            · have hlr := (hC sj (by omega)).1 hzr
              refine r_cV4F mv_X5_why ml_X5_200 (c5_whyN l hR (by omega) hlr _ _ _) dX5_film_53 (Nat.le_of_ble_eq_true rfl) ⟨by decide, by decide⟩ ⟨by decide, by decide⟩ sh_34 rfl (fun _ h => nomatch h) ?_
              dsimp only [zrst, List.cons_append, List.nil_append]
              refine r_istore dX5_film_56 rfl (by decide) ?_
              refine r_iload dX5_film_58 rfl ?_
              refine r_if_ge (tgt := 66) dX5_film_60 (by decide) (fun q9 => absurd q9 (by decide)) (fun _ => ?_)
              refine r_iload dX5_film_63 rfl ?_
              refine r_iret dX5_film_65 rfl (by decide) (by decide) ?_
              first
              | (refine ⟨rfl, congrArg (fun x => some (Value.int x)) ?_, ?_⟩
                 · rw [sp_film, if_pos ⟨g1, g2, g3, g4, g5⟩, tn_nI (show sj < 2147483648 by omega), hzr]
                   try rfl
                 · rw [mr_film, if_pos ⟨g1, g2, g3, g4, g5⟩, tn_nI (show sj < 2147483648 by omega), hzr]
                   try rfl)
              | (refine ⟨rfl, congrArg (fun x => some (Value.int x)) ?_, ?_⟩
                 · rw [sp_film, if_pos ⟨g1, g2, g3, g4, g5⟩, tn_nI (show sj < 2147483648 by omega), tn_nI (show La < 2147483648 by omega), hzr]
                   exact (if_neg e0).symm
                 · rw [mr_film, if_pos ⟨g1, g2, g3, g4, g5⟩, tn_nI (show sj < 2147483648 by omega), tn_nI (show La < 2147483648 by omega), hzr]
                   exact (if_neg e0).symm)
            · obtain ⟨hlr, hL, hszr⟩ := (hC sj (by omega)).2 _ _ _ hzr
              refine r_cV4F mv_X5_why ml_X5_200 (c5_why l hR (by omega) (by omega) hL hlr hszr _ _) dX5_film_53 (Nat.le_of_ble_eq_true rfl) ⟨by decide, by decide⟩ ⟨by decide, by decide⟩ sh_34 rfl (fun _ h => nomatch h) ?_
              dsimp only [zrst, List.cons_append, List.nil_append]
              refine r_istore dX5_film_56 rfl (by decide) ?_
              refine r_iload dX5_film_58 rfl ?_
              refine r_if_ge (tgt := 66) dX5_film_60 (by decide) (fun c9 => ?_) (fun c9 => ?_)
              · have e0 := rfz_nn (ge_nneg c9)
                obtain ⟨eL, q1, q2, q3⟩ := rfz0 e0
                rw [nI_toInt (by omega)] at q2 q3
                obtain ⟨ii, hi1, rfl, hi2⟩ := arg_pos2 q1
                rw [e0]
                refine r_iconst (v := nI 0) dX5_film_66 rfl ?_
                refine r_istore dX5_film_67 rfl (by decide) ?_
                have loop : ∀ (j k : Nat) , k ≤ N → N < k + j → RA l none (zR 4 0 0) yX5_film cX5_film 9 (some .int) (zG (zSh ++ rw) (fun v9 M9 => v9 = some (.int (sp_film (t 35) z (t 42) (nI p) (nI m) (nI N) (nI sj) (nI La) (nI ii))) ∧ M9 = mr_film (t 35) z (t 42) (nI p) (nI m) (nI N) (nI sj) (nI La) (nI ii) M)) 0 0 69 [some (.ref 34), some (.int (nI p)), some (.int (nI m)), some (.int (nI N)), some (.int (nI sj)), some (.int (nI La)), some (.int (nI ii)), some (.int 0), some (.int (nI k))] [] (zSh ++ rw) (fil M 43 (24 * sj + ii) k (fmw (t 35) p m La)) := by
                  intro j
                  induction j with
                  | zero => intro k   hk hj; exact absurd hj (by omega)
                  | succ j ih =>
                    intro k   hk hj
                    refine r_iload dX5_film_69 rfl ?_
                    refine r_iload_n dX5_film_71 rfl rfl ?_
                    first | refine r_icmp_geN (tgt := 127) dX5_film_72 (by decide) (by omega) (by omega) (fun c1 => ?_) (fun c1 => ?_) | refine r_icmp_ge (tgt := 127) dX5_film_72 (by decide) (fun c1 => ?_) (fun c1 => ?_)
                    · refine r_iload_n dX5_film_127 rfl rfl ?_
                      refine r_iret dX5_film_128 rfl (by decide) (by decide) ?_
                      have ek : k = N := by omega
                      subst ek
                      refine ⟨rfl, congrArg (fun x => some (Value.int x)) ?_, ?_⟩
                      · rw [sp_film, if_pos ⟨g1, g2, g3, g4, g5⟩, tn_nI (show sj < 2147483648 by omega), tn_nI (show La < 2147483648 by omega), hzr]
                        exact (if_pos e0).symm
                      · rw [mr_film, if_pos ⟨g1, g2, g3, g4, g5⟩, tn_nI (show sj < 2147483648 by omega), tn_nI (show La < 2147483648 by omega), hzr]
                        rw [tn_nI (show ii < 2147483648 by omega), tn_nI (show k < 2147483648 by omega), tn_nI (show p < 2147483648 by omega), tn_nI (show m < 2147483648 by omega), ← eL]
                        exact (if_pos (eL ▸ e0)).symm
                    · refine r_aload_n dX5_film_75 rfl rfl ?_
                      refine r_getR fl_X5_34 dX5_film_76 sh_34 rfl ?_
                      refine r_bipush (v := nI 24) dX5_film_79 rfl ?_
                      refine r_iload dX5_film_81 rfl ?_
                      first | refine r_imulN dX5_film_83 ?_ | refine r_imul dX5_film_83 ?_
                      refine r_iload dX5_film_84 rfl ?_
                      first | refine r_iaddN dX5_film_86 ?_ | refine r_iadd dX5_film_86 ?_
                      refine r_iload dX5_film_87 rfl ?_
                      first | refine r_iaddN dX5_film_89 ?_ | refine r_iadd dX5_film_89 ?_
                      refine r_iload dX5_film_90 rfl ?_
                      refine r_aload_n dX5_film_92 rfl rfl ?_
                      refine r_iload_n dX5_film_93 rfl rfl ?_
                      refine r_iload_n dX5_film_94 rfl rfl ?_
                      refine r_aload_n dX5_film_95 rfl rfl ?_
                      refine r_getR fl_X5_7 dX5_film_96 sh_34 rfl ?_
                      refine r_iconst (v := nI 3) dX5_film_99 rfl ?_
                      refine r_ialdN dX5_film_100 sh_35 (by omega) (by decide) (hR.a35 _) ?_
                      refine r_iload dX5_film_101 rfl ?_
                      first | refine r_iaddN dX5_film_103 ?_ | refine r_iadd dX5_film_103 ?_
                      refine r_iconst (v := nI 1) dX5_film_104 rfl ?_
                      first | refine r_iaddN dX5_film_105 ?_ | refine r_iadd dX5_film_105 ?_
                      refine r_aload_n dX5_film_106 rfl rfl ?_
                      refine r_getR fl_X5_7 dX5_film_107 sh_34 rfl ?_
                      refine r_bipush (v := nI 6) dX5_film_110 rfl ?_
                      refine r_ialdN dX5_film_112 sh_35 (by omega) (by decide) (hR.a35 _) ?_
                      refine r_cV4F mv_X5_measure ml_X5_70 (c5_measure l (show RI t (fil M 43 (24 * sj + ii) k (fmw (t 35) p m La)) from hR) hn hp (by omega) (by omega) (by omega) (by omega)) dX5_film_113 (Nat.le_of_ble_eq_true rfl) ⟨by decide, by decide⟩ ⟨by decide, by decide⟩ sh_34 rfl (fun _ h => nomatch h) ?_
                      try dsimp only [zrst, List.cons_append, List.nil_append]
                      refine r_i2l dX5_film_116 rfl ?_
                      refine r_cS2F ms_X5_lowest ml_X5_205 (c5_lowest l _ (by omega)) dX5_film_117 (Nat.le_of_ble_eq_true rfl) ⟨by decide, by decide⟩ ⟨by decide, by decide⟩ (fun _ h => nomatch h) ?_
                      try dsimp only [zrst, List.cons_append, List.nil_append]
                      refine r_lastN dX5_film_120 sh_43 (by omega) (by decide) ?_
                      rw [fil_step (f := fmw (t 35) p m La) (N := k) (v := lowl La (nI (mea (t 35) p m (t 35 3 + k + 1) (t 35 6))).toInt64) rfl]
                      first | refine r_iincN dX5_film_121 rfl rfl (by decide) ?_ | refine r_iinc dX5_film_121 rfl rfl rfl (by decide) ?_
                      refine r_goto (tgt := 69) dX5_film_124 (by decide) ?_
                      exact ih (k + 1) (by omega) (by omega)
                have h9 := loop (N + 1) 0 (Nat.zero_le _) (by omega)
                rw [fil_0] at h9
                exact h9
              · have e0 := rfz_neg (nge_neg c9)
                refine r_iload dX5_film_63 rfl ?_
                refine r_iret dX5_film_65 rfl (by decide) (by decide) ?_
                first
                | (refine ⟨rfl, congrArg (fun x => some (Value.int x)) ?_, ?_⟩
                   · rw [sp_film, if_pos ⟨g1, g2, g3, g4, g5⟩, tn_nI (show sj < 2147483648 by omega), hzr]
                     try rfl
                   · rw [mr_film, if_pos ⟨g1, g2, g3, g4, g5⟩, tn_nI (show sj < 2147483648 by omega), hzr]
                     try rfl)
                | (refine ⟨rfl, congrArg (fun x => some (Value.int x)) ?_, ?_⟩
                   · rw [sp_film, if_pos ⟨g1, g2, g3, g4, g5⟩, tn_nI (show sj < 2147483648 by omega), tn_nI (show La < 2147483648 by omega), hzr]
                     exact (if_neg e0).symm
                   · rw [mr_film, if_pos ⟨g1, g2, g3, g4, g5⟩, tn_nI (show sj < 2147483648 by omega), tn_nI (show La < 2147483648 by omega), hzr]
                     exact (if_neg e0).symm)
          · have c5 : ¬ ((0 : Int) ≤ w.toInt ∧ w.toInt < (4 : Int)) := c5
            have b5 : ¬ (0 ≤ w.toInt ∧ w.toInt ≤ 3) := by omega
            refine r_iconst (v := (-1)) dX5_film_43 rfl ?_
            refine r_iret dX5_film_44 rfl (by decide) (by decide) ?_
            refine ⟨rfl, congrArg (fun x => some (Value.int x)) ?_, ?_⟩
            · rw [sp_film, if_neg]
              intro h9; first | exact absurd h9 (by assumption) | exact absurd h9.1 (by assumption) | exact absurd h9.2 (by assumption) | exact absurd h9.2.1 (by assumption) | exact absurd h9.2.2 (by assumption) | exact absurd h9.2.2.1 (by assumption) | exact absurd h9.2.2.2 (by assumption) | exact absurd h9.2.2.2.1 (by assumption) | exact absurd h9.2.2.2.2 (by assumption)
            · rw [mr_film, if_neg]
              intro h9; first | exact absurd h9 (by assumption) | exact absurd h9.1 (by assumption) | exact absurd h9.2 (by assumption) | exact absurd h9.2.1 (by assumption) | exact absurd h9.2.2 (by assumption) | exact absurd h9.2.2.1 (by assumption) | exact absurd h9.2.2.2 (by assumption) | exact absurd h9.2.2.2.1 (by assumption) | exact absurd h9.2.2.2.2 (by assumption)

