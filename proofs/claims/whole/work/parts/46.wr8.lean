set_option maxHeartbeats 4000000 in
set_option maxRecDepth 100000 in
theorem c5p_drift (l : Launch) {rw : List zC} {M0 : zM} {t : Nat → Nat → Nat} (hR : RI t M0) (hn : NB (t 35)) (x : Int32) (hkn : t 34 7 ≤ 8) : CT l false 2 0 0 yX5_drift cX5_drift 5 (some .int) [.ref 34, .int x] (zSh ++ rw) M0 (zG (zSh ++ rw) (zQR (sp_drift t x) (st_drift t x) M0)) := by
  refine CT.ofN (by decide) (fun _ _ => Nat.le_of_ble_eq_true rfl) ?_
  have hdd := hn.2.2.2.2.2.2.2.2.2.2.2
  have hkd := hn.2.2.2.2.2.2.2.2.1
  have how := hn.2.2.2.2.2.2.2.2.2.1
  have hcu := hn.2.2.2.2.2.2.2.2.2.2.1
  have hb0 := hn.1
  have hb1 := hn.2.1
  have hb2 := hn.2.2.1
  have hb3 := hn.2.2.2.1
  have hb4 := hn.2.2.2.2.1
  have hb5 := hn.2.2.2.2.2.1
  have hb6 := hn.2.2.2.2.2.2.1
  have hF : zfr PR M0 M0 := zfr.rf
  refine r_iload_n dX5_drift_0 rfl rfl ?_
  refine r_i2l dX5_drift_1 rfl ?_
  refine r_lconst (v := 1) dX5_drift_2 rfl ?_
  refine r_ldc2 kc_X5_87 dX5_drift_3 ?_
  refine r_cS3F ms_X5_in ml_X5_41 (c5_in l _ _ _) dX5_drift_6 (Nat.le_of_ble_eq_true rfl) ⟨by decide, by decide⟩ ⟨by decide, by decide⟩ (fun _ h => nomatch h) ?_
  try dsimp only [zrst, List.cons_append, List.nil_append]
  first | refine r_if_neB (tgt := 14) dX5_drift_9 (by decide) (fun c1 => ?_) (fun c1 => ?_) | refine r_if_neN (tgt := 14) dX5_drift_9 (by decide) (by omega) (fun c1 => ?_) (fun c1 => ?_) | refine r_if_ne (tgt := 14) dX5_drift_9 (by decide) (fun c1 => ?_) (fun c1 => ?_)
  · rw [i64_of32] at c1
    have c1 : ((1 : Int) ≤ x.toInt ∧ x.toInt ≤ (99 : Int)) := c1
    have g1 : 1 ≤ x.toInt ∧ x.toInt ≤ 99 := by omega
    obtain ⟨K, hK1, hK2, rfl⟩ := arg_rng (a := 1) (b := 99) (show ((1 : Nat) : Int) ≤ x.toInt ∧ x.toInt ≤ ((99 : Nat) : Int) by omega)
    refine r_aload_n dX5_drift_14 rfl rfl ?_
    refine r_getR fl_X5_7 dX5_drift_15 sh_34 rfl ?_
    refine r_iconst (v := nI 3) dX5_drift_18 rfl ?_
    refine r_ialdN dX5_drift_19 sh_35 (by omega) (by decide) (hR.a35 _) ?_
    refine r_iload_n dX5_drift_20 rfl rfl ?_
    first | refine r_iaddN dX5_drift_21 ?_ | refine r_iadd dX5_drift_21 ?_
    refine r_sipush (v := nI 9999) dX5_drift_22 rfl ?_
    first | refine r_icmp_leN (tgt := 31) dX5_drift_25 (by decide) (by omega) (by omega) (fun c2 => ?_) (fun c2 => ?_) | refine r_icmp_le (tgt := 31) dX5_drift_25 (by decide) (fun c2 => ?_) (fun c2 => ?_)
    · refine r_iconst (v := nI 0) dX5_drift_31 rfl ?_
      refine r_istore_n dX5_drift_32 rfl rfl (by decide) ?_
      refine r_iconst (v := nI 0) dX5_drift_33 rfl ?_
      refine r_istore_n dX5_drift_34 rfl rfl (by decide) ?_
      have loop : ∀ (j k : Nat) (T : Nat → Nat → Nat) (M : zM) (hT : T = drk t k) (hR : RI T M) (hF : zfr PR M0 M), k ≤ K → K < k + j → RA l none (zR 2 0 0) yX5_drift cX5_drift 5 (some .int) (zG (zSh ++ rw) (zQR (sp_drift t (nI K)) (st_drift t (nI K)) M0)) 0 0 35 [some (.ref 34), some (.int (nI K)), some (.int (nI (T 35 2 - t 35 2))), some (.int (nI k)), none] [] (zSh ++ rw) M := by
        intro j
        induction j with
        | zero => intro k T M hT hR hF hk hj; exact absurd hj (by omega)
        | succ j ih =>
          intro k T M hT hR hF hk hj
          refine r_iload_n dX5_drift_35 rfl rfl ?_
          refine r_iload_n dX5_drift_36 rfl rfl ?_
          first | refine r_icmp_geN (tgt := 173) dX5_drift_37 (by decide) (by omega) (by omega) (fun c1 => ?_) (fun c1 => ?_) | refine r_icmp_ge (tgt := 173) dX5_drift_37 (by decide) (fun c1 => ?_) (fun c1 => ?_)
          · refine r_iload_n dX5_drift_173 rfl rfl ?_
            refine r_iret dX5_drift_174 rfl (by decide) (by decide) ?_
            have eK : k = K := by omega
            subst eK
            refine ⟨rfl, congrArg (fun x => some (Value.int x)) ?_, ?_, hF⟩
            · rw [sp_drift, if_pos g1, tn_nI (show k < 2147483648 by omega), if_neg (by omega), hT]
            · rw [st_drift, if_pos g1, tn_nI (show k < 2147483648 by omega), if_neg (by omega), ← hT]
              exact hR
          · have hnT : NB (T 35) := by rw [hT]; exact NB_drk hn k (by omega)
            have hkT : T 34 7 ≤ 8 := by rw [hT]; exact drk_kn hkn k
            have hT3 : T 35 3 = t 35 3 + k := by rw [hT]; exact drk_3 t k
            have hT2 : t 35 2 ≤ T 35 2 := by rw [hT]; exact drk_2 t k
            have hdw := dwr_le T
            have q0 := hnT.1
            have q2 := hnT.2.2.1
            have q7 := hnT.2.2.2.2.2.2.2.1
            refine r_aload_n dX5_drift_40 rfl rfl ?_
            refine r_cV0G mv_X5_notes ml_X5_170 (c5_notes l hR hkT) dX5_drift_41 (Nat.le_of_ble_eq_true rfl) ⟨by decide, by decide⟩ ⟨by decide, by decide⟩ sh_34 rfl (fun _ h => nomatch h) (fun v M1 hq => ?_)
            obtain ⟨rfl, hR, hF1⟩ := hq
            have hF := hF.trans hF1
            dsimp only [zrst, List.cons_append, List.nil_append]
            refine r_aload_n dX5_drift_44 rfl rfl ?_
            refine r_getR fl_X5_7 dX5_drift_45 sh_34 rfl ?_
            refine r_bipush (v := nI 7) dX5_drift_48 rfl ?_
            refine r_aload_n dX5_drift_50 rfl rfl ?_
            refine r_getR fl_X5_7 dX5_drift_51 sh_34 rfl ?_
            refine r_bipush (v := nI 7) dX5_drift_54 rfl ?_
            refine r_ialdN dX5_drift_56 sh_35 (by omega) (by decide) (hR.a35 _) ?_
            refine r_top (v' := .int (nI (T 35 7))) (congrArg (fun z => Value.int (nI z)) (by rw [sn_35])) ?_
            refine r_i2l dX5_drift_57 rfl ?_
            refine r_top (v' := .long (lN (T 35 7))) (congrArg Value.long (nI_l (by omega))) ?_
            refine r_ldc2 kc_X5_176 dX5_drift_58 ?_
            refine r_top (v' := .long (lN 1103515245)) rfl ?_
            refine r_lmul dX5_drift_61 ?_
            rw [lN_mul]
            refine r_ldc2 kc_X5_178 dX5_drift_62 ?_
            refine r_top (v' := .long (lN 12345)) rfl ?_
            refine r_ladd dX5_drift_65 ?_
            rw [lN_add]
            refine r_ldc2 kc_X5_180 dX5_drift_66 ?_
            refine r_top (v' := .long (lN 2147483647)) rfl ?_
            refine r_land dX5_drift_69 ?_
            rw [lN_and]
            refine r_l2i dX5_drift_70 rfl ?_
            refine r_top (v' := .int (nI (dwr T))) (congrArg Value.int (lN_i _)) ?_
            refine r_Rast dX5_drift_71 sh_35 (by omega) (by decide) hR (by decide) (fun M hR hF1 => ?_)
            have hF := hF.trans hF1
            refine r_aload_n dX5_drift_72 rfl rfl ?_
            refine r_getR fl_X5_7 dX5_drift_73 sh_34 rfl ?_
            refine r_bipush (v := nI 7) dX5_drift_76 rfl ?_
            refine r_ialdN dX5_drift_78 sh_35 (by omega) (by decide) (hR.a35 _) ?_
            refine r_top (v' := .int (nI (dwr T))) (congrArg (fun z => Value.int (nI z)) (by rw [ts_at])) ?_
            refine r_ldc kc_X5_182 dX5_drift_79 ?_
            refine r_top (v' := .int (nI 65536)) rfl ?_
            refine r_idivN dX5_drift_81 (by omega) (by omega) (by omega) ?_
            refine r_istore dX5_drift_82 rfl (by decide) ?_
            refine r_iload dX5_drift_84 rfl ?_
            refine r_iconst (v := nI 3) dX5_drift_86 rfl ?_
            refine r_iremN dX5_drift_87 (by omega) (by omega) (by omega) ?_
            first | refine r_if_neB (tgt := 157) dX5_drift_88 (by decide) (fun c2 => ?_) (fun c2 => ?_) | refine r_if_neN (tgt := 157) dX5_drift_88 (by decide) (by omega) (fun c2 => ?_) (fun c2 => ?_) | refine r_if_ne (tgt := 157) dX5_drift_88 (by decide) (fun c2 => ?_) (fun c2 => ?_)
            · have hX : d2 T = ts (st_notes T) 35 7 (dwr T) := if_neg (by omega)
              refine r_aload_n dX5_drift_157 rfl rfl ?_
              refine r_getR fl_X5_7 dX5_drift_158 sh_34 rfl ?_
              refine r_iconst (v := nI 3) dX5_drift_161 rfl ?_
              refine r_dup2 dX5_drift_162 rfl rfl ?_
              refine r_ialdN dX5_drift_163 sh_35 (by omega) (by decide) (hR.a35 _) ?_
              first
              | refine r_top (v' := .int (nI (T 35 3))) (congrArg (fun z => Value.int (nI z)) (by rw [nd_else _ _ _ _ (by decide) (by omega), ts_nk (by decide), sn_35])) ?_
              | refine r_top (v' := .int (nI (T 35 3))) (congrArg (fun z => Value.int (nI z)) (by rw [ts_nk (by decide), sn_35])) ?_
              refine r_iconst (v := nI 1) dX5_drift_164 rfl ?_
              first | refine r_iaddN dX5_drift_165 ?_ | refine r_iadd dX5_drift_165 ?_
              refine r_Rast dX5_drift_166 sh_35 (by omega) (by decide) hR (by decide) (fun M hR hF1 => ?_)
              have hF := hF.trans hF1
              first | refine r_iincN dX5_drift_167 rfl rfl (by decide) ?_ | refine r_iinc dX5_drift_167 rfl rfl rfl (by decide) ?_
              refine r_goto (tgt := 35) dX5_drift_170 (by decide) ?_
              have hR : RI (dr T) M := by unfold dr; rw [hX]; exact hR
              have h9 := ih (k + 1) (dr T) M (by rw [hT, drk]) hR hF (by omega) (by omega)
              rw [dr_2, hX] at h9
              refine r_lfor 4 ?_
              first
              | (rw [nd_2, ts_nk (by decide), sn_35, show T 35 2 + 1 - t 35 2 = T 35 2 - t 35 2 + 1 by omega] at h9; exact h9)
              | (rw [ts_nk (by decide), sn_35] at h9; exact h9)
            · refine r_aload_n dX5_drift_91 rfl rfl ?_
              refine r_getR fl_X5_7 dX5_drift_92 sh_34 rfl ?_
              refine r_iconst (v := nI 2) dX5_drift_95 rfl ?_
              refine r_ialdN dX5_drift_96 sh_35 (by omega) (by decide) (hR.a35 _) ?_
              refine r_top (v' := .int (nI (T 35 2))) (congrArg (fun z => Value.int (nI z)) (by rw [ts_nk (by decide), sn_35])) ?_
              refine r_bipush (v := nI 10) dX5_drift_97 rfl ?_
              first | refine r_icmp_geN (tgt := 157) dX5_drift_99 (by decide) (by omega) (by omega) (fun c3 => ?_) (fun c3 => ?_) | refine r_icmp_ge (tgt := 157) dX5_drift_99 (by decide) (fun c3 => ?_) (fun c3 => ?_)
              · have hX : d2 T = ts (st_notes T) 35 7 (dwr T) := if_neg (by omega)
                refine r_aload_n dX5_drift_157 rfl rfl ?_
                refine r_getR fl_X5_7 dX5_drift_158 sh_34 rfl ?_
                refine r_iconst (v := nI 3) dX5_drift_161 rfl ?_
                refine r_dup2 dX5_drift_162 rfl rfl ?_
                refine r_ialdN dX5_drift_163 sh_35 (by omega) (by decide) (hR.a35 _) ?_
                first
                | refine r_top (v' := .int (nI (T 35 3))) (congrArg (fun z => Value.int (nI z)) (by rw [nd_else _ _ _ _ (by decide) (by omega), ts_nk (by decide), sn_35])) ?_
                | refine r_top (v' := .int (nI (T 35 3))) (congrArg (fun z => Value.int (nI z)) (by rw [ts_nk (by decide), sn_35])) ?_
                refine r_iconst (v := nI 1) dX5_drift_164 rfl ?_
                first | refine r_iaddN dX5_drift_165 ?_ | refine r_iadd dX5_drift_165 ?_
                refine r_Rast dX5_drift_166 sh_35 (by omega) (by decide) hR (by decide) (fun M hR hF1 => ?_)
                have hF := hF.trans hF1
                first | refine r_iincN dX5_drift_167 rfl rfl (by decide) ?_ | refine r_iinc dX5_drift_167 rfl rfl rfl (by decide) ?_
                refine r_goto (tgt := 35) dX5_drift_170 (by decide) ?_
                have hR : RI (dr T) M := by unfold dr; rw [hX]; exact hR
                have h9 := ih (k + 1) (dr T) M (by rw [hT, drk]) hR hF (by omega) (by omega)
                rw [dr_2, hX] at h9
                refine r_lfor 4 ?_
                first
                | (rw [nd_2, ts_nk (by decide), sn_35, show T 35 2 + 1 - t 35 2 = T 35 2 - t 35 2 + 1 by omega] at h9; exact h9)
                | (rw [ts_nk (by decide), sn_35] at h9; exact h9)
              · refine r_aload_n dX5_drift_102 rfl rfl ?_
                refine r_getR fl_X5_7 dX5_drift_103 sh_34 rfl ?_
                refine r_iconst (v := nI 0) dX5_drift_106 rfl ?_
                refine r_ialdN dX5_drift_107 sh_35 (by omega) (by decide) (hR.a35 _) ?_
                refine r_top (v' := .int (nI (T 35 0))) (congrArg (fun z => Value.int (nI z)) (by rw [ts_nk (by decide), sn_35])) ?_
                first | refine r_if_leN (tgt := 157) dX5_drift_108 (by decide) (by omega) (fun c4 => ?_) (fun c4 => ?_) | refine r_if_le (tgt := 157) dX5_drift_108 (by decide) (fun c4 => ?_) (fun c4 => ?_)
                · have hX : d2 T = ts (st_notes T) 35 7 (dwr T) := if_neg (by omega)
                  refine r_aload_n dX5_drift_157 rfl rfl ?_
                  refine r_getR fl_X5_7 dX5_drift_158 sh_34 rfl ?_
                  refine r_iconst (v := nI 3) dX5_drift_161 rfl ?_
                  refine r_dup2 dX5_drift_162 rfl rfl ?_
                  refine r_ialdN dX5_drift_163 sh_35 (by omega) (by decide) (hR.a35 _) ?_
                  first
                  | refine r_top (v' := .int (nI (T 35 3))) (congrArg (fun z => Value.int (nI z)) (by rw [nd_else _ _ _ _ (by decide) (by omega), ts_nk (by decide), sn_35])) ?_
                  | refine r_top (v' := .int (nI (T 35 3))) (congrArg (fun z => Value.int (nI z)) (by rw [ts_nk (by decide), sn_35])) ?_
                  refine r_iconst (v := nI 1) dX5_drift_164 rfl ?_
                  first | refine r_iaddN dX5_drift_165 ?_ | refine r_iadd dX5_drift_165 ?_
                  refine r_Rast dX5_drift_166 sh_35 (by omega) (by decide) hR (by decide) (fun M hR hF1 => ?_)
                  have hF := hF.trans hF1
                  first | refine r_iincN dX5_drift_167 rfl rfl (by decide) ?_ | refine r_iinc dX5_drift_167 rfl rfl rfl (by decide) ?_
                  refine r_goto (tgt := 35) dX5_drift_170 (by decide) ?_
                  have hR : RI (dr T) M := by unfold dr; rw [hX]; exact hR
                  have h9 := ih (k + 1) (dr T) M (by rw [hT, drk]) hR hF (by omega) (by omega)
                  rw [dr_2, hX] at h9
                  refine r_lfor 4 ?_
                  first
                  | (rw [nd_2, ts_nk (by decide), sn_35, show T 35 2 + 1 - t 35 2 = T 35 2 - t 35 2 + 1 by omega] at h9; exact h9)
                  | (rw [ts_nk (by decide), sn_35] at h9; exact h9)
                · have hX : d2 T = nd (ts (st_notes T) 35 7 (dwr T)) (dwr T / 65536 % T 35 0) (dwr T / 128 % 6) (1 + dwr T / 1024 % 9) := if_pos ⟨by omega, by omega, by omega⟩
                  refine r_aload_n dX5_drift_111 rfl rfl ?_
                  refine r_iload dX5_drift_112 rfl ?_
                  refine r_aload_n dX5_drift_114 rfl rfl ?_
                  refine r_getR fl_X5_7 dX5_drift_115 sh_34 rfl ?_
                  refine r_iconst (v := nI 0) dX5_drift_118 rfl ?_
                  refine r_ialdN dX5_drift_119 sh_35 (by omega) (by decide) (hR.a35 _) ?_
                  refine r_top (v' := .int (nI (T 35 0))) (congrArg (fun z => Value.int (nI z)) (by rw [ts_nk (by decide), sn_35])) ?_
                  refine r_iremN dX5_drift_120 (by omega) (by omega) (by omega) ?_
                  refine r_aload_n dX5_drift_121 rfl rfl ?_
                  refine r_getR fl_X5_7 dX5_drift_122 sh_34 rfl ?_
                  refine r_bipush (v := nI 7) dX5_drift_125 rfl ?_
                  refine r_ialdN dX5_drift_127 sh_35 (by omega) (by decide) (hR.a35 _) ?_
                  refine r_top (v' := .int (nI (dwr T))) (congrArg (fun z => Value.int (nI z)) (by rw [ts_at])) ?_
                  refine r_sipush (v := nI 128) dX5_drift_128 rfl ?_
                  refine r_idivN dX5_drift_131 (by omega) (by omega) (by omega) ?_
                  refine r_bipush (v := nI 6) dX5_drift_132 rfl ?_
                  refine r_iremN dX5_drift_134 (by omega) (by omega) (by omega) ?_
                  refine r_iconst (v := nI 1) dX5_drift_135 rfl ?_
                  refine r_aload_n dX5_drift_136 rfl rfl ?_
                  refine r_getR fl_X5_7 dX5_drift_137 sh_34 rfl ?_
                  refine r_bipush (v := nI 7) dX5_drift_140 rfl ?_
                  refine r_ialdN dX5_drift_142 sh_35 (by omega) (by decide) (hR.a35 _) ?_
                  refine r_top (v' := .int (nI (dwr T))) (congrArg (fun z => Value.int (nI z)) (by rw [ts_at])) ?_
                  refine r_sipush (v := nI 1024) dX5_drift_143 rfl ?_
                  refine r_idivN dX5_drift_146 (by omega) (by omega) (by omega) ?_
                  refine r_bipush (v := nI 9) dX5_drift_147 rfl ?_
                  refine r_iremN dX5_drift_149 (by omega) (by omega) (by omega) ?_
                  first | refine r_iaddN dX5_drift_150 ?_ | refine r_iadd dX5_drift_150 ?_
                  refine r_cV3G mv_X5_isDone ml_X5_173 (c5_isDone l hR (by rw [ts_nk (by decide), sn_35]; omega)) dX5_drift_151 (Nat.le_of_ble_eq_true rfl) ⟨by decide, by decide⟩ ⟨by decide, by decide⟩ sh_34 rfl (fun _ h => nomatch h) (fun v M1 hq => ?_)
                  obtain ⟨rfl, hR, hF1⟩ := hq
                  have hF := hF.trans hF1
                  dsimp only [zrst, List.cons_append, List.nil_append]
                  first | refine r_iincN dX5_drift_154 rfl rfl (by decide) ?_ | refine r_iinc dX5_drift_154 rfl rfl rfl (by decide) ?_
                  refine r_aload_n dX5_drift_157 rfl rfl ?_
                  refine r_getR fl_X5_7 dX5_drift_158 sh_34 rfl ?_
                  refine r_iconst (v := nI 3) dX5_drift_161 rfl ?_
                  refine r_dup2 dX5_drift_162 rfl rfl ?_
                  refine r_ialdN dX5_drift_163 sh_35 (by omega) (by decide) (hR.a35 _) ?_
                  first
                  | refine r_top (v' := .int (nI (T 35 3))) (congrArg (fun z => Value.int (nI z)) (by rw [nd_else _ _ _ _ (by decide) (by omega), ts_nk (by decide), sn_35])) ?_
                  | refine r_top (v' := .int (nI (T 35 3))) (congrArg (fun z => Value.int (nI z)) (by rw [ts_nk (by decide), sn_35])) ?_
                  refine r_iconst (v := nI 1) dX5_drift_164 rfl ?_
                  first | refine r_iaddN dX5_drift_165 ?_ | refine r_iadd dX5_drift_165 ?_
                  refine r_Rast dX5_drift_166 sh_35 (by omega) (by decide) hR (by decide) (fun M hR hF1 => ?_)
                  have hF := hF.trans hF1
                  first | refine r_iincN dX5_drift_167 rfl rfl (by decide) ?_ | refine r_iinc dX5_drift_167 rfl rfl rfl (by decide) ?_
                  refine r_goto (tgt := 35) dX5_drift_170 (by decide) ?_
                  have hR : RI (dr T) M := by unfold dr; rw [hX]; exact hR
                  have h9 := ih (k + 1) (dr T) M (by rw [hT, drk]) hR hF (by omega) (by omega)
                  rw [dr_2, hX] at h9
                  refine r_lfor 4 ?_
                  first
                  | (rw [nd_2, ts_nk (by decide), sn_35, show T 35 2 + 1 - t 35 2 = T 35 2 - t 35 2 + 1 by omega] at h9; exact h9)
                  | (rw [ts_nk (by decide), sn_35] at h9; exact h9)
      have h9 := loop (K + 1) 0 t M0 rfl hR hF (Nat.zero_le _) (by omega)
      rw [Nat.sub_self] at h9
      exact h9
    · refine r_bipush (v := (-3)) dX5_drift_28 rfl ?_
      refine r_iret dX5_drift_30 rfl (by decide) (by decide) ?_
      refine ⟨rfl, congrArg (fun x => some (Value.int x)) ?_, ?_, hF⟩
      · rw [sp_drift, if_pos g1, tn_nI (show K < 2147483648 by omega), if_pos (by omega)]
      · rw [st_drift, if_pos g1, tn_nI (show K < 2147483648 by omega), if_pos (by omega)]
        exact hR
  · rw [i64_of32] at c1
    have c1 : ¬ ((1 : Int) ≤ x.toInt ∧ x.toInt ≤ (99 : Int)) := c1
    have b1 : ¬ (1 ≤ x.toInt ∧ x.toInt ≤ 99) := by omega
    refine r_iconst (v := (-1)) dX5_drift_12 rfl ?_
    refine r_iret dX5_drift_13 rfl (by decide) (by decide) ?_
    refine ⟨rfl, congrArg (fun x => some (Value.int x)) ?_, ?_, hF⟩
    · rw [sp_drift, if_neg]
      intro h9; first | exact absurd h9 (by assumption) | exact absurd h9.1 (by assumption) | exact absurd h9.2 (by assumption) | exact absurd h9.2.1 (by assumption) | exact absurd h9.2.2 (by assumption) | exact absurd h9.2.2.1 (by assumption) | exact absurd h9.2.2.2 (by assumption) | exact absurd h9.2.2.2.1 (by assumption) | exact absurd h9.2.2.2.2 (by assumption)
    · rw [st_drift, if_neg]
      · exact hR
      · intro h9; first | exact absurd h9 (by assumption) | exact absurd h9.1 (by assumption) | exact absurd h9.2 (by assumption) | exact absurd h9.2.1 (by assumption) | exact absurd h9.2.2 (by assumption) | exact absurd h9.2.2.1 (by assumption) | exact absurd h9.2.2.2 (by assumption) | exact absurd h9.2.2.2.1 (by assumption) | exact absurd h9.2.2.2.2 (by assumption)

theorem SI_draw {t : Nat → Nat → Nat} {M : zM} {v : Nat} (h : SI 1 (t 35) (t 38) (t 34 7) M) (hn : NB (t 35))  : SI 1 (ts t 35 7 v 35) (ts t 35 7 v 38) (ts t 35 7 v 34 7) (zI M 1 (upd (M.1 1) 8 (nI v))) := by
  obtain ⟨⟨f0, f1, f2, f3, f4, f5, f6, f7, f8⟩, a2, a3, a4, a5, a9⟩ := h
  have hb0 := hn.1
  have hb1 := hn.2.1
  have hb2 := hn.2.2.1
  have e8 : ∀ j, j ≠ 7 → ts t 35 (7) v 35 j = t 35 j := fun j hj => ts_nk hj
  refine ⟨⟨by (try rw [e8 _ (by omega)]); exact f0, by (try rw [e8 _ (by omega)]); exact f1, by (try rw [e8 _ (by omega)]); exact f2, by (try rw [e8 _ (by omega)]); exact f3, by (try rw [e8 _ (by omega)]); exact f4, by (try rw [e8 _ (by omega)]); exact f5, by (try rw [e8 _ (by omega)]); exact f6, by (try rw [e8 _ (by omega)]); exact f7, by rw [ts_at, zI_at]; exact pk_us⟩, ?_, ?_, ?_, ?_, ?_⟩
  · intro p2 hp2; (try rw [e8 0 (by omega)] at hp2); rw [e8 _ (by omega)]; exact a2 p2 hp2
  · intro p2 m2 hp2 hm2; (try rw [e8 0 (by omega)] at hp2); rw [e8 _ (by omega)]; exact a3 p2 m2 hp2 hm2
  · intro p2 m2 hp2 hm2; (try rw [e8 1 (by omega)] at hp2); rw [e8 _ (by omega)]; exact a4 p2 m2 hp2 hm2
  · intro d2 hd2; (try rw [e8 2 (by omega)] at hd2); rw [e8 _ (by omega), e8 _ (by omega), e8 _ (by omega), e8 _ (by omega)]; exact a5 d2 hd2
  · exact a9
set_option maxHeartbeats 4000000 in
set_option maxRecDepth 100000 in
theorem c3_driftOneDay (l : Launch) {rw : List zC} {M0 : zM} {t : Nat → Nat → Nat} (hS : SI 1 (t 35) (t 38) (t 34 7) M0) (hn : NB (t 35)) (hkn : t 34 7 ≤ 8) : CT l false 2 0 0 yX3_driftOneDay cX3_driftOneDay 2 none [.ref 1] (zSh ++ rw) M0 (zG (zSh ++ rw) (fun v M9 => v = none ∧ SI 1 (dr t 35) (dr t 38) (dr t 34 7) M9 ∧ zfr (fun i => i = 1 ∨ i = 5 ∨ i = 6 ∨ i = 7 ∨ i = 8 ∨ i = 9) M0 M9)) := by
  refine CT.ofN (by decide) (fun _ _ => Nat.le_of_ble_eq_true rfl) ?_
  have hdd := hn.2.2.2.2.2.2.2.2.2.2.2
  have hkd := hn.2.2.2.2.2.2.2.2.1
  have how := hn.2.2.2.2.2.2.2.2.2.1
  have hcu := hn.2.2.2.2.2.2.2.2.2.2.1
  have hb0 := hn.1
  have hb1 := hn.2.1
  have hb2 := hn.2.2.1
  have hb3 := hn.2.2.2.1
  have hb4 := hn.2.2.2.2.1
  have hb5 := hn.2.2.2.2.2.1
  have hb6 := hn.2.2.2.2.2.2.1
  have hb7 := hn.2.2.2.2.2.2.2.1
  have hdw := dwr_le t
  refine r_aload_n dX3_driftOneDay_0 rfl rfl ?_
  refine r_cV0G mv_X3_remember ml_X3_106 (c3_remember l hS hkn) dX3_driftOneDay_1 (Nat.le_of_ble_eq_true rfl) ⟨by decide, by decide⟩ ⟨by decide, by decide⟩ sh_1 rfl (fun _ h => nomatch h) (fun v M1 hq => ?_)
  obtain ⟨rfl, hS, hF⟩ := hq
  have hF := hF.wk (P' := (fun i => i = 1 ∨ i = 5 ∨ i = 6 ∨ i = 7 ∨ i = 8 ∨ i = 9)) (fun i h => by omega)
  dsimp only [zrst, List.cons_append, List.nil_append]
  refine r_aload_n dX3_driftOneDay_4 rfl rfl ?_
  refine r_aload_n dX3_driftOneDay_5 rfl rfl ?_
  refine r_getV fl_X3_18 dX3_driftOneDay_6 sh_1 rfl hS.f8 ?_
  refine r_top (v' := .int (nI (t 35 7))) (congrArg (fun z => Value.int (nI z)) (by rw [sn_35])) ?_
  refine r_ldc kc_X3_109 dX3_driftOneDay_9 ?_
  refine r_top (v' := .int (nI 1103515245)) rfl ?_
  first | refine r_imulN dX3_driftOneDay_11 ?_ | refine r_imul dX3_driftOneDay_11 ?_
  refine r_sipush (v := nI 12345) dX3_driftOneDay_12 rfl ?_
  first | refine r_iaddN dX3_driftOneDay_15 ?_ | refine r_iadd dX3_driftOneDay_15 ?_
  refine r_ldc kc_X3_110 dX3_driftOneDay_16 ?_
  refine r_top (v' := .int (nI 2147483647)) rfl ?_
  first | refine r_iandN dX3_driftOneDay_18 ?_ | refine r_iand dX3_driftOneDay_18 ?_
  refine r_top (v' := .int (nI (dwr t))) rfl ?_
  refine r_putI fl_X3_18 dX3_driftOneDay_19 rfl rfl sh_1 rfl ?_
  have hS := SI_draw (v := dwr t) hS (by rw [sn_35]; exact hn)
  have hF := hF.trans (zfr_I (P := (fun i => i = 1 ∨ i = 5 ∨ i = 6 ∨ i = 7 ∨ i = 8 ∨ i = 9)) (M := M1) (c := 1) (f := upd (M1.1 1) 8 (nI (dwr t))) (by simp))
  have hN1 : NB (ts (st_notes t) 35 7 (dwr t) 35) := NB_7 (by rw [sn_35]; exact hn) (by omega)
  generalize zI M1 1 (upd (M1.1 1) 8 (nI (dwr t))) = M2 at hS hF ⊢
  refine r_aload_n dX3_driftOneDay_22 rfl rfl ?_
  refine r_getV fl_X3_18 dX3_driftOneDay_23 sh_1 rfl hS.f8 ?_
  refine r_top (v' := .int (nI (dwr t))) (congrArg (fun z => Value.int (nI z)) (by rw [ts_at])) ?_
  refine r_ldc kc_X3_111 dX3_driftOneDay_26 ?_
  refine r_top (v' := .int (nI 65536)) rfl ?_
  refine r_idivN dX3_driftOneDay_28 (by omega) (by omega) (by omega) ?_
  refine r_istore_n dX3_driftOneDay_29 rfl rfl (by decide) ?_
  refine r_aload_n dX3_driftOneDay_30 rfl rfl ?_
  refine r_getV fl_X3_46 dX3_driftOneDay_31 sh_1 rfl hS.f0 ?_
  refine r_top (v' := .int (nI (t 35 0))) (congrArg (fun z => Value.int (nI z)) (by rw [ts_nk (by decide), sn_35])) ?_
  first | refine r_if_leN (tgt := 87) dX3_driftOneDay_34 (by decide) (by omega) (fun c1 => ?_) (fun c1 => ?_) | refine r_if_le (tgt := 87) dX3_driftOneDay_34 (by decide) (fun c1 => ?_) (fun c1 => ?_)
  · have hX : d2 t = ts (st_notes t) 35 7 (dwr t) := if_neg (by omega)
    have hNX := hN1
    refine r_aload_n dX3_driftOneDay_87 rfl rfl ?_
    refine r_dup dX3_driftOneDay_88 rfl ?_
    refine r_getV fl_X3_62 dX3_driftOneDay_89 sh_1 rfl hS.f4 ?_
    first
    | refine r_top (v' := .int (nI (t 35 3))) (congrArg (fun z => Value.int (nI z)) (by rw [nd_else _ _ _ _ (by decide) (by omega), ts_nk (by decide), sn_35])) ?_
    | refine r_top (v' := .int (nI (t 35 3))) (congrArg (fun z => Value.int (nI z)) (by rw [ts_nk (by decide), sn_35])) ?_
    refine r_iconst (v := nI 1) dX3_driftOneDay_92 rfl ?_
    first | refine r_iaddN dX3_driftOneDay_93 ?_ | refine r_iadd dX3_driftOneDay_93 ?_
    refine r_putI fl_X3_62 dX3_driftOneDay_94 rfl rfl sh_1 rfl ?_
    refine r_vret dX3_driftOneDay_97 rfl (by decide) (by decide) ?_
    have hS := SI_today (v := t 35 3 + 1) hS hNX
    exact ⟨rfl, rfl, (by unfold dr; rw [hX]; exact hS), hF.trans (zfr_I (by simp))⟩
  · refine r_aload_n dX3_driftOneDay_37 rfl rfl ?_
    refine r_getV fl_X3_56 dX3_driftOneDay_38 sh_1 rfl hS.f2 ?_
    refine r_top (v' := .int (nI (t 35 2))) (congrArg (fun z => Value.int (nI z)) (by rw [ts_nk (by decide), sn_35])) ?_
    refine r_bipush (v := nI 10) dX3_driftOneDay_41 rfl ?_
    first | refine r_icmp_geN (tgt := 87) dX3_driftOneDay_43 (by decide) (by omega) (by omega) (fun c2 => ?_) (fun c2 => ?_) | refine r_icmp_ge (tgt := 87) dX3_driftOneDay_43 (by decide) (fun c2 => ?_) (fun c2 => ?_)
    · have hX : d2 t = ts (st_notes t) 35 7 (dwr t) := if_neg (by omega)
      have hNX := hN1
      refine r_aload_n dX3_driftOneDay_87 rfl rfl ?_
      refine r_dup dX3_driftOneDay_88 rfl ?_
      refine r_getV fl_X3_62 dX3_driftOneDay_89 sh_1 rfl hS.f4 ?_
      first
      | refine r_top (v' := .int (nI (t 35 3))) (congrArg (fun z => Value.int (nI z)) (by rw [nd_else _ _ _ _ (by decide) (by omega), ts_nk (by decide), sn_35])) ?_
      | refine r_top (v' := .int (nI (t 35 3))) (congrArg (fun z => Value.int (nI z)) (by rw [ts_nk (by decide), sn_35])) ?_
      refine r_iconst (v := nI 1) dX3_driftOneDay_92 rfl ?_
      first | refine r_iaddN dX3_driftOneDay_93 ?_ | refine r_iadd dX3_driftOneDay_93 ?_
      refine r_putI fl_X3_62 dX3_driftOneDay_94 rfl rfl sh_1 rfl ?_
      refine r_vret dX3_driftOneDay_97 rfl (by decide) (by decide) ?_
      have hS := SI_today (v := t 35 3 + 1) hS hNX
      exact ⟨rfl, rfl, (by unfold dr; rw [hX]; exact hS), hF.trans (zfr_I (by simp))⟩
    · refine r_iload_n dX3_driftOneDay_46 rfl rfl ?_
      refine r_iconst (v := nI 3) dX3_driftOneDay_47 rfl ?_
      refine r_iremN dX3_driftOneDay_48 (by omega) (by omega) (by omega) ?_
      first | refine r_if_neB (tgt := 87) dX3_driftOneDay_49 (by decide) (fun c3 => ?_) (fun c3 => ?_) | refine r_if_neN (tgt := 87) dX3_driftOneDay_49 (by decide) (by omega) (fun c3 => ?_) (fun c3 => ?_) | refine r_if_ne (tgt := 87) dX3_driftOneDay_49 (by decide) (fun c3 => ?_) (fun c3 => ?_)
      · have hX : d2 t = ts (st_notes t) 35 7 (dwr t) := if_neg (by omega)
        have hNX := hN1
        refine r_aload_n dX3_driftOneDay_87 rfl rfl ?_
        refine r_dup dX3_driftOneDay_88 rfl ?_
        refine r_getV fl_X3_62 dX3_driftOneDay_89 sh_1 rfl hS.f4 ?_
        first
        | refine r_top (v' := .int (nI (t 35 3))) (congrArg (fun z => Value.int (nI z)) (by rw [nd_else _ _ _ _ (by decide) (by omega), ts_nk (by decide), sn_35])) ?_
        | refine r_top (v' := .int (nI (t 35 3))) (congrArg (fun z => Value.int (nI z)) (by rw [ts_nk (by decide), sn_35])) ?_
        refine r_iconst (v := nI 1) dX3_driftOneDay_92 rfl ?_
        first | refine r_iaddN dX3_driftOneDay_93 ?_ | refine r_iadd dX3_driftOneDay_93 ?_
        refine r_putI fl_X3_62 dX3_driftOneDay_94 rfl rfl sh_1 rfl ?_
        refine r_vret dX3_driftOneDay_97 rfl (by decide) (by decide) ?_
        have hS := SI_today (v := t 35 3 + 1) hS hNX
        exact ⟨rfl, rfl, (by unfold dr; rw [hX]; exact hS), hF.trans (zfr_I (by simp))⟩
      · have hX : d2 t = nd (ts (st_notes t) 35 7 (dwr t)) (dwr t / 65536 % t 35 0) (dwr t / 128 % 6) (1 + dwr t / 1024 % 9) := if_pos ⟨by omega, by omega, by omega⟩
        refine r_aload_n dX3_driftOneDay_52 rfl rfl ?_
        refine r_iload_n dX3_driftOneDay_53 rfl rfl ?_
        refine r_aload_n dX3_driftOneDay_54 rfl rfl ?_
        refine r_getV fl_X3_46 dX3_driftOneDay_55 sh_1 rfl hS.f0 ?_
        refine r_top (v' := .int (nI (t 35 0))) (congrArg (fun z => Value.int (nI z)) (by rw [ts_nk (by decide), sn_35])) ?_
        refine r_iremN dX3_driftOneDay_58 (by omega) (by omega) (by omega) ?_
        refine r_aload_n dX3_driftOneDay_59 rfl rfl ?_
        refine r_getV fl_X3_18 dX3_driftOneDay_60 sh_1 rfl hS.f8 ?_
        refine r_top (v' := .int (nI (dwr t))) (congrArg (fun z => Value.int (nI z)) (by rw [ts_at])) ?_
        refine r_sipush (v := nI 128) dX3_driftOneDay_63 rfl ?_
        refine r_idivN dX3_driftOneDay_66 (by omega) (by omega) (by omega) ?_
        refine r_bipush (v := nI 6) dX3_driftOneDay_67 rfl ?_
        refine r_iremN dX3_driftOneDay_69 (by omega) (by omega) (by omega) ?_
        refine r_iconst (v := nI 1) dX3_driftOneDay_70 rfl ?_
        refine r_aload_n dX3_driftOneDay_71 rfl rfl ?_
        refine r_getV fl_X3_18 dX3_driftOneDay_72 sh_1 rfl hS.f8 ?_
        refine r_top (v' := .int (nI (dwr t))) (congrArg (fun z => Value.int (nI z)) (by rw [ts_at])) ?_
        refine r_sipush (v := nI 1024) dX3_driftOneDay_75 rfl ?_
        refine r_idivN dX3_driftOneDay_78 (by omega) (by omega) (by omega) ?_
        refine r_bipush (v := nI 9) dX3_driftOneDay_79 rfl ?_
        refine r_iremN dX3_driftOneDay_81 (by omega) (by omega) (by omega) ?_
        first | refine r_iaddN dX3_driftOneDay_82 ?_ | refine r_iadd dX3_driftOneDay_82 ?_
        refine r_cV3G mv_X3_addDeed ml_X3_112 (c3_addDeed l hS hN1 (by rw [ts_nk (by decide), sn_35]; omega)) dX3_driftOneDay_83 (Nat.le_of_ble_eq_true rfl) ⟨by decide, by decide⟩ ⟨by decide, by decide⟩ sh_1 rfl (fun _ h => nomatch h) (fun v M1 hq => ?_)
        obtain ⟨rfl, hS, hF2⟩ := hq
        have hF := hF.trans (hF2.wk (fun i h => by omega))
        have hNX := NB_nd (p := dwr t / 65536 % t 35 0) (s := dwr t / 128 % 6) (w := 1 + dwr t / 1024 % 9) hN1 (by rw [ts_nk (by decide), sn_35]; omega) (by rw [ts_nk (by decide), sn_35]; exact Nat.mod_lt _ (by omega)) (by omega) (by omega)
        dsimp only [zrst, List.cons_append, List.nil_append]
        refine r_pop dX3_driftOneDay_86 rfl ?_
        refine r_aload_n dX3_driftOneDay_87 rfl rfl ?_
        refine r_dup dX3_driftOneDay_88 rfl ?_
        refine r_getV fl_X3_62 dX3_driftOneDay_89 sh_1 rfl hS.f4 ?_
        first
        | refine r_top (v' := .int (nI (t 35 3))) (congrArg (fun z => Value.int (nI z)) (by rw [nd_else _ _ _ _ (by decide) (by omega), ts_nk (by decide), sn_35])) ?_
        | refine r_top (v' := .int (nI (t 35 3))) (congrArg (fun z => Value.int (nI z)) (by rw [ts_nk (by decide), sn_35])) ?_
        refine r_iconst (v := nI 1) dX3_driftOneDay_92 rfl ?_
        first | refine r_iaddN dX3_driftOneDay_93 ?_ | refine r_iadd dX3_driftOneDay_93 ?_
        refine r_putI fl_X3_62 dX3_driftOneDay_94 rfl rfl sh_1 rfl ?_
        refine r_vret dX3_driftOneDay_97 rfl (by decide) (by decide) ?_
        have hS := SI_today (v := t 35 3 + 1) hS hNX
        exact ⟨rfl, rfl, (by unfold dr; rw [hX]; exact hS), hF.trans (zfr_I (by simp))⟩

set_option maxHeartbeats 4000000 in
set_option maxRecDepth 100000 in
theorem c4_drift (l : Launch) {rw : List zC} {M0 : zM} {t : Nat → Nat → Nat} (hS : SI 1 (t 35) (t 38) (t 34 7) M0) (hn : NB (t 35)) (x : Int32) (hkn : t 34 7 ≤ 8) : CT l false 3 0 0 yX4_drift cX4_drift 5 (some .int) [.ref 0, .int x] (zSh ++ rw) M0 (zG (zSh ++ rw) (zQC (sp_drift t x) (st_drift t x) (fun i => i = 1 ∨ i = 5 ∨ i = 6 ∨ i = 7 ∨ i = 8 ∨ i = 9) M0)) := by
  refine CT.ofN (by decide) (fun _ _ => Nat.le_of_ble_eq_true rfl) ?_
  have hdd := hn.2.2.2.2.2.2.2.2.2.2.2
  have hkd := hn.2.2.2.2.2.2.2.2.1
  have how := hn.2.2.2.2.2.2.2.2.2.1
  have hcu := hn.2.2.2.2.2.2.2.2.2.2.1
  have hb0 := hn.1
  have hb1 := hn.2.1
  have hb2 := hn.2.2.1
  have hb3 := hn.2.2.2.1
  have hb4 := hn.2.2.2.2.1
  have hb5 := hn.2.2.2.2.2.1
  have hb6 := hn.2.2.2.2.2.2.1
  refine r_aload_n dX4_drift_0 rfl rfl ?_
  refine r_iload_n dX4_drift_1 rfl rfl ?_
  refine r_cV1F mv_X4_refusalOfDays ml_X4_158 (c4_refuse l hS hn x) dX4_drift_2 (Nat.le_of_ble_eq_true rfl) ⟨by decide, by decide⟩ ⟨by decide, by decide⟩ sh_0 rfl (fun _ h => nomatch h) ?_
  try dsimp only [zrst, List.cons_append, List.nil_append]
  refine r_istore_n dX4_drift_5 rfl rfl (by decide) ?_
  refine r_iload_n dX4_drift_6 rfl rfl ?_
  refine r_if_eq (tgt := 12) dX4_drift_7 (by decide) (fun c1 => ?_) (fun c1 => ?_)
  · have h0 := refuse_0 (t := t) (x := x) c1
    have g1 := h0.1
    obtain ⟨K, hK1, hK2, rfl⟩ := arg_rng (a := 1) (b := 99) h0.1
    have h99 := h0.2
    rw [tn_nI (show K < 2147483648 by omega)] at h99
    refine r_aload_n dX4_drift_12 rfl rfl ?_
    refine r_getR fl_X4_10 dX4_drift_13 sh_0 rfl ?_
    refine r_getV fl_X4_137 dX4_drift_16 sh_1 rfl hS.f2 ?_
    refine r_istore_n dX4_drift_19 rfl rfl (by decide) ?_
    refine r_iconst (v := nI 0) dX4_drift_20 rfl ?_
    refine r_istore dX4_drift_21 rfl (by decide) ?_
    have loop : ∀ (j k : Nat) (T : Nat → Nat → Nat) (M : zM) (hT : T = drk t k) (hS : SI 1 (T 35) (T 38) (T 34 7) M) (hF : zfr (fun i => i = 1 ∨ i = 5 ∨ i = 6 ∨ i = 7 ∨ i = 8 ∨ i = 9) M0 M), k ≤ K → K < k + j → RA l none (zR 3 0 0) yX4_drift cX4_drift 5 (some .int) (zG (zSh ++ rw) (zQC (sp_drift t (nI K)) (st_drift t (nI K)) (fun i => i = 1 ∨ i = 5 ∨ i = 6 ∨ i = 7 ∨ i = 8 ∨ i = 9) M0)) 0 0 23 [some (.ref 0), some (.int (nI K)), some (.int (sp_refuse t (nI K))), some (.int (nI (t 35 2))), some (.int (nI k))] [] (zSh ++ rw) M := by
      intro j
      induction j with
      | zero => intro k T M hT hS hF hk hj; exact absurd hj (by omega)
      | succ j ih =>
        intro k T M hT hS hF hk hj
        refine r_iload dX4_drift_23 rfl ?_
        refine r_iload_n dX4_drift_25 rfl rfl ?_
        first | refine r_icmp_geN (tgt := 42) dX4_drift_26 (by decide) (by omega) (by omega) (fun c1 => ?_) (fun c1 => ?_) | refine r_icmp_ge (tgt := 42) dX4_drift_26 (by decide) (fun c1 => ?_) (fun c1 => ?_)
        · have hnT : NB (T 35) := by rw [hT]; exact NB_drk hn k (by omega)
          have hkT : T 34 7 ≤ 8 := by rw [hT]; exact drk_kn hkn k
          have hT3 : T 35 3 = t 35 3 + k := by rw [hT]; exact drk_3 t k
          have hT2 : t 35 2 ≤ T 35 2 := by rw [hT]; exact drk_2 t k
          have hdw := dwr_le T
          have q0 := hnT.1
          have q2 := hnT.2.2.1
          have q7 := hnT.2.2.2.2.2.2.2.1
          refine r_aload_n dX4_drift_42 rfl rfl ?_
          refine r_getR fl_X4_10 dX4_drift_43 sh_0 rfl ?_
          refine r_getV fl_X4_137 dX4_drift_46 sh_1 rfl hS.f2 ?_
          refine r_iload_n dX4_drift_49 rfl rfl ?_
          first | refine r_isubN dX4_drift_50 (by omega) ?_ | refine r_isub dX4_drift_50 ?_
          refine r_iret dX4_drift_51 rfl (by decide) (by decide) ?_
          have eK : k = K := by omega
          subst eK
          refine ⟨rfl, congrArg (fun x => some (Value.int x)) ?_, ?_, hF⟩
          · rw [sp_drift, if_pos g1, tn_nI (show k < 2147483648 by omega), if_neg (by omega), hT]
          · rw [st_drift, if_pos g1, tn_nI (show k < 2147483648 by omega), if_neg (by omega), ← hT]
            exact hS
        · have hnT : NB (T 35) := by rw [hT]; exact NB_drk hn k (by omega)
          have hkT : T 34 7 ≤ 8 := by rw [hT]; exact drk_kn hkn k
          have hT3 : T 35 3 = t 35 3 + k := by rw [hT]; exact drk_3 t k
          have hT2 : t 35 2 ≤ T 35 2 := by rw [hT]; exact drk_2 t k
          have hdw := dwr_le T
          have q0 := hnT.1
          have q2 := hnT.2.2.1
          have q7 := hnT.2.2.2.2.2.2.2.1
          refine r_aload_n dX4_drift_29 rfl rfl ?_
          refine r_getR fl_X4_10 dX4_drift_30 sh_0 rfl ?_
          refine r_cV0G mv_X3_driftOneDay ml_X4_161 (c3_driftOneDay l hS hnT hkT) dX4_drift_33 (Nat.le_of_ble_eq_true rfl) ⟨by decide, by decide⟩ ⟨by decide, by decide⟩ sh_1 rfl (fun _ h => nomatch h) (fun v M1 hq => ?_)
          obtain ⟨rfl, hS, hF1⟩ := hq
          have hF := hF.trans hF1
          dsimp only [zrst, List.cons_append, List.nil_append]
          first | refine r_iincN dX4_drift_36 rfl rfl (by decide) ?_ | refine r_iinc dX4_drift_36 rfl rfl rfl (by decide) ?_
          refine r_goto (tgt := 23) dX4_drift_39 (by decide) ?_
          exact ih (k + 1) (dr T) M1 (by rw [hT, drk]) hS hF (by omega) (by omega)
    exact loop (K + 1) 0 t M0 rfl hS zfr.rf (Nat.zero_le _) (by omega)
  · have h0 := refuse_days (t := t) (x := x) c1
    refine r_iload_n dX4_drift_10 rfl rfl ?_
    refine r_iret dX4_drift_11 rfl (by decide) (by decide) ?_
    refine ⟨rfl, congrArg (fun x => some (Value.int x)) ?_, ?_, zfr.rf⟩
    · rw [h0.2.2.1]
    · rw [h0.2.2.2]; exact hS

