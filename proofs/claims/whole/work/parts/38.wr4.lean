set_option maxHeartbeats 4000000 in
set_option maxRecDepth 100000 in
theorem c4_suit (l : Launch) {rw : List zC} {M0 : zM} {t : Nat → Nat → Nat} (hS : SI 1 (t 35) (t 38) (t 34 7) M0) (hn : NB (t 35)) (x : Int32) : CT l false 1 0 0 yX4_suit cX4_suit 2 (some .int) [.ref 0, .int x] (zSh ++ rw) M0 (zG (zSh ++ rw) (zQC (sp_suit t x) (st_suit t x) (fun i => i = 1 ∨ i = 4) M0)) := by
  refine CT.ofN (by decide) (fun _ _ => Nat.le_of_ble_eq_true rfl) ?_
  have hdd := hn.2.2.2.2.2.2.2.2.2.2.2
  have hkd := hn.2.2.2.2.2.2.2.2.1
  have how := hn.2.2.2.2.2.2.2.2.2.1
  have hcu := hn.2.2.2.2.2.2.2.2.2.2.1
  have hb0 := hn.1
  have hb1 := hn.2.1
  have hb2 := hn.2.2.1
  have hb3 := hn.2.2.2.1
  have hb4 := hn.2.2.2.2.1
  have hb5 := hn.2.2.2.2.2.1
  have hb6 := hn.2.2.2.2.2.2.1
  refine r_iload_n dX4_suit_0 rfl rfl ?_
  refine r_iconst (v := nI 0) dX4_suit_1 rfl ?_
  refine r_sipush (v := nI 199) dX4_suit_2 rfl ?_
  refine r_cS3F ms_X4_within ml_X4_41 (c4_within l _ _ _) dX4_suit_5 (Nat.le_of_ble_eq_true rfl) ⟨by decide, by decide⟩ ⟨by decide, by decide⟩ (fun _ h => nomatch h) ?_
  try dsimp only [zrst, List.cons_append, List.nil_append]
  first | refine r_if_neB (tgt := 13) dX4_suit_8 (by decide) (fun c1 => ?_) (fun c1 => ?_) | refine r_if_neN (tgt := 13) dX4_suit_8 (by decide) (by omega) (fun c1 => ?_) (fun c1 => ?_) | refine r_if_ne (tgt := 13) dX4_suit_8 (by decide) (fun c1 => ?_) (fun c1 => ?_)
  · have c1 : ((0 : Int) ≤ x.toInt ∧ x.toInt ≤ (199 : Int)) := c1
    have g1 : 0 ≤ x.toInt ∧ x.toInt ≤ 199 := by omega
    obtain ⟨k, hk1, hk2, rfl⟩ := arg_rng (a := 0) (b := 199) (show ((0 : Nat) : Int) ≤ x.toInt ∧ x.toInt ≤ ((199 : Nat) : Int) by omega)
    refine r_aload_n dX4_suit_13 rfl rfl ?_
    refine r_getR fl_X4_10 dX4_suit_14 sh_0 rfl ?_
    refine r_getV fl_X4_64 dX4_suit_17 sh_1 rfl hS.f1 ?_
    refine r_iconst (v := nI 4) dX4_suit_20 rfl ?_
    first | refine r_icmp_geN (tgt := 35) dX4_suit_21 (by decide) (by omega) (by omega) (fun c2 => ?_) (fun c2 => ?_) | refine r_icmp_ge (tgt := 35) dX4_suit_21 (by decide) (fun c2 => ?_) (fun c2 => ?_)
    · refine r_bipush (v := (-3)) dX4_suit_35 rfl ?_
      refine r_iret dX4_suit_37 rfl (by decide) (by decide) ?_
      first
      | (refine ⟨rfl, congrArg (fun x => some (Value.int x)) ?_, ?_, zfr.rf⟩; (rw [sp_suit, if_pos (g1), if_pos (show t 35 1 = 4 by omega)]); (rw [st_suit, if_pos (g1), if_pos (show t 35 1 = 4 by omega)]; exact hS))
      | (refine ⟨rfl, congrArg (fun x => some (Value.int x)) ?_, ?_, hF⟩; (rw [sp_suit, if_pos (g1), if_neg (show ¬ t 35 1 = 4 by omega)]); (rw [st_suit, if_pos (g1), if_neg (show ¬ t 35 1 = 4 by omega), tn_nI (show k < 2147483648 by omega)]; exact hS1))
      | fail "leaf"
    · refine r_aload_n dX4_suit_24 rfl rfl ?_
      refine r_getR fl_X4_10 dX4_suit_25 sh_0 rfl ?_
      refine r_iload_n dX4_suit_28 rfl rfl ?_
      refine r_cV1G mv_X3_addSuit ml_X4_67 (c3_addSuit l hS hn (by omega)) dX4_suit_29 (Nat.le_of_ble_eq_true rfl) ⟨by decide, by decide⟩ ⟨by decide, by decide⟩ sh_1 rfl (fun _ h => nomatch h) (fun v M1 hq => ?_)
      obtain ⟨rfl, hS1, hF⟩ := hq
      dsimp only [zrst, List.cons_append, List.nil_append]
      refine r_goto (tgt := 37) dX4_suit_32 (by decide) ?_
      refine r_iret dX4_suit_37 rfl (by decide) (by decide) ?_
      first
      | (refine ⟨rfl, congrArg (fun x => some (Value.int x)) ?_, ?_, zfr.rf⟩; (rw [sp_suit, if_pos (g1), if_pos (show t 35 1 = 4 by omega)]); (rw [st_suit, if_pos (g1), if_pos (show t 35 1 = 4 by omega)]; exact hS))
      | (refine ⟨rfl, congrArg (fun x => some (Value.int x)) ?_, ?_, hF⟩; (rw [sp_suit, if_pos (g1), if_neg (show ¬ t 35 1 = 4 by omega)]); (rw [st_suit, if_pos (g1), if_neg (show ¬ t 35 1 = 4 by omega), tn_nI (show k < 2147483648 by omega)]; exact hS1))
      | fail "leaf"
  · have c1 : ¬ ((0 : Int) ≤ x.toInt ∧ x.toInt ≤ (199 : Int)) := c1
    have b1 : ¬ (0 ≤ x.toInt ∧ x.toInt ≤ 199) := by omega
    refine r_iconst (v := (-1)) dX4_suit_11 rfl ?_
    refine r_iret dX4_suit_12 rfl (by decide) (by decide) ?_
    refine ⟨rfl, congrArg (fun x => some (Value.int x)) ?_, ?_, zfr.rf⟩
    · rw [sp_suit, if_neg]
      intro h9; first | exact absurd h9 (by assumption) | exact absurd h9.1 (by assumption) | exact absurd h9.2 (by assumption) | exact absurd h9.2.1 (by assumption) | exact absurd h9.2.2 (by assumption) | exact absurd h9.2.2.1 (by assumption) | exact absurd h9.2.2.2 (by assumption) | exact absurd h9.2.2.2.1 (by assumption) | exact absurd h9.2.2.2.2 (by assumption)
    · rw [st_suit, if_neg]
      · exact hS
      · intro h9; first | exact absurd h9 (by assumption) | exact absurd h9.1 (by assumption) | exact absurd h9.2 (by assumption) | exact absurd h9.2.1 (by assumption) | exact absurd h9.2.2 (by assumption) | exact absurd h9.2.2.1 (by assumption) | exact absurd h9.2.2.2 (by assumption) | exact absurd h9.2.2.2.1 (by assumption) | exact absurd h9.2.2.2.2 (by assumption)

set_option maxHeartbeats 4000000 in
set_option maxRecDepth 100000 in
theorem c5_notes (l : Launch) {rw : List zC} {M0 : zM} {t : Nat → Nat → Nat} (hR : RI t M0) (hkn : t 34 7 ≤ 8) : CT l false 0 0 0 yX5_notes cX5_notes 3 none [.ref 34] (zSh ++ rw) M0 (zG (zSh ++ rw) (fun v M9 => v = none ∧ RI (st_notes t) M9 ∧ zfr PR M0 M9)) := by
  refine CT.ofN (by decide) (fun _ _ => Nat.le_of_ble_eq_true rfl) ?_
  have hF : zfr PR M0 M0 := zfr.rf
  have hk7 := nk1_le hkn
  have rest : ∀ (M : zM), RI (tq t 0) M → zfr PR M0 M → RA l none (zR 0 0 0) yX5_notes cX5_notes 3 none (zG (zSh ++ rw) (fun v M9 => v = none ∧ RI (st_notes t) M9 ∧ zfr PR M0 M9)) 0 0 46 [some (.ref 34), none, none] [] (zSh ++ rw) M := by
    intro M hR hF
    refine r_bipush (v := nI 44) dX5_notes_46 rfl ?_
    refine r_aload_n dX5_notes_48 rfl rfl ?_
    refine r_getV fl_X5_89 dX5_notes_49 sh_34 rfl (hR.a34 _) ?_
    refine r_top (v' := .int (nI (nk1 t))) rfl ?_
    first | refine r_imulN dX5_notes_52 ?_ | refine r_imul dX5_notes_52 ?_
    refine r_istore_n dX5_notes_53 rfl rfl (by decide) ?_
    refine r_aload_n dX5_notes_54 rfl rfl ?_
    refine r_getR fl_X5_19 dX5_notes_55 sh_34 rfl ?_
    refine r_iload_n dX5_notes_58 rfl rfl ?_
    refine r_aload_n dX5_notes_59 rfl rfl ?_
    refine r_getR fl_X5_7 dX5_notes_60 sh_34 rfl ?_
    refine r_iconst (v := nI 2) dX5_notes_63 rfl ?_
    refine r_ialdN dX5_notes_64 sh_35 (by omega) (by decide) (hR.a35 _) ?_
    refine r_Rast dX5_notes_65 sh_38 (by omega) (by decide) hR (by decide) (fun M hR hF1 => ?_)
    have hF := hF.trans hF1
    have hR : RI (tq t 1) M := by rw [← tq_succ (t := t) (k := 0) (v := t 35 2) rfl]; exact hR
    refine r_aload_n dX5_notes_66 rfl rfl ?_
    refine r_getR fl_X5_19 dX5_notes_67 sh_34 rfl ?_
    refine r_iload_n dX5_notes_70 rfl rfl ?_
    refine r_iconst (v := nI 1) dX5_notes_71 rfl ?_
    first | refine r_iaddN dX5_notes_72 ?_ | refine r_iadd dX5_notes_72 ?_
    refine r_aload_n dX5_notes_73 rfl rfl ?_
    refine r_getR fl_X5_7 dX5_notes_74 sh_34 rfl ?_
    refine r_iconst (v := nI 3) dX5_notes_77 rfl ?_
    refine r_ialdN dX5_notes_78 sh_35 (by omega) (by decide) (hR.a35 _) ?_
    refine r_Rast dX5_notes_79 sh_38 (by omega) (by decide) hR (by decide) (fun M hR hF1 => ?_)
    have hF := hF.trans hF1
    have hR : RI (tq t 2) M := by rw [← tq_succ (t := t) (k := 1) (v := t 35 3) rfl]; exact hR
    refine r_aload_n dX5_notes_80 rfl rfl ?_
    refine r_getR fl_X5_19 dX5_notes_81 sh_34 rfl ?_
    refine r_iload_n dX5_notes_84 rfl rfl ?_
    refine r_iconst (v := nI 2) dX5_notes_85 rfl ?_
    first | refine r_iaddN dX5_notes_86 ?_ | refine r_iadd dX5_notes_86 ?_
    refine r_aload_n dX5_notes_87 rfl rfl ?_
    refine r_getR fl_X5_7 dX5_notes_88 sh_34 rfl ?_
    refine r_bipush (v := nI 6) dX5_notes_91 rfl ?_
    refine r_ialdN dX5_notes_93 sh_35 (by omega) (by decide) (hR.a35 _) ?_
    refine r_Rast dX5_notes_94 sh_38 (by omega) (by decide) hR (by decide) (fun M hR hF1 => ?_)
    have hF := hF.trans hF1
    have hR : RI (tq t 3) M := by rw [← tq_succ (t := t) (k := 2) (v := t 35 6) rfl]; exact hR
    refine r_aload_n dX5_notes_95 rfl rfl ?_
    refine r_getR fl_X5_19 dX5_notes_96 sh_34 rfl ?_
    refine r_iload_n dX5_notes_99 rfl rfl ?_
    refine r_iconst (v := nI 3) dX5_notes_100 rfl ?_
    first | refine r_iaddN dX5_notes_101 ?_ | refine r_iadd dX5_notes_101 ?_
    refine r_aload_n dX5_notes_102 rfl rfl ?_
    refine r_getR fl_X5_7 dX5_notes_103 sh_34 rfl ?_
    refine r_bipush (v := nI 7) dX5_notes_106 rfl ?_
    refine r_ialdN dX5_notes_108 sh_35 (by omega) (by decide) (hR.a35 _) ?_
    refine r_Rast dX5_notes_109 sh_38 (by omega) (by decide) hR (by decide) (fun M hR hF1 => ?_)
    have hF := hF.trans hF1
    have hR : RI (tq t 4) M := by rw [← tq_succ (t := t) (k := 3) (v := t 35 7) rfl]; exact hR
    refine r_iconst (v := nI 0) dX5_notes_110 rfl ?_
    refine r_istore_n dX5_notes_111 rfl rfl (by decide) ?_
    have loop2 : ∀ (j k : Nat) (M : zM) (hR : RI (tq t (4 + k)) M) (hF : zfr PR M0 M), k ≤ 40 → 40 < k + j → RA l none (zR 0 0 0) yX5_notes cX5_notes 3 none (zG (zSh ++ rw) (fun v M9 => v = none ∧ RI (st_notes t) M9 ∧ zfr PR M0 M9)) 0 0 112 [some (.ref 34), some (.int (nI (44 * nk1 t))), some (.int (nI k))] [] (zSh ++ rw) M := by
      intro j
      induction j with
      | zero => intro k M hR hF hk hj; exact absurd hj (by omega)
      | succ j ih =>
        intro k M hR hF hk hj
        refine r_iload_n dX5_notes_112 rfl rfl ?_
        refine r_bipush (v := nI 40) dX5_notes_113 rfl ?_
        first | refine r_icmp_geN (tgt := 143) dX5_notes_115 (by decide) (by omega) (by omega) (fun c1 => ?_) (fun c1 => ?_) | refine r_icmp_ge (tgt := 143) dX5_notes_115 (by decide) (fun c1 => ?_) (fun c1 => ?_)
        · refine r_aload_n dX5_notes_143 rfl rfl ?_
          refine r_dup dX5_notes_144 rfl ?_
          refine r_getV fl_X5_89 dX5_notes_145 sh_34 rfl (hR.a34 _) ?_
          refine r_top (v' := .int (nI (nk1 t))) rfl ?_
          refine r_iconst (v := nI 1) dX5_notes_148 rfl ?_
          first | refine r_iaddN dX5_notes_149 ?_ | refine r_iadd dX5_notes_149 ?_
          refine r_Rput fl_X5_89 dX5_notes_150 rfl rfl sh_34 rfl hR (fun M hR hF1 => ?_)
          have hF := hF.trans hF1
          refine r_vret dX5_notes_153 rfl (by decide) (by decide) ?_
          have e40 : k = 40 := by omega
          subst e40
          exact ⟨rfl, rfl, hR, hF⟩
        · have hnr : t 35 (49 + k) = nrow (t 35) (4 + k) := by unfold nrow; rw [if_neg (by omega), if_neg (by omega), if_neg (by omega), if_neg (by omega), show 4 + k - 4 = k by omega]
          refine r_aload_n dX5_notes_118 rfl rfl ?_
          refine r_getR fl_X5_19 dX5_notes_119 sh_34 rfl ?_
          refine r_iload_n dX5_notes_122 rfl rfl ?_
          refine r_iconst (v := nI 4) dX5_notes_123 rfl ?_
          first | refine r_iaddN dX5_notes_124 ?_ | refine r_iadd dX5_notes_124 ?_
          refine r_iload_n dX5_notes_125 rfl rfl ?_
          first | refine r_iaddN dX5_notes_126 ?_ | refine r_iadd dX5_notes_126 ?_
          refine r_aload_n dX5_notes_127 rfl rfl ?_
          refine r_getR fl_X5_7 dX5_notes_128 sh_34 rfl ?_
          refine r_bipush (v := nI 49) dX5_notes_131 rfl ?_
          refine r_iload_n dX5_notes_133 rfl rfl ?_
          first | refine r_iaddN dX5_notes_134 ?_ | refine r_iadd dX5_notes_134 ?_
          refine r_ialdN dX5_notes_135 sh_35 (by omega) (by decide) (hR.a35 _) ?_
          refine r_Rast dX5_notes_136 sh_38 (by omega) (by decide) hR (by decide) (fun M hR hF1 => ?_)
          have hF := hF.trans hF1
          first | refine r_iincN dX5_notes_137 rfl rfl (by decide) ?_ | refine r_iinc dX5_notes_137 rfl rfl rfl (by decide) ?_
          refine r_goto (tgt := 112) dX5_notes_140 (by decide) ?_
          rw [show 44 * nk1 t + 4 + k = 44 * nk1 t + (4 + k) by omega] at hR
          have hR : RI (tq t (4 + k + 1)) M := by rw [← tq_succ (t := t) (k := 4 + k) (v := t 35 (49 + k)) hnr]; exact hR
          exact ih (k + 1) M hR hF (by omega) (by omega)
    exact loop2 (40 + 1) 0 M hR hF (Nat.zero_le _) (by omega)
  refine r_aload_n dX5_notes_0 rfl rfl ?_
  refine r_getV fl_X5_89 dX5_notes_1 sh_34 rfl (hR.a34 _) ?_
  refine r_bipush (v := nI 8) dX5_notes_4 rfl ?_
  first | refine r_icmp_neN (tgt := 46) dX5_notes_6 (by decide) (by omega) (by omega) (fun c1 => ?_) (fun c1 => ?_) | refine r_icmp_ne (tgt := 46) dX5_notes_6 (by decide) (fun c1 => ?_) (fun c1 => ?_)
  · exact rest M0 (by rw [tq_0 c1]; exact hR) hF
  · have h8 : t 34 7 = 8 := c1
    refine r_bipush (v := nI 44) dX5_notes_9 rfl ?_
    refine r_istore_n dX5_notes_11 rfl rfl (by decide) ?_
    have loop : ∀ (j k : Nat) (M : zM) (h44 : 44 ≤ k) (hR : RI (tsh t k) M) (hF : zfr PR M0 M), k ≤ 352 → 352 < k + j → RA l none (zR 0 0 0) yX5_notes cX5_notes 3 none (zG (zSh ++ rw) (fun v M9 => v = none ∧ RI (st_notes t) M9 ∧ zfr PR M0 M9)) 0 0 12 [some (.ref 34), some (.int (nI k)), none] [] (zSh ++ rw) M := by
      intro j
      induction j with
      | zero => intro k M h44 hR hF hk hj; exact absurd hj (by omega)
      | succ j ih =>
        intro k M h44 hR hF hk hj
        refine r_iload_n dX5_notes_12 rfl rfl ?_
        refine r_sipush (v := nI 352) dX5_notes_13 rfl ?_
        first | refine r_icmp_geN (tgt := 40) dX5_notes_16 (by decide) (by omega) (by omega) (fun c1 => ?_) (fun c1 => ?_) | refine r_icmp_ge (tgt := 40) dX5_notes_16 (by decide) (fun c1 => ?_) (fun c1 => ?_)
        · refine r_aload_n dX5_notes_40 rfl rfl ?_
          refine r_bipush (v := nI 7) dX5_notes_41 rfl ?_
          refine r_Rput fl_X5_89 dX5_notes_43 rfl rfl sh_34 rfl hR (fun M hR hF1 => ?_)
          have hF := hF.trans hF1
          refine r_lfor 1 ?_
          have e9 : k = 352 := by omega
          subst e9
          rw [tsh_tq h8] at hR
          exact rest M hR hF
        · refine r_aload_n dX5_notes_19 rfl rfl ?_
          refine r_getR fl_X5_19 dX5_notes_20 sh_34 rfl ?_
          refine r_iload_n dX5_notes_23 rfl rfl ?_
          refine r_bipush (v := nI 44) dX5_notes_24 rfl ?_
          first | refine r_isubN dX5_notes_26 (by omega) ?_ | refine r_isub dX5_notes_26 ?_
          refine r_aload_n dX5_notes_27 rfl rfl ?_
          refine r_getR fl_X5_19 dX5_notes_28 sh_34 rfl ?_
          refine r_iload_n dX5_notes_31 rfl rfl ?_
          refine r_ialdN dX5_notes_32 sh_38 (by omega) (by decide) (hR.a38 _) ?_
          refine r_top (v' := .int (nI (t 38 k))) (congrArg (fun z => Value.int (nI z)) tsh_at) ?_
          refine r_Rast dX5_notes_33 sh_38 (by omega) (by decide) hR (by decide) (fun M hR hF1 => ?_)
          have hF := hF.trans hF1
          first | refine r_iincN dX5_notes_34 rfl rfl (by decide) ?_ | refine r_iinc dX5_notes_34 rfl rfl rfl (by decide) ?_
          refine r_goto (tgt := 12) dX5_notes_37 (by decide) ?_
          rw [tsh_succ h44] at hR
          exact ih (k + 1) M (by omega) hR hF (by omega) (by omega)
    exact loop (352 + 1) 44 M0 (by decide) (by rw [tsh_0]; exact hR) hF (by decide) (by decide)

set_option maxHeartbeats 4000000 in
set_option maxRecDepth 100000 in
theorem c3_remember (l : Launch) {rw : List zC} {M0 : zM} {t : Nat → Nat → Nat} (hS : SI 1 (t 35) (t 38) (t 34 7) M0) (hkn : t 34 7 ≤ 8) : CT l false 1 0 0 yX3_remember cX3_remember 2 none [.ref 1] (zSh ++ rw) M0 (zG (zSh ++ rw) (fun v M9 => v = none ∧ SI 1 (st_notes t 35) (st_notes t 38) (st_notes t 34 7) M9 ∧ zfr (fun i => i = 1 ∨ i = 9) M0 M9)) := by
  refine CT.ofN (by decide) (fun _ _ => Nat.le_of_ble_eq_true rfl) ?_
  have hk7 := nk1_le hkn
  have rest : ∀ (M : zM), SI 1 (t 35) (nu1 t) (nk1 t) M → zfr (fun i => i = 1 ∨ i = 9) M0 M → RA l none (zR 1 0 0) yX3_remember cX3_remember 2 none (zG (zSh ++ rw) (fun v M9 => v = none ∧ SI 1 (st_notes t 35) (st_notes t 38) (st_notes t 34 7) M9 ∧ zfr (fun i => i = 1 ∨ i = 9) M0 M9)) 0 0 35 [some (.ref 1), none] [] (zSh ++ rw) M := by
    intro M hS hF
    refine r_aload_n dX3_remember_35 rfl rfl ?_
    refine r_getV fl_X3_59 dX3_remember_36 sh_1 rfl hS.f5 ?_
    refine r_iconst (v := nI 4) dX3_remember_39 rfl ?_
    first | refine r_imulN dX3_remember_40 ?_ | refine r_imul dX3_remember_40 ?_
    refine r_istore_n dX3_remember_41 rfl rfl (by decide) ?_
    refine r_aload_n dX3_remember_42 rfl rfl ?_
    refine r_getR fl_X3_43 dX3_remember_43 sh_1 rfl ?_
    refine r_iload_n dX3_remember_46 rfl rfl ?_
    refine r_aload_n dX3_remember_47 rfl rfl ?_
    refine r_getV fl_X3_56 dX3_remember_48 sh_1 rfl hS.f2 ?_
    refine r_iastN dX3_remember_51 sh_9 (by omega) (by decide) ?_
    refine r_aload_n dX3_remember_52 rfl rfl ?_
    refine r_getR fl_X3_43 dX3_remember_53 sh_1 rfl ?_
    refine r_iload_n dX3_remember_56 rfl rfl ?_
    refine r_iconst (v := nI 1) dX3_remember_57 rfl ?_
    first | refine r_iaddN dX3_remember_58 ?_ | refine r_iadd dX3_remember_58 ?_
    refine r_aload_n dX3_remember_59 rfl rfl ?_
    refine r_getV fl_X3_65 dX3_remember_60 sh_1 rfl hS.f3 ?_
    refine r_iastN dX3_remember_63 sh_9 (by omega) (by decide) ?_
    refine r_aload_n dX3_remember_64 rfl rfl ?_
    refine r_getR fl_X3_43 dX3_remember_65 sh_1 rfl ?_
    refine r_iload_n dX3_remember_68 rfl rfl ?_
    refine r_iconst (v := nI 2) dX3_remember_69 rfl ?_
    first | refine r_iaddN dX3_remember_70 ?_ | refine r_iadd dX3_remember_70 ?_
    refine r_aload_n dX3_remember_71 rfl rfl ?_
    refine r_getV fl_X3_62 dX3_remember_72 sh_1 rfl hS.f4 ?_
    refine r_iastN dX3_remember_75 sh_9 (by omega) (by decide) ?_
    refine r_aload_n dX3_remember_76 rfl rfl ?_
    refine r_getR fl_X3_43 dX3_remember_77 sh_1 rfl ?_
    refine r_iload_n dX3_remember_80 rfl rfl ?_
    refine r_iconst (v := nI 3) dX3_remember_81 rfl ?_
    first | refine r_iaddN dX3_remember_82 ?_ | refine r_iadd dX3_remember_82 ?_
    refine r_aload_n dX3_remember_83 rfl rfl ?_
    refine r_getV fl_X3_18 dX3_remember_84 sh_1 rfl hS.f8 ?_
    refine r_iastN dX3_remember_87 sh_9 (by omega) (by decide) ?_
    refine r_aload_n dX3_remember_88 rfl rfl ?_
    refine r_dup dX3_remember_89 rfl ?_
    refine r_getV fl_X3_59 dX3_remember_90 sh_1 rfl hS.f5 ?_
    refine r_iconst (v := nI 1) dX3_remember_93 rfl ?_
    first | refine r_iaddN dX3_remember_94 ?_ | refine r_iadd dX3_remember_94 ?_
    refine r_putI fl_X3_59 dX3_remember_95 rfl rfl sh_1 rfl ?_
    refine r_vret dX3_remember_98 rfl (by decide) (by decide) ?_
    exact ⟨rfl, rfl, SI_note hS rfl rfl (fun c h1 h2 => by rcases (show c = 2 ∨ c = 3 ∨ c = 4 ∨ c = 5 ∨ c = 6 ∨ c = 7 ∨ c = 8 by omega) with rfl | rfl | rfl | rfl | rfl | rfl | rfl <;> rfl), hF.trans (zfr.trans (zfr.trans (zfr.trans (zfr.trans (zfr.trans zfr.rf (zfr_I (by simp))) (zfr_I (by simp))) (zfr_I (by simp))) (zfr_I (by simp))) (zfr_I (by simp)))⟩
  refine r_aload_n dX3_remember_0 rfl rfl ?_
  refine r_getV fl_X3_59 dX3_remember_1 sh_1 rfl hS.f5 ?_
  refine r_bipush (v := nI 8) dX3_remember_4 rfl ?_
  first | refine r_icmp_ltN (tgt := 35) dX3_remember_6 (by decide) (by omega) (by omega) (fun c1 => ?_) (fun c1 => ?_) | refine r_icmp_lt (tgt := 35) dX3_remember_6 (by decide) (fun c1 => ?_) (fun c1 => ?_)
  · have h8 : ¬ t 34 7 = 8 := by omega
    exact rest M0 (by rw [nu1_no h8, nk1_no h8]; exact hS) zfr.rf
  · have h8 : t 34 7 = 8 := by omega
    refine r_aload_n dX3_remember_9 rfl rfl ?_
    refine r_getR fl_X3_43 dX3_remember_10 sh_1 rfl ?_
    refine r_iconst (v := nI 4) dX3_remember_13 rfl ?_
    refine r_aload_n dX3_remember_14 rfl rfl ?_
    refine r_getR fl_X3_43 dX3_remember_15 sh_1 rfl ?_
    refine r_iconst (v := nI 0) dX3_remember_18 rfl ?_
    refine r_aload_n dX3_remember_19 rfl rfl ?_
    refine r_getR fl_X3_43 dX3_remember_20 sh_1 rfl ?_
    refine r_alen (v := nI 32) dX3_remember_23 sh_9 rfl ?_
    refine r_iconst (v := nI 4) dX3_remember_24 rfl ?_
    first | refine r_isubN dX3_remember_25 (by omega) ?_ | refine r_isub dX3_remember_25 ?_
    refine r_copyi ml_X3_100 dX3_remember_26 sh_9 sh_9 (by decide) (by decide) (by decide) (by decide) (by decide) (by decide) (Nat.le_of_ble_eq_true rfl) ?_
    refine r_aload_n dX3_remember_29 rfl rfl ?_
    refine r_bipush (v := nI 7) dX3_remember_30 rfl ?_
    refine r_putI fl_X3_59 dX3_remember_32 rfl rfl sh_1 rfl ?_
    exact rest _ (SI_shift hS h8 rfl rfl (fun c h1 h2 => by rcases (show c = 2 ∨ c = 3 ∨ c = 4 ∨ c = 5 ∨ c = 6 ∨ c = 7 ∨ c = 8 by omega) with rfl | rfl | rfl | rfl | rfl | rfl | rfl <;> rfl)) (zfr.trans (zfr.trans zfr.rf (zfr_I (by simp))) (zfr_I (by simp)))

