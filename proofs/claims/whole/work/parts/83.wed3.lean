theorem nI_ne4 {b : Nat} (h : b < 2147483648) : ¬ nI b = -4 := fun e => by
  have h2 : (nI b).toInt = (-4 : Int32).toInt := congrArg Int32.toInt e
  rw [nI_toInt h] at h2
  have h3 : (-4 : Int32).toInt = -4 := by decide
  omega
set_option maxHeartbeats 4000000 in
set_option maxRecDepth 100000 in
theorem c5p_wedding (l : Launch) {rw : List zC} {M : zM} {t : Nat → Nat → Nat} (hR : RI t M) (hn : NB (t 35)) (x z v w : Int32) : CT l false 5 0 0 yX5_wedding cX5_wedding 9 (some .int) [.ref 34, .int x, .int z, .int v, .int w] (zSh ++ rw) M (zF (some (.int (sp_wedding (t 35) x z v w))) (zSh ++ rw) M) := by
  refine CT.ofN (by decide) (fun _ _ => Nat.le_of_ble_eq_true rfl) ?_
  have hdd := hn.2.2.2.2.2.2.2.2.2.2.2
  have hkd := hn.2.2.2.2.2.2.2.2.1
  have how := hn.2.2.2.2.2.2.2.2.2.1
  have hcu := hn.2.2.2.2.2.2.2.2.2.2.1
  have hb0 := hn.1
  have hb1 := hn.2.1
  have hb2 := hn.2.2.1
  have hb3 := hn.2.2.2.1
  have hb4 := hn.2.2.2.2.1
  have hb5 := hn.2.2.2.2.2.1
  have hb6 := hn.2.2.2.2.2.2.1
  refine r_aload_n dX5_wedding_0 rfl rfl ?_
  refine r_iload_n dX5_wedding_1 rfl rfl ?_
  refine r_cV1F mv_X5_isPerson ml_X5_93 (c5_isPerson l hR (by omega) _) dX5_wedding_2 (Nat.le_of_ble_eq_true rfl) ⟨by decide, by decide⟩ ⟨by decide, by decide⟩ sh_34 rfl (fun _ h => nomatch h) ?_
  try dsimp only [zrst, List.cons_append, List.nil_append]
  first | refine r_if_eqB (tgt := 39) dX5_wedding_5 (by decide) (fun c1 => ?_) (fun c1 => ?_) | refine r_if_eqN (tgt := 39) dX5_wedding_5 (by decide) (by omega) (fun c1 => ?_) (fun c1 => ?_) | refine r_if_eq (tgt := 39) dX5_wedding_5 (by decide) (fun c1 => ?_) (fun c1 => ?_)
  · have b1 : ¬ (0 ≤ x.toInt ∧ x.toInt < (t 35 0 : Int)) := by omega
    refine r_iconst (v := (-1)) dX5_wedding_39 rfl ?_
    refine r_iret dX5_wedding_40 rfl (by decide) (by decide) ?_
    exact ⟨congrArg (fun x => some (Value.int x)) (if_neg (fun h => by first | exact absurd h (by assumption) | exact absurd h.1 (by assumption) | exact absurd h.2 (by assumption) | exact absurd h.2.1 (by assumption) | exact absurd h.2.2 (by assumption) | exact absurd h.2.2.1 (by assumption) | exact absurd h.2.2.2 (by assumption) | exact absurd h.2.2.2.1 (by assumption) | exact absurd h.2.2.2.2 (by assumption))).symm, rfl, rfl⟩
  · have g1 : 0 ≤ x.toInt ∧ x.toInt < (t 35 0 : Int) := by omega
    obtain ⟨p, hp, rfl⟩ := arg_nat (n := t 35 0) (show 0 ≤ x.toInt ∧ x.toInt < ((t 35 0 : Nat) : Int) by omega)
    refine r_aload_n dX5_wedding_8 rfl rfl ?_
    refine r_iload_n dX5_wedding_9 rfl rfl ?_
    refine r_cV1F mv_X5_isSuit ml_X5_102 (c5_isSuit l hR (by omega) _) dX5_wedding_10 (Nat.le_of_ble_eq_true rfl) ⟨by decide, by decide⟩ ⟨by decide, by decide⟩ sh_34 rfl (fun _ h => nomatch h) ?_
    try dsimp only [zrst, List.cons_append, List.nil_append]
    first | refine r_if_eqB (tgt := 39) dX5_wedding_13 (by decide) (fun c2 => ?_) (fun c2 => ?_) | refine r_if_eqN (tgt := 39) dX5_wedding_13 (by decide) (by omega) (fun c2 => ?_) (fun c2 => ?_) | refine r_if_eq (tgt := 39) dX5_wedding_13 (by decide) (fun c2 => ?_) (fun c2 => ?_)
    · have b2 : ¬ (0 ≤ z.toInt ∧ z.toInt < (t 35 1 : Int)) := by omega
      refine r_iconst (v := (-1)) dX5_wedding_39 rfl ?_
      refine r_iret dX5_wedding_40 rfl (by decide) (by decide) ?_
      exact ⟨congrArg (fun x => some (Value.int x)) (if_neg (fun h => by first | exact absurd h (by assumption) | exact absurd h.1 (by assumption) | exact absurd h.2 (by assumption) | exact absurd h.2.1 (by assumption) | exact absurd h.2.2 (by assumption) | exact absurd h.2.2.1 (by assumption) | exact absurd h.2.2.2 (by assumption) | exact absurd h.2.2.2.1 (by assumption) | exact absurd h.2.2.2.2 (by assumption))).symm, rfl, rfl⟩
    · have g2 : 0 ≤ z.toInt ∧ z.toInt < (t 35 1 : Int) := by omega
      obtain ⟨q, hq, rfl⟩ := arg_nat (n := t 35 1) (show 0 ≤ z.toInt ∧ z.toInt < ((t 35 1 : Nat) : Int) by omega)
      refine r_iload_n dX5_wedding_16 rfl rfl ?_
      refine r_i2l dX5_wedding_17 rfl ?_
      refine r_lconst (v := 0) dX5_wedding_18 rfl ?_
      refine r_ldc2 kc_X5_87 dX5_wedding_19 ?_
      refine r_cS3F ms_X5_in ml_X5_41 (c5_in l _ _ _) dX5_wedding_22 (Nat.le_of_ble_eq_true rfl) ⟨by decide, by decide⟩ ⟨by decide, by decide⟩ (fun _ h => nomatch h) ?_
      try dsimp only [zrst, List.cons_append, List.nil_append]
      first | refine r_if_eqB (tgt := 39) dX5_wedding_25 (by decide) (fun c3 => ?_) (fun c3 => ?_) | refine r_if_eqN (tgt := 39) dX5_wedding_25 (by decide) (by omega) (fun c3 => ?_) (fun c3 => ?_) | refine r_if_eq (tgt := 39) dX5_wedding_25 (by decide) (fun c3 => ?_) (fun c3 => ?_)
      · rw [i64_of32] at c3
        have c3 : ¬ ((0 : Int) ≤ v.toInt ∧ v.toInt ≤ (99 : Int)) := c3
        have b3 : ¬ (0 ≤ v.toInt ∧ v.toInt ≤ 99) := by omega
        refine r_iconst (v := (-1)) dX5_wedding_39 rfl ?_
        refine r_iret dX5_wedding_40 rfl (by decide) (by decide) ?_
        exact ⟨congrArg (fun x => some (Value.int x)) (if_neg (fun h => by first | exact absurd h (by assumption) | exact absurd h.1 (by assumption) | exact absurd h.2 (by assumption) | exact absurd h.2.1 (by assumption) | exact absurd h.2.2 (by assumption) | exact absurd h.2.2.1 (by assumption) | exact absurd h.2.2.2 (by assumption) | exact absurd h.2.2.2.1 (by assumption) | exact absurd h.2.2.2.2 (by assumption))).symm, rfl, rfl⟩
      · rw [i64_of32] at c3
        have c3 : ((0 : Int) ≤ v.toInt ∧ v.toInt ≤ (99 : Int)) := c3
        have g3 : 0 ≤ v.toInt ∧ v.toInt ≤ 99 := by omega
        obtain ⟨N, hN1, hN2, rfl⟩ := arg_rng (a := 0) (b := 99) (show ((0 : Nat) : Int) ≤ v.toInt ∧ v.toInt ≤ ((99 : Nat) : Int) by omega)
        refine r_iload dX5_wedding_28 rfl ?_
        refine r_i2l dX5_wedding_30 rfl ?_
        refine r_lconst (v := 0) dX5_wedding_31 rfl ?_
        refine r_lconst (v := 1) dX5_wedding_32 rfl ?_
        refine r_cS3F ms_X5_in ml_X5_41 (c5_in l _ _ _) dX5_wedding_33 (Nat.le_of_ble_eq_true rfl) ⟨by decide, by decide⟩ ⟨by decide, by decide⟩ (fun _ h => nomatch h) ?_
        try dsimp only [zrst, List.cons_append, List.nil_append]
        first | refine r_if_neB (tgt := 41) dX5_wedding_36 (by decide) (fun c4 => ?_) (fun c4 => ?_) | refine r_if_neN (tgt := 41) dX5_wedding_36 (by decide) (by omega) (fun c4 => ?_) (fun c4 => ?_) | refine r_if_ne (tgt := 41) dX5_wedding_36 (by decide) (fun c4 => ?_) (fun c4 => ?_)
        · rw [i64_of32] at c4
          have c4 : ((0 : Int) ≤ w.toInt ∧ w.toInt ≤ (1 : Int)) := c4
          have g4 : 0 ≤ w.toInt ∧ w.toInt ≤ 1 := by omega
          obtain ⟨wh, hwh1, hwh2, rfl⟩ := arg_rng (a := 0) (b := 1) (show ((0 : Nat) : Int) ≤ w.toInt ∧ w.toInt ≤ ((1 : Nat) : Int) by omega)
          refine r_aload_n dX5_wedding_41 rfl rfl ?_
          refine r_iload_n dX5_wedding_42 rfl rfl ?_
          refine r_cV1F mv_X5_deedsOf ml_X5_110 (c5_deedsOf l hR hn (by omega)) dX5_wedding_43 (Nat.le_of_ble_eq_true rfl) ⟨by decide, by decide⟩ ⟨by decide, by decide⟩ sh_34 rfl (fun _ h => nomatch h) ?_
          try dsimp only [zrst, List.cons_append, List.nil_append]
          refine r_aload_n dX5_wedding_46 rfl rfl ?_
          refine r_getR fl_X5_7 dX5_wedding_47 sh_34 rfl ?_
          refine r_bipush (v := nI 6) dX5_wedding_50 rfl ?_
          refine r_ialdN dX5_wedding_52 sh_35 (by omega) (by decide) (hR.a35 _) ?_
          refine r_iconst (v := (-1)) dX5_wedding_53 rfl ?_
          refine r_ixor dX5_wedding_54 ?_
          refine r_iand dX5_wedding_55 ?_
          rw [nand_may (s := dof (t 35) p) (Nat.lt_of_lt_of_le (dofk_lt (n := t 35) (p := p) (t 35 2)) (pw_le hb2))]
          refine r_top (v' := .int (nI ((mayN (t 35) p)))) rfl ?_
          refine r_istore dX5_wedding_56 rfl (by decide) ?_
          refine r_bipush (v := (-4)) dX5_wedding_58 rfl ?_
          refine r_istore dX5_wedding_60 rfl (by decide) ?_
          refine r_iconst (v := nI 0) dX5_wedding_62 rfl ?_
          refine r_istore dX5_wedding_63 rfl (by decide) ?_
          have hml := may_lt (n := t 35) (p := p)
          have hp2 := pw_le hb2
          have loop : ∀ (j k : Nat) , k ≤ ((mayN (t 35) p) + 1) → ((mayN (t 35) p) + 1) < k + j → RA l none (zR 5 0 0) yX5_wedding cX5_wedding 9 (some .int) (zF (some (.int (sp_wedding (t 35) (nI p) (nI q) (nI N) (nI wh)))) (zSh ++ rw) M) 0 0 65 [some (.ref 34), some (.int (nI p)), some (.int (nI q)), some (.int (nI N)), some (.int (nI wh)), some (.int (nI (mayN (t 35) p))), some (.int (fwv (wk (t 35) p q (t 35 3 + N) k))), some (.int (nI k)), none] [] (zSh ++ rw) M := by
            intro j
            induction j with
            | zero => intro k   hk hj; exact absurd hj (by omega)
            | succ j ih =>
              intro k   hk hj
              refine r_iload dX5_wedding_65 rfl ?_
              refine r_iload dX5_wedding_67 rfl ?_
              first | refine r_icmp_gtN (tgt := 156) dX5_wedding_69 (by decide) (by omega) (by omega) (fun c1 => ?_) (fun c1 => ?_) | refine r_icmp_gt (tgt := 156) dX5_wedding_69 (by decide) (fun c1 => ?_) (fun c1 => ?_)
              · refine r_iload dX5_wedding_156 rfl ?_
                refine r_iconst (v := nI 1) dX5_wedding_158 rfl ?_
                have ek : k = (mayN (t 35) p) + 1 := by omega
                rcases hwk : (wk (t 35) p q (t 35 3 + N) k) with _ | b
                · refine r_icmp_eqN (tgt := 169) dX5_wedding_159 (by decide) (by omega) (by omega) (fun c8 => ?_) (fun c8 => ?_)
                  · refine r_iload dX5_wedding_169 rfl ?_
                    refine r_goto (tgt := 179) dX5_wedding_171 (by decide) ?_
                    refine r_iret dX5_wedding_179 rfl (by decide) (by decide) ?_
                    refine ⟨congrArg (fun x => some (Value.int x)) ?_, rfl, rfl⟩
                    rw [sp_wedding, if_pos ⟨g1, g2, g3, g4⟩, tn_nI (show p < 2147483648 by omega), tn_nI (show q < 2147483648 by omega), tn_nI (show N < 2147483648 by omega), tn_nI (show wh < 2147483648 by omega), ← ek, hwk, bo_wed]
                    try (first | rw [if_pos (by omega)] | rw [if_neg (by omega)])
                    try rfl
                  · refine r_iload dX5_wedding_162 rfl ?_
                    refine r_bipush (v := (-4)) dX5_wedding_164 rfl ?_
                    refine r_icmp_ne (tgt := 174) dX5_wedding_166 (by decide) (fun q9 => absurd rfl q9) (fun _ => ?_)
                    refine r_iload dX5_wedding_169 rfl ?_
                    refine r_goto (tgt := 179) dX5_wedding_171 (by decide) ?_
                    refine r_iret dX5_wedding_179 rfl (by decide) (by decide) ?_
                    refine ⟨congrArg (fun x => some (Value.int x)) ?_, rfl, rfl⟩
                    rw [sp_wedding, if_pos ⟨g1, g2, g3, g4⟩, tn_nI (show p < 2147483648 by omega), tn_nI (show q < 2147483648 by omega), tn_nI (show N < 2147483648 by omega), tn_nI (show wh < 2147483648 by omega), ← ek, hwk, bo_wed]
                    try (first | rw [if_pos (by omega)] | rw [if_neg (by omega)])
                    try rfl
                · have hb := wk_lt k hwk
                  refine r_icmp_eqN (tgt := 169) dX5_wedding_159 (by decide) (by omega) (by omega) (fun c8 => ?_) (fun c8 => ?_)
                  · refine r_iload dX5_wedding_169 rfl ?_
                    refine r_goto (tgt := 179) dX5_wedding_171 (by decide) ?_
                    refine r_iret dX5_wedding_179 rfl (by decide) (by decide) ?_
                    refine ⟨congrArg (fun x => some (Value.int x)) ?_, rfl, rfl⟩
                    rw [sp_wedding, if_pos ⟨g1, g2, g3, g4⟩, tn_nI (show p < 2147483648 by omega), tn_nI (show q < 2147483648 by omega), tn_nI (show N < 2147483648 by omega), tn_nI (show wh < 2147483648 by omega), ← ek, hwk, bo_wed]
                    try (first | rw [if_pos (by omega)] | rw [if_neg (by omega)])
                    try rfl
                  · refine r_iload dX5_wedding_162 rfl ?_
                    refine r_bipush (v := (-4)) dX5_wedding_164 rfl ?_
                    refine r_icmp_ne (tgt := 174) dX5_wedding_166 (by decide) (fun _ => ?_) (fun q9 => absurd q9 (nI_ne4 (by omega)))
                    refine r_iload dX5_wedding_174 rfl ?_
                    refine r_cS1F ms_X5_many ml_X5_183 (c5_many l (by omega)) dX5_wedding_176 (Nat.le_of_ble_eq_true rfl) ⟨by decide, by decide⟩ ⟨by decide, by decide⟩ (fun _ h => nomatch h) ?_
                    try dsimp only [zrst, List.cons_append, List.nil_append]
                    refine r_iret dX5_wedding_179 rfl (by decide) (by decide) ?_
                    refine ⟨congrArg (fun x => some (Value.int x)) ?_, rfl, rfl⟩
                    rw [sp_wedding, if_pos ⟨g1, g2, g3, g4⟩, tn_nI (show p < 2147483648 by omega), tn_nI (show q < 2147483648 by omega), tn_nI (show N < 2147483648 by omega), tn_nI (show wh < 2147483648 by omega), ← ek, hwk, bo_wed]
                    try (first | rw [if_pos (by omega)] | rw [if_neg (by omega)])
                    try rfl
              · have h1024 : k < 1024 := by omega
                have hand : k &&& (1023 ^^^ (mayN (t 35) p)) ≤ k := Nat.and_le_left
                have hor : t 35 6 ||| k < 1024 := or_lt (k := 10) hb6 h1024
                refine r_iload dX5_wedding_72 rfl ?_
                refine r_iload dX5_wedding_74 rfl ?_
                refine r_iconst (v := (-1)) dX5_wedding_76 rfl ?_
                refine r_ixor dX5_wedding_77 ?_
                refine r_iand dX5_wedding_78 ?_
                rw [nand_may h1024]
                refine r_if_neN (tgt := 133) dX5_wedding_79 (by decide) (by omega) (fun c9 => ?_) (fun c9 => ?_)
                · have hu := wk_no (n := t 35) (p := p) (s := q) (day := (t 35 3 + N)) (k := k) (fun h => c9 ((nand_sub (by omega)).mpr ((sb_may hb2 (by omega)).mp h.1)))
                  refine r_iconst (v := nI 0) dX5_wedding_133 rfl ?_
                  refine r_istore dX5_wedding_134 rfl (by decide) ?_
                  refine r_iload dX5_wedding_136 rfl ?_
                  refine r_if_eqN (tgt := 146) dX5_wedding_138 (by decide) (by decide) (fun _ => ?_) (fun q9 => absurd rfl q9)
                  refine r_iload dX5_wedding_146 rfl ?_
                  refine r_istore dX5_wedding_148 rfl (by decide) ?_
                  first | refine r_iincN dX5_wedding_150 rfl rfl (by decide) ?_ | refine r_iinc dX5_wedding_150 rfl rfl rfl (by decide) ?_
                  refine r_goto (tgt := 65) dX5_wedding_153 (by decide) ?_
                  refine r_lfor 8 ?_
                  have h9 := ih (k + 1) (by omega) (by omega)
                  rw [hu] at h9
                  exact h9
                · have hsb := (sb_may hb2 (by omega)).mpr ((nand_sub (by omega)).mp c9)
                  refine r_iload dX5_wedding_82 rfl ?_
                  refine r_bipush (v := (-4)) dX5_wedding_84 rfl ?_
                  rcases hwk : (wk (t 35) p q (t 35 3 + N) k) with _ | b
                  · refine r_icmp_eq (tgt := 102) dX5_wedding_86 (by decide) (fun _ => ?_) (fun q9 => absurd rfl q9)
                    have hbt : bet (wk (t 35) p q (t 35 3 + N) k) k = true := by rw [hwk]; rfl
                    refine r_aload_n dX5_wedding_102 rfl rfl ?_
                    refine r_iload_n dX5_wedding_103 rfl rfl ?_
                    refine r_iload_n dX5_wedding_104 rfl rfl ?_
                    refine r_aload_n dX5_wedding_105 rfl rfl ?_
                    refine r_getR fl_X5_7 dX5_wedding_106 sh_34 rfl ?_
                    refine r_iconst (v := nI 3) dX5_wedding_109 rfl ?_
                    refine r_ialdN dX5_wedding_110 sh_35 (by omega) (by decide) (hR.a35 _) ?_
                    refine r_iload_n dX5_wedding_111 rfl rfl ?_
                    first | refine r_iaddN dX5_wedding_112 ?_ | refine r_iadd dX5_wedding_112 ?_
                    refine r_aload_n dX5_wedding_113 rfl rfl ?_
                    refine r_getR fl_X5_7 dX5_wedding_114 sh_34 rfl ?_
                    refine r_bipush (v := nI 6) dX5_wedding_117 rfl ?_
                    refine r_ialdN dX5_wedding_119 sh_35 (by omega) (by decide) (hR.a35 _) ?_
                    refine r_iload dX5_wedding_120 rfl ?_
                    first | refine r_iorN dX5_wedding_122 ?_ | refine r_ior dX5_wedding_122 ?_
                    refine r_cV4F mv_X5_fits ml_X5_79 (c5_fits l hR hn hp hq (by omega) (by omega) hor) dX5_wedding_123 (Nat.le_of_ble_eq_true rfl) ⟨by decide, by decide⟩ ⟨by decide, by decide⟩ sh_34 rfl (fun _ h => nomatch h) ?_
                    try dsimp only [zrst, List.cons_append, List.nil_append]
                    refine r_if_eqB (tgt := 133) dX5_wedding_126 (by decide) (fun c9 => ?_) (fun c9 => ?_)
                    · have hu := wk_no (n := t 35) (p := p) (s := q) (day := (t 35 3 + N)) (k := k) (fun h => c9 h.2.2)
                      refine r_iconst (v := nI 0) dX5_wedding_133 rfl ?_
                      refine r_istore dX5_wedding_134 rfl (by decide) ?_
                      refine r_iload dX5_wedding_136 rfl ?_
                      refine r_if_eqN (tgt := 146) dX5_wedding_138 (by decide) (by decide) (fun _ => ?_) (fun q9 => absurd rfl q9)
                      refine r_iload dX5_wedding_146 rfl ?_
                      refine r_istore dX5_wedding_148 rfl (by decide) ?_
                      first | refine r_iincN dX5_wedding_150 rfl rfl (by decide) ?_ | refine r_iinc dX5_wedding_150 rfl rfl rfl (by decide) ?_
                      refine r_goto (tgt := 65) dX5_wedding_153 (by decide) ?_
                      refine r_lfor 8 ?_
                      have h9 := ih (k + 1) (by omega) (by omega)
                      rw [hu, hwk] at h9
                      exact h9
                    · have hu := wk_yes (n := t 35) (p := p) (s := q) (day := (t 35 3 + N)) (k := k) ⟨hsb, hbt, c9⟩
                      refine r_iconst (v := nI 1) dX5_wedding_129 rfl ?_
                      refine r_goto (tgt := 134) dX5_wedding_130 (by decide) ?_
                      refine r_istore dX5_wedding_134 rfl (by decide) ?_
                      refine r_iload dX5_wedding_136 rfl ?_
                      refine r_if_eqN (tgt := 146) dX5_wedding_138 (by decide) (by decide) (fun q9 => absurd q9 (by decide)) (fun _ => ?_)
                      refine r_iload dX5_wedding_141 rfl ?_
                      refine r_goto (tgt := 148) dX5_wedding_143 (by decide) ?_
                      refine r_istore dX5_wedding_148 rfl (by decide) ?_
                      first | refine r_iincN dX5_wedding_150 rfl rfl (by decide) ?_ | refine r_iinc dX5_wedding_150 rfl rfl rfl (by decide) ?_
                      refine r_goto (tgt := 65) dX5_wedding_153 (by decide) ?_
                      refine r_lfor 8 ?_
                      have h9 := ih (k + 1) (by omega) (by omega)
                      rw [hu] at h9
                      exact h9
                  · have hb := wk_lt k hwk
                    refine r_icmp_eq (tgt := 102) dX5_wedding_86 (by decide) (fun q9 => absurd q9 (nI_ne4 (by omega))) (fun _ => ?_)
                    refine r_iload dX5_wedding_89 rfl ?_
                    refine r_cS1F ms_X5_many ml_X5_183 (c5_many l (by omega)) dX5_wedding_91 (Nat.le_of_ble_eq_true rfl) ⟨by decide, by decide⟩ ⟨by decide, by decide⟩ (fun _ h => nomatch h) ?_
                    try dsimp only [zrst, List.cons_append, List.nil_append]
                    refine r_iload dX5_wedding_94 rfl ?_
                    refine r_cS1F ms_X5_many ml_X5_183 (c5_many l (by omega)) dX5_wedding_96 (Nat.le_of_ble_eq_true rfl) ⟨by decide, by decide⟩ ⟨by decide, by decide⟩ (fun _ h => nomatch h) ?_
                    try dsimp only [zrst, List.cons_append, List.nil_append]
                    have hm1 := mny_le 10 (by decide) k (by omega)
                    have hm2 := mny_le 10 (by decide) b (by omega)
                    refine r_icmp_geN (tgt := 133) dX5_wedding_99 (by decide) (by omega) (by omega) (fun c9 => ?_) (fun c9 => ?_)
                    · have hu := wk_no (n := t 35) (p := p) (s := q) (day := (t 35 3 + N)) (k := k) (fun h => by
                        have h2 := h.2.1
                        rw [hwk] at h2
                        have h3 : mny 11 k < mny 11 b := of_decide_eq_true h2
                        omega)
                      refine r_iconst (v := nI 0) dX5_wedding_133 rfl ?_
                      refine r_istore dX5_wedding_134 rfl (by decide) ?_
                      refine r_iload dX5_wedding_136 rfl ?_
                      refine r_if_eqN (tgt := 146) dX5_wedding_138 (by decide) (by decide) (fun _ => ?_) (fun q9 => absurd rfl q9)
                      refine r_iload dX5_wedding_146 rfl ?_
                      refine r_istore dX5_wedding_148 rfl (by decide) ?_
                      first | refine r_iincN dX5_wedding_150 rfl rfl (by decide) ?_ | refine r_iinc dX5_wedding_150 rfl rfl rfl (by decide) ?_
                      refine r_goto (tgt := 65) dX5_wedding_153 (by decide) ?_
                      refine r_lfor 8 ?_
                      have h9 := ih (k + 1) (by omega) (by omega)
                      rw [hu, hwk] at h9
                      exact h9
                    · have hbt : bet (wk (t 35) p q (t 35 3 + N) k) k = true := by rw [hwk]; exact decide_eq_true c9
                      refine r_aload_n dX5_wedding_102 rfl rfl ?_
                      refine r_iload_n dX5_wedding_103 rfl rfl ?_
                      refine r_iload_n dX5_wedding_104 rfl rfl ?_
                      refine r_aload_n dX5_wedding_105 rfl rfl ?_
                      refine r_getR fl_X5_7 dX5_wedding_106 sh_34 rfl ?_
                      refine r_iconst (v := nI 3) dX5_wedding_109 rfl ?_
                      refine r_ialdN dX5_wedding_110 sh_35 (by omega) (by decide) (hR.a35 _) ?_
                      refine r_iload_n dX5_wedding_111 rfl rfl ?_
                      first | refine r_iaddN dX5_wedding_112 ?_ | refine r_iadd dX5_wedding_112 ?_
                      refine r_aload_n dX5_wedding_113 rfl rfl ?_
                      refine r_getR fl_X5_7 dX5_wedding_114 sh_34 rfl ?_
                      refine r_bipush (v := nI 6) dX5_wedding_117 rfl ?_
                      refine r_ialdN dX5_wedding_119 sh_35 (by omega) (by decide) (hR.a35 _) ?_
                      refine r_iload dX5_wedding_120 rfl ?_
                      first | refine r_iorN dX5_wedding_122 ?_ | refine r_ior dX5_wedding_122 ?_
                      refine r_cV4F mv_X5_fits ml_X5_79 (c5_fits l hR hn hp hq (by omega) (by omega) hor) dX5_wedding_123 (Nat.le_of_ble_eq_true rfl) ⟨by decide, by decide⟩ ⟨by decide, by decide⟩ sh_34 rfl (fun _ h => nomatch h) ?_
                      try dsimp only [zrst, List.cons_append, List.nil_append]
                      refine r_if_eqB (tgt := 133) dX5_wedding_126 (by decide) (fun c9 => ?_) (fun c9 => ?_)
                      · have hu := wk_no (n := t 35) (p := p) (s := q) (day := (t 35 3 + N)) (k := k) (fun h => c9 h.2.2)
                        refine r_iconst (v := nI 0) dX5_wedding_133 rfl ?_
                        refine r_istore dX5_wedding_134 rfl (by decide) ?_
                        refine r_iload dX5_wedding_136 rfl ?_
                        refine r_if_eqN (tgt := 146) dX5_wedding_138 (by decide) (by decide) (fun _ => ?_) (fun q9 => absurd rfl q9)
                        refine r_iload dX5_wedding_146 rfl ?_
                        refine r_istore dX5_wedding_148 rfl (by decide) ?_
                        first | refine r_iincN dX5_wedding_150 rfl rfl (by decide) ?_ | refine r_iinc dX5_wedding_150 rfl rfl rfl (by decide) ?_
                        refine r_goto (tgt := 65) dX5_wedding_153 (by decide) ?_
                        refine r_lfor 8 ?_
                        have h9 := ih (k + 1) (by omega) (by omega)
                        rw [hu, hwk] at h9
                        exact h9
                      · have hu := wk_yes (n := t 35) (p := p) (s := q) (day := (t 35 3 + N)) (k := k) ⟨hsb, hbt, c9⟩
                        refine r_iconst (v := nI 1) dX5_wedding_129 rfl ?_
                        refine r_goto (tgt := 134) dX5_wedding_130 (by decide) ?_
                        refine r_istore dX5_wedding_134 rfl (by decide) ?_
                        refine r_iload dX5_wedding_136 rfl ?_
                        refine r_if_eqN (tgt := 146) dX5_wedding_138 (by decide) (by decide) (fun q9 => absurd q9 (by decide)) (fun _ => ?_)
                        refine r_iload dX5_wedding_141 rfl ?_
                        refine r_goto (tgt := 148) dX5_wedding_143 (by decide) ?_
                        refine r_istore dX5_wedding_148 rfl (by decide) ?_
                        first | refine r_iincN dX5_wedding_150 rfl rfl (by decide) ?_ | refine r_iinc dX5_wedding_150 rfl rfl rfl (by decide) ?_
                        refine r_goto (tgt := 65) dX5_wedding_153 (by decide) ?_
                        refine r_lfor 8 ?_
                        have h9 := ih (k + 1) (by omega) (by omega)
                        rw [hu] at h9
                        exact h9
          exact loop (((mayN (t 35) p) + 1) + 1) 0 (Nat.zero_le _) (by omega)
        · rw [i64_of32] at c4
          have c4 : ¬ ((0 : Int) ≤ w.toInt ∧ w.toInt ≤ (1 : Int)) := c4
          have b4 : ¬ (0 ≤ w.toInt ∧ w.toInt ≤ 1) := by omega
          refine r_iconst (v := (-1)) dX5_wedding_39 rfl ?_
          refine r_iret dX5_wedding_40 rfl (by decide) (by decide) ?_
          exact ⟨congrArg (fun x => some (Value.int x)) (if_neg (fun h => by first | exact absurd h (by assumption) | exact absurd h.1 (by assumption) | exact absurd h.2 (by assumption) | exact absurd h.2.1 (by assumption) | exact absurd h.2.2 (by assumption) | exact absurd h.2.2.1 (by assumption) | exact absurd h.2.2.2 (by assumption) | exact absurd h.2.2.2.1 (by assumption) | exact absurd h.2.2.2.2 (by assumption))).symm, rfl, rfl⟩

