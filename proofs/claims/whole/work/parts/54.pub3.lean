set_option maxHeartbeats 4000000 in
set_option maxRecDepth 100000 in
theorem c4_type (l : Launch) {rw : List zC} {M0 : zM} {t : Nat → Nat → Nat} (hT : TI t M0) (hty : t 34 2 ≤ 130) (x : Int32) : CT l false 1 0 0 yX4_type cX4_type 2 (some .int) [.ref 0, .int x] (zSh ++ rw) M0 (zG (zSh ++ rw) (fun w M9 => w = some (.int (sp_type t x)) ∧ TI (st_type t x) M9 ∧ zfr (fun i => i = 19 ∨ i = 20) M0 M9)) := by
  refine CT.ofN (by decide) (fun _ _ => Nat.le_of_ble_eq_true rfl) ?_
  refine r_iload_n dX4_type_0 rfl rfl ?_
  refine r_bipush (v := nI 32) dX4_type_1 rfl ?_
  refine r_bipush (v := nI 126) dX4_type_3 rfl ?_
  refine r_cS3F ms_X4_within ml_X4_41 (c4_within l _ _ _) dX4_type_5 (Nat.le_of_ble_eq_true rfl) ⟨by decide, by decide⟩ ⟨by decide, by decide⟩ (fun _ h => nomatch h) ?_
  try dsimp only [zrst, List.cons_append, List.nil_append]
  first | refine r_if_neB (tgt := 13) dX4_type_8 (by decide) (fun c1 => ?_) (fun c1 => ?_) | refine r_if_neN (tgt := 13) dX4_type_8 (by decide) (by omega) (fun c1 => ?_) (fun c1 => ?_) | refine r_if_ne (tgt := 13) dX4_type_8 (by decide) (fun c1 => ?_) (fun c1 => ?_)
  · have c1 : ((32 : Int) ≤ x.toInt ∧ x.toInt ≤ (126 : Int)) := c1
    have g1 : 32 ≤ x.toInt ∧ x.toInt ≤ 126 := by omega
    obtain ⟨k, hk1, hk2, rfl⟩ := arg_rng (a := 32) (b := 126) (show ((32 : Nat) : Int) ≤ x.toInt ∧ x.toInt ≤ ((126 : Nat) : Int) by omega)
    refine r_aload_n dX4_type_13 rfl rfl ?_
    refine r_getR fl_X4_22 dX4_type_14 sh_0 rfl ?_
    refine r_getV fl_X4_123 dX4_type_17 sh_19 rfl hT.1 ?_
    refine r_sipush (v := nI 130) dX4_type_20 rfl ?_
    first | refine r_icmp_geN (tgt := 37) dX4_type_23 (by decide) (by omega) (by omega) (fun c2 => ?_) (fun c2 => ?_) | refine r_icmp_ge (tgt := 37) dX4_type_23 (by decide) (fun c2 => ?_) (fun c2 => ?_)
    · refine r_bipush (v := (-3)) dX4_type_37 rfl ?_
      refine r_iret dX4_type_39 rfl (by decide) (by decide) ?_
      first
      | (refine ⟨rfl, congrArg (fun x => some (Value.int x)) ?_, ?_, zfr.rf⟩; (rw [sp_type, if_pos g1, if_pos (show t 34 2 = 130 by omega)]); (rw [st_type, if_pos g1, if_pos (show t 34 2 = 130 by omega)]; exact hT))
      | (refine ⟨rfl, congrArg (fun x => some (Value.int x)) ?_, ?_, hF⟩; (rw [sp_type, if_pos g1, if_neg (show ¬ t 34 2 = 130 by omega)]); (rw [st_type, if_pos g1, if_neg (show ¬ t 34 2 = 130 by omega), tn_nI (show k < 2147483648 by omega)]; exact hT1))
      | fail "leaf"
    · refine r_aload_n dX4_type_26 rfl rfl ?_
      refine r_getR fl_X4_22 dX4_type_27 sh_0 rfl ?_
      refine r_iload_n dX4_type_30 rfl rfl ?_
      refine r_cV1G mv_X1_addLetter ml_X4_126 (c1_addLetter l hT (by omega)) dX4_type_31 (Nat.le_of_ble_eq_true rfl) ⟨by decide, by decide⟩ ⟨by decide, by decide⟩ sh_19 rfl (fun _ h => nomatch h) (fun v M1 hq => ?_)
      obtain ⟨rfl, hT1, hF⟩ := hq
      dsimp only [zrst, List.cons_append, List.nil_append]
      refine r_goto (tgt := 39) dX4_type_34 (by decide) ?_
      refine r_iret dX4_type_39 rfl (by decide) (by decide) ?_
      first
      | (refine ⟨rfl, congrArg (fun x => some (Value.int x)) ?_, ?_, zfr.rf⟩; (rw [sp_type, if_pos g1, if_pos (show t 34 2 = 130 by omega)]); (rw [st_type, if_pos g1, if_pos (show t 34 2 = 130 by omega)]; exact hT))
      | (refine ⟨rfl, congrArg (fun x => some (Value.int x)) ?_, ?_, hF⟩; (rw [sp_type, if_pos g1, if_neg (show ¬ t 34 2 = 130 by omega)]); (rw [st_type, if_pos g1, if_neg (show ¬ t 34 2 = 130 by omega), tn_nI (show k < 2147483648 by omega)]; exact hT1))
      | fail "leaf"
  · have c1 : ¬ ((32 : Int) ≤ x.toInt ∧ x.toInt ≤ (126 : Int)) := c1
    have b1 : ¬ (32 ≤ x.toInt ∧ x.toInt ≤ 126) := by omega
    refine r_iconst (v := (-1)) dX4_type_11 rfl ?_
    refine r_iret dX4_type_12 rfl (by decide) (by decide) ?_
    refine ⟨rfl, congrArg (fun x => some (Value.int x)) ?_, ?_, zfr.rf⟩
    · rw [sp_type, if_neg]
      intro h9; first | exact absurd h9 (by assumption) | exact absurd h9.1 (by assumption) | exact absurd h9.2 (by assumption) | exact absurd h9.2.1 (by assumption) | exact absurd h9.2.2 (by assumption) | exact absurd h9.2.2.1 (by assumption) | exact absurd h9.2.2.2 (by assumption) | exact absurd h9.2.2.2.1 (by assumption) | exact absurd h9.2.2.2.2 (by assumption)
    · rw [st_type, if_neg]
      · exact hT
      · intro h9; first | exact absurd h9 (by assumption) | exact absurd h9.1 (by assumption) | exact absurd h9.2 (by assumption) | exact absurd h9.2.1 (by assumption) | exact absurd h9.2.2 (by assumption) | exact absurd h9.2.2.1 (by assumption) | exact absurd h9.2.2.2 (by assumption) | exact absurd h9.2.2.2.1 (by assumption) | exact absurd h9.2.2.2.2 (by assumption)

set_option maxHeartbeats 4000000 in
set_option maxRecDepth 100000 in
theorem c5p_again (l : Launch) {rw : List zC} {M : zM} {t : Nat → Nat → Nat} (hR : RI t M) (hn : NB (t 35)) (x z : Int32) : CT l false 4 0 0 yX5_again cX5_again 4 (some .int) [.ref 34, .int x, .int z] (zSh ++ rw) M (zF (some (.int (sp_again (t 35) x z))) (zSh ++ rw) M) := by
  refine CT.ofN (by decide) (fun _ _ => Nat.le_of_ble_eq_true rfl) ?_
  have hdd := hn.2.2.2.2.2.2.2.2.2.2.2
  have hkd := hn.2.2.2.2.2.2.2.2.1
  have how := hn.2.2.2.2.2.2.2.2.2.1
  have hcu := hn.2.2.2.2.2.2.2.2.2.2.1
  have hb0 := hn.1
  have hb1 := hn.2.1
  have hb2 := hn.2.2.1
  have hb3 := hn.2.2.2.1
  have hb4 := hn.2.2.2.2.1
  have hb5 := hn.2.2.2.2.2.1
  have hb6 := hn.2.2.2.2.2.2.1
  refine r_aload_n dX5_again_0 rfl rfl ?_
  refine r_iload_n dX5_again_1 rfl rfl ?_
  refine r_cV1F mv_X5_isPerson ml_X5_93 (c5_isPerson l hR (by omega) _) dX5_again_2 (Nat.le_of_ble_eq_true rfl) ⟨by decide, by decide⟩ ⟨by decide, by decide⟩ sh_34 rfl (fun _ h => nomatch h) ?_
  try dsimp only [zrst, List.cons_append, List.nil_append]
  first | refine r_if_eqB (tgt := 16) dX5_again_5 (by decide) (fun c1 => ?_) (fun c1 => ?_) | refine r_if_eqN (tgt := 16) dX5_again_5 (by decide) (by omega) (fun c1 => ?_) (fun c1 => ?_) | refine r_if_eq (tgt := 16) dX5_again_5 (by decide) (fun c1 => ?_) (fun c1 => ?_)
  · have b1 : ¬ (0 ≤ x.toInt ∧ x.toInt < (t 35 0 : Int)) := by omega
    refine r_iconst (v := (-1)) dX5_again_16 rfl ?_
    refine r_iret dX5_again_17 rfl (by decide) (by decide) ?_
    exact ⟨congrArg (fun x => some (Value.int x)) (if_neg (fun h => by first | exact absurd h (by assumption) | exact absurd h.1 (by assumption) | exact absurd h.2 (by assumption) | exact absurd h.2.1 (by assumption) | exact absurd h.2.2 (by assumption) | exact absurd h.2.2.1 (by assumption) | exact absurd h.2.2.2 (by assumption) | exact absurd h.2.2.2.1 (by assumption) | exact absurd h.2.2.2.2 (by assumption))).symm, rfl, rfl⟩
  · have g1 : 0 ≤ x.toInt ∧ x.toInt < (t 35 0 : Int) := by omega
    obtain ⟨p, hp, rfl⟩ := arg_nat (n := t 35 0) (show 0 ≤ x.toInt ∧ x.toInt < ((t 35 0 : Nat) : Int) by omega)
    refine r_aload_n dX5_again_8 rfl rfl ?_
    refine r_iload_n dX5_again_9 rfl rfl ?_
    refine r_cV1F mv_X5_isSuit ml_X5_102 (c5_isSuit l hR (by omega) _) dX5_again_10 (Nat.le_of_ble_eq_true rfl) ⟨by decide, by decide⟩ ⟨by decide, by decide⟩ sh_34 rfl (fun _ h => nomatch h) ?_
    try dsimp only [zrst, List.cons_append, List.nil_append]
    first | refine r_if_neB (tgt := 18) dX5_again_13 (by decide) (fun c2 => ?_) (fun c2 => ?_) | refine r_if_neN (tgt := 18) dX5_again_13 (by decide) (by omega) (fun c2 => ?_) (fun c2 => ?_) | refine r_if_ne (tgt := 18) dX5_again_13 (by decide) (fun c2 => ?_) (fun c2 => ?_)
    · have g2 : 0 ≤ z.toInt ∧ z.toInt < (t 35 1 : Int) := by omega
      obtain ⟨q, hq, rfl⟩ := arg_nat (n := t 35 1) (show 0 ≤ z.toInt ∧ z.toInt < ((t 35 1 : Nat) : Int) by omega)
      refine r_iconst (v := nI 0) dX5_again_18 rfl ?_
      refine r_istore_n dX5_again_19 rfl rfl (by decide) ?_
      have loop : ∀ (j k : Nat)  (hf : ff (agF (t 35) p q) 100 0 = ff (agF (t 35) p q) (100 - k) k), k ≤ 100 → 100 < k + j → RA l none (zR 4 0 0) yX5_again cX5_again 4 (some .int) (zF (some (.int (sp_again (t 35) (nI p) (nI q)))) (zSh ++ rw) M) 0 0 20 [some (.ref 34), some (.int (nI p)), some (.int (nI q)), some (.int (nI k))] [] (zSh ++ rw) M := by
        intro j
        induction j with
        | zero => intro k  hf hk hj; exact absurd hj (by omega)
        | succ j ih =>
          intro k  hf hk hj
          refine r_iload_n dX5_again_20 rfl rfl ?_
          refine r_bipush (v := nI 100) dX5_again_21 rfl ?_
          first | refine r_icmp_geN (tgt := 58) dX5_again_23 (by decide) (by omega) (by omega) (fun c1 => ?_) (fun c1 => ?_) | refine r_icmp_ge (tgt := 58) dX5_again_23 (by decide) (fun c1 => ?_) (fun c1 => ?_)
          · refine r_bipush (v := (-4)) dX5_again_58 rfl ?_
            refine r_iret dX5_again_60 rfl (by decide) (by decide) ?_
            refine ⟨congrArg (fun x => some (Value.int x)) ?_, rfl, rfl⟩
            rw [sp_again, if_pos ⟨g1, g2⟩, tn_nI (show p < 2147483648 by omega), tn_nI (show q < 2147483648 by omega), hf]
            rw [show k = 100 by omega]; rfl
          · refine r_aload_n dX5_again_26 rfl rfl ?_
            refine r_iload_n dX5_again_27 rfl rfl ?_
            refine r_iload_n dX5_again_28 rfl rfl ?_
            refine r_aload_n dX5_again_29 rfl rfl ?_
            refine r_getR fl_X5_7 dX5_again_30 sh_34 rfl ?_
            refine r_iconst (v := nI 3) dX5_again_33 rfl ?_
            refine r_ialdN dX5_again_34 sh_35 (by omega) (by decide) (hR.a35 _) ?_
            refine r_iload_n dX5_again_35 rfl rfl ?_
            first | refine r_iaddN dX5_again_36 ?_ | refine r_iadd dX5_again_36 ?_
            refine r_aload_n dX5_again_37 rfl rfl ?_
            refine r_getR fl_X5_7 dX5_again_38 sh_34 rfl ?_
            refine r_bipush (v := nI 6) dX5_again_41 rfl ?_
            refine r_ialdN dX5_again_43 sh_35 (by omega) (by decide) (hR.a35 _) ?_
            refine r_cV4F mv_X5_fits ml_X5_79 (c5_fits l hR hn (by omega) (by omega) (by omega) (by omega) (by omega)) dX5_again_44 (Nat.le_of_ble_eq_true rfl) ⟨by decide, by decide⟩ ⟨by decide, by decide⟩ sh_34 rfl (fun _ h => nomatch h) ?_
            try dsimp only [zrst, List.cons_append, List.nil_append]
            first | refine r_if_eqB (tgt := 52) dX5_again_47 (by decide) (fun c2 => ?_) (fun c2 => ?_) | refine r_if_eqN (tgt := 52) dX5_again_47 (by decide) (by omega) (fun c2 => ?_) (fun c2 => ?_) | refine r_if_eq (tgt := 52) dX5_again_47 (by decide) (fun c2 => ?_) (fun c2 => ?_)
            · have c4 : ¬ agF (t 35) p q k = true := c2
              first | refine r_iincN dX5_again_52 rfl rfl (by decide) ?_ | refine r_iinc dX5_again_52 rfl rfl rfl (by decide) ?_
              refine r_goto (tgt := 20) dX5_again_55 (by decide) ?_
              exact ih (k + 1) (hf.trans (ff_f (by omega) c4)) (by omega) (by omega)
            · have c4 : agF (t 35) p q k = true := c2
              refine r_iload_n dX5_again_50 rfl rfl ?_
              refine r_iret dX5_again_51 rfl (by decide) (by decide) ?_
              refine ⟨congrArg (fun x => some (Value.int x)) ?_, rfl, rfl⟩
              rw [sp_again, if_pos ⟨g1, g2⟩, tn_nI (show p < 2147483648 by omega), tn_nI (show q < 2147483648 by omega), hf]
              exact (ff_t (by omega) rfl c4).symm
      exact loop (100 + 1) 0 rfl (Nat.zero_le _) (by omega)
    · have b2 : ¬ (0 ≤ z.toInt ∧ z.toInt < (t 35 1 : Int)) := by omega
      refine r_iconst (v := (-1)) dX5_again_16 rfl ?_
      refine r_iret dX5_again_17 rfl (by decide) (by decide) ?_
      exact ⟨congrArg (fun x => some (Value.int x)) (if_neg (fun h => by first | exact absurd h (by assumption) | exact absurd h.1 (by assumption) | exact absurd h.2 (by assumption) | exact absurd h.2.1 (by assumption) | exact absurd h.2.2 (by assumption) | exact absurd h.2.2.1 (by assumption) | exact absurd h.2.2.2 (by assumption) | exact absurd h.2.2.2.1 (by assumption) | exact absurd h.2.2.2.2 (by assumption))).symm, rfl, rfl⟩

set_option maxHeartbeats 4000000 in
set_option maxRecDepth 100000 in
theorem c0_firstFit (l : Launch) {rw : List zC} {M : zM} {n u : Nat → Nat} {kn : Nat} (hS : SI 1 n u kn M) (hn : NB n) {p q : Nat} (hp : p < n 0) (hq : q < n 1) : CT l false 5 0 0 yX0_firstFit cX0_firstFit 4 (some .int) [.ref 24, .int (nI p), .int (nI q)] (zSh ++ rw) M (zF (some (.int (ff (agF n p q) 100 0))) (zSh ++ rw) M) := by
  refine CT.ofN (by decide) (fun _ _ => Nat.le_of_ble_eq_true rfl) ?_
  have hdd := hn.2.2.2.2.2.2.2.2.2.2.2
  have hkd := hn.2.2.2.2.2.2.2.2.1
  have how := hn.2.2.2.2.2.2.2.2.2.1
  have hcu := hn.2.2.2.2.2.2.2.2.2.2.1
  have hb0 := hn.1
  have hb1 := hn.2.1
  have hb2 := hn.2.2.1
  have hb3 := hn.2.2.2.1
  have hb4 := hn.2.2.2.2.1
  have hb5 := hn.2.2.2.2.2.1
  have hb6 := hn.2.2.2.2.2.2.1
  refine r_iconst (v := nI 0) dX0_firstFit_0 rfl ?_
  refine r_istore_n dX0_firstFit_1 rfl rfl (by decide) ?_
  have loop : ∀ (j k : Nat)  (hf : ff (agF n p q) 100 0 = ff (agF n p q) (100 - k) k), k ≤ 100 → 100 < k + j → RA l none (zR 5 0 0) yX0_firstFit cX0_firstFit 4 (some .int) (zF (some (.int (ff (agF n p q) 100 0))) (zSh ++ rw) M) 0 0 2 [some (.ref 24), some (.int (nI p)), some (.int (nI q)), some (.int (nI k))] [] (zSh ++ rw) M := by
    intro j
    induction j with
    | zero => intro k  hf hk hj; exact absurd hj (by omega)
    | succ j ih =>
      intro k  hf hk hj
      refine r_iload_n dX0_firstFit_2 rfl rfl ?_
      refine r_bipush (v := nI 99) dX0_firstFit_3 rfl ?_
      first | refine r_icmp_gtN (tgt := 29) dX0_firstFit_5 (by decide) (by omega) (by omega) (fun c1 => ?_) (fun c1 => ?_) | refine r_icmp_gt (tgt := 29) dX0_firstFit_5 (by decide) (fun c1 => ?_) (fun c1 => ?_)
      · refine r_bipush (v := (-4)) dX0_firstFit_29 rfl ?_
        refine r_iret dX0_firstFit_31 rfl (by decide) (by decide) ?_
        refine ⟨congrArg (fun x => some (Value.int x)) ?_, rfl, rfl⟩
        rw [hf]
        rw [show k = 100 by omega]; rfl
      · refine r_aload_n dX0_firstFit_8 rfl rfl ?_
        refine r_getR fl_X0_37 dX0_firstFit_9 sh_24 rfl ?_
        refine r_iload_n dX0_firstFit_12 rfl rfl ?_
        refine r_iload_n dX0_firstFit_13 rfl rfl ?_
        refine r_iload_n dX0_firstFit_14 rfl rfl ?_
        refine r_cV3F mv_X3_fitsBehind ml_X0_41 (c3_fitsBehind l hS hn (by omega) (by omega) (by omega)) dX0_firstFit_15 (Nat.le_of_ble_eq_true rfl) ⟨by decide, by decide⟩ ⟨by decide, by decide⟩ sh_1 rfl (fun _ h => nomatch h) ?_
        try dsimp only [zrst, List.cons_append, List.nil_append]
        first | refine r_if_eqB (tgt := 23) dX0_firstFit_18 (by decide) (fun c2 => ?_) (fun c2 => ?_) | refine r_if_eqN (tgt := 23) dX0_firstFit_18 (by decide) (by omega) (fun c2 => ?_) (fun c2 => ?_) | refine r_if_eq (tgt := 23) dX0_firstFit_18 (by decide) (fun c2 => ?_) (fun c2 => ?_)
        · have c4 : ¬ agF n p q k = true := c2
          first | refine r_iincN dX0_firstFit_23 rfl rfl (by decide) ?_ | refine r_iinc dX0_firstFit_23 rfl rfl rfl (by decide) ?_
          refine r_goto (tgt := 2) dX0_firstFit_26 (by decide) ?_
          exact ih (k + 1) (hf.trans (ff_f (by omega) c4)) (by omega) (by omega)
        · have c4 : agF n p q k = true := c2
          refine r_iload_n dX0_firstFit_21 rfl rfl ?_
          refine r_iret dX0_firstFit_22 rfl (by decide) (by decide) ?_
          refine ⟨congrArg (fun x => some (Value.int x)) ?_, rfl, rfl⟩
          rw [hf]
          exact (ff_t (by omega) rfl c4).symm
  exact loop (100 + 1) 0 rfl (Nat.zero_le _) (by omega)

set_option maxHeartbeats 4000000 in
set_option maxRecDepth 100000 in
theorem c4_again (l : Launch) {rw : List zC} {M : zM} {n u : Nat → Nat} {kn : Nat} (hS : SI 1 n u kn M) (hn : NB n) (x z : Int32) : CT l false 6 0 0 yX4_again cX4_again 3 (some .int) [.ref 0, .int x, .int z] (zSh ++ rw) M (zF (some (.int (sp_again n x z))) (zSh ++ rw) M) := by
  refine CT.ofN (by decide) (fun _ _ => Nat.le_of_ble_eq_true rfl) ?_
  have hdd := hn.2.2.2.2.2.2.2.2.2.2.2
  have hkd := hn.2.2.2.2.2.2.2.2.1
  have how := hn.2.2.2.2.2.2.2.2.2.1
  have hcu := hn.2.2.2.2.2.2.2.2.2.2.1
  have hb0 := hn.1
  have hb1 := hn.2.1
  have hb2 := hn.2.2.1
  have hb3 := hn.2.2.2.1
  have hb4 := hn.2.2.2.2.1
  have hb5 := hn.2.2.2.2.2.1
  have hb6 := hn.2.2.2.2.2.2.1
  refine r_aload_n dX4_again_0 rfl rfl ?_
  refine r_getR fl_X4_10 dX4_again_1 sh_0 rfl ?_
  refine r_iload_n dX4_again_4 rfl rfl ?_
  refine r_cV1F mv_X3_hasPerson ml_X4_53 (c3_hasPerson l hS (by omega) _) dX4_again_5 (Nat.le_of_ble_eq_true rfl) ⟨by decide, by decide⟩ ⟨by decide, by decide⟩ sh_1 rfl (fun _ h => nomatch h) ?_
  try dsimp only [zrst, List.cons_append, List.nil_append]
  first | refine r_if_eqB (tgt := 22) dX4_again_8 (by decide) (fun c1 => ?_) (fun c1 => ?_) | refine r_if_eqN (tgt := 22) dX4_again_8 (by decide) (by omega) (fun c1 => ?_) (fun c1 => ?_) | refine r_if_eq (tgt := 22) dX4_again_8 (by decide) (fun c1 => ?_) (fun c1 => ?_)
  · have b1 : ¬ (0 ≤ x.toInt ∧ x.toInt < (n 0 : Int)) := by omega
    refine r_iconst (v := (-1)) dX4_again_22 rfl ?_
    refine r_iret dX4_again_23 rfl (by decide) (by decide) ?_
    exact ⟨congrArg (fun x => some (Value.int x)) (if_neg (fun h => by first | exact absurd h (by assumption) | exact absurd h.1 (by assumption) | exact absurd h.2 (by assumption) | exact absurd h.2.1 (by assumption) | exact absurd h.2.2 (by assumption) | exact absurd h.2.2.1 (by assumption) | exact absurd h.2.2.2 (by assumption) | exact absurd h.2.2.2.1 (by assumption) | exact absurd h.2.2.2.2 (by assumption))).symm, rfl, rfl⟩
  · have g1 : 0 ≤ x.toInt ∧ x.toInt < (n 0 : Int) := by omega
    obtain ⟨p, hp, rfl⟩ := arg_nat (n := n 0) (show 0 ≤ x.toInt ∧ x.toInt < ((n 0 : Nat) : Int) by omega)
    refine r_aload_n dX4_again_11 rfl rfl ?_
    refine r_getR fl_X4_10 dX4_again_12 sh_0 rfl ?_
    refine r_iload_n dX4_again_15 rfl rfl ?_
    refine r_cV1F mv_X3_hasSuit ml_X4_71 (c3_hasSuit l hS (by omega) _) dX4_again_16 (Nat.le_of_ble_eq_true rfl) ⟨by decide, by decide⟩ ⟨by decide, by decide⟩ sh_1 rfl (fun _ h => nomatch h) ?_
    try dsimp only [zrst, List.cons_append, List.nil_append]
    first | refine r_if_neB (tgt := 24) dX4_again_19 (by decide) (fun c2 => ?_) (fun c2 => ?_) | refine r_if_neN (tgt := 24) dX4_again_19 (by decide) (by omega) (fun c2 => ?_) (fun c2 => ?_) | refine r_if_ne (tgt := 24) dX4_again_19 (by decide) (fun c2 => ?_) (fun c2 => ?_)
    · have g2 : 0 ≤ z.toInt ∧ z.toInt < (n 1 : Int) := by omega
      obtain ⟨q, hq, rfl⟩ := arg_nat (n := n 1) (show 0 ≤ z.toInt ∧ z.toInt < ((n 1 : Nat) : Int) by omega)
      refine r_aload_n dX4_again_24 rfl rfl ?_
      refine r_getR fl_X4_31 dX4_again_25 sh_0 rfl ?_
      refine r_iload_n dX4_again_28 rfl rfl ?_
      refine r_iload_n dX4_again_29 rfl rfl ?_
      refine r_cV2F mv_X0_firstFit ml_X4_170 (c0_firstFit l hS hn (by omega) (by omega)) dX4_again_30 (Nat.le_of_ble_eq_true rfl) ⟨by decide, by decide⟩ ⟨by decide, by decide⟩ sh_24 rfl (fun _ h => nomatch h) ?_
      try dsimp only [zrst, List.cons_append, List.nil_append]
      refine r_iret dX4_again_33 rfl (by decide) (by decide) ?_
      refine ⟨congrArg (fun x => some (Value.int x)) ?_, rfl, rfl⟩
      rw [sp_again, if_pos ⟨g1, g2⟩, tn_nI (show p < 2147483648 by omega), tn_nI (show q < 2147483648 by omega)]
      try rfl
    · have b2 : ¬ (0 ≤ z.toInt ∧ z.toInt < (n 1 : Int)) := by omega
      refine r_iconst (v := (-1)) dX4_again_22 rfl ?_
      refine r_iret dX4_again_23 rfl (by decide) (by decide) ?_
      exact ⟨congrArg (fun x => some (Value.int x)) (if_neg (fun h => by first | exact absurd h (by assumption) | exact absurd h.1 (by assumption) | exact absurd h.2 (by assumption) | exact absurd h.2.1 (by assumption) | exact absurd h.2.2 (by assumption) | exact absurd h.2.2.1 (by assumption) | exact absurd h.2.2.2 (by assumption) | exact absurd h.2.2.2.1 (by assumption) | exact absurd h.2.2.2.2 (by assumption))).symm, rfl, rfl⟩

set_option maxHeartbeats 4000000 in
set_option maxRecDepth 100000 in
theorem c5p_warrant (l : Launch) {rw : List zC} {M : zM} {t : Nat → Nat → Nat} (hR : RI t M) (hn : NB (t 35)) (x : Int32) : CT l false 4 0 0 yX5_warrant cX5_warrant 5 (some .int) [.ref 34, .int x] (zSh ++ rw) M (zF (some (.int (sp_warrant (t 35) x))) (zSh ++ rw) M) := by
  refine CT.ofN (by decide) (fun _ _ => Nat.le_of_ble_eq_true rfl) ?_
  have hdd := hn.2.2.2.2.2.2.2.2.2.2.2
  have hkd := hn.2.2.2.2.2.2.2.2.1
  have how := hn.2.2.2.2.2.2.2.2.2.1
  have hcu := hn.2.2.2.2.2.2.2.2.2.2.1
  have hb0 := hn.1
  have hb1 := hn.2.1
  have hb2 := hn.2.2.1
  have hb3 := hn.2.2.2.1
  have hb4 := hn.2.2.2.2.1
  have hb5 := hn.2.2.2.2.2.1
  have hb6 := hn.2.2.2.2.2.2.1
  refine r_iload_n dX5_warrant_0 rfl rfl ?_
  refine r_i2l dX5_warrant_1 rfl ?_
  refine r_lconst (v := 1) dX5_warrant_2 rfl ?_
  refine r_ldc2 kc_X5_87 dX5_warrant_3 ?_
  refine r_cS3F ms_X5_in ml_X5_41 (c5_in l _ _ _) dX5_warrant_6 (Nat.le_of_ble_eq_true rfl) ⟨by decide, by decide⟩ ⟨by decide, by decide⟩ (fun _ h => nomatch h) ?_
  try dsimp only [zrst, List.cons_append, List.nil_append]
  first | refine r_if_neB (tgt := 14) dX5_warrant_9 (by decide) (fun c1 => ?_) (fun c1 => ?_) | refine r_if_neN (tgt := 14) dX5_warrant_9 (by decide) (by omega) (fun c1 => ?_) (fun c1 => ?_) | refine r_if_ne (tgt := 14) dX5_warrant_9 (by decide) (fun c1 => ?_) (fun c1 => ?_)
  · rw [i64_of32] at c1
    have c1 : ((1 : Int) ≤ x.toInt ∧ x.toInt ≤ (99 : Int)) := c1
    have g1 : 1 ≤ x.toInt ∧ x.toInt ≤ 99 := by omega
    obtain ⟨v, hv1, hv2, rfl⟩ := arg_rng (a := 1) (b := 99) (show ((1 : Nat) : Int) ≤ x.toInt ∧ x.toInt ≤ ((99 : Nat) : Int) by omega)
    refine r_iconst (v := nI 0) dX5_warrant_14 rfl ?_
    refine r_istore_n dX5_warrant_15 rfl rfl (by decide) ?_
    refine r_iconst (v := nI 0) dX5_warrant_16 rfl ?_
    refine r_istore_n dX5_warrant_17 rfl rfl (by decide) ?_
    have loop : ∀ (j k : Nat) , k ≤ t 35 0 → t 35 0 < k + j → RA l none (zR 4 0 0) yX5_warrant cX5_warrant 5 (some .int) (zF (some (.int (sp_warrant (t 35) (nI v)))) (zSh ++ rw) M) 0 0 18 [some (.ref 34), some (.int (nI v)), some (.int (nI (wp (t 35) v k))), some (.int (nI k)), none] [] (zSh ++ rw) M := by
      intro j
      induction j with
      | zero => intro k   hk hj; exact absurd hj (by omega)
      | succ j ih =>
        intro k   hk hj
        refine r_iload_n dX5_warrant_18 rfl rfl ?_
        refine r_aload_n dX5_warrant_19 rfl rfl ?_
        refine r_getR fl_X5_7 dX5_warrant_20 sh_34 rfl ?_
        refine r_iconst (v := nI 0) dX5_warrant_23 rfl ?_
        refine r_ialdN dX5_warrant_24 sh_35 (by omega) (by decide) (hR.a35 _) ?_
        first | refine r_icmp_geN (tgt := 78) dX5_warrant_25 (by decide) (by omega) (by omega) (fun c1 => ?_) (fun c1 => ?_) | refine r_icmp_ge (tgt := 78) dX5_warrant_25 (by decide) (fun c1 => ?_) (fun c1 => ?_)
        · refine r_iload_n dX5_warrant_78 rfl rfl ?_
          refine r_iret dX5_warrant_79 rfl (by decide) (by decide) ?_
          refine ⟨congrArg (fun x => some (Value.int x)) ?_, rfl, rfl⟩
          rw [sp_warrant, if_pos g1, tn_nI (show v < 2147483648 by omega), show k = t 35 0 by omega]
        · have hpk := pw_le (show k ≤ 10 by omega)
          refine r_iconst (v := nI 0) dX5_warrant_28 rfl ?_
          refine r_istore dX5_warrant_29 rfl (by decide) ?_
          have loop2 : ∀ (j m : Nat), m ≤ 4 → 4 < m + j → RA l none (zR 4 0 0) yX5_warrant cX5_warrant 5 (some .int) (zF (some (.int (sp_warrant (t 35) (nI v)))) (zSh ++ rw) M) 0 0 31 [some (.ref 34), some (.int (nI v)), some (.int (nI (wm (t 35) v k (wp (t 35) v k) m))), some (.int (nI k)), some (.int (nI m))] [] (zSh ++ rw) M := by
            intro j
            induction j with
            | zero => intro m   hk hj; exact absurd hj (by omega)
            | succ j ih2 =>
              intro m   hk hj
              refine r_iload dX5_warrant_31 rfl ?_
              refine r_iconst (v := nI 4) dX5_warrant_33 rfl ?_
              first | refine r_icmp_geN (tgt := 72) dX5_warrant_34 (by decide) (by omega) (by omega) (fun c1 => ?_) (fun c1 => ?_) | refine r_icmp_ge (tgt := 72) dX5_warrant_34 (by decide) (fun c1 => ?_) (fun c1 => ?_)
              · first | refine r_iincN dX5_warrant_72 rfl rfl (by decide) ?_ | refine r_iinc dX5_warrant_72 rfl rfl rfl (by decide) ?_
                refine r_goto (tgt := 18) dX5_warrant_75 (by decide) ?_
                have e4 : m = 4 := by omega
                subst e4
                refine r_lfor 4 ?_
                exact ih (k + 1) (by omega) (by omega)
              · have hlw := lng_le hn k m (t 35 3) (t 35 6) (t 35 2) (Nat.le_refl _)
                have hml : mea (t 35) k m (t 35 3) (t 35 6) - t 35 (8 + 5 * k + 1 + m) = lng (t 35) k m (t 35 3) (t 35 6) := Nat.add_sub_cancel_left _ _
                have hmg : t 35 (8 + 5 * k + 1 + m) ≤ mea (t 35) k m (t 35 3) (t 35 6) := Nat.le_add_right _ _
                change lng (t 35) k m (t 35 3) (t 35 6) ≤ 180 at hlw
                refine r_iload_n dX5_warrant_37 rfl rfl ?_
                refine r_aload_n dX5_warrant_38 rfl rfl ?_
                refine r_iload_n dX5_warrant_39 rfl rfl ?_
                refine r_iload dX5_warrant_40 rfl ?_
                refine r_cV2F mv_X5_today ml_X5_107 (c5_today l hR hn (by omega) (by omega)) dX5_warrant_42 (Nat.le_of_ble_eq_true rfl) ⟨by decide, by decide⟩ ⟨by decide, by decide⟩ sh_34 rfl (fun _ h => nomatch h) ?_
                try dsimp only [zrst, List.cons_append, List.nil_append]
                refine r_aload_n dX5_warrant_45 rfl rfl ?_
                refine r_iload_n dX5_warrant_46 rfl rfl ?_
                refine r_iload dX5_warrant_47 rfl ?_
                refine r_cV2F mv_X5_ownOf ml_X5_55 (c5_ownOf l hR (by omega) (by omega)) dX5_warrant_49 (Nat.le_of_ble_eq_true rfl) ⟨by decide, by decide⟩ ⟨by decide, by decide⟩ sh_34 rfl (fun _ h => nomatch h) ?_
                try dsimp only [zrst, List.cons_append, List.nil_append]
                first | refine r_isubN dX5_warrant_52 (by omega) ?_ | refine r_isub dX5_warrant_52 ?_
                rw [hml]
                refine r_iload_n dX5_warrant_53 rfl rfl ?_
                first | refine r_icmp_ltN (tgt := 63) dX5_warrant_54 (by decide) (by omega) (by omega) (fun c2 => ?_) (fun c2 => ?_) | refine r_icmp_lt (tgt := 63) dX5_warrant_54 (by decide) (fun c2 => ?_) (fun c2 => ?_)
                · have hX : wm (t 35) v k (wp (t 35) v k) (m + 1) = wm (t 35) v k (wp (t 35) v k) m ||| 0 := by rw [wm, if_neg (by omega)]
                  refine r_iconst (v := nI 0) dX5_warrant_63 rfl ?_
                  first | refine r_iorN dX5_warrant_64 ?_ | refine r_ior dX5_warrant_64 ?_
                  refine r_istore_n dX5_warrant_65 rfl rfl (by decide) ?_
                  first | refine r_iincN dX5_warrant_66 rfl rfl (by decide) ?_ | refine r_iinc dX5_warrant_66 rfl rfl rfl (by decide) ?_
                  refine r_goto (tgt := 31) dX5_warrant_69 (by decide) ?_
                  have h9 := ih2 (m + 1) (by omega) (by omega)
                  rw [hX] at h9
                  exact h9
                · have hX : wm (t 35) v k (wp (t 35) v k) (m + 1) = wm (t 35) v k (wp (t 35) v k) m ||| (1 * 2 ^ k) := by rw [wm, if_pos (by omega)]
                  refine r_iconst (v := nI 1) dX5_warrant_57 rfl ?_
                  refine r_iload_n dX5_warrant_58 rfl rfl ?_
                  first | refine r_ishlN dX5_warrant_59 (by omega) (by omega) ?_ | refine r_ishl dX5_warrant_59 ?_
                  refine r_goto (tgt := 64) dX5_warrant_60 (by decide) ?_
                  first | refine r_iorN dX5_warrant_64 ?_ | refine r_ior dX5_warrant_64 ?_
                  refine r_istore_n dX5_warrant_65 rfl rfl (by decide) ?_
                  first | refine r_iincN dX5_warrant_66 rfl rfl (by decide) ?_ | refine r_iinc dX5_warrant_66 rfl rfl rfl (by decide) ?_
                  refine r_goto (tgt := 31) dX5_warrant_69 (by decide) ?_
                  have h9 := ih2 (m + 1) (by omega) (by omega)
                  rw [hX] at h9
                  exact h9
          exact loop2 (4 + 1) 0 (Nat.zero_le _) (by omega)
    exact loop (t 35 0 + 1) 0 (Nat.zero_le _) (by omega)
  · rw [i64_of32] at c1
    have c1 : ¬ ((1 : Int) ≤ x.toInt ∧ x.toInt ≤ (99 : Int)) := c1
    have b1 : ¬ (1 ≤ x.toInt ∧ x.toInt ≤ 99) := by omega
    refine r_iconst (v := (-1)) dX5_warrant_12 rfl ?_
    refine r_iret dX5_warrant_13 rfl (by decide) (by decide) ?_
    exact ⟨congrArg (fun x => some (Value.int x)) (if_neg (fun h => by first | exact absurd h (by assumption) | exact absurd h.1 (by assumption) | exact absurd h.2 (by assumption) | exact absurd h.2.1 (by assumption) | exact absurd h.2.2 (by assumption) | exact absurd h.2.2.1 (by assumption) | exact absurd h.2.2.2 (by assumption) | exact absurd h.2.2.2.1 (by assumption) | exact absurd h.2.2.2.2 (by assumption))).symm, rfl, rfl⟩

set_option maxHeartbeats 4000000 in
set_option maxRecDepth 100000 in
theorem c0_longerByAtLeast (l : Launch) {rw : List zC} {M : zM} {n u : Nat → Nat} {kn : Nat} (hS : SI 1 n u kn M) (hn : NB n) {v : Nat} (hv : v < 1000) : CT l false 3 0 0 yX0_longerByAtLeast cX0_longerByAtLeast 5 (some .int) [.ref 24, .int (nI v)] (zSh ++ rw) M (zF (some (.int (nI (wp n v (n 0))))) (zSh ++ rw) M) := by
  refine CT.ofN (by decide) (fun _ _ => Nat.le_of_ble_eq_true rfl) ?_
  have hdd := hn.2.2.2.2.2.2.2.2.2.2.2
  have hkd := hn.2.2.2.2.2.2.2.2.1
  have how := hn.2.2.2.2.2.2.2.2.2.1
  have hcu := hn.2.2.2.2.2.2.2.2.2.2.1
  have hb0 := hn.1
  have hb1 := hn.2.1
  have hb2 := hn.2.2.1
  have hb3 := hn.2.2.2.1
  have hb4 := hn.2.2.2.2.1
  have hb5 := hn.2.2.2.2.2.1
  have hb6 := hn.2.2.2.2.2.2.1
  refine r_iconst (v := nI 0) dX0_longerByAtLeast_0 rfl ?_
  refine r_istore_n dX0_longerByAtLeast_1 rfl rfl (by decide) ?_
  refine r_iconst (v := nI 0) dX0_longerByAtLeast_2 rfl ?_
  refine r_istore_n dX0_longerByAtLeast_3 rfl rfl (by decide) ?_
  have loop : ∀ (j k : Nat) , k ≤ n 0 → n 0 < k + j → RA l none (zR 3 0 0) yX0_longerByAtLeast cX0_longerByAtLeast 5 (some .int) (zF (some (.int (nI (wp n v (n 0))))) (zSh ++ rw) M) 0 0 4 [some (.ref 24), some (.int (nI v)), some (.int (nI (wp (n) v k))), some (.int (nI k)), none] [] (zSh ++ rw) M := by
    intro j
    induction j with
    | zero => intro k   hk hj; exact absurd hj (by omega)
    | succ j ih =>
      intro k   hk hj
      refine r_iload_n dX0_longerByAtLeast_4 rfl rfl ?_
      refine r_aload_n dX0_longerByAtLeast_5 rfl rfl ?_
      refine r_getR fl_X0_37 dX0_longerByAtLeast_6 sh_24 rfl ?_
      refine r_getV fl_X0_118 dX0_longerByAtLeast_9 sh_1 rfl hS.f0 ?_
      first | refine r_icmp_geN (tgt := 57) dX0_longerByAtLeast_12 (by decide) (by omega) (by omega) (fun c1 => ?_) (fun c1 => ?_) | refine r_icmp_ge (tgt := 57) dX0_longerByAtLeast_12 (by decide) (fun c1 => ?_) (fun c1 => ?_)
      · refine r_iload_n dX0_longerByAtLeast_57 rfl rfl ?_
        refine r_iret dX0_longerByAtLeast_58 rfl (by decide) (by decide) ?_
        refine ⟨congrArg (fun x => some (Value.int x)) ?_, rfl, rfl⟩
        rw [show k = n 0 by omega]
      · have hpk := pw_le (show k ≤ 10 by omega)
        refine r_iconst (v := nI 0) dX0_longerByAtLeast_15 rfl ?_
        refine r_istore dX0_longerByAtLeast_16 rfl (by decide) ?_
        have loop2 : ∀ (j m : Nat), m ≤ 4 → 4 < m + j → RA l none (zR 3 0 0) yX0_longerByAtLeast cX0_longerByAtLeast 5 (some .int) (zF (some (.int (nI (wp n v (n 0))))) (zSh ++ rw) M) 0 0 18 [some (.ref 24), some (.int (nI v)), some (.int (nI (wm (n) v k (wp (n) v k) m))), some (.int (nI k)), some (.int (nI m))] [] (zSh ++ rw) M := by
          intro j
          induction j with
          | zero => intro m   hk hj; exact absurd hj (by omega)
          | succ j ih2 =>
            intro m   hk hj
            refine r_iload dX0_longerByAtLeast_18 rfl ?_
            refine r_iconst (v := nI 4) dX0_longerByAtLeast_20 rfl ?_
            first | refine r_icmp_geN (tgt := 51) dX0_longerByAtLeast_21 (by decide) (by omega) (by omega) (fun c1 => ?_) (fun c1 => ?_) | refine r_icmp_ge (tgt := 51) dX0_longerByAtLeast_21 (by decide) (fun c1 => ?_) (fun c1 => ?_)
            · first | refine r_iincN dX0_longerByAtLeast_51 rfl rfl (by decide) ?_ | refine r_iinc dX0_longerByAtLeast_51 rfl rfl rfl (by decide) ?_
              refine r_goto (tgt := 4) dX0_longerByAtLeast_54 (by decide) ?_
              have e4 : m = 4 := by omega
              subst e4
              refine r_lfor 4 ?_
              exact ih (k + 1) (by omega) (by omega)
            · have hlw := lng_le hn k m (n 3) (n 6) (n 2) (Nat.le_refl _)
              change lng n k m (n 3) (n 6) ≤ 180 at hlw
              refine r_aload_n dX0_longerByAtLeast_24 rfl rfl ?_
              refine r_getR fl_X0_37 dX0_longerByAtLeast_25 sh_24 rfl ?_
              refine r_iload_n dX0_longerByAtLeast_28 rfl rfl ?_
              refine r_iload dX0_longerByAtLeast_29 rfl ?_
              refine r_iconst (v := nI 0) dX0_longerByAtLeast_31 rfl ?_
              refine r_cV3F mv_X3_longerBehind ml_X0_142 (c3_longerBehind l hS hn (by omega) (by omega) (by omega)) dX0_longerByAtLeast_32 (Nat.le_of_ble_eq_true rfl) ⟨by decide, by decide⟩ ⟨by decide, by decide⟩ sh_1 rfl (fun _ h => nomatch h) ?_
              try dsimp only [zrst, List.cons_append, List.nil_append]
              refine r_top (v' := .int (nI (lng n k m (n 3) (n 6)))) rfl ?_
              refine r_iload_n dX0_longerByAtLeast_35 rfl rfl ?_
              first | refine r_icmp_ltN (tgt := 45) dX0_longerByAtLeast_36 (by decide) (by omega) (by omega) (fun c2 => ?_) (fun c2 => ?_) | refine r_icmp_lt (tgt := 45) dX0_longerByAtLeast_36 (by decide) (fun c2 => ?_) (fun c2 => ?_)
              · have hX : wm (n) v k (wp (n) v k) (m + 1) = wm (n) v k (wp (n) v k) m := by rw [wm, if_neg (by omega)]; exact Nat.or_zero _
                first | refine r_iincN dX0_longerByAtLeast_45 rfl rfl (by decide) ?_ | refine r_iinc dX0_longerByAtLeast_45 rfl rfl rfl (by decide) ?_
                refine r_goto (tgt := 18) dX0_longerByAtLeast_48 (by decide) ?_
                have h9 := ih2 (m + 1) (by omega) (by omega)
                rw [hX] at h9
                exact h9
              · have hX : wm (n) v k (wp (n) v k) (m + 1) = wm (n) v k (wp (n) v k) m ||| (1 * 2 ^ k) := by rw [wm, if_pos (by omega)]
                refine r_iload_n dX0_longerByAtLeast_39 rfl rfl ?_
                refine r_iconst (v := nI 1) dX0_longerByAtLeast_40 rfl ?_
                refine r_iload_n dX0_longerByAtLeast_41 rfl rfl ?_
                first | refine r_ishlN dX0_longerByAtLeast_42 (by omega) (by omega) ?_ | refine r_ishl dX0_longerByAtLeast_42 ?_
                first | refine r_iorN dX0_longerByAtLeast_43 ?_ | refine r_ior dX0_longerByAtLeast_43 ?_
                refine r_istore_n dX0_longerByAtLeast_44 rfl rfl (by decide) ?_
                first | refine r_iincN dX0_longerByAtLeast_45 rfl rfl (by decide) ?_ | refine r_iinc dX0_longerByAtLeast_45 rfl rfl rfl (by decide) ?_
                refine r_goto (tgt := 18) dX0_longerByAtLeast_48 (by decide) ?_
                have h9 := ih2 (m + 1) (by omega) (by omega)
                rw [hX] at h9
                exact h9
        exact loop2 (4 + 1) 0 (Nat.zero_le _) (by omega)
  exact loop (n 0 + 1) 0 (Nat.zero_le _) (by omega)

set_option maxHeartbeats 4000000 in
set_option maxRecDepth 100000 in
theorem c4_warrant (l : Launch) {rw : List zC} {M : zM} {n u : Nat → Nat} {kn : Nat} (hS : SI 1 n u kn M) (hn : NB n) (x : Int32) : CT l false 4 0 0 yX4_warrant cX4_warrant 2 (some .int) [.ref 0, .int x] (zSh ++ rw) M (zF (some (.int (sp_warrant n x))) (zSh ++ rw) M) := by
  refine CT.ofN (by decide) (fun _ _ => Nat.le_of_ble_eq_true rfl) ?_
  have hdd := hn.2.2.2.2.2.2.2.2.2.2.2
  have hkd := hn.2.2.2.2.2.2.2.2.1
  have how := hn.2.2.2.2.2.2.2.2.2.1
  have hcu := hn.2.2.2.2.2.2.2.2.2.2.1
  have hb0 := hn.1
  have hb1 := hn.2.1
  have hb2 := hn.2.2.1
  have hb3 := hn.2.2.2.1
  have hb4 := hn.2.2.2.2.1
  have hb5 := hn.2.2.2.2.2.1
  have hb6 := hn.2.2.2.2.2.2.1
  refine r_iload_n dX4_warrant_0 rfl rfl ?_
  refine r_iconst (v := nI 1) dX4_warrant_1 rfl ?_
  refine r_bipush (v := nI 99) dX4_warrant_2 rfl ?_
  refine r_cS3F ms_X4_within ml_X4_41 (c4_within l _ _ _) dX4_warrant_4 (Nat.le_of_ble_eq_true rfl) ⟨by decide, by decide⟩ ⟨by decide, by decide⟩ (fun _ h => nomatch h) ?_
  try dsimp only [zrst, List.cons_append, List.nil_append]
  first | refine r_if_neB (tgt := 12) dX4_warrant_7 (by decide) (fun c1 => ?_) (fun c1 => ?_) | refine r_if_neN (tgt := 12) dX4_warrant_7 (by decide) (by omega) (fun c1 => ?_) (fun c1 => ?_) | refine r_if_ne (tgt := 12) dX4_warrant_7 (by decide) (fun c1 => ?_) (fun c1 => ?_)
  · have c1 : ((1 : Int) ≤ x.toInt ∧ x.toInt ≤ (99 : Int)) := c1
    have g1 : 1 ≤ x.toInt ∧ x.toInt ≤ 99 := by omega
    obtain ⟨v, hv1, hv2, rfl⟩ := arg_rng (a := 1) (b := 99) (show ((1 : Nat) : Int) ≤ x.toInt ∧ x.toInt ≤ ((99 : Nat) : Int) by omega)
    refine r_aload_n dX4_warrant_12 rfl rfl ?_
    refine r_getR fl_X4_31 dX4_warrant_13 sh_0 rfl ?_
    refine r_iload_n dX4_warrant_16 rfl rfl ?_
    refine r_cV1F mv_X0_longerByAtLeast ml_X4_203 (c0_longerByAtLeast l hS hn (by omega)) dX4_warrant_17 (Nat.le_of_ble_eq_true rfl) ⟨by decide, by decide⟩ ⟨by decide, by decide⟩ sh_24 rfl (fun _ h => nomatch h) ?_
    try dsimp only [zrst, List.cons_append, List.nil_append]
    refine r_iret dX4_warrant_20 rfl (by decide) (by decide) ?_
    refine ⟨congrArg (fun x => some (Value.int x)) ?_, rfl, rfl⟩
    rw [sp_warrant, if_pos (g1), tn_nI (show v < 2147483648 by omega)]
    try rfl
  · have c1 : ¬ ((1 : Int) ≤ x.toInt ∧ x.toInt ≤ (99 : Int)) := c1
    have b1 : ¬ (1 ≤ x.toInt ∧ x.toInt ≤ 99) := by omega
    refine r_iconst (v := (-1)) dX4_warrant_10 rfl ?_
    refine r_iret dX4_warrant_11 rfl (by decide) (by decide) ?_
    exact ⟨congrArg (fun x => some (Value.int x)) (if_neg (fun h => by first | exact absurd h (by assumption) | exact absurd h.1 (by assumption) | exact absurd h.2 (by assumption) | exact absurd h.2.1 (by assumption) | exact absurd h.2.2 (by assumption) | exact absurd h.2.2.1 (by assumption) | exact absurd h.2.2.2 (by assumption) | exact absurd h.2.2.2.1 (by assumption) | exact absurd h.2.2.2.2 (by assumption))).symm, rfl, rfl⟩

