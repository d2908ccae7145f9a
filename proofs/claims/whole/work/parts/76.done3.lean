set_option maxHeartbeats 4000000 in
set_option maxRecDepth 100000 in
theorem c5p_done (l : Launch) {rw : List zC} {M : zM} {t : Nat → Nat → Nat} {z : Nat → Option (Nat × Nat × Nat)} (hR : RI t M) (hC : SHR z (t 42) M) (hn : NB (t 35)) (V : Nat → Nat → Int64) (hV : ∀ j r ri L, j < 4 → z j = some (r, ri, L) → ∀ k, k < t 42 j → M.2.1 43 (24 * j + k) = V j k) (x s w i c : Int32) : CT l false 2 0 0 yX5_done cX5_done 15 (some .int) [.ref 34, .int x, .int s, .int w, .int i, .int c] (zSh ++ rw) M (zF (some (.int (sp_done (t 35) z (t 42) V x s w i c))) (zSh ++ rw) M) := by
  refine CT.ofN (by decide) (fun _ _ => Nat.le_of_ble_eq_true rfl) ?_
  have hdd := hn.2.2.2.2.2.2.2.2.2.2.2
  have hkd := hn.2.2.2.2.2.2.2.2.1
  have how := hn.2.2.2.2.2.2.2.2.2.1
  have hcu := hn.2.2.2.2.2.2.2.2.2.2.1
  have hb0 := hn.1
  have hb1 := hn.2.1
  have hb2 := hn.2.2.1
  have hb3 := hn.2.2.2.1
  have hb4 := hn.2.2.2.2.1
  have hb5 := hn.2.2.2.2.2.1
  have hb6 := hn.2.2.2.2.2.2.1
  refine r_aload_n dX5_done_0 rfl rfl ?_
  refine r_iload_n dX5_done_1 rfl rfl ?_
  refine r_cV1F mv_X5_isPerson ml_X5_93 (c5_isPerson l hR (by omega) _) dX5_done_2 (Nat.le_of_ble_eq_true rfl) ⟨by decide, by decide⟩ ⟨by decide, by decide⟩ sh_34 rfl (fun _ h => nomatch h) ?_
  try dsimp only [zrst, List.cons_append, List.nil_append]
  first | refine r_if_eqB (tgt := 33) dX5_done_5 (by decide) (fun c1 => ?_) (fun c1 => ?_) | refine r_if_eqN (tgt := 33) dX5_done_5 (by decide) (by omega) (fun c1 => ?_) (fun c1 => ?_) | refine r_if_eq (tgt := 33) dX5_done_5 (by decide) (fun c1 => ?_) (fun c1 => ?_)
  · have b1 : ¬ (0 ≤ x.toInt ∧ x.toInt < (t 35 0 : Int)) := by omega
    refine r_iconst (v := (-1)) dX5_done_33 rfl ?_
    refine r_iret dX5_done_34 rfl (by decide) (by decide) ?_
    exact ⟨congrArg (fun x => some (Value.int x)) (if_neg (fun h => by first | exact absurd h (by assumption) | exact absurd h.1 (by assumption) | exact absurd h.2 (by assumption) | exact absurd h.2.1 (by assumption) | exact absurd h.2.2 (by assumption) | exact absurd h.2.2.1 (by assumption) | exact absurd h.2.2.2 (by assumption) | exact absurd h.2.2.2.1 (by assumption) | exact absurd h.2.2.2.2 (by assumption))).symm, rfl, rfl⟩
  · have g1 : 0 ≤ x.toInt ∧ x.toInt < (t 35 0 : Int) := by omega
    obtain ⟨p, hp, rfl⟩ := arg_nat (n := t 35 0) (show 0 ≤ x.toInt ∧ x.toInt < ((t 35 0 : Nat) : Int) by omega)
    refine r_iload_n dX5_done_8 rfl rfl ?_
    refine r_cS1F ms_X5_isSheet ml_X5_194 (c5_isSheet l _) dX5_done_9 (Nat.le_of_ble_eq_true rfl) ⟨by decide, by decide⟩ ⟨by decide, by decide⟩ (fun _ h => nomatch h) ?_
    try dsimp only [zrst, List.cons_append, List.nil_append]
    first | refine r_if_eqB (tgt := 33) dX5_done_12 (by decide) (fun c2 => ?_) (fun c2 => ?_) | refine r_if_eqN (tgt := 33) dX5_done_12 (by decide) (by omega) (fun c2 => ?_) (fun c2 => ?_) | refine r_if_eq (tgt := 33) dX5_done_12 (by decide) (fun c2 => ?_) (fun c2 => ?_)
    · have c2 : ¬ ((0 : Int) ≤ s.toInt ∧ s.toInt < (4 : Int)) := c2
      have b2 : ¬ (0 ≤ s.toInt ∧ s.toInt ≤ 3) := by omega
      refine r_iconst (v := (-1)) dX5_done_33 rfl ?_
      refine r_iret dX5_done_34 rfl (by decide) (by decide) ?_
      exact ⟨congrArg (fun x => some (Value.int x)) (if_neg (fun h => by first | exact absurd h (by assumption) | exact absurd h.1 (by assumption) | exact absurd h.2 (by assumption) | exact absurd h.2.1 (by assumption) | exact absurd h.2.2 (by assumption) | exact absurd h.2.2.1 (by assumption) | exact absurd h.2.2.2 (by assumption) | exact absurd h.2.2.2.1 (by assumption) | exact absurd h.2.2.2.2 (by assumption))).symm, rfl, rfl⟩
    · have c2 : ((0 : Int) ≤ s.toInt ∧ s.toInt < (4 : Int)) := c2
      have g2 : 0 ≤ s.toInt ∧ s.toInt ≤ 3 := by omega
      obtain ⟨sj, hsj1, hsj2, rfl⟩ := arg_rng (a := 0) (b := 3) (show ((0 : Nat) : Int) ≤ s.toInt ∧ s.toInt ≤ ((3 : Nat) : Int) by omega)
      refine r_iload_n dX5_done_15 rfl rfl ?_
      refine r_cS1F ms_X5_isLane ml_X5_197 (c5_isLane l _) dX5_done_16 (Nat.le_of_ble_eq_true rfl) ⟨by decide, by decide⟩ ⟨by decide, by decide⟩ (fun _ h => nomatch h) ?_
      try dsimp only [zrst, List.cons_append, List.nil_append]
      first | refine r_if_eqB (tgt := 33) dX5_done_19 (by decide) (fun c3 => ?_) (fun c3 => ?_) | refine r_if_eqN (tgt := 33) dX5_done_19 (by decide) (by omega) (fun c3 => ?_) (fun c3 => ?_) | refine r_if_eq (tgt := 33) dX5_done_19 (by decide) (fun c3 => ?_) (fun c3 => ?_)
      · have c3 : ¬ ((0 : Int) ≤ w.toInt ∧ w.toInt < (4 : Int)) := c3
        have b3 : ¬ (0 ≤ w.toInt ∧ w.toInt ≤ 3) := by omega
        refine r_iconst (v := (-1)) dX5_done_33 rfl ?_
        refine r_iret dX5_done_34 rfl (by decide) (by decide) ?_
        exact ⟨congrArg (fun x => some (Value.int x)) (if_neg (fun h => by first | exact absurd h (by assumption) | exact absurd h.1 (by assumption) | exact absurd h.2 (by assumption) | exact absurd h.2.1 (by assumption) | exact absurd h.2.2 (by assumption) | exact absurd h.2.2.1 (by assumption) | exact absurd h.2.2.2 (by assumption) | exact absurd h.2.2.2.1 (by assumption) | exact absurd h.2.2.2.2 (by assumption))).symm, rfl, rfl⟩
      · have c3 : ((0 : Int) ≤ w.toInt ∧ w.toInt < (4 : Int)) := c3
        have g3 : 0 ≤ w.toInt ∧ w.toInt ≤ 3 := by omega
        obtain ⟨La, hLa1, hLa2, rfl⟩ := arg_rng (a := 0) (b := 3) (show ((0 : Nat) : Int) ≤ w.toInt ∧ w.toInt ≤ ((3 : Nat) : Int) by omega)
        refine r_iload dX5_done_22 rfl ?_
        refine r_i2l dX5_done_24 rfl ?_
        refine r_lconst (v := 0) dX5_done_25 rfl ?_
        refine r_lconst (v := 1) dX5_done_26 rfl ?_
        refine r_cS3F ms_X5_in ml_X5_41 (c5_in l _ _ _) dX5_done_27 (Nat.le_of_ble_eq_true rfl) ⟨by decide, by decide⟩ ⟨by decide, by decide⟩ (fun _ h => nomatch h) ?_
        try dsimp only [zrst, List.cons_append, List.nil_append]
        first | refine r_if_neB (tgt := 35) dX5_done_30 (by decide) (fun c4 => ?_) (fun c4 => ?_) | refine r_if_neN (tgt := 35) dX5_done_30 (by decide) (by omega) (fun c4 => ?_) (fun c4 => ?_) | refine r_if_ne (tgt := 35) dX5_done_30 (by decide) (fun c4 => ?_) (fun c4 => ?_)
        · rw [i64_of32] at c4
          have c4 : ((0 : Int) ≤ c.toInt ∧ c.toInt ≤ (1 : Int)) := c4
          have g4 : 0 ≤ c.toInt ∧ c.toInt ≤ 1 := by omega
          obtain ⟨ck, hck1, hck2, rfl⟩ := arg_rng (a := 0) (b := 1) (show ((0 : Nat) : Int) ≤ c.toInt ∧ c.toInt ≤ ((1 : Nat) : Int) by omega)
          refine r_aload_n dX5_done_35 rfl rfl ?_
          refine r_iload_n dX5_done_36 rfl rfl ?_
          refine r_iload_n dX5_done_37 rfl rfl ?_
          refine r_iload dX5_done_38 rfl ?_
          refine r_iconst (v := nI 4) dX5_done_40 rfl ?_
          rcases hzr : z sj with _ | ⟨r, ri, L⟩
          · have hlr := (hC sj (by omega)).1 hzr
            refine r_cV4F mv_X5_why ml_X5_200 (c5_whyN l hR (by omega) hlr _ _ _) dX5_done_41 (Nat.le_of_ble_eq_true rfl) ⟨by decide, by decide⟩ ⟨by decide, by decide⟩ sh_34 rfl (fun _ h => nomatch h) ?_
            dsimp only [zrst, List.cons_append, List.nil_append]
            refine r_istore dX5_done_44 rfl (by decide) ?_
            refine r_iload dX5_done_46 rfl ?_
            refine r_if_ge (tgt := 54) dX5_done_48 (by decide) (fun q9 => absurd q9 (by decide)) (fun _ => ?_)
            refine r_iload dX5_done_51 rfl ?_
            refine r_iret dX5_done_53 rfl (by decide) (by decide) ?_
            first
            | (refine ⟨congrArg (fun x => some (Value.int x)) ?_, rfl, rfl⟩
               rw [sp_done, if_pos ⟨g1, g2, g3, g4⟩, tn_nI (show sj < 2147483648 by omega), hzr]
               first | done | rfl)
            | (refine ⟨congrArg (fun x => some (Value.int x)) ?_, rfl, rfl⟩
               rw [sp_done, if_pos ⟨g1, g2, g3, g4⟩, tn_nI (show sj < 2147483648 by omega), tn_nI (show La < 2147483648 by omega), hzr]
               exact (if_neg e0).symm)
          · obtain ⟨hlr, hL, hszr⟩ := (hC sj (by omega)).2 _ _ _ hzr
            refine r_cV4F mv_X5_why ml_X5_200 (c5_why l hR (by omega) (by omega) hL hlr hszr _ _) dX5_done_41 (Nat.le_of_ble_eq_true rfl) ⟨by decide, by decide⟩ ⟨by decide, by decide⟩ sh_34 rfl (fun _ h => nomatch h) ?_
            dsimp only [zrst, List.cons_append, List.nil_append]
            refine r_istore dX5_done_44 rfl (by decide) ?_
            refine r_iload dX5_done_46 rfl ?_
            refine r_if_ge (tgt := 54) dX5_done_48 (by decide) (fun c9 => ?_) (fun c9 => ?_)
            · have e0 := rfz_nn (ge_nneg c9)
              obtain ⟨eL, q1, q2, q3⟩ := rfz0 e0
              have e1 : (nI 4).toInt = 4 := rfl
              rw [e1] at q3
              obtain ⟨ii, hi1, rfl, hi2⟩ := arg_pos2 q1
              rw [hi2] at q3
              rw [e0]
              refine r_iconst (v := nI 0) dX5_done_54 rfl ?_
              refine r_istore dX5_done_55 rfl (by decide) ?_
              refine r_bipush (v := (-4)) dX5_done_57 rfl ?_
              refine r_istore dX5_done_59 rfl (by decide) ?_
              refine r_iconst (v := nI 1) dX5_done_61 rfl ?_
              refine r_istore dX5_done_62 rfl (by decide) ?_
              obtain ⟨W, hWd⟩ : ∃ W, (fun m => V sj (ii + m)) = W := ⟨_, rfl⟩
              obtain ⟨kd, hkd0⟩ : ∃ kd, t 35 (8 + 5 * p) = kd := ⟨_, rfl⟩
              have loop : ∀ (j k : Nat) , k ≤ 9 → 9 < k + j → RA l none (zR 2 0 0) yX5_done cX5_done 15 (some .int) (zF (some (.int (sp_done (t 35) z (t 42) V (nI p) (nI sj) (nI La) (nI ii) (nI ck)))) (zSh ++ rw) M) 0 0 64 [some (.ref 34), some (.int (nI p)), some (.int (nI sj)), some (.int (nI La)), some (.int (nI ii)), some (.int (nI ck)), some (.int (nI 0)), some (.int (nI (dnw kd W k).1)), some (.int (fwv (dnw kd W k).2)), some (.int (nI (k + 1))), none, none, none, none, none] [] (zSh ++ rw) M := by
                intro j
                induction j with
                | zero => intro k   hk hj; exact absurd hj (by omega)
                | succ j ih =>
                  intro k   hk hj
                  refine r_iload dX5_done_64 rfl ?_
                  refine r_bipush (v := nI 10) dX5_done_66 rfl ?_
                  first | refine r_icmp_geN (tgt := 238) dX5_done_68 (by decide) (by omega) (by omega) (fun c1 => ?_) (fun c1 => ?_) | refine r_icmp_ge (tgt := 238) dX5_done_68 (by decide) (fun c1 => ?_) (fun c1 => ?_)
                  · refine r_iload dX5_done_238 rfl ?_
                    first | refine r_if_neB (tgt := 248) dX5_done_240 (by decide) (fun c2 => ?_) (fun c2 => ?_) | refine r_if_neN (tgt := 248) dX5_done_240 (by decide) (by omega) (fun c2 => ?_) (fun c2 => ?_) | refine r_if_ne (tgt := 248) dX5_done_240 (by decide) (fun c2 => ?_) (fun c2 => ?_)
                    · refine r_iload dX5_done_248 rfl ?_
                      refine r_iret dX5_done_250 rfl (by decide) (by decide) ?_
                      refine ⟨congrArg (fun x => some (Value.int x)) ?_, rfl, rfl⟩
                      rw [sp_done, if_pos ⟨g1, g2, g3, g4⟩, tn_nI (show sj < 2147483648 by omega), tn_nI (show La < 2147483648 by omega), hzr]
                      dsimp only
                      rw [if_pos e0, tn_nI (show ii < 2147483648 by omega), tn_nI (show p < 2147483648 by omega), tn_nI (show ck < 2147483648 by omega), hkd0, hWd, show (9 : Nat) = k by omega]
                      first | rw [if_pos (by omega)] | rw [if_neg (by omega)]
                    · refine r_iload dX5_done_243 rfl ?_
                      refine r_goto (tgt := 250) dX5_done_245 (by decide) ?_
                      refine r_iret dX5_done_250 rfl (by decide) (by decide) ?_
                      refine ⟨congrArg (fun x => some (Value.int x)) ?_, rfl, rfl⟩
                      rw [sp_done, if_pos ⟨g1, g2, g3, g4⟩, tn_nI (show sj < 2147483648 by omega), tn_nI (show La < 2147483648 by omega), hzr]
                      dsimp only
                      rw [if_pos e0, tn_nI (show ii < 2147483648 by omega), tn_nI (show p < 2147483648 by omega), tn_nI (show ck < 2147483648 by omega), hkd0, hWd, show (9 : Nat) = k by omega]
                      first | rw [if_pos (by omega)] | rw [if_neg (by omega)]
                  · refine r_iconst (v := nI 1) dX5_done_71 rfl ?_
                    refine r_istore dX5_done_72 rfl (by decide) ?_
                    have loop2 : ∀ (j i : Nat), i ≤ 63 → 63 < i + j → RA l none (zR 2 0 0) yX5_done cX5_done 15 (some .int) (zF (some (.int (sp_done (t 35) z (t 42) V (nI p) (nI sj) (nI La) (nI ii) (nI ck)))) (zSh ++ rw) M) 0 0 74 [some (.ref 34), some (.int (nI p)), some (.int (nI sj)), some (.int (nI La)), some (.int (nI ii)), some (.int (nI ck)), some (.int (nI 0)), some (.int (nI (dns kd W (k + 1) (dnw kd W k) i).1)), some (.int (fwv (dns kd W (k + 1) (dnw kd W k) i).2)), some (.int (nI (k + 1))), some (.int (nI (i + 1))), none, none, none, none] [] (zSh ++ rw) M := by
                      intro j
                      induction j with
                      | zero => intro i   hk hj; exact absurd hj (by omega)
                      | succ j ih2 =>
                        intro i   hk hj
                        refine r_iload dX5_done_74 rfl ?_
                        refine r_bipush (v := nI 64) dX5_done_76 rfl ?_
                        first | refine r_icmp_geN (tgt := 232) dX5_done_78 (by decide) (by omega) (by omega) (fun c1 => ?_) (fun c1 => ?_) | refine r_icmp_ge (tgt := 232) dX5_done_78 (by decide) (fun c1 => ?_) (fun c1 => ?_)
                        · first | refine r_iincN dX5_done_232 rfl rfl (by decide) ?_ | refine r_iinc dX5_done_232 rfl rfl rfl (by decide) ?_
                          refine r_goto (tgt := 64) dX5_done_235 (by decide) ?_
                          have e63 : i = 63 := by omega
                          subst e63
                          refine r_lfor 10 ?_
                          exact ih (k + 1) (by omega) (by omega)
                        · refine r_iconst (v := nI 1) dX5_done_81 rfl ?_
                          refine r_istore dX5_done_82 rfl (by decide) ?_
                          refine r_iconst (v := nI 0) dX5_done_84 rfl ?_
                          refine r_istore dX5_done_85 rfl (by decide) ?_
                          rw [show nI 1 = zb (eqs kd (k + 1) (i + 1) W 0 = true) from (zb_t1 rfl).symm]
                          have loop3 : ∀ (j m : Nat), m ≤ 4 → 4 < m + j → RA l none (zR 2 0 0) yX5_done cX5_done 15 (some .int) (zF (some (.int (sp_done (t 35) z (t 42) V (nI p) (nI sj) (nI La) (nI ii) (nI ck)))) (zSh ++ rw) M) 0 0 87 [some (.ref 34), some (.int (nI p)), some (.int (nI sj)), some (.int (nI La)), some (.int (nI ii)), some (.int (nI ck)), some (.int (nI 0)), some (.int (nI (dns kd W (k + 1) (dnw kd W k) i).1)), some (.int (fwv (dns kd W (k + 1) (dnw kd W k) i).2)), some (.int (nI (k + 1))), some (.int (nI (i + 1))), some (.int (zb (eqs kd (k + 1) (i + 1) W m = true))), some (.int (nI m)), none, none] [] (zSh ++ rw) M := by
                            intro j
                            induction j with
                            | zero => intro m   hk hj; exact absurd hj (by omega)
                            | succ j ih3 =>
                              intro m   hk hj
                              refine r_iload dX5_done_87 rfl ?_
                              refine r_iconst (v := nI 4) dX5_done_89 rfl ?_
                              first | refine r_icmp_geN (tgt := 186) dX5_done_90 (by decide) (by omega) (by omega) (fun c1 => ?_) (fun c1 => ?_) | refine r_icmp_ge (tgt := 186) dX5_done_90 (by decide) (fun c1 => ?_) (fun c1 => ?_)
                              · have e4 : m = 4 := by omega
                                subst e4
                                have hb9 := dns_le (kd := kd) (w := k + 1) (W := W) (a := dnw kd W k) i
                                have hb8 := dnw_le (kd := kd) (W := W) k
                                have hb7 : k * 63 ≤ 9 * 63 := Nat.mul_le_mul_right _ (by omega)
                                refine r_iload dX5_done_186 rfl ?_
                                refine r_if_eqB (tgt := 207) dX5_done_188 (by decide) (fun c9 => ?_) (fun c9 => ?_)
                                · have hu := dns_no (kd := kd) (w := k + 1) (k := i) (W := W) (a := dnw kd W k) c9
                                  refine r_iload dX5_done_207 rfl ?_
                                  refine r_istore dX5_done_209 rfl (by decide) ?_
                                  refine r_iload dX5_done_211 rfl ?_
                                  refine r_iload dX5_done_213 rfl ?_
                                  refine r_if_eqB (tgt := 222) dX5_done_215 (by decide) (fun _ => ?_) (fun q9 => absurd q9 c9)
                                  refine r_iconst (v := nI 0) dX5_done_222 rfl ?_
                                  first | refine r_iaddN dX5_done_223 ?_ | refine r_iadd dX5_done_223 ?_
                                  refine r_istore dX5_done_224 rfl (by decide) ?_
                                  first | refine r_iincN dX5_done_226 rfl rfl (by decide) ?_ | refine r_iinc dX5_done_226 rfl rfl rfl (by decide) ?_
                                  refine r_goto (tgt := 74) dX5_done_229 (by decide) ?_
                                  refine r_lfor 11 ?_
                                  refine r_lfor 12 ?_
                                  have h9 := ih2 (i + 1) (by omega) (by omega)
                                  rw [hu] at h9
                                  exact h9
                                · have hu := dns_yes (kd := kd) (w := k + 1) (k := i) (W := W) (a := dnw kd W k) c9
                                  refine r_iload dX5_done_191 rfl ?_
                                  first | refine r_if_neB (tgt := 207) dX5_done_193 (by decide) (fun c2 => ?_) (fun c2 => ?_) | refine r_if_neN (tgt := 207) dX5_done_193 (by decide) (by omega) (fun c2 => ?_) (fun c2 => ?_) | refine r_if_ne (tgt := 207) dX5_done_193 (by decide) (fun c2 => ?_) (fun c2 => ?_)
                                  · rw [if_neg c2] at hu
                                    refine r_iload dX5_done_207 rfl ?_
                                    refine r_istore dX5_done_209 rfl (by decide) ?_
                                    refine r_iload dX5_done_211 rfl ?_
                                    refine r_iload dX5_done_213 rfl ?_
                                    refine r_if_eqB (tgt := 222) dX5_done_215 (by decide) (fun q9 => absurd c9 q9) (fun _ => ?_)
                                    refine r_iconst (v := nI 1) dX5_done_218 rfl ?_
                                    refine r_goto (tgt := 223) dX5_done_219 (by decide) ?_
                                    first | refine r_iaddN dX5_done_223 ?_ | refine r_iadd dX5_done_223 ?_
                                    refine r_istore dX5_done_224 rfl (by decide) ?_
                                    first | refine r_iincN dX5_done_226 rfl rfl (by decide) ?_ | refine r_iinc dX5_done_226 rfl rfl rfl (by decide) ?_
                                    refine r_goto (tgt := 74) dX5_done_229 (by decide) ?_
                                    refine r_lfor 11 ?_
                                    refine r_lfor 12 ?_
                                    have h9 := ih2 (i + 1) (by omega) (by omega)
                                    rw [hu] at h9
                                    exact h9
                                  · rw [if_pos c2] at hu
                                    refine r_bipush (v := nI 100) dX5_done_196 rfl ?_
                                    refine r_iload dX5_done_198 rfl ?_
                                    first | refine r_imulN dX5_done_200 ?_ | refine r_imul dX5_done_200 ?_
                                    refine r_iload dX5_done_201 rfl ?_
                                    first | refine r_iaddN dX5_done_203 ?_ | refine r_iadd dX5_done_203 ?_
                                    refine r_goto (tgt := 209) dX5_done_204 (by decide) ?_
                                    refine r_istore dX5_done_209 rfl (by decide) ?_
                                    refine r_iload dX5_done_211 rfl ?_
                                    refine r_iload dX5_done_213 rfl ?_
                                    refine r_if_eqB (tgt := 222) dX5_done_215 (by decide) (fun q9 => absurd c9 q9) (fun _ => ?_)
                                    refine r_iconst (v := nI 1) dX5_done_218 rfl ?_
                                    refine r_goto (tgt := 223) dX5_done_219 (by decide) ?_
                                    first | refine r_iaddN dX5_done_223 ?_ | refine r_iadd dX5_done_223 ?_
                                    refine r_istore dX5_done_224 rfl (by decide) ?_
                                    first | refine r_iincN dX5_done_226 rfl rfl (by decide) ?_ | refine r_iinc dX5_done_226 rfl rfl rfl (by decide) ?_
                                    refine r_goto (tgt := 74) dX5_done_229 (by decide) ?_
                                    refine r_lfor 11 ?_
                                    refine r_lfor 12 ?_
                                    have h9 := ih2 (i + 1) (by omega) (by omega)
                                    rw [hu] at h9
                                    exact h9
                              · refine r_iconst (v := nI 0) dX5_done_93 rfl ?_
                                refine r_istore dX5_done_94 rfl (by decide) ?_
                                refine r_iconst (v := nI 0) dX5_done_96 rfl ?_
                                refine r_istore dX5_done_97 rfl (by decide) ?_
                                have loop4 : ∀ (j q : Nat), q ≤ 6 → 6 < q + j → RA l none (zR 2 0 0) yX5_done cX5_done 15 (some .int) (zF (some (.int (sp_done (t 35) z (t 42) V (nI p) (nI sj) (nI La) (nI ii) (nI ck)))) (zSh ++ rw) M) 0 0 99 [some (.ref 34), some (.int (nI p)), some (.int (nI sj)), some (.int (nI La)), some (.int (nI ii)), some (.int (nI ck)), some (.int (nI 0)), some (.int (nI (dns kd W (k + 1) (dnw kd W k) i).1)), some (.int (fwv (dns kd W (k + 1) (dnw kd W k) i).2)), some (.int (nI (k + 1))), some (.int (nI (i + 1))), some (.int (zb (eqs kd (k + 1) (i + 1) W m = true))), some (.int (nI m)), some (.int (nI (lsk6 kd (k + 1) (i + 1) m q))), some (.int (nI q))] [] (zSh ++ rw) M := by
                                  intro j
                                  induction j with
                                  | zero => intro q   hk hj; exact absurd hj (by omega)
                                  | succ j ih4 =>
                                    intro q   hk hj
                                    refine r_iload dX5_done_99 rfl ?_
                                    refine r_bipush (v := nI 6) dX5_done_101 rfl ?_
                                    first | refine r_icmp_geN (tgt := 146) dX5_done_103 (by decide) (by omega) (by omega) (fun c1 => ?_) (fun c1 => ?_) | refine r_icmp_ge (tgt := 146) dX5_done_103 (by decide) (fun c1 => ?_) (fun c1 => ?_)
                                    · have e6 : q = 6 := by omega
                                      subst e6
                                      have hle := lsm_le (kd := kd) (s := i + 1) (m := m) (show k + 1 ≤ 9 by omega)
                                      have hle2 : lsk6 kd (k + 1) (i + 1) m 6 ≤ 108 := hle
                                      refine r_iload dX5_done_146 rfl ?_
                                      first | refine r_if_eqB (tgt := 177) dX5_done_148 (by decide) (fun c2 => ?_) (fun c2 => ?_) | refine r_if_eqN (tgt := 177) dX5_done_148 (by decide) (by omega) (fun c2 => ?_) (fun c2 => ?_) | refine r_if_eq (tgt := 177) dX5_done_148 (by decide) (fun c2 => ?_) (fun c2 => ?_)
                                      · have hX : zb (eqs kd (k + 1) (i + 1) W (m + 1) = true) = nI 0 := zb_f1 (fun h => c2 (eqs_succ.mp h).1)
                                        refine r_iconst (v := nI 0) dX5_done_177 rfl ?_
                                        refine r_istore dX5_done_178 rfl (by decide) ?_
                                        first | refine r_iincN dX5_done_180 rfl rfl (by decide) ?_ | refine r_iinc dX5_done_180 rfl rfl rfl (by decide) ?_
                                        refine r_goto (tgt := 87) dX5_done_183 (by decide) ?_
                                        refine r_lfor 13 ?_
                                        refine r_lfor 14 ?_
                                        have h9 := ih3 (m + 1) (by omega) (by omega)
                                        rw [hX] at h9
                                        exact h9
                                      · have he := c2
                                        refine r_iload dX5_done_151 rfl ?_
                                        refine r_i2l dX5_done_153 rfl ?_
                                        refine r_top (v' := .long (lN (lsm kd (k + 1) (i + 1) m))) (congrArg Value.long (nI_l (by omega))) ?_
                                        refine r_aload_n dX5_done_154 rfl rfl ?_
                                        refine r_getR fl_X5_34 dX5_done_155 sh_34 rfl ?_
                                        refine r_bipush (v := nI 24) dX5_done_158 rfl ?_
                                        refine r_iload_n dX5_done_160 rfl rfl ?_
                                        first | refine r_imulN dX5_done_161 ?_ | refine r_imul dX5_done_161 ?_
                                        refine r_iload dX5_done_162 rfl ?_
                                        first | refine r_iaddN dX5_done_164 ?_ | refine r_iadd dX5_done_164 ?_
                                        refine r_iload dX5_done_165 rfl ?_
                                        first | refine r_iaddN dX5_done_167 ?_ | refine r_iadd dX5_done_167 ?_
                                        refine r_laldN dX5_done_168 sh_43 (by omega) (by decide) (show M.2.1 43 (24 * sj + ii + m) = W m from by rw [Nat.add_assoc, hV sj r ri L (by omega) hzr (ii + m) (by omega), ← hWd]) ?_
                                        refine r_lcmp dX5_done_169 ?_
                                        refine r_if_ne (tgt := 177) dX5_done_170 (by decide) (fun c3 => ?_) (fun c3 => ?_)
                                        · have hX : zb (eqs kd (k + 1) (i + 1) W (m + 1) = true) = nI 0 := zb_f1 (fun h => c3 ((lg_cmp_eq _ _).mpr (eqs_succ.mp h).2))
                                          refine r_iconst (v := nI 0) dX5_done_177 rfl ?_
                                          refine r_istore dX5_done_178 rfl (by decide) ?_
                                          first | refine r_iincN dX5_done_180 rfl rfl (by decide) ?_ | refine r_iinc dX5_done_180 rfl rfl rfl (by decide) ?_
                                          refine r_goto (tgt := 87) dX5_done_183 (by decide) ?_
                                          refine r_lfor 13 ?_
                                          refine r_lfor 14 ?_
                                          have h9 := ih3 (m + 1) (by omega) (by omega)
                                          rw [hX] at h9
                                          exact h9
                                        · have hX : zb (eqs kd (k + 1) (i + 1) W (m + 1) = true) = nI 1 := zb_t1 (eqs_succ.mpr ⟨he, (lg_cmp_eq _ _).mp c3⟩)
                                          refine r_iconst (v := nI 1) dX5_done_173 rfl ?_
                                          refine r_goto (tgt := 178) dX5_done_174 (by decide) ?_
                                          refine r_istore dX5_done_178 rfl (by decide) ?_
                                          first | refine r_iincN dX5_done_180 rfl rfl (by decide) ?_ | refine r_iinc dX5_done_180 rfl rfl rfl (by decide) ?_
                                          refine r_goto (tgt := 87) dX5_done_183 (by decide) ?_
                                          refine r_lfor 13 ?_
                                          refine r_lfor 14 ?_
                                          have h9 := ih3 (m + 1) (by omega) (by omega)
                                          rw [hX] at h9
                                          exact h9
                                    · refine r_iload dX5_done_106 rfl ?_
                                      refine r_iload dX5_done_108 rfl ?_
                                      refine r_iload dX5_done_110 rfl ?_
                                      first | refine r_ishrN dX5_done_112 (by omega) (by omega) ?_ | refine r_ishr dX5_done_112 ?_
                                      refine r_iconst (v := nI 1) dX5_done_113 rfl ?_
                                      first | refine r_iandN dX5_done_114 ?_ | refine r_iand dX5_done_114 ?_
                                      rw [bit1]
                                      have hbt : (if (i + 1).testBit q = true then 1 else 0) < 2 := by split <;> decide
                                      refine r_iconst (v := nI 1) dX5_done_115 rfl ?_
                                      first | refine r_icmp_neN (tgt := 136) dX5_done_116 (by decide) (by omega) (by omega) (fun c4 => ?_) (fun c4 => ?_) | refine r_icmp_ne (tgt := 136) dX5_done_116 (by decide) (fun c4 => ?_) (fun c4 => ?_)
                                      · have hX : (if (i + 1).testBit q = true then lgr kd q m (k + 1) else 0) = 0 := if_neg (fun h => c4 (if_pos h))
                                        refine r_iconst (v := nI 0) dX5_done_136 rfl ?_
                                        first | refine r_iaddN dX5_done_137 ?_ | refine r_iadd dX5_done_137 ?_
                                        refine r_istore dX5_done_138 rfl (by decide) ?_
                                        first | refine r_iincN dX5_done_140 rfl rfl (by decide) ?_ | refine r_iinc dX5_done_140 rfl rfl rfl (by decide) ?_
                                        refine r_goto (tgt := 99) dX5_done_143 (by decide) ?_
                                        have h9 := ih4 (q + 1) (by omega) (by omega)
                                        have e9 : lsk6 kd (k + 1) (i + 1) m (q + 1) = lsk6 kd (k + 1) (i + 1) m q + _ := congrArg (lsk6 kd (k + 1) (i + 1) m q + ·) hX
                                        rw [e9] at h9
                                        exact h9
                                      · have hX : (if (i + 1).testBit q = true then lgr kd q m (k + 1) else 0) = lgr kd q m (k + 1) := if_pos (by
                                          by_cases h : (i + 1).testBit q = true
                                          · exact h
                                          · rw [if_neg h] at c4; exact absurd c4 (by decide))
                                        refine r_aload_n dX5_done_119 rfl rfl ?_
                                        refine r_iload_n dX5_done_120 rfl rfl ?_
                                        refine r_cV1F mv_X5_kind ml_X5_58 (c5_kind l hR (by omega)) dX5_done_121 (Nat.le_of_ble_eq_true rfl) ⟨by decide, by decide⟩ ⟨by decide, by decide⟩ sh_34 rfl (fun _ h => nomatch h) ?_
                                        try dsimp only [zrst, List.cons_append, List.nil_append]
                                        refine r_top (v' := .int (nI kd)) (congrArg (fun z => Value.int (nI z)) hkd0) ?_
                                        refine r_iload dX5_done_124 rfl ?_
                                        refine r_iload dX5_done_126 rfl ?_
                                        refine r_iload dX5_done_128 rfl ?_
                                        refine r_cS4F ms_X5_longer ml_X5_66 (c5_longer l (hkd0 ▸ hkd p hp) (by omega) (by omega) (by omega)) dX5_done_130 (Nat.le_of_ble_eq_true rfl) ⟨by decide, by decide⟩ ⟨by decide, by decide⟩ (fun _ h => nomatch h) ?_
                                        try dsimp only [zrst, List.cons_append, List.nil_append]
                                        refine r_goto (tgt := 137) dX5_done_133 (by decide) ?_
                                        first | refine r_iaddN dX5_done_137 ?_ | refine r_iadd dX5_done_137 ?_
                                        refine r_istore dX5_done_138 rfl (by decide) ?_
                                        first | refine r_iincN dX5_done_140 rfl rfl (by decide) ?_ | refine r_iinc dX5_done_140 rfl rfl rfl (by decide) ?_
                                        refine r_goto (tgt := 99) dX5_done_143 (by decide) ?_
                                        have h9 := ih4 (q + 1) (by omega) (by omega)
                                        have e9 : lsk6 kd (k + 1) (i + 1) m (q + 1) = lsk6 kd (k + 1) (i + 1) m q + _ := congrArg (lsk6 kd (k + 1) (i + 1) m q + ·) hX
                                        rw [e9] at h9
                                        exact h9
                                exact loop4 (6 + 1) 0 (Nat.zero_le _) (by omega)
                          exact loop3 (4 + 1) 0 (Nat.zero_le _) (by omega)
                    exact loop2 (63 + 1) 0 (Nat.zero_le _) (by omega)
              exact loop (9 + 1) 0 (Nat.zero_le _) (by omega)
            · have e0 := rfz_neg (nge_neg c9)
              refine r_iload dX5_done_51 rfl ?_
              refine r_iret dX5_done_53 rfl (by decide) (by decide) ?_
              first
              | (refine ⟨congrArg (fun x => some (Value.int x)) ?_, rfl, rfl⟩
                 rw [sp_done, if_pos ⟨g1, g2, g3, g4⟩, tn_nI (show sj < 2147483648 by omega), hzr]
                 first | done | rfl)
              | (refine ⟨congrArg (fun x => some (Value.int x)) ?_, rfl, rfl⟩
                 rw [sp_done, if_pos ⟨g1, g2, g3, g4⟩, tn_nI (show sj < 2147483648 by omega), tn_nI (show La < 2147483648 by omega), hzr]
                 exact (if_neg e0).symm)
        · rw [i64_of32] at c4
          have c4 : ¬ ((0 : Int) ≤ c.toInt ∧ c.toInt ≤ (1 : Int)) := c4
          have b4 : ¬ (0 ≤ c.toInt ∧ c.toInt ≤ 1) := by omega
          refine r_iconst (v := (-1)) dX5_done_33 rfl ?_
          refine r_iret dX5_done_34 rfl (by decide) (by decide) ?_
          exact ⟨congrArg (fun x => some (Value.int x)) (if_neg (fun h => by first | exact absurd h (by assumption) | exact absurd h.1 (by assumption) | exact absurd h.2 (by assumption) | exact absurd h.2.1 (by assumption) | exact absurd h.2.2 (by assumption) | exact absurd h.2.2.1 (by assumption) | exact absurd h.2.2.2 (by assumption) | exact absurd h.2.2.2.1 (by assumption) | exact absurd h.2.2.2.2 (by assumption))).symm, rfl, rfl⟩

