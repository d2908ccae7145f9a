set_option maxHeartbeats 4000000 in
set_option maxRecDepth 100000 in
theorem c0_farInAll (l : Launch) {rw : List zC} {M : zM} {n : Nat → Nat} (hn : NB n) {p m N c : Nat} (hp : p < n 0) (hm : m < 4) (hN : N ≤ 40) (hc : c ≤ 199) (hL : ∀ k, k ≤ N → M.1 25 k = nI (bcL n p m k)) : CT l false 1 0 0 yX0_farInAll cX0_farInAll 5 (some .int) [.ref 24, .int (nI c), .int (nI N)] (zSh ++ rw) M (zF (some (.int (nI (fa_ (bcL n p m) N c)))) (zSh ++ rw) M) := by
  refine CT.ofN (by decide) (fun _ _ => Nat.le_of_ble_eq_true rfl) ?_
  refine r_iconst (v := nI 0) dX0_farInAll_0 rfl ?_
  refine r_istore_n dX0_farInAll_1 rfl rfl (by decide) ?_
  refine r_iconst (v := nI 0) dX0_farInAll_2 rfl ?_
  refine r_istore dX0_farInAll_3 rfl (by decide) ?_
  have loop : ∀ (j k : Nat) , k ≤ (N + 1) → (N + 1) < k + j → RA l none (zR 1 0 0) yX0_farInAll cX0_farInAll 5 (some .int) (zF (some (.int (nI (fa_ (bcL n p m) N c)))) (zSh ++ rw) M) 0 0 5 [some (.ref 24), some (.int (nI c)), some (.int (nI N)), some (.int (nI (sm (fun k => dst (bcL n p m k) c) k))), some (.int (nI k))] [] (zSh ++ rw) M := by
    intro j
    induction j with
    | zero => intro k   hk hj; exact absurd hj (by omega)
    | succ j ih =>
      intro k   hk hj
      refine r_iload dX0_farInAll_5 rfl ?_
      refine r_iload_n dX0_farInAll_7 rfl rfl ?_
      first | refine r_icmp_gtN (tgt := 32) dX0_farInAll_8 (by decide) (by omega) (by omega) (fun c1 => ?_) (fun c1 => ?_) | refine r_icmp_gt (tgt := 32) dX0_farInAll_8 (by decide) (fun c1 => ?_) (fun c1 => ?_)
      · refine r_iload_n dX0_farInAll_32 rfl rfl ?_
        refine r_iret dX0_farInAll_33 rfl (by decide) (by decide) ?_
        refine ⟨congrArg (fun x => some (Value.int x)) ?_, rfl, rfl⟩
        rw [show k = N + 1 by omega]
        rfl
      · have hme := mea_le hn hp hm (n 3 + k) (n 6)
        change 10 ≤ bcL n p m k ∧ bcL n p m k ≤ 279 at hme
        refine r_iload_n dX0_farInAll_11 rfl rfl ?_
        refine r_aload_n dX0_farInAll_12 rfl rfl ?_
        refine r_getR fl_X0_9 dX0_farInAll_13 sh_24 rfl ?_
        refine r_iload dX0_farInAll_16 rfl ?_
        refine r_ialdN dX0_farInAll_18 sh_25 (by omega) (by decide) (hL _ (by omega)) ?_
        refine r_iload_n dX0_farInAll_19 rfl rfl ?_
        refine r_isub dX0_farInAll_20 ?_
        refine r_abs ml_X0_103 dX0_farInAll_21 (by decide) (Nat.le_of_ble_eq_true rfl) (by decide) (by decide) ?_
        rw [absd (by omega) (by omega)]
        first | refine r_iaddN dX0_farInAll_24 ?_ | refine r_iadd dX0_farInAll_24 ?_
        refine r_istore_n dX0_farInAll_25 rfl rfl (by decide) ?_
        first | refine r_iincN dX0_farInAll_26 rfl rfl (by decide) ?_ | refine r_iinc dX0_farInAll_26 rfl rfl rfl (by decide) ?_
        refine r_goto (tgt := 5) dX0_farInAll_29 (by decide) ?_
        exact ih (k + 1) (by omega) (by omega)
  exact loop ((N + 1) + 1) 0 (Nat.zero_le _) (by omega)

set_option maxHeartbeats 4000000 in
set_option maxRecDepth 100000 in
theorem c0_leastShowingCut (l : Launch) {rw : List zC} {M0 : zM} {n u : Nat → Nat} {kn : Nat} (hS : SI 1 n u kn M0) (hn : NB n) {p m N : Nat} (hp : p < n 0) (hm : m < 4) (hN : N ≤ 40) : CT l false 4 0 0 yX0_leastShowingCut cX0_leastShowingCut 8 (some .int) [.ref 24, .int (nI p), .int (nI m), .int (nI N)] (zSh ++ rw) M0 (zG (zSh ++ rw) (fun v M9 => v = some (.int (nI (lsk (fa_ (bcL n p m) N) 199 0))) ∧ (∀ k, k ≤ N → M9.1 25 k = nI (bcL n p m k)) ∧ zfr (fun i => i = 25) M0 M9)) := by
  refine CT.ofN (by decide) (fun _ _ => Nat.le_of_ble_eq_true rfl) ?_
  refine r_iconst (v := nI 0) dX0_leastShowingCut_0 rfl ?_
  refine r_istore dX0_leastShowingCut_1 rfl (by decide) ?_
  have loop : ∀ (j k : Nat) (M : zM) (hL : ∀ i, i < k → M.1 25 i = nI (bcL n p m i)) (hF : zfr (fun i => i = 25) M0 M), k ≤ (N + 1) → (N + 1) < k + j → RA l none (zR 4 0 0) yX0_leastShowingCut cX0_leastShowingCut 8 (some .int) (zG (zSh ++ rw) (fun v M9 => v = some (.int (nI (lsk (fa_ (bcL n p m) N) 199 0))) ∧ (∀ k, k ≤ N → M9.1 25 k = nI (bcL n p m k)) ∧ zfr (fun i => i = 25) M0 M9)) 0 0 3 [some (.ref 24), some (.int (nI p)), some (.int (nI m)), some (.int (nI N)), some (.int (nI k)), none, none, none] [] (zSh ++ rw) M := by
    intro j
    induction j with
    | zero => intro k M hL hF hk hj; exact absurd hj (by omega)
    | succ j ih =>
      intro k M hL hF hk hj
      refine r_iload dX0_leastShowingCut_3 rfl ?_
      refine r_iload_n dX0_leastShowingCut_5 rfl rfl ?_
      first | refine r_icmp_gtN (tgt := 33) dX0_leastShowingCut_6 (by decide) (by omega) (by omega) (fun c1 => ?_) (fun c1 => ?_) | refine r_icmp_gt (tgt := 33) dX0_leastShowingCut_6 (by decide) (fun c1 => ?_) (fun c1 => ?_)
      · have hL : ∀ i, i ≤ N → M.1 25 i = nI (bcL n p m i) := fun i hi => hL i (by omega)
        refine r_iconst (v := nI 0) dX0_leastShowingCut_33 rfl ?_
        refine r_istore dX0_leastShowingCut_34 rfl (by decide) ?_
        refine r_aload_n dX0_leastShowingCut_36 rfl rfl ?_
        refine r_iconst (v := nI 0) dX0_leastShowingCut_37 rfl ?_
        refine r_iload_n dX0_leastShowingCut_38 rfl rfl ?_
        refine r_cV2F mv_X0_farInAll ml_X0_115 (c0_farInAll l hn hp hm hN (by omega) hL) dX0_leastShowingCut_39 (Nat.le_of_ble_eq_true rfl) ⟨by decide, by decide⟩ ⟨by decide, by decide⟩ sh_24 rfl (fun _ h => nomatch h) ?_
        try dsimp only [zrst, List.cons_append, List.nil_append]
        refine r_istore dX0_leastShowingCut_42 rfl (by decide) ?_
        refine r_iconst (v := nI 1) dX0_leastShowingCut_44 rfl ?_
        refine r_istore dX0_leastShowingCut_45 rfl (by decide) ?_
        try simp only [List.nil_append]
        have loop2 : ∀ (j k : Nat)  (h1 : 1 ≤ k) (hf : lsk (fa_ (bcL n p m) N) 199 0 = lsk (fa_ (bcL n p m) N) (200 - k) (k - 1)), k ≤ 200 → 200 < k + j → RA l none (zR 4 0 0) yX0_leastShowingCut cX0_leastShowingCut 8 (some .int) (zG (zSh ++ rw) (fun v M9 => v = some (.int (nI (lsk (fa_ (bcL n p m) N) 199 0))) ∧ (∀ k, k ≤ N → M9.1 25 k = nI (bcL n p m k)) ∧ zfr (fun i => i = 25) M0 M9)) 0 0 47 [some (.ref 24), some (.int (nI p)), some (.int (nI m)), some (.int (nI N)), some (.int (nI (k - 1))), some (.int (nI (fa_ (bcL n p m) N (k - 1)))), some (.int (nI k)), none] [] (zSh ++ rw) M := by
          intro j
          induction j with
          | zero => intro k  h1 hf hk hj; exact absurd hj (by omega)
          | succ j ih2 =>
            intro k  h1 hf hk hj
            refine r_iload dX0_leastShowingCut_47 rfl ?_
            refine r_sipush (v := nI 199) dX0_leastShowingCut_49 rfl ?_
            first | refine r_icmp_gtN (tgt := 88) dX0_leastShowingCut_52 (by decide) (by omega) (by omega) (fun c1 => ?_) (fun c1 => ?_) | refine r_icmp_gt (tgt := 88) dX0_leastShowingCut_52 (by decide) (fun c1 => ?_) (fun c1 => ?_)
            · refine r_iload dX0_leastShowingCut_88 rfl ?_
              refine r_iret dX0_leastShowingCut_90 rfl (by decide) (by decide) ?_
              refine ⟨rfl, congrArg (fun x => some (Value.int (nI x))) ?_, hL, hF⟩
              rw [hf]
              exact (lsk_stop h1 (by omega) (by omega)).symm
            · have q1 := fa_le hn hp hm hN (show k ≤ 199 by omega) (N + 1) (Nat.le_refl _)
              have q2 := fa_le hn hp hm hN (show k - 1 ≤ 199 by omega) (N + 1) (Nat.le_refl _)
              change fa_ (bcL n p m) N k ≤ 20000 at q1
              change fa_ (bcL n p m) N (k - 1) ≤ 20000 at q2
              refine r_aload_n dX0_leastShowingCut_55 rfl rfl ?_
              refine r_iload dX0_leastShowingCut_56 rfl ?_
              refine r_iload_n dX0_leastShowingCut_58 rfl rfl ?_
              refine r_cV2F mv_X0_farInAll ml_X0_115 (c0_farInAll l hn hp hm hN (by omega) hL) dX0_leastShowingCut_59 (Nat.le_of_ble_eq_true rfl) ⟨by decide, by decide⟩ ⟨by decide, by decide⟩ sh_24 rfl (fun _ h => nomatch h) ?_
              try dsimp only [zrst, List.cons_append, List.nil_append]
              refine r_istore dX0_leastShowingCut_62 rfl (by decide) ?_
              refine r_iload dX0_leastShowingCut_64 rfl ?_
              refine r_iload dX0_leastShowingCut_66 rfl ?_
              first | refine r_icmp_ltN (tgt := 74) dX0_leastShowingCut_68 (by decide) (by omega) (by omega) (fun c2 => ?_) (fun c2 => ?_) | refine r_icmp_lt (tgt := 74) dX0_leastShowingCut_68 (by decide) (fun c2 => ?_) (fun c2 => ?_)
              · have c4 : fa_ (bcL n p m) N k < fa_ (bcL n p m) N (k - 1) := c2
                refine r_iload dX0_leastShowingCut_74 rfl ?_
                refine r_istore dX0_leastShowingCut_76 rfl (by decide) ?_
                refine r_iload dX0_leastShowingCut_78 rfl ?_
                refine r_istore dX0_leastShowingCut_80 rfl (by decide) ?_
                first | refine r_iincN dX0_leastShowingCut_82 rfl rfl (by decide) ?_ | refine r_iinc dX0_leastShowingCut_82 rfl rfl rfl (by decide) ?_
                refine r_goto (tgt := 47) dX0_leastShowingCut_85 (by decide) ?_
                refine r_lfor 7 ?_
                have h9 := ih2 (k + 1) (by omega) (hf.trans (lsk_step h1 (by omega) c4)) (by omega) (by omega)
                rw [show k + 1 - 1 = k by omega] at h9
                exact h9
              · have c5 : ¬ fa_ (bcL n p m) N k < fa_ (bcL n p m) N (k - 1) := by omega
                refine r_goto (tgt := 88) dX0_leastShowingCut_71 (by decide) ?_
                refine r_iload dX0_leastShowingCut_88 rfl ?_
                refine r_iret dX0_leastShowingCut_90 rfl (by decide) (by decide) ?_
                refine ⟨rfl, congrArg (fun x => some (Value.int (nI x))) ?_, hL, hF⟩
                rw [hf]
                exact (lsk_stop h1 (by omega) (by omega)).symm
        exact loop2 (200 + 1) 1 (Nat.le_refl _) rfl (by decide) (by decide)
      · have hS1 := SI_zfr hS hF (fun i h1 h2 => by omega)
        refine r_aload_n dX0_leastShowingCut_9 rfl rfl ?_
        refine r_getR fl_X0_9 dX0_leastShowingCut_10 sh_24 rfl ?_
        refine r_iload dX0_leastShowingCut_13 rfl ?_
        refine r_aload_n dX0_leastShowingCut_15 rfl rfl ?_
        refine r_getR fl_X0_37 dX0_leastShowingCut_16 sh_24 rfl ?_
        refine r_iload_n dX0_leastShowingCut_19 rfl rfl ?_
        refine r_iload_n dX0_leastShowingCut_20 rfl rfl ?_
        refine r_iload dX0_leastShowingCut_21 rfl ?_
        refine r_cV3F mv_X3_measureBehind ml_X0_111 (c3_measureBehind l hS1 hn hp hm (by omega)) dX0_leastShowingCut_23 (Nat.le_of_ble_eq_true rfl) ⟨by decide, by decide⟩ ⟨by decide, by decide⟩ sh_1 rfl (fun _ h => nomatch h) ?_
        try dsimp only [zrst, List.cons_append, List.nil_append]
        refine r_iastN dX0_leastShowingCut_26 sh_25 (by omega) (by decide) ?_
        first | refine r_iincN dX0_leastShowingCut_27 rfl rfl (by decide) ?_ | refine r_iinc dX0_leastShowingCut_27 rfl rfl rfl (by decide) ?_
        refine r_goto (tgt := 3) dX0_leastShowingCut_30 (by decide) ?_
        exact ih (k + 1) _ (fun i hi => by
          rw [zI_at]
          by_cases e : i = k
          · rw [e]; exact pk_us
          · rw [pk_un e]; exact hL i (by omega)) (hF.trans (zfr_I rfl)) (by omega) (by omega)
  exact loop ((N + 1) + 1) 0 M0 (fun i hi => absurd hi (by omega)) zfr.rf (Nat.zero_le _) (by omega)

