set_option maxHeartbeats 4000000 in
set_option maxRecDepth 100000 in
theorem c0_matchSuits (l : Launch) {rw : List zC} {M0 : zM} {n u : Nat → Nat} {kn : Nat} (hS0 : SI 1 n u kn M0) (hn : NB n) (hfit : ∀ p, p < n 0 → M0.1 29 p = nI (fb n p (n 1))) : CT l false 2 0 0 yX0_matchSuits cX0_matchSuits 3 none [.ref 24] (zSh ++ rw) M0 (zG (zSh ++ rw) (fun v9 M9 => v9 = none ∧ (∀ p, p ≤ n 0 → ∀ t, t < 16 → M9.1 30 (p * 16 + t) = nI (mst n (n 0 - p) p t)) ∧ zfr (fun i => i = 30) M0 M9)) := by
  refine CT.ofN (by decide) (fun _ _ => Nat.le_of_ble_eq_true rfl) ?_
  have hdd := hn.2.2.2.2.2.2.2.2.2.2.2
  have hkd := hn.2.2.2.2.2.2.2.2.1
  have how := hn.2.2.2.2.2.2.2.2.2.1
  have hcu := hn.2.2.2.2.2.2.2.2.2.2.1
  have hb0 := hn.1
  have hb1 := hn.2.1
  have hb2 := hn.2.2.1
  have hb3 := hn.2.2.2.1
  have hb4 := hn.2.2.2.2.1
  have hb5 := hn.2.2.2.2.2.1
  have hb6 := hn.2.2.2.2.2.2.1
  refine r_iconst (v := nI 0) dX0_matchSuits_0 rfl ?_
  refine r_istore_n dX0_matchSuits_1 rfl rfl (by decide) ?_
  have loop : ∀ (j k : Nat) (M : zM) (hI : ∀ t, t < k → M.1 30 (n 0 * 16 + t) = nI 0) (hF : zfr (fun i => i = 30) M0 M), k ≤ 16 → 16 < k + j → RA l none (zR 2 0 0) yX0_matchSuits cX0_matchSuits 3 none (zG (zSh ++ rw) (fun v9 M9 => v9 = none ∧ (∀ p, p ≤ n 0 → ∀ t, t < 16 → M9.1 30 (p * 16 + t) = nI (mst n (n 0 - p) p t)) ∧ zfr (fun i => i = 30) M0 M9)) 0 0 2 [some (.ref 24), some (.int (nI k)), none] [] (zSh ++ rw) M := by
    intro j
    induction j with
    | zero => intro k M hI hF hk hj; exact absurd hj (by omega)
    | succ j ih =>
      intro k M hI hF hk hj
      have hS := SI_zfr hS0 hF (fun i h1 h2 => by omega)
      refine r_iload_n dX0_matchSuits_2 rfl rfl ?_
      refine r_bipush (v := nI 16) dX0_matchSuits_3 rfl ?_
      first | refine r_icmp_geN (tgt := 32) dX0_matchSuits_5 (by decide) (by omega) (by omega) (fun c1 => ?_) (fun c1 => ?_) | refine r_icmp_ge (tgt := 32) dX0_matchSuits_5 (by decide) (fun c1 => ?_) (fun c1 => ?_)
      · refine r_aload_n dX0_matchSuits_32 rfl rfl ?_
        refine r_getR fl_X0_37 dX0_matchSuits_33 sh_24 rfl ?_
        refine r_getV fl_X0_118 dX0_matchSuits_36 sh_1 rfl hS.f0 ?_
        refine r_iconst (v := nI 1) dX0_matchSuits_39 rfl ?_
        refine r_isub dX0_matchSuits_40 ?_
        refine r_istore_n dX0_matchSuits_41 rfl rfl (by decide) ?_
        have loop3 : ∀ k, k ≤ n 0 → ∀ (M : zM), (∀ p, k ≤ p → p ≤ n 0 → ∀ t, t < 16 → M.1 30 (p * 16 + t) = nI (mst n (n 0 - p) p t)) → zfr (fun i => i = 30) M0 M → RA l none (zR 2 0 0) yX0_matchSuits cX0_matchSuits 3 none (zG (zSh ++ rw) (fun v9 M9 => v9 = none ∧ (∀ p, p ≤ n 0 → ∀ t, t < 16 → M9.1 30 (p * 16 + t) = nI (mst n (n 0 - p) p t)) ∧ zfr (fun i => i = 30) M0 M9)) 0 0 42 [some (.ref 24), some (.int (nI k - nI 1)), none] [] (zSh ++ rw) M := by
          intro k
          induction k with
          | zero =>
            intro hk M hI hF
            refine r_iload_n dX0_matchSuits_42 rfl rfl ?_
            refine r_if_lt (tgt := 83) dX0_matchSuits_43 (by decide) (fun _ => ?_) (fun q9 => absurd (by decide) q9)
            refine r_vret dX0_matchSuits_83 rfl (by decide) (by decide) ?_
            exact ⟨rfl, rfl, fun p hp => hI p (Nat.zero_le _) hp, hF⟩
          | succ k ih3 =>
            intro hk M hI hF
            rw [show nI (k + 1) - nI 1 = nI k from pk_sub (by omega)]
            refine r_iload_n dX0_matchSuits_42 rfl rfl ?_
            refine r_if_ltN (tgt := 83) dX0_matchSuits_43 (by decide) (by omega) ?_
            refine r_iconst (v := nI 0) dX0_matchSuits_46 rfl ?_
            refine r_istore_n dX0_matchSuits_47 rfl rfl (by decide) ?_
            have loop4 : ∀ (j i : Nat) (M : zM) (hI : ∀ p, k + 1 ≤ p → p ≤ n 0 → ∀ t, t < 16 → M.1 30 (p * 16 + t) = nI (mst n (n 0 - p) p t)) (hK : ∀ t, t < i → M.1 30 (k * 16 + t) = nI (mst n (n 0 - k) k t)) (hF : zfr (fun i => i = 30) M0 M), i ≤ 16 → 16 < i + j → RA l none (zR 2 0 0) yX0_matchSuits cX0_matchSuits 3 none (zG (zSh ++ rw) (fun v9 M9 => v9 = none ∧ (∀ p, p ≤ n 0 → ∀ t, t < 16 → M9.1 30 (p * 16 + t) = nI (mst n (n 0 - p) p t)) ∧ zfr (fun i => i = 30) M0 M9)) 0 0 48 [some (.ref 24), some (.int (nI k)), some (.int (nI i))] [] (zSh ++ rw) M := by
              intro j
              induction j with
              | zero => intro i M hI hK hF hk hj; exact absurd hj (by omega)
              | succ j ih4 =>
                intro i M hI hK hF hk hj
                have hS := SI_zfr hS0 hF (fun i h1 h2 => by omega)
                have em9 : mst n (n 0 - k) k i = mxs (ftn n k) (mst n (n 0 - (k + 1)) (k + 1)) i (n 1) := by rw [show n 0 - k = (n 0 - (k + 1)) + 1 by omega]; rfl
                refine r_iload_n dX0_matchSuits_48 rfl rfl ?_
                refine r_bipush (v := nI 16) dX0_matchSuits_49 rfl ?_
                first | refine r_icmp_geN (tgt := 77) dX0_matchSuits_51 (by decide) (by omega) (by omega) (fun c1 => ?_) (fun c1 => ?_) | refine r_icmp_ge (tgt := 77) dX0_matchSuits_51 (by decide) (fun c1 => ?_) (fun c1 => ?_)
                · refine r_iinc dX0_matchSuits_77 rfl rfl rfl (by decide) ?_
                  refine r_goto (tgt := 42) dX0_matchSuits_80 (by decide) ?_
                  have e16 : i = 16 := by omega
                  subst e16
                  rw [show nI k + Int32.ofInt (-1) = nI k - nI 1 from by rw [Int32.sub_eq_add_neg]; rfl]
                  refine r_lfor 2 ?_
                  exact ih3 (by omega) M (fun p h1 h2 t ht => by
                    by_cases e : p = k
                    · rw [e]; exact hK t ht
                    · exact hI p (by omega) h2 t ht) hF
                · refine r_aload_n dX0_matchSuits_54 rfl rfl ?_
                  refine r_getR fl_X0_27 dX0_matchSuits_55 sh_24 rfl ?_
                  refine r_iload_n dX0_matchSuits_58 rfl rfl ?_
                  refine r_bipush (v := nI 16) dX0_matchSuits_59 rfl ?_
                  first | refine r_imulN dX0_matchSuits_61 ?_ | refine r_imul dX0_matchSuits_61 ?_
                  refine r_iload_n dX0_matchSuits_62 rfl rfl ?_
                  first | refine r_iaddN dX0_matchSuits_63 ?_ | refine r_iadd dX0_matchSuits_63 ?_
                  refine r_aload_n dX0_matchSuits_64 rfl rfl ?_
                  refine r_iload_n dX0_matchSuits_65 rfl rfl ?_
                  refine r_iload_n dX0_matchSuits_66 rfl rfl ?_
                  refine r_cV2F mv_X0_mostFrom ml_X0_124 (c0_mostFrom l hS (by omega) (by omega) (by omega) ((congrFun (hF 29 (show ¬ (29 : Nat) = 30 by decide)).1 k).trans (hfit k (by omega))) (mst n (n 0 - (k + 1)) (k + 1)) (hI (k + 1) (Nat.le_refl _) (by omega)) (fun t => by have := mst_le n (n 0 - (k + 1)) (k + 1) t; omega)) dX0_matchSuits_67 (Nat.le_of_ble_eq_true rfl) ⟨by decide, by decide⟩ ⟨by decide, by decide⟩ sh_24 rfl (fun _ h => nomatch h) ?_
                  try dsimp only [zrst, List.cons_append, List.nil_append]
                  refine r_iastN dX0_matchSuits_70 sh_30 (by omega) (by decide) ?_
                  first | refine r_iincN dX0_matchSuits_71 rfl rfl (by decide) ?_ | refine r_iinc dX0_matchSuits_71 rfl rfl rfl (by decide) ?_
                  refine r_goto (tgt := 48) dX0_matchSuits_74 (by decide) ?_
                  exact ih4 (i + 1) _ (fun p h1 h2 t ht => by
                    rw [zI_at, pk_un (by omega)]; exact hI p h1 h2 t ht) (fun t ht => by
                    rw [zI_at]
                    by_cases e : t = i
                    · rw [e, pk_us, em9]
                    · rw [pk_un (by omega)]; exact hK t (by omega)) (hF.trans (zfr_I rfl)) (by omega) (by omega)
            exact loop4 (16 + 1) 0 M hI (fun t ht => absurd ht (by omega)) hF (Nat.zero_le _) (by omega)
        exact loop3 (n 0) (Nat.le_refl _) M (fun p h1 h2 t ht => by
          have e : p = n 0 := by omega
          rw [e, Nat.sub_self]
          exact hI t (by omega)) hF
      · refine r_aload_n dX0_matchSuits_8 rfl rfl ?_
        refine r_getR fl_X0_27 dX0_matchSuits_9 sh_24 rfl ?_
        refine r_aload_n dX0_matchSuits_12 rfl rfl ?_
        refine r_getR fl_X0_37 dX0_matchSuits_13 sh_24 rfl ?_
        refine r_getV fl_X0_118 dX0_matchSuits_16 sh_1 rfl hS.f0 ?_
        refine r_bipush (v := nI 16) dX0_matchSuits_19 rfl ?_
        first | refine r_imulN dX0_matchSuits_21 ?_ | refine r_imul dX0_matchSuits_21 ?_
        refine r_iload_n dX0_matchSuits_22 rfl rfl ?_
        first | refine r_iaddN dX0_matchSuits_23 ?_ | refine r_iadd dX0_matchSuits_23 ?_
        refine r_iconst (v := nI 0) dX0_matchSuits_24 rfl ?_
        refine r_iastN dX0_matchSuits_25 sh_30 (by omega) (by decide) ?_
        first | refine r_iincN dX0_matchSuits_26 rfl rfl (by decide) ?_ | refine r_iinc dX0_matchSuits_26 rfl rfl rfl (by decide) ?_
        refine r_goto (tgt := 2) dX0_matchSuits_29 (by decide) ?_
        exact ih (k + 1) _ (fun t ht => by
          rw [zI_at]
          by_cases e : t = k
          · rw [e]; exact pk_us
          · rw [pk_un (by omega)]; exact hI t (by omega)) (hF.trans (zfr_I rfl)) (by omega) (by omega)
  exact loop (16 + 1) 0 M0 (fun t ht => absurd ht (by omega)) zfr.rf (Nat.zero_le _) (by omega)

set_option maxHeartbeats 4000000 in
set_option maxRecDepth 100000 in
theorem c0_suitOf (l : Launch) {rw : List zC} {M : zM} {n u : Nat → Nat} {kn : Nat} (hS : SI 1 n u kn M) (hn : NB n) {q : Nat} (hq : q < n 0) (hfit : ∀ p, p < n 0 → M.1 29 p = nI (fb n p (n 1))) (hI : ∀ p, p ≤ n 0 → ∀ t, t < 16 → M.1 30 (p * 16 + t) = nI (mst n (n 0 - p) p t)) : CT l false 2 0 0 yX0_suitOf cX0_suitOf 5 (some .int) [.ref 24, .int (nI q)] (zSh ++ rw) M (zF (some (.int (fwv (wn n (q + 1))))) (zSh ++ rw) M) := by
  refine CT.ofN (by decide) (fun _ _ => Nat.le_of_ble_eq_true rfl) ?_
  have hdd := hn.2.2.2.2.2.2.2.2.2.2.2
  have hkd := hn.2.2.2.2.2.2.2.2.1
  have how := hn.2.2.2.2.2.2.2.2.2.1
  have hcu := hn.2.2.2.2.2.2.2.2.2.2.1
  have hb0 := hn.1
  have hb1 := hn.2.1
  have hb2 := hn.2.2.1
  have hb3 := hn.2.2.2.1
  have hb4 := hn.2.2.2.2.1
  have hb5 := hn.2.2.2.2.2.1
  have hb6 := hn.2.2.2.2.2.2.1
  refine r_iconst (v := nI 0) dX0_suitOf_0 rfl ?_
  refine r_istore_n dX0_suitOf_1 rfl rfl (by decide) ?_
  refine r_bipush (v := (-4)) dX0_suitOf_2 rfl ?_
  refine r_istore_n dX0_suitOf_4 rfl rfl (by decide) ?_
  refine r_iconst (v := nI 0) dX0_suitOf_5 rfl ?_
  refine r_istore dX0_suitOf_6 rfl (by decide) ?_
  have loop : ∀ (j k : Nat) , k ≤ (q + 1) → (q + 1) < k + j → RA l none (zR 2 0 0) yX0_suitOf cX0_suitOf 5 (some .int) (zF (some (.int (fwv (wn n (q + 1))))) (zSh ++ rw) M) 0 0 8 [some (.ref 24), some (.int (nI q)), some (.int (nI (tkn n k))), some (.int (fwv (wn n k))), some (.int (nI k))] [] (zSh ++ rw) M := by
    intro j
    induction j with
    | zero => intro k   hk hj; exact absurd hj (by omega)
    | succ j ih =>
      intro k   hk hj
      refine r_iload dX0_suitOf_8 rfl ?_
      refine r_iload_n dX0_suitOf_10 rfl rfl ?_
      first | refine r_icmp_gtN (tgt := 40) dX0_suitOf_11 (by decide) (by omega) (by omega) (fun c1 => ?_) (fun c1 => ?_) | refine r_icmp_gt (tgt := 40) dX0_suitOf_11 (by decide) (fun c1 => ?_) (fun c1 => ?_)
      · refine r_iload_n dX0_suitOf_40 rfl rfl ?_
        refine r_iret dX0_suitOf_41 rfl (by decide) (by decide) ?_
        refine ⟨congrArg (fun x => some (Value.int x)) ?_, rfl, rfl⟩
        rw [show k = q + 1 by omega]
      · refine r_aload_n dX0_suitOf_14 rfl rfl ?_
        refine r_iload dX0_suitOf_15 rfl ?_
        refine r_iload_n dX0_suitOf_17 rfl rfl ?_
        refine r_cV2F mv_X0_firstChoice ml_X0_136 (c0_firstChoice l hS (v := mst n (n 0 - k) k (tkn n k)) (by omega) (by omega) (tkn_lt hb1 k) (by have := mst_le n (n 0 - k) k (tkn n k); omega) (hI k (by omega) _ (tkn_lt hb1 k)) (hfit k (by omega)) (mst n (n 0 - k - 1) (k + 1)) (hI (k + 1) (by omega)) (fun t => by have := mst_le n (n 0 - k - 1) (k + 1) t; omega)) dX0_suitOf_18 (Nat.le_of_ble_eq_true rfl) ⟨by decide, by decide⟩ ⟨by decide, by decide⟩ sh_24 rfl (fun _ h => nomatch h) ?_
        try dsimp only [zrst, List.cons_append, List.nil_append]
        refine r_top (v' := .int (fwv (wn n (k + 1)))) (congrArg (fun z => Value.int (fwv z)) (by rw [wn, cho, show n 0 - k - 1 + 1 = n 0 - k by omega])) ?_
        refine r_istore_n dX0_suitOf_21 rfl rfl (by decide) ?_
        refine r_iload_n dX0_suitOf_22 rfl rfl ?_
        refine r_bipush (v := (-4)) dX0_suitOf_23 rfl ?_
        have hT : tkn n (k + 1) = nxt (tkn n k) (wn n (k + 1)) := rfl
        have hcs := (cho_spec n (n 0 - k - 1) k (tkn n k)).1
        change (match wn n (k + 1) with | none => _ | some s => _) at hcs
        rcases hwn : wn n (k + 1) with _ | sx
        · refine r_icmp_eq (tgt := 34) dX0_suitOf_25 (by decide) (fun _ => ?_) (fun q9 => absurd rfl q9)
          first | refine r_iincN dX0_suitOf_34 rfl rfl (by decide) ?_ | refine r_iinc dX0_suitOf_34 rfl rfl rfl (by decide) ?_
          refine r_goto (tgt := 8) dX0_suitOf_37 (by decide) ?_
          have h9 := ih (k + 1) (by omega) (by omega)
          rw [hT, hwn] at h9
          exact h9
        · rw [hwn] at hcs
          have hsx := hcs.1
          have hpk := pw_le (show sx ≤ 10 by omega)
          refine r_icmp_eq (tgt := 34) dX0_suitOf_25 (by decide) (fun q9 => absurd q9 (nI_ne4 (by omega))) (fun _ => ?_)
          refine r_iload_n dX0_suitOf_28 rfl rfl ?_
          refine r_iconst (v := nI 1) dX0_suitOf_29 rfl ?_
          refine r_iload_n dX0_suitOf_30 rfl rfl ?_
          refine r_top (v' := .int (nI sx)) rfl ?_
          refine r_ishlN dX0_suitOf_31 (by omega) (by omega) ?_
          first | refine r_iorN dX0_suitOf_32 ?_ | refine r_ior dX0_suitOf_32 ?_
          refine r_istore_n dX0_suitOf_33 rfl rfl (by decide) ?_
          first | refine r_iincN dX0_suitOf_34 rfl rfl (by decide) ?_ | refine r_iinc dX0_suitOf_34 rfl rfl rfl (by decide) ?_
          refine r_goto (tgt := 8) dX0_suitOf_37 (by decide) ?_
          have h9 := ih (k + 1) (by omega) (by omega)
          rw [hT, hwn] at h9
          exact h9
  exact loop ((q + 1) + 1) 0 (Nat.zero_le _) (by omega)

set_option maxHeartbeats 4000000 in
set_option maxRecDepth 100000 in
theorem c4_wear (l : Launch) {rw : List zC} {M0 : zM} {n u : Nat → Nat} {kn : Nat} (hS : SI 1 n u kn M0) (hn : NB n) (x : Int32) : CT l false 6 0 0 yX4_wear cX4_wear 2 (some .int) [.ref 0, .int x] (zSh ++ rw) M0 (zG (zSh ++ rw) (fun v9 M9 => v9 = some (.int (sp_wear n x)) ∧ zfr (fun i => i = 29 ∨ i = 30) M0 M9)) := by
  refine CT.ofN (by decide) (fun _ _ => Nat.le_of_ble_eq_true rfl) ?_
  have hdd := hn.2.2.2.2.2.2.2.2.2.2.2
  have hkd := hn.2.2.2.2.2.2.2.2.1
  have how := hn.2.2.2.2.2.2.2.2.2.1
  have hcu := hn.2.2.2.2.2.2.2.2.2.2.1
  have hb0 := hn.1
  have hb1 := hn.2.1
  have hb2 := hn.2.2.1
  have hb3 := hn.2.2.2.1
  have hb4 := hn.2.2.2.2.1
  have hb5 := hn.2.2.2.2.2.1
  have hb6 := hn.2.2.2.2.2.2.1
  refine r_iload_n dX4_wear_0 rfl rfl ?_
  refine r_bipush (v := (-4)) dX4_wear_1 rfl ?_
  refine r_icmp_eq (tgt := 19) dX4_wear_3 (by decide) (fun c9 => ?_) (fun c9 => ?_)
  · subst c9
    refine r_aload_n dX4_wear_19 rfl rfl ?_
    refine r_getR fl_X4_31 dX4_wear_20 sh_0 rfl ?_
    refine r_cV0G mv_X0_findFitting ml_X4_187 (c0_findFitting l hS hn) dX4_wear_23 (Nat.le_of_ble_eq_true rfl) ⟨by decide, by decide⟩ ⟨by decide, by decide⟩ sh_24 rfl (fun _ h => nomatch h) (fun v M1 hq => ?_)
    obtain ⟨rfl, hfit, hF1⟩ := hq
    dsimp only [zrst, List.cons_append, List.nil_append]
    have hS1 := SI_zfr hS hF1 (fun i h1 h2 => by omega)
    refine r_aload_n dX4_wear_26 rfl rfl ?_
    refine r_getR fl_X4_31 dX4_wear_27 sh_0 rfl ?_
    refine r_cV0G mv_X0_matchSuits ml_X4_190 (c0_matchSuits l hS1 hn hfit) dX4_wear_30 (Nat.le_of_ble_eq_true rfl) ⟨by decide, by decide⟩ ⟨by decide, by decide⟩ sh_24 rfl (fun _ h => nomatch h) (fun v M1 hq => ?_)
    obtain ⟨rfl, hI, hF2⟩ := hq
    dsimp only [zrst, List.cons_append, List.nil_append]
    have hF : zfr (fun i => i = 29 ∨ i = 30) M0 M1 := (hF1.wk (fun i h => Or.inl h)).trans (hF2.wk (fun i h => Or.inr h))
    have hS2 := SI_zfr hS hF (fun i h1 h2 => by omega)
    have hfit2 : ∀ p, p < n 0 → M1.1 29 p = nI (fb n p (n 1)) := fun p hp => (congrFun (hF2 29 (show ¬ (29 : Nat) = 30 by decide)).1 p).trans (hfit p hp)
    refine r_iload_n dX4_wear_33 rfl rfl ?_
    refine r_bipush (v := (-4)) dX4_wear_34 rfl ?_
    refine r_icmp_ne (tgt := 49) dX4_wear_36 (by decide) (fun q9 => absurd rfl q9) (fun _ => ?_)
    refine r_aload_n dX4_wear_39 rfl rfl ?_
    refine r_getR fl_X4_31 dX4_wear_40 sh_0 rfl ?_
    refine r_cV0F mv_X0_mostDressed ml_X4_193 (c0_mostDressed l (v := mst n (n 0) 0 0) (by have h9 := hI 0 (Nat.zero_le _) 0 (by decide); exact h9)) dX4_wear_43 (Nat.le_of_ble_eq_true rfl) ⟨by decide, by decide⟩ ⟨by decide, by decide⟩ sh_24 rfl (fun _ h => nomatch h) ?_
    try dsimp only [zrst, List.cons_append, List.nil_append]
    refine r_goto (tgt := 57) dX4_wear_46 (by decide) ?_
    refine r_iret dX4_wear_57 rfl (by decide) (by decide) ?_
    refine ⟨rfl, congrArg (fun x => some (Value.int x)) ?_, hF⟩
    first
    | (rw [sp_wear, if_pos rfl]; done)
    | rw [sp_wear, if_neg hx4, if_pos g1, tn_nI (show p < 2147483648 by omega)]
  · have hx4 := c9
    refine r_aload_n dX4_wear_6 rfl rfl ?_
    refine r_getR fl_X4_10 dX4_wear_7 sh_0 rfl ?_
    refine r_iload_n dX4_wear_10 rfl rfl ?_
    refine r_cV1F mv_X3_hasPerson ml_X4_53 (c3_hasPerson l hS (by omega) _) dX4_wear_11 (Nat.le_of_ble_eq_true rfl) ⟨by decide, by decide⟩ ⟨by decide, by decide⟩ sh_1 rfl (fun _ h => nomatch h) ?_
    try dsimp only [zrst, List.cons_append, List.nil_append]
    first | refine r_if_neB (tgt := 19) dX4_wear_14 (by decide) (fun c1 => ?_) (fun c1 => ?_) | refine r_if_neN (tgt := 19) dX4_wear_14 (by decide) (by omega) (fun c1 => ?_) (fun c1 => ?_) | refine r_if_ne (tgt := 19) dX4_wear_14 (by decide) (fun c1 => ?_) (fun c1 => ?_)
    · have g1 : 0 ≤ x.toInt ∧ x.toInt < (n 0 : Int) := by omega
      obtain ⟨p, hp, rfl⟩ := arg_nat (n := n 0) (show 0 ≤ x.toInt ∧ x.toInt < ((n 0 : Nat) : Int) by omega)
      refine r_aload_n dX4_wear_19 rfl rfl ?_
      refine r_getR fl_X4_31 dX4_wear_20 sh_0 rfl ?_
      refine r_cV0G mv_X0_findFitting ml_X4_187 (c0_findFitting l hS hn) dX4_wear_23 (Nat.le_of_ble_eq_true rfl) ⟨by decide, by decide⟩ ⟨by decide, by decide⟩ sh_24 rfl (fun _ h => nomatch h) (fun v M1 hq => ?_)
      obtain ⟨rfl, hfit, hF1⟩ := hq
      dsimp only [zrst, List.cons_append, List.nil_append]
      have hS1 := SI_zfr hS hF1 (fun i h1 h2 => by omega)
      refine r_aload_n dX4_wear_26 rfl rfl ?_
      refine r_getR fl_X4_31 dX4_wear_27 sh_0 rfl ?_
      refine r_cV0G mv_X0_matchSuits ml_X4_190 (c0_matchSuits l hS1 hn hfit) dX4_wear_30 (Nat.le_of_ble_eq_true rfl) ⟨by decide, by decide⟩ ⟨by decide, by decide⟩ sh_24 rfl (fun _ h => nomatch h) (fun v M1 hq => ?_)
      obtain ⟨rfl, hI, hF2⟩ := hq
      dsimp only [zrst, List.cons_append, List.nil_append]
      have hF : zfr (fun i => i = 29 ∨ i = 30) M0 M1 := (hF1.wk (fun i h => Or.inl h)).trans (hF2.wk (fun i h => Or.inr h))
      have hS2 := SI_zfr hS hF (fun i h1 h2 => by omega)
      have hfit2 : ∀ p, p < n 0 → M1.1 29 p = nI (fb n p (n 1)) := fun p hp => (congrFun (hF2 29 (show ¬ (29 : Nat) = 30 by decide)).1 p).trans (hfit p hp)
      refine r_iload_n dX4_wear_33 rfl rfl ?_
      refine r_bipush (v := (-4)) dX4_wear_34 rfl ?_
      refine r_icmp_ne (tgt := 49) dX4_wear_36 (by decide) (fun _ => ?_) (fun q9 => absurd q9 hx4)
      refine r_aload_n dX4_wear_49 rfl rfl ?_
      refine r_getR fl_X4_31 dX4_wear_50 sh_0 rfl ?_
      refine r_iload_n dX4_wear_53 rfl rfl ?_
      refine r_cV1F mv_X0_suitOf ml_X4_196 (c0_suitOf l hS2 hn hp hfit2 hI) dX4_wear_54 (Nat.le_of_ble_eq_true rfl) ⟨by decide, by decide⟩ ⟨by decide, by decide⟩ sh_24 rfl (fun _ h => nomatch h) ?_
      try dsimp only [zrst, List.cons_append, List.nil_append]
      refine r_iret dX4_wear_57 rfl (by decide) (by decide) ?_
      refine ⟨rfl, congrArg (fun x => some (Value.int x)) ?_, hF⟩
      first
      | (rw [sp_wear, if_pos rfl]; done)
      | rw [sp_wear, if_neg hx4, if_pos g1, tn_nI (show p < 2147483648 by omega)]
    · have b1 : ¬ (0 ≤ x.toInt ∧ x.toInt < (n 0 : Int)) := by omega
      refine r_iconst (v := (-1)) dX4_wear_17 rfl ?_
      refine r_iret dX4_wear_18 rfl (by decide) (by decide) ?_
      refine ⟨rfl, congrArg (fun x => some (Value.int x)) ?_, zfr.rf⟩
      rw [sp_wear, if_neg hx4, if_neg b1]

