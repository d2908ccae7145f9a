def SU (kd w k : Nat) (M : zM) : Prop := ∀ s, s < k → ∀ m, m < 4 → M.1 31 (s * 4 + m) = nI (lsm kd w s m)
theorem lsm_0 (kd w m : Nat) : lsm kd w 0 m = 0 := by simp [lsm, lsk6, sm]
theorem lsm_le {kd w s m : Nat} (hw : w ≤ 9) : lsm kd w s m ≤ 108 := lsk6_le hw 6
theorem eqs_cong {kd w s : Nat} {W W' : Nat → Int64} : ∀ k, (∀ m, m < k → W m = W' m) → eqs kd w s W k = eqs kd w s W' k
  | 0, _ => rfl
  | k + 1, h => by rw [eqs, eqs, eqs_cong k (fun m hm => h m (by omega)), h k (by omega)]
theorem dns_cong {kd w : Nat} {W W' : Nat → Int64} {a : Nat × Option Nat} (h : ∀ m, m < 4 → W m = W' m) : ∀ k, dns kd W w a k = dns kd W' w a k
  | 0 => rfl
  | k + 1 => by rw [dns, dns, dns_cong h k, eqs_cong 4 h]
theorem dnw_cong {kd : Nat} {W W' : Nat → Int64} (h : ∀ m, m < 4 → W m = W' m) : ∀ k, dnw kd W k = dnw kd W' k
  | 0 => rfl
  | k + 1 => by rw [dnw, dnw, dnw_cong h k, dns_cong h]
theorem dns_no {kd w k : Nat} {W : Nat → Int64} {a : Nat × Option Nat} (h : ¬ eqs kd w (k + 1) W 4 = true) : dns kd W w a (k + 1) = dns kd W w a k := by
  rw [dns, dnh, if_neg h]
theorem dns_yes {kd w k : Nat} {W : Nat → Int64} {a : Nat × Option Nat} (h : eqs kd w (k + 1) W 4 = true) : dns kd W w a (k + 1) = ((dns kd W w a k).1 + 1, if (dns kd W w a k).1 = 0 then some (100 * w + (k + 1)) else (dns kd W w a k).2) := by
  rw [dns, dnh, if_pos h]
set_option maxHeartbeats 4000000 in
set_option maxRecDepth 100000 in
theorem c0_addsUpTo (l : Launch) {rw : List zC} {M0 : zM} {kd w s : Nat} (hkd : kd ≤ 4) (hw : w ≤ 9) (hs : 1 ≤ s) (hs2 : s < 64) (hU : SU kd w s M0) : CT l false 2 0 0 yX0_addsUpTo cX0_addsUpTo 9 (some .boolean) [.ref 24, .int (nI kd), .int (nI w), .int (nI s)] (zSh ++ rw) M0 (zG (zSh ++ rw) (fun v9 M9 => v9 = some (.int (zb (eqs kd w s (M0.2.1 32) 4 = true))) ∧ SU kd w (s + 1) M9 ∧ zfr (fun i => i = 31) M0 M9)) := by
  refine CT.ofN (by decide) (fun _ _ => Nat.le_of_ble_eq_true rfl) ?_
  refine r_iload_n dX0_addsUpTo_0 rfl rfl ?_
  refine r_cN1F ms_X4_lowestOf (fun _ h => h.2.2.2.2.2.1) (c4_lowestOf l _) dX0_addsUpTo_1 (Nat.le_of_ble_eq_true rfl) ⟨by decide, by decide⟩ ⟨by decide, by decide⟩ (fun _ h => nomatch h) ?_
  try dsimp only [zrst, List.cons_append, List.nil_append]
  rw [bcx_low s (by omega) (by omega)]
  obtain ⟨hl6, hrs, -⟩ := low6 s hs2 (by omega)
  have hst : ∀ m, lsm kd w (s &&& (s - 1)) m + lgr kd (low s) m w = lsm kd w s m := fun m => lsm_step hs2 (by omega)
  refine r_istore dX0_addsUpTo_4 rfl (by decide) ?_
  refine r_iload_n dX0_addsUpTo_6 rfl rfl ?_
  refine r_iload_n dX0_addsUpTo_7 rfl rfl ?_
  refine r_iconst (v := nI 1) dX0_addsUpTo_8 rfl ?_
  first | refine r_isubN dX0_addsUpTo_9 (by omega) ?_ | refine r_isub dX0_addsUpTo_9 ?_
  first | refine r_iandN dX0_addsUpTo_10 ?_ | refine r_iand dX0_addsUpTo_10 ?_
  generalize s &&& (s - 1) = rr at hrs hst ⊢
  refine r_istore dX0_addsUpTo_11 rfl (by decide) ?_
  refine r_iconst (v := nI 1) dX0_addsUpTo_13 rfl ?_
  refine r_istore dX0_addsUpTo_14 rfl (by decide) ?_
  refine r_iconst (v := nI 0) dX0_addsUpTo_16 rfl ?_
  refine r_istore dX0_addsUpTo_17 rfl (by decide) ?_
  rw [show nI 1 = zb (eqs kd w s (M0.2.1 32) 0 = true) from (zb_t1 rfl).symm]
  have loop : ∀ (j k : Nat) (M : zM) (hU : SU kd w s M) (hV : ∀ m, m < k → M.1 31 (s * 4 + m) = nI (lsm kd w s m)) (hF : zfr (fun i => i = 31) M0 M), k ≤ 4 → 4 < k + j → RA l none (zR 2 0 0) yX0_addsUpTo cX0_addsUpTo 9 (some .boolean) (zG (zSh ++ rw) (fun v9 M9 => v9 = some (.int (zb (eqs kd w s (M0.2.1 32) 4 = true))) ∧ SU kd w (s + 1) M9 ∧ zfr (fun i => i = 31) M0 M9)) 0 0 19 [some (.ref 24), some (.int (nI kd)), some (.int (nI w)), some (.int (nI s)), some (.int (nI (low s))), some (.int (nI rr)), some (.int (zb (eqs kd w s (M0.2.1 32) k = true))), some (.int (nI k)), none] [] (zSh ++ rw) M := by
    intro j
    induction j with
    | zero => intro k M hU hV hF hk hj; exact absurd hj (by omega)
    | succ j ih =>
      intro k M hU hV hF hk hj
      refine r_iload dX0_addsUpTo_19 rfl ?_
      refine r_iconst (v := nI 4) dX0_addsUpTo_21 rfl ?_
      first | refine r_icmp_geN (tgt := 92) dX0_addsUpTo_22 (by decide) (by omega) (by omega) (fun c1 => ?_) (fun c1 => ?_) | refine r_icmp_ge (tgt := 92) dX0_addsUpTo_22 (by decide) (fun c1 => ?_) (fun c1 => ?_)
      · refine r_iload dX0_addsUpTo_92 rfl ?_
        refine r_zret dX0_addsUpTo_94 rfl (by first | exact Or.inl rfl | exact Or.inr rfl | exact zb01) (by decide) (by decide) ?_
        refine ⟨rfl, ?_, ?_, hF⟩
        · rw [show k = 4 by omega]
        · intro s' hs' m hm
          by_cases e : s' = s
          · rw [e]; exact hV m (by omega)
          · exact hU s' (by omega) m hm
      · have hle := lsm_le (kd := kd) (s := s) (m := k) hw
        refine r_aload_n dX0_addsUpTo_25 rfl rfl ?_
        refine r_getR fl_X0_30 dX0_addsUpTo_26 sh_24 rfl ?_
        refine r_iload dX0_addsUpTo_29 rfl ?_
        refine r_iconst (v := nI 4) dX0_addsUpTo_31 rfl ?_
        first | refine r_imulN dX0_addsUpTo_32 ?_ | refine r_imul dX0_addsUpTo_32 ?_
        refine r_iload dX0_addsUpTo_33 rfl ?_
        first | refine r_iaddN dX0_addsUpTo_35 ?_ | refine r_iadd dX0_addsUpTo_35 ?_
        refine r_ialdN dX0_addsUpTo_36 sh_31 (by omega) (by decide) (hU rr hrs k (by omega)) ?_
        refine r_iload_n dX0_addsUpTo_37 rfl rfl ?_
        refine r_iload dX0_addsUpTo_38 rfl ?_
        refine r_iload dX0_addsUpTo_40 rfl ?_
        refine r_iload_n dX0_addsUpTo_42 rfl rfl ?_
        refine r_cN4F ms_X4_longer (fun _ h => h.2.2.2.2.1) (c4_longer l hkd (by omega) (by omega) hw) dX0_addsUpTo_43 (Nat.le_of_ble_eq_true rfl) ⟨by decide, by decide⟩ ⟨by decide, by decide⟩ (fun _ h => nomatch h) ?_
        try dsimp only [zrst, List.cons_append, List.nil_append]
        first | refine r_iaddN dX0_addsUpTo_46 ?_ | refine r_iadd dX0_addsUpTo_46 ?_
        rw [hst k]
        refine r_istore dX0_addsUpTo_47 rfl (by decide) ?_
        refine r_aload_n dX0_addsUpTo_49 rfl rfl ?_
        refine r_getR fl_X0_30 dX0_addsUpTo_50 sh_24 rfl ?_
        refine r_iload_n dX0_addsUpTo_53 rfl rfl ?_
        refine r_iconst (v := nI 4) dX0_addsUpTo_54 rfl ?_
        first | refine r_imulN dX0_addsUpTo_55 ?_ | refine r_imul dX0_addsUpTo_55 ?_
        refine r_iload dX0_addsUpTo_56 rfl ?_
        first | refine r_iaddN dX0_addsUpTo_58 ?_ | refine r_iadd dX0_addsUpTo_58 ?_
        refine r_iload dX0_addsUpTo_59 rfl ?_
        refine r_iastN dX0_addsUpTo_61 sh_31 (by omega) (by decide) ?_
        refine r_iload dX0_addsUpTo_62 rfl ?_
        refine r_iload dX0_addsUpTo_64 rfl ?_
        refine r_i2l dX0_addsUpTo_66 rfl ?_
        refine r_top (v' := .long (lN (lsm kd w s k))) (congrArg Value.long (nI_l (by omega))) ?_
        refine r_aload_n dX0_addsUpTo_67 rfl rfl ?_
        refine r_getR fl_X0_33 dX0_addsUpTo_68 sh_24 rfl ?_
        refine r_iload dX0_addsUpTo_71 rfl ?_
        refine r_laldN dX0_addsUpTo_73 sh_32 (by omega) (by decide) (congrFun (hF 32 (show ¬ (32 : Nat) = 31 by decide)).2.1 k) ?_
        refine r_lcmp dX0_addsUpTo_74 ?_
        refine r_if_ne (tgt := 82) dX0_addsUpTo_75 (by decide) (fun c2 => ?_) (fun c2 => ?_)
        · have hX : zb (eqs kd w s (M0.2.1 32) (k + 1) = true) = nI 0 := zb_f1 (fun h => c2 ((lg_cmp_eq _ _).mpr (eqs_succ.mp h).2))
          refine r_iconst (v := nI 0) dX0_addsUpTo_82 rfl ?_
          refine r_iand dX0_addsUpTo_83 ?_
          first | rw [zb_and1] | rw [zb_and0]
          refine r_istore dX0_addsUpTo_84 rfl (by decide) ?_
          first | refine r_iincN dX0_addsUpTo_86 rfl rfl (by decide) ?_ | refine r_iinc dX0_addsUpTo_86 rfl rfl rfl (by decide) ?_
          refine r_goto (tgt := 19) dX0_addsUpTo_89 (by decide) ?_
          refine r_lfor 8 ?_
          have h9 := ih (k + 1) (zI M 31 (upd (M.1 31) (s * 4 + k) (nI (lsm kd w s k)))) (by
            intro s' hs' m hm
            rw [zI_at, pk_un (by omega)]
            exact hU s' hs' m hm) (by
            intro m hm
            rw [zI_at]
            by_cases e : m = k
            · rw [e]; exact pk_us
            · rw [pk_un (by omega)]; exact hV m (by omega)) (hF.trans (zfr_I rfl)) (by omega) (by omega)
          rw [hX] at h9
          exact h9
        · have hX : zb (eqs kd w s (M0.2.1 32) (k + 1) = true) = zb (eqs kd w s (M0.2.1 32) k = true) := zb_congr ⟨fun h => (eqs_succ.mp h).1, fun h => eqs_succ.mpr ⟨h, (lg_cmp_eq _ _).mp c2⟩⟩
          refine r_iconst (v := nI 1) dX0_addsUpTo_78 rfl ?_
          refine r_goto (tgt := 83) dX0_addsUpTo_79 (by decide) ?_
          refine r_iand dX0_addsUpTo_83 ?_
          first | rw [zb_and1] | rw [zb_and0]
          refine r_istore dX0_addsUpTo_84 rfl (by decide) ?_
          first | refine r_iincN dX0_addsUpTo_86 rfl rfl (by decide) ?_ | refine r_iinc dX0_addsUpTo_86 rfl rfl rfl (by decide) ?_
          refine r_goto (tgt := 19) dX0_addsUpTo_89 (by decide) ?_
          refine r_lfor 8 ?_
          have h9 := ih (k + 1) (zI M 31 (upd (M.1 31) (s * 4 + k) (nI (lsm kd w s k)))) (by
            intro s' hs' m hm
            rw [zI_at, pk_un (by omega)]
            exact hU s' hs' m hm) (by
            intro m hm
            rw [zI_at]
            by_cases e : m = k
            · rw [e]; exact pk_us
            · rw [pk_un (by omega)]; exact hV m (by omega)) (hF.trans (zfr_I rfl)) (by omega) (by omega)
          rw [hX] at h9
          exact h9
  exact loop (4 + 1) 0 M0 hU (fun m hm => absurd hm (by omega)) zfr.rf (Nat.zero_le _) (by omega)

set_option maxHeartbeats 4000000 in
set_option maxRecDepth 100000 in
theorem c0_explain (l : Launch) {rw : List zC} {M0 : zM} {kd r ri nr ii : Nat} (hs_r : (zSh ++ rw)[r]? = some (.inr (2, [none, some (some ri)]))) (hs_ri : (zSh ++ rw)[ri]? = some (.inl (1, nr))) (hnr : nr ≤ 24) (hri : 45 ≤ ri) (hkd : kd ≤ 4) (hii : ii + 4 ≤ nr) (hz : ∀ m, m < 4 → M0.1 31 m = nI 0) : CT l false 3 0 0 yX0_explain cX0_explain 6 none [.ref 24, .int (nI kd), .ref r, .int (nI ii)] (zSh ++ rw) M0 (zG (zSh ++ rw) (fun v9 M9 => v9 = none ∧ M9.1 24 9 = nI (dnw kd (fun m => M0.2.1 ri (ii + m)) 9).1 ∧ M9.1 24 10 = fwv (dnw kd (fun m => M0.2.1 ri (ii + m)) 9).2 ∧ (∀ m, m < 4 → M9.1 31 m = nI 0) ∧ zfr (fun i => i = 24 ∨ i = 31 ∨ i = 32) M0 M9)) := by
  refine CT.ofN (by decide) (fun _ _ => Nat.le_of_ble_eq_true rfl) ?_
  refine r_iconst (v := nI 0) dX0_explain_0 rfl ?_
  refine r_istore dX0_explain_1 rfl (by decide) ?_
  obtain ⟨W, hWd⟩ : ∃ W, (fun m => M0.2.1 ri (ii + m)) = W := ⟨_, rfl⟩
  have loop : ∀ (j k : Nat) (M : zM) (hI : M.1 = M0.1) (hW : ∀ m, m < k → M.2.1 32 m = W m) (hF : zfr (fun i => i = 24 ∨ i = 31 ∨ i = 32) M0 M), k ≤ 4 → 4 < k + j → RA l none (zR 3 0 0) yX0_explain cX0_explain 6 none (zG (zSh ++ rw) (fun v9 M9 => v9 = none ∧ M9.1 24 9 = nI (dnw kd (fun m => M0.2.1 ri (ii + m)) 9).1 ∧ M9.1 24 10 = fwv (dnw kd (fun m => M0.2.1 ri (ii + m)) 9).2 ∧ (∀ m, m < 4 → M9.1 31 m = nI 0) ∧ zfr (fun i => i = 24 ∨ i = 31 ∨ i = 32) M0 M9)) 0 0 3 [some (.ref 24), some (.int (nI kd)), some (.ref r), some (.int (nI ii)), some (.int (nI k)), none] [] (zSh ++ rw) M := by
    intro j
    induction j with
    | zero => intro k M hI hW hF hk hj; exact absurd hj (by omega)
    | succ j ih =>
      intro k M hI hW hF hk hj
      refine r_iload dX0_explain_3 rfl ?_
      refine r_iconst (v := nI 4) dX0_explain_5 rfl ?_
      first | refine r_icmp_geN (tgt := 31) dX0_explain_6 (by decide) (by omega) (by omega) (fun c1 => ?_) (fun c1 => ?_) | refine r_icmp_ge (tgt := 31) dX0_explain_6 (by decide) (fun c1 => ?_) (fun c1 => ?_)
      · have e4 : k = 4 := by omega
        subst e4
        refine r_aload_n dX0_explain_31 rfl rfl ?_
        refine r_iconst (v := nI 0) dX0_explain_32 rfl ?_
        refine r_putI fl_X0_150 dX0_explain_33 rfl rfl sh_24 rfl ?_
        refine r_aload_n dX0_explain_36 rfl rfl ?_
        refine r_bipush (v := (-4)) dX0_explain_37 rfl ?_
        refine r_putI fl_X0_153 dX0_explain_39 rfl rfl sh_24 rfl ?_
        refine r_iconst (v := nI 1) dX0_explain_42 rfl ?_
        refine r_istore dX0_explain_43 rfl (by decide) ?_
        generalize hM2 : zI _ 24 (upd _ 10 _) = M2
        have H9 : M2.1 24 9 = nI (dnw kd W 0).1 := by rw [← hM2, zI_at, pk_un (by decide), zI_at, pk_us]; rfl
        have H10 : M2.1 24 10 = fwv (dnw kd W 0).2 := by rw [← hM2, zI_at, pk_us]; rfl
        have HZ : ∀ m, m < 4 → M2.1 31 m = nI 0 := by
          intro m hm
          rw [← hM2, (zI_ne 31 (by decide)).1, (zI_ne 31 (by decide)).1, hI]
          exact hz m hm
        have HW : ∀ m, m < 4 → M2.2.1 32 m = W m := by
          intro m hm
          rw [← hM2]
          exact hW m hm
        have HF : zfr (fun i => i = 24 ∨ i = 31 ∨ i = 32) M0 M2 := by
          rw [← hM2]
          exact (hF.trans (zfr_I (by simp))).trans (zfr_I (by simp))
        have loop2 : ∀ (j k : Nat) (M : zM) (h9 : M.1 24 9 = nI (dnw kd W k).1) (h10 : M.1 24 10 = fwv (dnw kd W k).2) (hz : ∀ m, m < 4 → M.1 31 m = nI 0) (hW : ∀ m, m < 4 → M.2.1 32 m = W m) (hF : zfr (fun i => i = 24 ∨ i = 31 ∨ i = 32) M0 M), k ≤ 9 → 9 < k + j → RA l none (zR 3 0 0) yX0_explain cX0_explain 6 none (zG (zSh ++ rw) (fun v9 M9 => v9 = none ∧ M9.1 24 9 = nI (dnw kd (fun m => M0.2.1 ri (ii + m)) 9).1 ∧ M9.1 24 10 = fwv (dnw kd (fun m => M0.2.1 ri (ii + m)) 9).2 ∧ (∀ m, m < 4 → M9.1 31 m = nI 0) ∧ zfr (fun i => i = 24 ∨ i = 31 ∨ i = 32) M0 M9)) 0 0 45 [some (.ref 24), some (.int (nI kd)), some (.ref r), some (.int (nI ii)), some (.int (nI (k + 1))), none] [] (zSh ++ rw) M := by
          intro j
          induction j with
          | zero => intro k M h9 h10 hz hW hF hk hj; exact absurd hj (by omega)
          | succ j ih2 =>
            intro k M h9 h10 hz hW hF hk hj
            refine r_iload dX0_explain_45 rfl ?_
            refine r_bipush (v := nI 9) dX0_explain_47 rfl ?_
            first | refine r_icmp_gtN (tgt := 124) dX0_explain_49 (by decide) (by omega) (by omega) (fun c1 => ?_) (fun c1 => ?_) | refine r_icmp_gt (tgt := 124) dX0_explain_49 (by decide) (fun c1 => ?_) (fun c1 => ?_)
            · refine r_vret dX0_explain_124 rfl (by decide) (by decide) ?_
              have e9 : k = 9 := by omega
              subst e9
              rw [← hWd] at h9 h10
              exact ⟨rfl, rfl, h9, h10, hz, hF⟩
            · refine r_iconst (v := nI 1) dX0_explain_52 rfl ?_
              refine r_istore dX0_explain_53 rfl (by decide) ?_
              have hU0 : SU kd (k + 1) (0 + 1) M := by
                intro s' hs' m hm
                have e : s' = 0 := by omega
                rw [e, lsm_0, Nat.zero_mul, Nat.zero_add]
                exact hz m hm
              have loop3 : ∀ (j i : Nat) (M : zM) (h9 : M.1 24 9 = nI (dns kd W (k + 1) (dnw kd W k) i).1) (h10 : M.1 24 10 = fwv (dns kd W (k + 1) (dnw kd W k) i).2) (hU : SU kd (k + 1) (i + 1) M) (hW : ∀ m, m < 4 → M.2.1 32 m = W m) (hF : zfr (fun i => i = 24 ∨ i = 31 ∨ i = 32) M0 M), i ≤ 63 → 63 < i + j → RA l none (zR 3 0 0) yX0_explain cX0_explain 6 none (zG (zSh ++ rw) (fun v9 M9 => v9 = none ∧ M9.1 24 9 = nI (dnw kd (fun m => M0.2.1 ri (ii + m)) 9).1 ∧ M9.1 24 10 = fwv (dnw kd (fun m => M0.2.1 ri (ii + m)) 9).2 ∧ (∀ m, m < 4 → M9.1 31 m = nI 0) ∧ zfr (fun i => i = 24 ∨ i = 31 ∨ i = 32) M0 M9)) 0 0 55 [some (.ref 24), some (.int (nI kd)), some (.ref r), some (.int (nI ii)), some (.int (nI (k + 1))), some (.int (nI (i + 1)))] [] (zSh ++ rw) M := by
                intro j
                induction j with
                | zero => intro i M h9 h10 hU hW hF hk hj; exact absurd hj (by omega)
                | succ j ih3 =>
                  intro i M h9 h10 hU hW hF hk hj
                  refine r_iload dX0_explain_55 rfl ?_
                  refine r_bipush (v := nI 64) dX0_explain_57 rfl ?_
                  first | refine r_icmp_geN (tgt := 118) dX0_explain_59 (by decide) (by omega) (by omega) (fun c1 => ?_) (fun c1 => ?_) | refine r_icmp_ge (tgt := 118) dX0_explain_59 (by decide) (fun c1 => ?_) (fun c1 => ?_)
                  · first | refine r_iincN dX0_explain_118 rfl rfl (by decide) ?_ | refine r_iinc dX0_explain_118 rfl rfl rfl (by decide) ?_
                    refine r_goto (tgt := 45) dX0_explain_121 (by decide) ?_
                    have e63 : i = 63 := by omega
                    subst e63
                    refine r_lfor 5 ?_
                    exact ih2 (k + 1) M h9 h10 (fun m hm => by
                      have h := hU 0 (by omega) m hm
                      rw [lsm_0, Nat.zero_mul, Nat.zero_add] at h
                      exact h) hW hF (by omega) (by omega)
                  · refine r_aload_n dX0_explain_62 rfl rfl ?_
                    refine r_iload_n dX0_explain_63 rfl rfl ?_
                    refine r_iload dX0_explain_64 rfl ?_
                    refine r_iload dX0_explain_66 rfl ?_
                    refine r_cV3G mv_X0_addsUpTo ml_X0_156 (c0_addsUpTo l hkd (by omega) (by omega) (by omega) hU) dX0_explain_68 (Nat.le_of_ble_eq_true rfl) ⟨by decide, by decide⟩ ⟨by decide, by decide⟩ sh_24 rfl (fun _ h => nomatch h) (fun v M1 hq => ?_)
                    obtain ⟨rfl, hU1, hF1⟩ := hq
                    dsimp only [zrst, List.cons_append, List.nil_append]
                    rw [eqs_cong 4 hW]
                    have h9a := (congrFun (hF1 24 (show ¬ (24 : Nat) = 31 by decide)).1 9).trans h9
                    have h10a := (congrFun (hF1 24 (show ¬ (24 : Nat) = 31 by decide)).1 10).trans h10
                    have hW1 : ∀ m, m < 4 → M1.2.1 32 m = W m := fun m hm => (congrFun (hF1 32 (show ¬ (32 : Nat) = 31 by decide)).2.1 m).trans (hW m hm)
                    have hFa : zfr (fun i => i = 24 ∨ i = 31 ∨ i = 32) M0 M1 := hF.trans (hF1.wk (fun i h => Or.inr (Or.inl h)))
                    refine r_if_eqB (tgt := 112) dX0_explain_71 (by decide) (fun c9 => ?_) (fun c9 => ?_)
                    · have hu := dns_no (kd := kd) (w := k + 1) (k := i) (W := W) (a := dnw kd W k) c9
                      have h9b : M1.1 24 9 = nI (dns kd W (k + 1) (dnw kd W k) (i + 1)).1 := by rw [hu]; exact h9a
                      have h10b : M1.1 24 10 = fwv (dns kd W (k + 1) (dnw kd W k) (i + 1)).2 := by rw [hu]; exact h10a
                      first | refine r_iincN dX0_explain_112 rfl rfl (by decide) ?_ | refine r_iinc dX0_explain_112 rfl rfl rfl (by decide) ?_
                      refine r_goto (tgt := 55) dX0_explain_115 (by decide) ?_
                      exact ih3 (i + 1) _ h9b h10b hU1 hW1 hFa (by omega) (by omega)
                    · have hu := dns_yes (kd := kd) (w := k + 1) (k := i) (W := W) (a := dnw kd W k) c9
                      have hdi := DI.s (kd := kd) (W := W) (DI.w (kd := kd) (W := W) k (by omega)) (show 1 ≤ k + 1 ∧ k + 1 ≤ 9 by omega) i (by omega)
                      have hfn := fwv_none hdi
                      generalize dns kd W (k + 1) (dnw kd W k) i = a at hu hdi hfn h9a h10a
                      refine r_aload_n dX0_explain_74 rfl rfl ?_
                      refine r_dup dX0_explain_75 rfl ?_
                      refine r_getV fl_X0_150 dX0_explain_76 sh_24 rfl h9a ?_
                      refine r_iconst (v := nI 1) dX0_explain_79 rfl ?_
                      first | refine r_iaddN dX0_explain_80 ?_ | refine r_iadd dX0_explain_80 ?_
                      refine r_putI fl_X0_150 dX0_explain_81 rfl rfl sh_24 rfl ?_
                      refine r_aload_n dX0_explain_84 rfl rfl ?_
                      refine r_aload_n dX0_explain_85 rfl rfl ?_
                      refine r_getV fl_X0_153 dX0_explain_86 sh_24 rfl (show _ = fwv a.2 from by rw [zI_at, pk_un (by decide)]; exact h10a) ?_
                      refine r_bipush (v := (-4)) dX0_explain_89 rfl ?_
                      refine r_icmp_ne (tgt := 105) dX0_explain_91 (by decide) (fun c8 => ?_) (fun c8 => ?_)
                      · have ha0 : ¬ a.1 = 0 := fun q => c8 (hfn.mpr q)
                        rw [if_neg ha0] at hu
                        refine r_aload_n dX0_explain_105 rfl rfl ?_
                        refine r_getV fl_X0_153 dX0_explain_106 sh_24 rfl (show _ = fwv a.2 from by rw [zI_at, pk_un (by decide)]; exact h10a) ?_
                        refine r_putI fl_X0_153 dX0_explain_109 rfl rfl sh_24 rfl ?_
                        generalize hM3 : zI _ 24 (upd _ 10 _) = M3
                        have h9b : M3.1 24 9 = nI (dns kd W (k + 1) (dnw kd W k) (i + 1)).1 := by
                          rw [hu, ← hM3, zI_at, pk_un (by decide), zI_at, pk_us]
                        have h10b : M3.1 24 10 = fwv (dns kd W (k + 1) (dnw kd W k) (i + 1)).2 := by
                          rw [hu, ← hM3, zI_at, pk_us]
                          try rfl
                        have hU1 : SU kd (k + 1) (i + 2) M3 := by
                          intro s' hs' m hm
                          rw [← hM3, (zI_ne 31 (by decide)).1, (zI_ne 31 (by decide)).1]
                          exact hU1 s' hs' m hm
                        have hW1 : ∀ m, m < 4 → M3.2.1 32 m = W m := by
                          intro m hm
                          rw [← hM3]
                          exact hW1 m hm
                        have hFa : zfr (fun i => i = 24 ∨ i = 31 ∨ i = 32) M0 M3 := by
                          rw [← hM3]
                          exact (hFa.trans (zfr_I (by simp))).trans (zfr_I (by simp))
                        first | refine r_iincN dX0_explain_112 rfl rfl (by decide) ?_ | refine r_iinc dX0_explain_112 rfl rfl rfl (by decide) ?_
                        refine r_goto (tgt := 55) dX0_explain_115 (by decide) ?_
                        exact ih3 (i + 1) _ h9b h10b hU1 hW1 hFa (by omega) (by omega)
                      · have ha0 : a.1 = 0 := hfn.mp c8
                        rw [if_pos ha0] at hu
                        refine r_bipush (v := nI 100) dX0_explain_94 rfl ?_
                        refine r_iload dX0_explain_96 rfl ?_
                        first | refine r_imulN dX0_explain_98 ?_ | refine r_imul dX0_explain_98 ?_
                        refine r_iload dX0_explain_99 rfl ?_
                        first | refine r_iaddN dX0_explain_101 ?_ | refine r_iadd dX0_explain_101 ?_
                        refine r_goto (tgt := 109) dX0_explain_102 (by decide) ?_
                        refine r_putI fl_X0_153 dX0_explain_109 rfl rfl sh_24 rfl ?_
                        generalize hM3 : zI _ 24 (upd _ 10 _) = M3
                        have h9b : M3.1 24 9 = nI (dns kd W (k + 1) (dnw kd W k) (i + 1)).1 := by
                          rw [hu, ← hM3, zI_at, pk_un (by decide), zI_at, pk_us]
                        have h10b : M3.1 24 10 = fwv (dns kd W (k + 1) (dnw kd W k) (i + 1)).2 := by
                          rw [hu, ← hM3, zI_at, pk_us]
                          try rfl
                        have hU1 : SU kd (k + 1) (i + 2) M3 := by
                          intro s' hs' m hm
                          rw [← hM3, (zI_ne 31 (by decide)).1, (zI_ne 31 (by decide)).1]
                          exact hU1 s' hs' m hm
                        have hW1 : ∀ m, m < 4 → M3.2.1 32 m = W m := by
                          intro m hm
                          rw [← hM3]
                          exact hW1 m hm
                        have hFa : zfr (fun i => i = 24 ∨ i = 31 ∨ i = 32) M0 M3 := by
                          rw [← hM3]
                          exact (hFa.trans (zfr_I (by simp))).trans (zfr_I (by simp))
                        first | refine r_iincN dX0_explain_112 rfl rfl (by decide) ?_ | refine r_iinc dX0_explain_112 rfl rfl rfl (by decide) ?_
                        refine r_goto (tgt := 55) dX0_explain_115 (by decide) ?_
                        exact ih3 (i + 1) _ h9b h10b hU1 hW1 hFa (by omega) (by omega)
              exact loop3 (63 + 1) 0 M h9 h10 hU0 hW hF (Nat.zero_le _) (by omega)
        exact loop2 (9 + 1) 0 _ H9 H10 HZ HW HF (Nat.zero_le _) (by omega)
      · refine r_aload_n dX0_explain_9 rfl rfl ?_
        refine r_getR fl_X0_33 dX0_explain_10 sh_24 rfl ?_
        refine r_iload dX0_explain_13 rfl ?_
        refine r_aload_n dX0_explain_15 rfl rfl ?_
        refine r_getR fl_X0_145 dX0_explain_16 hs_r rfl ?_
        refine r_iload_n dX0_explain_19 rfl rfl ?_
        refine r_iload dX0_explain_20 rfl ?_
        first | refine r_iaddN dX0_explain_22 ?_ | refine r_iadd dX0_explain_22 ?_
        refine r_laldN (v := M0.2.1 ri (ii + k)) dX0_explain_23 hs_ri (by omega) (by omega) (congrFun (hF ri (by omega)).2.1 _) ?_
        refine r_lastN dX0_explain_24 sh_32 (by omega) (by decide) ?_
        first | refine r_iincN dX0_explain_25 rfl rfl (by decide) ?_ | refine r_iinc dX0_explain_25 rfl rfl rfl (by decide) ?_
        refine r_goto (tgt := 3) dX0_explain_28 (by decide) ?_
        exact ih (k + 1) _ (show (zL M 32 _).1 = M0.1 from hI) (fun m hm => by
          rw [zL_at]
          unfold vp_updL
          by_cases e : m = k
          · rw [e, if_pos rfl, ← hWd]
          · rw [if_neg e]; exact hW m (by omega)) (hF.trans (fun i hi => zL_ne i (fun e => hi (Or.inr (Or.inr e))))) (by omega) (by omega)
  exact loop (4 + 1) 0 M0 rfl (fun m hm => absurd hm (by omega)) zfr.rf (Nat.zero_le _) (by omega)

set_option maxHeartbeats 4000000 in
set_option maxRecDepth 100000 in
theorem c4_done (l : Launch) {rw : List zC} {M : zM} {n u : Nat → Nat} {kn : Nat} {z : Nat → Option (Nat × Nat × Nat)} {sz : Nat → Nat} (hS : SI 1 n u kn M) (hn : NB n) (hC : SHC (zSh ++ rw) z sz M) (hz : ∀ m, m < 4 → M.1 31 m = nI 0) (V : Nat → Nat → Int64) (hV : ∀ j r ri L, j < 4 → z j = some (r, ri, L) → ∀ k, k < sz j → M.2.1 ri k = V j k) (x s w i c : Int32) : CT l false 4 0 0 yX4_done cX4_done 8 (some .int) [.ref 0, .int x, .int s, .int w, .int i, .int c] (zSh ++ rw) M (zG (zSh ++ rw) (fun v9 M9 => v9 = some (.int (sp_done n z sz V x s w i c)) ∧ (∀ m, m < 4 → M9.1 31 m = nI 0) ∧ zfr (fun i => i = 24 ∨ i = 31 ∨ i = 32) M M9)) := by
  refine CT.ofN (by decide) (fun _ _ => Nat.le_of_ble_eq_true rfl) ?_
  have hdd := hn.2.2.2.2.2.2.2.2.2.2.2
  have hkd := hn.2.2.2.2.2.2.2.2.1
  have how := hn.2.2.2.2.2.2.2.2.2.1
  have hcu := hn.2.2.2.2.2.2.2.2.2.2.1
  have hb0 := hn.1
  have hb1 := hn.2.1
  have hb2 := hn.2.2.1
  have hb3 := hn.2.2.2.1
  have hb4 := hn.2.2.2.2.1
  have hb5 := hn.2.2.2.2.2.1
  have hb6 := hn.2.2.2.2.2.2.1
  refine r_aload_n dX4_done_0 rfl rfl ?_
  refine r_getR fl_X4_10 dX4_done_1 sh_0 rfl ?_
  refine r_iload_n dX4_done_4 rfl rfl ?_
  refine r_cV1F mv_X3_hasPerson ml_X4_53 (c3_hasPerson l hS (by omega) _) dX4_done_5 (Nat.le_of_ble_eq_true rfl) ⟨by decide, by decide⟩ ⟨by decide, by decide⟩ sh_1 rfl (fun _ h => nomatch h) ?_
  try dsimp only [zrst, List.cons_append, List.nil_append]
  first | refine r_if_eqB (tgt := 33) dX4_done_8 (by decide) (fun c1 => ?_) (fun c1 => ?_) | refine r_if_eqN (tgt := 33) dX4_done_8 (by decide) (by omega) (fun c1 => ?_) (fun c1 => ?_) | refine r_if_eq (tgt := 33) dX4_done_8 (by decide) (fun c1 => ?_) (fun c1 => ?_)
  · have b1 : ¬ (0 ≤ x.toInt ∧ x.toInt < (n 0 : Int)) := by omega
    refine r_iconst (v := (-1)) dX4_done_33 rfl ?_
    refine r_iret dX4_done_34 rfl (by decide) (by decide) ?_
    refine ⟨rfl, congrArg (fun x => some (Value.int x)) ?_, hz, zfr.rf⟩
    rw [sp_done, if_neg]
    intro h9; first | exact absurd h9 (by assumption) | exact absurd h9.1 (by assumption) | exact absurd h9.2 (by assumption) | exact absurd h9.2.1 (by assumption) | exact absurd h9.2.2 (by assumption) | exact absurd h9.2.2.1 (by assumption) | exact absurd h9.2.2.2 (by assumption) | exact absurd h9.2.2.2.1 (by assumption) | exact absurd h9.2.2.2.2 (by assumption)
  · have g1 : 0 ≤ x.toInt ∧ x.toInt < (n 0 : Int) := by omega
    obtain ⟨p, hp, rfl⟩ := arg_nat (n := n 0) (show 0 ≤ x.toInt ∧ x.toInt < ((n 0 : Nat) : Int) by omega)
    refine r_iload_n dX4_done_11 rfl rfl ?_
    refine r_cS1F ms_X4_isSheet ml_X4_213 (c4_isSheet l _) dX4_done_12 (Nat.le_of_ble_eq_true rfl) ⟨by decide, by decide⟩ ⟨by decide, by decide⟩ (fun _ h => nomatch h) ?_
    try dsimp only [zrst, List.cons_append, List.nil_append]
    first | refine r_if_eqB (tgt := 33) dX4_done_15 (by decide) (fun c2 => ?_) (fun c2 => ?_) | refine r_if_eqN (tgt := 33) dX4_done_15 (by decide) (by omega) (fun c2 => ?_) (fun c2 => ?_) | refine r_if_eq (tgt := 33) dX4_done_15 (by decide) (fun c2 => ?_) (fun c2 => ?_)
    · have c2 : ¬ ((0 : Int) ≤ s.toInt ∧ s.toInt < (4 : Int)) := c2
      have b2 : ¬ (0 ≤ s.toInt ∧ s.toInt ≤ 3) := by omega
      refine r_iconst (v := (-1)) dX4_done_33 rfl ?_
      refine r_iret dX4_done_34 rfl (by decide) (by decide) ?_
      refine ⟨rfl, congrArg (fun x => some (Value.int x)) ?_, hz, zfr.rf⟩
      rw [sp_done, if_neg]
      intro h9; first | exact absurd h9 (by assumption) | exact absurd h9.1 (by assumption) | exact absurd h9.2 (by assumption) | exact absurd h9.2.1 (by assumption) | exact absurd h9.2.2 (by assumption) | exact absurd h9.2.2.1 (by assumption) | exact absurd h9.2.2.2 (by assumption) | exact absurd h9.2.2.2.1 (by assumption) | exact absurd h9.2.2.2.2 (by assumption)
    · have c2 : ((0 : Int) ≤ s.toInt ∧ s.toInt < (4 : Int)) := c2
      have g2 : 0 ≤ s.toInt ∧ s.toInt ≤ 3 := by omega
      obtain ⟨sj, hsj1, hsj2, rfl⟩ := arg_rng (a := 0) (b := 3) (show ((0 : Nat) : Int) ≤ s.toInt ∧ s.toInt ≤ ((3 : Nat) : Int) by omega)
      refine r_iload_n dX4_done_18 rfl rfl ?_
      refine r_cS1F ms_X4_isLane ml_X4_216 (c4_isLane l _) dX4_done_19 (Nat.le_of_ble_eq_true rfl) ⟨by decide, by decide⟩ ⟨by decide, by decide⟩ (fun _ h => nomatch h) ?_
      try dsimp only [zrst, List.cons_append, List.nil_append]
      first | refine r_if_eqB (tgt := 33) dX4_done_22 (by decide) (fun c3 => ?_) (fun c3 => ?_) | refine r_if_eqN (tgt := 33) dX4_done_22 (by decide) (by omega) (fun c3 => ?_) (fun c3 => ?_) | refine r_if_eq (tgt := 33) dX4_done_22 (by decide) (fun c3 => ?_) (fun c3 => ?_)
      · have c3 : ¬ ((0 : Int) ≤ w.toInt ∧ w.toInt < (4 : Int)) := c3
        have b3 : ¬ (0 ≤ w.toInt ∧ w.toInt ≤ 3) := by omega
        refine r_iconst (v := (-1)) dX4_done_33 rfl ?_
        refine r_iret dX4_done_34 rfl (by decide) (by decide) ?_
        refine ⟨rfl, congrArg (fun x => some (Value.int x)) ?_, hz, zfr.rf⟩
        rw [sp_done, if_neg]
        intro h9; first | exact absurd h9 (by assumption) | exact absurd h9.1 (by assumption) | exact absurd h9.2 (by assumption) | exact absurd h9.2.1 (by assumption) | exact absurd h9.2.2 (by assumption) | exact absurd h9.2.2.1 (by assumption) | exact absurd h9.2.2.2 (by assumption) | exact absurd h9.2.2.2.1 (by assumption) | exact absurd h9.2.2.2.2 (by assumption)
      · have c3 : ((0 : Int) ≤ w.toInt ∧ w.toInt < (4 : Int)) := c3
        have g3 : 0 ≤ w.toInt ∧ w.toInt ≤ 3 := by omega
        obtain ⟨La, hLa1, hLa2, rfl⟩ := arg_rng (a := 0) (b := 3) (show ((0 : Nat) : Int) ≤ w.toInt ∧ w.toInt ≤ ((3 : Nat) : Int) by omega)
        refine r_iload dX4_done_25 rfl ?_
        refine r_cS1F ms_X4_isEither ml_X4_108 (c4_isEither l _) dX4_done_27 (Nat.le_of_ble_eq_true rfl) ⟨by decide, by decide⟩ ⟨by decide, by decide⟩ (fun _ h => nomatch h) ?_
        try dsimp only [zrst, List.cons_append, List.nil_append]
        first | refine r_if_neB (tgt := 35) dX4_done_30 (by decide) (fun c4 => ?_) (fun c4 => ?_) | refine r_if_neN (tgt := 35) dX4_done_30 (by decide) (by omega) (fun c4 => ?_) (fun c4 => ?_) | refine r_if_ne (tgt := 35) dX4_done_30 (by decide) (fun c4 => ?_) (fun c4 => ?_)
        · have c4 : ((0 : Int) ≤ c.toInt ∧ c.toInt < (2 : Int)) := c4
          have g4 : 0 ≤ c.toInt ∧ c.toInt ≤ 1 := by omega
          obtain ⟨ck, hck1, hck2, rfl⟩ := arg_rng (a := 0) (b := 1) (show ((0 : Nat) : Int) ≤ c.toInt ∧ c.toInt ≤ ((1 : Nat) : Int) by omega)
          refine r_aload_n dX4_done_35 rfl rfl ?_
          refine r_getR fl_X4_37 dX4_done_36 sh_0 rfl ?_
          refine r_iload_n dX4_done_39 rfl rfl ?_
          rcases hzr : z sj with _ | ⟨r, ri, L⟩
          · refine r_aldN dX4_done_40 sh_33 (by omega) (by decide) ((hC sj (by omega)).1 hzr) ?_
            refine r_astoreN dX4_done_41 rfl (by decide) ?_
            refine r_aloadN dX4_done_43 rfl ?_
            refine r_ifnonnullN dX4_done_45 ?_
            refine r_bipush (v := (-11)) dX4_done_48 rfl ?_
            refine r_iret dX4_done_50 rfl (by decide) (by decide) ?_
            refine ⟨rfl, congrArg (fun x => some (Value.int x)) ?_, hz, zfr.rf⟩
            rw [sp_done, if_pos ⟨g1, g2, g3, g4⟩, tn_nI (show sj < 2147483648 by omega), hzr]
            try rfl
          · obtain ⟨h33r, hs_r, hs_ri, ⟨hrr, hrir, hL, hszr⟩, hlaner⟩ := (hC sj (by omega)).2 _ _ _ hzr
            refine r_aldS dX4_done_40 sh_33 (by omega) (by decide) h33r ?_
            refine r_astore dX4_done_41 rfl (by decide) ?_
            refine r_aload dX4_done_43 rfl ?_
            refine r_ifnonnull (tgt := 51) dX4_done_45 (by decide) ?_
            refine r_aload dX4_done_51 rfl ?_
            refine r_iload_n dX4_done_53 rfl rfl ?_
            refine r_iload dX4_done_54 rfl ?_
            refine r_iconst (v := nI 4) dX4_done_56 rfl ?_
            refine r_cV3F mv_X2_refusal ml_X4_219 (c2_refusal l hs_r hs_ri hszr i (nI 4) (by omega) hL hlaner) dX4_done_57 (Nat.le_of_ble_eq_true rfl) ⟨by decide, by decide⟩ ⟨by decide, by decide⟩ hs_r rfl (fun _ h => nomatch h) ?_
            try dsimp only [zrst, List.cons_append, List.nil_append]
            refine r_istore dX4_done_60 rfl (by decide) ?_
            refine r_iload dX4_done_62 rfl ?_
            refine r_if_eq (tgt := 70) dX4_done_64 (by decide) (fun c5 => ?_) (fun c5 => ?_)
            · have e0 : rfz La L i (nI 4) (sz sj) = nI 0 := c5
              obtain ⟨eL, q1, q2, q3⟩ := rfz0 e0
              have e1 : (nI 4).toInt = 4 := rfl
              rw [e1] at q3
              obtain ⟨ii, hi1, rfl, hi2⟩ := arg_pos2 q1
              rw [hi2] at q3
              refine r_aload_n dX4_done_70 rfl rfl ?_
              refine r_getR fl_X4_31 dX4_done_71 sh_0 rfl ?_
              refine r_aload_n dX4_done_74 rfl rfl ?_
              refine r_getR fl_X4_10 dX4_done_75 sh_0 rfl ?_
              refine r_getR fl_X4_81 dX4_done_78 sh_1 rfl ?_
              refine r_iload_n dX4_done_81 rfl rfl ?_
              refine r_ialdN dX4_done_82 sh_2 (by omega) (by decide) (hS.a2 (by omega)) ?_
              refine r_aload dX4_done_83 rfl ?_
              refine r_iload dX4_done_85 rfl ?_
              refine r_cV3G mv_X0_explain ml_X4_222 (c0_explain l hs_r hs_ri hszr hrir (hkd p hp) (by omega) hz) dX4_done_87 (Nat.le_of_ble_eq_true rfl) ⟨by decide, by decide⟩ ⟨by decide, by decide⟩ sh_24 rfl (fun _ h => nomatch h) (fun v M1 hq => ?_)
              obtain ⟨rfl, h9, h10, hz9, hF9⟩ := hq
              dsimp only [zrst, List.cons_append, List.nil_append]
              have hWc := dnw_cong (kd := n (8 + 5 * p)) (W := fun m => M.2.1 ri (ii + m)) (W' := fun m => V sj (ii + m)) (fun m hm => hV sj r ri L (by omega) hzr (ii + m) (by omega)) 9
              rw [hWc] at h9 h10
              refine r_iload dX4_done_90 rfl ?_
              first | refine r_if_neB (tgt := 105) dX4_done_92 (by decide) (fun c6 => ?_) (fun c6 => ?_) | refine r_if_neN (tgt := 105) dX4_done_92 (by decide) (by omega) (fun c6 => ?_) (fun c6 => ?_) | refine r_if_ne (tgt := 105) dX4_done_92 (by decide) (fun c6 => ?_) (fun c6 => ?_)
              · refine r_aload_n dX4_done_105 rfl rfl ?_
                refine r_getR fl_X4_31 dX4_done_106 sh_0 rfl ?_
                refine r_getV fl_X4_229 dX4_done_109 sh_24 rfl h10 ?_
                refine r_iret dX4_done_112 rfl (by decide) (by decide) ?_
                refine ⟨rfl, congrArg (fun x => some (Value.int x)) ?_, hz9, hF9⟩
                rw [sp_done, if_pos ⟨g1, g2, g3, g4⟩, tn_nI (show sj < 2147483648 by omega), tn_nI (show La < 2147483648 by omega), hzr]
                dsimp only
                rw [if_pos e0, tn_nI (show ii < 2147483648 by omega), tn_nI (show p < 2147483648 by omega), tn_nI (show ck < 2147483648 by omega)]
                first | rw [if_pos (by omega)] | rw [if_neg (by omega)]
              · refine r_aload_n dX4_done_95 rfl rfl ?_
                refine r_getR fl_X4_31 dX4_done_96 sh_0 rfl ?_
                refine r_getV fl_X4_226 dX4_done_99 sh_24 rfl h9 ?_
                refine r_goto (tgt := 112) dX4_done_102 (by decide) ?_
                refine r_iret dX4_done_112 rfl (by decide) (by decide) ?_
                refine ⟨rfl, congrArg (fun x => some (Value.int x)) ?_, hz9, hF9⟩
                rw [sp_done, if_pos ⟨g1, g2, g3, g4⟩, tn_nI (show sj < 2147483648 by omega), tn_nI (show La < 2147483648 by omega), hzr]
                dsimp only
                rw [if_pos e0, tn_nI (show ii < 2147483648 by omega), tn_nI (show p < 2147483648 by omega), tn_nI (show ck < 2147483648 by omega)]
                first | rw [if_pos (by omega)] | rw [if_neg (by omega)]
            · refine r_iload dX4_done_67 rfl ?_
              refine r_iret dX4_done_69 rfl (by decide) (by decide) ?_
              refine ⟨rfl, congrArg (fun x => some (Value.int x)) ?_, hz, zfr.rf⟩
              rw [sp_done, if_pos ⟨g1, g2, g3, g4⟩, tn_nI (show sj < 2147483648 by omega), tn_nI (show La < 2147483648 by omega), hzr]
              exact (if_neg (by assumption)).symm
        · have c4 : ¬ ((0 : Int) ≤ c.toInt ∧ c.toInt < (2 : Int)) := c4
          have b4 : ¬ (0 ≤ c.toInt ∧ c.toInt ≤ 1) := by omega
          refine r_iconst (v := (-1)) dX4_done_33 rfl ?_
          refine r_iret dX4_done_34 rfl (by decide) (by decide) ?_
          refine ⟨rfl, congrArg (fun x => some (Value.int x)) ?_, hz, zfr.rf⟩
          rw [sp_done, if_neg]
          intro h9; first | exact absurd h9 (by assumption) | exact absurd h9.1 (by assumption) | exact absurd h9.2 (by assumption) | exact absurd h9.2.1 (by assumption) | exact absurd h9.2.2 (by assumption) | exact absurd h9.2.2.1 (by assumption) | exact absurd h9.2.2.2 (by assumption) | exact absurd h9.2.2.2.1 (by assumption) | exact absurd h9.2.2.2.2 (by assumption)

