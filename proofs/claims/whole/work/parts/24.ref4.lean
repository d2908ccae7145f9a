set_option maxHeartbeats 4000000 in
set_option maxRecDepth 100000 in
theorem c5_showsOn (l : Launch) {rw : List zC} {M : zM} {t : Nat → Nat → Nat} (hR : RI t M) (hn : NB (t 35)) {p s day : Nat} (hp : p < t 35 0) (hs : s < t 35 1) (hd1 : t 35 3 ≤ day) (hd2 : day < 20000) : CT l false 3 0 0 yX5_showsOn cX5_showsOn 6 (some .int) [.ref 34, .int (nI p), .int (nI s), .int (nI day)] (zSh ++ rw) M (zF (some (.int (nI (sho (t 35) p s day)))) (zSh ++ rw) M) := by
  refine CT.ofN (by decide) (fun _ _ => Nat.le_of_ble_eq_true rfl) ?_
  have hdd := hn.2.2.2.2.2.2.2.2.2.2.2
  have hkd := hn.2.2.2.2.2.2.2.2.1
  have how := hn.2.2.2.2.2.2.2.2.2.1
  have hcu := hn.2.2.2.2.2.2.2.2.2.2.1
  have hb0 := hn.1
  have hb1 := hn.2.1
  have hb2 := hn.2.2.1
  have hb3 := hn.2.2.2.1
  have hb4 := hn.2.2.2.2.1
  have hb5 := hn.2.2.2.2.2.1
  have hb6 := hn.2.2.2.2.2.2.1
  refine r_iconst (v := nI 0) dX5_showsOn_0 rfl ?_
  refine r_istore dX5_showsOn_1 rfl (by decide) ?_
  refine r_iconst (v := nI 0) dX5_showsOn_3 rfl ?_
  refine r_istore dX5_showsOn_4 rfl (by decide) ?_
  have loop : ∀ (j k : Nat) , k ≤ 4 → 4 < k + j → RA l none (zR 3 0 0) yX5_showsOn cX5_showsOn 6 (some .int) (zF (some (.int (nI (sho (t 35) p s day)))) (zSh ++ rw) M) 0 0 6 [some (.ref 34), some (.int (nI p)), some (.int (nI s)), some (.int (nI day)), some (.int (nI (sm (fun m => dst (mea (t 35) p m day (t 35 6)) (t 35 (33 + 4 * s + m))) k))), some (.int (nI k))] [] (zSh ++ rw) M := by
    intro j
    induction j with
    | zero => intro k   hk hj; exact absurd hj (by omega)
    | succ j ih =>
      intro k   hk hj
      refine r_iload dX5_showsOn_6 rfl ?_
      refine r_iconst (v := nI 4) dX5_showsOn_8 rfl ?_
      first | refine r_icmp_geN (tgt := 48) dX5_showsOn_9 (by decide) (by omega) (by omega) (fun c1 => ?_) (fun c1 => ?_) | refine r_icmp_ge (tgt := 48) dX5_showsOn_9 (by decide) (fun c1 => ?_) (fun c1 => ?_)
      · refine r_iload dX5_showsOn_48 rfl ?_
        refine r_iret dX5_showsOn_50 rfl (by decide) (by decide) ?_
        refine ⟨congrArg (fun x => some (Value.int x)) ?_, rfl, rfl⟩
        rw [show k = 4 by omega]
        rfl
      · have hme := mea_le hn hp c1 day (t 35 6)
        have hcc := hcu s k hs c1
        refine r_iload dX5_showsOn_12 rfl ?_
        refine r_aload_n dX5_showsOn_14 rfl rfl ?_
        refine r_iload_n dX5_showsOn_15 rfl rfl ?_
        refine r_iload dX5_showsOn_16 rfl ?_
        refine r_iload_n dX5_showsOn_18 rfl rfl ?_
        refine r_aload_n dX5_showsOn_19 rfl rfl ?_
        refine r_getR fl_X5_7 dX5_showsOn_20 sh_34 rfl ?_
        refine r_bipush (v := nI 6) dX5_showsOn_23 rfl ?_
        refine r_ialdN dX5_showsOn_25 sh_35 (by omega) (by decide) (hR.a35 _) ?_
        refine r_cV4F mv_X5_measure ml_X5_70 (c5_measure l hR hn (by omega) (by omega) (by omega) (by omega) (by omega)) dX5_showsOn_26 (Nat.le_of_ble_eq_true rfl) ⟨by decide, by decide⟩ ⟨by decide, by decide⟩ sh_34 rfl (fun _ h => nomatch h) ?_
        try dsimp only [zrst, List.cons_append, List.nil_append]
        refine r_aload_n dX5_showsOn_29 rfl rfl ?_
        refine r_iload_n dX5_showsOn_30 rfl rfl ?_
        refine r_iload dX5_showsOn_31 rfl ?_
        refine r_cV2F mv_X5_cutOf ml_X5_73 (c5_cutOf l hR (by omega) (by omega)) dX5_showsOn_33 (Nat.le_of_ble_eq_true rfl) ⟨by decide, by decide⟩ ⟨by decide, by decide⟩ sh_34 rfl (fun _ h => nomatch h) ?_
        try dsimp only [zrst, List.cons_append, List.nil_append]
        refine r_cS2F ms_X5_apart ml_X5_76 (c5_apart l (by omega) (by omega)) dX5_showsOn_36 (Nat.le_of_ble_eq_true rfl) ⟨by decide, by decide⟩ ⟨by decide, by decide⟩ (fun _ h => nomatch h) ?_
        try dsimp only [zrst, List.cons_append, List.nil_append]
        first | refine r_iaddN dX5_showsOn_39 ?_ | refine r_iadd dX5_showsOn_39 ?_
        refine r_istore dX5_showsOn_40 rfl (by decide) ?_
        first | refine r_iincN dX5_showsOn_42 rfl rfl (by decide) ?_ | refine r_iinc dX5_showsOn_42 rfl rfl rfl (by decide) ?_
        refine r_goto (tgt := 6) dX5_showsOn_45 (by decide) ?_
        exact ih (k + 1) (by omega) (by omega)
  exact loop (4 + 1) 0 (Nat.zero_le _) (by omega)

set_option maxHeartbeats 4000000 in
set_option maxRecDepth 100000 in
theorem c5_fits (l : Launch) {rw : List zC} {M : zM} {t : Nat → Nat → Nat} (hR : RI t M) (hn : NB (t 35)) {p s day md : Nat} (hp : p < t 35 0) (hs : s < t 35 1) (hd1 : t 35 3 ≤ day) (hd2 : day < 20000) (hmd : md < 1024) : CT l false 3 0 0 yX5_fits cX5_fits 7 (some .boolean) [.ref 34, .int (nI p), .int (nI s), .int (nI day), .int (nI md)] (zSh ++ rw) M (zF (some (.int (zb (fit (t 35) p s day md = true)))) (zSh ++ rw) M) := by
  refine CT.ofN (by decide) (fun _ _ => Nat.le_of_ble_eq_true rfl) ?_
  have hdd := hn.2.2.2.2.2.2.2.2.2.2.2
  have hkd := hn.2.2.2.2.2.2.2.2.1
  have how := hn.2.2.2.2.2.2.2.2.2.1
  have hcu := hn.2.2.2.2.2.2.2.2.2.2.1
  have hb0 := hn.1
  have hb1 := hn.2.1
  have hb2 := hn.2.2.1
  have hb3 := hn.2.2.2.1
  have hb4 := hn.2.2.2.2.1
  have hb5 := hn.2.2.2.2.2.1
  have hb6 := hn.2.2.2.2.2.2.1
  refine r_iconst (v := nI 1) dX5_fits_0 rfl ?_
  refine r_istore dX5_fits_1 rfl (by decide) ?_
  refine r_iconst (v := nI 0) dX5_fits_3 rfl ?_
  refine r_istore dX5_fits_4 rfl (by decide) ?_
  rw [show nI 1 = zb (fitk (t 35) p s day md 0 = true) from (zb_t1 rfl).symm]
  have loop : ∀ (j k : Nat) , k ≤ 4 → 4 < k + j → RA l none (zR 3 0 0) yX5_fits cX5_fits 7 (some .boolean) (zF (some (.int (zb (fit (t 35) p s day md = true)))) (zSh ++ rw) M) 0 0 6 [some (.ref 34), some (.int (nI p)), some (.int (nI s)), some (.int (nI day)), some (.int (nI md)), some (.int (zb (fitk (t 35) p s day md k = true))), some (.int (nI k))] [] (zSh ++ rw) M := by
    intro j
    induction j with
    | zero => intro k   hk hj; exact absurd hj (by omega)
    | succ j ih =>
      intro k   hk hj
      refine r_iload dX5_fits_6 rfl ?_
      refine r_iconst (v := nI 4) dX5_fits_8 rfl ?_
      first | refine r_icmp_geN (tgt := 59) dX5_fits_9 (by decide) (by omega) (by omega) (fun c1 => ?_) (fun c1 => ?_) | refine r_icmp_ge (tgt := 59) dX5_fits_9 (by decide) (fun c1 => ?_) (fun c1 => ?_)
      · refine r_iload dX5_fits_59 rfl ?_
        refine r_zret dX5_fits_61 rfl (by first | exact Or.inl rfl | exact Or.inr rfl | exact zb01) (by decide) (by decide) ?_
        refine ⟨congrArg (fun x => some (Value.int x)) ?_, rfl, rfl⟩
        rw [show k = 4 by omega]
        rfl
      · have hme := mea_le hn hp c1 day md
        have hcc := hcu s k hs c1
        refine r_iload dX5_fits_12 rfl ?_
        first | refine r_if_eqB (tgt := 50) dX5_fits_14 (by decide) (fun c2 => ?_) (fun c2 => ?_) | refine r_if_eqN (tgt := 50) dX5_fits_14 (by decide) (by omega) (fun c2 => ?_) (fun c2 => ?_) | refine r_if_eq (tgt := 50) dX5_fits_14 (by decide) (fun c2 => ?_) (fun c2 => ?_)
        · have hX : zb (fitk (t 35) p s day md (k + 1) = true) = nI 0 := zb_f1 (fun h => c2 (fitk_succ.mp h).1)
          refine r_iconst (v := nI 0) dX5_fits_50 rfl ?_
          refine r_istore dX5_fits_51 rfl (by decide) ?_
          first | refine r_iincN dX5_fits_53 rfl rfl (by decide) ?_ | refine r_iinc dX5_fits_53 rfl rfl rfl (by decide) ?_
          refine r_goto (tgt := 6) dX5_fits_56 (by decide) ?_
          have h9 := ih (k + 1) (by omega) (by omega)
          rw [hX] at h9
          exact h9
        · refine r_aload_n dX5_fits_17 rfl rfl ?_
          refine r_iload_n dX5_fits_18 rfl rfl ?_
          refine r_iload dX5_fits_19 rfl ?_
          refine r_iload_n dX5_fits_21 rfl rfl ?_
          refine r_iload dX5_fits_22 rfl ?_
          refine r_cV4F mv_X5_measure ml_X5_70 (c5_measure l hR hn (by omega) (by omega) (by omega) (by omega) (by omega)) dX5_fits_24 (Nat.le_of_ble_eq_true rfl) ⟨by decide, by decide⟩ ⟨by decide, by decide⟩ sh_34 rfl (fun _ h => nomatch h) ?_
          try dsimp only [zrst, List.cons_append, List.nil_append]
          refine r_aload_n dX5_fits_27 rfl rfl ?_
          refine r_iload_n dX5_fits_28 rfl rfl ?_
          refine r_iload dX5_fits_29 rfl ?_
          refine r_cV2F mv_X5_cutOf ml_X5_73 (c5_cutOf l hR (by omega) (by omega)) dX5_fits_31 (Nat.le_of_ble_eq_true rfl) ⟨by decide, by decide⟩ ⟨by decide, by decide⟩ sh_34 rfl (fun _ h => nomatch h) ?_
          try dsimp only [zrst, List.cons_append, List.nil_append]
          refine r_cS2F ms_X5_apart ml_X5_76 (c5_apart l (by omega) (by omega)) dX5_fits_34 (Nat.le_of_ble_eq_true rfl) ⟨by decide, by decide⟩ ⟨by decide, by decide⟩ (fun _ h => nomatch h) ?_
          try dsimp only [zrst, List.cons_append, List.nil_append]
          refine r_aload_n dX5_fits_37 rfl rfl ?_
          refine r_getR fl_X5_7 dX5_fits_38 sh_34 rfl ?_
          refine r_iconst (v := nI 5) dX5_fits_41 rfl ?_
          refine r_ialdN dX5_fits_42 sh_35 (by omega) (by decide) (hR.a35 _) ?_
          first | refine r_icmp_gtN (tgt := 50) dX5_fits_43 (by decide) (by omega) (by omega) (fun c3 => ?_) (fun c3 => ?_) | refine r_icmp_gt (tgt := 50) dX5_fits_43 (by decide) (fun c3 => ?_) (fun c3 => ?_)
          · have hX : zb (fitk (t 35) p s day md (k + 1) = true) = nI 0 := zb_f1 (fun h => by have h7 := (fitk_succ.mp h).2; unfold dst at h7; omega)
            refine r_iconst (v := nI 0) dX5_fits_50 rfl ?_
            refine r_istore dX5_fits_51 rfl (by decide) ?_
            first | refine r_iincN dX5_fits_53 rfl rfl (by decide) ?_ | refine r_iinc dX5_fits_53 rfl rfl rfl (by decide) ?_
            refine r_goto (tgt := 6) dX5_fits_56 (by decide) ?_
            have h9 := ih (k + 1) (by omega) (by omega)
            rw [hX] at h9
            exact h9
          · have hX : zb (fitk (t 35) p s day md (k + 1) = true) = nI 1 := zb_t1 (fitk_succ.mpr ⟨c2, c3⟩)
            refine r_iconst (v := nI 1) dX5_fits_46 rfl ?_
            refine r_goto (tgt := 51) dX5_fits_47 (by decide) ?_
            refine r_istore dX5_fits_51 rfl (by decide) ?_
            first | refine r_iincN dX5_fits_53 rfl rfl (by decide) ?_ | refine r_iinc dX5_fits_53 rfl rfl rfl (by decide) ?_
            refine r_goto (tgt := 6) dX5_fits_56 (by decide) ?_
            have h9 := ih (k + 1) (by omega) (by omega)
            rw [hX] at h9
            exact h9
  exact loop (4 + 1) 0 (Nat.zero_le _) (by omega)

set_option maxHeartbeats 4000000 in
set_option maxRecDepth 100000 in
theorem c5_fitsNow (l : Launch) {rw : List zC} {M : zM} {t : Nat → Nat → Nat} (hR : RI t M) (hn : NB (t 35)) {p s : Nat} (hp : p < t 35 0) (hs : s < t 35 1) : CT l false 4 0 0 yX5_fitsNow cX5_fitsNow 3 (some .boolean) [.ref 34, .int (nI p), .int (nI s)] (zSh ++ rw) M (zF (some (.int (zb (fit (t 35) p s (t 35 3) (t 35 6) = true)))) (zSh ++ rw) M) := by
  refine CT.ofN (by decide) (fun _ _ => Nat.le_of_ble_eq_true rfl) ?_
  have hdd := hn.2.2.2.2.2.2.2.2.2.2.2
  have hkd := hn.2.2.2.2.2.2.2.2.1
  have how := hn.2.2.2.2.2.2.2.2.2.1
  have hcu := hn.2.2.2.2.2.2.2.2.2.2.1
  have hb0 := hn.1
  have hb1 := hn.2.1
  have hb2 := hn.2.2.1
  have hb3 := hn.2.2.2.1
  have hb4 := hn.2.2.2.2.1
  have hb5 := hn.2.2.2.2.2.1
  have hb6 := hn.2.2.2.2.2.2.1
  refine r_aload_n dX5_fitsNow_0 rfl rfl ?_
  refine r_iload_n dX5_fitsNow_1 rfl rfl ?_
  refine r_iload_n dX5_fitsNow_2 rfl rfl ?_
  refine r_aload_n dX5_fitsNow_3 rfl rfl ?_
  refine r_getR fl_X5_7 dX5_fitsNow_4 sh_34 rfl ?_
  refine r_iconst (v := nI 3) dX5_fitsNow_7 rfl ?_
  refine r_ialdN dX5_fitsNow_8 sh_35 (by omega) (by decide) (hR.a35 _) ?_
  refine r_aload_n dX5_fitsNow_9 rfl rfl ?_
  refine r_getR fl_X5_7 dX5_fitsNow_10 sh_34 rfl ?_
  refine r_bipush (v := nI 6) dX5_fitsNow_13 rfl ?_
  refine r_ialdN dX5_fitsNow_15 sh_35 (by omega) (by decide) (hR.a35 _) ?_
  refine r_cV4F mv_X5_fits ml_X5_79 (c5_fits l hR hn hp hs (Nat.le_refl _) (by omega) (by omega)) dX5_fitsNow_16 (Nat.le_of_ble_eq_true rfl) ⟨by decide, by decide⟩ ⟨by decide, by decide⟩ sh_34 rfl (fun _ h => nomatch h) ?_
  try dsimp only [zrst, List.cons_append, List.nil_append]
  refine r_zret dX5_fitsNow_19 rfl (by first | exact Or.inl rfl | exact Or.inr rfl | exact zb01) (by decide) (by decide) ?_
  exact ⟨rfl, rfl, rfl⟩

set_option maxHeartbeats 4000000 in
set_option maxRecDepth 100000 in
theorem c5_leftOfAll (l : Launch) {rw : List zC} {M : zM} {t : Nat → Nat → Nat} (hR : RI t M) (hn : NB (t 35)) : CT l false 2 0 0 yX5_leftOfAll cX5_leftOfAll 3 (some .int) [.ref 34] (zSh ++ rw) M (zF (some (.int (nI (loa (t 35))))) (zSh ++ rw) M) := by
  refine CT.ofN (by decide) (fun _ _ => Nat.le_of_ble_eq_true rfl) ?_
  have hdd := hn.2.2.2.2.2.2.2.2.2.2.2
  have hkd := hn.2.2.2.2.2.2.2.2.1
  have how := hn.2.2.2.2.2.2.2.2.2.1
  have hcu := hn.2.2.2.2.2.2.2.2.2.2.1
  have hb0 := hn.1
  have hb1 := hn.2.1
  have hb2 := hn.2.2.1
  have hb3 := hn.2.2.2.1
  have hb4 := hn.2.2.2.2.1
  have hb5 := hn.2.2.2.2.2.1
  have hb6 := hn.2.2.2.2.2.2.1
  refine r_iconst (v := nI 0) dX5_leftOfAll_0 rfl ?_
  refine r_istore_n dX5_leftOfAll_1 rfl rfl (by decide) ?_
  refine r_iconst (v := nI 0) dX5_leftOfAll_2 rfl ?_
  refine r_istore_n dX5_leftOfAll_3 rfl rfl (by decide) ?_
  have loop : ∀ (j k : Nat) , k ≤ t 35 2 → t 35 2 < k + j → RA l none (zR 2 0 0) yX5_leftOfAll cX5_leftOfAll 3 (some .int) (zF (some (.int (nI (loa (t 35))))) (zSh ++ rw) M) 0 0 4 [some (.ref 34), some (.int (nI (sm (fun d => lft (t 35) d (t 35 3) (t 35 6)) k))), some (.int (nI k))] [] (zSh ++ rw) M := by
    intro j
    induction j with
    | zero => intro k   hk hj; exact absurd hj (by omega)
    | succ j ih =>
      intro k   hk hj
      refine r_iload_n dX5_leftOfAll_4 rfl rfl ?_
      refine r_aload_n dX5_leftOfAll_5 rfl rfl ?_
      refine r_getR fl_X5_7 dX5_leftOfAll_6 sh_34 rfl ?_
      refine r_iconst (v := nI 2) dX5_leftOfAll_9 rfl ?_
      refine r_ialdN dX5_leftOfAll_10 sh_35 (by omega) (by decide) (hR.a35 _) ?_
      first | refine r_icmp_geN (tgt := 41) dX5_leftOfAll_11 (by decide) (by omega) (by omega) (fun c1 => ?_) (fun c1 => ?_) | refine r_icmp_ge (tgt := 41) dX5_leftOfAll_11 (by decide) (fun c1 => ?_) (fun c1 => ?_)
      · refine r_iload_n dX5_leftOfAll_41 rfl rfl ?_
        refine r_iret dX5_leftOfAll_42 rfl (by decide) (by decide) ?_
        refine ⟨congrArg (fun x => some (Value.int x)) ?_, rfl, rfl⟩
        rw [show k = t 35 2 by omega]
        rfl
      · have hd := hdd k c1
        refine r_iload_n dX5_leftOfAll_14 rfl rfl ?_
        refine r_aload_n dX5_leftOfAll_15 rfl rfl ?_
        refine r_iload_n dX5_leftOfAll_16 rfl rfl ?_
        refine r_aload_n dX5_leftOfAll_17 rfl rfl ?_
        refine r_getR fl_X5_7 dX5_leftOfAll_18 sh_34 rfl ?_
        refine r_iconst (v := nI 3) dX5_leftOfAll_21 rfl ?_
        refine r_ialdN dX5_leftOfAll_22 sh_35 (by omega) (by decide) (hR.a35 _) ?_
        refine r_aload_n dX5_leftOfAll_23 rfl rfl ?_
        refine r_getR fl_X5_7 dX5_leftOfAll_24 sh_34 rfl ?_
        refine r_bipush (v := nI 6) dX5_leftOfAll_27 rfl ?_
        refine r_ialdN dX5_leftOfAll_29 sh_35 (by omega) (by decide) (hR.a35 _) ?_
        refine r_cV3F mv_X5_left ml_X5_62 (c5_left l hR (by omega) (by omega) (by omega) (by omega) hb4 (by omega)) dX5_leftOfAll_30 (Nat.le_of_ble_eq_true rfl) ⟨by decide, by decide⟩ ⟨by decide, by decide⟩ sh_34 rfl (fun _ h => nomatch h) ?_
        try dsimp only [zrst, List.cons_append, List.nil_append]
        first | refine r_iaddN dX5_leftOfAll_33 ?_ | refine r_iadd dX5_leftOfAll_33 ?_
        refine r_istore_n dX5_leftOfAll_34 rfl rfl (by decide) ?_
        first | refine r_iincN dX5_leftOfAll_35 rfl rfl (by decide) ?_ | refine r_iinc dX5_leftOfAll_35 rfl rfl rfl (by decide) ?_
        refine r_goto (tgt := 4) dX5_leftOfAll_38 (by decide) ?_
        exact ih (k + 1) (by omega) (by omega)
  exact loop (t 35 2 + 1) 0 (Nat.zero_le _) (by omega)

set_option maxHeartbeats 4000000 in
set_option maxRecDepth 100000 in
theorem c5_deedsOf (l : Launch) {rw : List zC} {M : zM} {t : Nat → Nat → Nat} (hR : RI t M) (hn : NB (t 35)) {p : Nat} (hp : p < 5) : CT l false 1 0 0 yX5_deedsOf cX5_deedsOf 4 (some .int) [.ref 34, .int (nI p)] (zSh ++ rw) M (zF (some (.int (nI (dof (t 35) p)))) (zSh ++ rw) M) := by
  refine CT.ofN (by decide) (fun _ _ => Nat.le_of_ble_eq_true rfl) ?_
  have hdd := hn.2.2.2.2.2.2.2.2.2.2.2
  have hkd := hn.2.2.2.2.2.2.2.2.1
  have how := hn.2.2.2.2.2.2.2.2.2.1
  have hcu := hn.2.2.2.2.2.2.2.2.2.2.1
  have hb0 := hn.1
  have hb1 := hn.2.1
  have hb2 := hn.2.2.1
  have hb3 := hn.2.2.2.1
  have hb4 := hn.2.2.2.2.1
  have hb5 := hn.2.2.2.2.2.1
  have hb6 := hn.2.2.2.2.2.2.1
  refine r_iconst (v := nI 0) dX5_deedsOf_0 rfl ?_
  refine r_istore_n dX5_deedsOf_1 rfl rfl (by decide) ?_
  refine r_iconst (v := nI 0) dX5_deedsOf_2 rfl ?_
  refine r_istore_n dX5_deedsOf_3 rfl rfl (by decide) ?_
  have loop : ∀ (j k : Nat) , k ≤ t 35 2 → t 35 2 < k + j → RA l none (zR 1 0 0) yX5_deedsOf cX5_deedsOf 4 (some .int) (zF (some (.int (nI (dof (t 35) p)))) (zSh ++ rw) M) 0 0 4 [some (.ref 34), some (.int (nI p)), some (.int (nI (dofk (t 35) p k))), some (.int (nI k))] [] (zSh ++ rw) M := by
    intro j
    induction j with
    | zero => intro k   hk hj; exact absurd hj (by omega)
    | succ j ih =>
      intro k   hk hj
      refine r_iload_n dX5_deedsOf_4 rfl rfl ?_
      refine r_aload_n dX5_deedsOf_5 rfl rfl ?_
      refine r_getR fl_X5_7 dX5_deedsOf_6 sh_34 rfl ?_
      refine r_iconst (v := nI 2) dX5_deedsOf_9 rfl ?_
      refine r_ialdN dX5_deedsOf_10 sh_35 (by omega) (by decide) (hR.a35 _) ?_
      first | refine r_icmp_geN (tgt := 40) dX5_deedsOf_11 (by decide) (by omega) (by omega) (fun c1 => ?_) (fun c1 => ?_) | refine r_icmp_ge (tgt := 40) dX5_deedsOf_11 (by decide) (fun c1 => ?_) (fun c1 => ?_)
      · refine r_iload_n dX5_deedsOf_40 rfl rfl ?_
        refine r_iret dX5_deedsOf_41 rfl (by decide) (by decide) ?_
        refine ⟨congrArg (fun x => some (Value.int x)) ?_, rfl, rfl⟩
        rw [show k = t 35 2 by omega]
        rfl
      · have hd := hdd k c1
        have hpk := pw_le (show k ≤ 10 by omega)
        refine r_iload_n dX5_deedsOf_14 rfl rfl ?_
        refine r_aload_n dX5_deedsOf_15 rfl rfl ?_
        refine r_iload_n dX5_deedsOf_16 rfl rfl ?_
        refine r_iconst (v := nI 0) dX5_deedsOf_17 rfl ?_
        refine r_cV2F mv_X5_told ml_X5_47 (c5_told l hR (by omega) (by omega)) dX5_deedsOf_18 (Nat.le_of_ble_eq_true rfl) ⟨by decide, by decide⟩ ⟨by decide, by decide⟩ sh_34 rfl (fun _ h => nomatch h) ?_
        try dsimp only [zrst, List.cons_append, List.nil_append]
        simp only [Nat.add_zero]
        refine r_iload_n dX5_deedsOf_21 rfl rfl ?_
        first | refine r_icmp_neN (tgt := 31) dX5_deedsOf_22 (by decide) (by omega) (by omega) (fun c2 => ?_) (fun c2 => ?_) | refine r_icmp_ne (tgt := 31) dX5_deedsOf_22 (by decide) (fun c2 => ?_) (fun c2 => ?_)
        · have hX : dofk (t 35) p (k + 1) = dofk (t 35) p k ||| 0 := by rw [dofk, if_neg c2]
          refine r_iconst (v := nI 0) dX5_deedsOf_31 rfl ?_
          first | refine r_iorN dX5_deedsOf_32 ?_ | refine r_ior dX5_deedsOf_32 ?_
          refine r_istore_n dX5_deedsOf_33 rfl rfl (by decide) ?_
          first | refine r_iincN dX5_deedsOf_34 rfl rfl (by decide) ?_ | refine r_iinc dX5_deedsOf_34 rfl rfl rfl (by decide) ?_
          refine r_goto (tgt := 4) dX5_deedsOf_37 (by decide) ?_
          have h9 := ih (k + 1) (by omega) (by omega)
          rw [hX] at h9
          exact h9
        · have hX : dofk (t 35) p (k + 1) = dofk (t 35) p k ||| (1 * 2 ^ k) := by rw [dofk, if_pos c2]
          refine r_iconst (v := nI 1) dX5_deedsOf_25 rfl ?_
          refine r_iload_n dX5_deedsOf_26 rfl rfl ?_
          first | refine r_ishlN dX5_deedsOf_27 (by omega) (by omega) ?_ | refine r_ishl dX5_deedsOf_27 ?_
          refine r_goto (tgt := 32) dX5_deedsOf_28 (by decide) ?_
          first | refine r_iorN dX5_deedsOf_32 ?_ | refine r_ior dX5_deedsOf_32 ?_
          refine r_istore_n dX5_deedsOf_33 rfl rfl (by decide) ?_
          first | refine r_iincN dX5_deedsOf_34 rfl rfl (by decide) ?_ | refine r_iinc dX5_deedsOf_34 rfl rfl rfl (by decide) ?_
          refine r_goto (tgt := 4) dX5_deedsOf_37 (by decide) ?_
          have h9 := ih (k + 1) (by omega) (by omega)
          rw [hX] at h9
          exact h9
  exact loop (t 35 2 + 1) 0 (Nat.zero_le _) (by omega)

