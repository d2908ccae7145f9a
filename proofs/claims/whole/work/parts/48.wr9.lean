set_option maxHeartbeats 4000000 in
set_option maxRecDepth 100000 in
theorem c5p_image (l : Launch) {rw : List zC} {M0 : zM} {t : Nat → Nat → Nat} (hR : RI t M0) : CT l false 0 0 0 yX5_image cX5_image 2 (some .int) [.ref 34] (zSh ++ rw) M0 (zG (zSh ++ rw) (zQR (nI 1) (st_image t) M0)) := by
  refine CT.ofN (by decide) (fun _ _ => Nat.le_of_ble_eq_true rfl) ?_
  have hF : zfr PR M0 M0 := zfr.rf
  refine r_iconst (v := nI 0) dX5_image_0 rfl ?_
  refine r_istore_n dX5_image_1 rfl rfl (by decide) ?_
  have loop : ∀ (j k : Nat) (M : zM) (hR : RI (im1 t k) M) (hF : zfr PR M0 M), k ≤ 89 → 89 < k + j → RA l none (zR 0 0 0) yX5_image cX5_image 2 (some .int) (zG (zSh ++ rw) (zQR (nI 1) (st_image t) M0)) 0 0 2 [some (.ref 34), some (.int (nI k))] [] (zSh ++ rw) M := by
    intro j
    induction j with
    | zero => intro k M hR hF hk hj; exact absurd hj (by omega)
    | succ j ih =>
      intro k M hR hF hk hj
      refine r_iload_n dX5_image_2 rfl rfl ?_
      refine r_bipush (v := nI 89) dX5_image_3 rfl ?_
      first | refine r_icmp_geN (tgt := 26) dX5_image_5 (by decide) (by omega) (by omega) (fun c1 => ?_) (fun c1 => ?_) | refine r_icmp_ge (tgt := 26) dX5_image_5 (by decide) (fun c1 => ?_) (fun c1 => ?_)
      · have e9 : k = 89 := by omega
        subst e9
        rw [im2_0] at hR
        refine r_iconst (v := nI 0) dX5_image_26 rfl ?_
        refine r_istore_n dX5_image_27 rfl rfl (by decide) ?_
        have loop2 : ∀ (j k : Nat) (M : zM) (hR : RI (im2 t k) M) (hF : zfr PR M0 M), k ≤ 352 → 352 < k + j → RA l none (zR 0 0 0) yX5_image cX5_image 2 (some .int) (zG (zSh ++ rw) (zQR (nI 1) (st_image t) M0)) 0 0 28 [some (.ref 34), some (.int (nI k))] [] (zSh ++ rw) M := by
          intro j
          induction j with
          | zero => intro k M hR hF hk hj; exact absurd hj (by omega)
          | succ j ih =>
            intro k M hR hF hk hj
            refine r_iload_n dX5_image_28 rfl rfl ?_
            refine r_sipush (v := nI 352) dX5_image_29 rfl ?_
            first | refine r_icmp_geN (tgt := 56) dX5_image_32 (by decide) (by omega) (by omega) (fun c1 => ?_) (fun c1 => ?_) | refine r_icmp_ge (tgt := 56) dX5_image_32 (by decide) (fun c1 => ?_) (fun c1 => ?_)
            · refine r_aload_n dX5_image_56 rfl rfl ?_
              refine r_aload_n dX5_image_57 rfl rfl ?_
              refine r_getV fl_X5_89 dX5_image_58 sh_34 rfl (hR.a34 _) ?_
              refine r_top (v' := .int (nI (t 34 7))) rfl ?_
              refine r_Rput fl_X5_188 dX5_image_61 rfl rfl sh_34 rfl hR (fun M hR hF1 => ?_)
              have hF := hF.trans hF1
              refine r_aload_n dX5_image_64 rfl rfl ?_
              refine r_iconst (v := nI 1) dX5_image_65 rfl ?_
              refine r_Rput fl_X5_191 dX5_image_66 rfl rfl sh_34 rfl hR (fun M hR hF1 => ?_)
              have hF := hF.trans hF1
              refine r_iconst (v := nI 1) dX5_image_69 rfl ?_
              refine r_iret dX5_image_70 rfl (by decide) (by decide) ?_
              have e9 : k = 352 := by omega
              subst e9
              exact ⟨rfl, rfl, hR, hF⟩
            · refine r_aload_n dX5_image_35 rfl rfl ?_
              refine r_getR fl_X5_25 dX5_image_36 sh_34 rfl ?_
              refine r_bipush (v := nI 89) dX5_image_39 rfl ?_
              refine r_iload_n dX5_image_41 rfl rfl ?_
              first | refine r_iaddN dX5_image_42 ?_ | refine r_iadd dX5_image_42 ?_
              refine r_aload_n dX5_image_43 rfl rfl ?_
              refine r_getR fl_X5_19 dX5_image_44 sh_34 rfl ?_
              refine r_iload_n dX5_image_47 rfl rfl ?_
              refine r_ialdN dX5_image_48 sh_38 (by omega) (by decide) (hR.a38 _) ?_
              refine r_top (v' := .int (nI (t 38 k))) rfl ?_
              refine r_Rast dX5_image_49 sh_40 (by omega) (by decide) hR (by decide) (fun M hR hF1 => ?_)
              have hF := hF.trans hF1
              first | refine r_iincN dX5_image_50 rfl rfl (by decide) ?_ | refine r_iinc dX5_image_50 rfl rfl rfl (by decide) ?_
              refine r_goto (tgt := 28) dX5_image_53 (by decide) ?_
              rw [im2_s] at hR
              exact ih (k + 1) M hR hF (by omega) (by omega)
        exact loop2 (352 + 1) 0 M hR hF (Nat.zero_le _) (by omega)
      · refine r_aload_n dX5_image_8 rfl rfl ?_
        refine r_getR fl_X5_25 dX5_image_9 sh_34 rfl ?_
        refine r_iload_n dX5_image_12 rfl rfl ?_
        refine r_aload_n dX5_image_13 rfl rfl ?_
        refine r_getR fl_X5_7 dX5_image_14 sh_34 rfl ?_
        refine r_iload_n dX5_image_17 rfl rfl ?_
        refine r_ialdN dX5_image_18 sh_35 (by omega) (by decide) (hR.a35 _) ?_
        refine r_top (v' := .int (nI (t 35 k))) rfl ?_
        refine r_Rast dX5_image_19 sh_40 (by omega) (by decide) hR (by decide) (fun M hR hF1 => ?_)
        have hF := hF.trans hF1
        first | refine r_iincN dX5_image_20 rfl rfl (by decide) ?_ | refine r_iinc dX5_image_20 rfl rfl rfl (by decide) ?_
        refine r_goto (tgt := 2) dX5_image_23 (by decide) ?_
        rw [im1_s] at hR
        exact ih (k + 1) M hR hF (by omega) (by omega)
  exact loop (89 + 1) 0 M0 (by rw [im1_0]; exact hR) hF (Nat.zero_le _) (by omega)

set_option maxHeartbeats 4000000 in
set_option maxRecDepth 100000 in
theorem c5p_restore (l : Launch) {rw : List zC} {M0 : zM} {t : Nat → Nat → Nat} (hR : RI t M0) (hi : t 34 11 ≤ 1) : CT l false 0 0 0 yX5_restore cX5_restore 2 (some .int) [.ref 34] (zSh ++ rw) M0 (zG (zSh ++ rw) (zQR (sp_restore t) (st_restore t) M0)) := by
  refine CT.ofN (by decide) (fun _ _ => Nat.le_of_ble_eq_true rfl) ?_
  have hF : zfr PR M0 M0 := zfr.rf
  refine r_aload_n dX5_restore_0 rfl rfl ?_
  refine r_getV fl_X5_191 dX5_restore_1 sh_34 rfl (hR.a34 _) ?_
  first | refine r_if_neB (tgt := 10) dX5_restore_4 (by decide) (fun c1 => ?_) (fun c1 => ?_) | refine r_if_neN (tgt := 10) dX5_restore_4 (by decide) (by omega) (fun c1 => ?_) (fun c1 => ?_) | refine r_if_ne (tgt := 10) dX5_restore_4 (by decide) (fun c1 => ?_) (fun c1 => ?_)
  · have hk0 : ¬ t 34 11 = 0 := c1
    refine r_iconst (v := nI 0) dX5_restore_10 rfl ?_
    refine r_istore_n dX5_restore_11 rfl rfl (by decide) ?_
    have loop : ∀ (j k : Nat) (M : zM) (hR : RI (re1 t k) M) (hF : zfr PR M0 M), k ≤ 89 → 89 < k + j → RA l none (zR 0 0 0) yX5_restore cX5_restore 2 (some .int) (zG (zSh ++ rw) (zQR (sp_restore t) (st_restore t) M0)) 0 0 12 [some (.ref 34), some (.int (nI k))] [] (zSh ++ rw) M := by
      intro j
      induction j with
      | zero => intro k M hR hF hk hj; exact absurd hj (by omega)
      | succ j ih =>
        intro k M hR hF hk hj
        refine r_iload_n dX5_restore_12 rfl rfl ?_
        refine r_bipush (v := nI 89) dX5_restore_13 rfl ?_
        first | refine r_icmp_geN (tgt := 36) dX5_restore_15 (by decide) (by omega) (by omega) (fun c1 => ?_) (fun c1 => ?_) | refine r_icmp_ge (tgt := 36) dX5_restore_15 (by decide) (fun c1 => ?_) (fun c1 => ?_)
        · have e9 : k = 89 := by omega
          subst e9
          rw [re2_0] at hR
          refine r_iconst (v := nI 0) dX5_restore_36 rfl ?_
          refine r_istore_n dX5_restore_37 rfl rfl (by decide) ?_
          have loop2 : ∀ (j k : Nat) (M : zM) (hR : RI (re2 t k) M) (hF : zfr PR M0 M), k ≤ 352 → 352 < k + j → RA l none (zR 0 0 0) yX5_restore cX5_restore 2 (some .int) (zG (zSh ++ rw) (zQR (sp_restore t) (st_restore t) M0)) 0 0 38 [some (.ref 34), some (.int (nI k))] [] (zSh ++ rw) M := by
            intro j
            induction j with
            | zero => intro k M hR hF hk hj; exact absurd hj (by omega)
            | succ j ih =>
              intro k M hR hF hk hj
              refine r_iload_n dX5_restore_38 rfl rfl ?_
              refine r_sipush (v := nI 352) dX5_restore_39 rfl ?_
              first | refine r_icmp_geN (tgt := 66) dX5_restore_42 (by decide) (by omega) (by omega) (fun c1 => ?_) (fun c1 => ?_) | refine r_icmp_ge (tgt := 66) dX5_restore_42 (by decide) (fun c1 => ?_) (fun c1 => ?_)
              · refine r_aload_n dX5_restore_66 rfl rfl ?_
                refine r_aload_n dX5_restore_67 rfl rfl ?_
                refine r_getV fl_X5_188 dX5_restore_68 sh_34 rfl (hR.a34 _) ?_
                refine r_top (v' := .int (nI (t 34 10))) rfl ?_
                refine r_Rput fl_X5_89 dX5_restore_71 rfl rfl sh_34 rfl hR (fun M hR hF1 => ?_)
                have hF := hF.trans hF1
                refine r_iconst (v := nI 1) dX5_restore_74 rfl ?_
                refine r_iret dX5_restore_75 rfl (by decide) (by decide) ?_
                have e9 : k = 352 := by omega
                subst e9
                refine ⟨rfl, congrArg (fun x => some (Value.int x)) ?_, ?_, hF⟩
                · rw [sp_restore, if_neg hk0]
                · rw [st_restore, if_neg hk0]
                  exact hR
              · refine r_aload_n dX5_restore_45 rfl rfl ?_
                refine r_getR fl_X5_19 dX5_restore_46 sh_34 rfl ?_
                refine r_iload_n dX5_restore_49 rfl rfl ?_
                refine r_aload_n dX5_restore_50 rfl rfl ?_
                refine r_getR fl_X5_25 dX5_restore_51 sh_34 rfl ?_
                refine r_bipush (v := nI 89) dX5_restore_54 rfl ?_
                refine r_iload_n dX5_restore_56 rfl rfl ?_
                first | refine r_iaddN dX5_restore_57 ?_ | refine r_iadd dX5_restore_57 ?_
                refine r_ialdN dX5_restore_58 sh_40 (by omega) (by decide) (hR.a40 _) ?_
                refine r_top (v' := .int (nI (t 40 (89 + k)))) rfl ?_
                refine r_Rast dX5_restore_59 sh_38 (by omega) (by decide) hR (by decide) (fun M hR hF1 => ?_)
                have hF := hF.trans hF1
                first | refine r_iincN dX5_restore_60 rfl rfl (by decide) ?_ | refine r_iinc dX5_restore_60 rfl rfl rfl (by decide) ?_
                refine r_goto (tgt := 38) dX5_restore_63 (by decide) ?_
                rw [re2_s] at hR
                exact ih (k + 1) M hR hF (by omega) (by omega)
          exact loop2 (352 + 1) 0 M hR hF (Nat.zero_le _) (by omega)
        · refine r_aload_n dX5_restore_18 rfl rfl ?_
          refine r_getR fl_X5_7 dX5_restore_19 sh_34 rfl ?_
          refine r_iload_n dX5_restore_22 rfl rfl ?_
          refine r_aload_n dX5_restore_23 rfl rfl ?_
          refine r_getR fl_X5_25 dX5_restore_24 sh_34 rfl ?_
          refine r_iload_n dX5_restore_27 rfl rfl ?_
          refine r_ialdN dX5_restore_28 sh_40 (by omega) (by decide) (hR.a40 _) ?_
          refine r_top (v' := .int (nI (t 40 k))) rfl ?_
          refine r_Rast dX5_restore_29 sh_35 (by omega) (by decide) hR (by decide) (fun M hR hF1 => ?_)
          have hF := hF.trans hF1
          first | refine r_iincN dX5_restore_30 rfl rfl (by decide) ?_ | refine r_iinc dX5_restore_30 rfl rfl rfl (by decide) ?_
          refine r_goto (tgt := 12) dX5_restore_33 (by decide) ?_
          rw [re1_s] at hR
          exact ih (k + 1) M hR hF (by omega) (by omega)
    exact loop (89 + 1) 0 M0 (by rw [re1_0]; exact hR) hF (Nat.zero_le _) (by omega)
  · have hk0 : t 34 11 = 0 := c1
    refine r_bipush (v := (-4)) dX5_restore_7 rfl ?_
    refine r_iret dX5_restore_9 rfl (by decide) (by decide) ?_
    refine ⟨rfl, congrArg (fun x => some (Value.int x)) ?_, ?_, hF⟩
    · rw [sp_restore, if_pos hk0]
    · rw [st_restore, if_pos hk0]
      exact hR

