theorem SI_off {b c : Nat} {n u : Nat → Nat} {kn : Nat} {M : zM} {f : Nat → Int32} (hc : c < b ∨ b + 8 < c) (h : SI b n u kn M) : SI b n u kn (zI M c f) := by
  obtain ⟨h0, a2, a3, a4, a5, a9⟩ := h
  have e : ∀ i, b ≤ i → i ≤ b + 8 → (zI M c f).1 i = M.1 i := fun i h1 h2 => (zI_ne i (by omega)).1
  refine ⟨by rw [e b (by omega) (by omega)]; exact h0, by rw [e _ (by omega) (by omega)]; exact a2, by rw [e _ (by omega) (by omega)]; exact a3, by rw [e _ (by omega) (by omega)]; exact a4, by rw [e _ (by omega) (by omega), e _ (by omega) (by omega), e _ (by omega) (by omega), e _ (by omega) (by omega)]; exact a5, by rw [e _ (by omega) (by omega)]; exact a9⟩
set_option maxHeartbeats 4000000 in
set_option maxRecDepth 100000 in
theorem c4_image (l : Launch) {rw : List zC} {M0 : zM} {t : Nat → Nat → Nat} (hS : SI 1 (t 35) (t 38) (t 34 7) M0) (hn : NB (t 35)) (hkn : t 34 7 ≤ 8) : CT l false 2 0 0 yX4_image cX4_image 1 (some .int) [.ref 0] (zSh ++ rw) M0 (zG (zSh ++ rw) (fun v M9 => v = some (.int (nI 1)) ∧ KI (st_image t) M9 ∧ M9.1 0 2 = nI 1 ∧ zfr (fun i => i = 0 ∨ PT 10 i) M0 M9)) := by
  refine CT.ofN (by decide) (fun _ _ => Nat.le_of_ble_eq_true rfl) ?_
  refine r_aload_n dX4_image_0 rfl rfl ?_
  refine r_getR fl_X4_16 dX4_image_1 sh_0 rfl ?_
  refine r_aload_n dX4_image_4 rfl rfl ?_
  refine r_getR fl_X4_10 dX4_image_5 sh_0 rfl ?_
  refine r_cV1G mv_X3_takeAll ml_X4_206 (c3_takeAll_1_10 l) dX4_image_8 (Nat.le_of_ble_eq_true rfl) ⟨by decide, by decide⟩ ⟨by decide, by decide⟩ sh_10 rfl (fun _ h => nomatch h) (fun v M1 hq => ?_)
  obtain ⟨rfl, hC, hF⟩ := hq
  dsimp only [zrst, List.cons_append, List.nil_append]
  refine r_aload_n dX4_image_11 rfl rfl ?_
  refine r_iconst (v := nI 1) dX4_image_12 rfl ?_
  refine r_putI fl_X4_209 dX4_image_13 rfl rfl sh_0 rfl ?_
  refine r_iconst (v := nI 1) dX4_image_16 rfl ?_
  refine r_iret dX4_image_17 rfl (by decide) (by decide) ?_
  refine ⟨rfl, rfl, ?_, by rw [zI_at]; exact pk_us, (hF.wk (fun i h => Or.inr h)).trans (zfr_I (Or.inl rfl))⟩
  have h1 := SI_copy hS hn hkn hC
  have h2 := SI_cong (n' := st_image t 40) (u' := fun j => st_image t 40 (89 + j)) h1 hn hkn (fun j hj => si_40 hj) (fun j hj => si_u hj)
  unfold KI
  rw [si_k]
  exact SI_off (c := 0) (by decide) h2

set_option maxHeartbeats 4000000 in
set_option maxRecDepth 100000 in
theorem c4_restore (l : Launch) {rw : List zC} {M0 : zM} {t : Nat → Nat → Nat} (hS : SI 1 (t 35) (t 38) (t 34 7) M0) (hI : M0.1 0 2 = nI (t 34 11)) (hi : t 34 11 ≤ 1) (hK : t 34 11 = 1 → KI t M0 ∧ NB (t 40) ∧ t 34 10 ≤ 8) : CT l false 2 0 0 yX4_restore cX4_restore 1 (some .int) [.ref 0] (zSh ++ rw) M0 (zG (zSh ++ rw) (zQC (sp_restore t) (st_restore t) (PT 1) M0)) := by
  refine CT.ofN (by decide) (fun _ _ => Nat.le_of_ble_eq_true rfl) ?_
  refine r_aload_n dX4_restore_0 rfl rfl ?_
  refine r_getV fl_X4_209 dX4_restore_1 sh_0 rfl hI ?_
  first | refine r_if_neB (tgt := 10) dX4_restore_4 (by decide) (fun c1 => ?_) (fun c1 => ?_) | refine r_if_neN (tgt := 10) dX4_restore_4 (by decide) (by omega) (fun c1 => ?_) (fun c1 => ?_) | refine r_if_ne (tgt := 10) dX4_restore_4 (by decide) (fun c1 => ?_) (fun c1 => ?_)
  · have hk0 : ¬ t 34 11 = 0 := c1
    refine r_aload_n dX4_restore_10 rfl rfl ?_
    refine r_getR fl_X4_10 dX4_restore_11 sh_0 rfl ?_
    refine r_aload_n dX4_restore_14 rfl rfl ?_
    refine r_getR fl_X4_16 dX4_restore_15 sh_0 rfl ?_
    refine r_cV1G mv_X3_takeAll ml_X4_206 (c3_takeAll_10_1 l) dX4_restore_18 (Nat.le_of_ble_eq_true rfl) ⟨by decide, by decide⟩ ⟨by decide, by decide⟩ sh_1 rfl (fun _ h => nomatch h) (fun v M1 hq => ?_)
    obtain ⟨rfl, hC, hF⟩ := hq
    dsimp only [zrst, List.cons_append, List.nil_append]
    refine r_iconst (v := nI 1) dX4_restore_21 rfl ?_
    refine r_iret dX4_restore_22 rfl (by decide) (by decide) ?_
    obtain ⟨h1, h2, h3⟩ := hK (by omega)
    refine ⟨rfl, congrArg (fun x => some (Value.int x)) ?_, ?_, hF⟩
    · rw [sp_restore, if_neg hk0]
    · rw [st_restore, if_neg hk0]
      exact SI_cong (n' := ts (re2 t 352) 34 7 (t 34 10) 35) (u' := ts (re2 t 352) 34 7 (t 34 10) 38) (SI_copy h1 h2 h3 hC) h2 h3 (fun j hj => if_pos hj) (fun j hj => if_pos hj)
  · have hk0 : t 34 11 = 0 := c1
    refine r_bipush (v := (-4)) dX4_restore_7 rfl ?_
    refine r_iret dX4_restore_9 rfl (by decide) (by decide) ?_
    refine ⟨rfl, congrArg (fun x => some (Value.int x)) ?_, ?_, zfr.rf⟩
    · rw [sp_restore, if_pos hk0]
    · rw [st_restore, if_pos hk0]
      exact hS

set_option maxHeartbeats 4000000 in
set_option maxRecDepth 100000 in
theorem c5p_type (l : Launch) {rw : List zC} {M0 : zM} {t : Nat → Nat → Nat} (hR : RI t M0) (hn : NB (t 35)) (x : Int32) (hty : t 34 2 ≤ 130) : CT l false 1 0 0 yX5_type cX5_type 2 (some .int) [.ref 34, .int x] (zSh ++ rw) M0 (zG (zSh ++ rw) (zQR (sp_type t x) (st_type t x) M0)) := by
  refine CT.ofN (by decide) (fun _ _ => Nat.le_of_ble_eq_true rfl) ?_
  have hdd := hn.2.2.2.2.2.2.2.2.2.2.2
  have hkd := hn.2.2.2.2.2.2.2.2.1
  have how := hn.2.2.2.2.2.2.2.2.2.1
  have hcu := hn.2.2.2.2.2.2.2.2.2.2.1
  have hb0 := hn.1
  have hb1 := hn.2.1
  have hb2 := hn.2.2.1
  have hb3 := hn.2.2.2.1
  have hb4 := hn.2.2.2.2.1
  have hb5 := hn.2.2.2.2.2.1
  have hb6 := hn.2.2.2.2.2.2.1
  have hF : zfr PR M0 M0 := zfr.rf
  refine r_iload_n dX5_type_0 rfl rfl ?_
  refine r_i2l dX5_type_1 rfl ?_
  refine r_ldc2 kc_X5_132 dX5_type_2 ?_
  refine r_ldc2 kc_X5_134 dX5_type_5 ?_
  refine r_cS3F ms_X5_in ml_X5_41 (c5_in l _ _ _) dX5_type_8 (Nat.le_of_ble_eq_true rfl) ⟨by decide, by decide⟩ ⟨by decide, by decide⟩ (fun _ h => nomatch h) ?_
  try dsimp only [zrst, List.cons_append, List.nil_append]
  first | refine r_if_neB (tgt := 16) dX5_type_11 (by decide) (fun c1 => ?_) (fun c1 => ?_) | refine r_if_neN (tgt := 16) dX5_type_11 (by decide) (by omega) (fun c1 => ?_) (fun c1 => ?_) | refine r_if_ne (tgt := 16) dX5_type_11 (by decide) (fun c1 => ?_) (fun c1 => ?_)
  · rw [i64_of32] at c1
    have c1 : ((32 : Int) ≤ x.toInt ∧ x.toInt ≤ (126 : Int)) := c1
    have g1 : 32 ≤ x.toInt ∧ x.toInt ≤ 126 := by omega
    obtain ⟨k, hk1, hk2, rfl⟩ := arg_rng (a := 32) (b := 126) (show ((32 : Nat) : Int) ≤ x.toInt ∧ x.toInt ≤ ((126 : Nat) : Int) by omega)
    refine r_aload_n dX5_type_16 rfl rfl ?_
    refine r_getV fl_X5_136 dX5_type_17 sh_34 rfl (hR.a34 _) ?_
    refine r_sipush (v := nI 130) dX5_type_20 rfl ?_
    first | refine r_icmp_neN (tgt := 29) dX5_type_23 (by decide) (by omega) (by omega) (fun c2 => ?_) (fun c2 => ?_) | refine r_icmp_ne (tgt := 29) dX5_type_23 (by decide) (fun c2 => ?_) (fun c2 => ?_)
    · refine r_aload_n dX5_type_29 rfl rfl ?_
      refine r_getR fl_X5_13 dX5_type_30 sh_34 rfl ?_
      refine r_aload_n dX5_type_33 rfl rfl ?_
      refine r_getV fl_X5_136 dX5_type_34 sh_34 rfl (hR.a34 _) ?_
      refine r_iload_n dX5_type_37 rfl rfl ?_
      refine r_Rast dX5_type_38 sh_36 (by omega) (by decide) hR (by decide) (fun M hR hF1 => ?_)
      have hF := hF.trans hF1
      refine r_aload_n dX5_type_39 rfl rfl ?_
      refine r_dup dX5_type_40 rfl ?_
      refine r_getV fl_X5_136 dX5_type_41 sh_34 rfl (hR.a34 _) ?_
      refine r_top (v' := .int (nI (t 34 2))) (congrArg (fun z => Value.int (nI z)) (congrFun (ts_nc (by decide)) _)) ?_
      refine r_iconst (v := nI 1) dX5_type_44 rfl ?_
      first | refine r_iaddN dX5_type_45 ?_ | refine r_iadd dX5_type_45 ?_
      refine r_Rput fl_X5_136 dX5_type_46 rfl rfl sh_34 rfl hR (fun M hR hF1 => ?_)
      have hF := hF.trans hF1
      refine r_aload_n dX5_type_49 rfl rfl ?_
      refine r_getV fl_X5_136 dX5_type_50 sh_34 rfl (hR.a34 _) ?_
      refine r_top (v' := .int (nI (t 34 2 + 1))) (congrArg (fun z => Value.int (nI z)) (ts_at _ _ _ _)) ?_
      refine r_iret dX5_type_53 rfl (by decide) (by decide) ?_
      (refine ⟨rfl, congrArg (fun x => some (Value.int x)) ?_, ?_, hF⟩; (rw [sp_type, if_pos (g1), if_neg (show ¬ t 34 2 = 130 by omega)]); (rw [st_type, if_pos (g1), if_neg (show ¬ t 34 2 = 130 by omega), tn_nI (show k < 2147483648 by omega)]; first | exact hR | exact hS))
    · refine r_bipush (v := (-3)) dX5_type_26 rfl ?_
      refine r_iret dX5_type_28 rfl (by decide) (by decide) ?_
      (refine ⟨rfl, congrArg (fun x => some (Value.int x)) ?_, ?_, hF⟩; (rw [sp_type, if_pos (g1), if_pos (show t 34 2 = 130 by omega)]); (rw [st_type, if_pos (g1), if_pos (show t 34 2 = 130 by omega)]; exact hR))
  · rw [i64_of32] at c1
    have c1 : ¬ ((32 : Int) ≤ x.toInt ∧ x.toInt ≤ (126 : Int)) := c1
    have b1 : ¬ (32 ≤ x.toInt ∧ x.toInt ≤ 126) := by omega
    refine r_iconst (v := (-1)) dX5_type_14 rfl ?_
    refine r_iret dX5_type_15 rfl (by decide) (by decide) ?_
    refine ⟨rfl, congrArg (fun x => some (Value.int x)) ?_, ?_, hF⟩
    · rw [sp_type, if_neg]
      intro h9; first | exact absurd h9 (by assumption) | exact absurd h9.1 (by assumption) | exact absurd h9.2 (by assumption) | exact absurd h9.2.1 (by assumption) | exact absurd h9.2.2 (by assumption) | exact absurd h9.2.2.1 (by assumption) | exact absurd h9.2.2.2 (by assumption) | exact absurd h9.2.2.2.1 (by assumption) | exact absurd h9.2.2.2.2 (by assumption)
    · rw [st_type, if_neg]
      · exact hR
      · intro h9; first | exact absurd h9 (by assumption) | exact absurd h9.1 (by assumption) | exact absurd h9.2 (by assumption) | exact absurd h9.2.1 (by assumption) | exact absurd h9.2.2 (by assumption) | exact absurd h9.2.2.1 (by assumption) | exact absurd h9.2.2.2 (by assumption) | exact absurd h9.2.2.2.1 (by assumption) | exact absurd h9.2.2.2.2 (by assumption)

set_option maxHeartbeats 4000000 in
set_option maxRecDepth 100000 in
theorem c1_addLetter (l : Launch) {rw : List zC} {M0 : zM} {t : Nat → Nat → Nat} (hT : TI t M0) {v : Nat} (hlt : t 34 2 < 130) : CT l false 0 0 0 yX1_addLetter cX1_addLetter 2 (some .int) [.ref 19, .int (nI v)] (zSh ++ rw) M0 (zG (zSh ++ rw) (fun w M9 => w = some (.int (nI (t 34 2 + 1))) ∧ TI (nty t v) M9 ∧ zfr (fun i => i = 19 ∨ i = 20) M0 M9)) := by
  refine CT.ofN (by decide) (fun _ _ => Nat.le_of_ble_eq_true rfl) ?_
  refine r_aload_n dX1_addLetter_0 rfl rfl ?_
  refine r_getR fl_X1_9 dX1_addLetter_1 sh_19 rfl ?_
  refine r_aload_n dX1_addLetter_4 rfl rfl ?_
  refine r_getV fl_X1_24 dX1_addLetter_5 sh_19 rfl hT.1 ?_
  refine r_iload_n dX1_addLetter_8 rfl rfl ?_
  refine r_iastN dX1_addLetter_9 sh_20 (by omega) (by decide) ?_
  refine r_aload_n dX1_addLetter_10 rfl rfl ?_
  refine r_dup dX1_addLetter_11 rfl ?_
  refine r_getV fl_X1_24 dX1_addLetter_12 sh_19 rfl hT.1 ?_
  refine r_iconst (v := nI 1) dX1_addLetter_15 rfl ?_
  first | refine r_iaddN dX1_addLetter_16 ?_ | refine r_iadd dX1_addLetter_16 ?_
  refine r_putI fl_X1_24 dX1_addLetter_17 rfl rfl sh_19 rfl ?_
  refine r_aload_n dX1_addLetter_20 rfl rfl ?_
  refine r_getV fl_X1_24 dX1_addLetter_21 sh_19 rfl (show _ = nI (t 34 2 + 1) from by rw [zI_at]; exact pk_us) ?_
  refine r_iret dX1_addLetter_24 rfl (by decide) (by decide) ?_
  exact ⟨rfl, rfl, TI_type hT rfl rfl, (zfr.trans (zfr.trans zfr.rf (zfr_I (by simp))) (zfr_I (by simp)))⟩

