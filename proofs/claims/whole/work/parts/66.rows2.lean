set_option maxHeartbeats 4000000 in
set_option maxRecDepth 100000 in
theorem c2_refusal (l : Launch) {S : List zC} {M : zM} {r ri nr : Nat} (hs_r : S[r]? = some (.inr (2, [none, some (some ri)]))) (hs_ri : S[ri]? = some (.inl (1, nr))) (hnr : nr ≤ 24) (i k : Int32) {La L : Nat} (hLa : La ≤ 3) (hL : L ≤ 3) (hlane : M.1 r 0 = nI L) : CT l false 1 0 0 yX2_refusal cX2_refusal 4 (some .int) [.ref r, .int (nI La), .int i, .int k] S M (zF (some (.int (rfz La L i k nr))) S M) := by
  refine CT.ofN (by decide) (fun _ _ => Nat.le_of_ble_eq_true rfl) ?_
  refine r_iload_n dX2_refusal_0 rfl rfl ?_
  refine r_aload_n dX2_refusal_1 rfl rfl ?_
  refine r_getV fl_X2_9 dX2_refusal_2 hs_r rfl hlane ?_
  first | refine r_icmp_eqN (tgt := 11) dX2_refusal_5 (by decide) (by omega) (by omega) (fun c1 => ?_) (fun c1 => ?_) | refine r_icmp_eq (tgt := 11) dX2_refusal_5 (by decide) (fun c1 => ?_) (fun c1 => ?_)
  · refine r_aload_n dX2_refusal_11 rfl rfl ?_
    refine r_iload_n dX2_refusal_12 rfl rfl ?_
    refine r_iload_n dX2_refusal_13 rfl rfl ?_
    refine r_cV2F mv_X2_holds ml_X2_19 (c2_holds l hs_r hs_ri hnr i k) dX2_refusal_14 (Nat.le_of_ble_eq_true rfl) ⟨by decide, by decide⟩ ⟨by decide, by decide⟩ hs_r rfl (fun _ h => nomatch h) ?_
    try dsimp only [zrst, List.cons_append, List.nil_append]
    first | refine r_if_eqB (tgt := 24) dX2_refusal_17 (by decide) (fun c2 => ?_) (fun c2 => ?_) | refine r_if_eqN (tgt := 24) dX2_refusal_17 (by decide) (by omega) (fun c2 => ?_) (fun c2 => ?_) | refine r_if_eq (tgt := 24) dX2_refusal_17 (by decide) (fun c2 => ?_) (fun c2 => ?_)
    · refine r_bipush (v := (-13)) dX2_refusal_24 rfl ?_
      refine r_iret dX2_refusal_26 rfl (by decide) (by decide) ?_
      refine ⟨congrArg (fun x => some (Value.int x)) ?_, rfl, rfl⟩
      rw [rfz, if_pos (by omega)]
      first | rw [if_pos (by assumption)] | rw [if_neg (by assumption)]
    · refine r_iconst (v := nI 0) dX2_refusal_20 rfl ?_
      refine r_goto (tgt := 26) dX2_refusal_21 (by decide) ?_
      refine r_iret dX2_refusal_26 rfl (by decide) (by decide) ?_
      refine ⟨congrArg (fun x => some (Value.int x)) ?_, rfl, rfl⟩
      rw [rfz, if_pos (by omega)]
      first | rw [if_pos (by assumption)] | rw [if_neg (by assumption)]
  · refine r_bipush (v := (-12)) dX2_refusal_8 rfl ?_
    refine r_iret dX2_refusal_10 rfl (by decide) (by decide) ?_
    refine ⟨congrArg (fun x => some (Value.int x)) ?_, rfl, rfl⟩
    rw [rfz, if_neg (by omega)]

set_option maxHeartbeats 4000000 in
set_option maxRecDepth 100000 in
theorem c2_put (l : Launch) {S : List zC} {M : zM} {r ri nr : Nat} (hs_r : S[r]? = some (.inr (2, [none, some (some ri)]))) (hs_ri : S[ri]? = some (.inl (1, nr))) (hnr : nr ≤ 24) (v : Int64) {ii L : Nat} (hii : ii < nr) (hL : L ≤ 3) (hlane : M.1 r 0 = nI L) : CT l false 1 0 0 yX2_put cX2_put 4 none [.ref r, .int (nI ii), .long v] S M (zG S (fun w M9 => w = none ∧ M9 = zL M ri (vp_updL (M.2.1 ri) ii (lowl L v)))) := by
  refine CT.ofN (by decide) (fun _ _ => Nat.le_of_ble_eq_true rfl) ?_
  refine r_aload_n dX2_put_0 rfl rfl ?_
  refine r_getR fl_X2_15 dX2_put_1 hs_r rfl ?_
  refine r_iload_n dX2_put_4 rfl rfl ?_
  refine r_aload_n dX2_put_5 rfl rfl ?_
  refine r_lload_n dX2_put_6 rfl rfl ?_
  refine r_cV1F mv_X2_lowestBits ml_X2_23 (c2_lowestBits l hs_r hs_ri hnr v hL hlane) dX2_put_7 (Nat.le_of_ble_eq_true rfl) ⟨by decide, by decide⟩ ⟨by decide, by decide⟩ hs_r rfl (fun _ h => nomatch h) ?_
  try dsimp only [zrst, List.cons_append, List.nil_append]
  refine r_lastN dX2_put_10 hs_ri hii (by omega) ?_
  refine r_vret dX2_put_11 rfl (by decide) (by decide) ?_
  exact ⟨rfl, rfl, rfl⟩

set_option maxHeartbeats 4000000 in
set_option maxRecDepth 100000 in
theorem c5_why (l : Launch) {rw : List zC} {M : zM} {t : Nat → Nat → Nat} (hR : RI t M) {j La L : Nat} (hj : j < 4) (hLa : La ≤ 3) (hL : L ≤ 3) (hl : M.1 41 j = nI L) (hsz : t 42 j ≤ 24) (i k : Int32) : CT l false 0 0 0 yX5_why cX5_why 5 (some .int) [.ref 34, .int (nI j), .int (nI La), .int i, .int k] (zSh ++ rw) M (zF (some (.int (rfz La L i k (t 42 j)))) (zSh ++ rw) M) := by
  refine CT.ofN (by decide) (fun _ _ => Nat.le_of_ble_eq_true rfl) ?_
  refine r_aload_n dX5_why_0 rfl rfl ?_
  refine r_getR fl_X5_28 dX5_why_1 sh_34 rfl ?_
  refine r_iload_n dX5_why_4 rfl rfl ?_
  refine r_ialdN dX5_why_5 sh_41 (by omega) (by decide) hl ?_
  refine r_if_geN (tgt := 12) dX5_why_6 (by decide) (by omega) ?_
  refine r_aload_n dX5_why_12 rfl rfl ?_
  refine r_getR fl_X5_28 dX5_why_13 sh_34 rfl ?_
  refine r_iload_n dX5_why_16 rfl rfl ?_
  refine r_ialdN dX5_why_17 sh_41 (by omega) (by decide) hl ?_
  refine r_iload_n dX5_why_18 rfl rfl ?_
  first | refine r_icmp_eqN (tgt := 25) dX5_why_19 (by decide) (by omega) (by omega) (fun c2 => ?_) (fun c2 => ?_) | refine r_icmp_eq (tgt := 25) dX5_why_19 (by decide) (fun c2 => ?_) (fun c2 => ?_)
  · refine r_iload_n dX5_why_25 rfl rfl ?_
    refine r_if_lt (tgt := 51) dX5_why_26 (by decide) (fun c3 => ?_) (fun c3 => ?_)
    · have n1 := neg_int c3
      refine r_bipush (v := (-13)) dX5_why_51 rfl ?_
      refine r_goto (tgt := 57) dX5_why_53 (by decide) ?_
      refine r_iret dX5_why_57 rfl (by decide) (by decide) ?_
      refine ⟨congrArg (fun x => some (Value.int x)) ?_, rfl, rfl⟩
      rw [rfz, if_pos (by omega)]
      first | rw [if_pos (by omega)] | rw [if_neg (by omega)]
    · obtain ⟨ii, hi1, rfl, hi2⟩ := arg_pos c3
      refine r_iload dX5_why_29 rfl ?_
      refine r_if_lt (tgt := 51) dX5_why_31 (by decide) (fun c4 => ?_) (fun c4 => ?_)
      · have n2 := neg_int c4
        refine r_bipush (v := (-13)) dX5_why_51 rfl ?_
        refine r_goto (tgt := 57) dX5_why_53 (by decide) ?_
        refine r_iret dX5_why_57 rfl (by decide) (by decide) ?_
        refine ⟨congrArg (fun x => some (Value.int x)) ?_, rfl, rfl⟩
        rw [rfz, if_pos (by omega)]
        first | rw [if_pos (by omega)] | rw [if_neg (by omega)]
      · obtain ⟨kk, hk1, rfl, hk2⟩ := arg_pos c4
        refine r_iload_n dX5_why_34 rfl rfl ?_
        refine r_i2l dX5_why_35 rfl ?_
        refine r_top (v' := .long (lN (ii))) (congrArg Value.long (nI_l (by omega))) ?_
        refine r_iload dX5_why_36 rfl ?_
        refine r_i2l dX5_why_38 rfl ?_
        refine r_top (v' := .long (lN (kk))) (congrArg Value.long (nI_l (by omega))) ?_
        refine r_ladd dX5_why_39 ?_
        rw [lN_add]
        refine r_aload_n dX5_why_40 rfl rfl ?_
        refine r_getR fl_X5_31 dX5_why_41 sh_34 rfl ?_
        refine r_iload_n dX5_why_44 rfl rfl ?_
        refine r_ialdN dX5_why_45 sh_42 (by omega) (by decide) (hR.a42 _) ?_
        refine r_i2l dX5_why_46 rfl ?_
        refine r_top (v' := .long (lN (t 42 j))) (congrArg Value.long (nI_l (by omega))) ?_
        refine r_lcmp dX5_why_47 ?_
        refine r_if_le (tgt := 56) dX5_why_48 (by decide) (fun c5 => ?_) (fun c5 => ?_)
        · have c9 : lN _ ≤ lN _ := (lg_cmp_le _ _).mp c5
          rw [pk_lLE (by omega) (by omega)] at c9
          refine r_iconst (v := nI 0) dX5_why_56 rfl ?_
          refine r_iret dX5_why_57 rfl (by decide) (by decide) ?_
          refine ⟨congrArg (fun x => some (Value.int x)) ?_, rfl, rfl⟩
          rw [rfz, if_pos (by omega)]
          first | rw [if_pos (by omega)] | rw [if_neg (by omega)]
        · have c9 : ¬ lN _ ≤ lN _ := fun q => c5 ((lg_cmp_le _ _).mpr q)
          rw [pk_lLE (by omega) (by omega)] at c9
          refine r_bipush (v := (-13)) dX5_why_51 rfl ?_
          refine r_goto (tgt := 57) dX5_why_53 (by decide) ?_
          refine r_iret dX5_why_57 rfl (by decide) (by decide) ?_
          refine ⟨congrArg (fun x => some (Value.int x)) ?_, rfl, rfl⟩
          rw [rfz, if_pos (by omega)]
          first | rw [if_pos (by omega)] | rw [if_neg (by omega)]
  · refine r_bipush (v := (-12)) dX5_why_22 rfl ?_
    refine r_iret dX5_why_24 rfl (by decide) (by decide) ?_
    refine ⟨congrArg (fun x => some (Value.int x)) ?_, rfl, rfl⟩
    rw [rfz, if_neg (by omega)]

set_option maxHeartbeats 4000000 in
set_option maxRecDepth 100000 in
theorem c5_whyN (l : Launch) {rw : List zC} {M : zM} {t : Nat → Nat → Nat} (hR : RI t M) {j : Nat} (hj : j < 4) (hl : M.1 41 j = -1) (lz i k : Int32) : CT l false 0 0 0 yX5_why cX5_why 5 (some .int) [.ref 34, .int (nI j), .int lz, .int i, .int k] (zSh ++ rw) M (zF (some (.int ((-11)))) (zSh ++ rw) M) := by
  refine CT.ofN (by decide) (fun _ _ => Nat.le_of_ble_eq_true rfl) ?_
  refine r_aload_n dX5_why_0 rfl rfl ?_
  refine r_getR fl_X5_28 dX5_why_1 sh_34 rfl ?_
  refine r_iload_n dX5_why_4 rfl rfl ?_
  refine r_ialdN dX5_why_5 sh_41 (by omega) (by decide) hl ?_
  refine r_if_ge (tgt := 12) dX5_why_6 (by decide) (fun c1 => ?_) (fun c1 => ?_)
  · exact absurd c1 (by decide)
  · refine r_bipush (v := (-11)) dX5_why_9 rfl ?_
    refine r_iret dX5_why_11 rfl (by decide) (by decide) ?_
    exact ⟨rfl, rfl, rfl⟩

