set_option maxHeartbeats 4000000 in
set_option maxRecDepth 100000 in
theorem c2_holds (l : Launch) {S : List zC} {M : zM} {r ri nr : Nat} (hs_r : S[r]? = some (.inr (2, [none, some (some ri)]))) (hs_ri : S[ri]? = some (.inl (1, nr))) (hnr : nr ≤ 24) (i k : Int32) : CT l false 0 0 0 yX2_holds cX2_holds 3 (some .boolean) [.ref r, .int i, .int k] S M (zF (some (.int (zb (0 ≤ i.toInt ∧ 0 ≤ k.toInt ∧ i.toInt + k.toInt ≤ (nr : Int))))) S M) := by
  refine CT.ofN (by decide) (fun _ _ => Nat.le_of_ble_eq_true rfl) ?_
  refine r_iload_n dX2_holds_0 rfl rfl ?_
  refine r_if_lt (tgt := 32) dX2_holds_1 (by decide) (fun c1 => ?_) (fun c1 => ?_)
  · have n1 := neg_int c1
    refine r_iconst (v := nI 0) dX2_holds_32 rfl ?_
    refine r_zret dX2_holds_33 rfl (by first | exact Or.inl rfl | exact Or.inr rfl | exact zb01) (by decide) (by decide) ?_
    refine ⟨congrArg (fun x => some (Value.int x)) ?_, rfl, rfl⟩
    unfold zb
    split <;> first | rfl | (exfalso; omega)
  · obtain ⟨ii, hi1, rfl, hi2⟩ := arg_pos c1
    refine r_iload_n dX2_holds_4 rfl rfl ?_
    refine r_if_lt (tgt := 32) dX2_holds_5 (by decide) (fun c2 => ?_) (fun c2 => ?_)
    · have n2 := neg_int c2
      refine r_iconst (v := nI 0) dX2_holds_32 rfl ?_
      refine r_zret dX2_holds_33 rfl (by first | exact Or.inl rfl | exact Or.inr rfl | exact zb01) (by decide) (by decide) ?_
      refine ⟨congrArg (fun x => some (Value.int x)) ?_, rfl, rfl⟩
      unfold zb
      split <;> first | rfl | (exfalso; omega)
    · obtain ⟨kk, hk1, rfl, hk2⟩ := arg_pos c2
      refine r_iload_n dX2_holds_8 rfl rfl ?_
      refine r_aload_n dX2_holds_9 rfl rfl ?_
      refine r_getR fl_X2_15 dX2_holds_10 hs_r rfl ?_
      refine r_alen (v := nI nr) dX2_holds_13 hs_ri rfl ?_
      first | refine r_icmp_gtN (tgt := 32) dX2_holds_14 (by decide) (by omega) (by omega) (fun c3 => ?_) (fun c3 => ?_) | refine r_icmp_gt (tgt := 32) dX2_holds_14 (by decide) (fun c3 => ?_) (fun c3 => ?_)
      · refine r_iconst (v := nI 0) dX2_holds_32 rfl ?_
        refine r_zret dX2_holds_33 rfl (by first | exact Or.inl rfl | exact Or.inr rfl | exact zb01) (by decide) (by decide) ?_
        refine ⟨congrArg (fun x => some (Value.int x)) ?_, rfl, rfl⟩
        unfold zb
        split <;> first | rfl | (exfalso; omega)
      · refine r_iload_n dX2_holds_17 rfl rfl ?_
        refine r_aload_n dX2_holds_18 rfl rfl ?_
        refine r_getR fl_X2_15 dX2_holds_19 hs_r rfl ?_
        refine r_alen (v := nI nr) dX2_holds_22 hs_ri rfl ?_
        refine r_iload_n dX2_holds_23 rfl rfl ?_
        first | refine r_isubN dX2_holds_24 (by omega) ?_ | refine r_isub dX2_holds_24 ?_
        first | refine r_icmp_gtN (tgt := 32) dX2_holds_25 (by decide) (by omega) (by omega) (fun c4 => ?_) (fun c4 => ?_) | refine r_icmp_gt (tgt := 32) dX2_holds_25 (by decide) (fun c4 => ?_) (fun c4 => ?_)
        · refine r_iconst (v := nI 0) dX2_holds_32 rfl ?_
          refine r_zret dX2_holds_33 rfl (by first | exact Or.inl rfl | exact Or.inr rfl | exact zb01) (by decide) (by decide) ?_
          refine ⟨congrArg (fun x => some (Value.int x)) ?_, rfl, rfl⟩
          unfold zb
          split <;> first | rfl | (exfalso; omega)
        · refine r_iconst (v := nI 1) dX2_holds_28 rfl ?_
          refine r_goto (tgt := 33) dX2_holds_29 (by decide) ?_
          refine r_zret dX2_holds_33 rfl (by first | exact Or.inl rfl | exact Or.inr rfl | exact zb01) (by decide) (by decide) ?_
          refine ⟨congrArg (fun x => some (Value.int x)) ?_, rfl, rfl⟩
          unfold zb
          split <;> first | rfl | (exfalso; omega)

set_option maxHeartbeats 4000000 in
set_option maxRecDepth 100000 in
theorem c2_lowestBits (l : Launch) {S : List zC} {M : zM} {r ri nr : Nat} (hs_r : S[r]? = some (.inr (2, [none, some (some ri)]))) (hs_ri : S[ri]? = some (.inl (1, nr))) (hnr : nr ≤ 24) (v : Int64) {L : Nat} (hL : L ≤ 3) (hlane : M.1 r 0 = nI L) : CT l false 0 0 0 yX2_lowestBits cX2_lowestBits 3 (some .long) [.ref r, .long v] S M (zF (some (.long (lowl L v))) S M) := by
  refine CT.ofN (by decide) (fun _ _ => Nat.le_of_ble_eq_true rfl) ?_
  refine r_aload_n dX2_lowestBits_0 rfl rfl ?_
  refine r_getV fl_X2_9 dX2_lowestBits_1 hs_r rfl hlane ?_
  rcases (show L = 0 ∨ L = 1 ∨ L = 2 ∨ L = 3 by omega) with rfl | rfl | rfl | rfl
  · refine r_tabIn (off := 28) (tgt := 32) dX2_lowestBits_4 (by decide) (by decide) (by decide) (by decide) ?_
    refine r_lload_n dX2_lowestBits_32 rfl rfl ?_
    refine r_l2i dX2_lowestBits_33 rfl ?_
    refine r_i2b dX2_lowestBits_34 rfl ?_
    refine r_i2l dX2_lowestBits_35 rfl ?_
    refine r_lret dX2_lowestBits_36 rfl (by decide) (by decide) ?_
    exact ⟨rfl, rfl, rfl⟩
  · refine r_tabIn (off := 33) (tgt := 37) dX2_lowestBits_4 (by decide) (by decide) (by decide) (by decide) ?_
    refine r_lload_n dX2_lowestBits_37 rfl rfl ?_
    refine r_l2i dX2_lowestBits_38 rfl ?_
    refine r_i2s dX2_lowestBits_39 rfl ?_
    refine r_i2l dX2_lowestBits_40 rfl ?_
    refine r_lret dX2_lowestBits_41 rfl (by decide) (by decide) ?_
    exact ⟨rfl, rfl, rfl⟩
  · refine r_tabIn (off := 38) (tgt := 42) dX2_lowestBits_4 (by decide) (by decide) (by decide) (by decide) ?_
    refine r_lload_n dX2_lowestBits_42 rfl rfl ?_
    refine r_l2i dX2_lowestBits_43 rfl ?_
    refine r_i2l dX2_lowestBits_44 rfl ?_
    refine r_lret dX2_lowestBits_45 rfl (by decide) (by decide) ?_
    exact ⟨rfl, rfl, rfl⟩
  · refine r_tabOut (tgt := 46) dX2_lowestBits_4 (by decide) (by decide) ?_
    refine r_lload_n dX2_lowestBits_46 rfl rfl ?_
    refine r_lret dX2_lowestBits_47 rfl (by decide) (by decide) ?_
    exact ⟨rfl, rfl, rfl⟩

set_option maxHeartbeats 4000000 in
set_option maxRecDepth 100000 in
theorem c5_lowest (l : Launch) {S : List zC} {M : zM} (v : Int64) {L : Nat} (hL : L ≤ 3) : CT l false 0 0 0 yX5_lowest cX5_lowest 3 (some .long) [.int (nI L), .long v] S M (zF (some (.long (lowl L v))) S M) := by
  refine CT.ofN (by decide) (fun _ _ => Nat.le_of_ble_eq_true rfl) ?_
  refine r_iload_n dX5_lowest_0 rfl rfl ?_
  first | refine r_if_neB (tgt := 11) dX5_lowest_1 (by decide) (fun c1 => ?_) (fun c1 => ?_) | refine r_if_neN (tgt := 11) dX5_lowest_1 (by decide) (by omega) (fun c1 => ?_) (fun c1 => ?_) | refine r_if_ne (tgt := 11) dX5_lowest_1 (by decide) (fun c1 => ?_) (fun c1 => ?_)
  · refine r_iload_n dX5_lowest_11 rfl rfl ?_
    refine r_iconst (v := nI 1) dX5_lowest_12 rfl ?_
    first | refine r_icmp_neN (tgt := 23) dX5_lowest_13 (by decide) (by omega) (by omega) (fun c2 => ?_) (fun c2 => ?_) | refine r_icmp_ne (tgt := 23) dX5_lowest_13 (by decide) (fun c2 => ?_) (fun c2 => ?_)
    · refine r_iload_n dX5_lowest_23 rfl rfl ?_
      refine r_iconst (v := nI 2) dX5_lowest_24 rfl ?_
      first | refine r_icmp_neN (tgt := 34) dX5_lowest_25 (by decide) (by omega) (by omega) (fun c3 => ?_) (fun c3 => ?_) | refine r_icmp_ne (tgt := 34) dX5_lowest_25 (by decide) (fun c3 => ?_) (fun c3 => ?_)
      · refine r_lload_n dX5_lowest_34 rfl rfl ?_
        refine r_lret dX5_lowest_35 rfl (by decide) (by decide) ?_
        refine ⟨congrArg (fun x => some (Value.long x)) ?_, rfl, rfl⟩
        unfold lowl
        simp [*]
      · refine r_lload_n dX5_lowest_28 rfl rfl ?_
        refine r_l2i dX5_lowest_29 rfl ?_
        refine r_i2l dX5_lowest_30 rfl ?_
        refine r_goto (tgt := 35) dX5_lowest_31 (by decide) ?_
        refine r_lret dX5_lowest_35 rfl (by decide) (by decide) ?_
        refine ⟨congrArg (fun x => some (Value.long x)) ?_, rfl, rfl⟩
        unfold lowl
        simp [*]
    · refine r_lload_n dX5_lowest_16 rfl rfl ?_
      refine r_l2i dX5_lowest_17 rfl ?_
      refine r_i2s dX5_lowest_18 rfl ?_
      refine r_i2l dX5_lowest_19 rfl ?_
      refine r_goto (tgt := 35) dX5_lowest_20 (by decide) ?_
      refine r_lret dX5_lowest_35 rfl (by decide) (by decide) ?_
      refine ⟨congrArg (fun x => some (Value.long x)) ?_, rfl, rfl⟩
      unfold lowl
      simp [*]
  · refine r_lload_n dX5_lowest_4 rfl rfl ?_
    refine r_l2i dX5_lowest_5 rfl ?_
    refine r_i2b dX5_lowest_6 rfl ?_
    refine r_i2l dX5_lowest_7 rfl ?_
    refine r_goto (tgt := 35) dX5_lowest_8 (by decide) ?_
    refine r_lret dX5_lowest_35 rfl (by decide) (by decide) ?_
    refine ⟨congrArg (fun x => some (Value.long x)) ?_, rfl, rfl⟩
    unfold lowl
    simp [*]

