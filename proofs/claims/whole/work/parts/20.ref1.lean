set_option maxHeartbeats 4000000 in
set_option maxRecDepth 100000 in
theorem c5_in (l : Launch) {S : List zC} {M : zM} (v lo hi : Int64) : CT l false 0 0 0 yX5_in cX5_in 6 (some .boolean) [.long v, .long lo, .long hi] S M (zF (some (.int (zb (lo.toInt ≤ v.toInt ∧ v.toInt ≤ hi.toInt)))) S M) := by
  refine CT.ofN (by decide) (fun _ _ => Nat.le_of_ble_eq_true rfl) ?_
  refine r_lload_n dX5_in_0 rfl rfl ?_
  refine r_lload_n dX5_in_1 rfl rfl ?_
  refine r_lcmp dX5_in_2 ?_
  refine r_if_lt (tgt := 17) dX5_in_3 (by decide) (fun c1 => ?_) (fun c1 => ?_)
  · refine r_iconst (v := nI 0) dX5_in_17 rfl ?_
    refine r_zret dX5_in_18 rfl (by first | exact Or.inl rfl | exact Or.inr rfl | exact zb01) (by decide) (by decide) ?_
    refine ⟨?_, rfl, rfl⟩
    simp only [lg_cmp_lt, lg_cmp_gt, i64_lt] at *
    unfold zb
    split <;> first | rfl | (exfalso; omega)
  · refine r_lload_n dX5_in_6 rfl rfl ?_
    refine r_lload dX5_in_7 rfl ?_
    refine r_lcmp dX5_in_9 ?_
    first | refine r_if_gtN (tgt := 17) dX5_in_10 (by decide) (by omega) (fun c2 => ?_) (fun c2 => ?_) | refine r_if_gt (tgt := 17) dX5_in_10 (by decide) (fun c2 => ?_) (fun c2 => ?_)
    · refine r_iconst (v := nI 0) dX5_in_17 rfl ?_
      refine r_zret dX5_in_18 rfl (by first | exact Or.inl rfl | exact Or.inr rfl | exact zb01) (by decide) (by decide) ?_
      refine ⟨?_, rfl, rfl⟩
      simp only [lg_cmp_lt, lg_cmp_gt, i64_lt] at *
      unfold zb
      split <;> first | rfl | (exfalso; omega)
    · refine r_iconst (v := nI 1) dX5_in_13 rfl ?_
      refine r_goto (tgt := 18) dX5_in_14 (by decide) ?_
      refine r_zret dX5_in_18 rfl (by first | exact Or.inl rfl | exact Or.inr rfl | exact zb01) (by decide) (by decide) ?_
      refine ⟨?_, rfl, rfl⟩
      simp only [lg_cmp_lt, lg_cmp_gt, i64_lt] at *
      unfold zb
      split <;> first | rfl | (exfalso; omega)

theorem i64_of32 (x : Int32) : x.toInt64.toInt = x.toInt := Int32.toInt_toInt64 x
theorem sub1_toInt {k : Nat} (h : k < 2 ^ 30) : (nI k - nI 1).toInt = (k : Int) - 1 := pk_sub_toInt h (by decide)
set_option maxHeartbeats 4000000 in
set_option maxRecDepth 100000 in
theorem c5_isPerson (l : Launch) {rw : List zC} {M : zM} {t : Nat → Nat → Nat} (hR : RI t M) (hb : t 35 0 < 1000) (x : Int32) : CT l false 1 0 0 yX5_isPerson cX5_isPerson 2 (some .boolean) [.ref 34, .int x] (zSh ++ rw) M (zF (some (.int (zb (0 ≤ x.toInt ∧ x.toInt < (t 35 0 : Int))))) (zSh ++ rw) M) := by
  refine CT.ofN (by decide) (fun _ _ => Nat.le_of_ble_eq_true rfl) ?_
  refine r_iload_n dX5_isPerson_0 rfl rfl ?_
  refine r_i2l dX5_isPerson_1 rfl ?_
  refine r_lconst (v := 0) dX5_isPerson_2 rfl ?_
  refine r_aload_n dX5_isPerson_3 rfl rfl ?_
  refine r_getR fl_X5_7 dX5_isPerson_4 sh_34 rfl ?_
  refine r_iconst (v := nI 0) dX5_isPerson_7 rfl ?_
  refine r_ialdN dX5_isPerson_8 sh_35 (by omega) (by decide) (hR.a35 _) ?_
  refine r_iconst (v := nI 1) dX5_isPerson_9 rfl ?_
  first | refine r_isubN dX5_isPerson_10 (by omega) ?_ | refine r_isub dX5_isPerson_10 ?_
  refine r_i2l dX5_isPerson_11 rfl ?_
  refine r_cS3F ms_X5_in ml_X5_41 (c5_in l _ _ _) dX5_isPerson_12 (Nat.le_of_ble_eq_true rfl) ⟨by decide, by decide⟩ ⟨by decide, by decide⟩ (fun _ h => nomatch h) ?_
  try dsimp only [zrst, List.cons_append, List.nil_append]
  refine r_zret dX5_isPerson_15 rfl (by first | exact Or.inl rfl | exact Or.inr rfl | exact zb01) (by decide) (by decide) ?_
  refine ⟨congrArg (fun x => some (Value.int x)) (zb_congr ?_), rfl, rfl⟩
  simp only [i64_of32, sub1_toInt (show t 35 0 < 2 ^ 30 by omega)]
  show (0 : Int) ≤ _ ∧ _ ↔ _
  omega

set_option maxHeartbeats 4000000 in
set_option maxRecDepth 100000 in
theorem c5_isSuit (l : Launch) {rw : List zC} {M : zM} {t : Nat → Nat → Nat} (hR : RI t M) (hb : t 35 1 < 1000) (x : Int32) : CT l false 1 0 0 yX5_isSuit cX5_isSuit 2 (some .boolean) [.ref 34, .int x] (zSh ++ rw) M (zF (some (.int (zb (0 ≤ x.toInt ∧ x.toInt < (t 35 1 : Int))))) (zSh ++ rw) M) := by
  refine CT.ofN (by decide) (fun _ _ => Nat.le_of_ble_eq_true rfl) ?_
  refine r_iload_n dX5_isSuit_0 rfl rfl ?_
  refine r_i2l dX5_isSuit_1 rfl ?_
  refine r_lconst (v := 0) dX5_isSuit_2 rfl ?_
  refine r_aload_n dX5_isSuit_3 rfl rfl ?_
  refine r_getR fl_X5_7 dX5_isSuit_4 sh_34 rfl ?_
  refine r_iconst (v := nI 1) dX5_isSuit_7 rfl ?_
  refine r_ialdN dX5_isSuit_8 sh_35 (by omega) (by decide) (hR.a35 _) ?_
  refine r_iconst (v := nI 1) dX5_isSuit_9 rfl ?_
  first | refine r_isubN dX5_isSuit_10 (by omega) ?_ | refine r_isub dX5_isSuit_10 ?_
  refine r_i2l dX5_isSuit_11 rfl ?_
  refine r_cS3F ms_X5_in ml_X5_41 (c5_in l _ _ _) dX5_isSuit_12 (Nat.le_of_ble_eq_true rfl) ⟨by decide, by decide⟩ ⟨by decide, by decide⟩ (fun _ h => nomatch h) ?_
  try dsimp only [zrst, List.cons_append, List.nil_append]
  refine r_zret dX5_isSuit_15 rfl (by first | exact Or.inl rfl | exact Or.inr rfl | exact zb01) (by decide) (by decide) ?_
  refine ⟨congrArg (fun x => some (Value.int x)) (zb_congr ?_), rfl, rfl⟩
  simp only [i64_of32, sub1_toInt (show t 35 1 < 2 ^ 30 by omega)]
  show (0 : Int) ≤ _ ∧ _ ↔ _
  omega

set_option maxHeartbeats 4000000 in
set_option maxRecDepth 100000 in
theorem c5_isDeed (l : Launch) {rw : List zC} {M : zM} {t : Nat → Nat → Nat} (hR : RI t M) (hb : t 35 2 < 1000) (x : Int32) : CT l false 1 0 0 yX5_isDeed cX5_isDeed 2 (some .boolean) [.ref 34, .int x] (zSh ++ rw) M (zF (some (.int (zb (0 ≤ x.toInt ∧ x.toInt < (t 35 2 : Int))))) (zSh ++ rw) M) := by
  refine CT.ofN (by decide) (fun _ _ => Nat.le_of_ble_eq_true rfl) ?_
  refine r_iload_n dX5_isDeed_0 rfl rfl ?_
  refine r_i2l dX5_isDeed_1 rfl ?_
  refine r_lconst (v := 0) dX5_isDeed_2 rfl ?_
  refine r_aload_n dX5_isDeed_3 rfl rfl ?_
  refine r_getR fl_X5_7 dX5_isDeed_4 sh_34 rfl ?_
  refine r_iconst (v := nI 2) dX5_isDeed_7 rfl ?_
  refine r_ialdN dX5_isDeed_8 sh_35 (by omega) (by decide) (hR.a35 _) ?_
  refine r_iconst (v := nI 1) dX5_isDeed_9 rfl ?_
  first | refine r_isubN dX5_isDeed_10 (by omega) ?_ | refine r_isub dX5_isDeed_10 ?_
  refine r_i2l dX5_isDeed_11 rfl ?_
  refine r_cS3F ms_X5_in ml_X5_41 (c5_in l _ _ _) dX5_isDeed_12 (Nat.le_of_ble_eq_true rfl) ⟨by decide, by decide⟩ ⟨by decide, by decide⟩ (fun _ h => nomatch h) ?_
  try dsimp only [zrst, List.cons_append, List.nil_append]
  refine r_zret dX5_isDeed_15 rfl (by first | exact Or.inl rfl | exact Or.inr rfl | exact zb01) (by decide) (by decide) ?_
  refine ⟨congrArg (fun x => some (Value.int x)) (zb_congr ?_), rfl, rfl⟩
  simp only [i64_of32, sub1_toInt (show t 35 2 < 2 ^ 30 by omega)]
  show (0 : Int) ≤ _ ∧ _ ↔ _
  omega

set_option maxHeartbeats 4000000 in
set_option maxRecDepth 100000 in
theorem c5_kind (l : Launch) {rw : List zC} {M : zM} {t : Nat → Nat → Nat} (hR : RI t M) {p : Nat} (hp : p < 5) : CT l false 0 0 0 yX5_kind cX5_kind 2 (some .int) [.ref 34, .int (nI p)] (zSh ++ rw) M (zF (some (.int (nI (t 35 (8 + 5 * p))))) (zSh ++ rw) M) := by
  refine CT.ofN (by decide) (fun _ _ => Nat.le_of_ble_eq_true rfl) ?_
  refine r_aload_n dX5_kind_0 rfl rfl ?_
  refine r_getR fl_X5_7 dX5_kind_1 sh_34 rfl ?_
  refine r_bipush (v := nI 8) dX5_kind_4 rfl ?_
  refine r_iconst (v := nI 5) dX5_kind_6 rfl ?_
  refine r_iload_n dX5_kind_7 rfl rfl ?_
  first | refine r_imulN dX5_kind_8 ?_ | refine r_imul dX5_kind_8 ?_
  first | refine r_iaddN dX5_kind_9 ?_ | refine r_iadd dX5_kind_9 ?_
  refine r_ialdN dX5_kind_10 sh_35 (by omega) (by decide) (hR.a35 _) ?_
  refine r_iret dX5_kind_11 rfl (by decide) (by decide) ?_
  exact ⟨rfl, rfl, rfl⟩

set_option maxHeartbeats 4000000 in
set_option maxRecDepth 100000 in
theorem c5_ownOf (l : Launch) {rw : List zC} {M : zM} {t : Nat → Nat → Nat} (hR : RI t M) {p m : Nat} (hp : p < 5) (hm : m < 4) : CT l false 0 0 0 yX5_ownOf cX5_ownOf 3 (some .int) [.ref 34, .int (nI p), .int (nI m)] (zSh ++ rw) M (zF (some (.int (nI (t 35 (8 + 5 * p + 1 + m))))) (zSh ++ rw) M) := by
  refine CT.ofN (by decide) (fun _ _ => Nat.le_of_ble_eq_true rfl) ?_
  refine r_aload_n dX5_ownOf_0 rfl rfl ?_
  refine r_getR fl_X5_7 dX5_ownOf_1 sh_34 rfl ?_
  refine r_bipush (v := nI 8) dX5_ownOf_4 rfl ?_
  refine r_iconst (v := nI 5) dX5_ownOf_6 rfl ?_
  refine r_iload_n dX5_ownOf_7 rfl rfl ?_
  first | refine r_imulN dX5_ownOf_8 ?_ | refine r_imul dX5_ownOf_8 ?_
  first | refine r_iaddN dX5_ownOf_9 ?_ | refine r_iadd dX5_ownOf_9 ?_
  refine r_iconst (v := nI 1) dX5_ownOf_10 rfl ?_
  first | refine r_iaddN dX5_ownOf_11 ?_ | refine r_iadd dX5_ownOf_11 ?_
  refine r_iload_n dX5_ownOf_12 rfl rfl ?_
  first | refine r_iaddN dX5_ownOf_13 ?_ | refine r_iadd dX5_ownOf_13 ?_
  refine r_ialdN dX5_ownOf_14 sh_35 (by omega) (by decide) (hR.a35 _) ?_
  refine r_iret dX5_ownOf_15 rfl (by decide) (by decide) ?_
  exact ⟨rfl, rfl, rfl⟩

set_option maxHeartbeats 4000000 in
set_option maxRecDepth 100000 in
theorem c5_cutOf (l : Launch) {rw : List zC} {M : zM} {t : Nat → Nat → Nat} (hR : RI t M) {p m : Nat} (hp : p < 4) (hm : m < 4) : CT l false 0 0 0 yX5_cutOf cX5_cutOf 3 (some .int) [.ref 34, .int (nI p), .int (nI m)] (zSh ++ rw) M (zF (some (.int (nI (t 35 (33 + 4 * p + m))))) (zSh ++ rw) M) := by
  refine CT.ofN (by decide) (fun _ _ => Nat.le_of_ble_eq_true rfl) ?_
  refine r_aload_n dX5_cutOf_0 rfl rfl ?_
  refine r_getR fl_X5_7 dX5_cutOf_1 sh_34 rfl ?_
  refine r_bipush (v := nI 33) dX5_cutOf_4 rfl ?_
  refine r_iconst (v := nI 4) dX5_cutOf_6 rfl ?_
  refine r_iload_n dX5_cutOf_7 rfl rfl ?_
  first | refine r_imulN dX5_cutOf_8 ?_ | refine r_imul dX5_cutOf_8 ?_
  first | refine r_iaddN dX5_cutOf_9 ?_ | refine r_iadd dX5_cutOf_9 ?_
  refine r_iload_n dX5_cutOf_10 rfl rfl ?_
  first | refine r_iaddN dX5_cutOf_11 ?_ | refine r_iadd dX5_cutOf_11 ?_
  refine r_ialdN dX5_cutOf_12 sh_35 (by omega) (by decide) (hR.a35 _) ?_
  refine r_iret dX5_cutOf_13 rfl (by decide) (by decide) ?_
  exact ⟨rfl, rfl, rfl⟩

set_option maxHeartbeats 4000000 in
set_option maxRecDepth 100000 in
theorem c5_told (l : Launch) {rw : List zC} {M : zM} {t : Nat → Nat → Nat} (hR : RI t M) {p m : Nat} (hp : p < 10) (hm : m < 4) : CT l false 0 0 0 yX5_told cX5_told 3 (some .int) [.ref 34, .int (nI p), .int (nI m)] (zSh ++ rw) M (zF (some (.int (nI (t 35 (49 + 4 * p + m))))) (zSh ++ rw) M) := by
  refine CT.ofN (by decide) (fun _ _ => Nat.le_of_ble_eq_true rfl) ?_
  refine r_aload_n dX5_told_0 rfl rfl ?_
  refine r_getR fl_X5_7 dX5_told_1 sh_34 rfl ?_
  refine r_bipush (v := nI 49) dX5_told_4 rfl ?_
  refine r_iconst (v := nI 4) dX5_told_6 rfl ?_
  refine r_iload_n dX5_told_7 rfl rfl ?_
  first | refine r_imulN dX5_told_8 ?_ | refine r_imul dX5_told_8 ?_
  first | refine r_iaddN dX5_told_9 ?_ | refine r_iadd dX5_told_9 ?_
  refine r_iload_n dX5_told_10 rfl rfl ?_
  first | refine r_iaddN dX5_told_11 ?_ | refine r_iadd dX5_told_11 ?_
  refine r_ialdN dX5_told_12 sh_35 (by omega) (by decide) (hR.a35 _) ?_
  refine r_iret dX5_told_13 rfl (by decide) (by decide) ?_
  exact ⟨rfl, rfl, rfl⟩

