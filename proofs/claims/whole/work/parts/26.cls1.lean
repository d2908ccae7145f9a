set_option maxHeartbeats 4000000 in
set_option maxRecDepth 100000 in
theorem c4_within (l : Launch) {S : List zC} {M : zM} (v lo hi : Int32) : CT l false 0 0 0 yX4_within cX4_within 3 (some .boolean) [.int v, .int lo, .int hi] S M (zF (some (.int (zb (lo.toInt ≤ v.toInt ∧ v.toInt ≤ hi.toInt)))) S M) := by
  refine CT.ofN (by decide) (fun _ _ => Nat.le_of_ble_eq_true rfl) ?_
  refine r_iload_n dX4_within_0 rfl rfl ?_
  refine r_iload_n dX4_within_1 rfl rfl ?_
  first | refine r_icmp_ltN (tgt := 14) dX4_within_2 (by decide) (by omega) (by omega) (fun c1 => ?_) (fun c1 => ?_) | refine r_icmp_lt (tgt := 14) dX4_within_2 (by decide) (fun c1 => ?_) (fun c1 => ?_)
  · refine r_iconst (v := nI 0) dX4_within_14 rfl ?_
    refine r_zret dX4_within_15 rfl (by first | exact Or.inl rfl | exact Or.inr rfl | exact zb01) (by decide) (by decide) ?_
    refine ⟨?_, rfl, rfl⟩
    simp only [i32_lt] at *
    unfold zb
    split <;> first | rfl | (exfalso; omega)
  · refine r_iload_n dX4_within_5 rfl rfl ?_
    refine r_iload_n dX4_within_6 rfl rfl ?_
    first | refine r_icmp_gtN (tgt := 14) dX4_within_7 (by decide) (by omega) (by omega) (fun c2 => ?_) (fun c2 => ?_) | refine r_icmp_gt (tgt := 14) dX4_within_7 (by decide) (fun c2 => ?_) (fun c2 => ?_)
    · refine r_iconst (v := nI 0) dX4_within_14 rfl ?_
      refine r_zret dX4_within_15 rfl (by first | exact Or.inl rfl | exact Or.inr rfl | exact zb01) (by decide) (by decide) ?_
      refine ⟨?_, rfl, rfl⟩
      simp only [i32_lt] at *
      unfold zb
      split <;> first | rfl | (exfalso; omega)
    · refine r_iconst (v := nI 1) dX4_within_10 rfl ?_
      refine r_goto (tgt := 15) dX4_within_11 (by decide) ?_
      refine r_zret dX4_within_15 rfl (by first | exact Or.inl rfl | exact Or.inr rfl | exact zb01) (by decide) (by decide) ?_
      refine ⟨?_, rfl, rfl⟩
      simp only [i32_lt] at *
      unfold zb
      split <;> first | rfl | (exfalso; omega)

set_option maxHeartbeats 4000000 in
set_option maxRecDepth 100000 in
theorem c4_isMeasure (l : Launch) {S : List zC} {M : zM} (x : Int32) : CT l false 1 0 0 yX4_isMeasure cX4_isMeasure 1 (some .boolean) [.int x] S M (zF (some (.int (zb (0 ≤ x.toInt ∧ x.toInt < 4)))) S M) := by
  refine CT.ofN (by decide) (fun _ _ => Nat.le_of_ble_eq_true rfl) ?_
  refine r_iload_n dX4_isMeasure_0 rfl rfl ?_
  refine r_iconst (v := nI 0) dX4_isMeasure_1 rfl ?_
  refine r_iconst (v := nI 3) dX4_isMeasure_2 rfl ?_
  refine r_cS3F ms_X4_within ml_X4_41 (c4_within l _ _ _) dX4_isMeasure_3 (Nat.le_of_ble_eq_true rfl) ⟨by decide, by decide⟩ ⟨by decide, by decide⟩ (fun _ h => nomatch h) ?_
  try dsimp only [zrst, List.cons_append, List.nil_append]
  refine r_zret dX4_isMeasure_6 rfl (by first | exact Or.inl rfl | exact Or.inr rfl | exact zb01) (by decide) (by decide) ?_
  refine ⟨congrArg (fun x => some (Value.int x)) (zb_congr ?_), rfl, rfl⟩
  show (0 : Int) ≤ _ ∧ _ ≤ (3 : Int) ↔ _
  omega

set_option maxHeartbeats 4000000 in
set_option maxRecDepth 100000 in
theorem c4_isSheet (l : Launch) {S : List zC} {M : zM} (x : Int32) : CT l false 1 0 0 yX4_isSheet cX4_isSheet 1 (some .boolean) [.int x] S M (zF (some (.int (zb (0 ≤ x.toInt ∧ x.toInt < 4)))) S M) := by
  refine CT.ofN (by decide) (fun _ _ => Nat.le_of_ble_eq_true rfl) ?_
  refine r_iload_n dX4_isSheet_0 rfl rfl ?_
  refine r_iconst (v := nI 0) dX4_isSheet_1 rfl ?_
  refine r_iconst (v := nI 3) dX4_isSheet_2 rfl ?_
  refine r_cS3F ms_X4_within ml_X4_41 (c4_within l _ _ _) dX4_isSheet_3 (Nat.le_of_ble_eq_true rfl) ⟨by decide, by decide⟩ ⟨by decide, by decide⟩ (fun _ h => nomatch h) ?_
  try dsimp only [zrst, List.cons_append, List.nil_append]
  refine r_zret dX4_isSheet_6 rfl (by first | exact Or.inl rfl | exact Or.inr rfl | exact zb01) (by decide) (by decide) ?_
  refine ⟨congrArg (fun x => some (Value.int x)) (zb_congr ?_), rfl, rfl⟩
  show (0 : Int) ≤ _ ∧ _ ≤ (3 : Int) ↔ _
  omega

set_option maxHeartbeats 4000000 in
set_option maxRecDepth 100000 in
theorem c4_isLane (l : Launch) {S : List zC} {M : zM} (x : Int32) : CT l false 1 0 0 yX4_isLane cX4_isLane 1 (some .boolean) [.int x] S M (zF (some (.int (zb (0 ≤ x.toInt ∧ x.toInt < 4)))) S M) := by
  refine CT.ofN (by decide) (fun _ _ => Nat.le_of_ble_eq_true rfl) ?_
  refine r_iload_n dX4_isLane_0 rfl rfl ?_
  refine r_iconst (v := nI 0) dX4_isLane_1 rfl ?_
  refine r_iconst (v := nI 3) dX4_isLane_2 rfl ?_
  refine r_cS3F ms_X4_within ml_X4_41 (c4_within l _ _ _) dX4_isLane_3 (Nat.le_of_ble_eq_true rfl) ⟨by decide, by decide⟩ ⟨by decide, by decide⟩ (fun _ h => nomatch h) ?_
  try dsimp only [zrst, List.cons_append, List.nil_append]
  refine r_zret dX4_isLane_6 rfl (by first | exact Or.inl rfl | exact Or.inr rfl | exact zb01) (by decide) (by decide) ?_
  refine ⟨congrArg (fun x => some (Value.int x)) (zb_congr ?_), rfl, rfl⟩
  show (0 : Int) ≤ _ ∧ _ ≤ (3 : Int) ↔ _
  omega

set_option maxHeartbeats 4000000 in
set_option maxRecDepth 100000 in
theorem c4_isEither (l : Launch) {S : List zC} {M : zM} (x : Int32) : CT l false 0 0 0 yX4_isEither cX4_isEither 1 (some .boolean) [.int x] S M (zF (some (.int (zb (0 ≤ x.toInt ∧ x.toInt < 2)))) S M) := by
  refine CT.ofN (by decide) (fun _ _ => Nat.le_of_ble_eq_true rfl) ?_
  refine r_iload_n dX4_isEither_0 rfl rfl ?_
  first | refine r_if_eqB (tgt := 9) dX4_isEither_1 (by decide) (fun c1 => ?_) (fun c1 => ?_) | refine r_if_eqN (tgt := 9) dX4_isEither_1 (by decide) (by omega) (fun c1 => ?_) (fun c1 => ?_) | refine r_if_eq (tgt := 9) dX4_isEither_1 (by decide) (fun c1 => ?_) (fun c1 => ?_)
  · refine r_iconst (v := nI 1) dX4_isEither_9 rfl ?_
    refine r_goto (tgt := 14) dX4_isEither_10 (by decide) ?_
    refine r_zret dX4_isEither_14 rfl (by first | exact Or.inl rfl | exact Or.inr rfl | exact zb01) (by decide) (by decide) ?_
    refine ⟨?_, rfl, rfl⟩
    simp only [i32_eq] at *
    have e0 : (0 : Int32).toInt = 0 := rfl
    have e1 : (nI 1).toInt = 1 := rfl
    unfold zb
    split <;> first | rfl | (exfalso; omega)
  · refine r_iload_n dX4_isEither_4 rfl rfl ?_
    refine r_iconst (v := nI 1) dX4_isEither_5 rfl ?_
    first | refine r_icmp_neN (tgt := 13) dX4_isEither_6 (by decide) (by omega) (by omega) (fun c2 => ?_) (fun c2 => ?_) | refine r_icmp_ne (tgt := 13) dX4_isEither_6 (by decide) (fun c2 => ?_) (fun c2 => ?_)
    · refine r_iconst (v := nI 0) dX4_isEither_13 rfl ?_
      refine r_zret dX4_isEither_14 rfl (by first | exact Or.inl rfl | exact Or.inr rfl | exact zb01) (by decide) (by decide) ?_
      refine ⟨?_, rfl, rfl⟩
      simp only [i32_eq] at *
      have e0 : (0 : Int32).toInt = 0 := rfl
      have e1 : (nI 1).toInt = 1 := rfl
      unfold zb
      split <;> first | rfl | (exfalso; omega)
    · refine r_iconst (v := nI 1) dX4_isEither_9 rfl ?_
      refine r_goto (tgt := 14) dX4_isEither_10 (by decide) ?_
      refine r_zret dX4_isEither_14 rfl (by first | exact Or.inl rfl | exact Or.inr rfl | exact zb01) (by decide) (by decide) ?_
      refine ⟨?_, rfl, rfl⟩
      simp only [i32_eq] at *
      have e0 : (0 : Int32).toInt = 0 := rfl
      have e1 : (nI 1).toInt = 1 := rfl
      unfold zb
      split <;> first | rfl | (exfalso; omega)

set_option maxHeartbeats 4000000 in
set_option maxRecDepth 100000 in
theorem c3_hasPerson (l : Launch) {rw : List zC} {M : zM} {n u : Nat → Nat} {kn : Nat} (hS : SI 1 n u kn M) (hb : n 0 < 1000) (x : Int32) : CT l false 1 0 0 yX3_hasPerson cX3_hasPerson 2 (some .boolean) [.ref 1, .int x] (zSh ++ rw) M (zF (some (.int (zb (0 ≤ x.toInt ∧ x.toInt < (n 0 : Int))))) (zSh ++ rw) M) := by
  refine CT.ofN (by decide) (fun _ _ => Nat.le_of_ble_eq_true rfl) ?_
  refine r_iload_n dX3_hasPerson_0 rfl rfl ?_
  refine r_iconst (v := nI 0) dX3_hasPerson_1 rfl ?_
  refine r_aload_n dX3_hasPerson_2 rfl rfl ?_
  refine r_getV fl_X3_46 dX3_hasPerson_3 sh_1 rfl hS.f0 ?_
  refine r_iconst (v := nI 1) dX3_hasPerson_6 rfl ?_
  first | refine r_isubN dX3_hasPerson_7 (by omega) ?_ | refine r_isub dX3_hasPerson_7 ?_
  refine r_cN3F ms_X4_within (fun _ h => h.2.2.1) (c4_within l _ _ _) dX3_hasPerson_8 (Nat.le_of_ble_eq_true rfl) ⟨by decide, by decide⟩ ⟨by decide, by decide⟩ (fun _ h => nomatch h) ?_
  try dsimp only [zrst, List.cons_append, List.nil_append]
  refine r_zret dX3_hasPerson_11 rfl (by first | exact Or.inl rfl | exact Or.inr rfl | exact zb01) (by decide) (by decide) ?_
  refine ⟨congrArg (fun x => some (Value.int x)) (zb_congr ?_), rfl, rfl⟩
  rw [sub1_toInt (show n 0 < 2 ^ 30 by omega)]
  show (0 : Int) ≤ _ ∧ _ ↔ _
  omega

set_option maxHeartbeats 4000000 in
set_option maxRecDepth 100000 in
theorem c3_hasSuit (l : Launch) {rw : List zC} {M : zM} {n u : Nat → Nat} {kn : Nat} (hS : SI 1 n u kn M) (hb : n 1 < 1000) (x : Int32) : CT l false 1 0 0 yX3_hasSuit cX3_hasSuit 2 (some .boolean) [.ref 1, .int x] (zSh ++ rw) M (zF (some (.int (zb (0 ≤ x.toInt ∧ x.toInt < (n 1 : Int))))) (zSh ++ rw) M) := by
  refine CT.ofN (by decide) (fun _ _ => Nat.le_of_ble_eq_true rfl) ?_
  refine r_iload_n dX3_hasSuit_0 rfl rfl ?_
  refine r_iconst (v := nI 0) dX3_hasSuit_1 rfl ?_
  refine r_aload_n dX3_hasSuit_2 rfl rfl ?_
  refine r_getV fl_X3_53 dX3_hasSuit_3 sh_1 rfl hS.f1 ?_
  refine r_iconst (v := nI 1) dX3_hasSuit_6 rfl ?_
  first | refine r_isubN dX3_hasSuit_7 (by omega) ?_ | refine r_isub dX3_hasSuit_7 ?_
  refine r_cN3F ms_X4_within (fun _ h => h.2.2.1) (c4_within l _ _ _) dX3_hasSuit_8 (Nat.le_of_ble_eq_true rfl) ⟨by decide, by decide⟩ ⟨by decide, by decide⟩ (fun _ h => nomatch h) ?_
  try dsimp only [zrst, List.cons_append, List.nil_append]
  refine r_zret dX3_hasSuit_11 rfl (by first | exact Or.inl rfl | exact Or.inr rfl | exact zb01) (by decide) (by decide) ?_
  refine ⟨congrArg (fun x => some (Value.int x)) (zb_congr ?_), rfl, rfl⟩
  rw [sub1_toInt (show n 1 < 2 ^ 30 by omega)]
  show (0 : Int) ≤ _ ∧ _ ↔ _
  omega

set_option maxHeartbeats 4000000 in
set_option maxRecDepth 100000 in
theorem c3_hasDeed (l : Launch) {rw : List zC} {M : zM} {n u : Nat → Nat} {kn : Nat} (hS : SI 1 n u kn M) (hb : n 2 < 1000) (x : Int32) : CT l false 1 0 0 yX3_hasDeed cX3_hasDeed 2 (some .boolean) [.ref 1, .int x] (zSh ++ rw) M (zF (some (.int (zb (0 ≤ x.toInt ∧ x.toInt < (n 2 : Int))))) (zSh ++ rw) M) := by
  refine CT.ofN (by decide) (fun _ _ => Nat.le_of_ble_eq_true rfl) ?_
  refine r_iload_n dX3_hasDeed_0 rfl rfl ?_
  refine r_iconst (v := nI 0) dX3_hasDeed_1 rfl ?_
  refine r_aload_n dX3_hasDeed_2 rfl rfl ?_
  refine r_getV fl_X3_56 dX3_hasDeed_3 sh_1 rfl hS.f2 ?_
  refine r_iconst (v := nI 1) dX3_hasDeed_6 rfl ?_
  first | refine r_isubN dX3_hasDeed_7 (by omega) ?_ | refine r_isub dX3_hasDeed_7 ?_
  refine r_cN3F ms_X4_within (fun _ h => h.2.2.1) (c4_within l _ _ _) dX3_hasDeed_8 (Nat.le_of_ble_eq_true rfl) ⟨by decide, by decide⟩ ⟨by decide, by decide⟩ (fun _ h => nomatch h) ?_
  try dsimp only [zrst, List.cons_append, List.nil_append]
  refine r_zret dX3_hasDeed_11 rfl (by first | exact Or.inl rfl | exact Or.inr rfl | exact zb01) (by decide) (by decide) ?_
  refine ⟨congrArg (fun x => some (Value.int x)) (zb_congr ?_), rfl, rfl⟩
  rw [sub1_toInt (show n 2 < 2 ^ 30 by omega)]
  show (0 : Int) ≤ _ ∧ _ ↔ _
  omega

set_option maxHeartbeats 4000000 in
set_option maxRecDepth 100000 in
theorem c3_isMended (l : Launch) {rw : List zC} {M : zM} {n u : Nat → Nat} {kn : Nat} (hS : SI 1 n u kn M) {d : Nat} (hd : d < 10) (hm : n 6 < 1024) : CT l false 0 0 0 yX3_isMended cX3_isMended 2 (some .boolean) [.ref 1, .int (nI d)] (zSh ++ rw) M (zF (some (.int (zb ((n 6).testBit d = true)))) (zSh ++ rw) M) := by
  refine CT.ofN (by decide) (fun _ _ => Nat.le_of_ble_eq_true rfl) ?_
  refine r_aload_n dX3_isMended_0 rfl rfl ?_
  refine r_getV fl_X3_65 dX3_isMended_1 sh_1 rfl hS.f3 ?_
  refine r_iload_n dX3_isMended_4 rfl rfl ?_
  first | refine r_ishrN dX3_isMended_5 (by omega) (by omega) ?_ | refine r_ishr dX3_isMended_5 ?_
  refine r_iconst (v := nI 1) dX3_isMended_6 rfl ?_
  first | refine r_iandN dX3_isMended_7 ?_ | refine r_iand dX3_isMended_7 ?_
  rw [bit1]
  have hbt : (if (n 6).testBit d = true then 1 else 0) < 2 := by split <;> decide
  refine r_iconst (v := nI 1) dX3_isMended_8 rfl ?_
  first | refine r_icmp_neN (tgt := 16) dX3_isMended_9 (by decide) (by omega) (by omega) (fun c1 => ?_) (fun c1 => ?_) | refine r_icmp_ne (tgt := 16) dX3_isMended_9 (by decide) (fun c1 => ?_) (fun c1 => ?_)
  · refine r_iconst (v := nI 0) dX3_isMended_16 rfl ?_
    refine r_zret dX3_isMended_17 rfl (by first | exact Or.inl rfl | exact Or.inr rfl | exact zb01) (by decide) (by decide) ?_
    refine ⟨congrArg (fun x => some (Value.int x)) ?_, rfl, rfl⟩
    cases hb : (n 6).testBit d <;> simp [hb] at * <;> rfl
  · refine r_iconst (v := nI 1) dX3_isMended_12 rfl ?_
    refine r_goto (tgt := 17) dX3_isMended_13 (by decide) ?_
    refine r_zret dX3_isMended_17 rfl (by first | exact Or.inl rfl | exact Or.inr rfl | exact zb01) (by decide) (by decide) ?_
    refine ⟨congrArg (fun x => some (Value.int x)) ?_, rfl, rfl⟩
    cases hb : (n 6).testBit d <;> simp [hb] at * <;> rfl

set_option maxHeartbeats 4000000 in
set_option maxRecDepth 100000 in
theorem c4_timesShown (l : Launch) {S : List zC} {M : zM} {kd s m : Nat} (hk : kd ≤ 4) (hs : s ≤ 5) (hm : m ≤ 3) : CT l false 0 0 0 yX4_timesShown cX4_timesShown 4 (some .int) [.int (nI kd), .int (nI s), .int (nI m)] S M (zF (some (.int (nI (tms kd s m)))) S M) := by
  refine CT.ofN (by decide) (fun _ _ => Nat.le_of_ble_eq_true rfl) ?_
  refine r_iload_n dX4_timesShown_0 rfl rfl ?_
  refine r_if_ltN (tgt := 12) dX4_timesShown_1 (by decide) (by omega) ?_
  refine r_iload_n dX4_timesShown_4 rfl rfl ?_
  refine r_gets rfl fs_X4_259 dX4_timesShown_5 ?_
  refine r_tlenN dX4_timesShown_8 ?_
  first | refine r_icmp_ltN (tgt := 14) dX4_timesShown_9 (by decide) (by omega) (by omega) (fun c2 => ?_) (fun c2 => ?_) | refine r_icmp_lt (tgt := 14) dX4_timesShown_9 (by decide) (fun c2 => ?_) (fun c2 => ?_)
  · have h15 := shn_le s
    refine r_gets rfl fs_X4_259 dX4_timesShown_14 ?_
    refine r_iload_n dX4_timesShown_17 rfl rfl ?_
    refine r_taldN dX4_timesShown_18 (by omega) ?_
    refine r_iload_n dX4_timesShown_19 rfl rfl ?_
    first | refine r_ishrN dX4_timesShown_20 (by omega) (by omega) ?_ | refine r_ishr dX4_timesShown_20 ?_
    refine r_iconst (v := nI 1) dX4_timesShown_21 rfl ?_
    first | refine r_iandN dX4_timesShown_22 ?_ | refine r_iand dX4_timesShown_22 ?_
    refine r_istore_n dX4_timesShown_23 rfl rfl (by decide) ?_
    refine r_iload_n dX4_timesShown_24 rfl rfl ?_
    refine r_iconst (v := nI 2) dX4_timesShown_25 rfl ?_
    first | refine r_icmp_eqN (tgt := 36) dX4_timesShown_26 (by decide) (by omega) (by omega) (fun c3 => ?_) (fun c3 => ?_) | refine r_icmp_eq (tgt := 36) dX4_timesShown_26 (by decide) (fun c3 => ?_) (fun c3 => ?_)
    · refine r_iload_n dX4_timesShown_36 rfl rfl ?_
      first | refine r_if_neB (tgt := 42) dX4_timesShown_37 (by decide) (fun c4 => ?_) (fun c4 => ?_) | refine r_if_neN (tgt := 42) dX4_timesShown_37 (by decide) (by omega) (fun c4 => ?_) (fun c4 => ?_) | refine r_if_ne (tgt := 42) dX4_timesShown_37 (by decide) (fun c4 => ?_) (fun c4 => ?_)
      · refine r_iload_n dX4_timesShown_42 rfl rfl ?_
        refine r_iconst (v := nI 1) dX4_timesShown_43 rfl ?_
        first | refine r_icmp_neN (tgt := 61) dX4_timesShown_44 (by decide) (by omega) (by omega) (fun c5 => ?_) (fun c5 => ?_) | refine r_icmp_ne (tgt := 61) dX4_timesShown_44 (by decide) (fun c5 => ?_) (fun c5 => ?_)
        · refine r_iload_n dX4_timesShown_61 rfl rfl ?_
          refine r_iret dX4_timesShown_62 rfl (by decide) (by decide) ?_
          first
          | (exfalso; omega)
          | (refine ⟨congrArg (fun x => some (Value.int x)) (congrArg nI ?_), rfl, rfl⟩; unfold tms; simp [*])
        · refine r_iload_n dX4_timesShown_47 rfl rfl ?_
          refine r_gets rfl fs_X4_259 dX4_timesShown_48 ?_
          refine r_iload_n dX4_timesShown_51 rfl rfl ?_
          refine r_taldN dX4_timesShown_52 (by omega) ?_
          refine r_iconst (v := nI 0) dX4_timesShown_53 rfl ?_
          first | refine r_ishrN dX4_timesShown_54 (by omega) (by omega) ?_ | refine r_ishr dX4_timesShown_54 ?_
          refine r_iconst (v := nI 1) dX4_timesShown_55 rfl ?_
          first | refine r_iandN dX4_timesShown_56 ?_ | refine r_iand dX4_timesShown_56 ?_
          first | refine r_iaddN dX4_timesShown_57 ?_ | refine r_iadd dX4_timesShown_57 ?_
          refine r_goto (tgt := 62) dX4_timesShown_58 (by decide) ?_
          refine r_iret dX4_timesShown_62 rfl (by decide) (by decide) ?_
          first
          | (exfalso; omega)
          | (refine ⟨congrArg (fun x => some (Value.int x)) (congrArg nI ?_), rfl, rfl⟩; unfold tms; simp [*])
      · refine r_iconst (v := nI 0) dX4_timesShown_40 rfl ?_
        refine r_iret dX4_timesShown_41 rfl (by decide) (by decide) ?_
        first
        | (exfalso; omega)
        | (refine ⟨congrArg (fun x => some (Value.int x)) (congrArg nI ?_), rfl, rfl⟩; unfold tms; simp [*])
    · refine r_iload_n dX4_timesShown_29 rfl rfl ?_
      refine r_iconst (v := nI 4) dX4_timesShown_30 rfl ?_
      first | refine r_icmp_eqN (tgt := 36) dX4_timesShown_31 (by decide) (by omega) (by omega) (fun c6 => ?_) (fun c6 => ?_) | refine r_icmp_eq (tgt := 36) dX4_timesShown_31 (by decide) (fun c6 => ?_) (fun c6 => ?_)
      · refine r_iload_n dX4_timesShown_36 rfl rfl ?_
        first | refine r_if_neB (tgt := 42) dX4_timesShown_37 (by decide) (fun c7 => ?_) (fun c7 => ?_) | refine r_if_neN (tgt := 42) dX4_timesShown_37 (by decide) (by omega) (fun c7 => ?_) (fun c7 => ?_) | refine r_if_ne (tgt := 42) dX4_timesShown_37 (by decide) (fun c7 => ?_) (fun c7 => ?_)
        · refine r_iload_n dX4_timesShown_42 rfl rfl ?_
          refine r_iconst (v := nI 1) dX4_timesShown_43 rfl ?_
          first | refine r_icmp_neN (tgt := 61) dX4_timesShown_44 (by decide) (by omega) (by omega) (fun c8 => ?_) (fun c8 => ?_) | refine r_icmp_ne (tgt := 61) dX4_timesShown_44 (by decide) (fun c8 => ?_) (fun c8 => ?_)
          · refine r_iload_n dX4_timesShown_61 rfl rfl ?_
            refine r_iret dX4_timesShown_62 rfl (by decide) (by decide) ?_
            first
            | (exfalso; omega)
            | (refine ⟨congrArg (fun x => some (Value.int x)) (congrArg nI ?_), rfl, rfl⟩; unfold tms; simp [*])
          · refine r_iload_n dX4_timesShown_47 rfl rfl ?_
            refine r_gets rfl fs_X4_259 dX4_timesShown_48 ?_
            refine r_iload_n dX4_timesShown_51 rfl rfl ?_
            refine r_taldN dX4_timesShown_52 (by omega) ?_
            refine r_iconst (v := nI 0) dX4_timesShown_53 rfl ?_
            first | refine r_ishrN dX4_timesShown_54 (by omega) (by omega) ?_ | refine r_ishr dX4_timesShown_54 ?_
            refine r_iconst (v := nI 1) dX4_timesShown_55 rfl ?_
            first | refine r_iandN dX4_timesShown_56 ?_ | refine r_iand dX4_timesShown_56 ?_
            first | refine r_iaddN dX4_timesShown_57 ?_ | refine r_iadd dX4_timesShown_57 ?_
            refine r_goto (tgt := 62) dX4_timesShown_58 (by decide) ?_
            refine r_iret dX4_timesShown_62 rfl (by decide) (by decide) ?_
            first
            | (exfalso; omega)
            | (refine ⟨congrArg (fun x => some (Value.int x)) (congrArg nI ?_), rfl, rfl⟩; unfold tms; simp [*])
        · refine r_iconst (v := nI 0) dX4_timesShown_40 rfl ?_
          refine r_iret dX4_timesShown_41 rfl (by decide) (by decide) ?_
          first
          | (exfalso; omega)
          | (refine ⟨congrArg (fun x => some (Value.int x)) (congrArg nI ?_), rfl, rfl⟩; unfold tms; simp [*])
      · refine r_iload_n dX4_timesShown_34 rfl rfl ?_
        refine r_iret dX4_timesShown_35 rfl (by decide) (by decide) ?_
        first
        | (exfalso; omega)
        | (refine ⟨congrArg (fun x => some (Value.int x)) (congrArg nI ?_), rfl, rfl⟩; unfold tms; simp [*])
  · refine r_iconst (v := nI 0) dX4_timesShown_12 rfl ?_
    refine r_iret dX4_timesShown_13 rfl (by decide) (by decide) ?_
    first
    | (exfalso; omega)
    | (refine ⟨congrArg (fun x => some (Value.int x)) (congrArg nI ?_), rfl, rfl⟩; unfold tms; simp [*])

set_option maxHeartbeats 4000000 in
set_option maxRecDepth 100000 in
theorem c4_longer (l : Launch) {S : List zC} {M : zM} {kd s m lf : Nat} (hk : kd ≤ 4) (hs : s ≤ 5) (hm : m ≤ 3) (hl : lf ≤ 9) : CT l false 1 0 0 yX4_longer cX4_longer 5 (some .int) [.int (nI kd), .int (nI s), .int (nI m), .int (nI lf)] S M (zF (some (.int (nI (lgr kd s m lf)))) S M) := by
  refine CT.ofN (by decide) (fun _ _ => Nat.le_of_ble_eq_true rfl) ?_
  refine r_iload_n dX4_longer_0 rfl rfl ?_
  refine r_iload_n dX4_longer_1 rfl rfl ?_
  refine r_iload_n dX4_longer_2 rfl rfl ?_
  refine r_cS3F ms_X4_timesShown ml_X4_256 (c4_timesShown l hk hs hm) dX4_longer_3 (Nat.le_of_ble_eq_true rfl) ⟨by decide, by decide⟩ ⟨by decide, by decide⟩ (fun _ h => nomatch h) ?_
  try dsimp only [zrst, List.cons_append, List.nil_append]
  have ht2 := tms_le (kd := kd) (s := s) (m := m)
  have hgt := lgr_tms (lf := lf) hk hs hm
  generalize tms kd s m = tt at ht2 hgt ⊢
  refine r_istore dX4_longer_6 rfl (by decide) ?_
  refine r_iload dX4_longer_8 rfl ?_
  refine r_iconst (v := nI 1) dX4_longer_10 rfl ?_
  first | refine r_icmp_ltN (tgt := 19) dX4_longer_11 (by decide) (by omega) (by omega) (fun c1 => ?_) (fun c1 => ?_) | refine r_icmp_lt (tgt := 19) dX4_longer_11 (by decide) (fun c1 => ?_) (fun c1 => ?_)
  · refine r_iconst (v := nI 0) dX4_longer_19 rfl ?_
    refine r_iret dX4_longer_20 rfl (by decide) (by decide) ?_
    refine ⟨congrArg (fun x => some (Value.int x)) ?_, rfl, rfl⟩
    refine congrArg nI ?_
    rw [hgt]
    first | rw [if_pos (by omega)] | (rw [if_neg (by omega)]; rfl)
  · refine r_iload_n dX4_longer_14 rfl rfl ?_
    refine r_iconst (v := nI 1) dX4_longer_15 rfl ?_
    first | refine r_icmp_geN (tgt := 21) dX4_longer_16 (by decide) (by omega) (by omega) (fun c2 => ?_) (fun c2 => ?_) | refine r_icmp_ge (tgt := 21) dX4_longer_16 (by decide) (fun c2 => ?_) (fun c2 => ?_)
    · refine r_iload_n dX4_longer_21 rfl rfl ?_
      rcases (show kd = 0 ∨ kd = 1 ∨ kd = 2 ∨ kd = 3 ∨ kd = 4 by omega) with rfl | rfl | rfl | rfl | rfl
      · refine r_tabOut (tgt := 67) dX4_longer_22 (by decide) (by decide) ?_
        refine r_iload dX4_longer_67 rfl ?_
        refine r_iload_n dX4_longer_69 rfl rfl ?_
        first | refine r_imulN dX4_longer_70 ?_ | refine r_imul dX4_longer_70 ?_
        refine r_iret dX4_longer_71 rfl (by decide) (by decide) ?_
        refine ⟨congrArg (fun x => some (Value.int x)) ?_, rfl, rfl⟩
        refine congrArg nI ?_
        rw [hgt]
        first | rw [if_pos (by omega)] | (rw [if_neg (by omega)]; rfl)
      · refine r_tabIn (off := 30) (tgt := 52) dX4_longer_22 (by decide) (by decide) (by decide) (by decide) ?_
        refine r_iload_n dX4_longer_52 rfl rfl ?_
        refine r_iconst (v := nI 1) dX4_longer_53 rfl ?_
        first | refine r_iaddN dX4_longer_54 ?_ | refine r_iadd dX4_longer_54 ?_
        refine r_iret dX4_longer_55 rfl (by decide) (by decide) ?_
        refine ⟨congrArg (fun x => some (Value.int x)) ?_, rfl, rfl⟩
        refine congrArg nI ?_
        rw [hgt]
        first | rw [if_pos (by omega)] | (rw [if_neg (by omega)]; rfl)
      · refine r_tabIn (off := 45) (tgt := 67) dX4_longer_22 (by decide) (by decide) (by decide) (by decide) ?_
        refine r_iload dX4_longer_67 rfl ?_
        refine r_iload_n dX4_longer_69 rfl rfl ?_
        first | refine r_imulN dX4_longer_70 ?_ | refine r_imul dX4_longer_70 ?_
        refine r_iret dX4_longer_71 rfl (by decide) (by decide) ?_
        refine ⟨congrArg (fun x => some (Value.int x)) ?_, rfl, rfl⟩
        refine congrArg nI ?_
        rw [hgt]
        first | rw [if_pos (by omega)] | (rw [if_neg (by omega)]; rfl)
      · refine r_tabIn (off := 34) (tgt := 56) dX4_longer_22 (by decide) (by decide) (by decide) (by decide) ?_
        refine r_iload_n dX4_longer_56 rfl rfl ?_
        refine r_iconst (v := nI 1) dX4_longer_57 rfl ?_
        first | refine r_isubN dX4_longer_58 (by omega) ?_ | refine r_isub dX4_longer_58 ?_
        refine r_iret dX4_longer_59 rfl (by decide) (by decide) ?_
        refine ⟨congrArg (fun x => some (Value.int x)) ?_, rfl, rfl⟩
        refine congrArg nI ?_
        rw [hgt]
        first | rw [if_pos (by omega)] | (rw [if_neg (by omega)]; rfl)
      · refine r_tabIn (off := 38) (tgt := 60) dX4_longer_22 (by decide) (by decide) (by decide) (by decide) ?_
        have hmu : tt * lf ≤ 2 * 9 := Nat.mul_le_mul ht2 hl
        refine r_iload dX4_longer_60 rfl ?_
        refine r_iload_n dX4_longer_62 rfl rfl ?_
        first | refine r_imulN dX4_longer_63 ?_ | refine r_imul dX4_longer_63 ?_
        refine r_iconst (v := nI 2) dX4_longer_64 rfl ?_
        refine r_idivN dX4_longer_65 (by omega) (by omega) (by omega) ?_
        refine r_iret dX4_longer_66 rfl (by decide) (by decide) ?_
        refine ⟨congrArg (fun x => some (Value.int x)) ?_, rfl, rfl⟩
        refine congrArg nI ?_
        rw [hgt]
        first | rw [if_pos (by omega)] | (rw [if_neg (by omega)]; rfl)
    · refine r_iconst (v := nI 0) dX4_longer_19 rfl ?_
      refine r_iret dX4_longer_20 rfl (by decide) (by decide) ?_
      refine ⟨congrArg (fun x => some (Value.int x)) ?_, rfl, rfl⟩
      refine congrArg nI ?_
      rw [hgt]
      first | rw [if_pos (by omega)] | (rw [if_neg (by omega)]; rfl)

