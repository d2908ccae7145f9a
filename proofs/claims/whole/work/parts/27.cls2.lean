set_option maxHeartbeats 4000000 in
set_option maxRecDepth 100000 in
theorem c3_leftBehind (l : Launch) {rw : List zC} {M : zM} {n u : Nat → Nat} {kn : Nat} (hS : SI 1 n u kn M) (hn : NB n) {d k : Nat} {b : Bool} (hd : d < n 2) (hk : k < 1000) : CT l false 1 0 0 yX3_leftBehind cX3_leftBehind 5 (some .int) [.ref 1, .int (nI d), .int (nI k), .int (zb (b = true))] (zSh ++ rw) M (zF (some (.int (nI (lfb n d (n 3 + k) b)))) (zSh ++ rw) M) := by
  refine CT.ofN (by decide) (fun _ _ => Nat.le_of_ble_eq_true rfl) ?_
  have hdd := hn.2.2.2.2.2.2.2.2.2.2.2
  have hkd := hn.2.2.2.2.2.2.2.2.1
  have how := hn.2.2.2.2.2.2.2.2.2.1
  have hcu := hn.2.2.2.2.2.2.2.2.2.2.1
  have hb0 := hn.1
  have hb1 := hn.2.1
  have hb2 := hn.2.2.1
  have hb3 := hn.2.2.2.1
  have hb4 := hn.2.2.2.2.1
  have hb5 := hn.2.2.2.2.2.1
  have hb6 := hn.2.2.2.2.2.2.1
  have hd9 := hdd d hd
  refine r_aload_n dX3_leftBehind_0 rfl rfl ?_
  refine r_getV fl_X3_9 dX3_leftBehind_1 sh_1 rfl hS.f6 ?_
  refine r_iconst (v := nI 1) dX3_leftBehind_4 rfl ?_
  first | refine r_icmp_geN (tgt := 10) dX3_leftBehind_5 (by decide) (by omega) (by omega) (fun c1 => ?_) (fun c1 => ?_) | refine r_icmp_ge (tgt := 10) dX3_leftBehind_5 (by decide) (fun c1 => ?_) (fun c1 => ?_)
  · refine r_iconst (v := nI 0) dX3_leftBehind_10 rfl ?_
    refine r_aload_n dX3_leftBehind_11 rfl rfl ?_
    refine r_getR fl_X3_37 dX3_leftBehind_12 sh_1 rfl ?_
    refine r_iload_n dX3_leftBehind_15 rfl rfl ?_
    refine r_ialdN dX3_leftBehind_16 sh_7 (by omega) (by decide) (hS.a7 (by omega)) ?_
    refine r_aload_n dX3_leftBehind_17 rfl rfl ?_
    refine r_getV fl_X3_62 dX3_leftBehind_18 sh_1 rfl hS.f4 ?_
    refine r_iload_n dX3_leftBehind_21 rfl rfl ?_
    first | refine r_iaddN dX3_leftBehind_22 ?_ | refine r_iadd dX3_leftBehind_22 ?_
    refine r_aload_n dX3_leftBehind_23 rfl rfl ?_
    refine r_getR fl_X3_40 dX3_leftBehind_24 sh_1 rfl ?_
    refine r_iload_n dX3_leftBehind_27 rfl rfl ?_
    refine r_ialdN dX3_leftBehind_28 sh_8 (by omega) (by decide) (hS.a8 (by omega)) ?_
    first | refine r_isubN dX3_leftBehind_29 (by omega) ?_ | refine r_isub dX3_leftBehind_29 ?_
    refine r_aload_n dX3_leftBehind_30 rfl rfl ?_
    refine r_getV fl_X3_9 dX3_leftBehind_31 sh_1 rfl hS.f6 ?_
    refine r_idivN dX3_leftBehind_34 (by omega) (by omega) (by omega) ?_
    have hq2 := Nat.div_le_self (n 3 + k - n (49 + 4 * d + 3)) (n 4)
    generalize hq : (n 3 + k - n (49 + 4 * d + 3)) / n 4 = q at hq2 ⊢
    first | refine r_isubN dX3_leftBehind_35 (by omega) ?_ | refine r_isub dX3_leftBehind_35 ?_
    refine r_max ml_X3_68 dX3_leftBehind_36 (by decide) (Nat.le_of_ble_eq_true rfl) (by decide) (by decide) ?_
    rw [max0 (by omega) (by omega)]
    refine r_istore dX3_leftBehind_39 rfl (by decide) ?_
    refine r_iload_n dX3_leftBehind_41 rfl rfl ?_
    first | refine r_if_eqB (tgt := 52) dX3_leftBehind_42 (by decide) (fun c2 => ?_) (fun c2 => ?_) | refine r_if_eqN (tgt := 52) dX3_leftBehind_42 (by decide) (by omega) (fun c2 => ?_) (fun c2 => ?_) | refine r_if_eq (tgt := 52) dX3_leftBehind_42 (by decide) (fun c2 => ?_) (fun c2 => ?_)
    · refine r_iload dX3_leftBehind_52 rfl ?_
      refine r_iret dX3_leftBehind_54 rfl (by decide) (by decide) ?_
      first
      | (exfalso; omega)
      | (refine ⟨congrArg (fun x => some (Value.int x)) (congrArg nI ?_), rfl, rfl⟩; unfold lfb; rw [hq]; simp [*])
    · refine r_iload dX3_leftBehind_45 rfl ?_
      refine r_iconst (v := nI 2) dX3_leftBehind_47 rfl ?_
      refine r_idivN dX3_leftBehind_48 (by omega) (by omega) (by omega) ?_
      refine r_goto (tgt := 54) dX3_leftBehind_49 (by decide) ?_
      refine r_iret dX3_leftBehind_54 rfl (by decide) (by decide) ?_
      first
      | (exfalso; omega)
      | (refine ⟨congrArg (fun x => some (Value.int x)) (congrArg nI ?_), rfl, rfl⟩; unfold lfb; rw [hq]; simp [*])
  · refine r_iconst (v := nI 0) dX3_leftBehind_8 rfl ?_
    refine r_iret dX3_leftBehind_9 rfl (by decide) (by decide) ?_
    first
    | (exfalso; omega)
    | (refine ⟨congrArg (fun x => some (Value.int x)) (congrArg nI ?_), rfl, rfl⟩; unfold lfb; rw [hq]; simp [*])

set_option maxHeartbeats 4000000 in
set_option maxRecDepth 100000 in
theorem c3_leftNow (l : Launch) {rw : List zC} {M : zM} {n u : Nat → Nat} {kn : Nat} (hS : SI 1 n u kn M) (hn : NB n) {d : Nat} (hd : d < n 2) : CT l false 2 0 0 yX3_leftNow cX3_leftNow 2 (some .int) [.ref 1, .int (nI d)] (zSh ++ rw) M (zF (some (.int (nI (lft n d (n 3) (n 6))))) (zSh ++ rw) M) := by
  refine CT.ofN (by decide) (fun _ _ => Nat.le_of_ble_eq_true rfl) ?_
  have hdd := hn.2.2.2.2.2.2.2.2.2.2.2
  have hkd := hn.2.2.2.2.2.2.2.2.1
  have how := hn.2.2.2.2.2.2.2.2.2.1
  have hcu := hn.2.2.2.2.2.2.2.2.2.2.1
  have hb0 := hn.1
  have hb1 := hn.2.1
  have hb2 := hn.2.2.1
  have hb3 := hn.2.2.2.1
  have hb4 := hn.2.2.2.2.1
  have hb5 := hn.2.2.2.2.2.1
  have hb6 := hn.2.2.2.2.2.2.1
  refine r_aload_n dX3_leftNow_0 rfl rfl ?_
  refine r_iload_n dX3_leftNow_1 rfl rfl ?_
  refine r_iconst (v := nI 0) dX3_leftNow_2 rfl ?_
  refine r_aload_n dX3_leftNow_3 rfl rfl ?_
  refine r_iload_n dX3_leftNow_4 rfl rfl ?_
  refine r_cV1F mv_X3_isMended ml_X3_74 (c3_isMended l hS (by omega) hb6) dX3_leftNow_5 (Nat.le_of_ble_eq_true rfl) ⟨by decide, by decide⟩ ⟨by decide, by decide⟩ sh_1 rfl (fun _ h => nomatch h) ?_
  try dsimp only [zrst, List.cons_append, List.nil_append]
  refine r_cV3F mv_X3_leftBehind ml_X3_78 (c3_leftBehind l hS hn hd (by omega)) dX3_leftNow_8 (Nat.le_of_ble_eq_true rfl) ⟨by decide, by decide⟩ ⟨by decide, by decide⟩ sh_1 rfl (fun _ h => nomatch h) ?_
  try dsimp only [zrst, List.cons_append, List.nil_append]
  refine r_iret dX3_leftNow_11 rfl (by decide) (by decide) ?_
  exact ⟨rfl, rfl, rfl⟩

set_option maxHeartbeats 4000000 in
set_option maxRecDepth 100000 in
theorem c3_leftOfAll (l : Launch) {rw : List zC} {M : zM} {n u : Nat → Nat} {kn : Nat} (hS : SI 1 n u kn M) (hn : NB n) : CT l false 3 0 0 yX3_leftOfAll cX3_leftOfAll 3 (some .int) [.ref 1] (zSh ++ rw) M (zF (some (.int (nI (loa n)))) (zSh ++ rw) M) := by
  refine CT.ofN (by decide) (fun _ _ => Nat.le_of_ble_eq_true rfl) ?_
  have hdd := hn.2.2.2.2.2.2.2.2.2.2.2
  have hkd := hn.2.2.2.2.2.2.2.2.1
  have how := hn.2.2.2.2.2.2.2.2.2.1
  have hcu := hn.2.2.2.2.2.2.2.2.2.2.1
  have hb0 := hn.1
  have hb1 := hn.2.1
  have hb2 := hn.2.2.1
  have hb3 := hn.2.2.2.1
  have hb4 := hn.2.2.2.2.1
  have hb5 := hn.2.2.2.2.2.1
  have hb6 := hn.2.2.2.2.2.2.1
  refine r_iconst (v := nI 0) dX3_leftOfAll_0 rfl ?_
  refine r_istore_n dX3_leftOfAll_1 rfl rfl (by decide) ?_
  refine r_iconst (v := nI 0) dX3_leftOfAll_2 rfl ?_
  refine r_istore_n dX3_leftOfAll_3 rfl rfl (by decide) ?_
  have loop : ∀ (j k : Nat) , k ≤ n 2 → n 2 < k + j → RA l none (zR 3 0 0) yX3_leftOfAll cX3_leftOfAll 3 (some .int) (zF (some (.int (nI (loa n)))) (zSh ++ rw) M) 0 0 4 [some (.ref 1), some (.int (nI (sm (fun d => lft n d (n 3) (n 6)) k))), some (.int (nI k))] [] (zSh ++ rw) M := by
    intro j
    induction j with
    | zero => intro k   hk hj; exact absurd hj (by omega)
    | succ j ih =>
      intro k   hk hj
      refine r_iload_n dX3_leftOfAll_4 rfl rfl ?_
      refine r_aload_n dX3_leftOfAll_5 rfl rfl ?_
      refine r_getV fl_X3_56 dX3_leftOfAll_6 sh_1 rfl hS.f2 ?_
      first | refine r_icmp_geN (tgt := 26) dX3_leftOfAll_9 (by decide) (by omega) (by omega) (fun c1 => ?_) (fun c1 => ?_) | refine r_icmp_ge (tgt := 26) dX3_leftOfAll_9 (by decide) (fun c1 => ?_) (fun c1 => ?_)
      · refine r_iload_n dX3_leftOfAll_26 rfl rfl ?_
        refine r_iret dX3_leftOfAll_27 rfl (by decide) (by decide) ?_
        refine ⟨congrArg (fun x => some (Value.int x)) ?_, rfl, rfl⟩
        rw [show k = n 2 by omega]
        rfl
      · refine r_iload_n dX3_leftOfAll_12 rfl rfl ?_
        refine r_aload_n dX3_leftOfAll_13 rfl rfl ?_
        refine r_iload_n dX3_leftOfAll_14 rfl rfl ?_
        refine r_cV1F mv_X3_leftNow ml_X3_82 (c3_leftNow l hS hn (by omega)) dX3_leftOfAll_15 (Nat.le_of_ble_eq_true rfl) ⟨by decide, by decide⟩ ⟨by decide, by decide⟩ sh_1 rfl (fun _ h => nomatch h) ?_
        try dsimp only [zrst, List.cons_append, List.nil_append]
        first | refine r_iaddN dX3_leftOfAll_18 ?_ | refine r_iadd dX3_leftOfAll_18 ?_
        refine r_istore_n dX3_leftOfAll_19 rfl rfl (by decide) ?_
        first | refine r_iincN dX3_leftOfAll_20 rfl rfl (by decide) ?_ | refine r_iinc dX3_leftOfAll_20 rfl rfl rfl (by decide) ?_
        refine r_goto (tgt := 4) dX3_leftOfAll_23 (by decide) ?_
        exact ih (k + 1) (by omega) (by omega)
  exact loop (n 2 + 1) 0 (Nat.zero_le _) (by omega)

set_option maxHeartbeats 4000000 in
set_option maxRecDepth 100000 in
theorem c3_longerBehind (l : Launch) {rw : List zC} {M : zM} {n u : Nat → Nat} {kn : Nat} (hS : SI 1 n u kn M) (hn : NB n) {p m kk : Nat} (hp : p < n 0) (hm : m < 4) (hk : kk < 1000) : CT l false 2 0 0 yX3_longerBehind cX3_longerBehind 6 (some .int) [.ref 1, .int (nI p), .int (nI m), .int (nI kk)] (zSh ++ rw) M (zF (some (.int (nI (lng n p m (n 3 + kk) (n 6))))) (zSh ++ rw) M) := by
  refine CT.ofN (by decide) (fun _ _ => Nat.le_of_ble_eq_true rfl) ?_
  have hdd := hn.2.2.2.2.2.2.2.2.2.2.2
  have hkd := hn.2.2.2.2.2.2.2.2.1
  have how := hn.2.2.2.2.2.2.2.2.2.1
  have hcu := hn.2.2.2.2.2.2.2.2.2.2.1
  have hb0 := hn.1
  have hb1 := hn.2.1
  have hb2 := hn.2.2.1
  have hb3 := hn.2.2.2.1
  have hb4 := hn.2.2.2.2.1
  have hb5 := hn.2.2.2.2.2.1
  have hb6 := hn.2.2.2.2.2.2.1
  refine r_iconst (v := nI 0) dX3_longerBehind_0 rfl ?_
  refine r_istore dX3_longerBehind_1 rfl (by decide) ?_
  refine r_iconst (v := nI 0) dX3_longerBehind_3 rfl ?_
  refine r_istore dX3_longerBehind_4 rfl (by decide) ?_
  have loop : ∀ (j k : Nat) , k ≤ n 2 → n 2 < k + j → RA l none (zR 2 0 0) yX3_longerBehind cX3_longerBehind 6 (some .int) (zF (some (.int (nI (lng n p m (n 3 + kk) (n 6))))) (zSh ++ rw) M) 0 0 6 [some (.ref 1), some (.int (nI p)), some (.int (nI m)), some (.int (nI kk)), some (.int (nI (sm (lon n p m (n 3 + kk) (n 6)) k))), some (.int (nI k))] [] (zSh ++ rw) M := by
    intro j
    induction j with
    | zero => intro k   hk hj; exact absurd hj (by omega)
    | succ j ih =>
      intro k   hk hj
      refine r_iload dX3_longerBehind_6 rfl ?_
      refine r_aload_n dX3_longerBehind_8 rfl rfl ?_
      refine r_getV fl_X3_56 dX3_longerBehind_9 sh_1 rfl hS.f2 ?_
      first | refine r_icmp_geN (tgt := 67) dX3_longerBehind_12 (by decide) (by omega) (by omega) (fun c1 => ?_) (fun c1 => ?_) | refine r_icmp_ge (tgt := 67) dX3_longerBehind_12 (by decide) (fun c1 => ?_) (fun c1 => ?_)
      · refine r_iload dX3_longerBehind_67 rfl ?_
        refine r_iret dX3_longerBehind_69 rfl (by decide) (by decide) ?_
        refine ⟨congrArg (fun x => some (Value.int x)) ?_, rfl, rfl⟩
        rw [show k = n 2 by omega]
        rfl
      · have hd := hdd k c1
        have hle := lng_le hn p m (n 3 + kk) (n 6) k (by omega)
        refine r_aload_n dX3_longerBehind_15 rfl rfl ?_
        refine r_getR fl_X3_31 dX3_longerBehind_16 sh_1 rfl ?_
        refine r_iload dX3_longerBehind_19 rfl ?_
        refine r_ialdN dX3_longerBehind_21 sh_5 (by omega) (by decide) (hS.a5 (by omega)) ?_
        refine r_iload_n dX3_longerBehind_22 rfl rfl ?_
        first | refine r_icmp_neN (tgt := 61) dX3_longerBehind_23 (by decide) (by omega) (by omega) (fun c2 => ?_) (fun c2 => ?_) | refine r_icmp_ne (tgt := 61) dX3_longerBehind_23 (by decide) (fun c2 => ?_) (fun c2 => ?_)
        · have hX : lon n p m (n 3 + kk) (n 6) k = 0 := if_neg c2
          first | refine r_iincN dX3_longerBehind_61 rfl rfl (by decide) ?_ | refine r_iinc dX3_longerBehind_61 rfl rfl rfl (by decide) ?_
          refine r_goto (tgt := 6) dX3_longerBehind_64 (by decide) ?_
          have h9 := ih (k + 1) (by omega) (by omega)
          rw [sm, hX] at h9
          exact h9
        · have hX : lon n p m (n 3 + kk) (n 6) k = lgr (n (8 + 5 * p)) (n (49 + 4 * k + 1)) m (lft n k (n 3 + kk) (n 6)) := if_pos c2
          refine r_iload dX3_longerBehind_26 rfl ?_
          refine r_aload_n dX3_longerBehind_28 rfl rfl ?_
          refine r_getR fl_X3_21 dX3_longerBehind_29 sh_1 rfl ?_
          refine r_iload_n dX3_longerBehind_32 rfl rfl ?_
          refine r_ialdN dX3_longerBehind_33 sh_2 (by omega) (by decide) (hS.a2 (by omega)) ?_
          refine r_aload_n dX3_longerBehind_34 rfl rfl ?_
          refine r_getR fl_X3_34 dX3_longerBehind_35 sh_1 rfl ?_
          refine r_iload dX3_longerBehind_38 rfl ?_
          refine r_ialdN dX3_longerBehind_40 sh_6 (by omega) (by decide) (hS.a6 (by omega)) ?_
          refine r_iload_n dX3_longerBehind_41 rfl rfl ?_
          refine r_aload_n dX3_longerBehind_42 rfl rfl ?_
          refine r_iload dX3_longerBehind_43 rfl ?_
          refine r_iload_n dX3_longerBehind_45 rfl rfl ?_
          refine r_aload_n dX3_longerBehind_46 rfl rfl ?_
          refine r_iload dX3_longerBehind_47 rfl ?_
          refine r_cV1F mv_X3_isMended ml_X3_74 (c3_isMended l hS (by omega) hb6) dX3_longerBehind_49 (Nat.le_of_ble_eq_true rfl) ⟨by decide, by decide⟩ ⟨by decide, by decide⟩ sh_1 rfl (fun _ h => nomatch h) ?_
          try dsimp only [zrst, List.cons_append, List.nil_append]
          refine r_cV3F mv_X3_leftBehind ml_X3_78 (c3_leftBehind l hS hn (by omega) (by omega)) dX3_longerBehind_52 (Nat.le_of_ble_eq_true rfl) ⟨by decide, by decide⟩ ⟨by decide, by decide⟩ sh_1 rfl (fun _ h => nomatch h) ?_
          try dsimp only [zrst, List.cons_append, List.nil_append]
          refine r_cN4F ms_X4_longer (fun _ h => h.2.2.2.1) (c4_longer l (hkd p hp) (by omega) (by omega) (lft_le (by omega))) dX3_longerBehind_55 (Nat.le_of_ble_eq_true rfl) ⟨by decide, by decide⟩ ⟨by decide, by decide⟩ (fun _ h => nomatch h) ?_
          try dsimp only [zrst, List.cons_append, List.nil_append]
          first | refine r_iaddN dX3_longerBehind_58 ?_ | refine r_iadd dX3_longerBehind_58 ?_
          refine r_istore dX3_longerBehind_59 rfl (by decide) ?_
          first | refine r_iincN dX3_longerBehind_61 rfl rfl (by decide) ?_ | refine r_iinc dX3_longerBehind_61 rfl rfl rfl (by decide) ?_
          refine r_goto (tgt := 6) dX3_longerBehind_64 (by decide) ?_
          have h9 := ih (k + 1) (by omega) (by omega)
          rw [sm, hX] at h9
          exact h9
  exact loop (n 2 + 1) 0 (Nat.zero_le _) (by omega)

set_option maxHeartbeats 4000000 in
set_option maxRecDepth 100000 in
theorem c3_measureBehind (l : Launch) {rw : List zC} {M : zM} {n u : Nat → Nat} {kn : Nat} (hS : SI 1 n u kn M) (hn : NB n) {p m kk : Nat} (hp : p < n 0) (hm : m < 4) (hk : kk < 1000) : CT l false 3 0 0 yX3_measureBehind cX3_measureBehind 4 (some .int) [.ref 1, .int (nI p), .int (nI m), .int (nI kk)] (zSh ++ rw) M (zF (some (.int (nI (mea n p m (n 3 + kk) (n 6))))) (zSh ++ rw) M) := by
  refine CT.ofN (by decide) (fun _ _ => Nat.le_of_ble_eq_true rfl) ?_
  have hdd := hn.2.2.2.2.2.2.2.2.2.2.2
  have hkd := hn.2.2.2.2.2.2.2.2.1
  have how := hn.2.2.2.2.2.2.2.2.2.1
  have hcu := hn.2.2.2.2.2.2.2.2.2.2.1
  have hb0 := hn.1
  have hb1 := hn.2.1
  have hb2 := hn.2.2.1
  have hb3 := hn.2.2.2.1
  have hb4 := hn.2.2.2.2.1
  have hb5 := hn.2.2.2.2.2.1
  have hb6 := hn.2.2.2.2.2.2.1
  refine r_aload_n dX3_measureBehind_0 rfl rfl ?_
  refine r_getR fl_X3_25 dX3_measureBehind_1 sh_1 rfl ?_
  refine r_iload_n dX3_measureBehind_4 rfl rfl ?_
  refine r_iconst (v := nI 4) dX3_measureBehind_5 rfl ?_
  first | refine r_imulN dX3_measureBehind_6 ?_ | refine r_imul dX3_measureBehind_6 ?_
  refine r_iload_n dX3_measureBehind_7 rfl rfl ?_
  first | refine r_iaddN dX3_measureBehind_8 ?_ | refine r_iadd dX3_measureBehind_8 ?_
  refine r_ialdN dX3_measureBehind_9 sh_3 (by omega) (by decide) (hS.a3 (by omega) (by omega)) ?_
  refine r_aload_n dX3_measureBehind_10 rfl rfl ?_
  refine r_iload_n dX3_measureBehind_11 rfl rfl ?_
  refine r_iload_n dX3_measureBehind_12 rfl rfl ?_
  refine r_iload_n dX3_measureBehind_13 rfl rfl ?_
  refine r_cV3F mv_X3_longerBehind ml_X3_90 (c3_longerBehind l hS hn hp hm hk) dX3_measureBehind_14 (Nat.le_of_ble_eq_true rfl) ⟨by decide, by decide⟩ ⟨by decide, by decide⟩ sh_1 rfl (fun _ h => nomatch h) ?_
  try dsimp only [zrst, List.cons_append, List.nil_append]
  first | refine r_iaddN dX3_measureBehind_17 ?_ | refine r_iadd dX3_measureBehind_17 ?_
  refine r_iret dX3_measureBehind_18 rfl (by decide) (by decide) ?_
  exact ⟨rfl, rfl, rfl⟩

set_option maxHeartbeats 4000000 in
set_option maxRecDepth 100000 in
theorem c3_gapBehind (l : Launch) {rw : List zC} {M : zM} {n u : Nat → Nat} {kn : Nat} (hS : SI 1 n u kn M) (hn : NB n) {p s m kk : Nat} (hp : p < n 0) (hs : s < n 1) (hm : m < 4) (hk : kk < 1000) : CT l false 3 0 0 yX3_gapBehind cX3_gapBehind 6 (some .int) [.ref 1, .int (nI p), .int (nI s), .int (nI m), .int (nI kk)] (zSh ++ rw) M (zF (some (.int (nI (mea n p m (n 3 + kk) (n 6)) - nI (n (33 + 4 * s + m))))) (zSh ++ rw) M) := by
  refine CT.ofN (by decide) (fun _ _ => Nat.le_of_ble_eq_true rfl) ?_
  have hdd := hn.2.2.2.2.2.2.2.2.2.2.2
  have hkd := hn.2.2.2.2.2.2.2.2.1
  have how := hn.2.2.2.2.2.2.2.2.2.1
  have hcu := hn.2.2.2.2.2.2.2.2.2.2.1
  have hb0 := hn.1
  have hb1 := hn.2.1
  have hb2 := hn.2.2.1
  have hb3 := hn.2.2.2.1
  have hb4 := hn.2.2.2.2.1
  have hb5 := hn.2.2.2.2.2.1
  have hb6 := hn.2.2.2.2.2.2.1
  refine r_aload_n dX3_gapBehind_0 rfl rfl ?_
  refine r_getR fl_X3_25 dX3_gapBehind_1 sh_1 rfl ?_
  refine r_iload_n dX3_gapBehind_4 rfl rfl ?_
  refine r_iconst (v := nI 4) dX3_gapBehind_5 rfl ?_
  first | refine r_imulN dX3_gapBehind_6 ?_ | refine r_imul dX3_gapBehind_6 ?_
  refine r_iload_n dX3_gapBehind_7 rfl rfl ?_
  first | refine r_iaddN dX3_gapBehind_8 ?_ | refine r_iadd dX3_gapBehind_8 ?_
  refine r_ialdN dX3_gapBehind_9 sh_3 (by omega) (by decide) (hS.a3 (by omega) (by omega)) ?_
  refine r_aload_n dX3_gapBehind_10 rfl rfl ?_
  refine r_getR fl_X3_28 dX3_gapBehind_11 sh_1 rfl ?_
  refine r_iload_n dX3_gapBehind_14 rfl rfl ?_
  refine r_iconst (v := nI 4) dX3_gapBehind_15 rfl ?_
  first | refine r_imulN dX3_gapBehind_16 ?_ | refine r_imul dX3_gapBehind_16 ?_
  refine r_iload_n dX3_gapBehind_17 rfl rfl ?_
  first | refine r_iaddN dX3_gapBehind_18 ?_ | refine r_iadd dX3_gapBehind_18 ?_
  refine r_ialdN dX3_gapBehind_19 sh_4 (by omega) (by decide) (hS.a4 (by omega) (by omega)) ?_
  refine r_isub dX3_gapBehind_20 ?_
  refine r_istore dX3_gapBehind_21 rfl (by decide) ?_
  refine r_iload dX3_gapBehind_23 rfl ?_
  refine r_aload_n dX3_gapBehind_25 rfl rfl ?_
  refine r_iload_n dX3_gapBehind_26 rfl rfl ?_
  refine r_iload_n dX3_gapBehind_27 rfl rfl ?_
  refine r_iload dX3_gapBehind_28 rfl ?_
  refine r_cV3F mv_X3_longerBehind ml_X3_90 (c3_longerBehind l hS hn hp hm hk) dX3_gapBehind_30 (Nat.le_of_ble_eq_true rfl) ⟨by decide, by decide⟩ ⟨by decide, by decide⟩ sh_1 rfl (fun _ h => nomatch h) ?_
  try dsimp only [zrst, List.cons_append, List.nil_append]
  refine r_iadd dX3_gapBehind_33 ?_
  refine r_iret dX3_gapBehind_34 rfl (by decide) (by decide) ?_
  exact ⟨congrArg (fun x => some (Value.int x)) (gapeq _ _ _), rfl, rfl⟩

set_option maxHeartbeats 4000000 in
set_option maxRecDepth 100000 in
theorem c3_showsBehind (l : Launch) {rw : List zC} {M : zM} {n u : Nat → Nat} {kn : Nat} (hS : SI 1 n u kn M) (hn : NB n) {p s kk : Nat} (hp : p < n 0) (hs : s < n 1) (hkk : kk < 1000) : CT l false 4 0 0 yX3_showsBehind cX3_showsBehind 6 (some .int) [.ref 1, .int (nI p), .int (nI s), .int (nI kk)] (zSh ++ rw) M (zF (some (.int (nI (sho n p s (n 3 + kk))))) (zSh ++ rw) M) := by
  refine CT.ofN (by decide) (fun _ _ => Nat.le_of_ble_eq_true rfl) ?_
  have hdd := hn.2.2.2.2.2.2.2.2.2.2.2
  have hkd := hn.2.2.2.2.2.2.2.2.1
  have how := hn.2.2.2.2.2.2.2.2.2.1
  have hcu := hn.2.2.2.2.2.2.2.2.2.2.1
  have hb0 := hn.1
  have hb1 := hn.2.1
  have hb2 := hn.2.2.1
  have hb3 := hn.2.2.2.1
  have hb4 := hn.2.2.2.2.1
  have hb5 := hn.2.2.2.2.2.1
  have hb6 := hn.2.2.2.2.2.2.1
  refine r_iconst (v := nI 0) dX3_showsBehind_0 rfl ?_
  refine r_istore dX3_showsBehind_1 rfl (by decide) ?_
  refine r_iconst (v := nI 0) dX3_showsBehind_3 rfl ?_
  refine r_istore dX3_showsBehind_4 rfl (by decide) ?_
  have loop : ∀ (j k : Nat) , k ≤ 4 → 4 < k + j → RA l none (zR 4 0 0) yX3_showsBehind cX3_showsBehind 6 (some .int) (zF (some (.int (nI (sho n p s (n 3 + kk))))) (zSh ++ rw) M) 0 0 6 [some (.ref 1), some (.int (nI p)), some (.int (nI s)), some (.int (nI kk)), some (.int (nI (sm (fun m => dst (mea n p m (n 3 + kk) (n 6)) (n (33 + 4 * s + m))) k))), some (.int (nI k))] [] (zSh ++ rw) M := by
    intro j
    induction j with
    | zero => intro k   hk hj; exact absurd hj (by omega)
    | succ j ih =>
      intro k   hk hj
      refine r_iload dX3_showsBehind_6 rfl ?_
      refine r_iconst (v := nI 4) dX3_showsBehind_8 rfl ?_
      first | refine r_icmp_geN (tgt := 35) dX3_showsBehind_9 (by decide) (by omega) (by omega) (fun c1 => ?_) (fun c1 => ?_) | refine r_icmp_ge (tgt := 35) dX3_showsBehind_9 (by decide) (fun c1 => ?_) (fun c1 => ?_)
      · refine r_iload dX3_showsBehind_35 rfl ?_
        refine r_iret dX3_showsBehind_37 rfl (by decide) (by decide) ?_
        refine ⟨congrArg (fun x => some (Value.int x)) ?_, rfl, rfl⟩
        rw [show k = 4 by omega]
        rfl
      · have hme := mea_le hn hp c1 (n 3 + kk) (n 6)
        have hcc := hcu s k hs c1
        refine r_iload dX3_showsBehind_12 rfl ?_
        refine r_aload_n dX3_showsBehind_14 rfl rfl ?_
        refine r_iload_n dX3_showsBehind_15 rfl rfl ?_
        refine r_iload_n dX3_showsBehind_16 rfl rfl ?_
        refine r_iload dX3_showsBehind_17 rfl ?_
        refine r_iload_n dX3_showsBehind_19 rfl rfl ?_
        refine r_cV4F mv_X3_gapBehind ml_X3_94 (c3_gapBehind l hS hn hp hs (by omega) (by omega)) dX3_showsBehind_20 (Nat.le_of_ble_eq_true rfl) ⟨by decide, by decide⟩ ⟨by decide, by decide⟩ sh_1 rfl (fun _ h => nomatch h) ?_
        try dsimp only [zrst, List.cons_append, List.nil_append]
        refine r_abs ml_X3_97 dX3_showsBehind_23 (by decide) (Nat.le_of_ble_eq_true rfl) (by decide) (by decide) ?_
        rw [absd (by omega) (by omega)]
        first | refine r_iaddN dX3_showsBehind_26 ?_ | refine r_iadd dX3_showsBehind_26 ?_
        refine r_istore dX3_showsBehind_27 rfl (by decide) ?_
        first | refine r_iincN dX3_showsBehind_29 rfl rfl (by decide) ?_ | refine r_iinc dX3_showsBehind_29 rfl rfl rfl (by decide) ?_
        refine r_goto (tgt := 6) dX3_showsBehind_32 (by decide) ?_
        exact ih (k + 1) (by omega) (by omega)
  exact loop (4 + 1) 0 (Nat.zero_le _) (by omega)

theorem fitk_le {n : Nat → Nat} {p s day md a : Nat} : ∀ {b : Nat}, a ≤ b → fitk n p s day md b = true → fitk n p s day md a = true
  | 0, h, hf => by rw [show a = 0 by omega]; exact rfl
  | b + 1, h, hf => by
    by_cases e : a = b + 1
    · rw [e]; exact hf
    · exact fitk_le (b := b) (by omega) (fitk_succ.mp hf).1
set_option maxHeartbeats 4000000 in
set_option maxRecDepth 100000 in
theorem c3_fitsBehind (l : Launch) {rw : List zC} {M : zM} {n u : Nat → Nat} {kn : Nat} (hS : SI 1 n u kn M) (hn : NB n) {p s kk : Nat} (hp : p < n 0) (hs : s < n 1) (hkk : kk < 1000) : CT l false 4 0 0 yX3_fitsBehind cX3_fitsBehind 5 (some .boolean) [.ref 1, .int (nI p), .int (nI s), .int (nI kk)] (zSh ++ rw) M (zF (some (.int (zb (fit n p s (n 3 + kk) (n 6) = true)))) (zSh ++ rw) M) := by
  refine CT.ofN (by decide) (fun _ _ => Nat.le_of_ble_eq_true rfl) ?_
  have hdd := hn.2.2.2.2.2.2.2.2.2.2.2
  have hkd := hn.2.2.2.2.2.2.2.2.1
  have how := hn.2.2.2.2.2.2.2.2.2.1
  have hcu := hn.2.2.2.2.2.2.2.2.2.2.1
  have hb0 := hn.1
  have hb1 := hn.2.1
  have hb2 := hn.2.2.1
  have hb3 := hn.2.2.2.1
  have hb4 := hn.2.2.2.2.1
  have hb5 := hn.2.2.2.2.2.1
  have hb6 := hn.2.2.2.2.2.2.1
  refine r_iconst (v := nI 0) dX3_fitsBehind_0 rfl ?_
  refine r_istore dX3_fitsBehind_1 rfl (by decide) ?_
  have loop : ∀ (j k : Nat)  (hf : fitk n p s (n 3 + kk) (n 6) k = true), k ≤ 4 → 4 < k + j → RA l none (zR 4 0 0) yX3_fitsBehind cX3_fitsBehind 5 (some .boolean) (zF (some (.int (zb (fit n p s (n 3 + kk) (n 6) = true)))) (zSh ++ rw) M) 0 0 3 [some (.ref 1), some (.int (nI p)), some (.int (nI s)), some (.int (nI kk)), some (.int (nI k))] [] (zSh ++ rw) M := by
    intro j
    induction j with
    | zero => intro k  hf hk hj; exact absurd hj (by omega)
    | succ j ih =>
      intro k  hf hk hj
      refine r_iload dX3_fitsBehind_3 rfl ?_
      refine r_iconst (v := nI 4) dX3_fitsBehind_5 rfl ?_
      first | refine r_icmp_geN (tgt := 36) dX3_fitsBehind_6 (by decide) (by omega) (by omega) (fun c1 => ?_) (fun c1 => ?_) | refine r_icmp_ge (tgt := 36) dX3_fitsBehind_6 (by decide) (fun c1 => ?_) (fun c1 => ?_)
      · refine r_iconst (v := nI 1) dX3_fitsBehind_36 rfl ?_
        refine r_zret dX3_fitsBehind_37 rfl (by first | exact Or.inl rfl | exact Or.inr rfl | exact zb01) (by decide) (by decide) ?_
        refine ⟨congrArg (fun x => some (Value.int x)) ?_, rfl, rfl⟩
        exact (zb_t1 (by rw [show k = 4 by omega] at hf; exact hf)).symm
      · have hme := mea_le hn hp c1 (n 3 + kk) (n 6)
        have hcc := hcu s k hs c1
        have hds := dst_le (a := mea n p k (n 3 + kk) (n 6)) (b := n (33 + 4 * s + k)) (c := 500) (by omega) (by omega)
        refine r_aload_n dX3_fitsBehind_9 rfl rfl ?_
        refine r_iload_n dX3_fitsBehind_10 rfl rfl ?_
        refine r_iload_n dX3_fitsBehind_11 rfl rfl ?_
        refine r_iload dX3_fitsBehind_12 rfl ?_
        refine r_iload_n dX3_fitsBehind_14 rfl rfl ?_
        refine r_cV4F mv_X3_gapBehind ml_X3_94 (c3_gapBehind l hS hn hp hs (by omega) (by omega)) dX3_fitsBehind_15 (Nat.le_of_ble_eq_true rfl) ⟨by decide, by decide⟩ ⟨by decide, by decide⟩ sh_1 rfl (fun _ h => nomatch h) ?_
        try dsimp only [zrst, List.cons_append, List.nil_append]
        refine r_abs ml_X3_97 dX3_fitsBehind_18 (by decide) (Nat.le_of_ble_eq_true rfl) (by decide) (by decide) ?_
        rw [absd (by omega) (by omega)]
        refine r_aload_n dX3_fitsBehind_21 rfl rfl ?_
        refine r_getV fl_X3_15 dX3_fitsBehind_22 sh_1 rfl hS.f7 ?_
        first | refine r_icmp_leN (tgt := 30) dX3_fitsBehind_25 (by decide) (by omega) (by omega) (fun c2 => ?_) (fun c2 => ?_) | refine r_icmp_le (tgt := 30) dX3_fitsBehind_25 (by decide) (fun c2 => ?_) (fun c2 => ?_)
        · first | refine r_iincN dX3_fitsBehind_30 rfl rfl (by decide) ?_ | refine r_iinc dX3_fitsBehind_30 rfl rfl rfl (by decide) ?_
          refine r_goto (tgt := 3) dX3_fitsBehind_33 (by decide) ?_
          exact ih (k + 1) (fitk_succ.mpr ⟨hf, c2⟩) (by omega) (by omega)
        · refine r_iconst (v := nI 0) dX3_fitsBehind_28 rfl ?_
          refine r_zret dX3_fitsBehind_29 rfl (by first | exact Or.inl rfl | exact Or.inr rfl | exact zb01) (by decide) (by decide) ?_
          refine ⟨congrArg (fun x => some (Value.int x)) ?_, rfl, rfl⟩
          exact (zb_f1 (fun h => by have h7 := fitk_le (show k + 1 ≤ 4 by omega) h; have h8 := (fitk_succ.mp h7).2; omega)).symm
  exact loop (4 + 1) 0 rfl (Nat.zero_le _) (by omega)

set_option maxHeartbeats 4000000 in
set_option maxRecDepth 100000 in
theorem c3_deedsBy (l : Launch) {rw : List zC} {M : zM} {n u : Nat → Nat} {kn : Nat} (hS : SI 1 n u kn M) (hn : NB n) {p : Nat} (hp : p < 5) : CT l false 0 0 0 yX3_deedsBy cX3_deedsBy 4 (some .int) [.ref 1, .int (nI p)] (zSh ++ rw) M (zF (some (.int (nI (dof n p)))) (zSh ++ rw) M) := by
  refine CT.ofN (by decide) (fun _ _ => Nat.le_of_ble_eq_true rfl) ?_
  have hdd := hn.2.2.2.2.2.2.2.2.2.2.2
  have hkd := hn.2.2.2.2.2.2.2.2.1
  have how := hn.2.2.2.2.2.2.2.2.2.1
  have hcu := hn.2.2.2.2.2.2.2.2.2.2.1
  have hb0 := hn.1
  have hb1 := hn.2.1
  have hb2 := hn.2.2.1
  have hb3 := hn.2.2.2.1
  have hb4 := hn.2.2.2.2.1
  have hb5 := hn.2.2.2.2.2.1
  have hb6 := hn.2.2.2.2.2.2.1
  refine r_iconst (v := nI 0) dX3_deedsBy_0 rfl ?_
  refine r_istore_n dX3_deedsBy_1 rfl rfl (by decide) ?_
  refine r_iconst (v := nI 0) dX3_deedsBy_2 rfl ?_
  refine r_istore_n dX3_deedsBy_3 rfl rfl (by decide) ?_
  have loop : ∀ (j k : Nat) , k ≤ n 2 → n 2 < k + j → RA l none (zR 0 0 0) yX3_deedsBy cX3_deedsBy 4 (some .int) (zF (some (.int (nI (dof n p)))) (zSh ++ rw) M) 0 0 4 [some (.ref 1), some (.int (nI p)), some (.int (nI (dofk n p k))), some (.int (nI k))] [] (zSh ++ rw) M := by
    intro j
    induction j with
    | zero => intro k   hk hj; exact absurd hj (by omega)
    | succ j ih =>
      intro k   hk hj
      refine r_iload_n dX3_deedsBy_4 rfl rfl ?_
      refine r_aload_n dX3_deedsBy_5 rfl rfl ?_
      refine r_getV fl_X3_56 dX3_deedsBy_6 sh_1 rfl hS.f2 ?_
      first | refine r_icmp_geN (tgt := 34) dX3_deedsBy_9 (by decide) (by omega) (by omega) (fun c1 => ?_) (fun c1 => ?_) | refine r_icmp_ge (tgt := 34) dX3_deedsBy_9 (by decide) (fun c1 => ?_) (fun c1 => ?_)
      · refine r_iload_n dX3_deedsBy_34 rfl rfl ?_
        refine r_iret dX3_deedsBy_35 rfl (by decide) (by decide) ?_
        refine ⟨congrArg (fun x => some (Value.int x)) ?_, rfl, rfl⟩
        rw [show k = n 2 by omega]
        rfl
      · have hd := hdd k c1
        have hpk := pw_le (show k ≤ 10 by omega)
        refine r_aload_n dX3_deedsBy_12 rfl rfl ?_
        refine r_getR fl_X3_31 dX3_deedsBy_13 sh_1 rfl ?_
        refine r_iload_n dX3_deedsBy_16 rfl rfl ?_
        refine r_ialdN dX3_deedsBy_17 sh_5 (by omega) (by decide) (hS.a5 (by omega)) ?_
        refine r_iload_n dX3_deedsBy_18 rfl rfl ?_
        first | refine r_icmp_neN (tgt := 28) dX3_deedsBy_19 (by decide) (by omega) (by omega) (fun c2 => ?_) (fun c2 => ?_) | refine r_icmp_ne (tgt := 28) dX3_deedsBy_19 (by decide) (fun c2 => ?_) (fun c2 => ?_)
        · have hX : dofk n p (k + 1) = dofk n p k := by rw [dofk, if_neg c2, Nat.or_zero]
          first | refine r_iincN dX3_deedsBy_28 rfl rfl (by decide) ?_ | refine r_iinc dX3_deedsBy_28 rfl rfl rfl (by decide) ?_
          refine r_goto (tgt := 4) dX3_deedsBy_31 (by decide) ?_
          have h9 := ih (k + 1) (by omega) (by omega)
          rw [hX] at h9
          exact h9
        · have hX : dofk n p (k + 1) = dofk n p k ||| (1 * 2 ^ k) := by rw [dofk, if_pos c2]
          refine r_iload_n dX3_deedsBy_22 rfl rfl ?_
          refine r_iconst (v := nI 1) dX3_deedsBy_23 rfl ?_
          refine r_iload_n dX3_deedsBy_24 rfl rfl ?_
          first | refine r_ishlN dX3_deedsBy_25 (by omega) (by omega) ?_ | refine r_ishl dX3_deedsBy_25 ?_
          first | refine r_iorN dX3_deedsBy_26 ?_ | refine r_ior dX3_deedsBy_26 ?_
          refine r_istore_n dX3_deedsBy_27 rfl rfl (by decide) ?_
          first | refine r_iincN dX3_deedsBy_28 rfl rfl (by decide) ?_ | refine r_iinc dX3_deedsBy_28 rfl rfl rfl (by decide) ?_
          refine r_goto (tgt := 4) dX3_deedsBy_31 (by decide) ?_
          have h9 := ih (k + 1) (by omega) (by omega)
          rw [hX] at h9
          exact h9
  exact loop (n 2 + 1) 0 (Nat.zero_le _) (by omega)

