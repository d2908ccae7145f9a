set_option maxHeartbeats 4000000 in
set_option maxRecDepth 100000 in
theorem c5_many (l : Launch) {S : List zC} {M : zM} {s : Nat} (hs : s < 1024) : CT l false 0 0 0 yX5_many cX5_many 3 (some .int) [.int (nI s)] S M (zF (some (.int (nI (mny 11 s)))) S M) := by
  refine CT.ofN (by decide) (fun _ _ => Nat.le_of_ble_eq_true rfl) ?_
  refine r_iconst (v := nI 0) dX5_many_0 rfl ?_
  refine r_istore_n dX5_many_1 rfl rfl (by decide) ?_
  refine r_iload_n dX5_many_2 rfl rfl ?_
  refine r_istore_n dX5_many_3 rfl rfl (by decide) ?_
  have loop : ∀ (j k : Nat)  (hm : mny 11 s = k + mny (11 - k) (itk k s)), k ≤ 10 → 10 < k + j → RA l none (zR 0 0 0) yX5_many cX5_many 3 (some .int) (zF (some (.int (nI (mny 11 s)))) S M) 0 0 4 [some (.int (nI s)), some (.int (nI k)), some (.int (nI (itk k s)))] [] S M := by
    intro j
    induction j with
    | zero => intro k  hm hk hj; exact absurd hj (by omega)
    | succ j ih =>
      intro k  hm hk hj
      have hle := itk_le k s
      refine r_iload_n dX5_many_4 rfl rfl ?_
      first | refine r_if_eqB (tgt := 20) dX5_many_5 (by decide) (fun c1 => ?_) (fun c1 => ?_) | refine r_if_eqN (tgt := 20) dX5_many_5 (by decide) (by omega) (fun c1 => ?_) (fun c1 => ?_) | refine r_if_eq (tgt := 20) dX5_many_5 (by decide) (fun c1 => ?_) (fun c1 => ?_)
      · have c9 : itk k s = 0 := c1
        refine r_iload_n dX5_many_20 rfl rfl ?_
        refine r_iret dX5_many_21 rfl (by decide) (by decide) ?_
        refine ⟨congrArg (fun x => some (Value.int x)) (congrArg nI ?_), rfl, rfl⟩
        rw [hm, c9, show 11 - k = (10 - k) + 1 by omega, mny, if_pos rfl, Nat.add_zero]
      · have c9 : ¬ itk k s = 0 := c1
        have hk9 : k ≠ 10 := fun e => by rw [e, itk_10 s hs] at c9; exact c9 rfl
        first | refine r_iincN dX5_many_8 rfl rfl (by decide) ?_ | refine r_iinc dX5_many_8 rfl rfl rfl (by decide) ?_
        refine r_iload_n dX5_many_11 rfl rfl ?_
        refine r_iload_n dX5_many_12 rfl rfl ?_
        refine r_iconst (v := nI 1) dX5_many_13 rfl ?_
        first | refine r_isubN dX5_many_14 (by omega) ?_ | refine r_isub dX5_many_14 ?_
        first | refine r_iandN dX5_many_15 ?_ | refine r_iand dX5_many_15 ?_
        refine r_istore_n dX5_many_16 rfl rfl (by decide) ?_
        refine r_goto (tgt := 4) dX5_many_17 (by decide) ?_
        exact ih (k + 1) (by rw [hm, show 11 - k = (11 - (k + 1)) + 1 by omega, mny, if_neg c9]; show _ = k + 1 + mny (11 - (k + 1)) (itk k s &&& (itk k s - 1)); omega) (by omega) (by omega)
  exact loop (10 + 1) 0 (by rw [Nat.zero_add]; rfl) (Nat.zero_le _) (by omega)

set_option maxHeartbeats 4000000 in
set_option maxRecDepth 100000 in
theorem c6_bitCount (l : Launch) {S : List zC} {M : zM} (x : Int32) : CT l false 0 0 0 yJ6_bitCount_0f7a4 cJ6_bitCount_0f7a4 1 (some .int) [.int x] S M (zF (some (.int (bcx x))) S M) := by
  refine CT.ofN (by decide) (fun _ _ => Nat.le_of_ble_eq_true rfl) ?_
  refine r_iload_n dJ6_bitCount_0f7a4_0 rfl rfl ?_
  refine r_iload_n dJ6_bitCount_0f7a4_1 rfl rfl ?_
  refine r_iconst (v := nI 1) dJ6_bitCount_0f7a4_2 rfl ?_
  refine r_iushr dJ6_bitCount_0f7a4_3 rfl ?_
  refine r_ldcw kc_J6_265 dJ6_bitCount_0f7a4_4 ?_
  refine r_iand dJ6_bitCount_0f7a4_7 ?_
  refine r_isub dJ6_bitCount_0f7a4_8 ?_
  refine r_istore_n dJ6_bitCount_0f7a4_9 rfl rfl (by decide) ?_
  refine r_iload_n dJ6_bitCount_0f7a4_10 rfl rfl ?_
  refine r_ldcw kc_J6_266 dJ6_bitCount_0f7a4_11 ?_
  refine r_iand dJ6_bitCount_0f7a4_14 ?_
  refine r_iload_n dJ6_bitCount_0f7a4_15 rfl rfl ?_
  refine r_iconst (v := nI 2) dJ6_bitCount_0f7a4_16 rfl ?_
  refine r_iushr dJ6_bitCount_0f7a4_17 rfl ?_
  refine r_ldcw kc_J6_266 dJ6_bitCount_0f7a4_18 ?_
  refine r_iand dJ6_bitCount_0f7a4_21 ?_
  refine r_iadd dJ6_bitCount_0f7a4_22 ?_
  refine r_istore_n dJ6_bitCount_0f7a4_23 rfl rfl (by decide) ?_
  refine r_iload_n dJ6_bitCount_0f7a4_24 rfl rfl ?_
  refine r_iload_n dJ6_bitCount_0f7a4_25 rfl rfl ?_
  refine r_iconst (v := nI 4) dJ6_bitCount_0f7a4_26 rfl ?_
  refine r_iushr dJ6_bitCount_0f7a4_27 rfl ?_
  refine r_iadd dJ6_bitCount_0f7a4_28 ?_
  refine r_ldcw kc_J6_267 dJ6_bitCount_0f7a4_29 ?_
  refine r_iand dJ6_bitCount_0f7a4_32 ?_
  refine r_istore_n dJ6_bitCount_0f7a4_33 rfl rfl (by decide) ?_
  refine r_iload_n dJ6_bitCount_0f7a4_34 rfl rfl ?_
  refine r_iload_n dJ6_bitCount_0f7a4_35 rfl rfl ?_
  refine r_bipush (v := nI 8) dJ6_bitCount_0f7a4_36 rfl ?_
  refine r_iushr dJ6_bitCount_0f7a4_38 rfl ?_
  refine r_iadd dJ6_bitCount_0f7a4_39 ?_
  refine r_istore_n dJ6_bitCount_0f7a4_40 rfl rfl (by decide) ?_
  refine r_iload_n dJ6_bitCount_0f7a4_41 rfl rfl ?_
  refine r_iload_n dJ6_bitCount_0f7a4_42 rfl rfl ?_
  refine r_bipush (v := nI 16) dJ6_bitCount_0f7a4_43 rfl ?_
  refine r_iushr dJ6_bitCount_0f7a4_45 rfl ?_
  refine r_iadd dJ6_bitCount_0f7a4_46 ?_
  refine r_istore_n dJ6_bitCount_0f7a4_47 rfl rfl (by decide) ?_
  refine r_iload_n dJ6_bitCount_0f7a4_48 rfl rfl ?_
  refine r_bipush (v := nI 63) dJ6_bitCount_0f7a4_49 rfl ?_
  refine r_iand dJ6_bitCount_0f7a4_51 ?_
  refine r_iret dJ6_bitCount_0f7a4_52 rfl (by decide) (by decide) ?_
  exact ⟨rfl, rfl, rfl⟩

set_option maxHeartbeats 4000000 in
set_option maxRecDepth 100000 in
theorem c4_lowestOf (l : Launch) {S : List zC} {M : zM} (x : Int32) : CT l false 1 0 0 yX4_lowestOf cX4_lowestOf 1 (some .int) [.int x] S M (zF (some (.int (bcx ((x &&& -x) - nI 1)))) S M) := by
  refine CT.ofN (by decide) (fun _ _ => Nat.le_of_ble_eq_true rfl) ?_
  refine r_iload_n dX4_lowestOf_0 rfl rfl ?_
  refine r_iload_n dX4_lowestOf_1 rfl rfl ?_
  refine r_ineg dX4_lowestOf_2 ?_
  refine r_iand dX4_lowestOf_3 ?_
  refine r_iconst (v := nI 1) dX4_lowestOf_4 rfl ?_
  refine r_isub dX4_lowestOf_5 ?_
  refine r_cS1F ms_J6_bitCount_0f7a4 ml_X4_176 (c6_bitCount l _) dX4_lowestOf_6 (Nat.le_of_ble_eq_true rfl) ⟨by decide, by decide⟩ ⟨by decide, by decide⟩ (fun _ h => nomatch h) ?_
  try dsimp only [zrst, List.cons_append, List.nil_append]
  refine r_iret dX4_lowestOf_9 rfl (by decide) (by decide) ?_
  exact ⟨rfl, rfl, rfl⟩

