/-! a new sheet -/
def gsh (x w k : Int32) : Prop := (0 ≤ x.toInt ∧ x.toInt ≤ 3) ∧ (0 ≤ w.toInt ∧ w.toInt ≤ 3) ∧ (0 ≤ k.toInt ∧ k.toInt ≤ 24)
def sp_sheet (x w k : Int32) : Int32 := if (0 ≤ x.toInt ∧ x.toInt ≤ 3) ∧ (0 ≤ w.toInt ∧ w.toInt ≤ 3) ∧ k.toInt ≤ 24 then (if k.toInt < 0 then -14 else k) else -1
theorem set_two {A : List zC} {c c' d : zC} : ((A ++ [c]) ++ [d]).set A.length c' = A ++ [c', d] := by
  rw [List.append_assoc, List.set_append_right _ _ (Nat.le_refl _), Nat.sub_self]
  rfl
set_option maxHeartbeats 4000000 in
theorem c2_init (l : Launch) {S : List zC} {M : zM} {o L N : Nat} (hc : S[o]? = some (.inr (2, [none, some none]))) (hwf : zwf S M) (hN : N ≤ 24) : CT l true 1 1 24 yX2_init cX2_init 3 none [.ref o, .int (nI L), .int (nI N)] S M (fun v S' M' => v = none ∧ S' = (S ++ [Sum.inl (1, N)]).set o (Sum.inr (2, [none, some (some S.length)])) ∧ M' = zL (zI M o (upd (M.1 o) 0 (nI L))) S.length (fun _ => 0)) := by
  have ho : o < S.length := (List.getElem?_eq_some_iff.mp hc).1
  refine CT.of (al := true) (by decide) (fun _ _ => Nat.le_of_ble_eq_true rfl) ?_
  refine r_aload_n dX2_init_0 rfl rfl ?_
  refine r_objInit ml_X2_3 dX2_init_1 (by decide) (Nat.le_of_ble_eq_true rfl) ?_
  refine r_aload_n dX2_init_4 rfl rfl ?_
  refine r_iload_n dX2_init_5 rfl rfl ?_
  refine r_putIF ff_X2_9 rfl dX2_init_6 rfl rfl hc rfl ?_
  refine r_aload_n dX2_init_9 rfl rfl ?_
  refine r_iload_n dX2_init_10 rfl rfl ?_
  refine r_newl (N := N) ak_long (by omega) hwf (fun v hv => ?_) (fun v hv => ?_) (by decide) (show 0 + N ≤ 24 by omega) dX2_init_11 ?_
  · have hv : some v ∈ [some (Value.ref o), some (.int (nI L)), some (.int (nI N))] := hv
    simp only [List.mem_cons, Option.some.injEq, List.not_mem_nil, or_false] at hv
    rcases hv with rfl | rfl | rfl
    · exact ho
    · exact trivial
    · exact trivial
  · simp only [List.mem_cons, List.not_mem_nil, or_false] at hv
    subst hv
    exact ho
  refine r_putR ff_X2_15 rfl dX2_init_13 (fun _ => rfl) (fun _ => rfl) ((List.getElem?_append_left ho).trans hc) (by decide) ?_
  refine r_vret dX2_init_16 rfl (by decide) (show 0 + N ≤ 24 by omega) ?_
  exact ⟨rfl, rfl, rfl⟩
def rw2 (rw : List zC) (N : Nat) : List zC := rw ++ [.inr (2, [none, some (some (45 + rw.length + 1))]), .inl (1, N)]
def mc_sheet (rw : List zC) (j L : Nat) (M : zM) : zM := zO (zL (zI (zI M (45 + rw.length) (fun _ => 0)) (45 + rw.length) (upd (fun _ => 0) 0 (nI L))) (45 + rw.length + 1) (fun _ => 0)) 33 (va_up (M.2.2 33) j (some (45 + rw.length)))
theorem zSh_len (rw : List zC) : (zSh ++ rw).length = 45 + rw.length := by
  rw [List.length_append]
  rfl
theorem rw2_len (rw : List zC) (N : Nat) : (zSh ++ rw2 rw N).length = 45 + rw.length + 2 := by
  rw [zSh_len, rw2, List.length_append]
  show 45 + (rw.length + 2) = _
  omega
set_option maxHeartbeats 4000000 in
set_option maxRecDepth 100000 in
theorem c4_sheet (l : Launch) {rw : List zC} {M : zM} (hwf : zwf (zSh ++ rw) M) (x w k : Int32) : CT l true 2 2 26 yX4_sheet cX4_sheet 4 (some .int) [.ref 0, .int x, .int w, .int k] (zSh ++ rw) M (fun v9 S9 M9 => v9 = some (.int (sp_sheet x w k)) ∧ ((gsh x w k ∧ S9 = zSh ++ rw2 rw (tn k) ∧ M9 = mc_sheet rw (tn x) (tn w) M) ∨ (¬ gsh x w k ∧ S9 = zSh ++ rw ∧ M9 = M))) := by
  refine CT.of (al := true) (by decide) (fun _ _ => Nat.le_of_ble_eq_true rfl) ?_
  refine r_iload_n dX4_sheet_0 rfl rfl ?_
  refine r_cS1F ms_X4_isSheet ml_X4_213 (c4_isSheet l _) dX4_sheet_1 (Nat.le_of_ble_eq_true rfl) ⟨by decide, by decide⟩ ⟨by decide, by decide⟩ (fun _ h => by cases h; exact Nat.le_refl _) ?_
  try dsimp only [zrst, List.cons_append, List.nil_append]
  first | refine r_if_eqB (tgt := 20) dX4_sheet_4 (by decide) (fun c1 => ?_) (fun c1 => ?_) | refine r_if_eqN (tgt := 20) dX4_sheet_4 (by decide) (by omega) (fun c1 => ?_) (fun c1 => ?_) | refine r_if_eq (tgt := 20) dX4_sheet_4 (by decide) (fun c1 => ?_) (fun c1 => ?_)
  · have c1 : ¬ ((0 : Int) ≤ x.toInt ∧ x.toInt < (4 : Int)) := c1
    have b1 : ¬ (0 ≤ x.toInt ∧ x.toInt ≤ 3) := by omega
    refine r_iconst (v := (-1)) dX4_sheet_20 rfl ?_
    refine r_iret dX4_sheet_21 rfl (by decide) (by decide) ?_
    refine ⟨congrArg (fun x => some (Value.int x)) ?_, Or.inr ⟨?_, rfl, rfl⟩⟩
    · rw [sp_sheet, if_neg]
      intro h9; first | exact absurd h9 (by assumption) | exact absurd h9.1 (by assumption) | exact absurd h9.2 (by assumption) | exact absurd h9.2.1 (by assumption) | exact absurd h9.2.2 (by assumption) | exact absurd h9.2.2.1 (by assumption) | exact absurd h9.2.2.2 (by assumption) | exact absurd h9.2.2.2.1 (by assumption) | exact absurd h9.2.2.2.2 (by assumption)
    · unfold gsh
      intro h9
      first | exact absurd h9.1 (by assumption) | exact absurd h9.2.1 (by assumption) | omega
  · have c1 : ((0 : Int) ≤ x.toInt ∧ x.toInt < (4 : Int)) := c1
    have g1 : 0 ≤ x.toInt ∧ x.toInt ≤ 3 := by omega
    obtain ⟨j, hj1, hj2, rfl⟩ := arg_rng (a := 0) (b := 3) (show ((0 : Nat) : Int) ≤ x.toInt ∧ x.toInt ≤ ((3 : Nat) : Int) by omega)
    refine r_iload_n dX4_sheet_7 rfl rfl ?_
    refine r_cS1F ms_X4_isLane ml_X4_216 (c4_isLane l _) dX4_sheet_8 (Nat.le_of_ble_eq_true rfl) ⟨by decide, by decide⟩ ⟨by decide, by decide⟩ (fun _ h => by cases h; exact Nat.le_refl _) ?_
    try dsimp only [zrst, List.cons_append, List.nil_append]
    first | refine r_if_eqB (tgt := 20) dX4_sheet_11 (by decide) (fun c2 => ?_) (fun c2 => ?_) | refine r_if_eqN (tgt := 20) dX4_sheet_11 (by decide) (by omega) (fun c2 => ?_) (fun c2 => ?_) | refine r_if_eq (tgt := 20) dX4_sheet_11 (by decide) (fun c2 => ?_) (fun c2 => ?_)
    · have c2 : ¬ ((0 : Int) ≤ w.toInt ∧ w.toInt < (4 : Int)) := c2
      have b2 : ¬ (0 ≤ w.toInt ∧ w.toInt ≤ 3) := by omega
      refine r_iconst (v := (-1)) dX4_sheet_20 rfl ?_
      refine r_iret dX4_sheet_21 rfl (by decide) (by decide) ?_
      refine ⟨congrArg (fun x => some (Value.int x)) ?_, Or.inr ⟨?_, rfl, rfl⟩⟩
      · rw [sp_sheet, if_neg]
        intro h9; first | exact absurd h9 (by assumption) | exact absurd h9.1 (by assumption) | exact absurd h9.2 (by assumption) | exact absurd h9.2.1 (by assumption) | exact absurd h9.2.2 (by assumption) | exact absurd h9.2.2.1 (by assumption) | exact absurd h9.2.2.2 (by assumption) | exact absurd h9.2.2.2.1 (by assumption) | exact absurd h9.2.2.2.2 (by assumption)
      · unfold gsh
        intro h9
        first | exact absurd h9.1 (by assumption) | exact absurd h9.2.1 (by assumption) | omega
    · have c2 : ((0 : Int) ≤ w.toInt ∧ w.toInt < (4 : Int)) := c2
      have g2 : 0 ≤ w.toInt ∧ w.toInt ≤ 3 := by omega
      obtain ⟨L, hL1, hL2, rfl⟩ := arg_rng (a := 0) (b := 3) (show ((0 : Nat) : Int) ≤ w.toInt ∧ w.toInt ≤ ((3 : Nat) : Int) by omega)
      refine r_iload_n dX4_sheet_14 rfl rfl ?_
      refine r_bipush (v := nI 24) dX4_sheet_15 rfl ?_
      refine r_icmp_le (tgt := 22) dX4_sheet_17 (by decide) (fun c9 => ?_) (fun c9 => ?_)
      · have c9 := i32_le.mp c9
        have e24 : (nI 24).toInt = 24 := rfl
        rw [e24] at c9
        refine r_iload_n dX4_sheet_22 rfl rfl ?_
        refine r_if_ge (tgt := 29) dX4_sheet_23 (by decide) (fun c3 => ?_) (fun c3 => ?_)
        · obtain ⟨N, hN1, rfl, hN2⟩ := arg_pos (ge_nneg c3)
          have hpos : 0 < (zSh ++ rw).length := by rw [zSh_len]; omega
          refine r_aload_n dX4_sheet_29 rfl rfl ?_
          refine r_getR fl_X4_37 dX4_sheet_30 sh_0 rfl ?_
          refine r_iload_n dX4_sheet_33 rfl rfl ?_
          refine r_newo no_X4_35 hwf (fun v hv => ?_) (fun v hv => ?_) (by decide) (by decide) dX4_sheet_34 ?_
          · have hv : some v ∈ [some (Value.ref 0), some (.int (nI j)), some (.int (nI L)), some (.int (nI N))] := hv
            simp only [List.mem_cons, Option.some.injEq, List.not_mem_nil, or_false] at hv
            rcases hv with rfl | rfl | rfl | rfl
            · exact hpos
            · exact trivial
            · exact trivial
            · exact trivial
          · simp only [List.mem_cons, List.not_mem_nil, or_false] at hv
            rcases hv with rfl | rfl
            · exact trivial
            · have h33 : 33 < (zSh ++ rw).length := by rw [zSh_len]; exact Nat.lt_of_lt_of_le (by decide) (Nat.le_add_right 45 _)
              exact h33
          refine r_dup dX4_sheet_37 rfl ?_
          refine r_iload_n dX4_sheet_38 rfl rfl ?_
          refine r_iload_n dX4_sheet_39 rfl rfl ?_
          have hlast : ((zSh ++ rw) ++ [Sum.inr (2, [none, some none])])[(zSh ++ rw).length]? = some (Sum.inr (2, [none, some none])) := by
            rw [List.getElem?_append_right (Nat.le_refl _), Nat.sub_self]; rfl
          have hwf2 : zwf ((zSh ++ rw) ++ [Sum.inr (2, [none, some none])]) (zI M (zSh ++ rw).length (fun _ => 0)) := by
            refine ⟨fun i ci fl hi k j hk => ?_, fun i k n hi x j hj => ?_⟩
            · by_cases hlt : i < (zSh ++ rw).length
              · rw [List.getElem?_append_left hlt] at hi
                have := hwf.1 i ci fl hi k j hk
                rw [List.length_append]; omega
              · rw [List.getElem?_append_right (by omega)] at hi
                have h1 := List.mem_of_getElem? hi
                simp only [List.mem_singleton, Sum.inr.injEq, Prod.mk.injEq] at h1
                obtain ⟨-, rfl⟩ := h1
                have h2 := List.mem_of_getElem? hk
                simp at h2
            · by_cases hlt : i < (zSh ++ rw).length
              · rw [List.getElem?_append_left hlt] at hi
                have := hwf.2 i k n hi x j hj
                rw [List.length_append]; omega
              · rw [List.getElem?_append_right (by omega)] at hi
                have h1 := List.mem_of_getElem? hi
                simp at h1
          refine r_callI (as := [.int (nI L), .int (nI N)]) mi_X2_init ml_X4_236 (c2_init l hlast hwf2 (by omega)) dX4_sheet_40 rfl rfl (Nat.le_of_ble_eq_true rfl) ⟨by decide, by decide⟩ ⟨by decide, by decide⟩ (fun v hv => ?_) (fun v hv => ?_) (fun v S9 M9 hq => ?_)
          · have hv : some v ∈ [some (Value.ref 0), some (.int (nI j)), some (.int (nI L)), some (.int (nI N))] := hv
            simp only [List.mem_cons, Option.some.injEq, List.not_mem_nil, or_false] at hv
            rcases hv with rfl | rfl | rfl | rfl
            · show 0 < _
              rw [List.length_append]; simp
            · exact trivial
            · exact trivial
            · exact trivial
          · simp only [List.mem_cons, List.not_mem_nil, or_false] at hv
            rcases hv with rfl | rfl | rfl
            · show _ < _
              rw [List.length_append]; simp
            · exact trivial
            · have h33 : 33 < ((zSh ++ rw) ++ [Sum.inr (2, [none, some none])]).length := by rw [List.length_append, zSh_len, Nat.add_assoc]; exact Nat.lt_of_lt_of_le (by decide) (Nat.le_add_right 45 _)
              exact h33
          obtain ⟨rfl, rfl, rfl⟩ := hq
          rw [set_two, zI_at]
          have hSe : (zSh ++ rw) ++ [Sum.inr (2, [none, some (some ((zSh ++ rw) ++ [Sum.inr (2, [none, some none])]).length)]), Sum.inl (1, N)] = zSh ++ rw2 rw N := by
            rw [List.length_append, zSh_len, List.append_assoc]; rfl
          rw [hSe]
          refine ⟨?_, by rw [rw2_len, zSh_len]; omega⟩
          have hlen1 : ((zSh ++ rw) ++ [Sum.inr (2, [none, some none])]).length = 45 + rw.length + 1 := by rw [List.length_append, zSh_len]; rfl
          rw [hlen1, zSh_len]
          dsimp only [zrst, List.nil_append]
          have hrow : (zSh ++ rw2 rw N)[45 + rw.length]? = some (Sum.inr (2, [none, some (some (45 + rw.length + 1))])) := by
            rw [rw2, ← List.append_assoc, List.getElem?_append_right (by rw [zSh_len]; exact Nat.le_refl _), zSh_len, Nat.sub_self]; rfl
          refine r_astS dX4_sheet_43 sh_33 (by omega) (by decide) hrow ?_
          refine r_iload_n dX4_sheet_44 rfl rfl ?_
          refine r_iret dX4_sheet_45 rfl (by decide) (by decide) ?_
          refine ⟨congrArg (fun x => some (Value.int x)) ?_, Or.inl ⟨⟨g1, g2, by omega, by omega⟩, ?_, ?_⟩⟩
          · rw [sp_sheet, if_pos ⟨g1, g2, by omega⟩, if_neg (by omega)]
          · rw [tn_nI (show N < 2147483648 by omega)]
          · rw [tn_nI (show j < 2147483648 by omega), tn_nI (show L < 2147483648 by omega)]
            rfl
        · have n9 := neg_int (nge_neg c3)
          refine r_bipush (v := (-14)) dX4_sheet_26 rfl ?_
          refine r_iret dX4_sheet_28 rfl (by decide) (by decide) ?_
          refine ⟨congrArg (fun x => some (Value.int x)) ?_, Or.inr ⟨?_, rfl, rfl⟩⟩
          · rw [sp_sheet, if_pos ⟨g1, g2, by omega⟩, if_pos (by omega)]
          · unfold gsh; omega
      · have c9 : ¬ k.toInt ≤ 24 := fun q => c9 (i32_le.mpr (show k.toInt ≤ (nI 24).toInt from q))
        refine r_iconst (v := (-1)) dX4_sheet_20 rfl ?_
        refine r_iret dX4_sheet_21 rfl (by decide) (by decide) ?_
        refine ⟨congrArg (fun x => some (Value.int x)) ?_, Or.inr ⟨?_, rfl, rfl⟩⟩
        · rw [sp_sheet, if_neg]
          intro h9; first | exact absurd h9 (by assumption) | exact absurd h9.1 (by assumption) | exact absurd h9.2 (by assumption) | exact absurd h9.2.1 (by assumption) | exact absurd h9.2.2 (by assumption) | exact absurd h9.2.2.1 (by assumption) | exact absurd h9.2.2.2 (by assumption) | exact absurd h9.2.2.2.1 (by assumption) | exact absurd h9.2.2.2.2 (by assumption)
        · unfold gsh
          intro h9
          first | exact absurd h9.1 (by assumption) | exact absurd h9.2.1 (by assumption) | omega

def mr_sheet (x w k : Int32) (M : zM) : zM := if (0 ≤ x.toInt ∧ x.toInt ≤ 3) ∧ (0 ≤ w.toInt ∧ w.toInt ≤ 3) ∧ (0 ≤ k.toInt ∧ k.toInt ≤ 24) then fil (zI (zI M 41 (upd (M.1 41) (tn x) (nI (tn w)))) 42 (upd (M.1 42) (tn x) (nI (tn k)))) 43 (24 * tn x) 24 (fun _ => 0) else M
set_option maxHeartbeats 4000000 in
set_option maxRecDepth 100000 in
theorem c5p_sheet (l : Launch) {rw : List zC} {M : zM} (x w k : Int32) : CT l false 2 0 0 yX5_sheet cX5_sheet 5 (some .int) [.ref 34, .int x, .int w, .int k] (zSh ++ rw) M (zG (zSh ++ rw) (fun v9 M9 => v9 = some (.int (sp_sheet x w k)) ∧ M9 = mr_sheet x w k M)) := by
  refine CT.ofN (by decide) (fun _ _ => Nat.le_of_ble_eq_true rfl) ?_
  refine r_iload_n dX5_sheet_0 rfl rfl ?_
  refine r_cS1F ms_X5_isSheet ml_X5_194 (c5_isSheet l _) dX5_sheet_1 (Nat.le_of_ble_eq_true rfl) ⟨by decide, by decide⟩ ⟨by decide, by decide⟩ (fun _ h => nomatch h) ?_
  try dsimp only [zrst, List.cons_append, List.nil_append]
  first | refine r_if_eqB (tgt := 20) dX5_sheet_4 (by decide) (fun c1 => ?_) (fun c1 => ?_) | refine r_if_eqN (tgt := 20) dX5_sheet_4 (by decide) (by omega) (fun c1 => ?_) (fun c1 => ?_) | refine r_if_eq (tgt := 20) dX5_sheet_4 (by decide) (fun c1 => ?_) (fun c1 => ?_)
  · have c1 : ¬ ((0 : Int) ≤ x.toInt ∧ x.toInt < (4 : Int)) := c1
    have b1 : ¬ (0 ≤ x.toInt ∧ x.toInt ≤ 3) := by omega
    refine r_iconst (v := (-1)) dX5_sheet_20 rfl ?_
    refine r_iret dX5_sheet_21 rfl (by decide) (by decide) ?_
    refine ⟨rfl, congrArg (fun x => some (Value.int x)) ?_, ?_⟩
    · rw [sp_sheet, if_neg]
      intro h9; first | exact absurd h9 (by assumption) | exact absurd h9.1 (by assumption) | exact absurd h9.2 (by assumption) | exact absurd h9.2.1 (by assumption) | exact absurd h9.2.2 (by assumption) | exact absurd h9.2.2.1 (by assumption) | exact absurd h9.2.2.2 (by assumption) | exact absurd h9.2.2.2.1 (by assumption) | exact absurd h9.2.2.2.2 (by assumption)
    · rw [mr_sheet, if_neg]
      intro h9
      first | exact absurd h9.1 (by assumption) | exact absurd h9.2.1 (by assumption) | omega
  · have c1 : ((0 : Int) ≤ x.toInt ∧ x.toInt < (4 : Int)) := c1
    have g1 : 0 ≤ x.toInt ∧ x.toInt ≤ 3 := by omega
    obtain ⟨jx, hjx1, hjx2, rfl⟩ := arg_rng (a := 0) (b := 3) (show ((0 : Nat) : Int) ≤ x.toInt ∧ x.toInt ≤ ((3 : Nat) : Int) by omega)
    refine r_iload_n dX5_sheet_7 rfl rfl ?_
    refine r_cS1F ms_X5_isLane ml_X5_197 (c5_isLane l _) dX5_sheet_8 (Nat.le_of_ble_eq_true rfl) ⟨by decide, by decide⟩ ⟨by decide, by decide⟩ (fun _ h => nomatch h) ?_
    try dsimp only [zrst, List.cons_append, List.nil_append]
    first | refine r_if_eqB (tgt := 20) dX5_sheet_11 (by decide) (fun c2 => ?_) (fun c2 => ?_) | refine r_if_eqN (tgt := 20) dX5_sheet_11 (by decide) (by omega) (fun c2 => ?_) (fun c2 => ?_) | refine r_if_eq (tgt := 20) dX5_sheet_11 (by decide) (fun c2 => ?_) (fun c2 => ?_)
    · have c2 : ¬ ((0 : Int) ≤ w.toInt ∧ w.toInt < (4 : Int)) := c2
      have b2 : ¬ (0 ≤ w.toInt ∧ w.toInt ≤ 3) := by omega
      refine r_iconst (v := (-1)) dX5_sheet_20 rfl ?_
      refine r_iret dX5_sheet_21 rfl (by decide) (by decide) ?_
      refine ⟨rfl, congrArg (fun x => some (Value.int x)) ?_, ?_⟩
      · rw [sp_sheet, if_neg]
        intro h9; first | exact absurd h9 (by assumption) | exact absurd h9.1 (by assumption) | exact absurd h9.2 (by assumption) | exact absurd h9.2.1 (by assumption) | exact absurd h9.2.2 (by assumption) | exact absurd h9.2.2.1 (by assumption) | exact absurd h9.2.2.2 (by assumption) | exact absurd h9.2.2.2.1 (by assumption) | exact absurd h9.2.2.2.2 (by assumption)
      · rw [mr_sheet, if_neg]
        intro h9
        first | exact absurd h9.1 (by assumption) | exact absurd h9.2.1 (by assumption) | omega
    · have c2 : ((0 : Int) ≤ w.toInt ∧ w.toInt < (4 : Int)) := c2
      have g2 : 0 ≤ w.toInt ∧ w.toInt ≤ 3 := by omega
      obtain ⟨L, hL1, hL2, rfl⟩ := arg_rng (a := 0) (b := 3) (show ((0 : Nat) : Int) ≤ w.toInt ∧ w.toInt ≤ ((3 : Nat) : Int) by omega)
      refine r_iload_n dX5_sheet_14 rfl rfl ?_
      refine r_bipush (v := nI 24) dX5_sheet_15 rfl ?_
      refine r_icmp_le (tgt := 22) dX5_sheet_17 (by decide) (fun c9 => ?_) (fun c9 => ?_)
      · have c9 := i32_le.mp c9
        have e24 : (nI 24).toInt = 24 := rfl
        rw [e24] at c9
        refine r_iload_n dX5_sheet_22 rfl rfl ?_
        refine r_if_ge (tgt := 29) dX5_sheet_23 (by decide) (fun c3 => ?_) (fun c3 => ?_)
        · obtain ⟨N, hN1, rfl, hN2⟩ := arg_pos (ge_nneg c3)
          refine r_aload_n dX5_sheet_29 rfl rfl ?_
          refine r_getR fl_X5_28 dX5_sheet_30 sh_34 rfl ?_
          refine r_iload_n dX5_sheet_33 rfl rfl ?_
          refine r_iload_n dX5_sheet_34 rfl rfl ?_
          refine r_iastN dX5_sheet_35 sh_41 (by omega) (by decide) ?_
          refine r_aload_n dX5_sheet_36 rfl rfl ?_
          refine r_getR fl_X5_31 dX5_sheet_37 sh_34 rfl ?_
          refine r_iload_n dX5_sheet_40 rfl rfl ?_
          refine r_iload_n dX5_sheet_41 rfl rfl ?_
          refine r_iastN dX5_sheet_42 sh_42 (by omega) (by decide) ?_
          refine r_iconst (v := nI 0) dX5_sheet_43 rfl ?_
          refine r_istore dX5_sheet_44 rfl (by decide) ?_
          have loop : ∀ (j k : Nat) , k ≤ 24 → 24 < k + j → RA l none (zR 2 0 0) yX5_sheet cX5_sheet 5 (some .int) (zG (zSh ++ rw) (fun v9 M9 => v9 = some (.int (sp_sheet (nI jx) (nI L) (nI N))) ∧ M9 = mr_sheet (nI jx) (nI L) (nI N) M)) 0 0 46 [some (.ref 34), some (.int (nI jx)), some (.int (nI L)), some (.int (nI N)), some (.int (nI k))] [] (zSh ++ rw) (fil (zI (zI M 41 (upd (M.1 41) jx (nI L))) 42 (upd (M.1 42) jx (nI N))) 43 (24 * jx) k (fun _ => 0)) := by
            intro j
            induction j with
            | zero => intro k   hk hj; exact absurd hj (by omega)
            | succ j ih =>
              intro k   hk hj
              refine r_iload dX5_sheet_46 rfl ?_
              refine r_bipush (v := nI 24) dX5_sheet_48 rfl ?_
              first | refine r_icmp_geN (tgt := 72) dX5_sheet_50 (by decide) (by omega) (by omega) (fun c1 => ?_) (fun c1 => ?_) | refine r_icmp_ge (tgt := 72) dX5_sheet_50 (by decide) (fun c1 => ?_) (fun c1 => ?_)
              · refine r_iload_n dX5_sheet_72 rfl rfl ?_
                refine r_iret dX5_sheet_73 rfl (by decide) (by decide) ?_
                have e9 : k = 24 := by omega
                subst e9
                refine ⟨rfl, congrArg (fun x => some (Value.int x)) ?_, ?_⟩
                · rw [sp_sheet, if_pos ⟨g1, g2, by omega⟩, if_neg (by omega)]
                · rw [mr_sheet, if_pos ⟨g1, g2, by omega⟩, tn_nI (show jx < 2147483648 by omega), tn_nI (show L < 2147483648 by omega), tn_nI (show N < 2147483648 by omega)]
              · refine r_aload_n dX5_sheet_53 rfl rfl ?_
                refine r_getR fl_X5_34 dX5_sheet_54 sh_34 rfl ?_
                refine r_bipush (v := nI 24) dX5_sheet_57 rfl ?_
                refine r_iload_n dX5_sheet_59 rfl rfl ?_
                first | refine r_imulN dX5_sheet_60 ?_ | refine r_imul dX5_sheet_60 ?_
                refine r_iload dX5_sheet_61 rfl ?_
                first | refine r_iaddN dX5_sheet_63 ?_ | refine r_iadd dX5_sheet_63 ?_
                refine r_lconst (v := 0) dX5_sheet_64 rfl ?_
                refine r_lastN dX5_sheet_65 sh_43 (by omega) (by decide) ?_
                rw [fil_step (f := fun _ => 0) (N := k) (v := 0) rfl]
                first | refine r_iincN dX5_sheet_66 rfl rfl (by decide) ?_ | refine r_iinc dX5_sheet_66 rfl rfl rfl (by decide) ?_
                refine r_goto (tgt := 46) dX5_sheet_69 (by decide) ?_
                exact ih (k + 1) (by omega) (by omega)
          have h9 := loop (24 + 1) 0 (Nat.zero_le _) (by omega)
          rw [fil_0] at h9
          exact h9
        · have n9 := neg_int (nge_neg c3)
          refine r_bipush (v := (-14)) dX5_sheet_26 rfl ?_
          refine r_iret dX5_sheet_28 rfl (by decide) (by decide) ?_
          refine ⟨rfl, congrArg (fun x => some (Value.int x)) ?_, ?_⟩
          · rw [sp_sheet, if_pos ⟨g1, g2, by omega⟩, if_pos (by omega)]
          · rw [mr_sheet, if_neg (by omega)]
      · have c9 : ¬ k.toInt ≤ 24 := fun q => c9 (i32_le.mpr (show k.toInt ≤ (nI 24).toInt from q))
        refine r_iconst (v := (-1)) dX5_sheet_20 rfl ?_
        refine r_iret dX5_sheet_21 rfl (by decide) (by decide) ?_
        refine ⟨rfl, congrArg (fun x => some (Value.int x)) ?_, ?_⟩
        · rw [sp_sheet, if_neg]
          intro h9; first | exact absurd h9 (by assumption) | exact absurd h9.1 (by assumption) | exact absurd h9.2 (by assumption) | exact absurd h9.2.1 (by assumption) | exact absurd h9.2.2 (by assumption) | exact absurd h9.2.2.1 (by assumption) | exact absurd h9.2.2.2 (by assumption) | exact absurd h9.2.2.2.1 (by assumption) | exact absurd h9.2.2.2.2 (by assumption)
        · rw [mr_sheet, if_neg]
          intro h9
          first | exact absurd h9.1 (by assumption) | exact absurd h9.2.1 (by assumption) | omega

