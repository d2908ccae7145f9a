def zS4 : List zC := zSh.take 34
def zO4 : zC := .inr (4, [some none, some none, none, some none, some none, some none])
def zO5 : zC := .inr (5, [some none, some none, none, none, none, some none, some none, none, some none, some none, none, none, some none, some none, some none, some none])
set_option maxHeartbeats 4000000 in
set_option maxRecDepth 100000 in
theorem ctors (l : Launch) : ∃ K1 : zM, CT l true 2 33 912 yX4_init cX4_init 1 none [.ref 0] [zO4] zM0 (fun v S' M' => v = none ∧ S' = zS4 ∧ M' = K1) ∧ K1.1 34 = (fun _ => 0) ∧ (∀ i x, K1.2.2 i x = none) ∧ ∃ K2 : zM, CT l true 1 10 1222 yX5_init cX5_init 2 none [.ref 34] (zS4 ++ [zO5]) K1 (fun v S' M' => v = none ∧ S' = zSh ++ [] ∧ M' = K2) ∧ WI [] K2 :=
  ⟨_, k4_init l, rfl, fun _ _ => rfl, _, k5_init l, WI_0 rfl rfl rfl rfl rfl rfl rfl rfl rfl rfl rfl rfl rfl (fun _ _ => rfl)⟩
set_option maxHeartbeats 4000000 in
set_option maxRecDepth 100000 in
theorem law_all (l : Launch) {L : Nat} {xs : Nat → Int32} (hL : L ≤ 3584) : LA (scr L xs) l (some 0) room_1 yL_law cL_law 4 ret (fun v _ _ => v = some (.int (nI 1))) 0 0 0 [some (.float 9), none, none, none] [] [] zM0 := by
  obtain ⟨K1, hk1, e34, eo, K2, hk2, hw⟩ := ctors l
  have lw0 : ∀ (n : Nat) (v : Value), some v ∈ ([some (.float 9), none, none, none] : List (Option Value)) → vwf n v := by
    intro n v hv
    simp only [List.mem_cons, List.not_mem_nil, or_false, Option.some.injEq, reduceCtorEq] at hv
    subst hv
    trivial
  have lw1 : ∀ (v : Value), some v ∈ ([some (.float 9), some (.ref 0), none, none] : List (Option Value)) → vwf 34 v := by
    intro v hv
    simp only [List.mem_cons, List.not_mem_nil, or_false, Option.some.injEq, reduceCtorEq] at hv
    rcases hv with rfl | rfl
    · trivial
    · show 0 < 34
      decide
  have lw2 : ∀ (v : Value), some v ∈ ([some (.float 9), some (.ref 0), none, none] : List (Option Value)) → vwf 35 v := by
    intro v hv
    simp only [List.mem_cons, List.not_mem_nil, or_false, Option.some.injEq, reduceCtorEq] at hv
    rcases hv with rfl | rfl
    · trivial
    · show 0 < 35
      decide
  refine L_newo no_L_7 (zwf_of (by decide) (fun _ _ => rfl)) (lw0 _) (fun v hv => nomatch hv) (by decide) (by decide) dL_law_0 ?_
  have ez : zI zM0 ([] : List zC).length (fun _ => 0) = zM0 := zI_id rfl
  rw [ez]
  refine L_dup dL_law_3 rfl ?_
  refine L_callI (as := []) (st := [.ref 0]) mi_X4_init ml_L_9 hk1 dL_law_4 rfl rfl (Nat.le_of_ble_eq_true rfl) ⟨by decide, by decide⟩ ⟨by decide, by decide⟩ (lw0 _) (fun v hv => ?_) (fun v S' M' hq => ?_)
  · simp only [List.mem_cons, List.not_mem_nil, or_false] at hv
    subst hv
    show 0 < 1
    decide
  obtain ⟨rfl, rfl, rfl⟩ := hq
  refine ⟨?_, Nat.zero_le _⟩
  refine L_astore_n dL_law_7 rfl rfl (by decide) ?_
  have hz4 : zwf zS4 M' := zwf_of (by decide) eo
  refine L_newo no_L_10 hz4 lw1 (fun v hv => nomatch hv) (by decide) (by decide) dL_law_8 ?_
  have ez : zI M' zS4.length (fun _ => 0) = M' := zI_id e34
  rw [ez]
  refine L_dup dL_law_11 rfl ?_
  refine L_callI (as := []) (st := [.ref 34]) mi_X5_init ml_L_12 hk2 dL_law_12 rfl rfl (Nat.le_of_ble_eq_true rfl) ⟨by decide, by decide⟩ ⟨by decide, by decide⟩ lw2 (fun v hv => ?_) (fun v S' M' hq => ?_)
  · simp only [List.mem_cons, List.not_mem_nil, or_false] at hv
    subst hv
    show 34 < 35
    decide
  obtain ⟨rfl, rfl, rfl⟩ := hq
  refine ⟨?_, Nat.zero_le _⟩
  refine L_astore_n dL_law_15 rfl rfl (by decide) ?_
  refine L_iconst (v := nI 0) dL_law_16 rfl ?_
  refine L_istore_n dL_law_17 rfl rfl (by decide) ?_
  exact law_loop l hL 513 0 [] M' _ _ hw (Nat.zero_le _) (by omega) (by decide) (by decide)
