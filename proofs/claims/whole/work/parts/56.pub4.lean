set_option maxHeartbeats 4000000 in
set_option maxRecDepth 100000 in
theorem c0_easy (l : Launch) {rw : List zC} {M : zM} {n u : Nat → Nat} {kn : Nat} (hS : SI 1 n u kn M) (hn : NB n) {a b : Nat} (ha : 1 ≤ a ∧ a ≤ 1000) (hb : b ≤ 1000) : CT l false 1 0 0 yX0_easyReadings cX0_easyReadings 4 (some .int) [.ref 24, .int (nI a - nI b)] (zSh ++ rw) M (zF (some (.int (nI (cnt a b (n 5))))) (zSh ++ rw) M) := by
  refine CT.ofN (by decide) (fun _ _ => Nat.le_of_ble_eq_true rfl) ?_
  have hdd := hn.2.2.2.2.2.2.2.2.2.2.2
  have hkd := hn.2.2.2.2.2.2.2.2.1
  have how := hn.2.2.2.2.2.2.2.2.2.1
  have hcu := hn.2.2.2.2.2.2.2.2.2.2.1
  have hb0 := hn.1
  have hb1 := hn.2.1
  have hb2 := hn.2.2.1
  have hb3 := hn.2.2.2.1
  have hb4 := hn.2.2.2.2.1
  have hb5 := hn.2.2.2.2.2.1
  have hb6 := hn.2.2.2.2.2.2.1
  refine r_iconst (v := nI 0) dX0_easyReadings_0 rfl ?_
  refine r_istore_n dX0_easyReadings_1 rfl rfl (by decide) ?_
  refine r_iconst (v := (-1)) dX0_easyReadings_2 rfl ?_
  refine r_istore_n dX0_easyReadings_3 rfl rfl (by decide) ?_
  refine r_iload_n dX0_easyReadings_4 rfl rfl ?_
  refine r_iconst (v := nI 1) dX0_easyReadings_5 rfl ?_
  refine r_icmp_gt (tgt := 34) dX0_easyReadings_6 (by decide) (fun q9 => absurd q9 (by decide)) (fun _ => ?_)
  refine r_iload_n dX0_easyReadings_9 rfl rfl ?_
  refine r_iload_n dX0_easyReadings_10 rfl rfl ?_
  refine r_iadd dX0_easyReadings_11 ?_
  rw [gapm1 (by omega)]
  refine r_abs ml_X0_103 dX0_easyReadings_12 (by decide) (Nat.le_of_ble_eq_true rfl) (by decide) (by decide) ?_
  rw [absd (by omega) (by omega)]
  refine r_aload_n dX0_easyReadings_15 rfl rfl ?_
  refine r_getR fl_X0_37 dX0_easyReadings_16 sh_24 rfl ?_
  refine r_getV fl_X0_108 dX0_easyReadings_19 sh_1 rfl hS.f7 ?_
  refine r_icmp_gtN (tgt := 28) dX0_easyReadings_22 (by decide) (by unfold dst; omega) (by omega) (fun c1 => ?_) (fun c1 => ?_)
  · have hp0 : (if dst ((a) - 1) (b) ≤ n 5 then 1 else 0) = 0 := if_neg (by unfold dst at *; omega)
    refine r_iinc (v := nI 0) dX0_easyReadings_28 rfl (by decide) rfl (by decide) ?_
    refine r_goto (tgt := 4) dX0_easyReadings_31 (by decide) ?_
    refine r_iload_n dX0_easyReadings_4 rfl rfl ?_
    refine r_iconst (v := nI 1) dX0_easyReadings_5 rfl ?_
    refine r_icmp_gt (tgt := 34) dX0_easyReadings_6 (by decide) (fun q9 => absurd q9 (by decide)) (fun _ => ?_)
    refine r_iload_n dX0_easyReadings_9 rfl rfl ?_
    refine r_iload_n dX0_easyReadings_10 rfl rfl ?_
    refine r_iadd dX0_easyReadings_11 ?_
    rw [gapeq]
    refine r_abs ml_X0_103 dX0_easyReadings_12 (by decide) (Nat.le_of_ble_eq_true rfl) (by decide) (by decide) ?_
    rw [absd (by omega) (by omega)]
    refine r_aload_n dX0_easyReadings_15 rfl rfl ?_
    refine r_getR fl_X0_37 dX0_easyReadings_16 sh_24 rfl ?_
    refine r_getV fl_X0_108 dX0_easyReadings_19 sh_1 rfl hS.f7 ?_
    refine r_icmp_gtN (tgt := 28) dX0_easyReadings_22 (by decide) (by unfold dst; omega) (by omega) (fun c2 => ?_) (fun c2 => ?_)
    · have hp1 : (if dst (a) (b) ≤ n 5 then 1 else 0) = 0 := if_neg (by unfold dst at *; omega)
      refine r_iincN dX0_easyReadings_28 rfl rfl (by decide) ?_
      refine r_goto (tgt := 4) dX0_easyReadings_31 (by decide) ?_
      refine r_iload_n dX0_easyReadings_4 rfl rfl ?_
      refine r_iconst (v := nI 1) dX0_easyReadings_5 rfl ?_
      refine r_icmp_gt (tgt := 34) dX0_easyReadings_6 (by decide) (fun q9 => absurd q9 (by decide)) (fun _ => ?_)
      refine r_iload_n dX0_easyReadings_9 rfl rfl ?_
      refine r_iload_n dX0_easyReadings_10 rfl rfl ?_
      refine r_iadd dX0_easyReadings_11 ?_
      rw [gapeq]
      refine r_abs ml_X0_103 dX0_easyReadings_12 (by decide) (Nat.le_of_ble_eq_true rfl) (by decide) (by decide) ?_
      rw [absd (by omega) (by omega)]
      refine r_aload_n dX0_easyReadings_15 rfl rfl ?_
      refine r_getR fl_X0_37 dX0_easyReadings_16 sh_24 rfl ?_
      refine r_getV fl_X0_108 dX0_easyReadings_19 sh_1 rfl hS.f7 ?_
      refine r_icmp_gtN (tgt := 28) dX0_easyReadings_22 (by decide) (by unfold dst; omega) (by omega) (fun c3 => ?_) (fun c3 => ?_)
      · have hp2 : (if dst ((a) + 1) (b) ≤ n 5 then 1 else 0) = 0 := if_neg (by unfold dst at *; omega)
        refine r_iincN dX0_easyReadings_28 rfl rfl (by decide) ?_
        refine r_goto (tgt := 4) dX0_easyReadings_31 (by decide) ?_
        refine r_iload_n dX0_easyReadings_4 rfl rfl ?_
        refine r_iconst (v := nI 1) dX0_easyReadings_5 rfl ?_
        refine r_icmp_gt (tgt := 34) dX0_easyReadings_6 (by decide) (fun _ => ?_) (fun q9 => absurd (by decide) q9)
        refine r_iload_n dX0_easyReadings_34 rfl rfl ?_
        refine r_iret dX0_easyReadings_35 rfl (by decide) (by decide) ?_
        refine ⟨congrArg (fun x => some (Value.int x)) ?_, rfl, rfl⟩
        refine congrArg nI ?_
        unfold cnt
        rw [hp0, hp1, hp2]
      · have hp2 : (if dst ((a) + 1) (b) ≤ n 5 then 1 else 0) = 1 := if_pos (by unfold dst at *; omega)
        first | refine r_iincN dX0_easyReadings_25 rfl rfl (by decide) ?_ | refine r_iinc dX0_easyReadings_25 rfl rfl rfl (by decide) ?_
        refine r_iincN dX0_easyReadings_28 rfl rfl (by decide) ?_
        refine r_goto (tgt := 4) dX0_easyReadings_31 (by decide) ?_
        refine r_iload_n dX0_easyReadings_4 rfl rfl ?_
        refine r_iconst (v := nI 1) dX0_easyReadings_5 rfl ?_
        refine r_icmp_gt (tgt := 34) dX0_easyReadings_6 (by decide) (fun _ => ?_) (fun q9 => absurd (by decide) q9)
        refine r_iload_n dX0_easyReadings_34 rfl rfl ?_
        refine r_iret dX0_easyReadings_35 rfl (by decide) (by decide) ?_
        refine ⟨congrArg (fun x => some (Value.int x)) ?_, rfl, rfl⟩
        refine congrArg nI ?_
        unfold cnt
        rw [hp0, hp1, hp2]
    · have hp1 : (if dst (a) (b) ≤ n 5 then 1 else 0) = 1 := if_pos (by unfold dst at *; omega)
      first | refine r_iincN dX0_easyReadings_25 rfl rfl (by decide) ?_ | refine r_iinc dX0_easyReadings_25 rfl rfl rfl (by decide) ?_
      refine r_iincN dX0_easyReadings_28 rfl rfl (by decide) ?_
      refine r_goto (tgt := 4) dX0_easyReadings_31 (by decide) ?_
      refine r_iload_n dX0_easyReadings_4 rfl rfl ?_
      refine r_iconst (v := nI 1) dX0_easyReadings_5 rfl ?_
      refine r_icmp_gt (tgt := 34) dX0_easyReadings_6 (by decide) (fun q9 => absurd q9 (by decide)) (fun _ => ?_)
      refine r_iload_n dX0_easyReadings_9 rfl rfl ?_
      refine r_iload_n dX0_easyReadings_10 rfl rfl ?_
      refine r_iadd dX0_easyReadings_11 ?_
      rw [gapeq]
      refine r_abs ml_X0_103 dX0_easyReadings_12 (by decide) (Nat.le_of_ble_eq_true rfl) (by decide) (by decide) ?_
      rw [absd (by omega) (by omega)]
      refine r_aload_n dX0_easyReadings_15 rfl rfl ?_
      refine r_getR fl_X0_37 dX0_easyReadings_16 sh_24 rfl ?_
      refine r_getV fl_X0_108 dX0_easyReadings_19 sh_1 rfl hS.f7 ?_
      refine r_icmp_gtN (tgt := 28) dX0_easyReadings_22 (by decide) (by unfold dst; omega) (by omega) (fun c4 => ?_) (fun c4 => ?_)
      · have hp2 : (if dst ((a) + 1) (b) ≤ n 5 then 1 else 0) = 0 := if_neg (by unfold dst at *; omega)
        refine r_iincN dX0_easyReadings_28 rfl rfl (by decide) ?_
        refine r_goto (tgt := 4) dX0_easyReadings_31 (by decide) ?_
        refine r_iload_n dX0_easyReadings_4 rfl rfl ?_
        refine r_iconst (v := nI 1) dX0_easyReadings_5 rfl ?_
        refine r_icmp_gt (tgt := 34) dX0_easyReadings_6 (by decide) (fun _ => ?_) (fun q9 => absurd (by decide) q9)
        refine r_iload_n dX0_easyReadings_34 rfl rfl ?_
        refine r_iret dX0_easyReadings_35 rfl (by decide) (by decide) ?_
        refine ⟨congrArg (fun x => some (Value.int x)) ?_, rfl, rfl⟩
        refine congrArg nI ?_
        unfold cnt
        rw [hp0, hp1, hp2]
      · have hp2 : (if dst ((a) + 1) (b) ≤ n 5 then 1 else 0) = 1 := if_pos (by unfold dst at *; omega)
        first | refine r_iincN dX0_easyReadings_25 rfl rfl (by decide) ?_ | refine r_iinc dX0_easyReadings_25 rfl rfl rfl (by decide) ?_
        refine r_iincN dX0_easyReadings_28 rfl rfl (by decide) ?_
        refine r_goto (tgt := 4) dX0_easyReadings_31 (by decide) ?_
        refine r_iload_n dX0_easyReadings_4 rfl rfl ?_
        refine r_iconst (v := nI 1) dX0_easyReadings_5 rfl ?_
        refine r_icmp_gt (tgt := 34) dX0_easyReadings_6 (by decide) (fun _ => ?_) (fun q9 => absurd (by decide) q9)
        refine r_iload_n dX0_easyReadings_34 rfl rfl ?_
        refine r_iret dX0_easyReadings_35 rfl (by decide) (by decide) ?_
        refine ⟨congrArg (fun x => some (Value.int x)) ?_, rfl, rfl⟩
        refine congrArg nI ?_
        unfold cnt
        rw [hp0, hp1, hp2]
  · have hp0 : (if dst ((a) - 1) (b) ≤ n 5 then 1 else 0) = 1 := if_pos (by unfold dst at *; omega)
    first | refine r_iincN dX0_easyReadings_25 rfl rfl (by decide) ?_ | refine r_iinc dX0_easyReadings_25 rfl rfl rfl (by decide) ?_
    refine r_iinc (v := nI 0) dX0_easyReadings_28 rfl (by decide) rfl (by decide) ?_
    refine r_goto (tgt := 4) dX0_easyReadings_31 (by decide) ?_
    refine r_iload_n dX0_easyReadings_4 rfl rfl ?_
    refine r_iconst (v := nI 1) dX0_easyReadings_5 rfl ?_
    refine r_icmp_gt (tgt := 34) dX0_easyReadings_6 (by decide) (fun q9 => absurd q9 (by decide)) (fun _ => ?_)
    refine r_iload_n dX0_easyReadings_9 rfl rfl ?_
    refine r_iload_n dX0_easyReadings_10 rfl rfl ?_
    refine r_iadd dX0_easyReadings_11 ?_
    rw [gapeq]
    refine r_abs ml_X0_103 dX0_easyReadings_12 (by decide) (Nat.le_of_ble_eq_true rfl) (by decide) (by decide) ?_
    rw [absd (by omega) (by omega)]
    refine r_aload_n dX0_easyReadings_15 rfl rfl ?_
    refine r_getR fl_X0_37 dX0_easyReadings_16 sh_24 rfl ?_
    refine r_getV fl_X0_108 dX0_easyReadings_19 sh_1 rfl hS.f7 ?_
    refine r_icmp_gtN (tgt := 28) dX0_easyReadings_22 (by decide) (by unfold dst; omega) (by omega) (fun c5 => ?_) (fun c5 => ?_)
    · have hp1 : (if dst (a) (b) ≤ n 5 then 1 else 0) = 0 := if_neg (by unfold dst at *; omega)
      refine r_iincN dX0_easyReadings_28 rfl rfl (by decide) ?_
      refine r_goto (tgt := 4) dX0_easyReadings_31 (by decide) ?_
      refine r_iload_n dX0_easyReadings_4 rfl rfl ?_
      refine r_iconst (v := nI 1) dX0_easyReadings_5 rfl ?_
      refine r_icmp_gt (tgt := 34) dX0_easyReadings_6 (by decide) (fun q9 => absurd q9 (by decide)) (fun _ => ?_)
      refine r_iload_n dX0_easyReadings_9 rfl rfl ?_
      refine r_iload_n dX0_easyReadings_10 rfl rfl ?_
      refine r_iadd dX0_easyReadings_11 ?_
      rw [gapeq]
      refine r_abs ml_X0_103 dX0_easyReadings_12 (by decide) (Nat.le_of_ble_eq_true rfl) (by decide) (by decide) ?_
      rw [absd (by omega) (by omega)]
      refine r_aload_n dX0_easyReadings_15 rfl rfl ?_
      refine r_getR fl_X0_37 dX0_easyReadings_16 sh_24 rfl ?_
      refine r_getV fl_X0_108 dX0_easyReadings_19 sh_1 rfl hS.f7 ?_
      refine r_icmp_gtN (tgt := 28) dX0_easyReadings_22 (by decide) (by unfold dst; omega) (by omega) (fun c6 => ?_) (fun c6 => ?_)
      · have hp2 : (if dst ((a) + 1) (b) ≤ n 5 then 1 else 0) = 0 := if_neg (by unfold dst at *; omega)
        refine r_iincN dX0_easyReadings_28 rfl rfl (by decide) ?_
        refine r_goto (tgt := 4) dX0_easyReadings_31 (by decide) ?_
        refine r_iload_n dX0_easyReadings_4 rfl rfl ?_
        refine r_iconst (v := nI 1) dX0_easyReadings_5 rfl ?_
        refine r_icmp_gt (tgt := 34) dX0_easyReadings_6 (by decide) (fun _ => ?_) (fun q9 => absurd (by decide) q9)
        refine r_iload_n dX0_easyReadings_34 rfl rfl ?_
        refine r_iret dX0_easyReadings_35 rfl (by decide) (by decide) ?_
        refine ⟨congrArg (fun x => some (Value.int x)) ?_, rfl, rfl⟩
        refine congrArg nI ?_
        unfold cnt
        rw [hp0, hp1, hp2]
      · have hp2 : (if dst ((a) + 1) (b) ≤ n 5 then 1 else 0) = 1 := if_pos (by unfold dst at *; omega)
        first | refine r_iincN dX0_easyReadings_25 rfl rfl (by decide) ?_ | refine r_iinc dX0_easyReadings_25 rfl rfl rfl (by decide) ?_
        refine r_iincN dX0_easyReadings_28 rfl rfl (by decide) ?_
        refine r_goto (tgt := 4) dX0_easyReadings_31 (by decide) ?_
        refine r_iload_n dX0_easyReadings_4 rfl rfl ?_
        refine r_iconst (v := nI 1) dX0_easyReadings_5 rfl ?_
        refine r_icmp_gt (tgt := 34) dX0_easyReadings_6 (by decide) (fun _ => ?_) (fun q9 => absurd (by decide) q9)
        refine r_iload_n dX0_easyReadings_34 rfl rfl ?_
        refine r_iret dX0_easyReadings_35 rfl (by decide) (by decide) ?_
        refine ⟨congrArg (fun x => some (Value.int x)) ?_, rfl, rfl⟩
        refine congrArg nI ?_
        unfold cnt
        rw [hp0, hp1, hp2]
    · have hp1 : (if dst (a) (b) ≤ n 5 then 1 else 0) = 1 := if_pos (by unfold dst at *; omega)
      first | refine r_iincN dX0_easyReadings_25 rfl rfl (by decide) ?_ | refine r_iinc dX0_easyReadings_25 rfl rfl rfl (by decide) ?_
      refine r_iincN dX0_easyReadings_28 rfl rfl (by decide) ?_
      refine r_goto (tgt := 4) dX0_easyReadings_31 (by decide) ?_
      refine r_iload_n dX0_easyReadings_4 rfl rfl ?_
      refine r_iconst (v := nI 1) dX0_easyReadings_5 rfl ?_
      refine r_icmp_gt (tgt := 34) dX0_easyReadings_6 (by decide) (fun q9 => absurd q9 (by decide)) (fun _ => ?_)
      refine r_iload_n dX0_easyReadings_9 rfl rfl ?_
      refine r_iload_n dX0_easyReadings_10 rfl rfl ?_
      refine r_iadd dX0_easyReadings_11 ?_
      rw [gapeq]
      refine r_abs ml_X0_103 dX0_easyReadings_12 (by decide) (Nat.le_of_ble_eq_true rfl) (by decide) (by decide) ?_
      rw [absd (by omega) (by omega)]
      refine r_aload_n dX0_easyReadings_15 rfl rfl ?_
      refine r_getR fl_X0_37 dX0_easyReadings_16 sh_24 rfl ?_
      refine r_getV fl_X0_108 dX0_easyReadings_19 sh_1 rfl hS.f7 ?_
      refine r_icmp_gtN (tgt := 28) dX0_easyReadings_22 (by decide) (by unfold dst; omega) (by omega) (fun c7 => ?_) (fun c7 => ?_)
      · have hp2 : (if dst ((a) + 1) (b) ≤ n 5 then 1 else 0) = 0 := if_neg (by unfold dst at *; omega)
        refine r_iincN dX0_easyReadings_28 rfl rfl (by decide) ?_
        refine r_goto (tgt := 4) dX0_easyReadings_31 (by decide) ?_
        refine r_iload_n dX0_easyReadings_4 rfl rfl ?_
        refine r_iconst (v := nI 1) dX0_easyReadings_5 rfl ?_
        refine r_icmp_gt (tgt := 34) dX0_easyReadings_6 (by decide) (fun _ => ?_) (fun q9 => absurd (by decide) q9)
        refine r_iload_n dX0_easyReadings_34 rfl rfl ?_
        refine r_iret dX0_easyReadings_35 rfl (by decide) (by decide) ?_
        refine ⟨congrArg (fun x => some (Value.int x)) ?_, rfl, rfl⟩
        refine congrArg nI ?_
        unfold cnt
        rw [hp0, hp1, hp2]
      · have hp2 : (if dst ((a) + 1) (b) ≤ n 5 then 1 else 0) = 1 := if_pos (by unfold dst at *; omega)
        first | refine r_iincN dX0_easyReadings_25 rfl rfl (by decide) ?_ | refine r_iinc dX0_easyReadings_25 rfl rfl rfl (by decide) ?_
        refine r_iincN dX0_easyReadings_28 rfl rfl (by decide) ?_
        refine r_goto (tgt := 4) dX0_easyReadings_31 (by decide) ?_
        refine r_iload_n dX0_easyReadings_4 rfl rfl ?_
        refine r_iconst (v := nI 1) dX0_easyReadings_5 rfl ?_
        refine r_icmp_gt (tgt := 34) dX0_easyReadings_6 (by decide) (fun _ => ?_) (fun q9 => absurd (by decide) q9)
        refine r_iload_n dX0_easyReadings_34 rfl rfl ?_
        refine r_iret dX0_easyReadings_35 rfl (by decide) (by decide) ?_
        refine ⟨congrArg (fun x => some (Value.int x)) ?_, rfl, rfl⟩
        refine congrArg nI ?_
        unfold cnt
        rw [hp0, hp1, hp2]

