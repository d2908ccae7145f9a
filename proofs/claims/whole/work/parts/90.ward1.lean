theorem ex_t {f : Nat → Nat} {L c a e : Nat} (h : wh f L a < L ∧ f (wh f L a) = c) : ex f L c (a, e) = (wh f L a + 1, e) := if_pos h
theorem ex_n {f : Nat → Nat} {L c a e : Nat} (h : ¬ (wh f L a < L ∧ f (wh f L a) = c)) : ex f L c (a, e) = (wh f L a, fa e (wh f L a)) := if_neg h
theorem ki_t {f : Nat → Nat} {L a e : Nat} (h : wh f L a < L ∧ kn (f (wh f L a)) < 5) : ki f L (a, e) = (wh f L a + 1, e) := if_pos h
theorem ki_n {f : Nat → Nat} {L a e : Nat} (h : ¬ (wh f L a < L ∧ kn (f (wh f L a)) < 5)) : ki f L (a, e) = (wh f L a, fa e (wh f L a)) := if_neg h
set_option maxHeartbeats 4000000 in
set_option maxRecDepth 100000 in
theorem c1_next (l : Launch) {rw : List zC} {M0 : zM} {f : Nat → Nat} {L a e : Nat} (hR : RS f L a e M0) (hB : TB f L) (ha : a ≤ L) (he : e ≤ L + 1) : CT l false 0 0 0 yX1_next cX1_next 1 (some .int) [.ref 19] (zSh ++ rw) M0 (zG (zSh ++ rw) (fun v9 M9 => v9 = some (.int (nx f L (wh f L a))) ∧ RS f L (wh f L a) (e) M9 ∧ WF W1 M0 M9)) := by
  refine CT.ofN (by decide) (fun _ _ => Nat.le_of_ble_eq_true rfl) ?_
  have hW : WF W1 M0 M0 := WF.rf
  have hL := hB.1
  have hwb := wh_b (f := f) ha
  have loop : ∀ (j k : Nat) (M : zM) (hR : RS f L k e M) (hW : WF W1 M0 M) (hh : wh f L a = wh f L k), k ≤ L → L < k + j → RA l none (zR 0 0 0) yX1_next cX1_next 1 (some .int) (zG (zSh ++ rw) (fun v9 M9 => v9 = some (.int (nx f L (wh f L a))) ∧ RS f L (wh f L a) (e) M9 ∧ WF W1 M0 M9)) 0 0 0 [some (.ref 19)] [] (zSh ++ rw) M := by
    intro j
    induction j with
    | zero => intro k M hR hW hh hk hj; exact absurd hj (by omega)
    | succ j ih =>
      intro k M hR hW hh hk hj
      refine r_aload_n dX1_next_0 rfl rfl ?_
      refine r_getV fl_X1_28 dX1_next_1 sh_19 rfl hR.2.1 ?_
      refine r_aload_n dX1_next_4 rfl rfl ?_
      refine r_getV fl_X1_24 dX1_next_5 sh_19 rfl hR.1 ?_
      first | refine r_icmp_geN (tgt := 38) dX1_next_8 (by decide) (by omega) (by omega) (fun c1 => ?_) (fun c1 => ?_) | refine r_icmp_ge (tgt := 38) dX1_next_8 (by decide) (fun c1 => ?_) (fun c1 => ?_)
      · have h9 : wh f L a = k := hh.trans (wh_n1 c1)
        refine r_aload_n dX1_next_38 rfl rfl ?_
        refine r_getV fl_X1_28 dX1_next_39 sh_19 rfl hR.2.1 ?_
        refine r_aload_n dX1_next_42 rfl rfl ?_
        refine r_getV fl_X1_24 dX1_next_43 sh_19 rfl hR.1 ?_
        first | refine r_icmp_geN (tgt := 61) dX1_next_46 (by decide) (by omega) (by omega) (fun c2 => ?_) (fun c2 => ?_) | refine r_icmp_ge (tgt := 61) dX1_next_46 (by decide) (fun c2 => ?_) (fun c2 => ?_)
        · refine r_iconst (v := (-1)) dX1_next_61 rfl ?_
          refine r_iret dX1_next_62 rfl (by decide) (by decide) ?_
          first
          | (exfalso; omega)
          | (refine ⟨rfl, congrArg (fun x => some (Value.int x)) ?_, by rw [h9]; exact hR, hW⟩; rw [h9]; first | exact (nx_t (by omega)).symm | exact (nx_f (by omega)).symm)
          | fail "leaf"
        · refine r_aload_n dX1_next_49 rfl rfl ?_
          refine r_getR fl_X1_9 dX1_next_50 sh_19 rfl ?_
          refine r_aload_n dX1_next_53 rfl rfl ?_
          refine r_getV fl_X1_28 dX1_next_54 sh_19 rfl hR.2.1 ?_
          refine r_ialdN dX1_next_57 sh_20 (by omega) (by decide) (hR.2.2.2 _ (by omega)) ?_
          refine r_goto (tgt := 62) dX1_next_58 (by decide) ?_
          refine r_iret dX1_next_62 rfl (by decide) (by decide) ?_
          first
          | (exfalso; omega)
          | (refine ⟨rfl, congrArg (fun x => some (Value.int x)) ?_, by rw [h9]; exact hR, hW⟩; rw [h9]; first | exact (nx_t (by omega)).symm | exact (nx_f (by omega)).symm)
          | fail "leaf"
      · have hb1 := hB.2 k c1
        refine r_aload_n dX1_next_11 rfl rfl ?_
        refine r_getR fl_X1_9 dX1_next_12 sh_19 rfl ?_
        refine r_aload_n dX1_next_15 rfl rfl ?_
        refine r_getV fl_X1_28 dX1_next_16 sh_19 rfl hR.2.1 ?_
        refine r_ialdN dX1_next_19 sh_20 (by omega) (by decide) (hR.2.2.2 _ (by omega)) ?_
        refine r_bipush (v := nI 32) dX1_next_20 rfl ?_
        first | refine r_icmp_neN (tgt := 38) dX1_next_22 (by decide) (by omega) (by omega) (fun c3 => ?_) (fun c3 => ?_) | refine r_icmp_ne (tgt := 38) dX1_next_22 (by decide) (fun c3 => ?_) (fun c3 => ?_)
        · have h9 : wh f L a = k := hh.trans (wh_n2 (by omega) c3)
          refine r_aload_n dX1_next_38 rfl rfl ?_
          refine r_getV fl_X1_28 dX1_next_39 sh_19 rfl hR.2.1 ?_
          refine r_aload_n dX1_next_42 rfl rfl ?_
          refine r_getV fl_X1_24 dX1_next_43 sh_19 rfl hR.1 ?_
          first | refine r_icmp_geN (tgt := 61) dX1_next_46 (by decide) (by omega) (by omega) (fun c4 => ?_) (fun c4 => ?_) | refine r_icmp_ge (tgt := 61) dX1_next_46 (by decide) (fun c4 => ?_) (fun c4 => ?_)
          · refine r_iconst (v := (-1)) dX1_next_61 rfl ?_
            refine r_iret dX1_next_62 rfl (by decide) (by decide) ?_
            first
            | (exfalso; omega)
            | (refine ⟨rfl, congrArg (fun x => some (Value.int x)) ?_, by rw [h9]; exact hR, hW⟩; rw [h9]; first | exact (nx_t (by omega)).symm | exact (nx_f (by omega)).symm)
            | fail "leaf"
          · refine r_aload_n dX1_next_49 rfl rfl ?_
            refine r_getR fl_X1_9 dX1_next_50 sh_19 rfl ?_
            refine r_aload_n dX1_next_53 rfl rfl ?_
            refine r_getV fl_X1_28 dX1_next_54 sh_19 rfl hR.2.1 ?_
            refine r_ialdN dX1_next_57 sh_20 (by omega) (by decide) (hR.2.2.2 _ (by omega)) ?_
            refine r_goto (tgt := 62) dX1_next_58 (by decide) ?_
            refine r_iret dX1_next_62 rfl (by decide) (by decide) ?_
            first
            | (exfalso; omega)
            | (refine ⟨rfl, congrArg (fun x => some (Value.int x)) ?_, by rw [h9]; exact hR, hW⟩; rw [h9]; first | exact (nx_t (by omega)).symm | exact (nx_f (by omega)).symm)
            | fail "leaf"
        · have hc2 := c3
          refine r_aload_n dX1_next_25 rfl rfl ?_
          refine r_dup dX1_next_26 rfl ?_
          refine r_getV fl_X1_28 dX1_next_27 sh_19 rfl hR.2.1 ?_
          refine r_iconst (v := nI 1) dX1_next_30 rfl ?_
          first | refine r_iaddN dX1_next_31 ?_ | refine r_iadd dX1_next_31 ?_
          refine r_S2 hR fl_X1_28 dX1_next_32 sh_19 rfl (fun M hR hW1 => ?_)
          have hW := hW.trans hW1
          refine r_goto (tgt := 0) dX1_next_35 (by decide) ?_
          exact ih (k + 1) M hR hW (hh.trans (wh_s (by omega) hc2)) (by omega) (by omega)
  exact loop (L + 1) a M0 hR hW rfl ha (by omega)

set_option maxHeartbeats 4000000 in
set_option maxRecDepth 100000 in
theorem c1_took (l : Launch) {rw : List zC} {M0 : zM} {f : Nat → Nat} {L a e : Nat} (hR : RS f L a e M0) (hB : TB f L) (ha : a ≤ L) (he : e ≤ L + 1) {c : Nat} (hc : c ≤ 126) : CT l false 1 0 0 yX1_took cX1_took 2 (some .boolean) [.ref 19, .int (nI c)] (zSh ++ rw) M0 (zG (zSh ++ rw) (fun v9 M9 => v9 = some (.int (zb (wh f L a < L ∧ f (wh f L a) = c))) ∧ RS f L (tkA f L c a) (e) M9 ∧ WF W1 M0 M9)) := by
  refine CT.ofN (by decide) (fun _ _ => Nat.le_of_ble_eq_true rfl) ?_
  have hW : WF W1 M0 M0 := WF.rf
  have hL := hB.1
  have hwb := wh_b (f := f) ha
  refine r_aload_n dX1_took_0 rfl rfl ?_
  refine r_cV0G mv_X1_next ml_X1_51 (c1_next l hR hB ha he) dX1_took_1 (Nat.le_of_ble_eq_true rfl) ⟨by decide, by decide⟩ ⟨by decide, by decide⟩ sh_19 rfl (fun _ h => nomatch h) (fun v M1 hq => ?_)
  obtain ⟨rfl, hR, hW1⟩ := hq
  have hW := hW.trans hW1
  dsimp only [zrst, List.cons_append, List.nil_append]
  refine r_iload_n dX1_took_4 rfl rfl ?_
  refine r_icmp_eq (tgt := 10) dX1_took_5 (by decide) (fun c1 => ?_) (fun c1 => ?_)
  · have g := (nx_eq hB hc).mp c1
    refine r_aload_n dX1_took_10 rfl rfl ?_
    refine r_dup dX1_took_11 rfl ?_
    refine r_getV fl_X1_28 dX1_took_12 sh_19 rfl hR.2.1 ?_
    refine r_iconst (v := nI 1) dX1_took_15 rfl ?_
    first | refine r_iaddN dX1_took_16 ?_ | refine r_iadd dX1_took_16 ?_
    refine r_S2 hR fl_X1_28 dX1_took_17 sh_19 rfl (fun M hR hW1 => ?_)
    have hW := hW.trans hW1
    refine r_iconst (v := nI 1) dX1_took_20 rfl ?_
    refine r_zret dX1_took_21 rfl (Or.inr rfl) (by decide) (by decide) ?_
    refine ⟨rfl, congrArg (fun x => some (Value.int x)) ?_, ?_, hW⟩
    · exact (zb_t g).symm
    · rw [tkA, if_pos g]
      exact hR
  · have g := fun q => c1 ((nx_eq hB hc).mpr q)
    refine r_iconst (v := nI 0) dX1_took_8 rfl ?_
    refine r_zret dX1_took_9 rfl (Or.inl rfl) (by decide) (by decide) ?_
    refine ⟨rfl, congrArg (fun x => some (Value.int x)) ?_, ?_, hW⟩
    · exact (zb_f g).symm
    · rw [tkA, if_neg g]
      exact hR

set_option maxHeartbeats 4000000 in
set_option maxRecDepth 100000 in
theorem c1_faultAt (l : Launch) {rw : List zC} {M0 : zM} {f : Nat → Nat} {L a e : Nat} (hR : RS f L a e M0) (hB : TB f L) (ha : a ≤ L) (he : e ≤ L + 1) {p : Nat} : CT l false 0 0 0 yX1_faultAt cX1_faultAt 2 none [.ref 19, .int (nI p)] (zSh ++ rw) M0 (zG (zSh ++ rw) (fun v9 M9 => v9 = none ∧ RS f L (a) (fa e p) M9 ∧ WF W1 M0 M9)) := by
  refine CT.ofN (by decide) (fun _ _ => Nat.le_of_ble_eq_true rfl) ?_
  have hW : WF W1 M0 M0 := WF.rf
  have hL := hB.1
  have hwb := wh_b (f := f) ha
  refine r_aload_n dX1_faultAt_0 rfl rfl ?_
  refine r_getV fl_X1_31 dX1_faultAt_1 sh_19 rfl hR.2.2.1 ?_
  refine r_iconst (v := (-1)) dX1_faultAt_4 rfl ?_
  refine r_icmp_ne (tgt := 13) dX1_faultAt_5 (by decide) (fun c1 => ?_) (fun c1 => ?_)
  · have g := fun q => c1 ((fI_0 (by omega)).mpr q)
    refine r_vret dX1_faultAt_13 rfl (by decide) (by decide) ?_
    refine ⟨rfl, rfl, ?_, hW⟩
    first | (rw [fa, if_pos g]; exact hR) | (rw [fa, if_neg g]; exact hR)
  · have g := (fI_0 (by omega)).mp c1
    refine r_aload_n dX1_faultAt_8 rfl rfl ?_
    refine r_iload_n dX1_faultAt_9 rfl rfl ?_
    refine r_top (v' := .int (fI (p + 1))) (congrArg Value.int (fI_s p).symm) ?_
    refine r_S3 hR fl_X1_31 dX1_faultAt_10 sh_19 rfl (fun M hR hW1 => ?_)
    have hW := hW.trans hW1
    refine r_vret dX1_faultAt_13 rfl (by decide) (by decide) ?_
    refine ⟨rfl, rfl, ?_, hW⟩
    first | (rw [fa, if_pos g]; exact hR) | (rw [fa, if_neg g]; exact hR)

set_option maxHeartbeats 4000000 in
set_option maxRecDepth 100000 in
theorem c1_expect (l : Launch) {rw : List zC} {M0 : zM} {f : Nat → Nat} {L a e : Nat} (hR : RS f L a e M0) (hB : TB f L) (ha : a ≤ L) (he : e ≤ L + 1) {c : Nat} (hc : c ≤ 126) : CT l false 2 0 0 yX1_expect cX1_expect 2 none [.ref 19, .int (nI c)] (zSh ++ rw) M0 (zG (zSh ++ rw) (fun v9 M9 => v9 = none ∧ RS f L ((ex f L c (a, e)).1) ((ex f L c (a, e)).2) M9 ∧ WF W1 M0 M9)) := by
  refine CT.ofN (by decide) (fun _ _ => Nat.le_of_ble_eq_true rfl) ?_
  have hW : WF W1 M0 M0 := WF.rf
  have hL := hB.1
  have hwb := wh_b (f := f) ha
  refine r_aload_n dX1_expect_0 rfl rfl ?_
  refine r_iload_n dX1_expect_1 rfl rfl ?_
  refine r_cV1G mv_X1_took ml_X1_58 (c1_took l hR hB ha he hc) dX1_expect_2 (Nat.le_of_ble_eq_true rfl) ⟨by decide, by decide⟩ ⟨by decide, by decide⟩ sh_19 rfl (fun _ h => nomatch h) (fun v M1 hq => ?_)
  obtain ⟨rfl, hR, hW1⟩ := hq
  have hW := hW.trans hW1
  dsimp only [zrst, List.cons_append, List.nil_append]
  first | refine r_if_neB (tgt := 16) dX1_expect_5 (by decide) (fun c1 => ?_) (fun c1 => ?_) | refine r_if_neN (tgt := 16) dX1_expect_5 (by decide) (by omega) (fun c1 => ?_) (fun c1 => ?_) | refine r_if_ne (tgt := 16) dX1_expect_5 (by decide) (fun c1 => ?_) (fun c1 => ?_)
  · rw [tkA, if_pos c1] at hR
    have hx := ex_t (e := e) c1
    refine r_vret dX1_expect_16 rfl (by decide) (by decide) ?_
    refine ⟨rfl, rfl, ?_, hW⟩
    rw [hx]
    exact hR
  · rw [tkA, if_neg c1] at hR
    have hx := ex_n (e := e) c1
    refine r_aload_n dX1_expect_8 rfl rfl ?_
    refine r_aload_n dX1_expect_9 rfl rfl ?_
    refine r_getV fl_X1_28 dX1_expect_10 sh_19 rfl hR.2.1 ?_
    refine r_cV1G mv_X1_faultAt ml_X1_80 (c1_faultAt l hR hB (by omega) he) dX1_expect_13 (Nat.le_of_ble_eq_true rfl) ⟨by decide, by decide⟩ ⟨by decide, by decide⟩ sh_19 rfl (fun _ h => nomatch h) (fun v M1 hq => ?_)
    obtain ⟨rfl, hR, hW1⟩ := hq
    have hW := hW.trans hW1
    dsimp only [zrst, List.cons_append, List.nil_append]
    refine r_vret dX1_expect_16 rfl (by decide) (by decide) ?_
    refine ⟨rfl, rfl, ?_, hW⟩
    rw [hx]
    exact hR

set_option maxHeartbeats 4000000 in
set_option maxRecDepth 100000 in
theorem c1_readNumber (l : Launch) {rw : List zC} {M0 : zM} {f : Nat → Nat} {L a e : Nat} (hR : RS f L a e M0) (hB : TB f L) (ha : a ≤ L) (he : e ≤ L + 1) {lo hi : Nat} (hlo : lo < 1000) (hhi : hi < 1000) : CT l false 1 0 0 yX1_readNumber cX1_readNumber 6 (some .int) [.ref 19, .int (nI lo), .int (nI hi)] (zSh ++ rw) M0 (zG (zSh ++ rw) (fun v9 M9 => v9 = some (.int (nI (nv f L a))) ∧ RS f L ((nu f L lo hi (a, e)).1) ((nu f L lo hi (a, e)).2) M9 ∧ WF W1 M0 M9)) := by
  refine CT.ofN (by decide) (fun _ _ => Nat.le_of_ble_eq_true rfl) ?_
  have hW : WF W1 M0 M0 := WF.rf
  have hL := hB.1
  have hwb := wh_b (f := f) ha
  refine r_aload_n dX1_readNumber_0 rfl rfl ?_
  refine r_cV0G mv_X1_next ml_X1_51 (c1_next l hR hB ha he) dX1_readNumber_1 (Nat.le_of_ble_eq_true rfl) ⟨by decide, by decide⟩ ⟨by decide, by decide⟩ sh_19 rfl (fun _ h => nomatch h) (fun v M1 hq => ?_)
  obtain ⟨rfl, hR, hW1⟩ := hq
  have hW := hW.trans hW1
  dsimp only [zrst, List.cons_append, List.nil_append]
  refine r_istore_n dX1_readNumber_4 rfl rfl (by decide) ?_
  refine r_aload_n dX1_readNumber_5 rfl rfl ?_
  refine r_getV fl_X1_28 dX1_readNumber_6 sh_19 rfl hR.2.1 ?_
  refine r_istore dX1_readNumber_9 rfl (by decide) ?_
  refine r_iconst (v := nI 0) dX1_readNumber_11 rfl ?_
  refine r_istore dX1_readNumber_12 rfl (by decide) ?_
  have loop : ∀ (j k : Nat) (M : zM) (v : Nat) (hR : RS f L (wh f L a + k) e M) (hW : WF W1 M0 M) (hv : v + 1 ≤ 10 ^ k) (hq : wnm f L 3 (wh f L a) 0 = wnm f L (3 - k) (wh f L a + k) v) (hkL : wh f L a + k ≤ L), k ≤ 3 → 3 < k + j → RA l none (zR 1 0 0) yX1_readNumber cX1_readNumber 6 (some .int) (zG (zSh ++ rw) (fun v9 M9 => v9 = some (.int (nI (nv f L a))) ∧ RS f L ((nu f L lo hi (a, e)).1) ((nu f L lo hi (a, e)).2) M9 ∧ WF W1 M0 M9)) 0 0 14 [some (.ref 19), some (.int (nI lo)), some (.int (nI hi)), some (.int (nx f L (wh f L a + k))), some (.int (nI (wh f L a))), some (.int (nI v))] [] (zSh ++ rw) M := by
    intro j
    induction j with
    | zero => intro k M v hR hW hv hq hkL hk hj; exact absurd hj (by omega)
    | succ j ih =>
      intro k M v hR hW hv hq hkL hk hj
      have hp9 : 10 ^ k ≤ 1000 := Nat.pow_le_pow_right (by decide) hk
      refine r_aload_n dX1_readNumber_14 rfl rfl ?_
      refine r_getV fl_X1_28 dX1_readNumber_15 sh_19 rfl hR.2.1 ?_
      refine r_iload dX1_readNumber_18 rfl ?_
      first | refine r_isubN dX1_readNumber_20 (by omega) ?_ | refine r_isub dX1_readNumber_20 ?_
      refine r_iconst (v := nI 3) dX1_readNumber_21 rfl ?_
      first | refine r_icmp_geN (tgt := 87) dX1_readNumber_22 (by decide) (by omega) (by omega) (fun c1 => ?_) (fun c1 => ?_) | refine r_icmp_ge (tgt := 87) dX1_readNumber_22 (by decide) (fun c1 => ?_) (fun c1 => ?_)
      · have hx : wnm f L 3 (wh f L a) 0 = (wh f L a + k, v) := by rw [hq, show 3 - k = 0 by omega, wnm]
        refine r_aload_n dX1_readNumber_87 rfl rfl ?_
        refine r_getV fl_X1_28 dX1_readNumber_88 sh_19 rfl hR.2.1 ?_
        refine r_iload dX1_readNumber_91 rfl ?_
        first | refine r_icmp_eqN (tgt := 108) dX1_readNumber_93 (by decide) (by omega) (by omega) (fun c2 => ?_) (fun c2 => ?_) | refine r_icmp_eq (tgt := 108) dX1_readNumber_93 (by decide) (fun c2 => ?_) (fun c2 => ?_)
        · refine r_aload_n dX1_readNumber_108 rfl rfl ?_
          refine r_iload dX1_readNumber_109 rfl ?_
          refine r_cV1G mv_X1_faultAt ml_X1_80 (c1_faultAt l hR hB (by omega) he) dX1_readNumber_111 (Nat.le_of_ble_eq_true rfl) ⟨by decide, by decide⟩ ⟨by decide, by decide⟩ sh_19 rfl (fun _ h => nomatch h) (fun v M1 hq => ?_)
          obtain ⟨rfl, hR, hW1⟩ := hq
          have hW := hW.trans hW1
          dsimp only [zrst, List.cons_append, List.nil_append]
          refine r_iload dX1_readNumber_114 rfl ?_
          refine r_iret dX1_readNumber_116 rfl (by decide) (by decide) ?_
          refine ⟨rfl, congrArg (fun x => some (Value.int x)) ?_, ?_, hW⟩
          · rw [nv, hx]
          · first | (rw [nu_eq hx, if_pos (by omega)]; exact hR) | (rw [nu_eq hx, if_neg (by omega)]; exact hR)
        · refine r_iload dX1_readNumber_96 rfl ?_
          refine r_iload_n dX1_readNumber_98 rfl rfl ?_
          first | refine r_icmp_ltN (tgt := 108) dX1_readNumber_99 (by decide) (by omega) (by omega) (fun c3 => ?_) (fun c3 => ?_) | refine r_icmp_lt (tgt := 108) dX1_readNumber_99 (by decide) (fun c3 => ?_) (fun c3 => ?_)
          · refine r_aload_n dX1_readNumber_108 rfl rfl ?_
            refine r_iload dX1_readNumber_109 rfl ?_
            refine r_cV1G mv_X1_faultAt ml_X1_80 (c1_faultAt l hR hB (by omega) he) dX1_readNumber_111 (Nat.le_of_ble_eq_true rfl) ⟨by decide, by decide⟩ ⟨by decide, by decide⟩ sh_19 rfl (fun _ h => nomatch h) (fun v M1 hq => ?_)
            obtain ⟨rfl, hR, hW1⟩ := hq
            have hW := hW.trans hW1
            dsimp only [zrst, List.cons_append, List.nil_append]
            refine r_iload dX1_readNumber_114 rfl ?_
            refine r_iret dX1_readNumber_116 rfl (by decide) (by decide) ?_
            refine ⟨rfl, congrArg (fun x => some (Value.int x)) ?_, ?_, hW⟩
            · rw [nv, hx]
            · first | (rw [nu_eq hx, if_pos (by omega)]; exact hR) | (rw [nu_eq hx, if_neg (by omega)]; exact hR)
          · refine r_iload dX1_readNumber_102 rfl ?_
            refine r_iload_n dX1_readNumber_104 rfl rfl ?_
            first | refine r_icmp_leN (tgt := 114) dX1_readNumber_105 (by decide) (by omega) (by omega) (fun c4 => ?_) (fun c4 => ?_) | refine r_icmp_le (tgt := 114) dX1_readNumber_105 (by decide) (fun c4 => ?_) (fun c4 => ?_)
            · refine r_iload dX1_readNumber_114 rfl ?_
              refine r_iret dX1_readNumber_116 rfl (by decide) (by decide) ?_
              refine ⟨rfl, congrArg (fun x => some (Value.int x)) ?_, ?_, hW⟩
              · rw [nv, hx]
              · first | (rw [nu_eq hx, if_pos (by omega)]; exact hR) | (rw [nu_eq hx, if_neg (by omega)]; exact hR)
            · refine r_aload_n dX1_readNumber_108 rfl rfl ?_
              refine r_iload dX1_readNumber_109 rfl ?_
              refine r_cV1G mv_X1_faultAt ml_X1_80 (c1_faultAt l hR hB (by omega) he) dX1_readNumber_111 (Nat.le_of_ble_eq_true rfl) ⟨by decide, by decide⟩ ⟨by decide, by decide⟩ sh_19 rfl (fun _ h => nomatch h) (fun v M1 hq => ?_)
              obtain ⟨rfl, hR, hW1⟩ := hq
              have hW := hW.trans hW1
              dsimp only [zrst, List.cons_append, List.nil_append]
              refine r_iload dX1_readNumber_114 rfl ?_
              refine r_iret dX1_readNumber_116 rfl (by decide) (by decide) ?_
              refine ⟨rfl, congrArg (fun x => some (Value.int x)) ?_, ?_, hW⟩
              · rw [nv, hx]
              · first | (rw [nu_eq hx, if_pos (by omega)]; exact hR) | (rw [nu_eq hx, if_neg (by omega)]; exact hR)
      · refine r_iload_n dX1_readNumber_25 rfl rfl ?_
        refine r_bipush (v := nI 48) dX1_readNumber_26 rfl ?_
        refine r_icmp_lt (tgt := 87) dX1_readNumber_28 (by decide) (fun c5 => ?_) (fun c5 => ?_)
        · have g := (nx_lt hB).mp c5
          have hx : wnm f L 3 (wh f L a) 0 = (wh f L a + k, v) := by rw [hq]; exact wnm_no (fun q => g ⟨q.1, q.2.1⟩)
          refine r_aload_n dX1_readNumber_87 rfl rfl ?_
          refine r_getV fl_X1_28 dX1_readNumber_88 sh_19 rfl hR.2.1 ?_
          refine r_iload dX1_readNumber_91 rfl ?_
          first | refine r_icmp_eqN (tgt := 108) dX1_readNumber_93 (by decide) (by omega) (by omega) (fun c6 => ?_) (fun c6 => ?_) | refine r_icmp_eq (tgt := 108) dX1_readNumber_93 (by decide) (fun c6 => ?_) (fun c6 => ?_)
          · refine r_aload_n dX1_readNumber_108 rfl rfl ?_
            refine r_iload dX1_readNumber_109 rfl ?_
            refine r_cV1G mv_X1_faultAt ml_X1_80 (c1_faultAt l hR hB (by omega) he) dX1_readNumber_111 (Nat.le_of_ble_eq_true rfl) ⟨by decide, by decide⟩ ⟨by decide, by decide⟩ sh_19 rfl (fun _ h => nomatch h) (fun v M1 hq => ?_)
            obtain ⟨rfl, hR, hW1⟩ := hq
            have hW := hW.trans hW1
            dsimp only [zrst, List.cons_append, List.nil_append]
            refine r_iload dX1_readNumber_114 rfl ?_
            refine r_iret dX1_readNumber_116 rfl (by decide) (by decide) ?_
            refine ⟨rfl, congrArg (fun x => some (Value.int x)) ?_, ?_, hW⟩
            · rw [nv, hx]
            · first | (rw [nu_eq hx, if_pos (by omega)]; exact hR) | (rw [nu_eq hx, if_neg (by omega)]; exact hR)
          · refine r_iload dX1_readNumber_96 rfl ?_
            refine r_iload_n dX1_readNumber_98 rfl rfl ?_
            first | refine r_icmp_ltN (tgt := 108) dX1_readNumber_99 (by decide) (by omega) (by omega) (fun c7 => ?_) (fun c7 => ?_) | refine r_icmp_lt (tgt := 108) dX1_readNumber_99 (by decide) (fun c7 => ?_) (fun c7 => ?_)
            · refine r_aload_n dX1_readNumber_108 rfl rfl ?_
              refine r_iload dX1_readNumber_109 rfl ?_
              refine r_cV1G mv_X1_faultAt ml_X1_80 (c1_faultAt l hR hB (by omega) he) dX1_readNumber_111 (Nat.le_of_ble_eq_true rfl) ⟨by decide, by decide⟩ ⟨by decide, by decide⟩ sh_19 rfl (fun _ h => nomatch h) (fun v M1 hq => ?_)
              obtain ⟨rfl, hR, hW1⟩ := hq
              have hW := hW.trans hW1
              dsimp only [zrst, List.cons_append, List.nil_append]
              refine r_iload dX1_readNumber_114 rfl ?_
              refine r_iret dX1_readNumber_116 rfl (by decide) (by decide) ?_
              refine ⟨rfl, congrArg (fun x => some (Value.int x)) ?_, ?_, hW⟩
              · rw [nv, hx]
              · first | (rw [nu_eq hx, if_pos (by omega)]; exact hR) | (rw [nu_eq hx, if_neg (by omega)]; exact hR)
            · refine r_iload dX1_readNumber_102 rfl ?_
              refine r_iload_n dX1_readNumber_104 rfl rfl ?_
              first | refine r_icmp_leN (tgt := 114) dX1_readNumber_105 (by decide) (by omega) (by omega) (fun c8 => ?_) (fun c8 => ?_) | refine r_icmp_le (tgt := 114) dX1_readNumber_105 (by decide) (fun c8 => ?_) (fun c8 => ?_)
              · refine r_iload dX1_readNumber_114 rfl ?_
                refine r_iret dX1_readNumber_116 rfl (by decide) (by decide) ?_
                refine ⟨rfl, congrArg (fun x => some (Value.int x)) ?_, ?_, hW⟩
                · rw [nv, hx]
                · first | (rw [nu_eq hx, if_pos (by omega)]; exact hR) | (rw [nu_eq hx, if_neg (by omega)]; exact hR)
              · refine r_aload_n dX1_readNumber_108 rfl rfl ?_
                refine r_iload dX1_readNumber_109 rfl ?_
                refine r_cV1G mv_X1_faultAt ml_X1_80 (c1_faultAt l hR hB (by omega) he) dX1_readNumber_111 (Nat.le_of_ble_eq_true rfl) ⟨by decide, by decide⟩ ⟨by decide, by decide⟩ sh_19 rfl (fun _ h => nomatch h) (fun v M1 hq => ?_)
                obtain ⟨rfl, hR, hW1⟩ := hq
                have hW := hW.trans hW1
                dsimp only [zrst, List.cons_append, List.nil_append]
                refine r_iload dX1_readNumber_114 rfl ?_
                refine r_iret dX1_readNumber_116 rfl (by decide) (by decide) ?_
                refine ⟨rfl, congrArg (fun x => some (Value.int x)) ?_, ?_, hW⟩
                · rw [nv, hx]
                · first | (rw [nu_eq hx, if_pos (by omega)]; exact hR) | (rw [nu_eq hx, if_neg (by omega)]; exact hR)
        · have g1 := Decidable.not_not.mp (fun q => c5 ((nx_lt hB).mpr q))
          have hb1 := hB.2 _ g1.1
          refine r_iload_n dX1_readNumber_31 rfl rfl ?_
          refine r_bipush (v := nI 57) dX1_readNumber_32 rfl ?_
          refine r_icmp_gt (tgt := 87) dX1_readNumber_34 (by decide) (fun c9 => ?_) (fun c9 => ?_)
          · have g := (nx_gt hB).mp c9
            have hx : wnm f L 3 (wh f L a) 0 = (wh f L a + k, v) := by rw [hq]; exact wnm_no (by omega)
            refine r_aload_n dX1_readNumber_87 rfl rfl ?_
            refine r_getV fl_X1_28 dX1_readNumber_88 sh_19 rfl hR.2.1 ?_
            refine r_iload dX1_readNumber_91 rfl ?_
            first | refine r_icmp_eqN (tgt := 108) dX1_readNumber_93 (by decide) (by omega) (by omega) (fun c10 => ?_) (fun c10 => ?_) | refine r_icmp_eq (tgt := 108) dX1_readNumber_93 (by decide) (fun c10 => ?_) (fun c10 => ?_)
            · refine r_aload_n dX1_readNumber_108 rfl rfl ?_
              refine r_iload dX1_readNumber_109 rfl ?_
              refine r_cV1G mv_X1_faultAt ml_X1_80 (c1_faultAt l hR hB (by omega) he) dX1_readNumber_111 (Nat.le_of_ble_eq_true rfl) ⟨by decide, by decide⟩ ⟨by decide, by decide⟩ sh_19 rfl (fun _ h => nomatch h) (fun v M1 hq => ?_)
              obtain ⟨rfl, hR, hW1⟩ := hq
              have hW := hW.trans hW1
              dsimp only [zrst, List.cons_append, List.nil_append]
              refine r_iload dX1_readNumber_114 rfl ?_
              refine r_iret dX1_readNumber_116 rfl (by decide) (by decide) ?_
              refine ⟨rfl, congrArg (fun x => some (Value.int x)) ?_, ?_, hW⟩
              · rw [nv, hx]
              · first | (rw [nu_eq hx, if_pos (by omega)]; exact hR) | (rw [nu_eq hx, if_neg (by omega)]; exact hR)
            · refine r_iload dX1_readNumber_96 rfl ?_
              refine r_iload_n dX1_readNumber_98 rfl rfl ?_
              first | refine r_icmp_ltN (tgt := 108) dX1_readNumber_99 (by decide) (by omega) (by omega) (fun c11 => ?_) (fun c11 => ?_) | refine r_icmp_lt (tgt := 108) dX1_readNumber_99 (by decide) (fun c11 => ?_) (fun c11 => ?_)
              · refine r_aload_n dX1_readNumber_108 rfl rfl ?_
                refine r_iload dX1_readNumber_109 rfl ?_
                refine r_cV1G mv_X1_faultAt ml_X1_80 (c1_faultAt l hR hB (by omega) he) dX1_readNumber_111 (Nat.le_of_ble_eq_true rfl) ⟨by decide, by decide⟩ ⟨by decide, by decide⟩ sh_19 rfl (fun _ h => nomatch h) (fun v M1 hq => ?_)
                obtain ⟨rfl, hR, hW1⟩ := hq
                have hW := hW.trans hW1
                dsimp only [zrst, List.cons_append, List.nil_append]
                refine r_iload dX1_readNumber_114 rfl ?_
                refine r_iret dX1_readNumber_116 rfl (by decide) (by decide) ?_
                refine ⟨rfl, congrArg (fun x => some (Value.int x)) ?_, ?_, hW⟩
                · rw [nv, hx]
                · first | (rw [nu_eq hx, if_pos (by omega)]; exact hR) | (rw [nu_eq hx, if_neg (by omega)]; exact hR)
              · refine r_iload dX1_readNumber_102 rfl ?_
                refine r_iload_n dX1_readNumber_104 rfl rfl ?_
                first | refine r_icmp_leN (tgt := 114) dX1_readNumber_105 (by decide) (by omega) (by omega) (fun c12 => ?_) (fun c12 => ?_) | refine r_icmp_le (tgt := 114) dX1_readNumber_105 (by decide) (fun c12 => ?_) (fun c12 => ?_)
                · refine r_iload dX1_readNumber_114 rfl ?_
                  refine r_iret dX1_readNumber_116 rfl (by decide) (by decide) ?_
                  refine ⟨rfl, congrArg (fun x => some (Value.int x)) ?_, ?_, hW⟩
                  · rw [nv, hx]
                  · first | (rw [nu_eq hx, if_pos (by omega)]; exact hR) | (rw [nu_eq hx, if_neg (by omega)]; exact hR)
                · refine r_aload_n dX1_readNumber_108 rfl rfl ?_
                  refine r_iload dX1_readNumber_109 rfl ?_
                  refine r_cV1G mv_X1_faultAt ml_X1_80 (c1_faultAt l hR hB (by omega) he) dX1_readNumber_111 (Nat.le_of_ble_eq_true rfl) ⟨by decide, by decide⟩ ⟨by decide, by decide⟩ sh_19 rfl (fun _ h => nomatch h) (fun v M1 hq => ?_)
                  obtain ⟨rfl, hR, hW1⟩ := hq
                  have hW := hW.trans hW1
                  dsimp only [zrst, List.cons_append, List.nil_append]
                  refine r_iload dX1_readNumber_114 rfl ?_
                  refine r_iret dX1_readNumber_116 rfl (by decide) (by decide) ?_
                  refine ⟨rfl, congrArg (fun x => some (Value.int x)) ?_, ?_, hW⟩
                  · rw [nv, hx]
                  · first | (rw [nu_eq hx, if_pos (by omega)]; exact hR) | (rw [nu_eq hx, if_neg (by omega)]; exact hR)
          · have g2 : ¬ 57 < f (wh f L a + k) := fun q => c9 ((nx_gt hB).mpr ⟨g1.1, q⟩)
            refine r_iload dX1_readNumber_37 rfl ?_
            refine r_bipush (v := nI 10) dX1_readNumber_39 rfl ?_
            first | refine r_imulN dX1_readNumber_41 ?_ | refine r_imul dX1_readNumber_41 ?_
            refine r_iload_n dX1_readNumber_42 rfl rfl ?_
            refine r_top (v' := .int (nI (f (wh f L a + k)))) (congrArg Value.int (nx_t g1.1)) ?_
            first | refine r_iaddN dX1_readNumber_43 ?_ | refine r_iadd dX1_readNumber_43 ?_
            refine r_bipush (v := nI 48) dX1_readNumber_44 rfl ?_
            first | refine r_isubN dX1_readNumber_46 (by omega) ?_ | refine r_isub dX1_readNumber_46 ?_
            refine r_istore dX1_readNumber_47 rfl (by decide) ?_
            refine r_aload_n dX1_readNumber_49 rfl rfl ?_
            refine r_dup dX1_readNumber_50 rfl ?_
            refine r_getV fl_X1_28 dX1_readNumber_51 sh_19 rfl hR.2.1 ?_
            refine r_iconst (v := nI 1) dX1_readNumber_54 rfl ?_
            first | refine r_iaddN dX1_readNumber_55 ?_ | refine r_iadd dX1_readNumber_55 ?_
            refine r_S2 hR fl_X1_28 dX1_readNumber_56 sh_19 rfl (fun M hR hW1 => ?_)
            have hW := hW.trans hW1
            refine r_aload_n dX1_readNumber_59 rfl rfl ?_
            refine r_getV fl_X1_28 dX1_readNumber_60 sh_19 rfl hR.2.1 ?_
            refine r_aload_n dX1_readNumber_63 rfl rfl ?_
            refine r_getV fl_X1_24 dX1_readNumber_64 sh_19 rfl hR.1 ?_
            first | refine r_icmp_geN (tgt := 82) dX1_readNumber_67 (by decide) (by omega) (by omega) (fun c13 => ?_) (fun c13 => ?_) | refine r_icmp_ge (tgt := 82) dX1_readNumber_67 (by decide) (fun c13 => ?_) (fun c13 => ?_)
            · refine r_iconst (v := (-1)) dX1_readNumber_82 rfl ?_
              first | refine r_top (v' := .int (nx f L (wh f L a + (k + 1)))) (congrArg Value.int (nx_t (by omega)).symm) ?_ | refine r_top (v' := .int (nx f L (wh f L a + (k + 1)))) (congrArg Value.int (nx_f (by omega)).symm) ?_
              refine r_istore_n dX1_readNumber_83 rfl rfl (by decide) ?_
              refine r_goto (tgt := 14) dX1_readNumber_84 (by decide) ?_
              exact ih (k + 1) M _ hR hW (by rw [Nat.pow_succ]; omega) (by rw [hq, show 3 - k = (3 - (k + 1)) + 1 by omega]; exact wnm_s ⟨g1.1, g1.2, by omega⟩) (by omega) (by omega) (by omega)
            · refine r_aload_n dX1_readNumber_70 rfl rfl ?_
              refine r_getR fl_X1_9 dX1_readNumber_71 sh_19 rfl ?_
              refine r_aload_n dX1_readNumber_74 rfl rfl ?_
              refine r_getV fl_X1_28 dX1_readNumber_75 sh_19 rfl hR.2.1 ?_
              refine r_ialdN dX1_readNumber_78 sh_20 (by omega) (by decide) (hR.2.2.2 _ (by omega)) ?_
              refine r_goto (tgt := 83) dX1_readNumber_79 (by decide) ?_
              first | refine r_top (v' := .int (nx f L (wh f L a + (k + 1)))) (congrArg Value.int (nx_t (by omega)).symm) ?_ | refine r_top (v' := .int (nx f L (wh f L a + (k + 1)))) (congrArg Value.int (nx_f (by omega)).symm) ?_
              refine r_istore_n dX1_readNumber_83 rfl rfl (by decide) ?_
              refine r_goto (tgt := 14) dX1_readNumber_84 (by decide) ?_
              exact ih (k + 1) M _ hR hW (by rw [Nat.pow_succ]; omega) (by rw [hq, show 3 - k = (3 - (k + 1)) + 1 by omega]; exact wnm_s ⟨g1.1, g1.2, by omega⟩) (by omega) (by omega) (by omega)
  exact loop (3 + 1) 0 _ 0 hR hW (Nat.le_refl _) rfl (by omega) (Nat.zero_le _) (by omega)

set_option maxHeartbeats 4000000 in
set_option maxRecDepth 100000 in
theorem c1_readKind (l : Launch) {rw : List zC} {M0 : zM} {f : Nat → Nat} {L a e : Nat} (hR : RS f L a e M0) (hB : TB f L) (ha : a ≤ L) (he : e ≤ L + 1) : CT l false 4 0 0 yX1_readKind cX1_readKind 3 (some .int) [.ref 19] (zSh ++ rw) M0 (zG (zSh ++ rw) (fun v9 M9 => v9 = some (.int (nI (kv f L a))) ∧ RS f L ((ki f L (a, e)).1) ((ki f L (a, e)).2) M9 ∧ WF W1 M0 M9)) := by
  refine CT.ofN (by decide) (fun _ _ => Nat.le_of_ble_eq_true rfl) ?_
  have hW : WF W1 M0 M0 := WF.rf
  have hL := hB.1
  have hwb := wh_b (f := f) ha
  refine r_aload_n dX1_readKind_0 rfl rfl ?_
  refine r_cV0G mv_X1_next ml_X1_51 (c1_next l hR hB ha he) dX1_readKind_1 (Nat.le_of_ble_eq_true rfl) ⟨by decide, by decide⟩ ⟨by decide, by decide⟩ sh_19 rfl (fun _ h => nomatch h) (fun v M1 hq => ?_)
  obtain ⟨rfl, hR, hW1⟩ := hq
  have hW := hW.trans hW1
  dsimp only [zrst, List.cons_append, List.nil_append]
  refine r_istore_n dX1_readKind_4 rfl rfl (by decide) ?_
  refine r_iload_n dX1_readKind_5 rfl rfl ?_
  refine r_iconst (v := (-1)) dX1_readKind_6 rfl ?_
  refine r_icmp_ne (tgt := 14) dX1_readKind_7 (by decide) (fun c1 => ?_) (fun c1 => ?_)
  · have g := Decidable.not_not.mp (fun q => c1 ((nx_end hB).mpr q))
    have hb1 := hB.2 _ g
    refine r_ldcS rfl dX1_readKind_14 ?_
    refine r_iload_n dX1_readKind_16 rfl rfl ?_
    refine r_top (v' := .int (nI (f (wh f L a)))) (congrArg Value.int (nx_t g)) ?_
    refine r_i2c (v := nI (f (wh f L a))) dX1_readKind_17 (i2c_nI (by omega)) ?_
    refine r_cVX (as := [.int (nI (f (wh f L a)))]) rfl mv_J0_indexOf_0f7a4 ml_X1_74 (cJ_indexOf l (by omega)) dX1_readKind_18 rfl rfl (Nat.le_of_ble_eq_true rfl) ⟨by decide, by decide⟩ ⟨by decide, by decide⟩ (fun _ h => nomatch h) ?_
    dsimp only [zrst, List.cons_append, List.nil_append]
    refine r_istore_n dX1_readKind_21 rfl rfl (by decide) ?_
    refine r_iload_n dX1_readKind_22 rfl rfl ?_
    refine r_if_ge (tgt := 36) dX1_readKind_23 (by decide) (fun c9 => ?_) (fun c9 => ?_)
    · have g3 : wh f L a < L ∧ kn (f (wh f L a)) < 5 := ⟨g, kix_ge.mp c9⟩
      refine r_aload_n dX1_readKind_36 rfl rfl ?_
      refine r_dup dX1_readKind_37 rfl ?_
      refine r_getV fl_X1_28 dX1_readKind_38 sh_19 rfl hR.2.1 ?_
      refine r_iconst (v := nI 1) dX1_readKind_41 rfl ?_
      first | refine r_iaddN dX1_readKind_42 ?_ | refine r_iadd dX1_readKind_42 ?_
      refine r_S2 hR fl_X1_28 dX1_readKind_43 sh_19 rfl (fun M hR hW1 => ?_)
      have hW := hW.trans hW1
      refine r_iload_n dX1_readKind_46 rfl rfl ?_
      refine r_iret dX1_readKind_47 rfl (by decide) (by decide) ?_
      refine ⟨rfl, congrArg (fun x => some (Value.int x)) ?_, ?_, hW⟩
      · rw [kv, if_pos g3, kix_eq, if_pos g3.2]
      · rw [ki_t g3]
        exact hR
    · have g3 : ¬ (wh f L a < L ∧ kn (f (wh f L a)) < 5) := fun q => c9 (kix_ge.mpr q.2)
      refine r_aload_n dX1_readKind_26 rfl rfl ?_
      refine r_aload_n dX1_readKind_27 rfl rfl ?_
      refine r_getV fl_X1_28 dX1_readKind_28 sh_19 rfl hR.2.1 ?_
      refine r_cV1G mv_X1_faultAt ml_X1_80 (c1_faultAt l hR hB (by omega) he) dX1_readKind_31 (Nat.le_of_ble_eq_true rfl) ⟨by decide, by decide⟩ ⟨by decide, by decide⟩ sh_19 rfl (fun _ h => nomatch h) (fun v M1 hq => ?_)
      obtain ⟨rfl, hR, hW1⟩ := hq
      have hW := hW.trans hW1
      dsimp only [zrst, List.cons_append, List.nil_append]
      refine r_iconst (v := nI 0) dX1_readKind_34 rfl ?_
      refine r_iret dX1_readKind_35 rfl (by decide) (by decide) ?_
      refine ⟨rfl, congrArg (fun x => some (Value.int x)) ?_, ?_, hW⟩
      · rw [kv, if_neg g3]
      · rw [ki_n g3]
        exact hR
  · have g := (nx_end hB).mp c1
    refine r_iconst (v := (-1)) dX1_readKind_10 rfl ?_
    refine r_goto (tgt := 21) dX1_readKind_11 (by decide) ?_
    refine r_istore_n dX1_readKind_21 rfl rfl (by decide) ?_
    refine r_iload_n dX1_readKind_22 rfl rfl ?_
    have g3 : ¬ (wh f L a < L ∧ kn (f (wh f L a)) < 5) := fun q => g q.1
    refine r_if_ge (tgt := 36) dX1_readKind_23 (by decide) (fun q9 => absurd q9 (by decide)) (fun _ => ?_)
    refine r_aload_n dX1_readKind_26 rfl rfl ?_
    refine r_aload_n dX1_readKind_27 rfl rfl ?_
    refine r_getV fl_X1_28 dX1_readKind_28 sh_19 rfl hR.2.1 ?_
    refine r_cV1G mv_X1_faultAt ml_X1_80 (c1_faultAt l hR hB (by omega) he) dX1_readKind_31 (Nat.le_of_ble_eq_true rfl) ⟨by decide, by decide⟩ ⟨by decide, by decide⟩ sh_19 rfl (fun _ h => nomatch h) (fun v M1 hq => ?_)
    obtain ⟨rfl, hR, hW1⟩ := hq
    have hW := hW.trans hW1
    dsimp only [zrst, List.cons_append, List.nil_append]
    refine r_iconst (v := nI 0) dX1_readKind_34 rfl ?_
    refine r_iret dX1_readKind_35 rfl (by decide) (by decide) ?_
    refine ⟨rfl, congrArg (fun x => some (Value.int x)) ?_, ?_, hW⟩
    · rw [kv, if_neg g3]
    · rw [ki_n g3]
      exact hR

set_option maxHeartbeats 4000000 in
set_option maxRecDepth 100000 in
theorem c1_readFour22 (l : Launch) {rw : List zC} {M0 : zM} {f : Nat → Nat} {L a e : Nat} (hR : RS f L a e M0) (hB : TB f L) (ha : a ≤ L) (he : e ≤ L + 1) {ix lo hi : Nat} (hix : ix < 5) (hlo : lo < 1000) (hhi : hi < 1000) : CT l false 3 0 0 yX1_readFour cX1_readFour 6 none [.ref 19, .ref 22, .int (nI ix), .int (nI lo), .int (nI hi)] (zSh ++ rw) M0 (zG (zSh ++ rw) (fun v9 M9 => v9 = none ∧ RS f L (fs f L lo hi (a, e) 4).1 (fs f L lo hi (a, e) 4).2 M9 ∧ WF (W2 22) M0 M9 ∧ M9.1 22 = wrr (M0.1 22) (ix * 4) 4 (fv f L lo hi (a, e)))) := by
  refine CT.ofN (by decide) (fun _ _ => Nat.le_of_ble_eq_true rfl) ?_
  have hW : WF (W2 22) M0 M0 := WF.rf
  have hL := hB.1
  have hwb := wh_b (f := f) ha
  refine r_iconst (v := nI 0) dX1_readFour_0 rfl ?_
  refine r_istore dX1_readFour_1 rfl (by decide) ?_
  have loop : ∀ (j k : Nat) (M : zM) (hR : RS f L (fs f L lo hi (a, e) k).1 (fs f L lo hi (a, e) k).2 M) (hW : WF (W2 22) M0 M) (hr : M.1 22 = wrr (M0.1 22) (ix * 4) k (fv f L lo hi (a, e))), k ≤ 4 → 4 < k + j → RA l none (zR 3 0 0) yX1_readFour cX1_readFour 6 none (zG (zSh ++ rw) (fun v9 M9 => v9 = none ∧ RS f L (fs f L lo hi (a, e) 4).1 (fs f L lo hi (a, e) 4).2 M9 ∧ WF (W2 22) M0 M9 ∧ M9.1 22 = wrr (M0.1 22) (ix * 4) 4 (fv f L lo hi (a, e)))) 0 0 3 [some (.ref 19), some (.ref 22), some (.int (nI ix)), some (.int (nI lo)), some (.int (nI hi)), some (.int (nI k))] [] (zSh ++ rw) M := by
    intro j
    induction j with
    | zero => intro k M hR hW hr hk hj; exact absurd hj (by omega)
    | succ j ih =>
      intro k M hR hW hr hk hj
      have hsk := fs_k (f := f) (lo := lo) (hi := hi) (show SK L (a, e) from ⟨ha, he⟩) k
      refine r_iload dX1_readFour_3 rfl ?_
      refine r_iconst (v := nI 4) dX1_readFour_5 rfl ?_
      first | refine r_icmp_geN (tgt := 41) dX1_readFour_6 (by decide) (by omega) (by omega) (fun c1 => ?_) (fun c1 => ?_) | refine r_icmp_ge (tgt := 41) dX1_readFour_6 (by decide) (fun c1 => ?_) (fun c1 => ?_)
      · refine r_vret dX1_readFour_41 rfl (by decide) (by decide) ?_
        rw [show k = 4 by omega] at hR hr
        exact ⟨rfl, rfl, hR, hW, hr⟩
      · refine r_iload dX1_readFour_9 rfl ?_
        first | refine r_if_leN (tgt := 20) dX1_readFour_11 (by decide) (by omega) (fun c2 => ?_) (fun c2 => ?_) | refine r_if_le (tgt := 20) dX1_readFour_11 (by decide) (fun c2 => ?_) (fun c2 => ?_)
        · have h0 : q0 f L k (fs f L lo hi (a, e) k) = fs f L lo hi (a, e) k := if_pos c2
          refine r_aload_n dX1_readFour_20 rfl rfl ?_
          refine r_iload_n dX1_readFour_21 rfl rfl ?_
          refine r_iconst (v := nI 4) dX1_readFour_22 rfl ?_
          first | refine r_imulN dX1_readFour_23 ?_ | refine r_imul dX1_readFour_23 ?_
          refine r_iload dX1_readFour_24 rfl ?_
          first | refine r_iaddN dX1_readFour_26 ?_ | refine r_iadd dX1_readFour_26 ?_
          refine r_aload_n dX1_readFour_27 rfl rfl ?_
          refine r_iload_n dX1_readFour_28 rfl rfl ?_
          refine r_iload dX1_readFour_29 rfl ?_
          refine r_cV2G mv_X1_readNumber ml_X1_37 (c1_readNumber l hR hB hsk.1 hsk.2 hlo hhi) dX1_readFour_31 (Nat.le_of_ble_eq_true rfl) ⟨by decide, by decide⟩ ⟨by decide, by decide⟩ sh_19 rfl (fun _ h => nomatch h) (fun v M1 hq => ?_)
          obtain ⟨rfl, hR, hW1⟩ := hq
          have hr := (hW1.2 22 (by unfold W1; decide)).1.trans hr
          have hW := hW.trans hW1.w2
          dsimp only [zrst, List.cons_append, List.nil_append]
          refine r_rowK hR dX1_readFour_34 sh_22 (by omega) (by decide) (by decide) (by decide) (fun M hR h34 hW1 h9 => ?_)
          have hW := hW.trans hW1
          have hR9 : RS f L (fs f L lo hi (a, e) (k + 1)).1 (fs f L lo hi (a, e) (k + 1)).2 M := by rw [fs, h0]; exact hR
          have hr9 : M.1 22 = wrr (M0.1 22) (ix * 4) (k + 1) (fv f L lo hi (a, e)) := by
            rw [h34, hr]
            refine Eq.trans ?_ wrr_s
            rw [fv, h0]
          first | refine r_iincN dX1_readFour_35 rfl rfl (by decide) ?_ | refine r_iinc dX1_readFour_35 rfl rfl rfl (by decide) ?_
          refine r_goto (tgt := 3) dX1_readFour_38 (by decide) ?_
          exact ih (k + 1) M hR9 hW hr9 (by omega) (by omega)
        · have h0 : q0 f L k (fs f L lo hi (a, e) k) = ex f L 46 (fs f L lo hi (a, e) k) := if_neg (by omega)
          refine r_aload_n dX1_readFour_14 rfl rfl ?_
          refine r_bipush (v := nI 46) dX1_readFour_15 rfl ?_
          refine r_cV1G mv_X1_expect ml_X1_44 (c1_expect l hR hB hsk.1 hsk.2 (by decide)) dX1_readFour_17 (Nat.le_of_ble_eq_true rfl) ⟨by decide, by decide⟩ ⟨by decide, by decide⟩ sh_19 rfl (fun _ h => nomatch h) (fun v M1 hq => ?_)
          obtain ⟨rfl, hR, hW1⟩ := hq
          have hr := (hW1.2 22 (by unfold W1; decide)).1.trans hr
          have hW := hW.trans hW1.w2
          dsimp only [zrst, List.cons_append, List.nil_append]
          have hsk := ex_k (f := f) (c := 46) hsk
          refine r_aload_n dX1_readFour_20 rfl rfl ?_
          refine r_iload_n dX1_readFour_21 rfl rfl ?_
          refine r_iconst (v := nI 4) dX1_readFour_22 rfl ?_
          first | refine r_imulN dX1_readFour_23 ?_ | refine r_imul dX1_readFour_23 ?_
          refine r_iload dX1_readFour_24 rfl ?_
          first | refine r_iaddN dX1_readFour_26 ?_ | refine r_iadd dX1_readFour_26 ?_
          refine r_aload_n dX1_readFour_27 rfl rfl ?_
          refine r_iload_n dX1_readFour_28 rfl rfl ?_
          refine r_iload dX1_readFour_29 rfl ?_
          refine r_cV2G mv_X1_readNumber ml_X1_37 (c1_readNumber l hR hB hsk.1 hsk.2 hlo hhi) dX1_readFour_31 (Nat.le_of_ble_eq_true rfl) ⟨by decide, by decide⟩ ⟨by decide, by decide⟩ sh_19 rfl (fun _ h => nomatch h) (fun v M1 hq => ?_)
          obtain ⟨rfl, hR, hW1⟩ := hq
          have hr := (hW1.2 22 (by unfold W1; decide)).1.trans hr
          have hW := hW.trans hW1.w2
          dsimp only [zrst, List.cons_append, List.nil_append]
          refine r_rowK hR dX1_readFour_34 sh_22 (by omega) (by decide) (by decide) (by decide) (fun M hR h34 hW1 h9 => ?_)
          have hW := hW.trans hW1
          have hR9 : RS f L (fs f L lo hi (a, e) (k + 1)).1 (fs f L lo hi (a, e) (k + 1)).2 M := by rw [fs, h0]; exact hR
          have hr9 : M.1 22 = wrr (M0.1 22) (ix * 4) (k + 1) (fv f L lo hi (a, e)) := by
            rw [h34, hr]
            refine Eq.trans ?_ wrr_s
            rw [fv, h0]
          first | refine r_iincN dX1_readFour_35 rfl rfl (by decide) ?_ | refine r_iinc dX1_readFour_35 rfl rfl rfl (by decide) ?_
          refine r_goto (tgt := 3) dX1_readFour_38 (by decide) ?_
          exact ih (k + 1) M hR9 hW hr9 (by omega) (by omega)
  exact loop (4 + 1) 0 M0 hR hW wrr_0.symm (Nat.zero_le _) (by omega)

set_option maxHeartbeats 4000000 in
set_option maxRecDepth 100000 in
theorem c1_readFour23 (l : Launch) {rw : List zC} {M0 : zM} {f : Nat → Nat} {L a e : Nat} (hR : RS f L a e M0) (hB : TB f L) (ha : a ≤ L) (he : e ≤ L + 1) {ix lo hi : Nat} (hix : ix < 4) (hlo : lo < 1000) (hhi : hi < 1000) : CT l false 3 0 0 yX1_readFour cX1_readFour 6 none [.ref 19, .ref 23, .int (nI ix), .int (nI lo), .int (nI hi)] (zSh ++ rw) M0 (zG (zSh ++ rw) (fun v9 M9 => v9 = none ∧ RS f L (fs f L lo hi (a, e) 4).1 (fs f L lo hi (a, e) 4).2 M9 ∧ WF (W2 23) M0 M9 ∧ M9.1 23 = wrr (M0.1 23) (ix * 4) 4 (fv f L lo hi (a, e)))) := by
  refine CT.ofN (by decide) (fun _ _ => Nat.le_of_ble_eq_true rfl) ?_
  have hW : WF (W2 23) M0 M0 := WF.rf
  have hL := hB.1
  have hwb := wh_b (f := f) ha
  refine r_iconst (v := nI 0) dX1_readFour_0 rfl ?_
  refine r_istore dX1_readFour_1 rfl (by decide) ?_
  have loop : ∀ (j k : Nat) (M : zM) (hR : RS f L (fs f L lo hi (a, e) k).1 (fs f L lo hi (a, e) k).2 M) (hW : WF (W2 23) M0 M) (hr : M.1 23 = wrr (M0.1 23) (ix * 4) k (fv f L lo hi (a, e))), k ≤ 4 → 4 < k + j → RA l none (zR 3 0 0) yX1_readFour cX1_readFour 6 none (zG (zSh ++ rw) (fun v9 M9 => v9 = none ∧ RS f L (fs f L lo hi (a, e) 4).1 (fs f L lo hi (a, e) 4).2 M9 ∧ WF (W2 23) M0 M9 ∧ M9.1 23 = wrr (M0.1 23) (ix * 4) 4 (fv f L lo hi (a, e)))) 0 0 3 [some (.ref 19), some (.ref 23), some (.int (nI ix)), some (.int (nI lo)), some (.int (nI hi)), some (.int (nI k))] [] (zSh ++ rw) M := by
    intro j
    induction j with
    | zero => intro k M hR hW hr hk hj; exact absurd hj (by omega)
    | succ j ih =>
      intro k M hR hW hr hk hj
      have hsk := fs_k (f := f) (lo := lo) (hi := hi) (show SK L (a, e) from ⟨ha, he⟩) k
      refine r_iload dX1_readFour_3 rfl ?_
      refine r_iconst (v := nI 4) dX1_readFour_5 rfl ?_
      first | refine r_icmp_geN (tgt := 41) dX1_readFour_6 (by decide) (by omega) (by omega) (fun c1 => ?_) (fun c1 => ?_) | refine r_icmp_ge (tgt := 41) dX1_readFour_6 (by decide) (fun c1 => ?_) (fun c1 => ?_)
      · refine r_vret dX1_readFour_41 rfl (by decide) (by decide) ?_
        rw [show k = 4 by omega] at hR hr
        exact ⟨rfl, rfl, hR, hW, hr⟩
      · refine r_iload dX1_readFour_9 rfl ?_
        first | refine r_if_leN (tgt := 20) dX1_readFour_11 (by decide) (by omega) (fun c2 => ?_) (fun c2 => ?_) | refine r_if_le (tgt := 20) dX1_readFour_11 (by decide) (fun c2 => ?_) (fun c2 => ?_)
        · have h0 : q0 f L k (fs f L lo hi (a, e) k) = fs f L lo hi (a, e) k := if_pos c2
          refine r_aload_n dX1_readFour_20 rfl rfl ?_
          refine r_iload_n dX1_readFour_21 rfl rfl ?_
          refine r_iconst (v := nI 4) dX1_readFour_22 rfl ?_
          first | refine r_imulN dX1_readFour_23 ?_ | refine r_imul dX1_readFour_23 ?_
          refine r_iload dX1_readFour_24 rfl ?_
          first | refine r_iaddN dX1_readFour_26 ?_ | refine r_iadd dX1_readFour_26 ?_
          refine r_aload_n dX1_readFour_27 rfl rfl ?_
          refine r_iload_n dX1_readFour_28 rfl rfl ?_
          refine r_iload dX1_readFour_29 rfl ?_
          refine r_cV2G mv_X1_readNumber ml_X1_37 (c1_readNumber l hR hB hsk.1 hsk.2 hlo hhi) dX1_readFour_31 (Nat.le_of_ble_eq_true rfl) ⟨by decide, by decide⟩ ⟨by decide, by decide⟩ sh_19 rfl (fun _ h => nomatch h) (fun v M1 hq => ?_)
          obtain ⟨rfl, hR, hW1⟩ := hq
          have hr := (hW1.2 23 (by unfold W1; decide)).1.trans hr
          have hW := hW.trans hW1.w2
          dsimp only [zrst, List.cons_append, List.nil_append]
          refine r_rowK hR dX1_readFour_34 sh_23 (by omega) (by decide) (by decide) (by decide) (fun M hR h34 hW1 h9 => ?_)
          have hW := hW.trans hW1
          have hR9 : RS f L (fs f L lo hi (a, e) (k + 1)).1 (fs f L lo hi (a, e) (k + 1)).2 M := by rw [fs, h0]; exact hR
          have hr9 : M.1 23 = wrr (M0.1 23) (ix * 4) (k + 1) (fv f L lo hi (a, e)) := by
            rw [h34, hr]
            refine Eq.trans ?_ wrr_s
            rw [fv, h0]
          first | refine r_iincN dX1_readFour_35 rfl rfl (by decide) ?_ | refine r_iinc dX1_readFour_35 rfl rfl rfl (by decide) ?_
          refine r_goto (tgt := 3) dX1_readFour_38 (by decide) ?_
          exact ih (k + 1) M hR9 hW hr9 (by omega) (by omega)
        · have h0 : q0 f L k (fs f L lo hi (a, e) k) = ex f L 46 (fs f L lo hi (a, e) k) := if_neg (by omega)
          refine r_aload_n dX1_readFour_14 rfl rfl ?_
          refine r_bipush (v := nI 46) dX1_readFour_15 rfl ?_
          refine r_cV1G mv_X1_expect ml_X1_44 (c1_expect l hR hB hsk.1 hsk.2 (by decide)) dX1_readFour_17 (Nat.le_of_ble_eq_true rfl) ⟨by decide, by decide⟩ ⟨by decide, by decide⟩ sh_19 rfl (fun _ h => nomatch h) (fun v M1 hq => ?_)
          obtain ⟨rfl, hR, hW1⟩ := hq
          have hr := (hW1.2 23 (by unfold W1; decide)).1.trans hr
          have hW := hW.trans hW1.w2
          dsimp only [zrst, List.cons_append, List.nil_append]
          have hsk := ex_k (f := f) (c := 46) hsk
          refine r_aload_n dX1_readFour_20 rfl rfl ?_
          refine r_iload_n dX1_readFour_21 rfl rfl ?_
          refine r_iconst (v := nI 4) dX1_readFour_22 rfl ?_
          first | refine r_imulN dX1_readFour_23 ?_ | refine r_imul dX1_readFour_23 ?_
          refine r_iload dX1_readFour_24 rfl ?_
          first | refine r_iaddN dX1_readFour_26 ?_ | refine r_iadd dX1_readFour_26 ?_
          refine r_aload_n dX1_readFour_27 rfl rfl ?_
          refine r_iload_n dX1_readFour_28 rfl rfl ?_
          refine r_iload dX1_readFour_29 rfl ?_
          refine r_cV2G mv_X1_readNumber ml_X1_37 (c1_readNumber l hR hB hsk.1 hsk.2 hlo hhi) dX1_readFour_31 (Nat.le_of_ble_eq_true rfl) ⟨by decide, by decide⟩ ⟨by decide, by decide⟩ sh_19 rfl (fun _ h => nomatch h) (fun v M1 hq => ?_)
          obtain ⟨rfl, hR, hW1⟩ := hq
          have hr := (hW1.2 23 (by unfold W1; decide)).1.trans hr
          have hW := hW.trans hW1.w2
          dsimp only [zrst, List.cons_append, List.nil_append]
          refine r_rowK hR dX1_readFour_34 sh_23 (by omega) (by decide) (by decide) (by decide) (fun M hR h34 hW1 h9 => ?_)
          have hW := hW.trans hW1
          have hR9 : RS f L (fs f L lo hi (a, e) (k + 1)).1 (fs f L lo hi (a, e) (k + 1)).2 M := by rw [fs, h0]; exact hR
          have hr9 : M.1 23 = wrr (M0.1 23) (ix * 4) (k + 1) (fv f L lo hi (a, e)) := by
            rw [h34, hr]
            refine Eq.trans ?_ wrr_s
            rw [fv, h0]
          first | refine r_iincN dX1_readFour_35 rfl rfl (by decide) ?_ | refine r_iinc dX1_readFour_35 rfl rfl rfl (by decide) ?_
          refine r_goto (tgt := 3) dX1_readFour_38 (by decide) ?_
          exact ih (k + 1) M hR9 hW hr9 (by omega) (by omega)
  exact loop (4 + 1) 0 M0 hR hW wrr_0.symm (Nat.zero_le _) (by omega)

