def rx (f : Nat → Nat) (L : Nat) (s : Nat × Nat) : Nat × Nat := if s.2 = 0 then (wh f L s.1, if wh f L s.1 < L ∧ f (wh f L s.1) = 44 then wh f L s.1 + 1 else 0) else s
section RXL
variable {f : Nat → Nat} {L a k : Nat} {g : Nat → Nat}
theorem rx_1 {s : Nat × Nat} (h : s.2 ≠ 0) : rx f L s = s := if_neg h
theorem rx_n (h : ¬ (wh f L a < L ∧ f (wh f L a) = 44)) : rx f L (a, 0) = (wh f L a, 0) := by
  unfold rx
  rw [if_pos rfl]
  dsimp only
  rw [if_neg h]
theorem rx_t (h : wh f L a < L ∧ f (wh f L a) = 44) : rx f L (a, 0) = (wh f L a, wh f L a + 1) := by
  unfold rx
  rw [if_pos rfl]
  dsimp only
  rw [if_pos h]
theorem pl_exit {j : Nat} (hk : k ≠ 0) (ha : a ≤ L) (h : ¬ (wh f L a < L ∧ f (wh f L a) = 44)) : rx f L (pl f L j k (a, 0) g).1 = (wh f L a, 0) ∧ (pl f L j k (a, 0) g).2.1 = k ∧ (pl f L j k (a, 0) g).2.2 = g := by
  cases j with
  | zero => exact ⟨rx_n h, rfl, rfl⟩
  | succ j =>
    rw [pl_x rfl ⟨hk, h⟩]
    refine ⟨?_, rfl, rfl⟩
    have e := wh_wh (f := f) ha
    refine (rx_n ?_).trans ?_
    · rw [e]; exact h
    · rw [e]
theorem sl_exit {j : Nat} (hk : k ≠ 0) (ha : a ≤ L) (h : ¬ (wh f L a < L ∧ f (wh f L a) = 44)) : rx f L (sl f L j k (a, 0) g).1 = (wh f L a, 0) ∧ (sl f L j k (a, 0) g).2.1 = k ∧ (sl f L j k (a, 0) g).2.2 = g := by
  cases j with
  | zero => exact ⟨rx_n h, rfl, rfl⟩
  | succ j =>
    rw [sl_x rfl ⟨hk, h⟩]
    refine ⟨?_, rfl, rfl⟩
    have e := wh_wh (f := f) ha
    refine (rx_n ?_).trans ?_
    · rw [e]; exact h
    · rw [e]
theorem wpG_eq {a' : Nat} {r1 : Nat → Nat} (hsc : sc f L k (a, 0) = (a', 0)) (hr : r1 = g) (hc : kn (ltr f L (wh f L a')) < 5) : wrN (upN r1 (5 * k) (kn (ltr f L (wh f L a')))) (5 * k + 1) 4 (fv f L 10 99 (wh f L a' + 1, 0)) = wpG f L k (a, 0) g := by
  have h1 := ltr_k.mp hc
  funext j
  unfold wrN upN wpG
  rw [hsc, ki_t h1, kv, if_pos h1, ltr_t h1.1, hr]
  by_cases h : j = 5 * k
  · rw [if_neg (by omega), if_pos h, if_pos h]
  · rw [if_neg h, if_neg h]
theorem wtG_eq {a' : Nat} {r1 : Nat → Nat} (hsc : sc f L k (a, 0) = (a', 0)) (hr : r1 = g) : wrN r1 (25 + 4 * k) 4 (fv f L 0 199 (a', 0)) = wtG f L k (a, 0) g := by
  unfold wrN wtG
  rw [hsc, hr]
end RXL
set_option maxHeartbeats 4000000 in
set_option maxRecDepth 100000 in
theorem c5_readFour (l : Launch) {rw : List zC} {M0 : zM} {t : Nat → Nat → Nat} {p : Nat} {rd : Nat → Nat} {to lo hi : Nat} (hR : RI (pt t p 0 rd) M0) (hB : TB (t 36) (t 34 2)) (hp : p ≤ (t 34 2)) (hto : to + 4 ≤ 41) (hlo : lo < 1000) (hhi : hi < 1000) : CT l false 2 0 0 yX5_readFour cX5_readFour 6 none [.ref 34, .int (nI to), .int (nI lo), .int (nI hi)] (zSh ++ rw) M0 (zG (zSh ++ rw) (fun v9 M9 => v9 = none ∧ ∃ r9 : Nat → Nat, RI (pt t (cvp (fs (t 36) (t 34 2) lo hi (p, 0) 4)) (cvq (fs (t 36) (t 34 2) lo hi (p, 0) 4)) r9) M9 ∧ zfr PR M0 M9 ∧ ((fs (t 36) (t 34 2) lo hi (p, 0) 4).2 = 0 → r9 = wrN rd to 4 (fv (t 36) (t 34 2) lo hi (p, 0))))) := by
  refine CT.ofN (by decide) (fun _ _ => Nat.le_of_ble_eq_true rfl) ?_
  have hF : zfr PR M0 M0 := zfr.rf
  have hL := hB.1
  refine r_iconst (v := nI 0) dX5_readFour_0 rfl ?_
  refine r_istore dX5_readFour_1 rfl (by decide) ?_
  have loop : ∀ (j k : Nat) (M : zM) (r1 : Nat → Nat) (hR : RI (pt t (cvp (fs (t 36) (t 34 2) lo hi (p, 0) k)) (cvq (fs (t 36) (t 34 2) lo hi (p, 0) k)) r1) M) (hF : zfr PR M0 M) (hr : (fs (t 36) (t 34 2) lo hi (p, 0) k).2 = 0 → r1 = wrN rd to k (fv (t 36) (t 34 2) lo hi (p, 0))), k ≤ 4 → 4 < k + j → RA l none (zR 2 0 0) yX5_readFour cX5_readFour 6 none (zG (zSh ++ rw) (fun v9 M9 => v9 = none ∧ ∃ r9 : Nat → Nat, RI (pt t (cvp (fs (t 36) (t 34 2) lo hi (p, 0) 4)) (cvq (fs (t 36) (t 34 2) lo hi (p, 0) 4)) r9) M9 ∧ zfr PR M0 M9 ∧ ((fs (t 36) (t 34 2) lo hi (p, 0) 4).2 = 0 → r9 = wrN rd to 4 (fv (t 36) (t 34 2) lo hi (p, 0))))) 0 0 3 [some (.ref 34), some (.int (nI to)), some (.int (nI lo)), some (.int (nI hi)), some (.int (nI k)), none] [] (zSh ++ rw) M := by
    intro j
    induction j with
    | zero => intro k M r1 hR hF hr hk hj; exact absurd hj (by omega)
    | succ j ih =>
      intro k M r1 hR hF hr hk hj
      have hsk := fs_k (f := t 36) (lo := lo) (hi := hi) (show SK (t 34 2) (p, 0) from ⟨hp, Nat.zero_le _⟩) k
      have hsk1 : (fs (t 36) (t 34 2) lo hi (p, 0) k).1 ≤ (t 34 2) := hsk.1
      refine r_iload dX5_readFour_3 rfl ?_
      refine r_iconst (v := nI 4) dX5_readFour_5 rfl ?_
      first | refine r_icmp_geN (tgt := 71) dX5_readFour_6 (by decide) (by omega) (by omega) (fun c1 => ?_) (fun c1 => ?_) | refine r_icmp_ge (tgt := 71) dX5_readFour_6 (by decide) (fun c1 => ?_) (fun c1 => ?_)
      · refine r_vret dX5_readFour_71 rfl (by decide) (by decide) ?_
        rw [show k = 4 by omega] at hR hr
        exact ⟨rfl, rfl, r1, hR, hF, hr⟩
      · by_cases h0 : (fs (t 36) (t 34 2) lo hi (p, 0) k).2 = 0
        · have hR : RI (pt t (fs (t 36) (t 34 2) lo hi (p, 0) k).1 0 r1) M := by rw [cvp_0 h0, cvq_0 h0] at hR; exact hR
          have hs9 : fs (t 36) (t 34 2) lo hi (p, 0) k = ((fs (t 36) (t 34 2) lo hi (p, 0) k).1, 0) := Prod.ext rfl h0
          refine r_iload dX5_readFour_9 rfl ?_
          first | refine r_if_leN (tgt := 39) dX5_readFour_11 (by decide) (by omega) (fun c2 => ?_) (fun c2 => ?_) | refine r_if_le (tgt := 39) dX5_readFour_11 (by decide) (fun c2 => ?_) (fun c2 => ?_)
          · have hq0 : q0 (t 36) (t 34 2) k (fs (t 36) (t 34 2) lo hi (p, 0) k) = ((fs (t 36) (t 34 2) lo hi (p, 0) k).1, 0) := by rw [q0, if_pos c2]; exact hs9
            have hp9 := hsk1
            refine r_aload_n dX5_readFour_39 rfl rfl ?_
            refine r_iload_n dX5_readFour_40 rfl rfl ?_
            refine r_iload_n dX5_readFour_41 rfl rfl ?_
            refine r_cV2G mv_X5_number ml_X5_157 (c5_numT l hR hB hp9 hlo hhi) dX5_readFour_42 (Nat.le_of_ble_eq_true rfl) ⟨by decide, by decide⟩ ⟨by decide, by decide⟩ sh_34 rfl (fun _ h => nomatch h) (fun v M1 hq => ?_)
            obtain ⟨rfl, hR, hF1⟩ := hq
            have hF := hF.trans hF1
            dsimp only [zrst, List.cons_append, List.nil_append]
            have hS9 : fs (t 36) (t 34 2) lo hi (p, 0) (k + 1) = nu (t 36) (t 34 2) lo hi ((fs (t 36) (t 34 2) lo hi (p, 0) k).1, 0) := by rw [fs, hq0]
            rw [← hS9] at hR
            have hcl := cvq_le (fs (t 36) (t 34 2) lo hi (p, 0) (k + 1))
            refine r_istore dX5_readFour_45 rfl (by decide) ?_
            refine r_aload_n dX5_readFour_47 rfl rfl ?_
            refine r_getV fl_X5_142 dX5_readFour_48 sh_34 rfl hR.p4 ?_
            refine r_if_neN (tgt := 65) dX5_readFour_51 (by decide) (by omega) (fun c9 => ?_) (fun c9 => ?_)
            · have h9 : (fs (t 36) (t 34 2) lo hi (p, 0) (k + 1)).2 ≠ 0 := fun q => c9 (cvq_e.mpr q)
              first | refine r_iincN dX5_readFour_65 rfl rfl (by decide) ?_ | refine r_iinc dX5_readFour_65 rfl rfl rfl (by decide) ?_
              refine r_goto (tgt := 3) dX5_readFour_68 (by decide) ?_
              refine r_lfor 5 ?_
              exact ih (k + 1) M1 r1 hR hF (fun q => absurd q h9) (by omega) (by omega)
            · have h9 : (fs (t 36) (t 34 2) lo hi (p, 0) (k + 1)).2 = 0 := cvq_e.mp c9
              refine r_aload_n dX5_readFour_54 rfl rfl ?_
              refine r_getR fl_X5_16 dX5_readFour_55 sh_34 rfl ?_
              refine r_iload_n dX5_readFour_58 rfl rfl ?_
              refine r_iload dX5_readFour_59 rfl ?_
              first | refine r_iaddN dX5_readFour_61 ?_ | refine r_iadd dX5_readFour_61 ?_
              refine r_iload dX5_readFour_62 rfl ?_
              refine r_P37 hR dX5_readFour_64 sh_37 (by omega) (fun M hR hF1 => ?_)
              have hF := hF.trans hF1
              have hr9 : upN r1 (to + k) (nv (t 36) (t 34 2) ((fs (t 36) (t 34 2) lo hi (p, 0) k).1)) = wrN rd to (k + 1) (fv (t 36) (t 34 2) lo hi (p, 0)) := by
                rw [hr h0]
                refine Eq.trans ?_ wrN_s
                rw [fv, hq0]
              first | refine r_iincN dX5_readFour_65 rfl rfl (by decide) ?_ | refine r_iinc dX5_readFour_65 rfl rfl rfl (by decide) ?_
              refine r_goto (tgt := 3) dX5_readFour_68 (by decide) ?_
              refine r_lfor 5 ?_
              exact ih (k + 1) M _ hR hF (fun _ => hr9) (by omega) (by omega)
          · have hk0 := c2
            refine r_aload_n dX5_readFour_14 rfl rfl ?_
            refine r_aload_n dX5_readFour_15 rfl rfl ?_
            refine r_getV fl_X5_142 dX5_readFour_16 sh_34 rfl hR.p4 ?_
            refine r_if_neN (x := 0) (tgt := 35) dX5_readFour_19 (by decide) (by decide) (fun q9 => absurd q9 (by decide)) (fun _ => ?_)
            refine r_aload_n dX5_readFour_22 rfl rfl ?_
            refine r_cV0G mv_X5_here ml_X5_146 (c5_here l hR hB hsk1) dX5_readFour_23 (Nat.le_of_ble_eq_true rfl) ⟨by decide, by decide⟩ ⟨by decide, by decide⟩ sh_34 rfl (fun _ h => nomatch h) (fun v M1 hq => ?_)
            obtain ⟨rfl, hR, hF1⟩ := hq
            have hF := hF.trans hF1
            dsimp only [zrst, List.cons_append, List.nil_append]
            have hl9 := ltr_le (a := wh (t 36) (t 34 2) (fs (t 36) (t 34 2) lo hi (p, 0) k).1) hB
            refine r_bipush (v := nI 46) dX5_readFour_26 rfl ?_
            first | refine r_icmp_neN (tgt := 35) dX5_readFour_28 (by decide) (by omega) (by omega) (fun c3 => ?_) (fun c3 => ?_) | refine r_icmp_ne (tgt := 35) dX5_readFour_28 (by decide) (fun c3 => ?_) (fun c3 => ?_)
            · have he9 : ¬ (wh (t 36) (t 34 2) (fs (t 36) (t 34 2) lo hi (p, 0) k).1 < (t 34 2) ∧ t 36 (wh (t 36) (t 34 2) (fs (t 36) (t 34 2) lo hi (p, 0) k).1) = 46) := fun q => c3 ((ltr_c (by decide)).mpr q)
              refine r_iconst (v := nI 0) dX5_readFour_35 rfl ?_
              refine r_cV1G mv_X5_must ml_X5_153 (c5_mustF l hR hB) dX5_readFour_36 (Nat.le_of_ble_eq_true rfl) ⟨by decide, by decide⟩ ⟨by decide, by decide⟩ sh_34 rfl (fun _ h => nomatch h) (fun v M1 hq => ?_)
              obtain ⟨rfl, hR, hF1⟩ := hq
              have hF := hF.trans hF1
              dsimp only [zrst, List.cons_append, List.nil_append]
              have hq0 : q0 (t 36) (t 34 2) k (fs (t 36) (t 34 2) lo hi (p, 0) k) = (wh (t 36) (t 34 2) (fs (t 36) (t 34 2) lo hi (p, 0) k).1, wh (t 36) (t 34 2) (fs (t 36) (t 34 2) lo hi (p, 0) k).1 + 1) := by rw [q0, if_neg (by omega), hs9]; exact (ex_n he9).trans (by rw [fa_0])
              refine r_aload_n dX5_readFour_39 rfl rfl ?_
              refine r_iload_n dX5_readFour_40 rfl rfl ?_
              refine r_iload_n dX5_readFour_41 rfl rfl ?_
              refine r_cV2G mv_X5_number ml_X5_157 (c5_numF l hR hB) dX5_readFour_42 (Nat.le_of_ble_eq_true rfl) ⟨by decide, by decide⟩ ⟨by decide, by decide⟩ sh_34 rfl (fun _ h => nomatch h) (fun v M1 hq => ?_)
              obtain ⟨rfl, hR, hF1⟩ := hq
              have hF := hF.trans hF1
              dsimp only [zrst, List.cons_append, List.nil_append]
              have hS9 : (fs (t 36) (t 34 2) lo hi (p, 0) (k + 1)).2 = wh (t 36) (t 34 2) (fs (t 36) (t 34 2) lo hi (p, 0) k).1 + 1 := by rw [fs, hq0]; exact nu_f (by simp)
              have h9 : (fs (t 36) (t 34 2) lo hi (p, 0) (k + 1)).2 ≠ 0 := by omega
              have hR : RI (pt t (cvp (fs (t 36) (t 34 2) lo hi (p, 0) (k + 1))) (cvq (fs (t 36) (t 34 2) lo hi (p, 0) (k + 1))) r1) M1 := by rw [cvp_1 h9, cvq_1 h9, hS9]; exact hR
              refine r_istore dX5_readFour_45 rfl (by decide) ?_
              refine r_aload_n dX5_readFour_47 rfl rfl ?_
              refine r_getV fl_X5_142 dX5_readFour_48 sh_34 rfl hR.p4 ?_
              refine r_if_neN (tgt := 65) dX5_readFour_51 (by decide) (by rw [cvq_1 h9]; decide) (fun _ => ?_) (fun q9 => absurd (cvq_e.mp q9) h9)
              first | refine r_iincN dX5_readFour_65 rfl rfl (by decide) ?_ | refine r_iinc dX5_readFour_65 rfl rfl rfl (by decide) ?_
              refine r_goto (tgt := 3) dX5_readFour_68 (by decide) ?_
              refine r_lfor 5 ?_
              exact ih (k + 1) M1 r1 hR hF (fun q => absurd q h9) (by omega) (by omega)
            · have he9 : wh (t 36) (t 34 2) (fs (t 36) (t 34 2) lo hi (p, 0) k).1 < (t 34 2) ∧ t 36 (wh (t 36) (t 34 2) (fs (t 36) (t 34 2) lo hi (p, 0) k).1) = 46 := (ltr_c (by decide)).mp c3
              refine r_iconst (v := nI 1) dX5_readFour_31 rfl ?_
              refine r_goto (tgt := 36) dX5_readFour_32 (by decide) ?_
              refine r_cV1G mv_X5_must ml_X5_153 (c5_mustT l hR hB) dX5_readFour_36 (Nat.le_of_ble_eq_true rfl) ⟨by decide, by decide⟩ ⟨by decide, by decide⟩ sh_34 rfl (fun _ h => nomatch h) (fun v M1 hq => ?_)
              obtain ⟨rfl, hR, hF1⟩ := hq
              have hF := hF.trans hF1
              dsimp only [zrst, List.cons_append, List.nil_append]
              have hq0 : q0 (t 36) (t 34 2) k (fs (t 36) (t 34 2) lo hi (p, 0) k) = (wh (t 36) (t 34 2) (fs (t 36) (t 34 2) lo hi (p, 0) k).1 + 1, 0) := by rw [q0, if_neg (by omega), hs9]; exact ex_t he9
              have hp9 : wh (t 36) (t 34 2) (fs (t 36) (t 34 2) lo hi (p, 0) k).1 + 1 ≤ (t 34 2) := he9.1
              refine r_aload_n dX5_readFour_39 rfl rfl ?_
              refine r_iload_n dX5_readFour_40 rfl rfl ?_
              refine r_iload_n dX5_readFour_41 rfl rfl ?_
              refine r_cV2G mv_X5_number ml_X5_157 (c5_numT l hR hB hp9 hlo hhi) dX5_readFour_42 (Nat.le_of_ble_eq_true rfl) ⟨by decide, by decide⟩ ⟨by decide, by decide⟩ sh_34 rfl (fun _ h => nomatch h) (fun v M1 hq => ?_)
              obtain ⟨rfl, hR, hF1⟩ := hq
              have hF := hF.trans hF1
              dsimp only [zrst, List.cons_append, List.nil_append]
              have hS9 : fs (t 36) (t 34 2) lo hi (p, 0) (k + 1) = nu (t 36) (t 34 2) lo hi (wh (t 36) (t 34 2) (fs (t 36) (t 34 2) lo hi (p, 0) k).1 + 1, 0) := by rw [fs, hq0]
              rw [← hS9] at hR
              have hcl := cvq_le (fs (t 36) (t 34 2) lo hi (p, 0) (k + 1))
              refine r_istore dX5_readFour_45 rfl (by decide) ?_
              refine r_aload_n dX5_readFour_47 rfl rfl ?_
              refine r_getV fl_X5_142 dX5_readFour_48 sh_34 rfl hR.p4 ?_
              refine r_if_neN (tgt := 65) dX5_readFour_51 (by decide) (by omega) (fun c9 => ?_) (fun c9 => ?_)
              · have h9 : (fs (t 36) (t 34 2) lo hi (p, 0) (k + 1)).2 ≠ 0 := fun q => c9 (cvq_e.mpr q)
                first | refine r_iincN dX5_readFour_65 rfl rfl (by decide) ?_ | refine r_iinc dX5_readFour_65 rfl rfl rfl (by decide) ?_
                refine r_goto (tgt := 3) dX5_readFour_68 (by decide) ?_
                refine r_lfor 5 ?_
                exact ih (k + 1) M1 r1 hR hF (fun q => absurd q h9) (by omega) (by omega)
              · have h9 : (fs (t 36) (t 34 2) lo hi (p, 0) (k + 1)).2 = 0 := cvq_e.mp c9
                refine r_aload_n dX5_readFour_54 rfl rfl ?_
                refine r_getR fl_X5_16 dX5_readFour_55 sh_34 rfl ?_
                refine r_iload_n dX5_readFour_58 rfl rfl ?_
                refine r_iload dX5_readFour_59 rfl ?_
                first | refine r_iaddN dX5_readFour_61 ?_ | refine r_iadd dX5_readFour_61 ?_
                refine r_iload dX5_readFour_62 rfl ?_
                refine r_P37 hR dX5_readFour_64 sh_37 (by omega) (fun M hR hF1 => ?_)
                have hF := hF.trans hF1
                have hr9 : upN r1 (to + k) (nv (t 36) (t 34 2) (wh (t 36) (t 34 2) (fs (t 36) (t 34 2) lo hi (p, 0) k).1 + 1)) = wrN rd to (k + 1) (fv (t 36) (t 34 2) lo hi (p, 0)) := by
                  rw [hr h0]
                  refine Eq.trans ?_ wrN_s
                  rw [fv, hq0]
                first | refine r_iincN dX5_readFour_65 rfl rfl (by decide) ?_ | refine r_iinc dX5_readFour_65 rfl rfl rfl (by decide) ?_
                refine r_goto (tgt := 3) dX5_readFour_68 (by decide) ?_
                refine r_lfor 5 ?_
                exact ih (k + 1) M _ hR hF (fun _ => hr9) (by omega) (by omega)
        · have hR : RI (pt t ((fs (t 36) (t 34 2) lo hi (p, 0) k).2 - 1) 1 r1) M := by rw [cvp_1 h0, cvq_1 h0] at hR; exact hR
          refine r_iload dX5_readFour_9 rfl ?_
          first | refine r_if_leN (tgt := 39) dX5_readFour_11 (by decide) (by omega) (fun c4 => ?_) (fun c4 => ?_) | refine r_if_le (tgt := 39) dX5_readFour_11 (by decide) (fun c4 => ?_) (fun c4 => ?_)
          · skip
            refine r_aload_n dX5_readFour_39 rfl rfl ?_
            refine r_iload_n dX5_readFour_40 rfl rfl ?_
            refine r_iload_n dX5_readFour_41 rfl rfl ?_
            refine r_cV2G mv_X5_number ml_X5_157 (c5_numF l hR hB) dX5_readFour_42 (Nat.le_of_ble_eq_true rfl) ⟨by decide, by decide⟩ ⟨by decide, by decide⟩ sh_34 rfl (fun _ h => nomatch h) (fun v M1 hq => ?_)
            obtain ⟨rfl, hR, hF1⟩ := hq
            have hF := hF.trans hF1
            dsimp only [zrst, List.cons_append, List.nil_append]
            have hS9 : (fs (t 36) (t 34 2) lo hi (p, 0) (k + 1)).2 = (fs (t 36) (t 34 2) lo hi (p, 0) k).2 := by
              have h8 : (q0 (t 36) (t 34 2) k (fs (t 36) (t 34 2) lo hi (p, 0) k)).2 = (fs (t 36) (t 34 2) lo hi (p, 0) k).2 := q0_f h0
              exact (nu_f (by rw [h8]; exact h0)).trans h8
            have h9 : (fs (t 36) (t 34 2) lo hi (p, 0) (k + 1)).2 ≠ 0 := by omega
            have hR : RI (pt t (cvp (fs (t 36) (t 34 2) lo hi (p, 0) (k + 1))) (cvq (fs (t 36) (t 34 2) lo hi (p, 0) (k + 1))) r1) M1 := by rw [cvp_1 h9, cvq_1 h9, hS9]; exact hR
            refine r_istore dX5_readFour_45 rfl (by decide) ?_
            refine r_aload_n dX5_readFour_47 rfl rfl ?_
            refine r_getV fl_X5_142 dX5_readFour_48 sh_34 rfl hR.p4 ?_
            refine r_if_neN (tgt := 65) dX5_readFour_51 (by decide) (by rw [cvq_1 h9]; decide) (fun _ => ?_) (fun q9 => absurd (cvq_e.mp q9) h9)
            first | refine r_iincN dX5_readFour_65 rfl rfl (by decide) ?_ | refine r_iinc dX5_readFour_65 rfl rfl rfl (by decide) ?_
            refine r_goto (tgt := 3) dX5_readFour_68 (by decide) ?_
            refine r_lfor 5 ?_
            exact ih (k + 1) M1 r1 hR hF (fun q => absurd q h9) (by omega) (by omega)
          · have hk0 := c4
            refine r_aload_n dX5_readFour_14 rfl rfl ?_
            refine r_aload_n dX5_readFour_15 rfl rfl ?_
            refine r_getV fl_X5_142 dX5_readFour_16 sh_34 rfl hR.p4 ?_
            refine r_if_neN (x := 1) (tgt := 35) dX5_readFour_19 (by decide) (by decide) (fun _ => ?_) (fun q9 => absurd q9 (by decide))
            refine r_iconst (v := nI 0) dX5_readFour_35 rfl ?_
            refine r_cV1G mv_X5_must ml_X5_153 (c5_must1 l hR hB) dX5_readFour_36 (Nat.le_of_ble_eq_true rfl) ⟨by decide, by decide⟩ ⟨by decide, by decide⟩ sh_34 rfl (fun _ h => nomatch h) (fun v M1 hq => ?_)
            obtain ⟨rfl, hR, hF1⟩ := hq
            have hF := hF.trans hF1
            dsimp only [zrst, List.cons_append, List.nil_append]
            refine r_aload_n dX5_readFour_39 rfl rfl ?_
            refine r_iload_n dX5_readFour_40 rfl rfl ?_
            refine r_iload_n dX5_readFour_41 rfl rfl ?_
            refine r_cV2G mv_X5_number ml_X5_157 (c5_numF l hR hB) dX5_readFour_42 (Nat.le_of_ble_eq_true rfl) ⟨by decide, by decide⟩ ⟨by decide, by decide⟩ sh_34 rfl (fun _ h => nomatch h) (fun v M1 hq => ?_)
            obtain ⟨rfl, hR, hF1⟩ := hq
            have hF := hF.trans hF1
            dsimp only [zrst, List.cons_append, List.nil_append]
            have hS9 : (fs (t 36) (t 34 2) lo hi (p, 0) (k + 1)).2 = (fs (t 36) (t 34 2) lo hi (p, 0) k).2 := by
              have h8 : (q0 (t 36) (t 34 2) k (fs (t 36) (t 34 2) lo hi (p, 0) k)).2 = (fs (t 36) (t 34 2) lo hi (p, 0) k).2 := q0_f h0
              exact (nu_f (by rw [h8]; exact h0)).trans h8
            have h9 : (fs (t 36) (t 34 2) lo hi (p, 0) (k + 1)).2 ≠ 0 := by omega
            have hR : RI (pt t (cvp (fs (t 36) (t 34 2) lo hi (p, 0) (k + 1))) (cvq (fs (t 36) (t 34 2) lo hi (p, 0) (k + 1))) r1) M1 := by rw [cvp_1 h9, cvq_1 h9, hS9]; exact hR
            refine r_istore dX5_readFour_45 rfl (by decide) ?_
            refine r_aload_n dX5_readFour_47 rfl rfl ?_
            refine r_getV fl_X5_142 dX5_readFour_48 sh_34 rfl hR.p4 ?_
            refine r_if_neN (tgt := 65) dX5_readFour_51 (by decide) (by rw [cvq_1 h9]; decide) (fun _ => ?_) (fun q9 => absurd (cvq_e.mp q9) h9)
            first | refine r_iincN dX5_readFour_65 rfl rfl (by decide) ?_ | refine r_iinc dX5_readFour_65 rfl rfl rfl (by decide) ?_
            refine r_goto (tgt := 3) dX5_readFour_68 (by decide) ?_
            refine r_lfor 5 ?_
            exact ih (k + 1) M1 r1 hR hF (fun q => absurd q h9) (by omega) (by omega)
  exact loop (4 + 1) 0 M0 rd hR hF (fun _ => wrN_0.symm) (Nat.zero_le _) (by omega)

theorem kix_nl {c : Nat} (h : kix c < 0) : ¬ kn c < 5 := fun q => by
  rw [kix_eq, if_pos q] at h
  exact nI_pos (by omega) h
theorem kix_nn {c : Nat} (h : ¬ kix c < 0) : 0 ≤ kix c := by
  rw [i32_lt] at h
  rw [i32_le]
  exact Int.not_lt.mp h
set_option maxHeartbeats 4000000 in
set_option maxRecDepth 100000 in
theorem c5_readPeople (l : Launch) {rw : List zC} {M0 : zM} {t : Nat → Nat → Nat} {a e : Nat} {rd : Nat → Nat} (hR : RI (pt t (cvp (a, e)) (cvq (a, e)) rd) M0) (hB : TB (t 36) (t 34 2)) (ha : a ≤ (t 34 2)) (he : e ≤ (t 34 2) + 1) : CT l false 3 0 0 yX5_readPeople cX5_readPeople 4 (some .int) [.ref 34] (zSh ++ rw) M0 (zG (zSh ++ rw) (fun v9 M9 => ∃ (n9 : Nat) (r9 : Nat → Nat), v9 = some (.int (nI n9)) ∧ RI (pt t (cvp (rx (t 36) (t 34 2) (pl (t 36) (t 34 2) 5 0 (a, e) rd).1)) (cvq (rx (t 36) (t 34 2) (pl (t 36) (t 34 2) 5 0 (a, e) rd).1)) r9) M9 ∧ zfr PR M0 M9 ∧ ((rx (t 36) (t 34 2) (pl (t 36) (t 34 2) 5 0 (a, e) rd).1).2 = 0 → n9 = (pl (t 36) (t 34 2) 5 0 (a, e) rd).2.1 ∧ r9 = (pl (t 36) (t 34 2) 5 0 (a, e) rd).2.2))) := by
  refine CT.ofN (by decide) (fun _ _ => Nat.le_of_ble_eq_true rfl) ?_
  have hF : zfr PR M0 M0 := zfr.rf
  have hL := hB.1
  have dead : ∀ (M : zM) (n p1 : Nat) (r1 : Nat → Nat) (hR : RI (pt t p1 1 r1) M) (hF : zfr PR M0 M) (hs : (rx (t 36) (t 34 2) (pl (t 36) (t 34 2) 5 0 (a, e) rd).1).2 ≠ 0) (hp1 : p1 = (rx (t 36) (t 34 2) (pl (t 36) (t 34 2) 5 0 (a, e) rd).1).2 - 1), RA l none (zR 3 0 0) yX5_readPeople cX5_readPeople 4 (some .int) (zG (zSh ++ rw) (fun v9 M9 => ∃ (n9 : Nat) (r9 : Nat → Nat), v9 = some (.int (nI n9)) ∧ RI (pt t (cvp (rx (t 36) (t 34 2) (pl (t 36) (t 34 2) 5 0 (a, e) rd).1)) (cvq (rx (t 36) (t 34 2) (pl (t 36) (t 34 2) 5 0 (a, e) rd).1)) r9) M9 ∧ zfr PR M0 M9 ∧ ((rx (t 36) (t 34 2) (pl (t 36) (t 34 2) 5 0 (a, e) rd).1).2 = 0 → n9 = (pl (t 36) (t 34 2) 5 0 (a, e) rd).2.1 ∧ r9 = (pl (t 36) (t 34 2) 5 0 (a, e) rd).2.2))) 0 0 2 [some (.ref 34), some (.int (nI n)), none, none] [] (zSh ++ rw) M := by
    intro M n p1 r1 hR hF hs hp1
    refine r_aload_n dX5_readPeople_2 rfl rfl ?_
    refine r_getV fl_X5_142 dX5_readPeople_3 sh_34 rfl hR.p4 ?_
    refine r_if_neN (x := 1) (tgt := 156) dX5_readPeople_6 (by decide) (by decide) (fun _ => ?_) (fun q9 => absurd q9 (by decide))
    refine r_iload_n dX5_readPeople_156 rfl rfl ?_
    refine r_iret dX5_readPeople_157 rfl (by decide) (by decide) ?_
    exact ⟨rfl, n, r1, rfl, by rw [cvp_1 hs, cvq_1 hs, ← hp1]; exact hR, hF, fun q => absurd q hs⟩
  refine r_iconst (v := nI 0) dX5_readPeople_0 rfl ?_
  refine r_istore_n dX5_readPeople_1 rfl rfl (by decide) ?_
  have loop : ∀ (j k : Nat) (M : zM) (a1 e1 : Nat) (r1 g1 : Nat → Nat) (hR : RI (pt t (cvp (a1, e1)) (cvq (a1, e1)) r1) M) (hF : zfr PR M0 M) (ha1 : a1 ≤ (t 34 2)) (he1 : e1 ≤ (t 34 2) + 1) (hp : pl (t 36) (t 34 2) 5 0 (a, e) rd = pl (t 36) (t 34 2) (5 - k) k (a1, e1) g1) (hr : e1 = 0 → r1 = g1), k ≤ 5 → 5 < k + j → RA l none (zR 3 0 0) yX5_readPeople cX5_readPeople 4 (some .int) (zG (zSh ++ rw) (fun v9 M9 => ∃ (n9 : Nat) (r9 : Nat → Nat), v9 = some (.int (nI n9)) ∧ RI (pt t (cvp (rx (t 36) (t 34 2) (pl (t 36) (t 34 2) 5 0 (a, e) rd).1)) (cvq (rx (t 36) (t 34 2) (pl (t 36) (t 34 2) 5 0 (a, e) rd).1)) r9) M9 ∧ zfr PR M0 M9 ∧ ((rx (t 36) (t 34 2) (pl (t 36) (t 34 2) 5 0 (a, e) rd).1).2 = 0 → n9 = (pl (t 36) (t 34 2) 5 0 (a, e) rd).2.1 ∧ r9 = (pl (t 36) (t 34 2) 5 0 (a, e) rd).2.2))) 0 0 2 [some (.ref 34), some (.int (nI k)), none, none] [] (zSh ++ rw) M := by
    intro j
    induction j with
    | zero => intro k M a1 e1 r1 g1 hR hF ha1 he1 hp hr hk hj; exact absurd hj (by omega)
    | succ j ih =>
      intro k M a1 e1 r1 g1 hR hF ha1 he1 hp hr hk hj
      by_cases h0 : e1 = 0
      · subst h0
        have hR : RI (pt t a1 0 r1) M := hR
        have hr := hr rfl
        refine r_aload_n dX5_readPeople_2 rfl rfl ?_
        refine r_getV fl_X5_142 dX5_readPeople_3 sh_34 rfl hR.p4 ?_
        refine r_if_neN (x := 0) (tgt := 156) dX5_readPeople_6 (by decide) (by decide) (fun q9 => absurd q9 (by decide)) (fun _ => ?_)
        refine r_iload_n dX5_readPeople_9 rfl rfl ?_
        first | refine r_if_eqB (tgt := 22) dX5_readPeople_10 (by decide) (fun c1 => ?_) (fun c1 => ?_) | refine r_if_eqN (tgt := 22) dX5_readPeople_10 (by decide) (by omega) (fun c1 => ?_) (fun c1 => ?_) | refine r_if_eq (tgt := 22) dX5_readPeople_10 (by decide) (fun c1 => ?_) (fun c1 => ?_)
        · have hsc : sc (t 36) (t 34 2) k (a1, 0) = (a1, 0) := if_pos c1
          have hck : k = 0 ∨ (wh (t 36) (t 34 2) a1 < (t 34 2) ∧ t 36 (wh (t 36) (t 34 2) a1) = 44) := Or.inl c1
          have hk1 := ha1
          refine r_iload_n dX5_readPeople_22 rfl rfl ?_
          refine r_if_leN (tgt := 40) dX5_readPeople_23 (by decide) (by omega) (fun _ => ?_) (fun q9 => absurd q9 (by omega))
          refine r_aload_n dX5_readPeople_40 rfl rfl ?_
          refine r_getV fl_X5_142 dX5_readPeople_41 sh_34 rfl hR.p4 ?_
          refine r_if_eqN (x := 0) (tgt := 51) dX5_readPeople_44 (by decide) (by decide) (fun _ => ?_) (fun q9 => absurd q9 (by decide))
          refine r_aload_n dX5_readPeople_51 rfl rfl ?_
          refine r_cV0G mv_X5_here ml_X5_146 (c5_here l hR hB hk1) dX5_readPeople_52 (Nat.le_of_ble_eq_true rfl) ⟨by decide, by decide⟩ ⟨by decide, by decide⟩ sh_34 rfl (fun _ h => nomatch h) (fun v M1 hq => ?_)
          obtain ⟨rfl, hR, hF1⟩ := hq
          have hF := hF.trans hF1
          dsimp only [zrst, List.cons_append, List.nil_append]
          have hl9 := ltr_le (a := wh (t 36) (t 34 2) a1) hB
          refine r_istore_n dX5_readPeople_55 rfl rfl (by decide) ?_
          have rest : RA l none (zR 3 0 0) yX5_readPeople cX5_readPeople 4 (some .int) (zG (zSh ++ rw) (fun v9 M9 => ∃ (n9 : Nat) (r9 : Nat → Nat), v9 = some (.int (nI n9)) ∧ RI (pt t (cvp (rx (t 36) (t 34 2) (pl (t 36) (t 34 2) 5 0 (a, e) rd).1)) (cvq (rx (t 36) (t 34 2) (pl (t 36) (t 34 2) 5 0 (a, e) rd).1)) r9) M9 ∧ zfr PR M0 M9 ∧ ((rx (t 36) (t 34 2) (pl (t 36) (t 34 2) 5 0 (a, e) rd).1).2 = 0 → n9 = (pl (t 36) (t 34 2) 5 0 (a, e) rd).2.1 ∧ r9 = (pl (t 36) (t 34 2) 5 0 (a, e) rd).2.2))) 0 0 107 [some (.ref 34), some (.int (nI k)), some (.int (nI (ltr (t 36) (t 34 2) (wh (t 36) (t 34 2) a1)))), none] [.int (kix (ltr (t 36) (t 34 2) (wh (t 36) (t 34 2) a1)))] (zSh ++ rw) M1 := by
            refine r_istore_n dX5_readPeople_107 rfl rfl (by decide) ?_
            refine r_aload_n dX5_readPeople_108 rfl rfl ?_
            refine r_iload_n dX5_readPeople_109 rfl rfl ?_
            refine r_if_lt (tgt := 117) dX5_readPeople_110 (by decide) (fun c9 => ?_) (fun c9 => ?_)
            · have hkn : ¬ (wh (t 36) (t 34 2) a1 < (t 34 2) ∧ kn (t 36 (wh (t 36) (t 34 2) a1)) < 5) := fun q => kix_nl c9 (ltr_k.mpr q)
              refine r_iconst (v := nI 0) dX5_readPeople_117 rfl ?_
              refine r_cV1G mv_X5_must ml_X5_153 (c5_mustF l hR hB) dX5_readPeople_118 (Nat.le_of_ble_eq_true rfl) ⟨by decide, by decide⟩ ⟨by decide, by decide⟩ sh_34 rfl (fun _ h => nomatch h) (fun v M1 hq => ?_)
              obtain ⟨rfl, hR, hF1⟩ := hq
              have hF := hF.trans hF1
              dsimp only [zrst, List.cons_append, List.nil_append]
              refine r_aload_n dX5_readPeople_121 rfl rfl ?_
              refine r_getV fl_X5_142 dX5_readPeople_122 sh_34 rfl hR.p4 ?_
              refine r_if_neN (x := 1) (tgt := 150) dX5_readPeople_125 (by decide) (by decide) (fun _ => ?_) (fun q9 => absurd q9 (by decide))
              first | refine r_iincN dX5_readPeople_150 rfl rfl (by decide) ?_ | refine r_iinc dX5_readPeople_150 rfl rfl rfl (by decide) ?_
              refine r_goto (tgt := 2) dX5_readPeople_153 (by decide) ?_
              have hsk9 := wpS_k (f := t 36) (n := k) (show SK (t 34 2) (a1, 0) from ⟨ha1, Nat.zero_le _⟩) hck
              have hki : ki (t 36) (t 34 2) (a1, 0) = (wh (t 36) (t 34 2) a1, wh (t 36) (t 34 2) a1 + 1) := (ki_n hkn).trans (by rw [fa_0])
              have h9 : (wpS (t 36) (t 34 2) k (a1, 0)).2 = wh (t 36) (t 34 2) a1 + 1 := by unfold wpS; rw [hsc, hki]; exact fs_f (by simp) 4
              have h8 : (wpS (t 36) (t 34 2) k (a1, 0)).2 ≠ 0 := by omega
              have hR : RI (pt t (cvp (wpS (t 36) (t 34 2) k (a1, 0))) (cvq (wpS (t 36) (t 34 2) k (a1, 0))) r1) M1 := by rw [cvp_1 h8, cvq_1 h8, h9]; exact hR
              refine r_lfor 2 ?_
              refine r_lfor 3 ?_
              exact ih (k + 1) M1 (wpS (t 36) (t 34 2) k (a1, 0)).1 (wpS (t 36) (t 34 2) k (a1, 0)).2 r1 (wpG (t 36) (t 34 2) k (a1, 0) g1) hR hF hsk9.1 hsk9.2 (by rw [hp, show 5 - k = (5 - (k + 1)) + 1 by omega]; exact pl_s rfl hck) (fun q => absurd q h8) (by omega) (by omega)
            · have hkn : kn (ltr (t 36) (t 34 2) (wh (t 36) (t 34 2) a1)) < 5 := kix_ge.mp (kix_nn c9)
              have hk1 : wh (t 36) (t 34 2) a1 + 1 ≤ (t 34 2) := (ltr_k.mp hkn).1
              refine r_iconst (v := nI 1) dX5_readPeople_113 rfl ?_
              refine r_goto (tgt := 118) dX5_readPeople_114 (by decide) ?_
              refine r_cV1G mv_X5_must ml_X5_153 (c5_mustT l hR hB) dX5_readPeople_118 (Nat.le_of_ble_eq_true rfl) ⟨by decide, by decide⟩ ⟨by decide, by decide⟩ sh_34 rfl (fun _ h => nomatch h) (fun v M1 hq => ?_)
              obtain ⟨rfl, hR, hF1⟩ := hq
              have hF := hF.trans hF1
              dsimp only [zrst, List.cons_append, List.nil_append]
              refine r_aload_n dX5_readPeople_121 rfl rfl ?_
              refine r_getV fl_X5_142 dX5_readPeople_122 sh_34 rfl hR.p4 ?_
              refine r_if_neN (x := 0) (tgt := 150) dX5_readPeople_125 (by decide) (by decide) (fun q9 => absurd q9 (by decide)) (fun _ => ?_)
              refine r_aload_n dX5_readPeople_128 rfl rfl ?_
              refine r_getR fl_X5_16 dX5_readPeople_129 sh_34 rfl ?_
              refine r_iconst (v := nI 5) dX5_readPeople_132 rfl ?_
              refine r_iload_n dX5_readPeople_133 rfl rfl ?_
              first | refine r_imulN dX5_readPeople_134 ?_ | refine r_imul dX5_readPeople_134 ?_
              refine r_iload_n dX5_readPeople_135 rfl rfl ?_
              refine r_top (v' := .int (nI (kn (ltr (t 36) (t 34 2) (wh (t 36) (t 34 2) a1))))) (congrArg Value.int (by rw [kix_eq, if_pos hkn])) ?_
              refine r_P37 hR dX5_readPeople_136 sh_37 (by omega) (fun M hR hF1 => ?_)
              have hF := hF.trans hF1
              refine r_aload_n dX5_readPeople_137 rfl rfl ?_
              refine r_iconst (v := nI 5) dX5_readPeople_138 rfl ?_
              refine r_iload_n dX5_readPeople_139 rfl rfl ?_
              first | refine r_imulN dX5_readPeople_140 ?_ | refine r_imul dX5_readPeople_140 ?_
              refine r_iconst (v := nI 1) dX5_readPeople_141 rfl ?_
              first | refine r_iaddN dX5_readPeople_142 ?_ | refine r_iadd dX5_readPeople_142 ?_
              refine r_bipush (v := nI 10) dX5_readPeople_143 rfl ?_
              refine r_bipush (v := nI 99) dX5_readPeople_145 rfl ?_
              refine r_cV3G mv_X5_readFour ml_X5_160 (c5_readFour l hR hB hk1 (by omega) (by decide) (by decide)) dX5_readPeople_147 (Nat.le_of_ble_eq_true rfl) ⟨by decide, by decide⟩ ⟨by decide, by decide⟩ sh_34 rfl (fun _ h => nomatch h) (fun v M1 hq => ?_)
              obtain ⟨rfl, r2, hR, hF1, hr2⟩ := hq
              have hF := hF.trans hF1
              dsimp only [zrst, List.cons_append, List.nil_append]
              first | refine r_iincN dX5_readPeople_150 rfl rfl (by decide) ?_ | refine r_iinc dX5_readPeople_150 rfl rfl rfl (by decide) ?_
              refine r_goto (tgt := 2) dX5_readPeople_153 (by decide) ?_
              have hsk9 := wpS_k (f := t 36) (n := k) (show SK (t 34 2) (a1, 0) from ⟨ha1, Nat.zero_le _⟩) hck
              have hki : ki (t 36) (t 34 2) (a1, 0) = (wh (t 36) (t 34 2) a1 + 1, 0) := ki_t (ltr_k.mp hkn)
              have h9 : wpS (t 36) (t 34 2) k (a1, 0) = fs (t 36) (t 34 2) 10 99 (wh (t 36) (t 34 2) a1 + 1, 0) 4 := by unfold wpS; rw [hsc, hki]
              have hR : RI (pt t (cvp (wpS (t 36) (t 34 2) k (a1, 0))) (cvq (wpS (t 36) (t 34 2) k (a1, 0))) r2) M1 := by rw [h9]; exact hR
              refine r_lfor 2 ?_
              refine r_lfor 3 ?_
              exact ih (k + 1) M1 (wpS (t 36) (t 34 2) k (a1, 0)).1 (wpS (t 36) (t 34 2) k (a1, 0)).2 r2 (wpG (t 36) (t 34 2) k (a1, 0) g1) hR hF hsk9.1 hsk9.2 (by rw [hp, show 5 - k = (5 - (k + 1)) + 1 by omega]; exact pl_s rfl hck) (fun q => by rw [h9] at q; exact (hr2 q).trans (wpG_eq hsc hr hkn)) (by omega) (by omega)
          refine r_iload_n dX5_readPeople_56 rfl rfl ?_
          refine r_bipush (v := nI 112) dX5_readPeople_57 rfl ?_
          refine r_icmp_neN (tgt := 66) dX5_readPeople_59 (by decide) (by omega) (by omega) (fun n0 => ?_) (fun e9 => ?_)
          · skip
            refine r_iload_n dX5_readPeople_66 rfl rfl ?_
            refine r_bipush (v := nI 116) dX5_readPeople_67 rfl ?_
            refine r_icmp_neN (tgt := 76) dX5_readPeople_69 (by decide) (by omega) (by omega) (fun n1 => ?_) (fun e9 => ?_)
            · skip
              refine r_iload_n dX5_readPeople_76 rfl rfl ?_
              refine r_bipush (v := nI 115) dX5_readPeople_77 rfl ?_
              refine r_icmp_neN (tgt := 86) dX5_readPeople_79 (by decide) (by omega) (by omega) (fun n2 => ?_) (fun e9 => ?_)
              · skip
                refine r_iload_n dX5_readPeople_86 rfl rfl ?_
                refine r_bipush (v := nI 119) dX5_readPeople_87 rfl ?_
                refine r_icmp_neN (tgt := 96) dX5_readPeople_89 (by decide) (by omega) (by omega) (fun n3 => ?_) (fun e9 => ?_)
                · skip
                  refine r_iload_n dX5_readPeople_96 rfl rfl ?_
                  refine r_bipush (v := nI 104) dX5_readPeople_97 rfl ?_
                  refine r_icmp_neN (tgt := 106) dX5_readPeople_99 (by decide) (by omega) (by omega) (fun n4 => ?_) (fun e9 => ?_)
                  · skip
                    refine r_iconst (v := (-1)) dX5_readPeople_106 rfl ?_
                    have hk9 : kix (ltr (t 36) (t 34 2) (wh (t 36) (t 34 2) a1)) = -1 := by
                      unfold kix
                      rw [if_neg n0, if_neg n1, if_neg n2, if_neg n3, if_neg n4]
                    rw [hk9] at rest
                    exact rest
                  · skip
                    refine r_iconst (v := nI 4) dX5_readPeople_102 rfl ?_
                    refine r_goto (tgt := 107) dX5_readPeople_103 (by decide) ?_
                    have hk9 : kix (ltr (t 36) (t 34 2) (wh (t 36) (t 34 2) a1)) = nI 4 := by
                      unfold kix
                      rw [if_neg n0, if_neg n1, if_neg n2, if_neg n3, if_pos e9]
                    rw [hk9] at rest
                    exact rest
                · skip
                  refine r_iconst (v := nI 3) dX5_readPeople_92 rfl ?_
                  refine r_goto (tgt := 107) dX5_readPeople_93 (by decide) ?_
                  have hk9 : kix (ltr (t 36) (t 34 2) (wh (t 36) (t 34 2) a1)) = nI 3 := by
                    unfold kix
                    rw [if_neg n0, if_neg n1, if_neg n2, if_pos e9]
                  rw [hk9] at rest
                  exact rest
              · skip
                refine r_iconst (v := nI 2) dX5_readPeople_82 rfl ?_
                refine r_goto (tgt := 107) dX5_readPeople_83 (by decide) ?_
                have hk9 : kix (ltr (t 36) (t 34 2) (wh (t 36) (t 34 2) a1)) = nI 2 := by
                  unfold kix
                  rw [if_neg n0, if_neg n1, if_pos e9]
                rw [hk9] at rest
                exact rest
            · skip
              refine r_iconst (v := nI 1) dX5_readPeople_72 rfl ?_
              refine r_goto (tgt := 107) dX5_readPeople_73 (by decide) ?_
              have hk9 : kix (ltr (t 36) (t 34 2) (wh (t 36) (t 34 2) a1)) = nI 1 := by
                unfold kix
                rw [if_neg n0, if_pos e9]
              rw [hk9] at rest
              exact rest
          · skip
            refine r_iconst (v := nI 0) dX5_readPeople_62 rfl ?_
            refine r_goto (tgt := 107) dX5_readPeople_63 (by decide) ?_
            have hk9 : kix (ltr (t 36) (t 34 2) (wh (t 36) (t 34 2) a1)) = nI 0 := by
              unfold kix
              rw [if_pos e9]
            rw [hk9] at rest
            exact rest
        · have hk0 := c1
          refine r_aload_n dX5_readPeople_13 rfl rfl ?_
          refine r_cV0G mv_X5_here ml_X5_146 (c5_here l hR hB ha1) dX5_readPeople_14 (Nat.le_of_ble_eq_true rfl) ⟨by decide, by decide⟩ ⟨by decide, by decide⟩ sh_34 rfl (fun _ h => nomatch h) (fun v M1 hq => ?_)
          obtain ⟨rfl, hR, hF1⟩ := hq
          have hF := hF.trans hF1
          dsimp only [zrst, List.cons_append, List.nil_append]
          have hl9 := ltr_le (a := wh (t 36) (t 34 2) a1) hB
          refine r_bipush (v := nI 44) dX5_readPeople_17 rfl ?_
          first | refine r_icmp_neN (tgt := 156) dX5_readPeople_19 (by decide) (by omega) (by omega) (fun c2 => ?_) (fun c2 => ?_) | refine r_icmp_ne (tgt := 156) dX5_readPeople_19 (by decide) (fun c2 => ?_) (fun c2 => ?_)
          · have h44 : ¬ (wh (t 36) (t 34 2) a1 < (t 34 2) ∧ t 36 (wh (t 36) (t 34 2) a1) = 44) := fun q => c2 ((ltr_c (by decide)).mpr q)
            have hx := pl_exit (f := t 36) (L := (t 34 2)) (g := g1) (j := 5 - k) hk0 ha1 h44
            rw [← hp] at hx
            refine r_iload_n dX5_readPeople_156 rfl rfl ?_
            refine r_iret dX5_readPeople_157 rfl (by decide) (by decide) ?_
            first
            | exact ⟨rfl, k, r1, rfl, by rw [hSS, cvp_1 (s := (a1, e1)) h0, cvq_1 (s := (a1, e1)) h0]; exact hR, hF, fun q => absurd q (by rw [hSS]; exact h0)⟩
            | exact ⟨rfl, k, r1, rfl, by rw [hx.1]; exact hR, hF, fun _ => ⟨hx.2.1.symm, hr.trans hx.2.2.symm⟩⟩
            | fail "leaf"
          · have h44 : wh (t 36) (t 34 2) a1 < (t 34 2) ∧ t 36 (wh (t 36) (t 34 2) a1) = 44 := (ltr_c (by decide)).mp c2
            refine r_iload_n dX5_readPeople_22 rfl rfl ?_
            refine r_if_leN (tgt := 40) dX5_readPeople_23 (by decide) (by omega) (fun q9 => absurd q9 (by omega)) (fun _ => ?_)
            refine r_aload_n dX5_readPeople_26 rfl rfl ?_
            refine r_iload_n dX5_readPeople_27 rfl rfl ?_
            refine r_iconst (v := nI 5) dX5_readPeople_28 rfl ?_
            first | refine r_icmp_geN (tgt := 36) dX5_readPeople_29 (by decide) (by omega) (by omega) (fun c3 => ?_) (fun c3 => ?_) | refine r_icmp_ge (tgt := 36) dX5_readPeople_29 (by decide) (fun c3 => ?_) (fun c3 => ?_)
            · refine r_iconst (v := nI 0) dX5_readPeople_36 rfl ?_
              refine r_cV1G mv_X5_must ml_X5_153 (c5_mustF l hR hB) dX5_readPeople_37 (Nat.le_of_ble_eq_true rfl) ⟨by decide, by decide⟩ ⟨by decide, by decide⟩ sh_34 rfl (fun _ h => nomatch h) (fun v M1 hq => ?_)
              obtain ⟨rfl, hR, hF1⟩ := hq
              have hF := hF.trans hF1
              dsimp only [zrst, List.cons_append, List.nil_append]
              have hSS : rx (t 36) (t 34 2) (pl (t 36) (t 34 2) 5 0 (a, e) rd).1 = (wh (t 36) (t 34 2) a1, wh (t 36) (t 34 2) a1 + 1) := by rw [hp, show 5 - k = 0 by omega]; exact rx_t h44
              refine r_aload_n dX5_readPeople_40 rfl rfl ?_
              refine r_getV fl_X5_142 dX5_readPeople_41 sh_34 rfl hR.p4 ?_
              refine r_if_eqN (x := 1) (tgt := 51) dX5_readPeople_44 (by decide) (by decide) (fun q9 => absurd q9 (by decide)) (fun _ => ?_)
              refine r_iconst (v := nI 0) dX5_readPeople_47 rfl ?_
              refine r_goto (tgt := 55) dX5_readPeople_48 (by decide) ?_
              refine r_istore_n dX5_readPeople_55 rfl rfl (by decide) ?_
              skip
              refine r_iload_n dX5_readPeople_56 rfl rfl ?_
              refine r_bipush (v := nI 112) dX5_readPeople_57 rfl ?_
              refine r_icmp_neN (x := 0) (tgt := 66) dX5_readPeople_59 (by decide) (by decide) (by decide) (fun _ => ?_) (fun q9 => absurd q9 (by decide))
              refine r_iload_n dX5_readPeople_66 rfl rfl ?_
              refine r_bipush (v := nI 116) dX5_readPeople_67 rfl ?_
              refine r_icmp_neN (x := 0) (tgt := 76) dX5_readPeople_69 (by decide) (by decide) (by decide) (fun _ => ?_) (fun q9 => absurd q9 (by decide))
              refine r_iload_n dX5_readPeople_76 rfl rfl ?_
              refine r_bipush (v := nI 115) dX5_readPeople_77 rfl ?_
              refine r_icmp_neN (x := 0) (tgt := 86) dX5_readPeople_79 (by decide) (by decide) (by decide) (fun _ => ?_) (fun q9 => absurd q9 (by decide))
              refine r_iload_n dX5_readPeople_86 rfl rfl ?_
              refine r_bipush (v := nI 119) dX5_readPeople_87 rfl ?_
              refine r_icmp_neN (x := 0) (tgt := 96) dX5_readPeople_89 (by decide) (by decide) (by decide) (fun _ => ?_) (fun q9 => absurd q9 (by decide))
              refine r_iload_n dX5_readPeople_96 rfl rfl ?_
              refine r_bipush (v := nI 104) dX5_readPeople_97 rfl ?_
              refine r_icmp_neN (x := 0) (tgt := 106) dX5_readPeople_99 (by decide) (by decide) (by decide) (fun _ => ?_) (fun q9 => absurd q9 (by decide))
              refine r_iconst (v := (-1)) dX5_readPeople_106 rfl ?_
              refine r_istore_n dX5_readPeople_107 rfl rfl (by decide) ?_
              refine r_aload_n dX5_readPeople_108 rfl rfl ?_
              refine r_iload_n dX5_readPeople_109 rfl rfl ?_
              refine r_if_lt (tgt := 117) dX5_readPeople_110 (by decide) (fun _ => ?_) (fun q9 => absurd (by decide) q9)
              refine r_iconst (v := nI 0) dX5_readPeople_117 rfl ?_
              refine r_cV1G mv_X5_must ml_X5_153 (c5_must1 l hR hB) dX5_readPeople_118 (Nat.le_of_ble_eq_true rfl) ⟨by decide, by decide⟩ ⟨by decide, by decide⟩ sh_34 rfl (fun _ h => nomatch h) (fun v M1 hq => ?_)
              obtain ⟨rfl, hR, hF1⟩ := hq
              have hF := hF.trans hF1
              dsimp only [zrst, List.cons_append, List.nil_append]
              refine r_aload_n dX5_readPeople_121 rfl rfl ?_
              refine r_getV fl_X5_142 dX5_readPeople_122 sh_34 rfl hR.p4 ?_
              refine r_if_neN (x := 1) (tgt := 150) dX5_readPeople_125 (by decide) (by decide) (fun _ => ?_) (fun q9 => absurd q9 (by decide))
              first | refine r_iincN dX5_readPeople_150 rfl rfl (by decide) ?_ | refine r_iinc dX5_readPeople_150 rfl rfl rfl (by decide) ?_
              refine r_goto (tgt := 2) dX5_readPeople_153 (by decide) ?_
              refine r_lfor 2 ?_
              refine r_lfor 3 ?_
              exact dead M1 (k + 1) _ _ hR hF (by rw [hSS]; exact Nat.succ_ne_zero _) (by rw [hSS]; rfl)
            · refine r_iconst (v := nI 1) dX5_readPeople_32 rfl ?_
              refine r_goto (tgt := 37) dX5_readPeople_33 (by decide) ?_
              refine r_cV1G mv_X5_must ml_X5_153 (c5_mustT l hR hB) dX5_readPeople_37 (Nat.le_of_ble_eq_true rfl) ⟨by decide, by decide⟩ ⟨by decide, by decide⟩ sh_34 rfl (fun _ h => nomatch h) (fun v M1 hq => ?_)
              obtain ⟨rfl, hR, hF1⟩ := hq
              have hF := hF.trans hF1
              dsimp only [zrst, List.cons_append, List.nil_append]
              have hsc : sc (t 36) (t 34 2) k (a1, 0) = (wh (t 36) (t 34 2) a1 + 1, 0) := if_neg hk0
              have hck : k = 0 ∨ (wh (t 36) (t 34 2) a1 < (t 34 2) ∧ t 36 (wh (t 36) (t 34 2) a1) = 44) := Or.inr h44
              have hk1 : wh (t 36) (t 34 2) a1 + 1 ≤ (t 34 2) := h44.1
              refine r_aload_n dX5_readPeople_40 rfl rfl ?_
              refine r_getV fl_X5_142 dX5_readPeople_41 sh_34 rfl hR.p4 ?_
              refine r_if_eqN (x := 0) (tgt := 51) dX5_readPeople_44 (by decide) (by decide) (fun _ => ?_) (fun q9 => absurd q9 (by decide))
              refine r_aload_n dX5_readPeople_51 rfl rfl ?_
              refine r_cV0G mv_X5_here ml_X5_146 (c5_here l hR hB hk1) dX5_readPeople_52 (Nat.le_of_ble_eq_true rfl) ⟨by decide, by decide⟩ ⟨by decide, by decide⟩ sh_34 rfl (fun _ h => nomatch h) (fun v M1 hq => ?_)
              obtain ⟨rfl, hR, hF1⟩ := hq
              have hF := hF.trans hF1
              dsimp only [zrst, List.cons_append, List.nil_append]
              have hl9 := ltr_le (a := wh (t 36) (t 34 2) (wh (t 36) (t 34 2) a1 + 1)) hB
              refine r_istore_n dX5_readPeople_55 rfl rfl (by decide) ?_
              have rest : RA l none (zR 3 0 0) yX5_readPeople cX5_readPeople 4 (some .int) (zG (zSh ++ rw) (fun v9 M9 => ∃ (n9 : Nat) (r9 : Nat → Nat), v9 = some (.int (nI n9)) ∧ RI (pt t (cvp (rx (t 36) (t 34 2) (pl (t 36) (t 34 2) 5 0 (a, e) rd).1)) (cvq (rx (t 36) (t 34 2) (pl (t 36) (t 34 2) 5 0 (a, e) rd).1)) r9) M9 ∧ zfr PR M0 M9 ∧ ((rx (t 36) (t 34 2) (pl (t 36) (t 34 2) 5 0 (a, e) rd).1).2 = 0 → n9 = (pl (t 36) (t 34 2) 5 0 (a, e) rd).2.1 ∧ r9 = (pl (t 36) (t 34 2) 5 0 (a, e) rd).2.2))) 0 0 107 [some (.ref 34), some (.int (nI k)), some (.int (nI (ltr (t 36) (t 34 2) (wh (t 36) (t 34 2) (wh (t 36) (t 34 2) a1 + 1))))), none] [.int (kix (ltr (t 36) (t 34 2) (wh (t 36) (t 34 2) (wh (t 36) (t 34 2) a1 + 1))))] (zSh ++ rw) M1 := by
                refine r_istore_n dX5_readPeople_107 rfl rfl (by decide) ?_
                refine r_aload_n dX5_readPeople_108 rfl rfl ?_
                refine r_iload_n dX5_readPeople_109 rfl rfl ?_
                refine r_if_lt (tgt := 117) dX5_readPeople_110 (by decide) (fun c9 => ?_) (fun c9 => ?_)
                · have hkn : ¬ (wh (t 36) (t 34 2) (wh (t 36) (t 34 2) a1 + 1) < (t 34 2) ∧ kn (t 36 (wh (t 36) (t 34 2) (wh (t 36) (t 34 2) a1 + 1))) < 5) := fun q => kix_nl c9 (ltr_k.mpr q)
                  refine r_iconst (v := nI 0) dX5_readPeople_117 rfl ?_
                  refine r_cV1G mv_X5_must ml_X5_153 (c5_mustF l hR hB) dX5_readPeople_118 (Nat.le_of_ble_eq_true rfl) ⟨by decide, by decide⟩ ⟨by decide, by decide⟩ sh_34 rfl (fun _ h => nomatch h) (fun v M1 hq => ?_)
                  obtain ⟨rfl, hR, hF1⟩ := hq
                  have hF := hF.trans hF1
                  dsimp only [zrst, List.cons_append, List.nil_append]
                  refine r_aload_n dX5_readPeople_121 rfl rfl ?_
                  refine r_getV fl_X5_142 dX5_readPeople_122 sh_34 rfl hR.p4 ?_
                  refine r_if_neN (x := 1) (tgt := 150) dX5_readPeople_125 (by decide) (by decide) (fun _ => ?_) (fun q9 => absurd q9 (by decide))
                  first | refine r_iincN dX5_readPeople_150 rfl rfl (by decide) ?_ | refine r_iinc dX5_readPeople_150 rfl rfl rfl (by decide) ?_
                  refine r_goto (tgt := 2) dX5_readPeople_153 (by decide) ?_
                  have hsk9 := wpS_k (f := t 36) (n := k) (show SK (t 34 2) (a1, 0) from ⟨ha1, Nat.zero_le _⟩) hck
                  have hki : ki (t 36) (t 34 2) ((wh (t 36) (t 34 2) a1 + 1), 0) = (wh (t 36) (t 34 2) (wh (t 36) (t 34 2) a1 + 1), wh (t 36) (t 34 2) (wh (t 36) (t 34 2) a1 + 1) + 1) := (ki_n hkn).trans (by rw [fa_0])
                  have h9 : (wpS (t 36) (t 34 2) k (a1, 0)).2 = wh (t 36) (t 34 2) (wh (t 36) (t 34 2) a1 + 1) + 1 := by unfold wpS; rw [hsc, hki]; exact fs_f (by simp) 4
                  have h8 : (wpS (t 36) (t 34 2) k (a1, 0)).2 ≠ 0 := by omega
                  have hR : RI (pt t (cvp (wpS (t 36) (t 34 2) k (a1, 0))) (cvq (wpS (t 36) (t 34 2) k (a1, 0))) r1) M1 := by rw [cvp_1 h8, cvq_1 h8, h9]; exact hR
                  refine r_lfor 2 ?_
                  refine r_lfor 3 ?_
                  exact ih (k + 1) M1 (wpS (t 36) (t 34 2) k (a1, 0)).1 (wpS (t 36) (t 34 2) k (a1, 0)).2 r1 (wpG (t 36) (t 34 2) k (a1, 0) g1) hR hF hsk9.1 hsk9.2 (by rw [hp, show 5 - k = (5 - (k + 1)) + 1 by omega]; exact pl_s rfl hck) (fun q => absurd q h8) (by omega) (by omega)
                · have hkn : kn (ltr (t 36) (t 34 2) (wh (t 36) (t 34 2) (wh (t 36) (t 34 2) a1 + 1))) < 5 := kix_ge.mp (kix_nn c9)
                  have hk1 : wh (t 36) (t 34 2) (wh (t 36) (t 34 2) a1 + 1) + 1 ≤ (t 34 2) := (ltr_k.mp hkn).1
                  refine r_iconst (v := nI 1) dX5_readPeople_113 rfl ?_
                  refine r_goto (tgt := 118) dX5_readPeople_114 (by decide) ?_
                  refine r_cV1G mv_X5_must ml_X5_153 (c5_mustT l hR hB) dX5_readPeople_118 (Nat.le_of_ble_eq_true rfl) ⟨by decide, by decide⟩ ⟨by decide, by decide⟩ sh_34 rfl (fun _ h => nomatch h) (fun v M1 hq => ?_)
                  obtain ⟨rfl, hR, hF1⟩ := hq
                  have hF := hF.trans hF1
                  dsimp only [zrst, List.cons_append, List.nil_append]
                  refine r_aload_n dX5_readPeople_121 rfl rfl ?_
                  refine r_getV fl_X5_142 dX5_readPeople_122 sh_34 rfl hR.p4 ?_
                  refine r_if_neN (x := 0) (tgt := 150) dX5_readPeople_125 (by decide) (by decide) (fun q9 => absurd q9 (by decide)) (fun _ => ?_)
                  refine r_aload_n dX5_readPeople_128 rfl rfl ?_
                  refine r_getR fl_X5_16 dX5_readPeople_129 sh_34 rfl ?_
                  refine r_iconst (v := nI 5) dX5_readPeople_132 rfl ?_
                  refine r_iload_n dX5_readPeople_133 rfl rfl ?_
                  first | refine r_imulN dX5_readPeople_134 ?_ | refine r_imul dX5_readPeople_134 ?_
                  refine r_iload_n dX5_readPeople_135 rfl rfl ?_
                  refine r_top (v' := .int (nI (kn (ltr (t 36) (t 34 2) (wh (t 36) (t 34 2) (wh (t 36) (t 34 2) a1 + 1)))))) (congrArg Value.int (by rw [kix_eq, if_pos hkn])) ?_
                  refine r_P37 hR dX5_readPeople_136 sh_37 (by omega) (fun M hR hF1 => ?_)
                  have hF := hF.trans hF1
                  refine r_aload_n dX5_readPeople_137 rfl rfl ?_
                  refine r_iconst (v := nI 5) dX5_readPeople_138 rfl ?_
                  refine r_iload_n dX5_readPeople_139 rfl rfl ?_
                  first | refine r_imulN dX5_readPeople_140 ?_ | refine r_imul dX5_readPeople_140 ?_
                  refine r_iconst (v := nI 1) dX5_readPeople_141 rfl ?_
                  first | refine r_iaddN dX5_readPeople_142 ?_ | refine r_iadd dX5_readPeople_142 ?_
                  refine r_bipush (v := nI 10) dX5_readPeople_143 rfl ?_
                  refine r_bipush (v := nI 99) dX5_readPeople_145 rfl ?_
                  refine r_cV3G mv_X5_readFour ml_X5_160 (c5_readFour l hR hB hk1 (by omega) (by decide) (by decide)) dX5_readPeople_147 (Nat.le_of_ble_eq_true rfl) ⟨by decide, by decide⟩ ⟨by decide, by decide⟩ sh_34 rfl (fun _ h => nomatch h) (fun v M1 hq => ?_)
                  obtain ⟨rfl, r2, hR, hF1, hr2⟩ := hq
                  have hF := hF.trans hF1
                  dsimp only [zrst, List.cons_append, List.nil_append]
                  first | refine r_iincN dX5_readPeople_150 rfl rfl (by decide) ?_ | refine r_iinc dX5_readPeople_150 rfl rfl rfl (by decide) ?_
                  refine r_goto (tgt := 2) dX5_readPeople_153 (by decide) ?_
                  have hsk9 := wpS_k (f := t 36) (n := k) (show SK (t 34 2) (a1, 0) from ⟨ha1, Nat.zero_le _⟩) hck
                  have hki : ki (t 36) (t 34 2) ((wh (t 36) (t 34 2) a1 + 1), 0) = (wh (t 36) (t 34 2) (wh (t 36) (t 34 2) a1 + 1) + 1, 0) := ki_t (ltr_k.mp hkn)
                  have h9 : wpS (t 36) (t 34 2) k (a1, 0) = fs (t 36) (t 34 2) 10 99 (wh (t 36) (t 34 2) (wh (t 36) (t 34 2) a1 + 1) + 1, 0) 4 := by unfold wpS; rw [hsc, hki]
                  have hR : RI (pt t (cvp (wpS (t 36) (t 34 2) k (a1, 0))) (cvq (wpS (t 36) (t 34 2) k (a1, 0))) r2) M1 := by rw [h9]; exact hR
                  refine r_lfor 2 ?_
                  refine r_lfor 3 ?_
                  exact ih (k + 1) M1 (wpS (t 36) (t 34 2) k (a1, 0)).1 (wpS (t 36) (t 34 2) k (a1, 0)).2 r2 (wpG (t 36) (t 34 2) k (a1, 0) g1) hR hF hsk9.1 hsk9.2 (by rw [hp, show 5 - k = (5 - (k + 1)) + 1 by omega]; exact pl_s rfl hck) (fun q => by rw [h9] at q; exact (hr2 q).trans (wpG_eq hsc hr hkn)) (by omega) (by omega)
              refine r_iload_n dX5_readPeople_56 rfl rfl ?_
              refine r_bipush (v := nI 112) dX5_readPeople_57 rfl ?_
              refine r_icmp_neN (tgt := 66) dX5_readPeople_59 (by decide) (by omega) (by omega) (fun n0 => ?_) (fun e9 => ?_)
              · skip
                refine r_iload_n dX5_readPeople_66 rfl rfl ?_
                refine r_bipush (v := nI 116) dX5_readPeople_67 rfl ?_
                refine r_icmp_neN (tgt := 76) dX5_readPeople_69 (by decide) (by omega) (by omega) (fun n1 => ?_) (fun e9 => ?_)
                · skip
                  refine r_iload_n dX5_readPeople_76 rfl rfl ?_
                  refine r_bipush (v := nI 115) dX5_readPeople_77 rfl ?_
                  refine r_icmp_neN (tgt := 86) dX5_readPeople_79 (by decide) (by omega) (by omega) (fun n2 => ?_) (fun e9 => ?_)
                  · skip
                    refine r_iload_n dX5_readPeople_86 rfl rfl ?_
                    refine r_bipush (v := nI 119) dX5_readPeople_87 rfl ?_
                    refine r_icmp_neN (tgt := 96) dX5_readPeople_89 (by decide) (by omega) (by omega) (fun n3 => ?_) (fun e9 => ?_)
                    · skip
                      refine r_iload_n dX5_readPeople_96 rfl rfl ?_
                      refine r_bipush (v := nI 104) dX5_readPeople_97 rfl ?_
                      refine r_icmp_neN (tgt := 106) dX5_readPeople_99 (by decide) (by omega) (by omega) (fun n4 => ?_) (fun e9 => ?_)
                      · skip
                        refine r_iconst (v := (-1)) dX5_readPeople_106 rfl ?_
                        have hk9 : kix (ltr (t 36) (t 34 2) (wh (t 36) (t 34 2) (wh (t 36) (t 34 2) a1 + 1))) = -1 := by
                          unfold kix
                          rw [if_neg n0, if_neg n1, if_neg n2, if_neg n3, if_neg n4]
                        rw [hk9] at rest
                        exact rest
                      · skip
                        refine r_iconst (v := nI 4) dX5_readPeople_102 rfl ?_
                        refine r_goto (tgt := 107) dX5_readPeople_103 (by decide) ?_
                        have hk9 : kix (ltr (t 36) (t 34 2) (wh (t 36) (t 34 2) (wh (t 36) (t 34 2) a1 + 1))) = nI 4 := by
                          unfold kix
                          rw [if_neg n0, if_neg n1, if_neg n2, if_neg n3, if_pos e9]
                        rw [hk9] at rest
                        exact rest
                    · skip
                      refine r_iconst (v := nI 3) dX5_readPeople_92 rfl ?_
                      refine r_goto (tgt := 107) dX5_readPeople_93 (by decide) ?_
                      have hk9 : kix (ltr (t 36) (t 34 2) (wh (t 36) (t 34 2) (wh (t 36) (t 34 2) a1 + 1))) = nI 3 := by
                        unfold kix
                        rw [if_neg n0, if_neg n1, if_neg n2, if_pos e9]
                      rw [hk9] at rest
                      exact rest
                  · skip
                    refine r_iconst (v := nI 2) dX5_readPeople_82 rfl ?_
                    refine r_goto (tgt := 107) dX5_readPeople_83 (by decide) ?_
                    have hk9 : kix (ltr (t 36) (t 34 2) (wh (t 36) (t 34 2) (wh (t 36) (t 34 2) a1 + 1))) = nI 2 := by
                      unfold kix
                      rw [if_neg n0, if_neg n1, if_pos e9]
                    rw [hk9] at rest
                    exact rest
                · skip
                  refine r_iconst (v := nI 1) dX5_readPeople_72 rfl ?_
                  refine r_goto (tgt := 107) dX5_readPeople_73 (by decide) ?_
                  have hk9 : kix (ltr (t 36) (t 34 2) (wh (t 36) (t 34 2) (wh (t 36) (t 34 2) a1 + 1))) = nI 1 := by
                    unfold kix
                    rw [if_neg n0, if_pos e9]
                  rw [hk9] at rest
                  exact rest
              · skip
                refine r_iconst (v := nI 0) dX5_readPeople_62 rfl ?_
                refine r_goto (tgt := 107) dX5_readPeople_63 (by decide) ?_
                have hk9 : kix (ltr (t 36) (t 34 2) (wh (t 36) (t 34 2) (wh (t 36) (t 34 2) a1 + 1))) = nI 0 := by
                  unfold kix
                  rw [if_pos e9]
                rw [hk9] at rest
                exact rest
      · have hR : RI (pt t (e1 - 1) 1 r1) M := by rw [cvp_1 (s := (a1, e1)) h0, cvq_1 (s := (a1, e1)) h0] at hR; exact hR
        have hx : pl (t 36) (t 34 2) 5 0 (a, e) rd = ((a1, e1), k, g1) := hp.trans (pl_e h0)
        have hSS : rx (t 36) (t 34 2) (pl (t 36) (t 34 2) 5 0 (a, e) rd).1 = (a1, e1) := by rw [hx]; exact rx_1 h0
        refine r_aload_n dX5_readPeople_2 rfl rfl ?_
        refine r_getV fl_X5_142 dX5_readPeople_3 sh_34 rfl hR.p4 ?_
        refine r_if_neN (x := 1) (tgt := 156) dX5_readPeople_6 (by decide) (by decide) (fun _ => ?_) (fun q9 => absurd q9 (by decide))
        refine r_iload_n dX5_readPeople_156 rfl rfl ?_
        refine r_iret dX5_readPeople_157 rfl (by decide) (by decide) ?_
        first
        | exact ⟨rfl, k, r1, rfl, by rw [hSS, cvp_1 (s := (a1, e1)) h0, cvq_1 (s := (a1, e1)) h0]; exact hR, hF, fun q => absurd q (by rw [hSS]; exact h0)⟩
        | exact ⟨rfl, k, r1, rfl, by rw [hx.1]; exact hR, hF, fun _ => ⟨hx.2.1.symm, hr.trans hx.2.2.symm⟩⟩
        | fail "leaf"
  exact loop (5 + 1) 0 M0 a e rd rd hR hF ha he rfl (fun _ => rfl) (Nat.zero_le _) (by omega)

set_option maxHeartbeats 4000000 in
set_option maxRecDepth 100000 in
theorem c5_readSuits (l : Launch) {rw : List zC} {M0 : zM} {t : Nat → Nat → Nat} {a e : Nat} {rd : Nat → Nat} (hR : RI (pt t (cvp (a, e)) (cvq (a, e)) rd) M0) (hB : TB (t 36) (t 34 2)) (ha : a ≤ (t 34 2)) (he : e ≤ (t 34 2) + 1) : CT l false 3 0 0 yX5_readSuits cX5_readSuits 2 (some .int) [.ref 34] (zSh ++ rw) M0 (zG (zSh ++ rw) (fun v9 M9 => ∃ (n9 : Nat) (r9 : Nat → Nat), v9 = some (.int (nI n9)) ∧ RI (pt t (cvp (rx (t 36) (t 34 2) (sl (t 36) (t 34 2) 4 0 (a, e) rd).1)) (cvq (rx (t 36) (t 34 2) (sl (t 36) (t 34 2) 4 0 (a, e) rd).1)) r9) M9 ∧ zfr PR M0 M9 ∧ ((rx (t 36) (t 34 2) (sl (t 36) (t 34 2) 4 0 (a, e) rd).1).2 = 0 → n9 = (sl (t 36) (t 34 2) 4 0 (a, e) rd).2.1 ∧ r9 = (sl (t 36) (t 34 2) 4 0 (a, e) rd).2.2))) := by
  refine CT.ofN (by decide) (fun _ _ => Nat.le_of_ble_eq_true rfl) ?_
  have hF : zfr PR M0 M0 := zfr.rf
  have hL := hB.1
  have dead : ∀ (M : zM) (n p1 : Nat) (r1 : Nat → Nat) (hR : RI (pt t p1 1 r1) M) (hF : zfr PR M0 M) (hs : (rx (t 36) (t 34 2) (sl (t 36) (t 34 2) 4 0 (a, e) rd).1).2 ≠ 0) (hp1 : p1 = (rx (t 36) (t 34 2) (sl (t 36) (t 34 2) 4 0 (a, e) rd).1).2 - 1), RA l none (zR 3 0 0) yX5_readSuits cX5_readSuits 2 (some .int) (zG (zSh ++ rw) (fun v9 M9 => ∃ (n9 : Nat) (r9 : Nat → Nat), v9 = some (.int (nI n9)) ∧ RI (pt t (cvp (rx (t 36) (t 34 2) (sl (t 36) (t 34 2) 4 0 (a, e) rd).1)) (cvq (rx (t 36) (t 34 2) (sl (t 36) (t 34 2) 4 0 (a, e) rd).1)) r9) M9 ∧ zfr PR M0 M9 ∧ ((rx (t 36) (t 34 2) (sl (t 36) (t 34 2) 4 0 (a, e) rd).1).2 = 0 → n9 = (sl (t 36) (t 34 2) 4 0 (a, e) rd).2.1 ∧ r9 = (sl (t 36) (t 34 2) 4 0 (a, e) rd).2.2))) 0 0 2 [some (.ref 34), some (.int (nI n))] [] (zSh ++ rw) M := by
    intro M n p1 r1 hR hF hs hp1
    refine r_aload_n dX5_readSuits_2 rfl rfl ?_
    refine r_getV fl_X5_142 dX5_readSuits_3 sh_34 rfl hR.p4 ?_
    refine r_if_neN (x := 1) (tgt := 67) dX5_readSuits_6 (by decide) (by decide) (fun _ => ?_) (fun q9 => absurd q9 (by decide))
    refine r_iload_n dX5_readSuits_67 rfl rfl ?_
    refine r_iret dX5_readSuits_68 rfl (by decide) (by decide) ?_
    exact ⟨rfl, n, r1, rfl, by rw [cvp_1 hs, cvq_1 hs, ← hp1]; exact hR, hF, fun q => absurd q hs⟩
  refine r_iconst (v := nI 0) dX5_readSuits_0 rfl ?_
  refine r_istore_n dX5_readSuits_1 rfl rfl (by decide) ?_
  have loop : ∀ (j k : Nat) (M : zM) (a1 e1 : Nat) (r1 g1 : Nat → Nat) (hR : RI (pt t (cvp (a1, e1)) (cvq (a1, e1)) r1) M) (hF : zfr PR M0 M) (ha1 : a1 ≤ (t 34 2)) (he1 : e1 ≤ (t 34 2) + 1) (hp : sl (t 36) (t 34 2) 4 0 (a, e) rd = sl (t 36) (t 34 2) (4 - k) k (a1, e1) g1) (hr : e1 = 0 → r1 = g1), k ≤ 4 → 4 < k + j → RA l none (zR 3 0 0) yX5_readSuits cX5_readSuits 2 (some .int) (zG (zSh ++ rw) (fun v9 M9 => ∃ (n9 : Nat) (r9 : Nat → Nat), v9 = some (.int (nI n9)) ∧ RI (pt t (cvp (rx (t 36) (t 34 2) (sl (t 36) (t 34 2) 4 0 (a, e) rd).1)) (cvq (rx (t 36) (t 34 2) (sl (t 36) (t 34 2) 4 0 (a, e) rd).1)) r9) M9 ∧ zfr PR M0 M9 ∧ ((rx (t 36) (t 34 2) (sl (t 36) (t 34 2) 4 0 (a, e) rd).1).2 = 0 → n9 = (sl (t 36) (t 34 2) 4 0 (a, e) rd).2.1 ∧ r9 = (sl (t 36) (t 34 2) 4 0 (a, e) rd).2.2))) 0 0 2 [some (.ref 34), some (.int (nI k))] [] (zSh ++ rw) M := by
    intro j
    induction j with
    | zero => intro k M a1 e1 r1 g1 hR hF ha1 he1 hp hr hk hj; exact absurd hj (by omega)
    | succ j ih =>
      intro k M a1 e1 r1 g1 hR hF ha1 he1 hp hr hk hj
      by_cases h0 : e1 = 0
      · subst h0
        have hR : RI (pt t a1 0 r1) M := hR
        have hr := hr rfl
        refine r_aload_n dX5_readSuits_2 rfl rfl ?_
        refine r_getV fl_X5_142 dX5_readSuits_3 sh_34 rfl hR.p4 ?_
        refine r_if_neN (x := 0) (tgt := 67) dX5_readSuits_6 (by decide) (by decide) (fun q9 => absurd q9 (by decide)) (fun _ => ?_)
        refine r_iload_n dX5_readSuits_9 rfl rfl ?_
        first | refine r_if_eqB (tgt := 22) dX5_readSuits_10 (by decide) (fun c1 => ?_) (fun c1 => ?_) | refine r_if_eqN (tgt := 22) dX5_readSuits_10 (by decide) (by omega) (fun c1 => ?_) (fun c1 => ?_) | refine r_if_eq (tgt := 22) dX5_readSuits_10 (by decide) (fun c1 => ?_) (fun c1 => ?_)
        · have hsc : sc (t 36) (t 34 2) k (a1, 0) = (a1, 0) := if_pos c1
          have hck : k = 0 ∨ (wh (t 36) (t 34 2) a1 < (t 34 2) ∧ t 36 (wh (t 36) (t 34 2) a1) = 44) := Or.inl c1
          have hk1 := ha1
          refine r_iload_n dX5_readSuits_22 rfl rfl ?_
          refine r_if_leN (tgt := 40) dX5_readSuits_23 (by decide) (by omega) (fun _ => ?_) (fun q9 => absurd q9 (by omega))
          refine r_aload_n dX5_readSuits_40 rfl rfl ?_
          refine r_getV fl_X5_142 dX5_readSuits_41 sh_34 rfl hR.p4 ?_
          refine r_if_neN (x := 0) (tgt := 61) dX5_readSuits_44 (by decide) (by decide) (fun q9 => absurd q9 (by decide)) (fun _ => ?_)
          refine r_aload_n dX5_readSuits_47 rfl rfl ?_
          refine r_bipush (v := nI 25) dX5_readSuits_48 rfl ?_
          refine r_iconst (v := nI 4) dX5_readSuits_50 rfl ?_
          refine r_iload_n dX5_readSuits_51 rfl rfl ?_
          first | refine r_imulN dX5_readSuits_52 ?_ | refine r_imul dX5_readSuits_52 ?_
          first | refine r_iaddN dX5_readSuits_53 ?_ | refine r_iadd dX5_readSuits_53 ?_
          refine r_iconst (v := nI 0) dX5_readSuits_54 rfl ?_
          refine r_sipush (v := nI 199) dX5_readSuits_55 rfl ?_
          refine r_cV3G mv_X5_readFour ml_X5_160 (c5_readFour l hR hB hk1 (by omega) (by decide) (by decide)) dX5_readSuits_58 (Nat.le_of_ble_eq_true rfl) ⟨by decide, by decide⟩ ⟨by decide, by decide⟩ sh_34 rfl (fun _ h => nomatch h) (fun v M1 hq => ?_)
          obtain ⟨rfl, r2, hR, hF1, hr2⟩ := hq
          have hF := hF.trans hF1
          dsimp only [zrst, List.cons_append, List.nil_append]
          first | refine r_iincN dX5_readSuits_61 rfl rfl (by decide) ?_ | refine r_iinc dX5_readSuits_61 rfl rfl rfl (by decide) ?_
          refine r_goto (tgt := 2) dX5_readSuits_64 (by decide) ?_
          have hsk9 := wtS_k (f := t 36) (n := k) (show SK (t 34 2) (a1, 0) from ⟨ha1, Nat.zero_le _⟩) hck
          have h9 : wtS (t 36) (t 34 2) k (a1, 0) = fs (t 36) (t 34 2) 0 199 (a1, 0) 4 := by unfold wtS; rw [hsc]
          have hR : RI (pt t (cvp (wtS (t 36) (t 34 2) k (a1, 0))) (cvq (wtS (t 36) (t 34 2) k (a1, 0))) r2) M1 := by rw [h9]; exact hR
          exact ih (k + 1) M1 (wtS (t 36) (t 34 2) k (a1, 0)).1 (wtS (t 36) (t 34 2) k (a1, 0)).2 r2 (wtG (t 36) (t 34 2) k (a1, 0) g1) hR hF hsk9.1 hsk9.2 (by rw [hp, show 4 - k = (4 - (k + 1)) + 1 by omega]; exact sl_s rfl hck) (fun q => by rw [h9] at q; exact (hr2 q).trans (wtG_eq hsc hr)) (by omega) (by omega)
        · have hk0 := c1
          refine r_aload_n dX5_readSuits_13 rfl rfl ?_
          refine r_cV0G mv_X5_here ml_X5_146 (c5_here l hR hB ha1) dX5_readSuits_14 (Nat.le_of_ble_eq_true rfl) ⟨by decide, by decide⟩ ⟨by decide, by decide⟩ sh_34 rfl (fun _ h => nomatch h) (fun v M1 hq => ?_)
          obtain ⟨rfl, hR, hF1⟩ := hq
          have hF := hF.trans hF1
          dsimp only [zrst, List.cons_append, List.nil_append]
          have hl9 := ltr_le (a := wh (t 36) (t 34 2) a1) hB
          refine r_bipush (v := nI 44) dX5_readSuits_17 rfl ?_
          first | refine r_icmp_neN (tgt := 67) dX5_readSuits_19 (by decide) (by omega) (by omega) (fun c2 => ?_) (fun c2 => ?_) | refine r_icmp_ne (tgt := 67) dX5_readSuits_19 (by decide) (fun c2 => ?_) (fun c2 => ?_)
          · have h44 : ¬ (wh (t 36) (t 34 2) a1 < (t 34 2) ∧ t 36 (wh (t 36) (t 34 2) a1) = 44) := fun q => c2 ((ltr_c (by decide)).mpr q)
            have hx := sl_exit (f := t 36) (L := (t 34 2)) (g := g1) (j := 4 - k) hk0 ha1 h44
            rw [← hp] at hx
            refine r_iload_n dX5_readSuits_67 rfl rfl ?_
            refine r_iret dX5_readSuits_68 rfl (by decide) (by decide) ?_
            first
            | exact ⟨rfl, k, r1, rfl, by rw [hSS, cvp_1 (s := (a1, e1)) h0, cvq_1 (s := (a1, e1)) h0]; exact hR, hF, fun q => absurd q (by rw [hSS]; exact h0)⟩
            | exact ⟨rfl, k, r1, rfl, by rw [hx.1]; exact hR, hF, fun _ => ⟨hx.2.1.symm, hr.trans hx.2.2.symm⟩⟩
            | fail "leaf"
          · have h44 : wh (t 36) (t 34 2) a1 < (t 34 2) ∧ t 36 (wh (t 36) (t 34 2) a1) = 44 := (ltr_c (by decide)).mp c2
            refine r_iload_n dX5_readSuits_22 rfl rfl ?_
            refine r_if_leN (tgt := 40) dX5_readSuits_23 (by decide) (by omega) (fun q9 => absurd q9 (by omega)) (fun _ => ?_)
            refine r_aload_n dX5_readSuits_26 rfl rfl ?_
            refine r_iload_n dX5_readSuits_27 rfl rfl ?_
            refine r_iconst (v := nI 4) dX5_readSuits_28 rfl ?_
            first | refine r_icmp_geN (tgt := 36) dX5_readSuits_29 (by decide) (by omega) (by omega) (fun c3 => ?_) (fun c3 => ?_) | refine r_icmp_ge (tgt := 36) dX5_readSuits_29 (by decide) (fun c3 => ?_) (fun c3 => ?_)
            · refine r_iconst (v := nI 0) dX5_readSuits_36 rfl ?_
              refine r_cV1G mv_X5_must ml_X5_153 (c5_mustF l hR hB) dX5_readSuits_37 (Nat.le_of_ble_eq_true rfl) ⟨by decide, by decide⟩ ⟨by decide, by decide⟩ sh_34 rfl (fun _ h => nomatch h) (fun v M1 hq => ?_)
              obtain ⟨rfl, hR, hF1⟩ := hq
              have hF := hF.trans hF1
              dsimp only [zrst, List.cons_append, List.nil_append]
              have hSS : rx (t 36) (t 34 2) (sl (t 36) (t 34 2) 4 0 (a, e) rd).1 = (wh (t 36) (t 34 2) a1, wh (t 36) (t 34 2) a1 + 1) := by rw [hp, show 4 - k = 0 by omega]; exact rx_t h44
              refine r_aload_n dX5_readSuits_40 rfl rfl ?_
              refine r_getV fl_X5_142 dX5_readSuits_41 sh_34 rfl hR.p4 ?_
              refine r_if_neN (x := 1) (tgt := 61) dX5_readSuits_44 (by decide) (by decide) (fun _ => ?_) (fun q9 => absurd q9 (by decide))
              first | refine r_iincN dX5_readSuits_61 rfl rfl (by decide) ?_ | refine r_iinc dX5_readSuits_61 rfl rfl rfl (by decide) ?_
              refine r_goto (tgt := 2) dX5_readSuits_64 (by decide) ?_
              exact dead M1 (k + 1) _ _ hR hF (by rw [hSS]; exact Nat.succ_ne_zero _) (by rw [hSS]; rfl)
            · refine r_iconst (v := nI 1) dX5_readSuits_32 rfl ?_
              refine r_goto (tgt := 37) dX5_readSuits_33 (by decide) ?_
              refine r_cV1G mv_X5_must ml_X5_153 (c5_mustT l hR hB) dX5_readSuits_37 (Nat.le_of_ble_eq_true rfl) ⟨by decide, by decide⟩ ⟨by decide, by decide⟩ sh_34 rfl (fun _ h => nomatch h) (fun v M1 hq => ?_)
              obtain ⟨rfl, hR, hF1⟩ := hq
              have hF := hF.trans hF1
              dsimp only [zrst, List.cons_append, List.nil_append]
              have hsc : sc (t 36) (t 34 2) k (a1, 0) = (wh (t 36) (t 34 2) a1 + 1, 0) := if_neg hk0
              have hck : k = 0 ∨ (wh (t 36) (t 34 2) a1 < (t 34 2) ∧ t 36 (wh (t 36) (t 34 2) a1) = 44) := Or.inr h44
              have hk1 : wh (t 36) (t 34 2) a1 + 1 ≤ (t 34 2) := h44.1
              refine r_aload_n dX5_readSuits_40 rfl rfl ?_
              refine r_getV fl_X5_142 dX5_readSuits_41 sh_34 rfl hR.p4 ?_
              refine r_if_neN (x := 0) (tgt := 61) dX5_readSuits_44 (by decide) (by decide) (fun q9 => absurd q9 (by decide)) (fun _ => ?_)
              refine r_aload_n dX5_readSuits_47 rfl rfl ?_
              refine r_bipush (v := nI 25) dX5_readSuits_48 rfl ?_
              refine r_iconst (v := nI 4) dX5_readSuits_50 rfl ?_
              refine r_iload_n dX5_readSuits_51 rfl rfl ?_
              first | refine r_imulN dX5_readSuits_52 ?_ | refine r_imul dX5_readSuits_52 ?_
              first | refine r_iaddN dX5_readSuits_53 ?_ | refine r_iadd dX5_readSuits_53 ?_
              refine r_iconst (v := nI 0) dX5_readSuits_54 rfl ?_
              refine r_sipush (v := nI 199) dX5_readSuits_55 rfl ?_
              refine r_cV3G mv_X5_readFour ml_X5_160 (c5_readFour l hR hB hk1 (by omega) (by decide) (by decide)) dX5_readSuits_58 (Nat.le_of_ble_eq_true rfl) ⟨by decide, by decide⟩ ⟨by decide, by decide⟩ sh_34 rfl (fun _ h => nomatch h) (fun v M1 hq => ?_)
              obtain ⟨rfl, r2, hR, hF1, hr2⟩ := hq
              have hF := hF.trans hF1
              dsimp only [zrst, List.cons_append, List.nil_append]
              first | refine r_iincN dX5_readSuits_61 rfl rfl (by decide) ?_ | refine r_iinc dX5_readSuits_61 rfl rfl rfl (by decide) ?_
              refine r_goto (tgt := 2) dX5_readSuits_64 (by decide) ?_
              have hsk9 := wtS_k (f := t 36) (n := k) (show SK (t 34 2) (a1, 0) from ⟨ha1, Nat.zero_le _⟩) hck
              have h9 : wtS (t 36) (t 34 2) k (a1, 0) = fs (t 36) (t 34 2) 0 199 ((wh (t 36) (t 34 2) a1 + 1), 0) 4 := by unfold wtS; rw [hsc]
              have hR : RI (pt t (cvp (wtS (t 36) (t 34 2) k (a1, 0))) (cvq (wtS (t 36) (t 34 2) k (a1, 0))) r2) M1 := by rw [h9]; exact hR
              exact ih (k + 1) M1 (wtS (t 36) (t 34 2) k (a1, 0)).1 (wtS (t 36) (t 34 2) k (a1, 0)).2 r2 (wtG (t 36) (t 34 2) k (a1, 0) g1) hR hF hsk9.1 hsk9.2 (by rw [hp, show 4 - k = (4 - (k + 1)) + 1 by omega]; exact sl_s rfl hck) (fun q => by rw [h9] at q; exact (hr2 q).trans (wtG_eq hsc hr)) (by omega) (by omega)
      · have hR : RI (pt t (e1 - 1) 1 r1) M := by rw [cvp_1 (s := (a1, e1)) h0, cvq_1 (s := (a1, e1)) h0] at hR; exact hR
        have hx : sl (t 36) (t 34 2) 4 0 (a, e) rd = ((a1, e1), k, g1) := hp.trans (sl_e h0)
        have hSS : rx (t 36) (t 34 2) (sl (t 36) (t 34 2) 4 0 (a, e) rd).1 = (a1, e1) := by rw [hx]; exact rx_1 h0
        refine r_aload_n dX5_readSuits_2 rfl rfl ?_
        refine r_getV fl_X5_142 dX5_readSuits_3 sh_34 rfl hR.p4 ?_
        refine r_if_neN (x := 1) (tgt := 67) dX5_readSuits_6 (by decide) (by decide) (fun _ => ?_) (fun q9 => absurd q9 (by decide))
        refine r_iload_n dX5_readSuits_67 rfl rfl ?_
        refine r_iret dX5_readSuits_68 rfl (by decide) (by decide) ?_
        first
        | exact ⟨rfl, k, r1, rfl, by rw [hSS, cvp_1 (s := (a1, e1)) h0, cvq_1 (s := (a1, e1)) h0]; exact hR, hF, fun q => absurd q (by rw [hSS]; exact h0)⟩
        | exact ⟨rfl, k, r1, rfl, by rw [hx.1]; exact hR, hF, fun _ => ⟨hx.2.1.symm, hr.trans hx.2.2.symm⟩⟩
        | fail "leaf"
  exact loop (4 + 1) 0 M0 a e rd rd hR hF ha he rfl (fun _ => rfl) (Nat.zero_le _) (by omega)

