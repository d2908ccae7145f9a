theorem lfb_le {n : Nat → Nat} {d day : Nat} {b : Bool} (h : n (49 + 4 * d + 2) ≤ 9) : lfb n d day b ≤ 9 := by
  unfold lfb
  have h2 := Nat.sub_le (n (49 + 4 * d + 2)) ((day - n (49 + 4 * d + 3)) / n 4)
  generalize n (49 + 4 * d + 2) - (day - n (49 + 4 * d + 3)) / n 4 = x at *
  split <;> omega
theorem cno_no {n : Nat → Nat} {p D : Nat} (h : ¬ opn n p D = true) : cno n p (D + 1) = cno n p D := by rw [cno, if_neg h]; rfl
theorem cno_yes {n : Nat → Nat} {p D : Nat} (h : opn n p D = true) : cno n p (D + 1) = cno n p D + 1 := by rw [cno, if_pos h]
theorem oo_keep {n : Nat → Nat} {p D i : Nat} (h : i < cno n p D) : oo n p (D + 1) i = oo n p D i := by rw [oo, if_neg (fun q => by omega)]
theorem oo_new {n : Nat → Nat} {p D : Nat} (h : opn n p D = true) : oo n p (D + 1) (cno n p D) = D := by rw [oo, if_pos ⟨h, rfl⟩]
/-- the gaps while one set becomes the next -/
def xg (n : Nat → Nat) (p q day s k m : Nat) : Int32 := if k ≤ low s then (nI (mea n p m day (n 6 ||| em n p (s - 1) (n 2))) - nI (n (33 + 4 * q + m))) + nI (sg n p day m k) else nI (mea n p m day (n 6 ||| em n p s (n 2))) - nI (n (33 + 4 * q + m))
theorem xg_0 {n : Nat → Nat} {p q day s m : Nat} : xg n p q day s 0 m = nI (mea n p m day (n 6 ||| em n p (s - 1) (n 2))) - nI (n (33 + 4 * q + m)) := by
  rw [xg, if_pos (Nat.zero_le _)]
  exact Int32.add_zero _
theorem xg_up {n : Nat → Nat} {p q day s k m : Nat} (h : k < low s) : xg n p q day s (k + 1) m = xg n p q day s k m + nI 1 * nI (gn n p day (oo n p (n 2) k) m) := by
  have e : sg n p day m (k + 1) = sg n p day m k + gn n p day (oo n p (n 2) k) m := rfl
  rw [xg, xg, if_pos (by omega), if_pos (by omega), e, ← nI_add, pk_mul, Nat.one_mul, Int32.add_assoc]
theorem xg_down {n : Nat → Nat} {p q day s m : Nat} (hs : s < 2 ^ cno n p (n 2)) (h10 : cno n p (n 2) ≤ 10) (h0 : s ≠ 0) : xg n p q day s (low s + 1) m = xg n p q day s (low s) m + (-1) * nI (gn n p day (oo n p (n 2) (low s)) m) := by
  have h := mea_step (m := m) (day := day) hs h10 h0
  rw [xg, xg, if_neg (by omega), if_pos (Nat.le_refl _)]
  have e1 : nI (mea n p m day (n 6 ||| em n p (s - 1) (n 2))) + nI (sg n p day m (low s)) = nI (mea n p m day (n 6 ||| em n p s (n 2))) + nI (gn n p day (oo n p (n 2) (low s)) m) := by
    rw [nI_add, nI_add, h]
  generalize nI (mea n p m day (n 6 ||| em n p (s - 1) (n 2))) = a at e1 ⊢
  generalize nI (sg n p day m (low s)) = b at e1 ⊢
  generalize nI (mea n p m day (n 6 ||| em n p s (n 2))) = c at e1 ⊢
  generalize nI (gn n p day (oo n p (n 2) (low s)) m) = g at e1 ⊢
  generalize nI (n (33 + 4 * q + m)) = x
  have e2 : (-1 : Int32) * g = -g := by
    rw [Int32.neg_mul, Int32.one_mul]
  have e3 : a - x + b = (a + b) - x := by
    rw [Int32.sub_eq_add_neg, Int32.sub_eq_add_neg, Int32.add_assoc, Int32.add_comm (-x) b, ← Int32.add_assoc]
  rw [e2, e3, e1, Int32.sub_eq_add_neg, Int32.sub_eq_add_neg, Int32.add_assoc, Int32.add_assoc, Int32.add_comm g, Int32.add_assoc, Int32.add_left_neg, Int32.add_zero]
def fw (c : Nat) : Option Nat → Nat
  | none => c + 1
  | some x => mny 11 x
theorem bet_fw {c k : Nat} {b : Option Nat} (h : mny 11 k ≤ c) : bet b k = true ↔ mny 11 k < fw c b := by
  cases b with
  | none => exact ⟨fun _ => (show mny 11 k < c + 1 by omega), fun _ => rfl⟩
  | some x => exact decide_eq_true_iff
theorem fw_le {n : Nat → Nat} {p s day c k : Nat} (hc : c ≤ 10) (hk : k ≤ 2 ^ c) : fw c (ck n p s day k) ≤ 11 := by
  cases e : ck n p s day k with
  | none => show c + 1 ≤ 11; omega
  | some x =>
    have h1 := ck_lt k e
    have h2 := mny_le c hc x (by omega)
    show mny 11 x ≤ 11
    omega
theorem ck_no {n : Nat → Nat} {p s day j : Nat} (h : ¬ (bet (ck n p s day j) j = true ∧ fit n p s day (n 6 ||| em n p j (n 2)) = true)) : ck n p s day (j + 1) = ck n p s day j := by rw [ck, if_neg h]
theorem ck_yes {n : Nat → Nat} {p s day j : Nat} (h : bet (ck n p s day j) j = true ∧ fit n p s day (n 6 ||| em n p j (n 2)) = true) : ck n p s day (j + 1) = some j := by rw [ck, if_pos h]
set_option maxHeartbeats 4000000 in
set_option maxRecDepth 100000 in
theorem c0_findGains (l : Launch) {rw : List zC} {M0 : zM} {n u : Nat → Nat} {kn : Nat} (hS : SI 1 n u kn M0) (hn : NB n) {p ix N d : Nat} (hd : d < n 2) (hdp : n (49 + 4 * d) = p) (hix : ix < 10) (hN : N < 1000) (ho : M0.1 27 ix = nI d) : CT l false 2 0 0 yX0_findGains cX0_findGains 9 none [.ref 24, .int (nI ix), .int (nI N)] (zSh ++ rw) M0 (zG (zSh ++ rw) (fun v9 M9 => v9 = none ∧ (∀ m, m < 4 → M9.1 28 (ix * 4 + m) = nI (gn n p (n 3 + N) d m)) ∧ (∀ j, j < ix * 4 → M9.1 28 j = M0.1 28 j) ∧ zfr (fun i => i = 28) M0 M9)) := by
  refine CT.ofN (by decide) (fun _ _ => Nat.le_of_ble_eq_true rfl) ?_
  have hdd := hn.2.2.2.2.2.2.2.2.2.2.2
  have hkd := hn.2.2.2.2.2.2.2.2.1
  have how := hn.2.2.2.2.2.2.2.2.2.1
  have hcu := hn.2.2.2.2.2.2.2.2.2.2.1
  have hb0 := hn.1
  have hb1 := hn.2.1
  have hb2 := hn.2.2.1
  have hb3 := hn.2.2.2.1
  have hb4 := hn.2.2.2.2.1
  have hb5 := hn.2.2.2.2.2.1
  have hb6 := hn.2.2.2.2.2.2.1
  have hd9 := hdd d hd
  have hp : p < n 0 := by rw [← hdp]; exact hd9.1
  refine r_aload_n dX0_findGains_0 rfl rfl ?_
  refine r_getR fl_X0_18 dX0_findGains_1 sh_24 rfl ?_
  refine r_iload_n dX0_findGains_4 rfl rfl ?_
  refine r_ialdN dX0_findGains_5 sh_27 (by omega) (by decide) ho ?_
  refine r_istore_n dX0_findGains_6 rfl rfl (by decide) ?_
  refine r_aload_n dX0_findGains_7 rfl rfl ?_
  refine r_getR fl_X0_37 dX0_findGains_8 sh_24 rfl ?_
  refine r_getR fl_X0_87 dX0_findGains_11 sh_1 rfl ?_
  refine r_aload_n dX0_findGains_14 rfl rfl ?_
  refine r_getR fl_X0_37 dX0_findGains_15 sh_24 rfl ?_
  refine r_getR fl_X0_76 dX0_findGains_18 sh_1 rfl ?_
  refine r_iload_n dX0_findGains_21 rfl rfl ?_
  refine r_ialdN dX0_findGains_22 sh_5 (by omega) (by decide) (hS.a5 (by omega)) ?_
  refine r_top (v' := .int (nI p)) (congrArg (fun z => Value.int (nI z)) hdp) ?_
  refine r_ialdN dX0_findGains_23 sh_2 (by omega) (by decide) (hS.a2 (by omega)) ?_
  refine r_istore dX0_findGains_24 rfl (by decide) ?_
  refine r_aload_n dX0_findGains_26 rfl rfl ?_
  refine r_getR fl_X0_37 dX0_findGains_27 sh_24 rfl ?_
  refine r_getR fl_X0_90 dX0_findGains_30 sh_1 rfl ?_
  refine r_iload_n dX0_findGains_33 rfl rfl ?_
  refine r_ialdN dX0_findGains_34 sh_6 (by omega) (by decide) (hS.a6 (by omega)) ?_
  refine r_istore dX0_findGains_35 rfl (by decide) ?_
  refine r_aload_n dX0_findGains_37 rfl rfl ?_
  refine r_getR fl_X0_37 dX0_findGains_38 sh_24 rfl ?_
  refine r_iload_n dX0_findGains_41 rfl rfl ?_
  refine r_iload_n dX0_findGains_42 rfl rfl ?_
  refine r_iconst (v := nI 0) dX0_findGains_43 rfl ?_
  refine r_top (v' := .int (zb (false = true))) rfl ?_
  refine r_cV3F mv_X3_leftBehind ml_X0_93 (c3_leftBehind l hS hn hd (by omega)) dX0_findGains_44 (Nat.le_of_ble_eq_true rfl) ⟨by decide, by decide⟩ ⟨by decide, by decide⟩ sh_1 rfl (fun _ h => nomatch h) ?_
  try dsimp only [zrst, List.cons_append, List.nil_append]
  refine r_istore dX0_findGains_47 rfl (by decide) ?_
  refine r_aload_n dX0_findGains_49 rfl rfl ?_
  refine r_getR fl_X0_37 dX0_findGains_50 sh_24 rfl ?_
  refine r_iload_n dX0_findGains_53 rfl rfl ?_
  refine r_iload_n dX0_findGains_54 rfl rfl ?_
  refine r_iconst (v := nI 1) dX0_findGains_55 rfl ?_
  refine r_top (v' := .int (zb (true = true))) rfl ?_
  refine r_cV3F mv_X3_leftBehind ml_X0_93 (c3_leftBehind l hS hn hd (by omega)) dX0_findGains_56 (Nat.le_of_ble_eq_true rfl) ⟨by decide, by decide⟩ ⟨by decide, by decide⟩ sh_1 rfl (fun _ h => nomatch h) ?_
  try dsimp only [zrst, List.cons_append, List.nil_append]
  refine r_istore dX0_findGains_59 rfl (by decide) ?_
  refine r_iconst (v := nI 0) dX0_findGains_61 rfl ?_
  refine r_istore dX0_findGains_62 rfl (by decide) ?_
  have loop : ∀ (j k : Nat) (M : zM) (hG : ∀ m, m < k → M.1 28 (ix * 4 + m) = nI (gn n p (n 3 + N) d m)) (hO : ∀ j, j < ix * 4 → M.1 28 j = M0.1 28 j) (hF : zfr (fun i => i = 28) M0 M), k ≤ 4 → 4 < k + j → RA l none (zR 2 0 0) yX0_findGains cX0_findGains 9 none (zG (zSh ++ rw) (fun v9 M9 => v9 = none ∧ (∀ m, m < 4 → M9.1 28 (ix * 4 + m) = nI (gn n p (n 3 + N) d m)) ∧ (∀ j, j < ix * 4 → M9.1 28 j = M0.1 28 j) ∧ zfr (fun i => i = 28) M0 M9)) 0 0 64 [some (.ref 24), some (.int (nI ix)), some (.int (nI N)), some (.int (nI d)), some (.int (nI (n (8 + 5 * p)))), some (.int (nI (n (49 + 4 * d + 1)))), some (.int (nI (lfb n d (n 3 + N) false))), some (.int (nI (lfb n d (n 3 + N) true))), some (.int (nI k))] [] (zSh ++ rw) M := by
    intro j
    induction j with
    | zero => intro k M hG hO hF hk hj; exact absurd hj (by omega)
    | succ j ih =>
      intro k M hG hO hF hk hj
      refine r_iload dX0_findGains_64 rfl ?_
      refine r_iconst (v := nI 4) dX0_findGains_66 rfl ?_
      first | refine r_icmp_geN (tgt := 110) dX0_findGains_67 (by decide) (by omega) (by omega) (fun c1 => ?_) (fun c1 => ?_) | refine r_icmp_ge (tgt := 110) dX0_findGains_67 (by decide) (fun c1 => ?_) (fun c1 => ?_)
      · refine r_vret dX0_findGains_110 rfl (by decide) (by decide) ?_
        have e4 : k = 4 := by omega
        subst e4
        exact ⟨rfl, rfl, hG, hO, hF⟩
      · have hmo := lgr_mono (kd := n (8 + 5 * p)) (s := n (49 + 4 * d + 1)) (m := k) (lfb_half (n := n) (d := d) (day := (n 3 + N)))
        refine r_aload_n dX0_findGains_70 rfl rfl ?_
        refine r_getR fl_X0_21 dX0_findGains_71 sh_24 rfl ?_
        refine r_iload_n dX0_findGains_74 rfl rfl ?_
        refine r_iconst (v := nI 4) dX0_findGains_75 rfl ?_
        first | refine r_imulN dX0_findGains_76 ?_ | refine r_imul dX0_findGains_76 ?_
        refine r_iload dX0_findGains_77 rfl ?_
        first | refine r_iaddN dX0_findGains_79 ?_ | refine r_iadd dX0_findGains_79 ?_
        refine r_iload dX0_findGains_80 rfl ?_
        refine r_iload dX0_findGains_82 rfl ?_
        refine r_iload dX0_findGains_84 rfl ?_
        refine r_iload dX0_findGains_86 rfl ?_
        refine r_cN4F ms_X4_longer (fun _ h => h.2.2.2.2.1) (c4_longer l (hkd p hp) (by omega) (by omega) (lfb_le (by omega))) dX0_findGains_88 (Nat.le_of_ble_eq_true rfl) ⟨by decide, by decide⟩ ⟨by decide, by decide⟩ (fun _ h => nomatch h) ?_
        try dsimp only [zrst, List.cons_append, List.nil_append]
        refine r_iload dX0_findGains_91 rfl ?_
        refine r_iload dX0_findGains_93 rfl ?_
        refine r_iload dX0_findGains_95 rfl ?_
        refine r_iload dX0_findGains_97 rfl ?_
        refine r_cN4F ms_X4_longer (fun _ h => h.2.2.2.2.1) (c4_longer l (hkd p hp) (by omega) (by omega) (lfb_le (by omega))) dX0_findGains_99 (Nat.le_of_ble_eq_true rfl) ⟨by decide, by decide⟩ ⟨by decide, by decide⟩ (fun _ h => nomatch h) ?_
        try dsimp only [zrst, List.cons_append, List.nil_append]
        first | refine r_isubN dX0_findGains_102 (by omega) ?_ | refine r_isub dX0_findGains_102 ?_
        refine r_iastN dX0_findGains_103 sh_28 (by omega) (by decide) ?_
        first | refine r_iincN dX0_findGains_104 rfl rfl (by decide) ?_ | refine r_iinc dX0_findGains_104 rfl rfl rfl (by decide) ?_
        refine r_goto (tgt := 64) dX0_findGains_107 (by decide) ?_
        exact ih (k + 1) _ (fun m hm => by
          rw [zI_at]
          by_cases e : m = k
          · rw [e]; exact pk_us
          · rw [pk_un (by omega)]; exact hG m (by omega)) (fun j hj => by
          rw [zI_at, pk_un (by omega)]; exact hO j hj) (hF.trans (zfr_I rfl)) (by omega) (by omega)
  exact loop (4 + 1) 0 M0 (fun m hm => absurd hm (by omega)) (fun _ _ => rfl) zfr.rf (Nat.zero_le _) (by omega)

set_option maxHeartbeats 4000000 in
set_option maxRecDepth 100000 in
theorem c0_findOpenDeeds (l : Launch) {rw : List zC} {M0 : zM} {n u : Nat → Nat} {kn : Nat} (hS : SI 1 n u kn M0) (hn : NB n) {p N : Nat} (hp : p < n 0) (hN : N < 1000) : CT l false 3 0 0 yX0_findOpenDeeds cX0_findOpenDeeds 5 (some .int) [.ref 24, .int (nI p), .int (nI N)] (zSh ++ rw) M0 (zG (zSh ++ rw) (fun v9 M9 => v9 = some (.int (nI (cno n p (n 2)))) ∧ ((∀ i, i < cno n p (n 2) → M9.1 27 i = nI (oo n p (n 2) i)) ∧ (∀ i, i < cno n p (n 2) → ∀ m, m < 4 → M9.1 28 (i * 4 + m) = nI (gn n p (n 3 + N) (oo n p (n 2) i) m))) ∧ zfr (fun i => i = 27 ∨ i = 28) M0 M9)) := by
  refine CT.ofN (by decide) (fun _ _ => Nat.le_of_ble_eq_true rfl) ?_
  have hdd := hn.2.2.2.2.2.2.2.2.2.2.2
  have hkd := hn.2.2.2.2.2.2.2.2.1
  have how := hn.2.2.2.2.2.2.2.2.2.1
  have hcu := hn.2.2.2.2.2.2.2.2.2.2.1
  have hb0 := hn.1
  have hb1 := hn.2.1
  have hb2 := hn.2.2.1
  have hb3 := hn.2.2.2.1
  have hb4 := hn.2.2.2.2.1
  have hb5 := hn.2.2.2.2.2.1
  have hb6 := hn.2.2.2.2.2.2.1
  refine r_iconst (v := nI 0) dX0_findOpenDeeds_0 rfl ?_
  refine r_istore_n dX0_findOpenDeeds_1 rfl rfl (by decide) ?_
  refine r_iconst (v := nI 0) dX0_findOpenDeeds_2 rfl ?_
  refine r_istore dX0_findOpenDeeds_3 rfl (by decide) ?_
  have loop : ∀ (j k : Nat) (M : zM) (hI : (∀ i, i < cno n p k → M.1 27 i = nI (oo n p k i)) ∧ (∀ i, i < cno n p k → ∀ m, m < 4 → M.1 28 (i * 4 + m) = nI (gn n p (n 3 + N) (oo n p k i) m))) (hF : zfr (fun i => i = 27 ∨ i = 28) M0 M), k ≤ n 2 → n 2 < k + j → RA l none (zR 3 0 0) yX0_findOpenDeeds cX0_findOpenDeeds 5 (some .int) (zG (zSh ++ rw) (fun v9 M9 => v9 = some (.int (nI (cno n p (n 2)))) ∧ ((∀ i, i < cno n p (n 2) → M9.1 27 i = nI (oo n p (n 2) i)) ∧ (∀ i, i < cno n p (n 2) → ∀ m, m < 4 → M9.1 28 (i * 4 + m) = nI (gn n p (n 3 + N) (oo n p (n 2) i) m))) ∧ zfr (fun i => i = 27 ∨ i = 28) M0 M9)) 0 0 5 [some (.ref 24), some (.int (nI p)), some (.int (nI N)), some (.int (nI (cno n p k))), some (.int (nI k))] [] (zSh ++ rw) M := by
    intro j
    induction j with
    | zero => intro k M hI hF hk hj; exact absurd hj (by omega)
    | succ j ih =>
      intro k M hI hF hk hj
      have hS := SI_zfr hS hF (fun i h1 h2 => by omega)
      have hck := cno_le n p k
      refine r_iload dX0_findOpenDeeds_5 rfl ?_
      refine r_aload_n dX0_findOpenDeeds_7 rfl rfl ?_
      refine r_getR fl_X0_37 dX0_findOpenDeeds_8 sh_24 rfl ?_
      refine r_getV fl_X0_72 dX0_findOpenDeeds_11 sh_1 rfl hS.f2 ?_
      first | refine r_icmp_geN (tgt := 66) dX0_findOpenDeeds_14 (by decide) (by omega) (by omega) (fun c1 => ?_) (fun c1 => ?_) | refine r_icmp_ge (tgt := 66) dX0_findOpenDeeds_14 (by decide) (fun c1 => ?_) (fun c1 => ?_)
      · refine r_iload_n dX0_findOpenDeeds_66 rfl rfl ?_
        refine r_iret dX0_findOpenDeeds_67 rfl (by decide) (by decide) ?_
        have e2 : k = n 2 := by omega
        subst e2
        exact ⟨rfl, rfl, hI, hF⟩
      · have hd := hdd k c1
        refine r_aload_n dX0_findOpenDeeds_17 rfl rfl ?_
        refine r_getR fl_X0_37 dX0_findOpenDeeds_18 sh_24 rfl ?_
        refine r_getR fl_X0_76 dX0_findOpenDeeds_21 sh_1 rfl ?_
        refine r_iload dX0_findOpenDeeds_24 rfl ?_
        refine r_ialdN dX0_findOpenDeeds_26 sh_5 (by omega) (by decide) (hS.a5 (by omega)) ?_
        refine r_iload_n dX0_findOpenDeeds_27 rfl rfl ?_
        first | refine r_icmp_neN (tgt := 60) dX0_findOpenDeeds_28 (by decide) (by omega) (by omega) (fun c2 => ?_) (fun c2 => ?_) | refine r_icmp_ne (tgt := 60) dX0_findOpenDeeds_28 (by decide) (fun c2 => ?_) (fun c2 => ?_)
        · have hop : ¬ opn n p k = true := by simp [opn, c2]
          first | refine r_iincN dX0_findOpenDeeds_60 rfl rfl (by decide) ?_ | refine r_iinc dX0_findOpenDeeds_60 rfl rfl rfl (by decide) ?_
          refine r_goto (tgt := 5) dX0_findOpenDeeds_63 (by decide) ?_
          have h9 := ih (k + 1) M ⟨fun i hi => by
              rw [cno_no hop] at hi
              rw [oo_keep hi]; exact hI.1 i hi, fun i hi m hm => by
              rw [cno_no hop] at hi
              rw [oo_keep hi]; exact hI.2 i hi m hm⟩ hF (by omega) (by omega)
          rw [cno_no hop] at h9
          exact h9
        · refine r_aload_n dX0_findOpenDeeds_31 rfl rfl ?_
          refine r_getR fl_X0_37 dX0_findOpenDeeds_32 sh_24 rfl ?_
          refine r_iload dX0_findOpenDeeds_35 rfl ?_
          refine r_cV1F mv_X3_isMended ml_X0_79 (c3_isMended l hS (by omega) hb6) dX0_findOpenDeeds_37 (Nat.le_of_ble_eq_true rfl) ⟨by decide, by decide⟩ ⟨by decide, by decide⟩ sh_1 rfl (fun _ h => nomatch h) ?_
          try dsimp only [zrst, List.cons_append, List.nil_append]
          first | refine r_if_neB (tgt := 60) dX0_findOpenDeeds_40 (by decide) (fun c3 => ?_) (fun c3 => ?_) | refine r_if_neN (tgt := 60) dX0_findOpenDeeds_40 (by decide) (by omega) (fun c3 => ?_) (fun c3 => ?_) | refine r_if_ne (tgt := 60) dX0_findOpenDeeds_40 (by decide) (fun c3 => ?_) (fun c3 => ?_)
          · have hop : ¬ opn n p k = true := by simp [opn, c3]
            first | refine r_iincN dX0_findOpenDeeds_60 rfl rfl (by decide) ?_ | refine r_iinc dX0_findOpenDeeds_60 rfl rfl rfl (by decide) ?_
            refine r_goto (tgt := 5) dX0_findOpenDeeds_63 (by decide) ?_
            have h9 := ih (k + 1) M ⟨fun i hi => by
                rw [cno_no hop] at hi
                rw [oo_keep hi]; exact hI.1 i hi, fun i hi m hm => by
                rw [cno_no hop] at hi
                rw [oo_keep hi]; exact hI.2 i hi m hm⟩ hF (by omega) (by omega)
            rw [cno_no hop] at h9
            exact h9
          · have hop : opn n p k = true := by simp [opn, c3, c2]
            refine r_aload_n dX0_findOpenDeeds_43 rfl rfl ?_
            refine r_getR fl_X0_18 dX0_findOpenDeeds_44 sh_24 rfl ?_
            refine r_iload_n dX0_findOpenDeeds_47 rfl rfl ?_
            refine r_iload dX0_findOpenDeeds_48 rfl ?_
            refine r_iastN dX0_findOpenDeeds_50 sh_27 (by omega) (by decide) ?_
            refine r_aload_n dX0_findOpenDeeds_51 rfl rfl ?_
            refine r_iload_n dX0_findOpenDeeds_52 rfl rfl ?_
            refine r_iload_n dX0_findOpenDeeds_53 rfl rfl ?_
            refine r_cV2G mv_X0_findGains ml_X0_83 (c0_findGains l (SI_off (c := 27) (by decide) hS) hn (p := p) (d := k) (by omega) c2 (by omega) (by omega) (by rw [zI_at]; exact pk_us)) dX0_findOpenDeeds_54 (Nat.le_of_ble_eq_true rfl) ⟨by decide, by decide⟩ ⟨by decide, by decide⟩ sh_24 rfl (fun _ h => nomatch h) (fun v M1 hq => ?_)
            obtain ⟨rfl, hg1, hg2, hF1⟩ := hq
            dsimp only [zrst, List.cons_append, List.nil_append]
            refine r_iincN dX0_findOpenDeeds_57 rfl rfl (by decide) ?_
            first | refine r_iincN dX0_findOpenDeeds_60 rfl rfl (by decide) ?_ | refine r_iinc dX0_findOpenDeeds_60 rfl rfl rfl (by decide) ?_
            refine r_goto (tgt := 5) dX0_findOpenDeeds_63 (by decide) ?_
            have h9 := ih (k + 1) M1 ⟨fun i hi => by
                rw [cno_yes hop] at hi
                have e27 : M1.1 27 = upd (M.1 27) (cno n p k) (nI k) := (hF1 27 (show ¬ (27 : Nat) = 28 by decide)).1.trans zI_at
                rw [e27]
                by_cases e : i = cno n p k
                · rw [e, oo_new hop]; exact pk_us
                · rw [pk_un e, oo_keep (by omega)]; exact hI.1 i (by omega), fun i hi m hm => by
                rw [cno_yes hop] at hi
                by_cases e : i = cno n p k
                · rw [e, oo_new hop]; exact hg1 m hm
                · rw [hg2 _ (by omega), oo_keep (by omega), (zI_ne 28 (by decide)).1]; exact hI.2 i (by omega) m hm⟩ ((hF.trans (zfr_I (Or.inl rfl))).trans (hF1.wk (fun i h => Or.inr h))) (by omega) (by omega)
            rw [cno_yes hop] at h9
            exact h9
  exact loop (n 2 + 1) 0 M0 ⟨fun i hi => absurd hi (Nat.not_lt_zero _), fun i hi => absurd hi (Nat.not_lt_zero _)⟩ zfr.rf (Nat.zero_le _) (by omega)

set_option maxHeartbeats 4000000 in
set_option maxRecDepth 100000 in
theorem c0_stepTo (l : Launch) {rw : List zC} {M0 : zM} {n : Nat → Nat} {p q day s : Nat} (hs : s < 2 ^ cno n p (n 2)) (h10 : cno n p (n 2) ≤ 10) (h0 : s ≠ 0) (hG : ∀ i, i < cno n p (n 2) → ∀ m, m < 4 → M0.1 28 (i * 4 + m) = nI (gn n p day (oo n p (n 2) i) m)) (hg : ∀ m, m < 4 → M0.1 26 m = nI (mea n p m day (n 6 ||| em n p (s - 1) (n 2))) - nI (n (33 + 4 * q + m))) : CT l false 2 0 0 yX0_stepTo cX0_stepTo 6 none [.ref 24, .int (nI s)] (zSh ++ rw) M0 (zG (zSh ++ rw) (fun v9 M9 => v9 = none ∧ (∀ m, m < 4 → M9.1 26 m = nI (mea n p m day (n 6 ||| em n p (s) (n 2))) - nI (n (33 + 4 * q + m))) ∧ zfr (fun i => i = 26) M0 M9)) := by
  refine CT.ofN (by decide) (fun _ _ => Nat.le_of_ble_eq_true rfl) ?_
  have h1024 : s < 1024 := Nat.lt_of_lt_of_le hs (Nat.pow_le_pow_right (by decide) h10)
  have hlow := low_lt hs h10 h0
  refine r_iload_n dX0_stepTo_0 rfl rfl ?_
  refine r_cN1F ms_X4_lowestOf (fun _ h => h.2.2.2.2.2.1) (c4_lowestOf l _) dX0_stepTo_1 (Nat.le_of_ble_eq_true rfl) ⟨by decide, by decide⟩ ⟨by decide, by decide⟩ (fun _ h => nomatch h) ?_
  try dsimp only [zrst, List.cons_append, List.nil_append]
  rw [bcx_low s h1024 h0]
  refine r_istore_n dX0_stepTo_4 rfl rfl (by decide) ?_
  refine r_iconst (v := nI 0) dX0_stepTo_5 rfl ?_
  refine r_istore_n dX0_stepTo_6 rfl rfl (by decide) ?_
  have loop : ∀ (j k : Nat) (M : zM) (hO : ∀ m, m < 4 → M.1 26 m = xg n p q day s k m) (hF : zfr (fun i => i = 26) M0 M), k ≤ (low s + 1) → (low s + 1) < k + j → RA l none (zR 2 0 0) yX0_stepTo cX0_stepTo 6 none (zG (zSh ++ rw) (fun v9 M9 => v9 = none ∧ (∀ m, m < 4 → M9.1 26 m = nI (mea n p m day (n 6 ||| em n p (s) (n 2))) - nI (n (33 + 4 * q + m))) ∧ zfr (fun i => i = 26) M0 M9)) 0 0 7 [some (.ref 24), some (.int (nI s)), some (.int (nI (low s))), some (.int (nI k)), none, none] [] (zSh ++ rw) M := by
    intro j
    induction j with
    | zero => intro k M hO hF hk hj; exact absurd hj (by omega)
    | succ j ih =>
      intro k M hO hF hk hj
      refine r_iload_n dX0_stepTo_7 rfl rfl ?_
      refine r_iload_n dX0_stepTo_8 rfl rfl ?_
      first | refine r_icmp_gtN (tgt := 75) dX0_stepTo_9 (by decide) (by omega) (by omega) (fun c1 => ?_) (fun c1 => ?_) | refine r_icmp_gt (tgt := 75) dX0_stepTo_9 (by decide) (fun c1 => ?_) (fun c1 => ?_)
      · refine r_vret dX0_stepTo_75 rfl (by decide) (by decide) ?_
        refine ⟨rfl, rfl, fun m hm => ?_, hF⟩
        rw [hO m hm, xg, if_neg (by omega)]
      · refine r_iload_n dX0_stepTo_12 rfl rfl ?_
        refine r_bipush (v := nI 10) dX0_stepTo_13 rfl ?_
        first | refine r_icmp_geN (tgt := 75) dX0_stepTo_15 (by decide) (by omega) (by omega) (fun c2 => ?_) (fun c2 => ?_) | refine r_icmp_ge (tgt := 75) dX0_stepTo_15 (by decide) (fun c2 => ?_) (fun c2 => ?_)
        · exact absurd c2 (by omega)
        · refine r_iload_n dX0_stepTo_18 rfl rfl ?_
          refine r_iload_n dX0_stepTo_19 rfl rfl ?_
          refine r_icmp_neN (tgt := 27) dX0_stepTo_20 (by decide) (by omega) (by omega) (fun c9 => ?_) (fun c9 => ?_)
          · have hsv : ∀ m, xg n p q day s (k + 1) m = xg n p q day s k m + nI 1 * nI (gn n p day (oo n p (n 2) k) m) := fun m => xg_up (by omega)
            refine r_iconst (v := nI 1) dX0_stepTo_27 rfl ?_
            refine r_istore dX0_stepTo_28 rfl (by decide) ?_
            refine r_iconst (v := nI 0) dX0_stepTo_30 rfl ?_
            refine r_istore dX0_stepTo_31 rfl (by decide) ?_
            have loop2 : ∀ (j i : Nat) (M : zM) (hI : ∀ m, m < 4 → M.1 26 m = if m < i then xg n p q day s (k + 1) m else xg n p q day s k m) (hF : zfr (fun i => i = 26) M0 M), i ≤ 4 → 4 < i + j → RA l none (zR 2 0 0) yX0_stepTo cX0_stepTo 6 none (zG (zSh ++ rw) (fun v9 M9 => v9 = none ∧ (∀ m, m < 4 → M9.1 26 m = nI (mea n p m day (n 6 ||| em n p (s) (n 2))) - nI (n (33 + 4 * q + m))) ∧ zfr (fun i => i = 26) M0 M9)) 0 0 33 [some (.ref 24), some (.int (nI s)), some (.int (nI (low s))), some (.int (nI k)), some (.int (nI 1)), some (.int (nI i))] [] (zSh ++ rw) M := by
              intro j
              induction j with
              | zero => intro i M hI hF hk hj; exact absurd hj (by omega)
              | succ j ih2 =>
                intro i M hI hF hk hj
                refine r_iload dX0_stepTo_33 rfl ?_
                refine r_iconst (v := nI 4) dX0_stepTo_35 rfl ?_
                first | refine r_icmp_geN (tgt := 69) dX0_stepTo_36 (by decide) (by omega) (by omega) (fun c1 => ?_) (fun c1 => ?_) | refine r_icmp_ge (tgt := 69) dX0_stepTo_36 (by decide) (fun c1 => ?_) (fun c1 => ?_)
                · first | refine r_iincN dX0_stepTo_69 rfl rfl (by decide) ?_ | refine r_iinc dX0_stepTo_69 rfl rfl rfl (by decide) ?_
                  refine r_goto (tgt := 7) dX0_stepTo_72 (by decide) ?_
                  have e4 : i = 4 := by omega
                  subst e4
                  refine r_lfor 4 ?_
                  refine r_lfor 5 ?_
                  exact ih (k + 1) M (fun m hm => (hI m hm).trans (if_pos hm)) hF (by omega) (by omega)
                · refine r_aload_n dX0_stepTo_39 rfl rfl ?_
                  refine r_getR fl_X0_15 dX0_stepTo_40 sh_24 rfl ?_
                  refine r_iload dX0_stepTo_43 rfl ?_
                  refine r_dup2 dX0_stepTo_45 rfl rfl ?_
                  refine r_ialdN dX0_stepTo_46 sh_26 (by omega) (by decide) (show M.1 26 i = xg n p q day s k i from (hI i (by omega)).trans (if_neg (by omega))) ?_
                  refine r_iload dX0_stepTo_47 rfl ?_
                  refine r_aload_n dX0_stepTo_49 rfl rfl ?_
                  refine r_getR fl_X0_21 dX0_stepTo_50 sh_24 rfl ?_
                  refine r_iload_n dX0_stepTo_53 rfl rfl ?_
                  refine r_iconst (v := nI 4) dX0_stepTo_54 rfl ?_
                  first | refine r_imulN dX0_stepTo_55 ?_ | refine r_imul dX0_stepTo_55 ?_
                  refine r_iload dX0_stepTo_56 rfl ?_
                  first | refine r_iaddN dX0_stepTo_58 ?_ | refine r_iadd dX0_stepTo_58 ?_
                  refine r_ialdN dX0_stepTo_59 sh_28 (by omega) (by decide) (show M.1 28 (k * 4 + i) = nI (gn n p day (oo n p (n 2) k) i) from (congrFun (hF 28 (show ¬ (28 : Nat) = 26 by decide)).1 _).trans (hG k (by omega) i (by omega))) ?_
                  refine r_imul dX0_stepTo_60 ?_
                  refine r_iadd dX0_stepTo_61 ?_
                  refine r_iastN dX0_stepTo_62 sh_26 (by omega) (by decide) ?_
                  first | refine r_iincN dX0_stepTo_63 rfl rfl (by decide) ?_ | refine r_iinc dX0_stepTo_63 rfl rfl rfl (by decide) ?_
                  refine r_goto (tgt := 33) dX0_stepTo_66 (by decide) ?_
                  refine ih2 (i + 1) _ (fun m hm => ?_) (hF.trans (zfr_I rfl)) (by omega) (by omega)
                  rw [zI_at]
                  by_cases e : m = i
                  · rw [e, pk_us, if_pos (by omega), hsv]
                  · rw [pk_un e, hI m hm]
                    by_cases h1 : m < i
                    · rw [if_pos h1, if_pos (by omega)]
                    · rw [if_neg h1, if_neg (by omega)]
            exact loop2 (4 + 1) 0 M (fun m hm => by rw [if_neg (by omega)]; exact hO m hm) hF (Nat.zero_le _) (by omega)
          · have hsv : ∀ m, xg n p q day s (k + 1) m = xg n p q day s k m + (-1) * nI (gn n p day (oo n p (n 2) k) m) := fun m => by rw [c9]; exact xg_down hs h10 h0
            refine r_iconst (v := (-1)) dX0_stepTo_23 rfl ?_
            refine r_goto (tgt := 28) dX0_stepTo_24 (by decide) ?_
            refine r_istore dX0_stepTo_28 rfl (by decide) ?_
            refine r_iconst (v := nI 0) dX0_stepTo_30 rfl ?_
            refine r_istore dX0_stepTo_31 rfl (by decide) ?_
            have loop2 : ∀ (j i : Nat) (M : zM) (hI : ∀ m, m < 4 → M.1 26 m = if m < i then xg n p q day s (k + 1) m else xg n p q day s k m) (hF : zfr (fun i => i = 26) M0 M), i ≤ 4 → 4 < i + j → RA l none (zR 2 0 0) yX0_stepTo cX0_stepTo 6 none (zG (zSh ++ rw) (fun v9 M9 => v9 = none ∧ (∀ m, m < 4 → M9.1 26 m = nI (mea n p m day (n 6 ||| em n p (s) (n 2))) - nI (n (33 + 4 * q + m))) ∧ zfr (fun i => i = 26) M0 M9)) 0 0 33 [some (.ref 24), some (.int (nI s)), some (.int (nI (low s))), some (.int (nI k)), some (.int (-1)), some (.int (nI i))] [] (zSh ++ rw) M := by
              intro j
              induction j with
              | zero => intro i M hI hF hk hj; exact absurd hj (by omega)
              | succ j ih2 =>
                intro i M hI hF hk hj
                refine r_iload dX0_stepTo_33 rfl ?_
                refine r_iconst (v := nI 4) dX0_stepTo_35 rfl ?_
                first | refine r_icmp_geN (tgt := 69) dX0_stepTo_36 (by decide) (by omega) (by omega) (fun c1 => ?_) (fun c1 => ?_) | refine r_icmp_ge (tgt := 69) dX0_stepTo_36 (by decide) (fun c1 => ?_) (fun c1 => ?_)
                · first | refine r_iincN dX0_stepTo_69 rfl rfl (by decide) ?_ | refine r_iinc dX0_stepTo_69 rfl rfl rfl (by decide) ?_
                  refine r_goto (tgt := 7) dX0_stepTo_72 (by decide) ?_
                  have e4 : i = 4 := by omega
                  subst e4
                  refine r_lfor 4 ?_
                  refine r_lfor 5 ?_
                  exact ih (k + 1) M (fun m hm => (hI m hm).trans (if_pos hm)) hF (by omega) (by omega)
                · refine r_aload_n dX0_stepTo_39 rfl rfl ?_
                  refine r_getR fl_X0_15 dX0_stepTo_40 sh_24 rfl ?_
                  refine r_iload dX0_stepTo_43 rfl ?_
                  refine r_dup2 dX0_stepTo_45 rfl rfl ?_
                  refine r_ialdN dX0_stepTo_46 sh_26 (by omega) (by decide) (show M.1 26 i = xg n p q day s k i from (hI i (by omega)).trans (if_neg (by omega))) ?_
                  refine r_iload dX0_stepTo_47 rfl ?_
                  refine r_aload_n dX0_stepTo_49 rfl rfl ?_
                  refine r_getR fl_X0_21 dX0_stepTo_50 sh_24 rfl ?_
                  refine r_iload_n dX0_stepTo_53 rfl rfl ?_
                  refine r_iconst (v := nI 4) dX0_stepTo_54 rfl ?_
                  first | refine r_imulN dX0_stepTo_55 ?_ | refine r_imul dX0_stepTo_55 ?_
                  refine r_iload dX0_stepTo_56 rfl ?_
                  first | refine r_iaddN dX0_stepTo_58 ?_ | refine r_iadd dX0_stepTo_58 ?_
                  refine r_ialdN dX0_stepTo_59 sh_28 (by omega) (by decide) (show M.1 28 (k * 4 + i) = nI (gn n p day (oo n p (n 2) k) i) from (congrFun (hF 28 (show ¬ (28 : Nat) = 26 by decide)).1 _).trans (hG k (by omega) i (by omega))) ?_
                  refine r_imul dX0_stepTo_60 ?_
                  refine r_iadd dX0_stepTo_61 ?_
                  refine r_iastN dX0_stepTo_62 sh_26 (by omega) (by decide) ?_
                  first | refine r_iincN dX0_stepTo_63 rfl rfl (by decide) ?_ | refine r_iinc dX0_stepTo_63 rfl rfl rfl (by decide) ?_
                  refine r_goto (tgt := 33) dX0_stepTo_66 (by decide) ?_
                  refine ih2 (i + 1) _ (fun m hm => ?_) (hF.trans (zfr_I rfl)) (by omega) (by omega)
                  rw [zI_at]
                  by_cases e : m = i
                  · rw [e, pk_us, if_pos (by omega), hsv]
                  · rw [pk_un e, hI m hm]
                    by_cases h1 : m < i
                    · rw [if_pos h1, if_pos (by omega)]
                    · rw [if_neg h1, if_neg (by omega)]
            exact loop2 (4 + 1) 0 M (fun m hm => by rw [if_neg (by omega)]; exact hO m hm) hF (Nat.zero_le _) (by omega)
  exact loop ((low s + 1) + 1) 0 M0 (fun m hm => by rw [xg_0]; exact hg m hm) zfr.rf (Nat.zero_le _) (by omega)

set_option maxHeartbeats 4000000 in
set_option maxRecDepth 100000 in
theorem c0_gapsAreEasy (l : Launch) {rw : List zC} {M : zM} {n u : Nat → Nat} {kn : Nat} (hS : SI 1 n u kn M) (hn : NB n) {p q day md : Nat} (hp : p < n 0) (hq : q < n 1) (hg : ∀ m, m < 4 → M.1 26 m = nI (mea n p m day md) - nI (n (33 + 4 * q + m))) : CT l false 1 0 0 yX0_gapsAreEasy cX0_gapsAreEasy 2 (some .boolean) [.ref 24] (zSh ++ rw) M (zF (some (.int (zb (fit n p q day md = true)))) (zSh ++ rw) M) := by
  refine CT.ofN (by decide) (fun _ _ => Nat.le_of_ble_eq_true rfl) ?_
  have hdd := hn.2.2.2.2.2.2.2.2.2.2.2
  have hkd := hn.2.2.2.2.2.2.2.2.1
  have how := hn.2.2.2.2.2.2.2.2.2.1
  have hcu := hn.2.2.2.2.2.2.2.2.2.2.1
  have hb0 := hn.1
  have hb1 := hn.2.1
  have hb2 := hn.2.2.1
  have hb3 := hn.2.2.2.1
  have hb4 := hn.2.2.2.2.1
  have hb5 := hn.2.2.2.2.2.1
  have hb6 := hn.2.2.2.2.2.2.1
  refine r_iconst (v := nI 0) dX0_gapsAreEasy_0 rfl ?_
  refine r_istore_n dX0_gapsAreEasy_1 rfl rfl (by decide) ?_
  have loop : ∀ (j k : Nat)  (hf : fitk n p q day md k = true), k ≤ 4 → 4 < k + j → RA l none (zR 1 0 0) yX0_gapsAreEasy cX0_gapsAreEasy 2 (some .boolean) (zF (some (.int (zb (fit n p q day md = true)))) (zSh ++ rw) M) 0 0 2 [some (.ref 24), some (.int (nI k))] [] (zSh ++ rw) M := by
    intro j
    induction j with
    | zero => intro k  hf hk hj; exact absurd hj (by omega)
    | succ j ih =>
      intro k  hf hk hj
      refine r_iload_n dX0_gapsAreEasy_2 rfl rfl ?_
      refine r_iconst (v := nI 4) dX0_gapsAreEasy_3 rfl ?_
      first | refine r_icmp_geN (tgt := 34) dX0_gapsAreEasy_4 (by decide) (by omega) (by omega) (fun c1 => ?_) (fun c1 => ?_) | refine r_icmp_ge (tgt := 34) dX0_gapsAreEasy_4 (by decide) (fun c1 => ?_) (fun c1 => ?_)
      · refine r_iconst (v := nI 1) dX0_gapsAreEasy_34 rfl ?_
        refine r_zret dX0_gapsAreEasy_35 rfl (by first | exact Or.inl rfl | exact Or.inr rfl | exact zb01) (by decide) (by decide) ?_
        refine ⟨congrArg (fun x => some (Value.int x)) ?_, rfl, rfl⟩
        exact (zb_t1 (by rw [show k = 4 by omega] at hf; exact hf)).symm
      · have hme := mea_le hn hp c1 day md
        have hcc := hcu q k hq c1
        have hds := dst_le (a := mea n p k day md) (b := n (33 + 4 * q + k)) (c := 500) (by omega) (by omega)
        refine r_aload_n dX0_gapsAreEasy_7 rfl rfl ?_
        refine r_getR fl_X0_15 dX0_gapsAreEasy_8 sh_24 rfl ?_
        refine r_iload_n dX0_gapsAreEasy_11 rfl rfl ?_
        refine r_ialdN dX0_gapsAreEasy_12 sh_26 (by omega) (by decide) (hg k (by omega)) ?_
        refine r_abs ml_X0_103 dX0_gapsAreEasy_13 (by decide) (Nat.le_of_ble_eq_true rfl) (by decide) (by decide) ?_
        rw [absd (by omega) (by omega)]
        refine r_aload_n dX0_gapsAreEasy_16 rfl rfl ?_
        refine r_getR fl_X0_37 dX0_gapsAreEasy_17 sh_24 rfl ?_
        refine r_getV fl_X0_108 dX0_gapsAreEasy_20 sh_1 rfl hS.f7 ?_
        first | refine r_icmp_leN (tgt := 28) dX0_gapsAreEasy_23 (by decide) (by omega) (by omega) (fun c2 => ?_) (fun c2 => ?_) | refine r_icmp_le (tgt := 28) dX0_gapsAreEasy_23 (by decide) (fun c2 => ?_) (fun c2 => ?_)
        · first | refine r_iincN dX0_gapsAreEasy_28 rfl rfl (by decide) ?_ | refine r_iinc dX0_gapsAreEasy_28 rfl rfl rfl (by decide) ?_
          refine r_goto (tgt := 2) dX0_gapsAreEasy_31 (by decide) ?_
          exact ih (k + 1) (fitk_succ.mpr ⟨hf, c2⟩) (by omega) (by omega)
        · refine r_iconst (v := nI 0) dX0_gapsAreEasy_26 rfl ?_
          refine r_zret dX0_gapsAreEasy_27 rfl (by first | exact Or.inl rfl | exact Or.inr rfl | exact zb01) (by decide) (by decide) ?_
          refine ⟨congrArg (fun x => some (Value.int x)) ?_, rfl, rfl⟩
          exact (zb_f1 (fun h => by have h7 := fitk_le (show k + 1 ≤ 4 by omega) h; have h8 := (fitk_succ.mp h7).2; omega)).symm
  exact loop (4 + 1) 0 rfl (Nat.zero_le _) (by omega)

set_option maxHeartbeats 4000000 in
set_option maxRecDepth 100000 in
theorem c0_asDeeds (l : Launch) {rw : List zC} {M : zM} {n : Nat → Nat} {p s : Nat} (hs : s < 1024) (h2 : n 2 ≤ 10) (h10 : cno n p (n 2) ≤ 10) (hO : ∀ i, i < cno n p (n 2) → M.1 27 i = nI (oo n p (n 2) i)) : CT l false 0 0 0 yX0_asDeeds cX0_asDeeds 5 (some .int) [.ref 24, .int (nI s), .int (nI (cno n p (n 2)))] (zSh ++ rw) M (zF (some (.int (nI (em n p s (n 2))))) (zSh ++ rw) M) := by
  refine CT.ofN (by decide) (fun _ _ => Nat.le_of_ble_eq_true rfl) ?_
  refine r_iconst (v := nI 0) dX0_asDeeds_0 rfl ?_
  refine r_istore_n dX0_asDeeds_1 rfl rfl (by decide) ?_
  refine r_iconst (v := nI 0) dX0_asDeeds_2 rfl ?_
  refine r_istore dX0_asDeeds_3 rfl (by decide) ?_
  have loop : ∀ (j k : Nat) , k ≤ cno n p (n 2) → cno n p (n 2) < k + j → RA l none (zR 0 0 0) yX0_asDeeds cX0_asDeeds 5 (some .int) (zF (some (.int (nI (em n p s (n 2))))) (zSh ++ rw) M) 0 0 5 [some (.ref 24), some (.int (nI s)), some (.int (nI (cno n p (n 2)))), some (.int (nI (am n p s k))), some (.int (nI k))] [] (zSh ++ rw) M := by
    intro j
    induction j with
    | zero => intro k   hk hj; exact absurd hj (by omega)
    | succ j ih =>
      intro k   hk hj
      refine r_iload dX0_asDeeds_5 rfl ?_
      refine r_iload_n dX0_asDeeds_7 rfl rfl ?_
      first | refine r_icmp_geN (tgt := 39) dX0_asDeeds_8 (by decide) (by omega) (by omega) (fun c1 => ?_) (fun c1 => ?_) | refine r_icmp_ge (tgt := 39) dX0_asDeeds_8 (by decide) (fun c1 => ?_) (fun c1 => ?_)
      · refine r_iload_n dX0_asDeeds_39 rfl rfl ?_
        refine r_iret dX0_asDeeds_40 rfl (by decide) (by decide) ?_
        refine ⟨congrArg (fun x => some (Value.int x)) ?_, rfl, rfl⟩
        rw [show k = cno n p (n 2) by omega, am_em (n 2) (Nat.le_refl _)]
      · have hok := oo_ok (n := n) (p := p) (n 2) k (by omega)
        have hpk := pw_le (show oo n p (n 2) k ≤ 10 by omega)
        refine r_iload_n dX0_asDeeds_11 rfl rfl ?_
        refine r_iload dX0_asDeeds_12 rfl ?_
        first | refine r_ishrN dX0_asDeeds_14 (by omega) (by omega) ?_ | refine r_ishr dX0_asDeeds_14 ?_
        refine r_iconst (v := nI 1) dX0_asDeeds_15 rfl ?_
        first | refine r_iandN dX0_asDeeds_16 ?_ | refine r_iand dX0_asDeeds_16 ?_
        rw [bit1]
        have hbt : (if s.testBit k = true then 1 else 0) < 2 := by split <;> decide
        refine r_iconst (v := nI 1) dX0_asDeeds_17 rfl ?_
        first | refine r_icmp_neN (tgt := 33) dX0_asDeeds_18 (by decide) (by omega) (by omega) (fun c2 => ?_) (fun c2 => ?_) | refine r_icmp_ne (tgt := 33) dX0_asDeeds_18 (by decide) (fun c2 => ?_) (fun c2 => ?_)
        · have hX : am n p s (k + 1) = am n p s k := by rw [am, if_neg (fun h => c2 (if_pos h))]
          first | refine r_iincN dX0_asDeeds_33 rfl rfl (by decide) ?_ | refine r_iinc dX0_asDeeds_33 rfl rfl rfl (by decide) ?_
          refine r_goto (tgt := 5) dX0_asDeeds_36 (by decide) ?_
          have h9 := ih (k + 1) (by omega) (by omega)
          rw [hX] at h9
          exact h9
        · have hX : am n p s (k + 1) = am n p s k ||| 1 * 2 ^ oo n p (n 2) k := by
            rw [am, if_pos]
            by_cases h : s.testBit k = true
            · exact h
            · rw [if_neg h] at c2; exact absurd c2 (by decide)
          refine r_iload_n dX0_asDeeds_21 rfl rfl ?_
          refine r_iconst (v := nI 1) dX0_asDeeds_22 rfl ?_
          refine r_aload_n dX0_asDeeds_23 rfl rfl ?_
          refine r_getR fl_X0_18 dX0_asDeeds_24 sh_24 rfl ?_
          refine r_iload dX0_asDeeds_27 rfl ?_
          refine r_ialdN dX0_asDeeds_29 sh_27 (by omega) (by decide) (hO k (by omega)) ?_
          first | refine r_ishlN dX0_asDeeds_30 (by omega) (by omega) ?_ | refine r_ishl dX0_asDeeds_30 ?_
          first | refine r_iorN dX0_asDeeds_31 ?_ | refine r_ior dX0_asDeeds_31 ?_
          refine r_istore_n dX0_asDeeds_32 rfl rfl (by decide) ?_
          first | refine r_iincN dX0_asDeeds_33 rfl rfl (by decide) ?_ | refine r_iinc dX0_asDeeds_33 rfl rfl rfl (by decide) ?_
          refine r_goto (tgt := 5) dX0_asDeeds_36 (by decide) ?_
          have h9 := ih (k + 1) (by omega) (by omega)
          rw [hX] at h9
          exact h9
  exact loop (cno n p (n 2) + 1) 0 (Nat.zero_le _) (by omega)

