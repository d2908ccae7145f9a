theorem nand_may {s m : Nat} (hs : s < 1024) : (nI s &&& (nI m ^^^ -1)) = nI (s &&& (1023 ^^^ m)) := by
  apply Int32.toBitVec_inj.mp
  rw [Int32.toBitVec_and, Int32.toBitVec_xor]
  show BitVec.ofNat 32 s &&& (BitVec.ofNat 32 m ^^^ BitVec.ofInt 32 (-1)) = BitVec.ofNat 32 (s &&& (1023 ^^^ m))
  apply BitVec.eq_of_getLsbD_eq
  intro i hi
  have h1 : (BitVec.ofInt 32 (-1)).getLsbD i = true := by
    rw [show BitVec.ofInt 32 (-1) = BitVec.allOnes 32 from by decide]
    rw [BitVec.getLsbD_allOnes]
    exact decide_eq_true hi
  rw [BitVec.getLsbD_and, BitVec.getLsbD_xor, h1, BitVec.getLsbD_ofNat, BitVec.getLsbD_ofNat, BitVec.getLsbD_ofNat, Nat.testBit_and, Nat.testBit_xor, bit1023, decide_eq_true hi]
  by_cases h10 : i < 10
  · rw [decide_eq_true h10]
    cases s.testBit i <;> cases m.testBit i <;> rfl
  · have : s.testBit i = false := Nat.testBit_lt_two_pow (Nat.lt_of_lt_of_le hs (Nat.pow_le_pow_right (by decide) (by omega) : 2 ^ 10 ≤ 2 ^ i))
    rw [this]
    rfl
theorem nand_sub {s m : Nat} (hs : s < 1024) : s &&& (1023 ^^^ m) = 0 ↔ s &&& m = s := by
  constructor
  · intro h
    apply Nat.eq_of_testBit_eq
    intro i
    have h2 := congrArg (fun x => x.testBit i) h
    simp only [Nat.testBit_and, Nat.testBit_xor, bit1023, Nat.zero_testBit] at h2
    rw [Nat.testBit_and]
    by_cases h10 : i < 10
    · rw [decide_eq_true h10] at h2
      revert h2
      cases s.testBit i <;> cases m.testBit i <;> decide
    · have : s.testBit i = false := Nat.testBit_lt_two_pow (Nat.lt_of_lt_of_le hs (Nat.pow_le_pow_right (by decide) (by omega) : 2 ^ 10 ≤ 2 ^ i))
      rw [this]
      rfl
  · intro h
    apply Nat.eq_of_testBit_eq
    intro i
    have h2 := congrArg (fun x => x.testBit i) h
    simp only [Nat.testBit_and] at h2
    rw [Nat.testBit_and, Nat.testBit_xor, bit1023, Nat.zero_testBit]
    by_cases h10 : i < 10
    · rw [decide_eq_true h10]
      revert h2
      cases s.testBit i <;> cases m.testBit i <;> decide
    · have : s.testBit i = false := Nat.testBit_lt_two_pow (Nat.lt_of_lt_of_le hs (Nat.pow_le_pow_right (by decide) (by omega) : 2 ^ 10 ≤ 2 ^ i))
      rw [this]
      rfl
theorem wk_lt {n : Nat → Nat} {p s day x : Nat} : ∀ k, wk n p s day k = some x → x < k
  | 0, h => by cases h
  | k + 1, h => by
    rw [wk] at h
    split at h
    · rw [wst] at h
      split at h
      · cases h; omega
      · have := wk_lt k h; omega
    · have := wk_lt k h; omega
theorem wk_no {n : Nat → Nat} {p s day k : Nat} (h : ¬ (sbB n p (n 2) k = true ∧ bet (wk n p s day k) k = true ∧ fit n p s day (n 6 ||| k) = true)) : wk n p s day (k + 1) = wk n p s day k := by
  rw [wk]
  split
  · rw [wst, if_neg]
    intro q
    exact h ⟨by assumption, q⟩
  · rfl
theorem wk_yes {n : Nat → Nat} {p s day k : Nat} (h : sbB n p (n 2) k = true ∧ bet (wk n p s day k) k = true ∧ fit n p s day (n 6 ||| k) = true) : wk n p s day (k + 1) = some k := by
  rw [wk, if_pos h.1, wst, if_pos h.2]
set_option maxHeartbeats 4000000 in
set_option maxRecDepth 100000 in
theorem c0_fewestToMend (l : Launch) {rw : List zC} {M0 : zM} {n u : Nat → Nat} {kn : Nat} (hS : SI 1 n u kn M0) (hn : NB n) {p q N : Nat} (hp : p < n 0) (hq : q < n 1) (hN : N ≤ 99) : CT l false 4 0 0 yX0_fewestToMend cX0_fewestToMend 9 (some .int) [.ref 24, .int (nI p), .int (nI q), .int (nI N)] (zSh ++ rw) M0 (zG (zSh ++ rw) (fun v9 M9 => v9 = some (.int (fwv ((ck n p q (n 3 + N) (2 ^ cno n p (n 2))).map (fun j => em n p j (n 2))))) ∧ zfr (fun i => i = 26 ∨ i = 27 ∨ i = 28) M0 M9)) := by
  refine CT.ofN (by decide) (fun _ _ => Nat.le_of_ble_eq_true rfl) ?_
  have hdd := hn.2.2.2.2.2.2.2.2.2.2.2
  have hkd := hn.2.2.2.2.2.2.2.2.1
  have how := hn.2.2.2.2.2.2.2.2.2.1
  have hcu := hn.2.2.2.2.2.2.2.2.2.2.1
  have hb0 := hn.1
  have hb1 := hn.2.1
  have hb2 := hn.2.2.1
  have hb3 := hn.2.2.2.1
  have hb4 := hn.2.2.2.2.1
  have hb5 := hn.2.2.2.2.2.1
  have hb6 := hn.2.2.2.2.2.2.1
  have hcn := cno_le n p (n 2)
  have h10 : cno n p (n 2) ≤ 10 := by omega
  have hpc := pw_le h10
  refine r_iconst (v := nI 0) dX0_fewestToMend_0 rfl ?_
  refine r_istore dX0_fewestToMend_1 rfl (by decide) ?_
  have loop : ∀ (j k : Nat) (M : zM) (hg : ∀ m, m < k → M.1 26 m = nI (mea n p m (n 3 + N) (n 6)) - nI (n (33 + 4 * q + m))) (hF : zfr (fun i => i = 26 ∨ i = 27 ∨ i = 28) M0 M), k ≤ 4 → 4 < k + j → RA l none (zR 4 0 0) yX0_fewestToMend cX0_fewestToMend 9 (some .int) (zG (zSh ++ rw) (fun v9 M9 => v9 = some (.int (fwv ((ck n p q (n 3 + N) (2 ^ cno n p (n 2))).map (fun j => em n p j (n 2))))) ∧ zfr (fun i => i = 26 ∨ i = 27 ∨ i = 28) M0 M9)) 0 0 3 [some (.ref 24), some (.int (nI p)), some (.int (nI q)), some (.int (nI N)), some (.int (nI k)), none, none, none, none] [] (zSh ++ rw) M := by
    intro j
    induction j with
    | zero => intro k M hg hF hk hj; exact absurd hj (by omega)
    | succ j ih =>
      intro k M hg hF hk hj
      have hS1 := SI_zfr hS hF (fun i h1 h2 => by omega)
      refine r_iload dX0_fewestToMend_3 rfl ?_
      refine r_iconst (v := nI 4) dX0_fewestToMend_5 rfl ?_
      first | refine r_icmp_geN (tgt := 34) dX0_fewestToMend_6 (by decide) (by omega) (by omega) (fun c1 => ?_) (fun c1 => ?_) | refine r_icmp_ge (tgt := 34) dX0_fewestToMend_6 (by decide) (fun c1 => ?_) (fun c1 => ?_)
      · refine r_aload_n dX0_fewestToMend_34 rfl rfl ?_
        refine r_iload_n dX0_fewestToMend_35 rfl rfl ?_
        refine r_iload_n dX0_fewestToMend_36 rfl rfl ?_
        refine r_cV2G mv_X0_findOpenDeeds ml_X0_51 (c0_findOpenDeeds l hS1 hn hp (by omega)) dX0_fewestToMend_37 (Nat.le_of_ble_eq_true rfl) ⟨by decide, by decide⟩ ⟨by decide, by decide⟩ sh_24 rfl (fun _ h => nomatch h) (fun v M1 hq => ?_)
        obtain ⟨rfl, hI1, hFo⟩ := hq
        dsimp only [zrst, List.cons_append, List.nil_append]
        have hF1 : zfr (fun i => i = 26 ∨ i = 27 ∨ i = 28) M0 M1 := hF.trans (hFo.wk (fun i h => Or.inr h))
        have hg1 : ∀ m, m < 4 → M1.1 26 m = nI (mea n p m (n 3 + N) (n 6 ||| em n p (0) (n 2))) - nI (n (33 + 4 * q + m)) := by
          intro m hm
          have e0 : em n p 0 (n 2) = 0 := by
            apply Nat.eq_of_testBit_eq
            intro i
            rw [em_bit]
            simp
          rw [e0, Nat.or_zero, (hFo 26 (by decide)).1]
          exact hg m (by omega)
        refine r_istore dX0_fewestToMend_40 rfl (by decide) ?_
        refine r_bipush (v := (-4)) dX0_fewestToMend_42 rfl ?_
        refine r_istore dX0_fewestToMend_44 rfl (by decide) ?_
        refine r_iload dX0_fewestToMend_46 rfl ?_
        refine r_iconst (v := nI 1) dX0_fewestToMend_48 rfl ?_
        first | refine r_iaddN dX0_fewestToMend_49 ?_ | refine r_iadd dX0_fewestToMend_49 ?_
        refine r_istore dX0_fewestToMend_50 rfl (by decide) ?_
        refine r_iconst (v := nI 0) dX0_fewestToMend_52 rfl ?_
        refine r_istore dX0_fewestToMend_53 rfl (by decide) ?_
        have loop2 : ∀ (j k : Nat) (M : zM) (hg : ∀ m, m < 4 → M.1 26 m = nI (mea n p m (n 3 + N) (n 6 ||| em n p (k - 1) (n 2))) - nI (n (33 + 4 * q + m))) (hI : (∀ i, i < cno n p (n 2) → M.1 27 i = nI (oo n p (n 2) i)) ∧ (∀ i, i < cno n p (n 2) → ∀ m, m < 4 → M.1 28 (i * 4 + m) = nI (gn n p (n 3 + N) (oo n p (n 2) i) m))) (hF : zfr (fun i => i = 26 ∨ i = 27 ∨ i = 28) M0 M), k ≤ (2 ^ cno n p (n 2)) → (2 ^ cno n p (n 2)) < k + j → RA l none (zR 4 0 0) yX0_fewestToMend cX0_fewestToMend 9 (some .int) (zG (zSh ++ rw) (fun v9 M9 => v9 = some (.int (fwv ((ck n p q (n 3 + N) (2 ^ cno n p (n 2))).map (fun j => em n p j (n 2))))) ∧ zfr (fun i => i = 26 ∨ i = 27 ∨ i = 28) M0 M9)) 0 0 55 [some (.ref 24), some (.int (nI p)), some (.int (nI q)), some (.int (nI N)), some (.int (nI (cno n p (n 2)))), some (.int (fwv (ck n p q (n 3 + N) k))), some (.int (nI (fw (cno n p (n 2)) (ck n p q (n 3 + N) k)))), some (.int (nI k)), none] [] (zSh ++ rw) M := by
          intro j
          induction j with
          | zero => intro k M hg hI hF hk hj; exact absurd hj (by omega)
          | succ j ih2 =>
            intro k M hg hI hF hk hj
            have hS1 := SI_zfr hS hF (fun i h1 h2 => by omega)
            refine r_iload dX0_fewestToMend_55 rfl ?_
            refine r_iconst (v := nI 1) dX0_fewestToMend_57 rfl ?_
            refine r_iload dX0_fewestToMend_58 rfl ?_
            first | refine r_ishlN dX0_fewestToMend_60 (by omega) (by omega) ?_ | refine r_ishl dX0_fewestToMend_60 ?_
            first | refine r_icmp_geN (tgt := 110) dX0_fewestToMend_61 (by decide) (by omega) (by omega) (fun c1 => ?_) (fun c1 => ?_) | refine r_icmp_ge (tgt := 110) dX0_fewestToMend_61 (by decide) (fun c1 => ?_) (fun c1 => ?_)
            · have hk2 : k = 2 ^ cno n p (n 2) := by omega
              refine r_iload dX0_fewestToMend_110 rfl ?_
              rcases hck : ck n p q (n 3 + N) k with _ | b
              · refine r_if_ge (tgt := 120) dX0_fewestToMend_112 (by decide) (fun q9 => absurd q9 (by decide)) (fun _ => ?_)
                refine r_bipush (v := (-4)) dX0_fewestToMend_115 rfl ?_
                refine r_goto (tgt := 128) dX0_fewestToMend_117 (by decide) ?_
                refine r_iret dX0_fewestToMend_128 rfl (by decide) (by decide) ?_
                refine ⟨rfl, congrArg (fun x => some (Value.int x)) ?_, hF⟩
                rw [← hk2, hck]
                try rfl
              · have hb := ck_lt k hck
                refine r_if_ge (tgt := 120) dX0_fewestToMend_112 (by decide) (fun _ => ?_) (fun q9 => absurd q9 (fun q8 => q8 ((nI_leI (by decide) (by omega)).mpr (Nat.zero_le b))))
                refine r_aload_n dX0_fewestToMend_120 rfl rfl ?_
                refine r_iload dX0_fewestToMend_121 rfl ?_
                refine r_iload dX0_fewestToMend_123 rfl ?_
                refine r_cV2F mv_X0_asDeeds ml_X0_69 (c0_asDeeds l (by omega) hb2 h10 hI.1) dX0_fewestToMend_125 (Nat.le_of_ble_eq_true rfl) ⟨by decide, by decide⟩ ⟨by decide, by decide⟩ sh_24 rfl (fun _ h => nomatch h) ?_
                try dsimp only [zrst, List.cons_append, List.nil_append]
                refine r_iret dX0_fewestToMend_128 rfl (by decide) (by decide) ?_
                refine ⟨rfl, congrArg (fun x => some (Value.int x)) ?_, hF⟩
                rw [← hk2, hck]
                try rfl
            · have hk2 : k < 2 ^ cno n p (n 2) := by omega
              have h1024 : k < 1024 := by omega
              have hmk := mny_le (cno n p (n 2)) h10 k hk2
              have hfw := fw_le (n := n) (p := p) (s := q) (day := (n 3 + N)) (c := cno n p (n 2)) (k := k) h10 (by omega)
              have hbf := bet_fw (c := cno n p (n 2)) (k := k) (b := (ck n p q (n 3 + N) k)) hmk
              refine r_iload dX0_fewestToMend_64 rfl ?_
              refine r_if_leN (tgt := 75) dX0_fewestToMend_66 (by decide) (by omega) (fun c9 => ?_) (fun c9 => ?_)
              · have hg2 : ∀ m, m < 4 → M.1 26 m = nI (mea n p m (n 3 + N) (n 6 ||| em n p (k) (n 2))) - nI (n (33 + 4 * q + m)) := by
                  intro m hm
                  rw [hg m hm, c9]
                have hI2 := hI
                have hF2 := hF
                have hS2 := hS1
                refine r_iload dX0_fewestToMend_75 rfl ?_
                refine r_cS1F ms_J6_bitCount_0f7a4 ml_X0_59 (c6_bitCount l _) dX0_fewestToMend_77 (Nat.le_of_ble_eq_true rfl) ⟨by decide, by decide⟩ ⟨by decide, by decide⟩ (fun _ h => nomatch h) ?_
                try dsimp only [zrst, List.cons_append, List.nil_append]
                rw [bcx_pop k h1024]
                refine r_istore dX0_fewestToMend_80 rfl (by decide) ?_
                refine r_iload dX0_fewestToMend_82 rfl ?_
                refine r_iload dX0_fewestToMend_84 rfl ?_
                first | refine r_icmp_geN (tgt := 104) dX0_fewestToMend_86 (by decide) (by omega) (by omega) (fun c2 => ?_) (fun c2 => ?_) | refine r_icmp_ge (tgt := 104) dX0_fewestToMend_86 (by decide) (fun c2 => ?_) (fun c2 => ?_)
                · have hu := ck_no (n := n) (p := p) (s := q) (day := (n 3 + N)) (j := k) (fun h => by have := hbf.mp h.1; omega)
                  first | refine r_iincN dX0_fewestToMend_104 rfl rfl (by decide) ?_ | refine r_iinc dX0_fewestToMend_104 rfl rfl rfl (by decide) ?_
                  refine r_goto (tgt := 55) dX0_fewestToMend_107 (by decide) ?_
                  refine r_lfor 8 ?_
                  have h9 := ih2 (k + 1) _ (by rw [Nat.add_sub_cancel]; exact hg2) hI2 hF2 (by omega) (by omega)
                  rw [hu] at h9
                  exact h9
                · refine r_aload_n dX0_fewestToMend_89 rfl rfl ?_
                  refine r_cV0F mv_X0_gapsAreEasy ml_X0_65 (c0_gapsAreEasy l hS2 hn hp hq hg2) dX0_fewestToMend_90 (Nat.le_of_ble_eq_true rfl) ⟨by decide, by decide⟩ ⟨by decide, by decide⟩ sh_24 rfl (fun _ h => nomatch h) ?_
                  try dsimp only [zrst, List.cons_append, List.nil_append]
                  first | refine r_if_eqB (tgt := 104) dX0_fewestToMend_93 (by decide) (fun c3 => ?_) (fun c3 => ?_) | refine r_if_eqN (tgt := 104) dX0_fewestToMend_93 (by decide) (by omega) (fun c3 => ?_) (fun c3 => ?_) | refine r_if_eq (tgt := 104) dX0_fewestToMend_93 (by decide) (fun c3 => ?_) (fun c3 => ?_)
                  · have hu := ck_no (n := n) (p := p) (s := q) (day := (n 3 + N)) (j := k) (fun h => c3 h.2)
                    first | refine r_iincN dX0_fewestToMend_104 rfl rfl (by decide) ?_ | refine r_iinc dX0_fewestToMend_104 rfl rfl rfl (by decide) ?_
                    refine r_goto (tgt := 55) dX0_fewestToMend_107 (by decide) ?_
                    refine r_lfor 8 ?_
                    have h9 := ih2 (k + 1) _ (by rw [Nat.add_sub_cancel]; exact hg2) hI2 hF2 (by omega) (by omega)
                    rw [hu] at h9
                    exact h9
                  · have hu := ck_yes (n := n) (p := p) (s := q) (day := (n 3 + N)) (j := k) ⟨hbf.mpr (by omega), c3⟩
                    refine r_iload dX0_fewestToMend_96 rfl ?_
                    refine r_istore dX0_fewestToMend_98 rfl (by decide) ?_
                    refine r_iload dX0_fewestToMend_100 rfl ?_
                    refine r_istore dX0_fewestToMend_102 rfl (by decide) ?_
                    first | refine r_iincN dX0_fewestToMend_104 rfl rfl (by decide) ?_ | refine r_iinc dX0_fewestToMend_104 rfl rfl rfl (by decide) ?_
                    refine r_goto (tgt := 55) dX0_fewestToMend_107 (by decide) ?_
                    refine r_lfor 8 ?_
                    have h9 := ih2 (k + 1) _ (by rw [Nat.add_sub_cancel]; exact hg2) hI2 hF2 (by omega) (by omega)
                    rw [hu] at h9
                    exact h9
              · skip
                refine r_aload_n dX0_fewestToMend_69 rfl rfl ?_
                refine r_iload dX0_fewestToMend_70 rfl ?_
                refine r_cV1G mv_X0_stepTo ml_X0_55 (c0_stepTo l hk2 h10 (by omega) hI.2 hg) dX0_fewestToMend_72 (Nat.le_of_ble_eq_true rfl) ⟨by decide, by decide⟩ ⟨by decide, by decide⟩ sh_24 rfl (fun _ h => nomatch h) (fun v M1 hq => ?_)
                obtain ⟨rfl, hg2, hFs⟩ := hq
                dsimp only [zrst, List.cons_append, List.nil_append]
                have hI2 : (∀ i, i < cno n p (n 2) → M1.1 27 i = nI (oo n p (n 2) i)) ∧ (∀ i, i < cno n p (n 2) → ∀ m, m < 4 → M1.1 28 (i * 4 + m) = nI (gn n p (n 3 + N) (oo n p (n 2) i) m)) := ⟨fun i hi => (congrFun (hFs 27 (show ¬ (27 : Nat) = 26 by decide)).1 i).trans (hI.1 i hi), fun i hi m hm => (congrFun (hFs 28 (show ¬ (28 : Nat) = 26 by decide)).1 _).trans (hI.2 i hi m hm)⟩
                have hF2 : zfr (fun i => i = 26 ∨ i = 27 ∨ i = 28) M0 M1 := hF.trans (hFs.wk (fun i h => Or.inl h))
                have hS2 := SI_zfr hS hF2 (fun i h1 h2 => by omega)
                refine r_iload dX0_fewestToMend_75 rfl ?_
                refine r_cS1F ms_J6_bitCount_0f7a4 ml_X0_59 (c6_bitCount l _) dX0_fewestToMend_77 (Nat.le_of_ble_eq_true rfl) ⟨by decide, by decide⟩ ⟨by decide, by decide⟩ (fun _ h => nomatch h) ?_
                try dsimp only [zrst, List.cons_append, List.nil_append]
                rw [bcx_pop k h1024]
                refine r_istore dX0_fewestToMend_80 rfl (by decide) ?_
                refine r_iload dX0_fewestToMend_82 rfl ?_
                refine r_iload dX0_fewestToMend_84 rfl ?_
                first | refine r_icmp_geN (tgt := 104) dX0_fewestToMend_86 (by decide) (by omega) (by omega) (fun c4 => ?_) (fun c4 => ?_) | refine r_icmp_ge (tgt := 104) dX0_fewestToMend_86 (by decide) (fun c4 => ?_) (fun c4 => ?_)
                · have hu := ck_no (n := n) (p := p) (s := q) (day := (n 3 + N)) (j := k) (fun h => by have := hbf.mp h.1; omega)
                  first | refine r_iincN dX0_fewestToMend_104 rfl rfl (by decide) ?_ | refine r_iinc dX0_fewestToMend_104 rfl rfl rfl (by decide) ?_
                  refine r_goto (tgt := 55) dX0_fewestToMend_107 (by decide) ?_
                  refine r_lfor 8 ?_
                  have h9 := ih2 (k + 1) _ (by rw [Nat.add_sub_cancel]; exact hg2) hI2 hF2 (by omega) (by omega)
                  rw [hu] at h9
                  exact h9
                · refine r_aload_n dX0_fewestToMend_89 rfl rfl ?_
                  refine r_cV0F mv_X0_gapsAreEasy ml_X0_65 (c0_gapsAreEasy l hS2 hn hp hq hg2) dX0_fewestToMend_90 (Nat.le_of_ble_eq_true rfl) ⟨by decide, by decide⟩ ⟨by decide, by decide⟩ sh_24 rfl (fun _ h => nomatch h) ?_
                  try dsimp only [zrst, List.cons_append, List.nil_append]
                  first | refine r_if_eqB (tgt := 104) dX0_fewestToMend_93 (by decide) (fun c5 => ?_) (fun c5 => ?_) | refine r_if_eqN (tgt := 104) dX0_fewestToMend_93 (by decide) (by omega) (fun c5 => ?_) (fun c5 => ?_) | refine r_if_eq (tgt := 104) dX0_fewestToMend_93 (by decide) (fun c5 => ?_) (fun c5 => ?_)
                  · have hu := ck_no (n := n) (p := p) (s := q) (day := (n 3 + N)) (j := k) (fun h => c5 h.2)
                    first | refine r_iincN dX0_fewestToMend_104 rfl rfl (by decide) ?_ | refine r_iinc dX0_fewestToMend_104 rfl rfl rfl (by decide) ?_
                    refine r_goto (tgt := 55) dX0_fewestToMend_107 (by decide) ?_
                    refine r_lfor 8 ?_
                    have h9 := ih2 (k + 1) _ (by rw [Nat.add_sub_cancel]; exact hg2) hI2 hF2 (by omega) (by omega)
                    rw [hu] at h9
                    exact h9
                  · have hu := ck_yes (n := n) (p := p) (s := q) (day := (n 3 + N)) (j := k) ⟨hbf.mpr (by omega), c5⟩
                    refine r_iload dX0_fewestToMend_96 rfl ?_
                    refine r_istore dX0_fewestToMend_98 rfl (by decide) ?_
                    refine r_iload dX0_fewestToMend_100 rfl ?_
                    refine r_istore dX0_fewestToMend_102 rfl (by decide) ?_
                    first | refine r_iincN dX0_fewestToMend_104 rfl rfl (by decide) ?_ | refine r_iinc dX0_fewestToMend_104 rfl rfl rfl (by decide) ?_
                    refine r_goto (tgt := 55) dX0_fewestToMend_107 (by decide) ?_
                    refine r_lfor 8 ?_
                    have h9 := ih2 (k + 1) _ (by rw [Nat.add_sub_cancel]; exact hg2) hI2 hF2 (by omega) (by omega)
                    rw [hu] at h9
                    exact h9
        exact loop2 ((2 ^ cno n p (n 2)) + 1) 0 M1 (by intro m hm; rw [Nat.zero_sub]; exact hg1 m hm) hI1 hF1 (Nat.zero_le _) (by omega)
      · refine r_aload_n dX0_fewestToMend_9 rfl rfl ?_
        refine r_getR fl_X0_15 dX0_fewestToMend_10 sh_24 rfl ?_
        refine r_iload dX0_fewestToMend_13 rfl ?_
        refine r_aload_n dX0_fewestToMend_15 rfl rfl ?_
        refine r_getR fl_X0_37 dX0_fewestToMend_16 sh_24 rfl ?_
        refine r_iload_n dX0_fewestToMend_19 rfl rfl ?_
        refine r_iload_n dX0_fewestToMend_20 rfl rfl ?_
        refine r_iload dX0_fewestToMend_21 rfl ?_
        refine r_iload_n dX0_fewestToMend_23 rfl rfl ?_
        refine r_cV4F mv_X3_gapBehind ml_X0_47 (c3_gapBehind l hS1 hn hp hq (by omega) (by omega)) dX0_fewestToMend_24 (Nat.le_of_ble_eq_true rfl) ⟨by decide, by decide⟩ ⟨by decide, by decide⟩ sh_1 rfl (fun _ h => nomatch h) ?_
        try dsimp only [zrst, List.cons_append, List.nil_append]
        refine r_iastN dX0_fewestToMend_27 sh_26 (by omega) (by decide) ?_
        first | refine r_iincN dX0_fewestToMend_28 rfl rfl (by decide) ?_ | refine r_iinc dX0_fewestToMend_28 rfl rfl rfl (by decide) ?_
        refine r_goto (tgt := 3) dX0_fewestToMend_31 (by decide) ?_
        exact ih (k + 1) _ (fun m hm => by
          rw [zI_at]
          by_cases e : m = k
          · rw [e]; exact pk_us
          · rw [pk_un e]; exact hg m (by omega)) (hF.trans (zfr_I (Or.inl rfl))) (by omega) (by omega)
  exact loop (4 + 1) 0 M0 (fun m hm => absurd hm (by omega)) zfr.rf (Nat.zero_le _) (by omega)

set_option maxHeartbeats 4000000 in
set_option maxRecDepth 100000 in
theorem c4_wedding (l : Launch) {rw : List zC} {M0 : zM} {n u : Nat → Nat} {kn : Nat} (hS : SI 1 n u kn M0) (hn : NB n) (x z v w : Int32) : CT l false 5 0 0 yX4_wedding cX4_wedding 6 (some .int) [.ref 0, .int x, .int z, .int v, .int w] (zSh ++ rw) M0 (zG (zSh ++ rw) (fun v9 M9 => v9 = some (.int (sp_wedding n x z v w)) ∧ zfr (fun i => i = 26 ∨ i = 27 ∨ i = 28) M0 M9)) := by
  refine CT.ofN (by decide) (fun _ _ => Nat.le_of_ble_eq_true rfl) ?_
  have hdd := hn.2.2.2.2.2.2.2.2.2.2.2
  have hkd := hn.2.2.2.2.2.2.2.2.1
  have how := hn.2.2.2.2.2.2.2.2.2.1
  have hcu := hn.2.2.2.2.2.2.2.2.2.2.1
  have hb0 := hn.1
  have hb1 := hn.2.1
  have hb2 := hn.2.2.1
  have hb3 := hn.2.2.2.1
  have hb4 := hn.2.2.2.2.1
  have hb5 := hn.2.2.2.2.2.1
  have hb6 := hn.2.2.2.2.2.2.1
  refine r_aload_n dX4_wedding_0 rfl rfl ?_
  refine r_getR fl_X4_10 dX4_wedding_1 sh_0 rfl ?_
  refine r_iload_n dX4_wedding_4 rfl rfl ?_
  refine r_cV1F mv_X3_hasPerson ml_X4_53 (c3_hasPerson l hS (by omega) _) dX4_wedding_5 (Nat.le_of_ble_eq_true rfl) ⟨by decide, by decide⟩ ⟨by decide, by decide⟩ sh_1 rfl (fun _ h => nomatch h) ?_
  try dsimp only [zrst, List.cons_append, List.nil_append]
  first | refine r_if_eqB (tgt := 40) dX4_wedding_8 (by decide) (fun c1 => ?_) (fun c1 => ?_) | refine r_if_eqN (tgt := 40) dX4_wedding_8 (by decide) (by omega) (fun c1 => ?_) (fun c1 => ?_) | refine r_if_eq (tgt := 40) dX4_wedding_8 (by decide) (fun c1 => ?_) (fun c1 => ?_)
  · have b1 : ¬ (0 ≤ x.toInt ∧ x.toInt < (n 0 : Int)) := by omega
    refine r_iconst (v := (-1)) dX4_wedding_40 rfl ?_
    refine r_iret dX4_wedding_41 rfl (by decide) (by decide) ?_
    refine ⟨rfl, congrArg (fun x => some (Value.int x)) ?_, zfr.rf⟩
    rw [sp_wedding, if_neg]
    intro h9; first | exact absurd h9 (by assumption) | exact absurd h9.1 (by assumption) | exact absurd h9.2 (by assumption) | exact absurd h9.2.1 (by assumption) | exact absurd h9.2.2 (by assumption) | exact absurd h9.2.2.1 (by assumption) | exact absurd h9.2.2.2 (by assumption) | exact absurd h9.2.2.2.1 (by assumption) | exact absurd h9.2.2.2.2 (by assumption)
  · have g1 : 0 ≤ x.toInt ∧ x.toInt < (n 0 : Int) := by omega
    obtain ⟨p, hp, rfl⟩ := arg_nat (n := n 0) (show 0 ≤ x.toInt ∧ x.toInt < ((n 0 : Nat) : Int) by omega)
    refine r_aload_n dX4_wedding_11 rfl rfl ?_
    refine r_getR fl_X4_10 dX4_wedding_12 sh_0 rfl ?_
    refine r_iload_n dX4_wedding_15 rfl rfl ?_
    refine r_cV1F mv_X3_hasSuit ml_X4_71 (c3_hasSuit l hS (by omega) _) dX4_wedding_16 (Nat.le_of_ble_eq_true rfl) ⟨by decide, by decide⟩ ⟨by decide, by decide⟩ sh_1 rfl (fun _ h => nomatch h) ?_
    try dsimp only [zrst, List.cons_append, List.nil_append]
    first | refine r_if_eqB (tgt := 40) dX4_wedding_19 (by decide) (fun c2 => ?_) (fun c2 => ?_) | refine r_if_eqN (tgt := 40) dX4_wedding_19 (by decide) (by omega) (fun c2 => ?_) (fun c2 => ?_) | refine r_if_eq (tgt := 40) dX4_wedding_19 (by decide) (fun c2 => ?_) (fun c2 => ?_)
    · have b2 : ¬ (0 ≤ z.toInt ∧ z.toInt < (n 1 : Int)) := by omega
      refine r_iconst (v := (-1)) dX4_wedding_40 rfl ?_
      refine r_iret dX4_wedding_41 rfl (by decide) (by decide) ?_
      refine ⟨rfl, congrArg (fun x => some (Value.int x)) ?_, zfr.rf⟩
      rw [sp_wedding, if_neg]
      intro h9; first | exact absurd h9 (by assumption) | exact absurd h9.1 (by assumption) | exact absurd h9.2 (by assumption) | exact absurd h9.2.1 (by assumption) | exact absurd h9.2.2 (by assumption) | exact absurd h9.2.2.1 (by assumption) | exact absurd h9.2.2.2 (by assumption) | exact absurd h9.2.2.2.1 (by assumption) | exact absurd h9.2.2.2.2 (by assumption)
    · have g2 : 0 ≤ z.toInt ∧ z.toInt < (n 1 : Int) := by omega
      obtain ⟨q, hq, rfl⟩ := arg_nat (n := n 1) (show 0 ≤ z.toInt ∧ z.toInt < ((n 1 : Nat) : Int) by omega)
      refine r_iload_n dX4_wedding_22 rfl rfl ?_
      refine r_iconst (v := nI 0) dX4_wedding_23 rfl ?_
      refine r_bipush (v := nI 99) dX4_wedding_24 rfl ?_
      refine r_cS3F ms_X4_within ml_X4_41 (c4_within l _ _ _) dX4_wedding_26 (Nat.le_of_ble_eq_true rfl) ⟨by decide, by decide⟩ ⟨by decide, by decide⟩ (fun _ h => nomatch h) ?_
      try dsimp only [zrst, List.cons_append, List.nil_append]
      first | refine r_if_eqB (tgt := 40) dX4_wedding_29 (by decide) (fun c3 => ?_) (fun c3 => ?_) | refine r_if_eqN (tgt := 40) dX4_wedding_29 (by decide) (by omega) (fun c3 => ?_) (fun c3 => ?_) | refine r_if_eq (tgt := 40) dX4_wedding_29 (by decide) (fun c3 => ?_) (fun c3 => ?_)
      · have c3 : ¬ ((0 : Int) ≤ v.toInt ∧ v.toInt ≤ (99 : Int)) := c3
        have b3 : ¬ (0 ≤ v.toInt ∧ v.toInt ≤ 99) := by omega
        refine r_iconst (v := (-1)) dX4_wedding_40 rfl ?_
        refine r_iret dX4_wedding_41 rfl (by decide) (by decide) ?_
        refine ⟨rfl, congrArg (fun x => some (Value.int x)) ?_, zfr.rf⟩
        rw [sp_wedding, if_neg]
        intro h9; first | exact absurd h9 (by assumption) | exact absurd h9.1 (by assumption) | exact absurd h9.2 (by assumption) | exact absurd h9.2.1 (by assumption) | exact absurd h9.2.2 (by assumption) | exact absurd h9.2.2.1 (by assumption) | exact absurd h9.2.2.2 (by assumption) | exact absurd h9.2.2.2.1 (by assumption) | exact absurd h9.2.2.2.2 (by assumption)
      · have c3 : ((0 : Int) ≤ v.toInt ∧ v.toInt ≤ (99 : Int)) := c3
        have g3 : 0 ≤ v.toInt ∧ v.toInt ≤ 99 := by omega
        obtain ⟨N, hN1, hN2, rfl⟩ := arg_rng (a := 0) (b := 99) (show ((0 : Nat) : Int) ≤ v.toInt ∧ v.toInt ≤ ((99 : Nat) : Int) by omega)
        refine r_iload dX4_wedding_32 rfl ?_
        refine r_cS1F ms_X4_isEither ml_X4_108 (c4_isEither l _) dX4_wedding_34 (Nat.le_of_ble_eq_true rfl) ⟨by decide, by decide⟩ ⟨by decide, by decide⟩ (fun _ h => nomatch h) ?_
        try dsimp only [zrst, List.cons_append, List.nil_append]
        first | refine r_if_neB (tgt := 42) dX4_wedding_37 (by decide) (fun c4 => ?_) (fun c4 => ?_) | refine r_if_neN (tgt := 42) dX4_wedding_37 (by decide) (by omega) (fun c4 => ?_) (fun c4 => ?_) | refine r_if_ne (tgt := 42) dX4_wedding_37 (by decide) (fun c4 => ?_) (fun c4 => ?_)
        · have c4 : ((0 : Int) ≤ w.toInt ∧ w.toInt < (2 : Int)) := c4
          have g4 : 0 ≤ w.toInt ∧ w.toInt ≤ 1 := by omega
          obtain ⟨k, hk1, hk2, rfl⟩ := arg_rng (a := 0) (b := 1) (show ((0 : Nat) : Int) ≤ w.toInt ∧ w.toInt ≤ ((1 : Nat) : Int) by omega)
          refine r_aload_n dX4_wedding_42 rfl rfl ?_
          refine r_getR fl_X4_31 dX4_wedding_43 sh_0 rfl ?_
          refine r_iload_n dX4_wedding_46 rfl rfl ?_
          refine r_iload_n dX4_wedding_47 rfl rfl ?_
          refine r_iload_n dX4_wedding_48 rfl rfl ?_
          refine r_cV3G mv_X0_fewestToMend ml_X4_173 (c0_fewestToMend l hS hn hp hq (by omega)) dX4_wedding_49 (Nat.le_of_ble_eq_true rfl) ⟨by decide, by decide⟩ ⟨by decide, by decide⟩ sh_24 rfl (fun _ h => nomatch h) (fun v M1 hq => ?_)
          obtain ⟨rfl, hF⟩ := hq
          rw [← wed_eq hb2]
          dsimp only [zrst, List.cons_append, List.nil_append]
          refine r_istore dX4_wedding_52 rfl (by decide) ?_
          refine r_iload dX4_wedding_54 rfl ?_
          rcases hwk : wk n p q (n 3 + N) (mayN n p + 1) with _ | b
          · refine r_if_ge (tgt := 62) dX4_wedding_56 (by decide) (fun q9 => absurd q9 (by decide)) (fun _ => ?_)
            refine r_bipush (v := (-4)) dX4_wedding_59 rfl ?_
            refine r_iret dX4_wedding_61 rfl (by decide) (by decide) ?_
            refine ⟨rfl, congrArg (fun x => some (Value.int x)) ?_, hF⟩
            rw [sp_wedding, if_pos ⟨g1, g2, g3, g4⟩, tn_nI (show p < 2147483648 by omega), tn_nI (show q < 2147483648 by omega), tn_nI (show N < 2147483648 by omega), tn_nI (show k < 2147483648 by omega), hwk, bo_wed]
            try (first | rw [if_pos (by omega)] | rw [if_neg (by omega)])
            try rfl
          · have hb := wk_lt _ hwk
            have hml := may_lt (n := n) (p := p)
            have hp2 := pw_le hb2
            refine r_if_ge (tgt := 62) dX4_wedding_56 (by decide) (fun _ => ?_) (fun q9 => absurd q9 (fun q8 => q8 ((nI_leI (by decide) (by omega)).mpr (Nat.zero_le b))))
            refine r_iload dX4_wedding_62 rfl ?_
            first | refine r_if_neB (tgt := 75) dX4_wedding_64 (by decide) (fun c5 => ?_) (fun c5 => ?_) | refine r_if_neN (tgt := 75) dX4_wedding_64 (by decide) (by omega) (fun c5 => ?_) (fun c5 => ?_) | refine r_if_ne (tgt := 75) dX4_wedding_64 (by decide) (fun c5 => ?_) (fun c5 => ?_)
            · refine r_iload dX4_wedding_75 rfl ?_
              refine r_iret dX4_wedding_77 rfl (by decide) (by decide) ?_
              refine ⟨rfl, congrArg (fun x => some (Value.int x)) ?_, hF⟩
              rw [sp_wedding, if_pos ⟨g1, g2, g3, g4⟩, tn_nI (show p < 2147483648 by omega), tn_nI (show q < 2147483648 by omega), tn_nI (show N < 2147483648 by omega), tn_nI (show k < 2147483648 by omega), hwk, bo_wed]
              try (first | rw [if_pos (by omega)] | rw [if_neg (by omega)])
              try rfl
            · refine r_iload dX4_wedding_67 rfl ?_
              refine r_cS1F ms_J6_bitCount_0f7a4 ml_X4_176 (c6_bitCount l _) dX4_wedding_69 (Nat.le_of_ble_eq_true rfl) ⟨by decide, by decide⟩ ⟨by decide, by decide⟩ (fun _ h => nomatch h) ?_
              try dsimp only [zrst, List.cons_append, List.nil_append]
              rw [show (fwv (some b)) = nI b from rfl, bcx_pop b (by omega)]
              refine r_goto (tgt := 77) dX4_wedding_72 (by decide) ?_
              refine r_iret dX4_wedding_77 rfl (by decide) (by decide) ?_
              refine ⟨rfl, congrArg (fun x => some (Value.int x)) ?_, hF⟩
              rw [sp_wedding, if_pos ⟨g1, g2, g3, g4⟩, tn_nI (show p < 2147483648 by omega), tn_nI (show q < 2147483648 by omega), tn_nI (show N < 2147483648 by omega), tn_nI (show k < 2147483648 by omega), hwk, bo_wed]
              try (first | rw [if_pos (by omega)] | rw [if_neg (by omega)])
              try rfl
        · have c4 : ¬ ((0 : Int) ≤ w.toInt ∧ w.toInt < (2 : Int)) := c4
          have b4 : ¬ (0 ≤ w.toInt ∧ w.toInt ≤ 1) := by omega
          refine r_iconst (v := (-1)) dX4_wedding_40 rfl ?_
          refine r_iret dX4_wedding_41 rfl (by decide) (by decide) ?_
          refine ⟨rfl, congrArg (fun x => some (Value.int x)) ?_, zfr.rf⟩
          rw [sp_wedding, if_neg]
          intro h9; first | exact absurd h9 (by assumption) | exact absurd h9.1 (by assumption) | exact absurd h9.2 (by assumption) | exact absurd h9.2.1 (by assumption) | exact absurd h9.2.2 (by assumption) | exact absurd h9.2.2.1 (by assumption) | exact absurd h9.2.2.2 (by assumption) | exact absurd h9.2.2.2.1 (by assumption) | exact absurd h9.2.2.2.2 (by assumption)

