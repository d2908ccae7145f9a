def mv : Option Nat → Int32
  | none => -1
  | some v => nI v
theorem pow_le5 {a b : Nat} (ha : a ≤ 4) (hb : b ≤ 5) : (a + 1) ^ b ≤ 3125 := by
  have h1 : (a + 1) ^ b ≤ 5 ^ b := Nat.pow_le_pow_left (by omega) b
  have h2 : 5 ^ b ≤ 5 ^ 5 := Nat.pow_le_pow_right (by decide) hb
  have h3 : (5 : Nat) ^ 5 = 3125 := by decide
  omega
theorem wv_step {n : Nat → Nat} {r i met k : Nat} : wval n (r + 1) i met (k % (n 1 + 1) ^ (r + 1)) = if k / (n 1 + 1) ^ r % (n 1 + 1) < n 1 then (if ftn n i (k / (n 1 + 1) ^ r % (n 1 + 1)) = true ∧ met.testBit (k / (n 1 + 1) ^ r % (n 1 + 1)) = false then (wval n r (i + 1) (met ||| 1 * 2 ^ (k / (n 1 + 1) ^ r % (n 1 + 1))) (k % (n 1 + 1) ^ r)).map (· + 1) else none) else wval n r (i + 1) met (k % (n 1 + 1) ^ r) := by
  have e1 : k % (n 1 + 1) ^ (r + 1) / (n 1 + 1) ^ r = k / (n 1 + 1) ^ r % (n 1 + 1) := by rw [Nat.pow_succ, Nat.mod_mul_right_div_self]
  have e2 : k % (n 1 + 1) ^ (r + 1) % (n 1 + 1) ^ r = k % (n 1 + 1) ^ r := Nat.mod_mod_of_dvd _ (Nat.pow_dvd_pow _ (by omega))
  rw [wval, e1, e2]
theorem map_add {o : Option Nat} {c : Nat} : (o.map (· + 1)).map (· + c) = o.map (· + (c + 1)) := by
  rw [Option.map_map]
  congr 1
  funext x
  show x + 1 + c = x + (c + 1)
  omega
theorem rst_le {n : Nat → Nat} {x : Nat} : ∀ k, (rst n k).2 = some x → x ≤ n 0
  | 0, h => by cases h
  | k + 1, h => by
    rw [rst] at h
    cases e : wval n (n 0) 0 0 k with
    | none => rw [e] at h; exact rst_le k h
    | some v =>
      rw [e] at h
      dsimp only at h
      split at h
      · cases h
        exact Nat.le_trans (wval_le n _ _ _ _ _ e) (mst_le n _ _ _)
      · exact rst_le k h
theorem rst_no {n : Nat → Nat} {k : Nat} (h : wval n (n 0) 0 0 k = none) : rst n (k + 1) = rst n k := by rw [rst, h]
theorem rst_nb {n : Nat → Nat} {k v : Nat} (h : wval n (n 0) 0 0 k = some v) (hb : ¬ mbet (rst n k).2 v = true) : rst n (k + 1) = rst n k := by
  rw [rst, h]
  exact if_neg hb
theorem rst_b {n : Nat → Nat} {k v : Nat} (h : wval n (n 0) 0 0 k = some v) (hb : mbet (rst n k).2 v = true) : rst n (k + 1) = (k, some v) := by
  rw [rst, h]
  exact if_pos hb
theorem rst_1 {n : Nat → Nat} : ∀ k, (rst n k).1 ≤ k
  | 0 => Nat.le_refl _
  | k + 1 => by
    have ih := rst_1 (n := n) k
    rw [rst]
    split
    · omega
    · split
      · show k ≤ k + 1; omega
      · omega
set_option maxHeartbeats 4000000 in
set_option maxRecDepth 100000 in
theorem c5p_wear (l : Launch) {rw : List zC} {M : zM} {t : Nat → Nat → Nat} (hR : RI t M) (hn : NB (t 35)) (x : Int32) : CT l false 5 0 0 yX5_wear cX5_wear 13 (some .int) [.ref 34, .int x] (zSh ++ rw) M (zF (some (.int (sp_wear (t 35) x))) (zSh ++ rw) M) := by
  refine CT.ofN (by decide) (fun _ _ => Nat.le_of_ble_eq_true rfl) ?_
  have hdd := hn.2.2.2.2.2.2.2.2.2.2.2
  have hkd := hn.2.2.2.2.2.2.2.2.1
  have how := hn.2.2.2.2.2.2.2.2.2.1
  have hcu := hn.2.2.2.2.2.2.2.2.2.2.1
  have hb0 := hn.1
  have hb1 := hn.2.1
  have hb2 := hn.2.2.1
  have hb3 := hn.2.2.2.1
  have hb4 := hn.2.2.2.2.1
  have hb5 := hn.2.2.2.2.2.1
  have hb6 := hn.2.2.2.2.2.2.1
  refine r_iload_n dX5_wear_0 rfl rfl ?_
  refine r_bipush (v := (-4)) dX5_wear_1 rfl ?_
  refine r_icmp_eq (tgt := 16) dX5_wear_3 (by decide) (fun c9 => ?_) (fun c9 => ?_)
  · subst c9
    refine r_aload_n dX5_wear_16 rfl rfl ?_
    refine r_getR fl_X5_7 dX5_wear_17 sh_34 rfl ?_
    refine r_iconst (v := nI 1) dX5_wear_20 rfl ?_
    refine r_ialdN dX5_wear_21 sh_35 (by omega) (by decide) (hR.a35 _) ?_
    refine r_istore_n dX5_wear_22 rfl rfl (by decide) ?_
    refine r_iconst (v := nI 1) dX5_wear_23 rfl ?_
    refine r_istore_n dX5_wear_24 rfl rfl (by decide) ?_
    refine r_iconst (v := nI 0) dX5_wear_25 rfl ?_
    refine r_istore dX5_wear_26 rfl (by decide) ?_
    have loopA : ∀ (j k : Nat) , k ≤ t 35 0 → t 35 0 < k + j → RA l none (zR 5 0 0) yX5_wear cX5_wear 13 (some .int) (zF (some (.int (sp_wear (t 35) (-4)))) (zSh ++ rw) M) 0 0 28 [some (.ref 34), some (.int (-4)), some (.int (nI (t 35 1))), some (.int (nI ((t 35 1 + 1) ^ k))), some (.int (nI k)), none, none, none, none, none, none, none, none] [] (zSh ++ rw) M := by
      intro j
      induction j with
      | zero => intro k   hk hj; exact absurd hj (by omega)
      | succ j ihA =>
        intro k   hk hj
        refine r_iload dX5_wear_28 rfl ?_
        refine r_aload_n dX5_wear_30 rfl rfl ?_
        refine r_getR fl_X5_7 dX5_wear_31 sh_34 rfl ?_
        refine r_iconst (v := nI 0) dX5_wear_34 rfl ?_
        refine r_ialdN dX5_wear_35 sh_35 (by omega) (by decide) (hR.a35 _) ?_
        first | refine r_icmp_geN (tgt := 51) dX5_wear_36 (by decide) (by omega) (by omega) (fun c1 => ?_) (fun c1 => ?_) | refine r_icmp_ge (tgt := 51) dX5_wear_36 (by decide) (fun c1 => ?_) (fun c1 => ?_)
        · have eA : k = t 35 0 := by omega
          rw [eA]
          have hq5 := pow_le5 hb1 hb0
          refine r_iconst (v := nI 0) dX5_wear_51 rfl ?_
          refine r_istore dX5_wear_52 rfl (by decide) ?_
          refine r_iconst (v := (-1)) dX5_wear_54 rfl ?_
          refine r_istore dX5_wear_55 rfl (by decide) ?_
          refine r_iconst (v := nI 0) dX5_wear_57 rfl ?_
          refine r_istore dX5_wear_58 rfl (by decide) ?_
          have loopB : ∀ (j k : Nat), k ≤ ((t 35 1 + 1) ^ t 35 0) → ((t 35 1 + 1) ^ t 35 0) < k + j → RA l none (zR 5 0 0) yX5_wear cX5_wear 13 (some .int) (zF (some (.int (sp_wear (t 35) (-4)))) (zSh ++ rw) M) 0 0 60 [some (.ref 34), some (.int (-4)), some (.int (nI (t 35 1))), some (.int (nI ((t 35 1 + 1) ^ t 35 0))), some (.int (nI (rst (t 35) k).1)), some (.int (mv (rst (t 35) k).2)), some (.int (nI k)), none, none, none, none, none, none] [] (zSh ++ rw) M := by
            intro j
            induction j with
            | zero => intro k   hk hj; exact absurd hj (by omega)
            | succ j ihB =>
              intro k   hk hj
              refine r_iload dX5_wear_60 rfl ?_
              refine r_iload_n dX5_wear_62 rfl rfl ?_
              first | refine r_icmp_geN (tgt := 216) dX5_wear_63 (by decide) (by omega) (by omega) (fun c1 => ?_) (fun c1 => ?_) | refine r_icmp_ge (tgt := 216) dX5_wear_63 (by decide) (fun c1 => ?_) (fun c1 => ?_)
              · refine r_iload_n dX5_wear_216 rfl rfl ?_
                refine r_bipush (v := (-4)) dX5_wear_217 rfl ?_
                have eK : k = (t 35 1 + 1) ^ t 35 0 := by omega
                subst eK
                rw [rst_all]
                refine r_icmp_ne (tgt := 225) dX5_wear_219 (by decide) (fun q9 => absurd rfl q9) (fun _ => ?_)
                refine r_iload dX5_wear_222 rfl ?_
                refine r_iret dX5_wear_224 rfl (by decide) (by decide) ?_
                refine ⟨congrArg (fun x => some (Value.int x)) ?_, rfl, rfl⟩
                rw [sp_wear, if_pos rfl]
                try rfl
              · have hk9 := rst_1 (n := t 35) k
                refine r_iload_n dX5_wear_66 rfl rfl ?_
                refine r_istore dX5_wear_67 rfl (by decide) ?_
                refine r_iconst (v := nI 0) dX5_wear_69 rfl ?_
                refine r_istore dX5_wear_70 rfl (by decide) ?_
                refine r_iconst (v := nI 0) dX5_wear_72 rfl ?_
                refine r_istore dX5_wear_73 rfl (by decide) ?_
                refine r_iconst (v := nI 1) dX5_wear_75 rfl ?_
                refine r_istore dX5_wear_76 rfl (by decide) ?_
                refine r_iconst (v := nI 0) dX5_wear_78 rfl ?_
                refine r_istore dX5_wear_79 rfl (by decide) ?_
                have h9C : True := trivial
                have loopC : ∀ (j i : Nat) (met cnt : Nat) (mb : Bool) (hv : wval (t 35) (t 35 0) 0 0 k = if mb = true then (wval (t 35) (t 35 0 - i) i met (k % (t 35 1 + 1) ^ (t 35 0 - i))).map (· + cnt) else none) (hmet : met < 16) (hcnt : cnt ≤ i), i ≤ t 35 0 → t 35 0 < i + j → RA l none (zR 5 0 0) yX5_wear cX5_wear 13 (some .int) (zF (some (.int (sp_wear (t 35) (-4)))) (zSh ++ rw) M) 0 0 81 [some (.ref 34), some (.int (-4)), some (.int (nI (t 35 1))), some (.int (nI ((t 35 1 + 1) ^ t 35 0))), some (.int (nI (rst (t 35) k).1)), some (.int (mv (rst (t 35) k).2)), some (.int (nI k)), some (.int (nI ((t 35 1 + 1) ^ (t 35 0 - i)))), some (.int (nI met)), some (.int (nI cnt)), some (.int (zb (mb = true))), some (.int (nI i)), none] [] (zSh ++ rw) M := by
                  intro j
                  induction j with
                  | zero => intro i met cnt mb hv hmet hcnt hk hj; exact absurd hj (by omega)
                  | succ j ihC =>
                    intro i met cnt mb hv hmet hcnt hk hj
                    refine r_iload dX5_wear_81 rfl ?_
                    refine r_aload_n dX5_wear_83 rfl rfl ?_
                    refine r_getR fl_X5_7 dX5_wear_84 sh_34 rfl ?_
                    refine r_iconst (v := nI 0) dX5_wear_87 rfl ?_
                    refine r_ialdN dX5_wear_88 sh_35 (by omega) (by decide) (hR.a35 _) ?_
                    first | refine r_icmp_geN (tgt := 168) dX5_wear_89 (by decide) (by omega) (by omega) (fun c1 => ?_) (fun c1 => ?_) | refine r_icmp_ge (tgt := 168) dX5_wear_89 (by decide) (fun c1 => ?_) (fun c1 => ?_)
                    · have ei : i = t 35 0 := by omega
                      have hW0 : ¬ mb = true → wval (t 35) (t 35 0) 0 0 k = none := fun h => by rw [hv, if_neg h]
                      have hW1 : mb = true → wval (t 35) (t 35 0) 0 0 k = some cnt := fun h => by
                        rw [hv, if_pos h, ei, Nat.sub_self]
                        show some (0 + cnt) = some cnt
                        rw [Nat.zero_add]
                      refine r_iload dX5_wear_168 rfl ?_
                      refine r_if_eqB (tgt := 185) dX5_wear_170 (by decide) (fun c9 => ?_) (fun c9 => ?_)
                      · have hu := rst_no (n := (t 35)) (hW0 c9)
                        refine r_iload dX5_wear_185 rfl ?_
                        refine r_istore dX5_wear_187 rfl (by decide) ?_
                        refine r_iload dX5_wear_189 rfl ?_
                        refine r_if_eqB (tgt := 206) dX5_wear_191 (by decide) (fun _ => ?_) (fun q9 => absurd q9 c9)
                        refine r_iload dX5_wear_206 rfl ?_
                        refine r_istore dX5_wear_208 rfl (by decide) ?_
                        first | refine r_iincN dX5_wear_210 rfl rfl (by decide) ?_ | refine r_iinc dX5_wear_210 rfl rfl rfl (by decide) ?_
                        refine r_goto (tgt := 60) dX5_wear_213 (by decide) ?_
                        refine r_lfor 7 ?_
                        refine r_lfor 8 ?_
                        refine r_lfor 9 ?_
                        refine r_lfor 10 ?_
                        refine r_lfor 11 ?_
                        refine r_lfor 12 ?_
                        have h9 := ihB (k + 1) (by omega) (by omega)
                        rw [hu] at h9
                        exact h9
                      · have hWc := hW1 c9
                        refine r_iload dX5_wear_173 rfl ?_
                        refine r_iload dX5_wear_175 rfl ?_
                        rcases hm : (rst (t 35) k).2 with _ | x9
                        · have hu := rst_b (n := (t 35)) hWc (by rw [hm]; rfl)
                          refine r_icmp_le (tgt := 185) dX5_wear_177 (by decide) (fun q9 => absurd (i32_le.mp q9) (by rw [nI_toInt (by omega)]; show ¬ (cnt : Int) ≤ -1; omega)) (fun q8 => ?_)
                          refine r_iload dX5_wear_180 rfl ?_
                          refine r_goto (tgt := 187) dX5_wear_182 (by decide) ?_
                          refine r_istore dX5_wear_187 rfl (by decide) ?_
                          refine r_iload dX5_wear_189 rfl ?_
                          refine r_if_eqB (tgt := 206) dX5_wear_191 (by decide) (fun q9 => absurd c9 q9) (fun _ => ?_)
                          refine r_iload dX5_wear_194 rfl ?_
                          refine r_iload dX5_wear_196 rfl ?_
                          refine r_icmp_le (tgt := 206) dX5_wear_198 (by decide) (fun q9 => absurd q9 q8) (fun _ => ?_)
                          refine r_iload dX5_wear_201 rfl ?_
                          refine r_goto (tgt := 208) dX5_wear_203 (by decide) ?_
                          refine r_istore dX5_wear_208 rfl (by decide) ?_
                          first | refine r_iincN dX5_wear_210 rfl rfl (by decide) ?_ | refine r_iinc dX5_wear_210 rfl rfl rfl (by decide) ?_
                          refine r_goto (tgt := 60) dX5_wear_213 (by decide) ?_
                          refine r_lfor 7 ?_
                          refine r_lfor 8 ?_
                          refine r_lfor 9 ?_
                          refine r_lfor 10 ?_
                          refine r_lfor 11 ?_
                          refine r_lfor 12 ?_
                          have h9 := ihB (k + 1) (by omega) (by omega)
                          rw [hu] at h9
                          exact h9
                        · have hx9 := rst_le k hm
                          refine r_icmp_leN (tgt := 185) dX5_wear_177 (by decide) (by omega) (by omega) (fun c8 => ?_) (fun c8 => ?_)
                          · have hu := rst_nb (n := (t 35)) hWc (by rw [hm]; exact fun q => by have := of_decide_eq_true q; omega)
                            refine r_iload dX5_wear_185 rfl ?_
                            refine r_istore dX5_wear_187 rfl (by decide) ?_
                            refine r_iload dX5_wear_189 rfl ?_
                            refine r_if_eqB (tgt := 206) dX5_wear_191 (by decide) (fun q9 => absurd c9 q9) (fun _ => ?_)
                            refine r_iload dX5_wear_194 rfl ?_
                            refine r_iload dX5_wear_196 rfl ?_
                            refine r_icmp_leN (tgt := 206) dX5_wear_198 (by decide) (by omega) (by omega) (fun _ => ?_) (fun q9 => absurd q9 (by omega))
                            refine r_iload dX5_wear_206 rfl ?_
                            refine r_istore dX5_wear_208 rfl (by decide) ?_
                            first | refine r_iincN dX5_wear_210 rfl rfl (by decide) ?_ | refine r_iinc dX5_wear_210 rfl rfl rfl (by decide) ?_
                            refine r_goto (tgt := 60) dX5_wear_213 (by decide) ?_
                            refine r_lfor 7 ?_
                            refine r_lfor 8 ?_
                            refine r_lfor 9 ?_
                            refine r_lfor 10 ?_
                            refine r_lfor 11 ?_
                            refine r_lfor 12 ?_
                            have h9 := ihB (k + 1) (by omega) (by omega)
                            rw [hu, hm] at h9
                            exact h9
                          · have hu := rst_b (n := (t 35)) hWc (by rw [hm]; exact decide_eq_true c8)
                            refine r_iload dX5_wear_180 rfl ?_
                            refine r_goto (tgt := 187) dX5_wear_182 (by decide) ?_
                            refine r_istore dX5_wear_187 rfl (by decide) ?_
                            refine r_iload dX5_wear_189 rfl ?_
                            refine r_if_eqB (tgt := 206) dX5_wear_191 (by decide) (fun q9 => absurd c9 q9) (fun _ => ?_)
                            refine r_iload dX5_wear_194 rfl ?_
                            refine r_iload dX5_wear_196 rfl ?_
                            refine r_icmp_leN (tgt := 206) dX5_wear_198 (by decide) (by omega) (by omega) (fun q9 => absurd q9 (by omega)) (fun _ => ?_)
                            refine r_iload dX5_wear_201 rfl ?_
                            refine r_goto (tgt := 208) dX5_wear_203 (by decide) ?_
                            refine r_istore dX5_wear_208 rfl (by decide) ?_
                            first | refine r_iincN dX5_wear_210 rfl rfl (by decide) ?_ | refine r_iinc dX5_wear_210 rfl rfl rfl (by decide) ?_
                            refine r_goto (tgt := 60) dX5_wear_213 (by decide) ?_
                            refine r_lfor 7 ?_
                            refine r_lfor 8 ?_
                            refine r_lfor 9 ?_
                            refine r_lfor 10 ?_
                            refine r_lfor 11 ?_
                            refine r_lfor 12 ?_
                            have h9 := ihB (k + 1) (by omega) (by omega)
                            rw [hu] at h9
                            exact h9
                    · refine r_iload dX5_wear_92 rfl ?_
                      refine r_if_eqB (tgt := 168) dX5_wear_94 (by decide) (fun c9 => ?_) (fun c9 => ?_)
                      · have hW0 : ¬ mb = true → wval (t 35) (t 35 0) 0 0 k = none := fun h => by rw [hv, if_neg h]
                        have hW1 : mb = true → wval (t 35) (t 35 0) 0 0 k = some cnt := fun h => absurd h c9
                        refine r_iload dX5_wear_168 rfl ?_
                        refine r_if_eqB (tgt := 185) dX5_wear_170 (by decide) (fun c9 => ?_) (fun c9 => ?_)
                        · have hu := rst_no (n := (t 35)) (hW0 c9)
                          refine r_iload dX5_wear_185 rfl ?_
                          refine r_istore dX5_wear_187 rfl (by decide) ?_
                          refine r_iload dX5_wear_189 rfl ?_
                          refine r_if_eqB (tgt := 206) dX5_wear_191 (by decide) (fun _ => ?_) (fun q9 => absurd q9 c9)
                          refine r_iload dX5_wear_206 rfl ?_
                          refine r_istore dX5_wear_208 rfl (by decide) ?_
                          first | refine r_iincN dX5_wear_210 rfl rfl (by decide) ?_ | refine r_iinc dX5_wear_210 rfl rfl rfl (by decide) ?_
                          refine r_goto (tgt := 60) dX5_wear_213 (by decide) ?_
                          refine r_lfor 7 ?_
                          refine r_lfor 8 ?_
                          refine r_lfor 9 ?_
                          refine r_lfor 10 ?_
                          refine r_lfor 11 ?_
                          refine r_lfor 12 ?_
                          have h9 := ihB (k + 1) (by omega) (by omega)
                          rw [hu] at h9
                          exact h9
                        · have hWc := hW1 c9
                          refine r_iload dX5_wear_173 rfl ?_
                          refine r_iload dX5_wear_175 rfl ?_
                          rcases hm : (rst (t 35) k).2 with _ | x9
                          · have hu := rst_b (n := (t 35)) hWc (by rw [hm]; rfl)
                            refine r_icmp_le (tgt := 185) dX5_wear_177 (by decide) (fun q9 => absurd (i32_le.mp q9) (by rw [nI_toInt (by omega)]; show ¬ (cnt : Int) ≤ -1; omega)) (fun q8 => ?_)
                            refine r_iload dX5_wear_180 rfl ?_
                            refine r_goto (tgt := 187) dX5_wear_182 (by decide) ?_
                            refine r_istore dX5_wear_187 rfl (by decide) ?_
                            refine r_iload dX5_wear_189 rfl ?_
                            refine r_if_eqB (tgt := 206) dX5_wear_191 (by decide) (fun q9 => absurd c9 q9) (fun _ => ?_)
                            refine r_iload dX5_wear_194 rfl ?_
                            refine r_iload dX5_wear_196 rfl ?_
                            refine r_icmp_le (tgt := 206) dX5_wear_198 (by decide) (fun q9 => absurd q9 q8) (fun _ => ?_)
                            refine r_iload dX5_wear_201 rfl ?_
                            refine r_goto (tgt := 208) dX5_wear_203 (by decide) ?_
                            refine r_istore dX5_wear_208 rfl (by decide) ?_
                            first | refine r_iincN dX5_wear_210 rfl rfl (by decide) ?_ | refine r_iinc dX5_wear_210 rfl rfl rfl (by decide) ?_
                            refine r_goto (tgt := 60) dX5_wear_213 (by decide) ?_
                            refine r_lfor 7 ?_
                            refine r_lfor 8 ?_
                            refine r_lfor 9 ?_
                            refine r_lfor 10 ?_
                            refine r_lfor 11 ?_
                            refine r_lfor 12 ?_
                            have h9 := ihB (k + 1) (by omega) (by omega)
                            rw [hu] at h9
                            exact h9
                          · have hx9 := rst_le k hm
                            refine r_icmp_leN (tgt := 185) dX5_wear_177 (by decide) (by omega) (by omega) (fun c8 => ?_) (fun c8 => ?_)
                            · have hu := rst_nb (n := (t 35)) hWc (by rw [hm]; exact fun q => by have := of_decide_eq_true q; omega)
                              refine r_iload dX5_wear_185 rfl ?_
                              refine r_istore dX5_wear_187 rfl (by decide) ?_
                              refine r_iload dX5_wear_189 rfl ?_
                              refine r_if_eqB (tgt := 206) dX5_wear_191 (by decide) (fun q9 => absurd c9 q9) (fun _ => ?_)
                              refine r_iload dX5_wear_194 rfl ?_
                              refine r_iload dX5_wear_196 rfl ?_
                              refine r_icmp_leN (tgt := 206) dX5_wear_198 (by decide) (by omega) (by omega) (fun _ => ?_) (fun q9 => absurd q9 (by omega))
                              refine r_iload dX5_wear_206 rfl ?_
                              refine r_istore dX5_wear_208 rfl (by decide) ?_
                              first | refine r_iincN dX5_wear_210 rfl rfl (by decide) ?_ | refine r_iinc dX5_wear_210 rfl rfl rfl (by decide) ?_
                              refine r_goto (tgt := 60) dX5_wear_213 (by decide) ?_
                              refine r_lfor 7 ?_
                              refine r_lfor 8 ?_
                              refine r_lfor 9 ?_
                              refine r_lfor 10 ?_
                              refine r_lfor 11 ?_
                              refine r_lfor 12 ?_
                              have h9 := ihB (k + 1) (by omega) (by omega)
                              rw [hu, hm] at h9
                              exact h9
                            · have hu := rst_b (n := (t 35)) hWc (by rw [hm]; exact decide_eq_true c8)
                              refine r_iload dX5_wear_180 rfl ?_
                              refine r_goto (tgt := 187) dX5_wear_182 (by decide) ?_
                              refine r_istore dX5_wear_187 rfl (by decide) ?_
                              refine r_iload dX5_wear_189 rfl ?_
                              refine r_if_eqB (tgt := 206) dX5_wear_191 (by decide) (fun q9 => absurd c9 q9) (fun _ => ?_)
                              refine r_iload dX5_wear_194 rfl ?_
                              refine r_iload dX5_wear_196 rfl ?_
                              refine r_icmp_leN (tgt := 206) dX5_wear_198 (by decide) (by omega) (by omega) (fun q9 => absurd q9 (by omega)) (fun _ => ?_)
                              refine r_iload dX5_wear_201 rfl ?_
                              refine r_goto (tgt := 208) dX5_wear_203 (by decide) ?_
                              refine r_istore dX5_wear_208 rfl (by decide) ?_
                              first | refine r_iincN dX5_wear_210 rfl rfl (by decide) ?_ | refine r_iinc dX5_wear_210 rfl rfl rfl (by decide) ?_
                              refine r_goto (tgt := 60) dX5_wear_213 (by decide) ?_
                              refine r_lfor 7 ?_
                              refine r_lfor 8 ?_
                              refine r_lfor 9 ?_
                              refine r_lfor 10 ?_
                              refine r_lfor 11 ?_
                              refine r_lfor 12 ?_
                              have h9 := ihB (k + 1) (by omega) (by omega)
                              rw [hu] at h9
                              exact h9
                      · subst c9
                        rw [if_pos rfl] at hv
                        have er : t 35 0 - i = (t 35 0 - i - 1) + 1 := by omega
                        have hq1 := pow_le5 hb1 (show t 35 0 - i ≤ 5 by omega)
                        have hq4 := pow_le5 hb1 (show t 35 0 - i - 1 ≤ 5 by omega)
                        have hq0 : 0 < (t 35 1 + 1) ^ (t 35 0 - i - 1) := Nat.pow_pos (by omega)
                        have hq2 : (t 35 1 + 1) ^ (t 35 0 - i) / (t 35 1 + 1) = (t 35 1 + 1) ^ (t 35 0 - i - 1) := by
                          rw [er, Nat.pow_succ, Nat.mul_div_cancel _ (by omega)]
                          rfl
                        have hdl := Nat.div_le_self k ((t 35 1 + 1) ^ (t 35 0 - i - 1))
                        have hst := wv_step (n := (t 35)) (r := t 35 0 - i - 1) (i := i) (met := met) (k := k)
                        rw [← er] at hst
                        rw [hst] at hv
                        have hsl : (k / (t 35 1 + 1) ^ (t 35 0 - i - 1) % (t 35 1 + 1)) < (t 35 1 + 1) := Nat.mod_lt _ (by omega)
                        refine r_iload dX5_wear_97 rfl ?_
                        refine r_iload_n dX5_wear_99 rfl rfl ?_
                        refine r_iconst (v := nI 1) dX5_wear_100 rfl ?_
                        first | refine r_iaddN dX5_wear_101 ?_ | refine r_iadd dX5_wear_101 ?_
                        refine r_idivN dX5_wear_102 (by omega) (by omega) (by omega) ?_
                        rw [hq2]
                        refine r_istore dX5_wear_103 rfl (by decide) ?_
                        refine r_iload dX5_wear_105 rfl ?_
                        refine r_iload dX5_wear_107 rfl ?_
                        refine r_idivN dX5_wear_109 (by omega) (by omega) (by omega) ?_
                        refine r_iload_n dX5_wear_110 rfl rfl ?_
                        refine r_iconst (v := nI 1) dX5_wear_111 rfl ?_
                        first | refine r_iaddN dX5_wear_112 ?_ | refine r_iadd dX5_wear_112 ?_
                        refine r_iremN dX5_wear_113 (by omega) (by omega) (by omega) ?_
                        refine r_istore dX5_wear_114 rfl (by decide) ?_
                        refine r_iload dX5_wear_116 rfl ?_
                        refine r_iload_n dX5_wear_118 rfl rfl ?_
                        generalize hsd : (k / (t 35 1 + 1) ^ (t 35 0 - i - 1) % (t 35 1 + 1)) = sd at hv hsl ⊢
                        refine r_icmp_geN (tgt := 162) dX5_wear_119 (by decide) (by omega) (by omega) (fun c9 => ?_) (fun c9 => ?_)
                        · rw [if_neg (by omega)] at hv
                          first | refine r_iincN dX5_wear_162 rfl rfl (by decide) ?_ | refine r_iinc dX5_wear_162 rfl rfl rfl (by decide) ?_
                          refine r_goto (tgt := 81) dX5_wear_165 (by decide) ?_
                          refine r_lfor 12 ?_
                          exact ihC (i + 1) met cnt true (by rw [if_pos rfl]; exact hv) hmet (by omega) (by omega) (by omega)
                        · rw [if_pos c9] at hv
                          have hpk := pw_le (show sd ≤ 10 by omega)
                          have hor : met ||| 1 * 2 ^ sd < 16 := or_lt (k := 4) hmet (pw_lt (by omega))
                          refine r_iload dX5_wear_122 rfl ?_
                          refine r_iload dX5_wear_124 rfl ?_
                          first | refine r_ishrN dX5_wear_126 (by omega) (by omega) ?_ | refine r_ishr dX5_wear_126 ?_
                          refine r_iconst (v := nI 1) dX5_wear_127 rfl ?_
                          first | refine r_iandN dX5_wear_128 ?_ | refine r_iand dX5_wear_128 ?_
                          rw [bit1]
                          have hbt : (if met.testBit sd = true then 1 else 0) < 2 := by split <;> decide
                          refine r_if_neN (tgt := 147) dX5_wear_129 (by decide) (by omega) (fun c8 => ?_) (fun c8 => ?_)
                          · rw [if_neg (fun h => c8 (by rw [h.2]; rfl))] at hv
                            refine r_iconst (v := nI 0) dX5_wear_147 rfl ?_
                            refine r_istore dX5_wear_148 rfl (by decide) ?_
                            refine r_iload dX5_wear_150 rfl ?_
                            refine r_iconst (v := nI 1) dX5_wear_152 rfl ?_
                            refine r_iload dX5_wear_153 rfl ?_
                            first | refine r_ishlN dX5_wear_155 (by omega) (by omega) ?_ | refine r_ishl dX5_wear_155 ?_
                            first | refine r_iorN dX5_wear_156 ?_ | refine r_ior dX5_wear_156 ?_
                            refine r_istore dX5_wear_157 rfl (by decide) ?_
                            first | refine r_iincN dX5_wear_159 rfl rfl (by decide) ?_ | refine r_iinc dX5_wear_159 rfl rfl rfl (by decide) ?_
                            first | refine r_iincN dX5_wear_162 rfl rfl (by decide) ?_ | refine r_iinc dX5_wear_162 rfl rfl rfl (by decide) ?_
                            refine r_goto (tgt := 81) dX5_wear_165 (by decide) ?_
                            refine r_lfor 12 ?_
                            have h9 := ihC (i + 1) (met ||| 1 * 2 ^ sd) (cnt + 1) false (by rw [if_neg (by decide)]; exact hv) hor (by omega) (by omega) (by omega)
                            rw [show zb (false = true) = nI 0 from rfl] at h9
                            exact h9
                          · have hbf : met.testBit sd = false := by
                              cases hb : met.testBit sd with
                              | false => rfl
                              | true => rw [hb] at c8; exact absurd c8 (by decide)
                            refine r_aload_n dX5_wear_132 rfl rfl ?_
                            refine r_iload dX5_wear_133 rfl ?_
                            refine r_iload dX5_wear_135 rfl ?_
                            refine r_cV2F mv_X5_fitsNow ml_X5_121 (c5_fitsNow l hR hn (by omega) (by omega)) dX5_wear_137 (Nat.le_of_ble_eq_true rfl) ⟨by decide, by decide⟩ ⟨by decide, by decide⟩ sh_34 rfl (fun _ h => nomatch h) ?_
                            try dsimp only [zrst, List.cons_append, List.nil_append]
                            refine r_if_eqB (tgt := 147) dX5_wear_140 (by decide) (fun c7 => ?_) (fun c7 => ?_)
                            · rw [if_neg (fun h => c7 h.1)] at hv
                              refine r_iconst (v := nI 0) dX5_wear_147 rfl ?_
                              refine r_istore dX5_wear_148 rfl (by decide) ?_
                              refine r_iload dX5_wear_150 rfl ?_
                              refine r_iconst (v := nI 1) dX5_wear_152 rfl ?_
                              refine r_iload dX5_wear_153 rfl ?_
                              first | refine r_ishlN dX5_wear_155 (by omega) (by omega) ?_ | refine r_ishl dX5_wear_155 ?_
                              first | refine r_iorN dX5_wear_156 ?_ | refine r_ior dX5_wear_156 ?_
                              refine r_istore dX5_wear_157 rfl (by decide) ?_
                              first | refine r_iincN dX5_wear_159 rfl rfl (by decide) ?_ | refine r_iinc dX5_wear_159 rfl rfl rfl (by decide) ?_
                              first | refine r_iincN dX5_wear_162 rfl rfl (by decide) ?_ | refine r_iinc dX5_wear_162 rfl rfl rfl (by decide) ?_
                              refine r_goto (tgt := 81) dX5_wear_165 (by decide) ?_
                              refine r_lfor 12 ?_
                              have h9 := ihC (i + 1) (met ||| 1 * 2 ^ sd) (cnt + 1) false (by rw [if_neg (by decide)]; exact hv) hor (by omega) (by omega) (by omega)
                              rw [show zb (false = true) = nI 0 from rfl] at h9
                              exact h9
                            · rw [if_pos (show ftn (t 35) i sd = true ∧ met.testBit sd = false from ⟨c7, hbf⟩), map_add] at hv
                              refine r_iconst (v := nI 1) dX5_wear_143 rfl ?_
                              refine r_goto (tgt := 148) dX5_wear_144 (by decide) ?_
                              refine r_istore dX5_wear_148 rfl (by decide) ?_
                              refine r_iload dX5_wear_150 rfl ?_
                              refine r_iconst (v := nI 1) dX5_wear_152 rfl ?_
                              refine r_iload dX5_wear_153 rfl ?_
                              first | refine r_ishlN dX5_wear_155 (by omega) (by omega) ?_ | refine r_ishl dX5_wear_155 ?_
                              first | refine r_iorN dX5_wear_156 ?_ | refine r_ior dX5_wear_156 ?_
                              refine r_istore dX5_wear_157 rfl (by decide) ?_
                              first | refine r_iincN dX5_wear_159 rfl rfl (by decide) ?_ | refine r_iinc dX5_wear_159 rfl rfl rfl (by decide) ?_
                              first | refine r_iincN dX5_wear_162 rfl rfl (by decide) ?_ | refine r_iinc dX5_wear_162 rfl rfl rfl (by decide) ?_
                              refine r_goto (tgt := 81) dX5_wear_165 (by decide) ?_
                              refine r_lfor 12 ?_
                              have h9 := ihC (i + 1) (met ||| 1 * 2 ^ sd) (cnt + 1) true (by rw [if_pos rfl]; exact hv) hor (by omega) (by omega) (by omega)
                              rw [show zb (true = true) = nI 1 from rfl] at h9
                              exact h9
                have h9 := loopC (t 35 0 + 1) 0 0 0 true (by rw [if_pos rfl, Nat.sub_zero, Nat.mod_eq_of_lt (by omega)]; cases wval (t 35) (t 35 0) 0 0 k <;> rfl) (by decide) (Nat.le_refl _) (Nat.zero_le _) (by omega)
                rw [show zb (true = true) = nI 1 from rfl, Nat.sub_zero] at h9
                exact h9
          exact loopB (((t 35 1 + 1) ^ t 35 0) + 1) 0 (Nat.zero_le _) (by omega)
        · refine r_iload_n dX5_wear_39 rfl rfl ?_
          refine r_iload_n dX5_wear_40 rfl rfl ?_
          refine r_iconst (v := nI 1) dX5_wear_41 rfl ?_
          first | refine r_iaddN dX5_wear_42 ?_ | refine r_iadd dX5_wear_42 ?_
          first | refine r_imulN dX5_wear_43 ?_ | refine r_imul dX5_wear_43 ?_
          refine r_istore_n dX5_wear_44 rfl rfl (by decide) ?_
          first | refine r_iincN dX5_wear_45 rfl rfl (by decide) ?_ | refine r_iinc dX5_wear_45 rfl rfl rfl (by decide) ?_
          refine r_goto (tgt := 28) dX5_wear_48 (by decide) ?_
          have h9 := ihA (k + 1) (by omega) (by omega)
          rw [Nat.pow_succ] at h9
          exact h9
    exact loopA (t 35 0 + 1) 0 (Nat.zero_le _) (by omega)
  · have hx4 := c9
    refine r_aload_n dX5_wear_6 rfl rfl ?_
    refine r_iload_n dX5_wear_7 rfl rfl ?_
    refine r_cV1F mv_X5_isPerson ml_X5_93 (c5_isPerson l hR (by omega) _) dX5_wear_8 (Nat.le_of_ble_eq_true rfl) ⟨by decide, by decide⟩ ⟨by decide, by decide⟩ sh_34 rfl (fun _ h => nomatch h) ?_
    try dsimp only [zrst, List.cons_append, List.nil_append]
    first | refine r_if_neB (tgt := 16) dX5_wear_11 (by decide) (fun c1 => ?_) (fun c1 => ?_) | refine r_if_neN (tgt := 16) dX5_wear_11 (by decide) (by omega) (fun c1 => ?_) (fun c1 => ?_) | refine r_if_ne (tgt := 16) dX5_wear_11 (by decide) (fun c1 => ?_) (fun c1 => ?_)
    · have g1 : 0 ≤ x.toInt ∧ x.toInt < (t 35 0 : Int) := by omega
      obtain ⟨p, hp, rfl⟩ := arg_nat (n := t 35 0) (show 0 ≤ x.toInt ∧ x.toInt < ((t 35 0 : Nat) : Int) by omega)
      refine r_aload_n dX5_wear_16 rfl rfl ?_
      refine r_getR fl_X5_7 dX5_wear_17 sh_34 rfl ?_
      refine r_iconst (v := nI 1) dX5_wear_20 rfl ?_
      refine r_ialdN dX5_wear_21 sh_35 (by omega) (by decide) (hR.a35 _) ?_
      refine r_istore_n dX5_wear_22 rfl rfl (by decide) ?_
      refine r_iconst (v := nI 1) dX5_wear_23 rfl ?_
      refine r_istore_n dX5_wear_24 rfl rfl (by decide) ?_
      refine r_iconst (v := nI 0) dX5_wear_25 rfl ?_
      refine r_istore dX5_wear_26 rfl (by decide) ?_
      have loopA : ∀ (j k : Nat) , k ≤ t 35 0 → t 35 0 < k + j → RA l none (zR 5 0 0) yX5_wear cX5_wear 13 (some .int) (zF (some (.int (sp_wear (t 35) (nI p)))) (zSh ++ rw) M) 0 0 28 [some (.ref 34), some (.int (nI p)), some (.int (nI (t 35 1))), some (.int (nI ((t 35 1 + 1) ^ k))), some (.int (nI k)), none, none, none, none, none, none, none, none] [] (zSh ++ rw) M := by
        intro j
        induction j with
        | zero => intro k   hk hj; exact absurd hj (by omega)
        | succ j ihA =>
          intro k   hk hj
          refine r_iload dX5_wear_28 rfl ?_
          refine r_aload_n dX5_wear_30 rfl rfl ?_
          refine r_getR fl_X5_7 dX5_wear_31 sh_34 rfl ?_
          refine r_iconst (v := nI 0) dX5_wear_34 rfl ?_
          refine r_ialdN dX5_wear_35 sh_35 (by omega) (by decide) (hR.a35 _) ?_
          first | refine r_icmp_geN (tgt := 51) dX5_wear_36 (by decide) (by omega) (by omega) (fun c1 => ?_) (fun c1 => ?_) | refine r_icmp_ge (tgt := 51) dX5_wear_36 (by decide) (fun c1 => ?_) (fun c1 => ?_)
          · have eA : k = t 35 0 := by omega
            rw [eA]
            have hq5 := pow_le5 hb1 hb0
            refine r_iconst (v := nI 0) dX5_wear_51 rfl ?_
            refine r_istore dX5_wear_52 rfl (by decide) ?_
            refine r_iconst (v := (-1)) dX5_wear_54 rfl ?_
            refine r_istore dX5_wear_55 rfl (by decide) ?_
            refine r_iconst (v := nI 0) dX5_wear_57 rfl ?_
            refine r_istore dX5_wear_58 rfl (by decide) ?_
            have loopB : ∀ (j k : Nat), k ≤ ((t 35 1 + 1) ^ t 35 0) → ((t 35 1 + 1) ^ t 35 0) < k + j → RA l none (zR 5 0 0) yX5_wear cX5_wear 13 (some .int) (zF (some (.int (sp_wear (t 35) (nI p)))) (zSh ++ rw) M) 0 0 60 [some (.ref 34), some (.int (nI p)), some (.int (nI (t 35 1))), some (.int (nI ((t 35 1 + 1) ^ t 35 0))), some (.int (nI (rst (t 35) k).1)), some (.int (mv (rst (t 35) k).2)), some (.int (nI k)), none, none, none, none, none, none] [] (zSh ++ rw) M := by
              intro j
              induction j with
              | zero => intro k   hk hj; exact absurd hj (by omega)
              | succ j ihB =>
                intro k   hk hj
                refine r_iload dX5_wear_60 rfl ?_
                refine r_iload_n dX5_wear_62 rfl rfl ?_
                first | refine r_icmp_geN (tgt := 216) dX5_wear_63 (by decide) (by omega) (by omega) (fun c1 => ?_) (fun c1 => ?_) | refine r_icmp_ge (tgt := 216) dX5_wear_63 (by decide) (fun c1 => ?_) (fun c1 => ?_)
                · refine r_iload_n dX5_wear_216 rfl rfl ?_
                  refine r_bipush (v := (-4)) dX5_wear_217 rfl ?_
                  have eK : k = (t 35 1 + 1) ^ t 35 0 := by omega
                  subst eK
                  rw [rst_all]
                  refine r_icmp_ne (tgt := 225) dX5_wear_219 (by decide) (fun _ => ?_) (fun q9 => absurd q9 hx4)
                  refine r_iload_n dX5_wear_225 rfl rfl ?_
                  refine r_istore dX5_wear_226 rfl (by decide) ?_
                  refine r_iconst (v := nI 0) dX5_wear_228 rfl ?_
                  refine r_istore dX5_wear_229 rfl (by decide) ?_
                  have loopD : ∀ (j i : Nat), i ≤ (p + 1) → (p + 1) < i + j → RA l none (zR 5 0 0) yX5_wear cX5_wear 13 (some .int) (zF (some (.int (sp_wear (t 35) (nI p)))) (zSh ++ rw) M) 0 0 231 [some (.ref 34), some (.int (nI p)), some (.int (nI (t 35 1))), some (.int (nI ((t 35 1 + 1) ^ t 35 0))), some (.int (nI (gw (t 35) (t 35 0) 0 0))), some (.int (mv (some (mst (t 35) (t 35 0) 0 0)))), some (.int (nI ((t 35 1 + 1) ^ (t 35 0 - i)))), some (.int (nI i)), none, none, none, none, none] [] (zSh ++ rw) M := by
                    intro j
                    induction j with
                    | zero => intro i   hk hj; exact absurd hj (by omega)
                    | succ j ihD =>
                      intro i   hk hj
                      refine r_iload dX5_wear_231 rfl ?_
                      refine r_iload_n dX5_wear_233 rfl rfl ?_
                      first | refine r_icmp_gtN (tgt := 251) dX5_wear_234 (by decide) (by omega) (by omega) (fun c1 => ?_) (fun c1 => ?_) | refine r_icmp_gt (tgt := 251) dX5_wear_234 (by decide) (fun c1 => ?_) (fun c1 => ?_)
                      · have ei : i = p + 1 := by omega
                        subst ei
                        have hq1 := pow_le5 hb1 (show t 35 0 - (p + 1) ≤ 5 by omega)
                        have hq0 : 0 < (t 35 1 + 1) ^ (t 35 0 - (p + 1)) := Nat.pow_pos (by omega)
                        have hgl := gw_lt (t 35) (t 35 0) 0 0
                        have hq3 := pow_le5 hb1 hb0
                        have hdg := gw_digit (n := (t 35)) (i := p) hp
                        have hdl := Nat.div_le_self (gw (t 35) (t 35 0) 0 0) ((t 35 1 + 1) ^ (t 35 0 - (p + 1)))
                        refine r_iload dX5_wear_251 rfl ?_
                        refine r_iload dX5_wear_253 rfl ?_
                        refine r_idivN dX5_wear_255 (by omega) (by omega) (by omega) ?_
                        refine r_iload_n dX5_wear_256 rfl rfl ?_
                        refine r_iconst (v := nI 1) dX5_wear_257 rfl ?_
                        first | refine r_iaddN dX5_wear_258 ?_ | refine r_iadd dX5_wear_258 ?_
                        refine r_iremN dX5_wear_259 (by omega) (by omega) (by omega) ?_
                        refine r_top (v' := .int (nI (dg (t 35 1) (wn (t 35) (p + 1))))) (congrArg (fun z => Value.int (nI z)) hdg) ?_
                        refine r_istore dX5_wear_260 rfl (by decide) ?_
                        refine r_iload dX5_wear_262 rfl ?_
                        refine r_iload_n dX5_wear_264 rfl rfl ?_
                        have hcs := (cho_spec (t 35) (t 35 0 - p - 1) p (tkn (t 35) p)).1
                        change (match wn (t 35) (p + 1) with | none => _ | some s => _) at hcs
                        rcases hwn : wn (t 35) (p + 1) with _ | sx
                        · refine r_icmp_ne (tgt := 273) dX5_wear_265 (by decide) (fun q9 => absurd rfl q9) (fun _ => ?_)
                          refine r_bipush (v := (-4)) dX5_wear_268 rfl ?_
                          refine r_goto (tgt := 275) dX5_wear_270 (by decide) ?_
                          refine r_iret dX5_wear_275 rfl (by decide) (by decide) ?_
                          refine ⟨congrArg (fun x => some (Value.int x)) ?_, rfl, rfl⟩
                          rw [sp_wear, if_neg hx4, if_pos g1, tn_nI (show p < 2147483648 by omega), hwn]
                          try rfl
                        · rw [hwn] at hcs
                          have hsx := hcs.1
                          refine r_icmp_ne (tgt := 273) dX5_wear_265 (by decide) (fun _ => ?_) (fun q9 => absurd ((nI_eq (show dg (t 35 1) (some sx) < 2 ^ 31 from by show sx < 2 ^ 31; omega) (by omega)).mp q9) (show ¬ dg (t 35 1) (some sx) = t 35 1 from by show ¬ sx = t 35 1; omega))
                          refine r_iload dX5_wear_273 rfl ?_
                          refine r_iret dX5_wear_275 rfl (by decide) (by decide) ?_
                          refine ⟨congrArg (fun x => some (Value.int x)) ?_, rfl, rfl⟩
                          rw [sp_wear, if_neg hx4, if_pos g1, tn_nI (show p < 2147483648 by omega), hwn]
                          try rfl
                      · have hq1 := pow_le5 hb1 (show t 35 0 - i ≤ 5 by omega)
                        have hq2 : (t 35 1 + 1) ^ (t 35 0 - i) / (t 35 1 + 1) = (t 35 1 + 1) ^ (t 35 0 - (i + 1)) := by
                          rw [show t 35 0 - i = (t 35 0 - (i + 1)) + 1 by omega, Nat.pow_succ, Nat.mul_div_cancel _ (by omega)]
                        refine r_iload dX5_wear_237 rfl ?_
                        refine r_iload_n dX5_wear_239 rfl rfl ?_
                        refine r_iconst (v := nI 1) dX5_wear_240 rfl ?_
                        first | refine r_iaddN dX5_wear_241 ?_ | refine r_iadd dX5_wear_241 ?_
                        refine r_idivN dX5_wear_242 (by omega) (by omega) (by omega) ?_
                        rw [hq2]
                        refine r_istore dX5_wear_243 rfl (by decide) ?_
                        first | refine r_iincN dX5_wear_245 rfl rfl (by decide) ?_ | refine r_iinc dX5_wear_245 rfl rfl rfl (by decide) ?_
                        refine r_goto (tgt := 231) dX5_wear_248 (by decide) ?_
                        exact ihD (i + 1) (by omega) (by omega)
                  exact loopD ((p + 1) + 1) 0 (Nat.zero_le _) (by omega)
                · have hk9 := rst_1 (n := t 35) k
                  refine r_iload_n dX5_wear_66 rfl rfl ?_
                  refine r_istore dX5_wear_67 rfl (by decide) ?_
                  refine r_iconst (v := nI 0) dX5_wear_69 rfl ?_
                  refine r_istore dX5_wear_70 rfl (by decide) ?_
                  refine r_iconst (v := nI 0) dX5_wear_72 rfl ?_
                  refine r_istore dX5_wear_73 rfl (by decide) ?_
                  refine r_iconst (v := nI 1) dX5_wear_75 rfl ?_
                  refine r_istore dX5_wear_76 rfl (by decide) ?_
                  refine r_iconst (v := nI 0) dX5_wear_78 rfl ?_
                  refine r_istore dX5_wear_79 rfl (by decide) ?_
                  have h9C : True := trivial
                  have loopC : ∀ (j i : Nat) (met cnt : Nat) (mb : Bool) (hv : wval (t 35) (t 35 0) 0 0 k = if mb = true then (wval (t 35) (t 35 0 - i) i met (k % (t 35 1 + 1) ^ (t 35 0 - i))).map (· + cnt) else none) (hmet : met < 16) (hcnt : cnt ≤ i), i ≤ t 35 0 → t 35 0 < i + j → RA l none (zR 5 0 0) yX5_wear cX5_wear 13 (some .int) (zF (some (.int (sp_wear (t 35) (nI p)))) (zSh ++ rw) M) 0 0 81 [some (.ref 34), some (.int (nI p)), some (.int (nI (t 35 1))), some (.int (nI ((t 35 1 + 1) ^ t 35 0))), some (.int (nI (rst (t 35) k).1)), some (.int (mv (rst (t 35) k).2)), some (.int (nI k)), some (.int (nI ((t 35 1 + 1) ^ (t 35 0 - i)))), some (.int (nI met)), some (.int (nI cnt)), some (.int (zb (mb = true))), some (.int (nI i)), none] [] (zSh ++ rw) M := by
                    intro j
                    induction j with
                    | zero => intro i met cnt mb hv hmet hcnt hk hj; exact absurd hj (by omega)
                    | succ j ihC =>
                      intro i met cnt mb hv hmet hcnt hk hj
                      refine r_iload dX5_wear_81 rfl ?_
                      refine r_aload_n dX5_wear_83 rfl rfl ?_
                      refine r_getR fl_X5_7 dX5_wear_84 sh_34 rfl ?_
                      refine r_iconst (v := nI 0) dX5_wear_87 rfl ?_
                      refine r_ialdN dX5_wear_88 sh_35 (by omega) (by decide) (hR.a35 _) ?_
                      first | refine r_icmp_geN (tgt := 168) dX5_wear_89 (by decide) (by omega) (by omega) (fun c1 => ?_) (fun c1 => ?_) | refine r_icmp_ge (tgt := 168) dX5_wear_89 (by decide) (fun c1 => ?_) (fun c1 => ?_)
                      · have ei : i = t 35 0 := by omega
                        have hW0 : ¬ mb = true → wval (t 35) (t 35 0) 0 0 k = none := fun h => by rw [hv, if_neg h]
                        have hW1 : mb = true → wval (t 35) (t 35 0) 0 0 k = some cnt := fun h => by
                          rw [hv, if_pos h, ei, Nat.sub_self]
                          show some (0 + cnt) = some cnt
                          rw [Nat.zero_add]
                        refine r_iload dX5_wear_168 rfl ?_
                        refine r_if_eqB (tgt := 185) dX5_wear_170 (by decide) (fun c9 => ?_) (fun c9 => ?_)
                        · have hu := rst_no (n := (t 35)) (hW0 c9)
                          refine r_iload dX5_wear_185 rfl ?_
                          refine r_istore dX5_wear_187 rfl (by decide) ?_
                          refine r_iload dX5_wear_189 rfl ?_
                          refine r_if_eqB (tgt := 206) dX5_wear_191 (by decide) (fun _ => ?_) (fun q9 => absurd q9 c9)
                          refine r_iload dX5_wear_206 rfl ?_
                          refine r_istore dX5_wear_208 rfl (by decide) ?_
                          first | refine r_iincN dX5_wear_210 rfl rfl (by decide) ?_ | refine r_iinc dX5_wear_210 rfl rfl rfl (by decide) ?_
                          refine r_goto (tgt := 60) dX5_wear_213 (by decide) ?_
                          refine r_lfor 7 ?_
                          refine r_lfor 8 ?_
                          refine r_lfor 9 ?_
                          refine r_lfor 10 ?_
                          refine r_lfor 11 ?_
                          refine r_lfor 12 ?_
                          have h9 := ihB (k + 1) (by omega) (by omega)
                          rw [hu] at h9
                          exact h9
                        · have hWc := hW1 c9
                          refine r_iload dX5_wear_173 rfl ?_
                          refine r_iload dX5_wear_175 rfl ?_
                          rcases hm : (rst (t 35) k).2 with _ | x9
                          · have hu := rst_b (n := (t 35)) hWc (by rw [hm]; rfl)
                            refine r_icmp_le (tgt := 185) dX5_wear_177 (by decide) (fun q9 => absurd (i32_le.mp q9) (by rw [nI_toInt (by omega)]; show ¬ (cnt : Int) ≤ -1; omega)) (fun q8 => ?_)
                            refine r_iload dX5_wear_180 rfl ?_
                            refine r_goto (tgt := 187) dX5_wear_182 (by decide) ?_
                            refine r_istore dX5_wear_187 rfl (by decide) ?_
                            refine r_iload dX5_wear_189 rfl ?_
                            refine r_if_eqB (tgt := 206) dX5_wear_191 (by decide) (fun q9 => absurd c9 q9) (fun _ => ?_)
                            refine r_iload dX5_wear_194 rfl ?_
                            refine r_iload dX5_wear_196 rfl ?_
                            refine r_icmp_le (tgt := 206) dX5_wear_198 (by decide) (fun q9 => absurd q9 q8) (fun _ => ?_)
                            refine r_iload dX5_wear_201 rfl ?_
                            refine r_goto (tgt := 208) dX5_wear_203 (by decide) ?_
                            refine r_istore dX5_wear_208 rfl (by decide) ?_
                            first | refine r_iincN dX5_wear_210 rfl rfl (by decide) ?_ | refine r_iinc dX5_wear_210 rfl rfl rfl (by decide) ?_
                            refine r_goto (tgt := 60) dX5_wear_213 (by decide) ?_
                            refine r_lfor 7 ?_
                            refine r_lfor 8 ?_
                            refine r_lfor 9 ?_
                            refine r_lfor 10 ?_
                            refine r_lfor 11 ?_
                            refine r_lfor 12 ?_
                            have h9 := ihB (k + 1) (by omega) (by omega)
                            rw [hu] at h9
                            exact h9
                          · have hx9 := rst_le k hm
                            refine r_icmp_leN (tgt := 185) dX5_wear_177 (by decide) (by omega) (by omega) (fun c8 => ?_) (fun c8 => ?_)
                            · have hu := rst_nb (n := (t 35)) hWc (by rw [hm]; exact fun q => by have := of_decide_eq_true q; omega)
                              refine r_iload dX5_wear_185 rfl ?_
                              refine r_istore dX5_wear_187 rfl (by decide) ?_
                              refine r_iload dX5_wear_189 rfl ?_
                              refine r_if_eqB (tgt := 206) dX5_wear_191 (by decide) (fun q9 => absurd c9 q9) (fun _ => ?_)
                              refine r_iload dX5_wear_194 rfl ?_
                              refine r_iload dX5_wear_196 rfl ?_
                              refine r_icmp_leN (tgt := 206) dX5_wear_198 (by decide) (by omega) (by omega) (fun _ => ?_) (fun q9 => absurd q9 (by omega))
                              refine r_iload dX5_wear_206 rfl ?_
                              refine r_istore dX5_wear_208 rfl (by decide) ?_
                              first | refine r_iincN dX5_wear_210 rfl rfl (by decide) ?_ | refine r_iinc dX5_wear_210 rfl rfl rfl (by decide) ?_
                              refine r_goto (tgt := 60) dX5_wear_213 (by decide) ?_
                              refine r_lfor 7 ?_
                              refine r_lfor 8 ?_
                              refine r_lfor 9 ?_
                              refine r_lfor 10 ?_
                              refine r_lfor 11 ?_
                              refine r_lfor 12 ?_
                              have h9 := ihB (k + 1) (by omega) (by omega)
                              rw [hu, hm] at h9
                              exact h9
                            · have hu := rst_b (n := (t 35)) hWc (by rw [hm]; exact decide_eq_true c8)
                              refine r_iload dX5_wear_180 rfl ?_
                              refine r_goto (tgt := 187) dX5_wear_182 (by decide) ?_
                              refine r_istore dX5_wear_187 rfl (by decide) ?_
                              refine r_iload dX5_wear_189 rfl ?_
                              refine r_if_eqB (tgt := 206) dX5_wear_191 (by decide) (fun q9 => absurd c9 q9) (fun _ => ?_)
                              refine r_iload dX5_wear_194 rfl ?_
                              refine r_iload dX5_wear_196 rfl ?_
                              refine r_icmp_leN (tgt := 206) dX5_wear_198 (by decide) (by omega) (by omega) (fun q9 => absurd q9 (by omega)) (fun _ => ?_)
                              refine r_iload dX5_wear_201 rfl ?_
                              refine r_goto (tgt := 208) dX5_wear_203 (by decide) ?_
                              refine r_istore dX5_wear_208 rfl (by decide) ?_
                              first | refine r_iincN dX5_wear_210 rfl rfl (by decide) ?_ | refine r_iinc dX5_wear_210 rfl rfl rfl (by decide) ?_
                              refine r_goto (tgt := 60) dX5_wear_213 (by decide) ?_
                              refine r_lfor 7 ?_
                              refine r_lfor 8 ?_
                              refine r_lfor 9 ?_
                              refine r_lfor 10 ?_
                              refine r_lfor 11 ?_
                              refine r_lfor 12 ?_
                              have h9 := ihB (k + 1) (by omega) (by omega)
                              rw [hu] at h9
                              exact h9
                      · refine r_iload dX5_wear_92 rfl ?_
                        refine r_if_eqB (tgt := 168) dX5_wear_94 (by decide) (fun c9 => ?_) (fun c9 => ?_)
                        · have hW0 : ¬ mb = true → wval (t 35) (t 35 0) 0 0 k = none := fun h => by rw [hv, if_neg h]
                          have hW1 : mb = true → wval (t 35) (t 35 0) 0 0 k = some cnt := fun h => absurd h c9
                          refine r_iload dX5_wear_168 rfl ?_
                          refine r_if_eqB (tgt := 185) dX5_wear_170 (by decide) (fun c9 => ?_) (fun c9 => ?_)
                          · have hu := rst_no (n := (t 35)) (hW0 c9)
                            refine r_iload dX5_wear_185 rfl ?_
                            refine r_istore dX5_wear_187 rfl (by decide) ?_
                            refine r_iload dX5_wear_189 rfl ?_
                            refine r_if_eqB (tgt := 206) dX5_wear_191 (by decide) (fun _ => ?_) (fun q9 => absurd q9 c9)
                            refine r_iload dX5_wear_206 rfl ?_
                            refine r_istore dX5_wear_208 rfl (by decide) ?_
                            first | refine r_iincN dX5_wear_210 rfl rfl (by decide) ?_ | refine r_iinc dX5_wear_210 rfl rfl rfl (by decide) ?_
                            refine r_goto (tgt := 60) dX5_wear_213 (by decide) ?_
                            refine r_lfor 7 ?_
                            refine r_lfor 8 ?_
                            refine r_lfor 9 ?_
                            refine r_lfor 10 ?_
                            refine r_lfor 11 ?_
                            refine r_lfor 12 ?_
                            have h9 := ihB (k + 1) (by omega) (by omega)
                            rw [hu] at h9
                            exact h9
                          · have hWc := hW1 c9
                            refine r_iload dX5_wear_173 rfl ?_
                            refine r_iload dX5_wear_175 rfl ?_
                            rcases hm : (rst (t 35) k).2 with _ | x9
                            · have hu := rst_b (n := (t 35)) hWc (by rw [hm]; rfl)
                              refine r_icmp_le (tgt := 185) dX5_wear_177 (by decide) (fun q9 => absurd (i32_le.mp q9) (by rw [nI_toInt (by omega)]; show ¬ (cnt : Int) ≤ -1; omega)) (fun q8 => ?_)
                              refine r_iload dX5_wear_180 rfl ?_
                              refine r_goto (tgt := 187) dX5_wear_182 (by decide) ?_
                              refine r_istore dX5_wear_187 rfl (by decide) ?_
                              refine r_iload dX5_wear_189 rfl ?_
                              refine r_if_eqB (tgt := 206) dX5_wear_191 (by decide) (fun q9 => absurd c9 q9) (fun _ => ?_)
                              refine r_iload dX5_wear_194 rfl ?_
                              refine r_iload dX5_wear_196 rfl ?_
                              refine r_icmp_le (tgt := 206) dX5_wear_198 (by decide) (fun q9 => absurd q9 q8) (fun _ => ?_)
                              refine r_iload dX5_wear_201 rfl ?_
                              refine r_goto (tgt := 208) dX5_wear_203 (by decide) ?_
                              refine r_istore dX5_wear_208 rfl (by decide) ?_
                              first | refine r_iincN dX5_wear_210 rfl rfl (by decide) ?_ | refine r_iinc dX5_wear_210 rfl rfl rfl (by decide) ?_
                              refine r_goto (tgt := 60) dX5_wear_213 (by decide) ?_
                              refine r_lfor 7 ?_
                              refine r_lfor 8 ?_
                              refine r_lfor 9 ?_
                              refine r_lfor 10 ?_
                              refine r_lfor 11 ?_
                              refine r_lfor 12 ?_
                              have h9 := ihB (k + 1) (by omega) (by omega)
                              rw [hu] at h9
                              exact h9
                            · have hx9 := rst_le k hm
                              refine r_icmp_leN (tgt := 185) dX5_wear_177 (by decide) (by omega) (by omega) (fun c8 => ?_) (fun c8 => ?_)
                              · have hu := rst_nb (n := (t 35)) hWc (by rw [hm]; exact fun q => by have := of_decide_eq_true q; omega)
                                refine r_iload dX5_wear_185 rfl ?_
                                refine r_istore dX5_wear_187 rfl (by decide) ?_
                                refine r_iload dX5_wear_189 rfl ?_
                                refine r_if_eqB (tgt := 206) dX5_wear_191 (by decide) (fun q9 => absurd c9 q9) (fun _ => ?_)
                                refine r_iload dX5_wear_194 rfl ?_
                                refine r_iload dX5_wear_196 rfl ?_
                                refine r_icmp_leN (tgt := 206) dX5_wear_198 (by decide) (by omega) (by omega) (fun _ => ?_) (fun q9 => absurd q9 (by omega))
                                refine r_iload dX5_wear_206 rfl ?_
                                refine r_istore dX5_wear_208 rfl (by decide) ?_
                                first | refine r_iincN dX5_wear_210 rfl rfl (by decide) ?_ | refine r_iinc dX5_wear_210 rfl rfl rfl (by decide) ?_
                                refine r_goto (tgt := 60) dX5_wear_213 (by decide) ?_
                                refine r_lfor 7 ?_
                                refine r_lfor 8 ?_
                                refine r_lfor 9 ?_
                                refine r_lfor 10 ?_
                                refine r_lfor 11 ?_
                                refine r_lfor 12 ?_
                                have h9 := ihB (k + 1) (by omega) (by omega)
                                rw [hu, hm] at h9
                                exact h9
                              · have hu := rst_b (n := (t 35)) hWc (by rw [hm]; exact decide_eq_true c8)
                                refine r_iload dX5_wear_180 rfl ?_
                                refine r_goto (tgt := 187) dX5_wear_182 (by decide) ?_
                                refine r_istore dX5_wear_187 rfl (by decide) ?_
                                refine r_iload dX5_wear_189 rfl ?_
                                refine r_if_eqB (tgt := 206) dX5_wear_191 (by decide) (fun q9 => absurd c9 q9) (fun _ => ?_)
                                refine r_iload dX5_wear_194 rfl ?_
                                refine r_iload dX5_wear_196 rfl ?_
                                refine r_icmp_leN (tgt := 206) dX5_wear_198 (by decide) (by omega) (by omega) (fun q9 => absurd q9 (by omega)) (fun _ => ?_)
                                refine r_iload dX5_wear_201 rfl ?_
                                refine r_goto (tgt := 208) dX5_wear_203 (by decide) ?_
                                refine r_istore dX5_wear_208 rfl (by decide) ?_
                                first | refine r_iincN dX5_wear_210 rfl rfl (by decide) ?_ | refine r_iinc dX5_wear_210 rfl rfl rfl (by decide) ?_
                                refine r_goto (tgt := 60) dX5_wear_213 (by decide) ?_
                                refine r_lfor 7 ?_
                                refine r_lfor 8 ?_
                                refine r_lfor 9 ?_
                                refine r_lfor 10 ?_
                                refine r_lfor 11 ?_
                                refine r_lfor 12 ?_
                                have h9 := ihB (k + 1) (by omega) (by omega)
                                rw [hu] at h9
                                exact h9
                        · subst c9
                          rw [if_pos rfl] at hv
                          have er : t 35 0 - i = (t 35 0 - i - 1) + 1 := by omega
                          have hq1 := pow_le5 hb1 (show t 35 0 - i ≤ 5 by omega)
                          have hq4 := pow_le5 hb1 (show t 35 0 - i - 1 ≤ 5 by omega)
                          have hq0 : 0 < (t 35 1 + 1) ^ (t 35 0 - i - 1) := Nat.pow_pos (by omega)
                          have hq2 : (t 35 1 + 1) ^ (t 35 0 - i) / (t 35 1 + 1) = (t 35 1 + 1) ^ (t 35 0 - i - 1) := by
                            rw [er, Nat.pow_succ, Nat.mul_div_cancel _ (by omega)]
                            rfl
                          have hdl := Nat.div_le_self k ((t 35 1 + 1) ^ (t 35 0 - i - 1))
                          have hst := wv_step (n := (t 35)) (r := t 35 0 - i - 1) (i := i) (met := met) (k := k)
                          rw [← er] at hst
                          rw [hst] at hv
                          have hsl : (k / (t 35 1 + 1) ^ (t 35 0 - i - 1) % (t 35 1 + 1)) < (t 35 1 + 1) := Nat.mod_lt _ (by omega)
                          refine r_iload dX5_wear_97 rfl ?_
                          refine r_iload_n dX5_wear_99 rfl rfl ?_
                          refine r_iconst (v := nI 1) dX5_wear_100 rfl ?_
                          first | refine r_iaddN dX5_wear_101 ?_ | refine r_iadd dX5_wear_101 ?_
                          refine r_idivN dX5_wear_102 (by omega) (by omega) (by omega) ?_
                          rw [hq2]
                          refine r_istore dX5_wear_103 rfl (by decide) ?_
                          refine r_iload dX5_wear_105 rfl ?_
                          refine r_iload dX5_wear_107 rfl ?_
                          refine r_idivN dX5_wear_109 (by omega) (by omega) (by omega) ?_
                          refine r_iload_n dX5_wear_110 rfl rfl ?_
                          refine r_iconst (v := nI 1) dX5_wear_111 rfl ?_
                          first | refine r_iaddN dX5_wear_112 ?_ | refine r_iadd dX5_wear_112 ?_
                          refine r_iremN dX5_wear_113 (by omega) (by omega) (by omega) ?_
                          refine r_istore dX5_wear_114 rfl (by decide) ?_
                          refine r_iload dX5_wear_116 rfl ?_
                          refine r_iload_n dX5_wear_118 rfl rfl ?_
                          generalize hsd : (k / (t 35 1 + 1) ^ (t 35 0 - i - 1) % (t 35 1 + 1)) = sd at hv hsl ⊢
                          refine r_icmp_geN (tgt := 162) dX5_wear_119 (by decide) (by omega) (by omega) (fun c9 => ?_) (fun c9 => ?_)
                          · rw [if_neg (by omega)] at hv
                            first | refine r_iincN dX5_wear_162 rfl rfl (by decide) ?_ | refine r_iinc dX5_wear_162 rfl rfl rfl (by decide) ?_
                            refine r_goto (tgt := 81) dX5_wear_165 (by decide) ?_
                            refine r_lfor 12 ?_
                            exact ihC (i + 1) met cnt true (by rw [if_pos rfl]; exact hv) hmet (by omega) (by omega) (by omega)
                          · rw [if_pos c9] at hv
                            have hpk := pw_le (show sd ≤ 10 by omega)
                            have hor : met ||| 1 * 2 ^ sd < 16 := or_lt (k := 4) hmet (pw_lt (by omega))
                            refine r_iload dX5_wear_122 rfl ?_
                            refine r_iload dX5_wear_124 rfl ?_
                            first | refine r_ishrN dX5_wear_126 (by omega) (by omega) ?_ | refine r_ishr dX5_wear_126 ?_
                            refine r_iconst (v := nI 1) dX5_wear_127 rfl ?_
                            first | refine r_iandN dX5_wear_128 ?_ | refine r_iand dX5_wear_128 ?_
                            rw [bit1]
                            have hbt : (if met.testBit sd = true then 1 else 0) < 2 := by split <;> decide
                            refine r_if_neN (tgt := 147) dX5_wear_129 (by decide) (by omega) (fun c8 => ?_) (fun c8 => ?_)
                            · rw [if_neg (fun h => c8 (by rw [h.2]; rfl))] at hv
                              refine r_iconst (v := nI 0) dX5_wear_147 rfl ?_
                              refine r_istore dX5_wear_148 rfl (by decide) ?_
                              refine r_iload dX5_wear_150 rfl ?_
                              refine r_iconst (v := nI 1) dX5_wear_152 rfl ?_
                              refine r_iload dX5_wear_153 rfl ?_
                              first | refine r_ishlN dX5_wear_155 (by omega) (by omega) ?_ | refine r_ishl dX5_wear_155 ?_
                              first | refine r_iorN dX5_wear_156 ?_ | refine r_ior dX5_wear_156 ?_
                              refine r_istore dX5_wear_157 rfl (by decide) ?_
                              first | refine r_iincN dX5_wear_159 rfl rfl (by decide) ?_ | refine r_iinc dX5_wear_159 rfl rfl rfl (by decide) ?_
                              first | refine r_iincN dX5_wear_162 rfl rfl (by decide) ?_ | refine r_iinc dX5_wear_162 rfl rfl rfl (by decide) ?_
                              refine r_goto (tgt := 81) dX5_wear_165 (by decide) ?_
                              refine r_lfor 12 ?_
                              have h9 := ihC (i + 1) (met ||| 1 * 2 ^ sd) (cnt + 1) false (by rw [if_neg (by decide)]; exact hv) hor (by omega) (by omega) (by omega)
                              rw [show zb (false = true) = nI 0 from rfl] at h9
                              exact h9
                            · have hbf : met.testBit sd = false := by
                                cases hb : met.testBit sd with
                                | false => rfl
                                | true => rw [hb] at c8; exact absurd c8 (by decide)
                              refine r_aload_n dX5_wear_132 rfl rfl ?_
                              refine r_iload dX5_wear_133 rfl ?_
                              refine r_iload dX5_wear_135 rfl ?_
                              refine r_cV2F mv_X5_fitsNow ml_X5_121 (c5_fitsNow l hR hn (by omega) (by omega)) dX5_wear_137 (Nat.le_of_ble_eq_true rfl) ⟨by decide, by decide⟩ ⟨by decide, by decide⟩ sh_34 rfl (fun _ h => nomatch h) ?_
                              try dsimp only [zrst, List.cons_append, List.nil_append]
                              refine r_if_eqB (tgt := 147) dX5_wear_140 (by decide) (fun c7 => ?_) (fun c7 => ?_)
                              · rw [if_neg (fun h => c7 h.1)] at hv
                                refine r_iconst (v := nI 0) dX5_wear_147 rfl ?_
                                refine r_istore dX5_wear_148 rfl (by decide) ?_
                                refine r_iload dX5_wear_150 rfl ?_
                                refine r_iconst (v := nI 1) dX5_wear_152 rfl ?_
                                refine r_iload dX5_wear_153 rfl ?_
                                first | refine r_ishlN dX5_wear_155 (by omega) (by omega) ?_ | refine r_ishl dX5_wear_155 ?_
                                first | refine r_iorN dX5_wear_156 ?_ | refine r_ior dX5_wear_156 ?_
                                refine r_istore dX5_wear_157 rfl (by decide) ?_
                                first | refine r_iincN dX5_wear_159 rfl rfl (by decide) ?_ | refine r_iinc dX5_wear_159 rfl rfl rfl (by decide) ?_
                                first | refine r_iincN dX5_wear_162 rfl rfl (by decide) ?_ | refine r_iinc dX5_wear_162 rfl rfl rfl (by decide) ?_
                                refine r_goto (tgt := 81) dX5_wear_165 (by decide) ?_
                                refine r_lfor 12 ?_
                                have h9 := ihC (i + 1) (met ||| 1 * 2 ^ sd) (cnt + 1) false (by rw [if_neg (by decide)]; exact hv) hor (by omega) (by omega) (by omega)
                                rw [show zb (false = true) = nI 0 from rfl] at h9
                                exact h9
                              · rw [if_pos (show ftn (t 35) i sd = true ∧ met.testBit sd = false from ⟨c7, hbf⟩), map_add] at hv
                                refine r_iconst (v := nI 1) dX5_wear_143 rfl ?_
                                refine r_goto (tgt := 148) dX5_wear_144 (by decide) ?_
                                refine r_istore dX5_wear_148 rfl (by decide) ?_
                                refine r_iload dX5_wear_150 rfl ?_
                                refine r_iconst (v := nI 1) dX5_wear_152 rfl ?_
                                refine r_iload dX5_wear_153 rfl ?_
                                first | refine r_ishlN dX5_wear_155 (by omega) (by omega) ?_ | refine r_ishl dX5_wear_155 ?_
                                first | refine r_iorN dX5_wear_156 ?_ | refine r_ior dX5_wear_156 ?_
                                refine r_istore dX5_wear_157 rfl (by decide) ?_
                                first | refine r_iincN dX5_wear_159 rfl rfl (by decide) ?_ | refine r_iinc dX5_wear_159 rfl rfl rfl (by decide) ?_
                                first | refine r_iincN dX5_wear_162 rfl rfl (by decide) ?_ | refine r_iinc dX5_wear_162 rfl rfl rfl (by decide) ?_
                                refine r_goto (tgt := 81) dX5_wear_165 (by decide) ?_
                                refine r_lfor 12 ?_
                                have h9 := ihC (i + 1) (met ||| 1 * 2 ^ sd) (cnt + 1) true (by rw [if_pos rfl]; exact hv) hor (by omega) (by omega) (by omega)
                                rw [show zb (true = true) = nI 1 from rfl] at h9
                                exact h9
                  have h9 := loopC (t 35 0 + 1) 0 0 0 true (by rw [if_pos rfl, Nat.sub_zero, Nat.mod_eq_of_lt (by omega)]; cases wval (t 35) (t 35 0) 0 0 k <;> rfl) (by decide) (Nat.le_refl _) (Nat.zero_le _) (by omega)
                  rw [show zb (true = true) = nI 1 from rfl, Nat.sub_zero] at h9
                  exact h9
            exact loopB (((t 35 1 + 1) ^ t 35 0) + 1) 0 (Nat.zero_le _) (by omega)
          · refine r_iload_n dX5_wear_39 rfl rfl ?_
            refine r_iload_n dX5_wear_40 rfl rfl ?_
            refine r_iconst (v := nI 1) dX5_wear_41 rfl ?_
            first | refine r_iaddN dX5_wear_42 ?_ | refine r_iadd dX5_wear_42 ?_
            first | refine r_imulN dX5_wear_43 ?_ | refine r_imul dX5_wear_43 ?_
            refine r_istore_n dX5_wear_44 rfl rfl (by decide) ?_
            first | refine r_iincN dX5_wear_45 rfl rfl (by decide) ?_ | refine r_iinc dX5_wear_45 rfl rfl rfl (by decide) ?_
            refine r_goto (tgt := 28) dX5_wear_48 (by decide) ?_
            have h9 := ihA (k + 1) (by omega) (by omega)
            rw [Nat.pow_succ] at h9
            exact h9
      exact loopA (t 35 0 + 1) 0 (Nat.zero_le _) (by omega)
    · have b1 : ¬ (0 ≤ x.toInt ∧ x.toInt < (t 35 0 : Int)) := by omega
      refine r_iconst (v := (-1)) dX5_wear_14 rfl ?_
      refine r_iret dX5_wear_15 rfl (by decide) (by decide) ?_
      refine ⟨congrArg (fun x => some (Value.int x)) ?_, rfl, rfl⟩
      rw [sp_wear, if_neg hx4, if_neg b1]

