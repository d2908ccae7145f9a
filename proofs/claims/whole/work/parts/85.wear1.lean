/-- the suits that fit one -/
def fb (n : Nat → Nat) (p : Nat) : Nat → Nat
  | 0 => 0
  | k + 1 => if ftn n p k = true then fb n p k ||| 1 * 2 ^ k else fb n p k
theorem fb_lt {n : Nat → Nat} {p : Nat} : ∀ K, fb n p K < 2 ^ K
  | 0 => by simp [fb]
  | K + 1 => by
    have ih := fb_lt (n := n) (p := p) K
    have h2 : 2 ^ K < 2 ^ (K + 1) := by rw [Nat.pow_succ]; have := Nat.two_pow_pos K; omega
    rw [fb]
    split
    · rw [Nat.one_mul]; exact or_lt (Nat.lt_trans ih h2) h2
    · exact Nat.lt_trans ih h2
theorem fb_bit {n : Nat → Nat} {p s : Nat} : ∀ K, (fb n p K).testBit s = (decide (s < K) && ftn n p s)
  | 0 => by simp [fb]
  | K + 1 => by
    have ih := fb_bit (n := n) (p := p) (s := s) K
    rw [fb]
    by_cases e : s = K
    · subst e
      by_cases h : ftn n p s = true
      · rw [if_pos h, Nat.one_mul, Nat.testBit_or, ih, Nat.testBit_two_pow_self, h]
        simp
      · rw [if_neg h, ih]
        simp at h
        simp [h]
    · have h1 : decide (s < K + 1) = decide (s < K) := by
        have : s < K + 1 ↔ s < K := by omega
        simp [this]
      rw [h1, ← ih]
      by_cases h : ftn n p K = true
      · rw [if_pos h, Nat.one_mul, Nat.testBit_or, Nat.testBit_two_pow_of_ne (fun q => e q.symm), Bool.or_false]
      · rw [if_neg h]
theorem free_bit {n : Nat → Nat} {p s tk K : Nat} (hs : s < K) (h10 : K ≤ 10) : ((fb n p K) &&& (1023 ^^^ tk)).testBit s = true ↔ ftn n p s = true ∧ tk.testBit s = false := by
  rw [Nat.testBit_and, fb_bit, Nat.testBit_xor, bit1023, decide_eq_true hs, decide_eq_true (show s < 10 by omega)]
  cases ftn n p s <;> cases tk.testBit s <;> decide
theorem maxN {a b : Nat} (ha : a < 2147483648) (hb : b < 2147483648) : (if nI a < nI b then nI b else nI a) = nI (if a < b then b else a) := by
  by_cases h : a < b
  · rw [if_pos ((nI_ltI ha hb).mpr h), if_pos h]
  · rw [if_neg (fun q => h ((nI_ltI ha hb).mp q)), if_neg h]
theorem mxs_no {f : Nat → Bool} {g : Nat → Nat} {tk k : Nat} (h : ¬ (f k = true ∧ tk.testBit k = false)) : mxs f g tk (k + 1) = mxs f g tk k := by rw [mxs, if_neg h]
theorem mxs_yes {f : Nat → Bool} {g : Nat → Nat} {tk k : Nat} (h : f k = true ∧ tk.testBit k = false) : mxs f g tk (k + 1) = if mxs f g tk k < 1 + g (tk ||| 1 * 2 ^ k) then 1 + g (tk ||| 1 * 2 ^ k) else mxs f g tk k := by rw [mxs, if_pos h]
theorem mxs_le {f : Nat → Bool} {g : Nat → Nat} {tk c : Nat} (hg : ∀ t, g t ≤ c) : ∀ K, mxs f g tk K ≤ c + 1
  | 0 => Nat.le_succ_of_le (hg tk)
  | K + 1 => by
    have ih := mxs_le (f := f) (tk := tk) hg K
    have := hg (tk ||| 1 * 2 ^ K)
    rw [mxs]
    (repeat' split) <;> omega
theorem fch_t {f : Nat → Bool} {g : Nat → Nat} {tk v N k : Nat} (hk : k < N) (h : f k = true ∧ tk.testBit k = false ∧ 1 + g (tk ||| 1 * 2 ^ k) = v) : fch f g tk v (N - k) k = some k := by
  rw [show N - k = (N - (k + 1)) + 1 by omega, fch, if_pos h]
theorem fch_f {f : Nat → Bool} {g : Nat → Nat} {tk v N k : Nat} (hk : k < N) (h : ¬ (f k = true ∧ tk.testBit k = false ∧ 1 + g (tk ||| 1 * 2 ^ k) = v)) : fch f g tk v (N - k) k = fch f g tk v (N - (k + 1)) (k + 1) := by
  rw [show N - k = (N - (k + 1)) + 1 by omega, fch, if_neg h]
set_option maxHeartbeats 4000000 in
set_option maxRecDepth 100000 in
theorem c0_isFree (l : Launch) {rw : List zC} {M : zM} {n : Nat → Nat} {p s tk : Nat} (h4 : n 1 ≤ 4) (hp : p < 5) (hs : s < n 1) (hf : M.1 29 p = nI (fb n p (n 1))) : CT l false 0 0 0 yX0_isFree cX0_isFree 4 (some .boolean) [.ref 24, .int (nI p), .int (nI s), .int (nI tk)] (zSh ++ rw) M (zF (some (.int (zb (ftn n p s = true ∧ tk.testBit s = false)))) (zSh ++ rw) M) := by
  refine CT.ofN (by decide) (fun _ _ => Nat.le_of_ble_eq_true rfl) ?_
  have hlt := fb_lt (n := n) (p := p) (n 1)
  have hp4 := pw_le h4
  have hfr := free_bit (n := n) (p := p) (s := s) (tk := tk) (K := n 1) hs (by omega)
  refine r_aload_n dX0_isFree_0 rfl rfl ?_
  refine r_getR fl_X0_24 dX0_isFree_1 sh_24 rfl ?_
  refine r_iload_n dX0_isFree_4 rfl rfl ?_
  refine r_ialdN dX0_isFree_5 sh_29 (by omega) (by decide) hf ?_
  refine r_iload_n dX0_isFree_6 rfl rfl ?_
  refine r_iconst (v := (-1)) dX0_isFree_7 rfl ?_
  refine r_ixor dX0_isFree_8 ?_
  refine r_iand dX0_isFree_9 ?_
  rw [nand_may (Nat.lt_of_lt_of_le hlt (pw_le (show n 1 ≤ 10 by omega)))]
  have hle : fb n p (n 1) &&& (1023 ^^^ tk) ≤ fb n p (n 1) := Nat.and_le_left
  refine r_iload_n dX0_isFree_10 rfl rfl ?_
  first | refine r_ishrN dX0_isFree_11 (by omega) (by omega) ?_ | refine r_ishr dX0_isFree_11 ?_
  refine r_iconst (v := nI 1) dX0_isFree_12 rfl ?_
  first | refine r_iandN dX0_isFree_13 ?_ | refine r_iand dX0_isFree_13 ?_
  rw [bit1]
  have hbt : (if (fb n p (n 1) &&& (1023 ^^^ tk)).testBit s = true then 1 else 0) < 2 := by split <;> decide
  refine r_iconst (v := nI 1) dX0_isFree_14 rfl ?_
  first | refine r_icmp_neN (tgt := 22) dX0_isFree_15 (by decide) (by omega) (by omega) (fun c1 => ?_) (fun c1 => ?_) | refine r_icmp_ne (tgt := 22) dX0_isFree_15 (by decide) (fun c1 => ?_) (fun c1 => ?_)
  · have hno : ¬ (ftn n p s = true ∧ tk.testBit s = false) := fun h => c1 (if_pos (hfr.mpr h))
    refine r_iconst (v := nI 0) dX0_isFree_22 rfl ?_
    refine r_zret dX0_isFree_23 rfl (by first | exact Or.inl rfl | exact Or.inr rfl | exact zb01) (by decide) (by decide) ?_
    refine ⟨congrArg (fun x => some (Value.int x)) ?_, rfl, rfl⟩
    first | exact (zb_f1 hno).symm | exact (zb_t1 hyes).symm
  · have hyes : ftn n p s = true ∧ tk.testBit s = false := by
      by_cases h : (fb n p (n 1) &&& (1023 ^^^ tk)).testBit s = true
      · exact hfr.mp h
      · rw [if_neg h] at c1; exact absurd c1 (by decide)
    refine r_iconst (v := nI 1) dX0_isFree_18 rfl ?_
    refine r_goto (tgt := 23) dX0_isFree_19 (by decide) ?_
    refine r_zret dX0_isFree_23 rfl (by first | exact Or.inl rfl | exact Or.inr rfl | exact zb01) (by decide) (by decide) ?_
    refine ⟨congrArg (fun x => some (Value.int x)) ?_, rfl, rfl⟩
    first | exact (zb_f1 hno).symm | exact (zb_t1 hyes).symm

set_option maxHeartbeats 4000000 in
set_option maxRecDepth 100000 in
theorem c0_mostWith (l : Launch) {rw : List zC} {M : zM} {p s tk : Nat} (hp : p < 5) (hs : s < 4) (htk : tk < 16) (g : Nat → Nat) (hg : ∀ t, t < 16 → M.1 30 ((p + 1) * 16 + t) = nI (g t)) (hgb : ∀ t, g t ≤ 10) : CT l false 0 0 0 yX0_mostWith cX0_mostWith 4 (some .int) [.ref 24, .int (nI p), .int (nI s), .int (nI tk)] (zSh ++ rw) M (zF (some (.int (nI (1 + g (tk ||| 1 * 2 ^ s))))) (zSh ++ rw) M) := by
  refine CT.ofN (by decide) (fun _ _ => Nat.le_of_ble_eq_true rfl) ?_
  have hor : tk ||| 1 * 2 ^ s < 16 := or_lt (k := 4) htk (pw_lt hs)
  have hpk := pw_le (show s ≤ 4 by omega)
  refine r_iconst (v := nI 1) dX0_mostWith_0 rfl ?_
  refine r_aload_n dX0_mostWith_1 rfl rfl ?_
  refine r_getR fl_X0_27 dX0_mostWith_2 sh_24 rfl ?_
  refine r_iload_n dX0_mostWith_5 rfl rfl ?_
  refine r_iconst (v := nI 1) dX0_mostWith_6 rfl ?_
  first | refine r_iaddN dX0_mostWith_7 ?_ | refine r_iadd dX0_mostWith_7 ?_
  refine r_bipush (v := nI 16) dX0_mostWith_8 rfl ?_
  first | refine r_imulN dX0_mostWith_10 ?_ | refine r_imul dX0_mostWith_10 ?_
  refine r_iload_n dX0_mostWith_11 rfl rfl ?_
  refine r_iconst (v := nI 1) dX0_mostWith_12 rfl ?_
  refine r_iload_n dX0_mostWith_13 rfl rfl ?_
  first | refine r_ishlN dX0_mostWith_14 (by omega) (by omega) ?_ | refine r_ishl dX0_mostWith_14 ?_
  first | refine r_iorN dX0_mostWith_15 ?_ | refine r_ior dX0_mostWith_15 ?_
  first | refine r_iaddN dX0_mostWith_16 ?_ | refine r_iadd dX0_mostWith_16 ?_
  refine r_ialdN dX0_mostWith_17 sh_30 (by omega) (by decide) (hg _ hor) ?_
  first | refine r_iaddN dX0_mostWith_18 ?_ | refine r_iadd dX0_mostWith_18 ?_
  refine r_iret dX0_mostWith_19 rfl (by decide) (by decide) ?_
  exact ⟨rfl, rfl, rfl⟩

set_option maxHeartbeats 4000000 in
set_option maxRecDepth 100000 in
theorem c0_mostFrom (l : Launch) {rw : List zC} {M : zM} {n u : Nat → Nat} {kn : Nat} (hS : SI 1 n u kn M) {p tk : Nat} (h4 : n 1 ≤ 4) (hp : p < 5) (htk : tk < 16) (hf : M.1 29 p = nI (fb n p (n 1))) (g : Nat → Nat) (hg : ∀ t, t < 16 → M.1 30 ((p + 1) * 16 + t) = nI (g t)) (hgb : ∀ t, g t ≤ 10) : CT l false 1 0 0 yX0_mostFrom cX0_mostFrom 5 (some .int) [.ref 24, .int (nI p), .int (nI tk)] (zSh ++ rw) M (zF (some (.int (nI (mxs (ftn n p) g tk (n 1))))) (zSh ++ rw) M) := by
  refine CT.ofN (by decide) (fun _ _ => Nat.le_of_ble_eq_true rfl) ?_
  refine r_aload_n dX0_mostFrom_0 rfl rfl ?_
  refine r_getR fl_X0_27 dX0_mostFrom_1 sh_24 rfl ?_
  refine r_iload_n dX0_mostFrom_4 rfl rfl ?_
  refine r_iconst (v := nI 1) dX0_mostFrom_5 rfl ?_
  first | refine r_iaddN dX0_mostFrom_6 ?_ | refine r_iadd dX0_mostFrom_6 ?_
  refine r_bipush (v := nI 16) dX0_mostFrom_7 rfl ?_
  first | refine r_imulN dX0_mostFrom_9 ?_ | refine r_imul dX0_mostFrom_9 ?_
  refine r_iload_n dX0_mostFrom_10 rfl rfl ?_
  first | refine r_iaddN dX0_mostFrom_11 ?_ | refine r_iadd dX0_mostFrom_11 ?_
  refine r_ialdN dX0_mostFrom_12 sh_30 (by omega) (by decide) (hg _ htk) ?_
  refine r_istore_n dX0_mostFrom_13 rfl rfl (by decide) ?_
  refine r_iconst (v := nI 0) dX0_mostFrom_14 rfl ?_
  refine r_istore dX0_mostFrom_15 rfl (by decide) ?_
  have loop : ∀ (j k : Nat) , k ≤ n 1 → n 1 < k + j → RA l none (zR 1 0 0) yX0_mostFrom cX0_mostFrom 5 (some .int) (zF (some (.int (nI (mxs (ftn n p) g tk (n 1))))) (zSh ++ rw) M) 0 0 17 [some (.ref 24), some (.int (nI p)), some (.int (nI tk)), some (.int (nI (mxs (ftn n p) g tk k))), some (.int (nI k))] [] (zSh ++ rw) M := by
    intro j
    induction j with
    | zero => intro k   hk hj; exact absurd hj (by omega)
    | succ j ih =>
      intro k   hk hj
      refine r_iload dX0_mostFrom_17 rfl ?_
      refine r_aload_n dX0_mostFrom_19 rfl rfl ?_
      refine r_getR fl_X0_37 dX0_mostFrom_20 sh_24 rfl ?_
      refine r_getV fl_X0_121 dX0_mostFrom_23 sh_1 rfl hS.f1 ?_
      first | refine r_icmp_geN (tgt := 59) dX0_mostFrom_26 (by decide) (by omega) (by omega) (fun c1 => ?_) (fun c1 => ?_) | refine r_icmp_ge (tgt := 59) dX0_mostFrom_26 (by decide) (fun c1 => ?_) (fun c1 => ?_)
      · refine r_iload_n dX0_mostFrom_59 rfl rfl ?_
        refine r_iret dX0_mostFrom_60 rfl (by decide) (by decide) ?_
        refine ⟨congrArg (fun x => some (Value.int x)) ?_, rfl, rfl⟩
        rw [show k = n 1 by omega]
      · refine r_aload_n dX0_mostFrom_29 rfl rfl ?_
        refine r_iload_n dX0_mostFrom_30 rfl rfl ?_
        refine r_iload dX0_mostFrom_31 rfl ?_
        refine r_iload_n dX0_mostFrom_33 rfl rfl ?_
        refine r_cV3F mv_X0_isFree ml_X0_127 (c0_isFree l (by omega) (by omega) (by omega) hf) dX0_mostFrom_34 (Nat.le_of_ble_eq_true rfl) ⟨by decide, by decide⟩ ⟨by decide, by decide⟩ sh_24 rfl (fun _ h => nomatch h) ?_
        try dsimp only [zrst, List.cons_append, List.nil_append]
        first | refine r_if_eqB (tgt := 53) dX0_mostFrom_37 (by decide) (fun c2 => ?_) (fun c2 => ?_) | refine r_if_eqN (tgt := 53) dX0_mostFrom_37 (by decide) (by omega) (fun c2 => ?_) (fun c2 => ?_) | refine r_if_eq (tgt := 53) dX0_mostFrom_37 (by decide) (fun c2 => ?_) (fun c2 => ?_)
        · have hX := mxs_no (g := g) c2
          first | refine r_iincN dX0_mostFrom_53 rfl rfl (by decide) ?_ | refine r_iinc dX0_mostFrom_53 rfl rfl rfl (by decide) ?_
          refine r_goto (tgt := 17) dX0_mostFrom_56 (by decide) ?_
          have h9 := ih (k + 1) (by omega) (by omega)
          rw [hX] at h9
          exact h9
        · have hX := mxs_yes (g := g) c2
          have hm1 := mxs_le (f := ftn n p) (tk := tk) hgb k
          have hm2 := hgb (tk ||| 1 * 2 ^ k)
          refine r_iload_n dX0_mostFrom_40 rfl rfl ?_
          refine r_aload_n dX0_mostFrom_41 rfl rfl ?_
          refine r_iload_n dX0_mostFrom_42 rfl rfl ?_
          refine r_iload dX0_mostFrom_43 rfl ?_
          refine r_iload_n dX0_mostFrom_45 rfl rfl ?_
          refine r_cV3F mv_X0_mostWith ml_X0_130 (c0_mostWith l (by omega) (by omega) htk g hg hgb) dX0_mostFrom_46 (Nat.le_of_ble_eq_true rfl) ⟨by decide, by decide⟩ ⟨by decide, by decide⟩ sh_24 rfl (fun _ h => nomatch h) ?_
          try dsimp only [zrst, List.cons_append, List.nil_append]
          refine r_max ml_X0_133 dX0_mostFrom_49 (by decide) (Nat.le_of_ble_eq_true rfl) (by decide) (by decide) ?_
          rw [maxN (by omega) (by omega)]
          refine r_istore_n dX0_mostFrom_52 rfl rfl (by decide) ?_
          first | refine r_iincN dX0_mostFrom_53 rfl rfl (by decide) ?_ | refine r_iinc dX0_mostFrom_53 rfl rfl rfl (by decide) ?_
          refine r_goto (tgt := 17) dX0_mostFrom_56 (by decide) ?_
          have h9 := ih (k + 1) (by omega) (by omega)
          rw [hX] at h9
          exact h9
  exact loop (n 1 + 1) 0 (Nat.zero_le _) (by omega)

set_option maxHeartbeats 4000000 in
set_option maxRecDepth 100000 in
theorem c0_firstChoice (l : Launch) {rw : List zC} {M : zM} {n u : Nat → Nat} {kn : Nat} (hS : SI 1 n u kn M) {p tk v : Nat} (h4 : n 1 ≤ 4) (hp : p < 5) (htk : tk < 16) (hv9 : v ≤ 10) (hv : M.1 30 (p * 16 + tk) = nI v) (hf : M.1 29 p = nI (fb n p (n 1))) (g : Nat → Nat) (hg : ∀ t, t < 16 → M.1 30 ((p + 1) * 16 + t) = nI (g t)) (hgb : ∀ t, g t ≤ 10) : CT l false 1 0 0 yX0_firstChoice cX0_firstChoice 4 (some .int) [.ref 24, .int (nI p), .int (nI tk)] (zSh ++ rw) M (zF (some (.int (fwv (fch (ftn n p) g tk v (n 1) 0)))) (zSh ++ rw) M) := by
  refine CT.ofN (by decide) (fun _ _ => Nat.le_of_ble_eq_true rfl) ?_
  refine r_iconst (v := nI 0) dX0_firstChoice_0 rfl ?_
  refine r_istore_n dX0_firstChoice_1 rfl rfl (by decide) ?_
  have loop : ∀ (j k : Nat)  (hc : fch (ftn n p) g tk v (n 1) 0 = fch (ftn n p) g tk v (n 1 - k) k), k ≤ n 1 → n 1 < k + j → RA l none (zR 1 0 0) yX0_firstChoice cX0_firstChoice 4 (some .int) (zF (some (.int (fwv (fch (ftn n p) g tk v (n 1) 0)))) (zSh ++ rw) M) 0 0 2 [some (.ref 24), some (.int (nI p)), some (.int (nI tk)), some (.int (nI k))] [] (zSh ++ rw) M := by
    intro j
    induction j with
    | zero => intro k  hc hk hj; exact absurd hj (by omega)
    | succ j ih =>
      intro k  hc hk hj
      refine r_iload_n dX0_firstChoice_2 rfl rfl ?_
      refine r_aload_n dX0_firstChoice_3 rfl rfl ?_
      refine r_getR fl_X0_37 dX0_firstChoice_4 sh_24 rfl ?_
      refine r_getV fl_X0_121 dX0_firstChoice_7 sh_1 rfl hS.f1 ?_
      first | refine r_icmp_geN (tgt := 52) dX0_firstChoice_10 (by decide) (by omega) (by omega) (fun c1 => ?_) (fun c1 => ?_) | refine r_icmp_ge (tgt := 52) dX0_firstChoice_10 (by decide) (fun c1 => ?_) (fun c1 => ?_)
      · refine r_bipush (v := (-4)) dX0_firstChoice_52 rfl ?_
        refine r_iret dX0_firstChoice_54 rfl (by decide) (by decide) ?_
        refine ⟨congrArg (fun x => some (Value.int x)) ?_, rfl, rfl⟩
        rw [hc, show k = n 1 by omega, Nat.sub_self]
        try rfl
      · refine r_aload_n dX0_firstChoice_13 rfl rfl ?_
        refine r_iload_n dX0_firstChoice_14 rfl rfl ?_
        refine r_iload_n dX0_firstChoice_15 rfl rfl ?_
        refine r_iload_n dX0_firstChoice_16 rfl rfl ?_
        refine r_cV3F mv_X0_isFree ml_X0_127 (c0_isFree l (by omega) (by omega) (by omega) hf) dX0_firstChoice_17 (Nat.le_of_ble_eq_true rfl) ⟨by decide, by decide⟩ ⟨by decide, by decide⟩ sh_24 rfl (fun _ h => nomatch h) ?_
        try dsimp only [zrst, List.cons_append, List.nil_append]
        first | refine r_if_eqB (tgt := 46) dX0_firstChoice_20 (by decide) (fun c2 => ?_) (fun c2 => ?_) | refine r_if_eqN (tgt := 46) dX0_firstChoice_20 (by decide) (by omega) (fun c2 => ?_) (fun c2 => ?_) | refine r_if_eq (tgt := 46) dX0_firstChoice_20 (by decide) (fun c2 => ?_) (fun c2 => ?_)
        · have hX := fch_f (g := g) (v := v) (show k < n 1 by omega) (fun h => c2 ⟨h.1, h.2.1⟩)
          first | refine r_iincN dX0_firstChoice_46 rfl rfl (by decide) ?_ | refine r_iinc dX0_firstChoice_46 rfl rfl rfl (by decide) ?_
          refine r_goto (tgt := 2) dX0_firstChoice_49 (by decide) ?_
          exact ih (k + 1) (hc.trans hX) (by omega) (by omega)
        · have hm2 := hgb (tk ||| 1 * 2 ^ k)
          have hfr := c2
          refine r_aload_n dX0_firstChoice_23 rfl rfl ?_
          refine r_iload_n dX0_firstChoice_24 rfl rfl ?_
          refine r_iload_n dX0_firstChoice_25 rfl rfl ?_
          refine r_iload_n dX0_firstChoice_26 rfl rfl ?_
          refine r_cV3F mv_X0_mostWith ml_X0_130 (c0_mostWith l (by omega) (by omega) htk g hg hgb) dX0_firstChoice_27 (Nat.le_of_ble_eq_true rfl) ⟨by decide, by decide⟩ ⟨by decide, by decide⟩ sh_24 rfl (fun _ h => nomatch h) ?_
          try dsimp only [zrst, List.cons_append, List.nil_append]
          refine r_aload_n dX0_firstChoice_30 rfl rfl ?_
          refine r_getR fl_X0_27 dX0_firstChoice_31 sh_24 rfl ?_
          refine r_iload_n dX0_firstChoice_34 rfl rfl ?_
          refine r_bipush (v := nI 16) dX0_firstChoice_35 rfl ?_
          first | refine r_imulN dX0_firstChoice_37 ?_ | refine r_imul dX0_firstChoice_37 ?_
          refine r_iload_n dX0_firstChoice_38 rfl rfl ?_
          first | refine r_iaddN dX0_firstChoice_39 ?_ | refine r_iadd dX0_firstChoice_39 ?_
          refine r_ialdN dX0_firstChoice_40 sh_30 (by omega) (by decide) hv ?_
          first | refine r_icmp_neN (tgt := 46) dX0_firstChoice_41 (by decide) (by omega) (by omega) (fun c3 => ?_) (fun c3 => ?_) | refine r_icmp_ne (tgt := 46) dX0_firstChoice_41 (by decide) (fun c3 => ?_) (fun c3 => ?_)
          · have hX := fch_f (f := ftn n p) (g := g) (tk := tk) (v := v) (show k < n 1 by omega) (fun h => c3 h.2.2)
            first | refine r_iincN dX0_firstChoice_46 rfl rfl (by decide) ?_ | refine r_iinc dX0_firstChoice_46 rfl rfl rfl (by decide) ?_
            refine r_goto (tgt := 2) dX0_firstChoice_49 (by decide) ?_
            exact ih (k + 1) (hc.trans hX) (by omega) (by omega)
          · have hX := fch_t (f := ftn n p) (g := g) (tk := tk) (v := v) (show k < n 1 by omega) ⟨hfr.1, hfr.2, c3⟩
            refine r_iload_n dX0_firstChoice_44 rfl rfl ?_
            refine r_iret dX0_firstChoice_45 rfl (by decide) (by decide) ?_
            refine ⟨congrArg (fun x => some (Value.int x)) ?_, rfl, rfl⟩
            rw [hc, hX]
            try rfl
  exact loop (n 1 + 1) 0 rfl (Nat.zero_le _) (by omega)

set_option maxHeartbeats 4000000 in
set_option maxRecDepth 100000 in
theorem c0_mostDressed (l : Launch) {rw : List zC} {M : zM} {v : Nat} (hv : M.1 30 0 = nI v) : CT l false 0 0 0 yX0_mostDressed cX0_mostDressed 1 (some .int) [.ref 24] (zSh ++ rw) M (zF (some (.int (nI v))) (zSh ++ rw) M) := by
  refine CT.ofN (by decide) (fun _ _ => Nat.le_of_ble_eq_true rfl) ?_
  refine r_aload_n dX0_mostDressed_0 rfl rfl ?_
  refine r_getR fl_X0_27 dX0_mostDressed_1 sh_24 rfl ?_
  refine r_iconst (v := nI 0) dX0_mostDressed_4 rfl ?_
  refine r_ialdN dX0_mostDressed_5 sh_30 (by omega) (by decide) hv ?_
  refine r_iret dX0_mostDressed_6 rfl (by decide) (by decide) ?_
  exact ⟨rfl, rfl, rfl⟩

set_option maxHeartbeats 4000000 in
set_option maxRecDepth 100000 in
theorem c0_findFitting (l : Launch) {rw : List zC} {M0 : zM} {n u : Nat → Nat} {kn : Nat} (hS0 : SI 1 n u kn M0) (hn : NB n) : CT l false 5 0 0 yX0_findFitting cX0_findFitting 3 none [.ref 24] (zSh ++ rw) M0 (zG (zSh ++ rw) (fun v9 M9 => v9 = none ∧ (∀ p, p < n 0 → M9.1 29 p = nI (fb n p (n 1))) ∧ zfr (fun i => i = 29) M0 M9)) := by
  refine CT.ofN (by decide) (fun _ _ => Nat.le_of_ble_eq_true rfl) ?_
  have hdd := hn.2.2.2.2.2.2.2.2.2.2.2
  have hkd := hn.2.2.2.2.2.2.2.2.1
  have how := hn.2.2.2.2.2.2.2.2.2.1
  have hcu := hn.2.2.2.2.2.2.2.2.2.2.1
  have hb0 := hn.1
  have hb1 := hn.2.1
  have hb2 := hn.2.2.1
  have hb3 := hn.2.2.2.1
  have hb4 := hn.2.2.2.2.1
  have hb5 := hn.2.2.2.2.2.1
  have hb6 := hn.2.2.2.2.2.2.1
  refine r_iconst (v := nI 0) dX0_findFitting_0 rfl ?_
  refine r_istore_n dX0_findFitting_1 rfl rfl (by decide) ?_
  have loop : ∀ (j k : Nat) (M : zM) (hI : ∀ p, p < k → M.1 29 p = nI (fb n p (n 1))) (hF : zfr (fun i => i = 29) M0 M), k ≤ n 0 → n 0 < k + j → RA l none (zR 5 0 0) yX0_findFitting cX0_findFitting 3 none (zG (zSh ++ rw) (fun v9 M9 => v9 = none ∧ (∀ p, p < n 0 → M9.1 29 p = nI (fb n p (n 1))) ∧ zfr (fun i => i = 29) M0 M9)) 0 0 2 [some (.ref 24), some (.int (nI k)), none] [] (zSh ++ rw) M := by
    intro j
    induction j with
    | zero => intro k M hI hF hk hj; exact absurd hj (by omega)
    | succ j ih =>
      intro k M hI hF hk hj
      have hS := SI_zfr hS0 hF (fun i h1 h2 => by omega)
      refine r_iload_n dX0_findFitting_2 rfl rfl ?_
      refine r_aload_n dX0_findFitting_3 rfl rfl ?_
      refine r_getR fl_X0_37 dX0_findFitting_4 sh_24 rfl ?_
      refine r_getV fl_X0_118 dX0_findFitting_7 sh_1 rfl hS.f0 ?_
      first | refine r_icmp_geN (tgt := 70) dX0_findFitting_10 (by decide) (by omega) (by omega) (fun c1 => ?_) (fun c1 => ?_) | refine r_icmp_ge (tgt := 70) dX0_findFitting_10 (by decide) (fun c1 => ?_) (fun c1 => ?_)
      · refine r_vret dX0_findFitting_70 rfl (by decide) (by decide) ?_
        have e0 : k = n 0 := by omega
        subst e0
        exact ⟨rfl, rfl, hI, hF⟩
      · refine r_aload_n dX0_findFitting_13 rfl rfl ?_
        refine r_getR fl_X0_24 dX0_findFitting_14 sh_24 rfl ?_
        refine r_iload_n dX0_findFitting_17 rfl rfl ?_
        refine r_iconst (v := nI 0) dX0_findFitting_18 rfl ?_
        refine r_iastN dX0_findFitting_19 sh_29 (by omega) (by decide) ?_
        refine r_iconst (v := nI 0) dX0_findFitting_20 rfl ?_
        refine r_istore_n dX0_findFitting_21 rfl rfl (by decide) ?_
        have HI : ∀ p, p < k → (zI M 29 (upd (M.1 29) k (nI 0))).1 29 p = nI (fb n p (n 1)) := fun p hp => by rw [zI_at, pk_un (by omega)]; exact hI p hp
        have HK : (zI M 29 (upd (M.1 29) k (nI 0))).1 29 k = nI (fb n k 0) := by rw [zI_at]; exact pk_us
        have HF : zfr (fun i => i = 29) M0 (zI M 29 (upd (M.1 29) k (nI 0))) := hF.trans (zfr_I rfl)
        have loop2 : ∀ (j i : Nat) (M : zM) (hI : ∀ p, p < k → M.1 29 p = nI (fb n p (n 1))) (hk9 : M.1 29 k = nI (fb n k i)) (hF : zfr (fun i => i = 29) M0 M), i ≤ n 1 → n 1 < i + j → RA l none (zR 5 0 0) yX0_findFitting cX0_findFitting 3 none (zG (zSh ++ rw) (fun v9 M9 => v9 = none ∧ (∀ p, p < n 0 → M9.1 29 p = nI (fb n p (n 1))) ∧ zfr (fun i => i = 29) M0 M9)) 0 0 22 [some (.ref 24), some (.int (nI k)), some (.int (nI i))] [] (zSh ++ rw) M := by
          intro j
          induction j with
          | zero => intro i M hI hk9 hF hk hj; exact absurd hj (by omega)
          | succ j ih2 =>
            intro i M hI hk9 hF hk hj
            have hS := SI_zfr hS0 hF (fun i h1 h2 => by omega)
            refine r_iload_n dX0_findFitting_22 rfl rfl ?_
            refine r_aload_n dX0_findFitting_23 rfl rfl ?_
            refine r_getR fl_X0_37 dX0_findFitting_24 sh_24 rfl ?_
            refine r_getV fl_X0_121 dX0_findFitting_27 sh_1 rfl hS.f1 ?_
            first | refine r_icmp_geN (tgt := 64) dX0_findFitting_30 (by decide) (by omega) (by omega) (fun c1 => ?_) (fun c1 => ?_) | refine r_icmp_ge (tgt := 64) dX0_findFitting_30 (by decide) (fun c1 => ?_) (fun c1 => ?_)
            · first | refine r_iincN dX0_findFitting_64 rfl rfl (by decide) ?_ | refine r_iinc dX0_findFitting_64 rfl rfl rfl (by decide) ?_
              refine r_goto (tgt := 2) dX0_findFitting_67 (by decide) ?_
              have ei : i = n 1 := by omega
              subst ei
              refine r_lfor 2 ?_
              exact ih (k + 1) M (fun p hp => by
                by_cases e : p = k
                · rw [e]; exact hk9
                · exact hI p (by omega)) hF (by omega) (by omega)
            · refine r_aload_n dX0_findFitting_33 rfl rfl ?_
              refine r_getR fl_X0_37 dX0_findFitting_34 sh_24 rfl ?_
              refine r_iload_n dX0_findFitting_37 rfl rfl ?_
              refine r_iload_n dX0_findFitting_38 rfl rfl ?_
              refine r_iconst (v := nI 0) dX0_findFitting_39 rfl ?_
              refine r_cV3F mv_X3_fitsBehind ml_X0_41 (c3_fitsBehind l hS hn (by omega) (by omega) (by omega)) dX0_findFitting_40 (Nat.le_of_ble_eq_true rfl) ⟨by decide, by decide⟩ ⟨by decide, by decide⟩ sh_1 rfl (fun _ h => nomatch h) ?_
              try dsimp only [zrst, List.cons_append, List.nil_append]
              refine r_if_eqB (tgt := 58) dX0_findFitting_43 (by decide) (fun c9 => ?_) (fun c9 => ?_)
              · have hX : fb n k (i + 1) = fb n k i := by rw [fb, if_neg (show ¬ ftn n k i = true from c9)]
                first | refine r_iincN dX0_findFitting_58 rfl rfl (by decide) ?_ | refine r_iinc dX0_findFitting_58 rfl rfl rfl (by decide) ?_
                refine r_goto (tgt := 22) dX0_findFitting_61 (by decide) ?_
                exact ih2 (i + 1) M hI (hk9.trans (by rw [hX])) hF (by omega) (by omega)
              · have hX : fb n k (i + 1) = fb n k i ||| 1 * 2 ^ i := by rw [fb, if_pos (show ftn n k i = true from c9)]
                have hpk := pw_le (show i ≤ 10 by omega)
                refine r_aload_n dX0_findFitting_46 rfl rfl ?_
                refine r_getR fl_X0_24 dX0_findFitting_47 sh_24 rfl ?_
                refine r_iload_n dX0_findFitting_50 rfl rfl ?_
                refine r_dup2 dX0_findFitting_51 rfl rfl ?_
                refine r_ialdN dX0_findFitting_52 sh_29 (by omega) (by decide) hk9 ?_
                refine r_iconst (v := nI 1) dX0_findFitting_53 rfl ?_
                refine r_iload_n dX0_findFitting_54 rfl rfl ?_
                first | refine r_ishlN dX0_findFitting_55 (by omega) (by omega) ?_ | refine r_ishl dX0_findFitting_55 ?_
                first | refine r_iorN dX0_findFitting_56 ?_ | refine r_ior dX0_findFitting_56 ?_
                refine r_iastN dX0_findFitting_57 sh_29 (by omega) (by decide) ?_
                first | refine r_iincN dX0_findFitting_58 rfl rfl (by decide) ?_ | refine r_iinc dX0_findFitting_58 rfl rfl rfl (by decide) ?_
                refine r_goto (tgt := 22) dX0_findFitting_61 (by decide) ?_
                exact ih2 (i + 1) _ (fun p hp => by
                  rw [zI_at, pk_un (by omega)]; exact hI p hp) (by rw [zI_at, hX]; exact pk_us) (hF.trans (zfr_I rfl)) (by omega) (by omega)
        exact loop2 (n 1 + 1) 0 _ HI HK HF (Nat.zero_le _) (by omega)
  exact loop (n 0 + 1) 0 M0 (fun p hp => absurd hp (by omega)) zfr.rf (Nat.zero_le _) (by omega)

