/-! the reference's reader: its numbers, with place p, fault q and what it read -/
def pt (t : Nat → Nat → Nat) (p q : Nat) (rd : Nat → Nat) : Nat → Nat → Nat := fun c j => if c = 34 then (if j = 3 then p else if j = 4 then q else t 34 j) else if c = 37 then rd j else t c j
def upN (g : Nat → Nat) (k v : Nat) : Nat → Nat := fun j => if j = k then v else g j
theorem pt_3 {t : Nat → Nat → Nat} {p q v : Nat} {rd : Nat → Nat} : ts (pt t p q rd) 34 3 v = pt t v q rd := by
  funext c j
  unfold ts pt
  by_cases h : c = 34
  · subst h
    by_cases h3 : j = 3
    · simp [h3]
    · simp [h3]
  · simp [h]
theorem pt_4 {t : Nat → Nat → Nat} {p q v : Nat} {rd : Nat → Nat} : ts (pt t p q rd) 34 4 v = pt t p v rd := by
  funext c j
  unfold ts pt
  by_cases h : c = 34
  · subst h
    by_cases h4 : j = 4
    · simp [h4]
    · simp [h4]
  · simp [h]
theorem pt_37 {t : Nat → Nat → Nat} {p q k v : Nat} {rd : Nat → Nat} : ts (pt t p q rd) 37 k v = pt t p q (upN rd k v) := by
  funext c j
  unfold ts pt upN
  by_cases h : c = 37
  · subst h
    by_cases h4 : j = k
    · simp [h4]
    · simp [h4]
  · simp [h]
theorem pt_0 {t : Nat → Nat → Nat} : ts (ts t 34 3 0) 34 4 0 = pt t 0 0 (t 37) := by
  funext c j
  unfold ts pt
  by_cases h : c = 34
  · subst h
    by_cases h4 : j = 4
    · simp [h4]
    · simp [h4]
  · by_cases h7 : c = 37
    · simp [h7]
    · simp [h, h7]
section PTL
variable {t : Nat → Nat → Nat} {p q : Nat} {rd : Nat → Nat} {M : zM}
theorem RI.p2 (h : RI (pt t p q rd) M) : M.1 34 2 = nI (t 34 2) := h.a34 2
theorem RI.p3 (h : RI (pt t p q rd) M) : M.1 34 3 = nI p := h.a34 3
theorem RI.p4 (h : RI (pt t p q rd) M) : M.1 34 4 = nI q := h.a34 4
theorem RI.p36 (h : RI (pt t p q rd) M) (k : Nat) : M.1 36 k = nI (t 36 k) := h.a36 k
theorem RI.p37 (h : RI (pt t p q rd) M) (k : Nat) : M.1 37 k = nI (rd k) := h.a37 k
variable {l : Launch} {b : Option Nat} {R : Room} {y : MethodName} {cc : ByteArray} {nL : Nat} {ret : Option FieldType} {Q : Option Value → List zC → zM → Prop} {cells slots pc : Nat} {ls : List (Option Value)} {st : List Value} {S : List zC}
theorem r_P3 {index v : Nat} {fl : List (Option (Option Nat))} (hR : RI (pt t p q rd) M) (hf : zFL y.cls index 5 3 false .int) (hd : decode cc pc = .ok (.putfield index, 3)) (hc : S[34]? = some (.inr (5, fl))) (hk : fl[3]? = some none) (kk : ∀ M', RI (pt t v q rd) M' → zfr PR M M' → RA l b R y cc nL ret Q cells slots (pc + 3) ls st S M') : RA l b R y cc nL ret Q cells slots pc ls (.int (nI v) :: .ref 34 :: st) S M := r_Rput hf hd rfl rfl hc hk hR (fun M' h1 h2 => kk M' (pt_3 (t := t) (p := p) ▸ h1) h2)
theorem r_P4 {index v : Nat} {fl : List (Option (Option Nat))} (hR : RI (pt t p q rd) M) (hv : v = 0 ∨ v = 1) (hf : zFL y.cls index 5 4 false .boolean) (hd : decode cc pc = .ok (.putfield index, 3)) (hc : S[34]? = some (.inr (5, fl))) (hk : fl[4]? = some none) (kk : ∀ M', RI (pt t p v rd) M' → zfr PR M M' → RA l b R y cc nL ret Q cells slots (pc + 3) ls st S M') : RA l b R y cc nL ret Q cells slots pc ls (.int (nI v) :: .ref 34 :: st) S M := r_Rput hf hd (by rcases hv with rfl | rfl <;> rfl) (by rcases hv with rfl | rfl <;> rfl) hc hk hR (fun M' h1 h2 => kk M' (pt_4 (t := t) (p := p) (q := q) ▸ h1) h2)
theorem r_P37 {k v : Nat} (hR : RI (pt t p q rd) M) (hd : decode cc pc = .ok (.iastore, 1)) (hc : S[37]? = some (.inl (0, 41))) (hk : k < 41) (kk : ∀ M', RI (pt t p q (upN rd k v)) M' → zfr PR M M' → RA l b R y cc nL ret Q cells slots (pc + 1) ls st S M') : RA l b R y cc nL ret Q cells slots pc ls (.int (nI v) :: .int (nI k) :: .ref 37 :: st) S M := r_Rast hd hc hk (by decide) hR (by decide) (fun M' h1 h2 => kk M' (pt_37 (t := t) (p := p) (q := q) ▸ h1) h2)
end PTL
def ltr (f : Nat → Nat) (L a : Nat) : Nat := if a < L then f a else 0
theorem ltr_t {f : Nat → Nat} {L a : Nat} (h : a < L) : ltr f L a = f a := if_pos h
theorem ltr_f {f : Nat → Nat} {L a : Nat} (h : ¬ a < L) : ltr f L a = 0 := if_neg h
theorem ltr_le {f : Nat → Nat} {L a : Nat} (hB : TB f L) : ltr f L a ≤ 126 := by
  unfold ltr
  split
  · rename_i h; exact (hB.2 a h).2
  · omega
theorem ltr_c {f : Nat → Nat} {L a c : Nat} (hc : c ≠ 0) : ltr f L a = c ↔ (a < L ∧ f a = c) := by
  unfold ltr
  split
  · rename_i h; exact ⟨fun q => ⟨h, q⟩, fun q => q.2⟩
  · rename_i h; exact ⟨fun q => absurd q.symm hc, fun q => absurd q.1 h⟩
theorem ltr_0 {f : Nat → Nat} {L a : Nat} (hB : TB f L) : ltr f L a = 0 ↔ ¬ a < L := by
  unfold ltr
  split
  · rename_i h; have h1 := hB.2 a h; exact ⟨fun q => absurd q (by omega), fun q => absurd h q⟩
  · rename_i h; exact ⟨fun _ => h, fun _ => rfl⟩
theorem ltr_k {f : Nat → Nat} {L a : Nat} : kn (ltr f L a) < 5 ↔ (a < L ∧ kn (f a) < 5) := by
  unfold ltr
  split
  · rename_i h; exact ⟨fun q => ⟨h, q⟩, fun q => q.2⟩
  · rename_i h; exact ⟨fun q => absurd q (by decide), fun q => absurd q.1 h⟩
theorem in_N {a b c : Nat} (ha : a < 2147483648) (hb : b < 2147483648) (hc : c < 2147483648) : ((nI a).toInt64.toInt ≤ (nI b).toInt64.toInt ∧ (nI b).toInt64.toInt ≤ (nI c).toInt64.toInt) ↔ (a ≤ b ∧ b ≤ c) := by
  rw [i64_of32, i64_of32, i64_of32, nI_toInt (by omega), nI_toInt (by omega), nI_toInt (by omega)]
  omega
theorem in_48 {b : Nat} (hb : b < 2147483648) : ((48 : Int64).toInt ≤ (nI b).toInt64.toInt ∧ (nI b).toInt64.toInt ≤ (57 : Int64).toInt) ↔ (48 ≤ b ∧ b ≤ 57) := by
  rw [i64_of32, nI_toInt (by omega)]
  have h1 : (48 : Int64).toInt = 48 := by decide
  have h2 : (57 : Int64).toInt = 57 := by decide
  rw [h1, h2]
  omega
def cvp (s : Nat × Nat) : Nat := if s.2 = 0 then s.1 else s.2 - 1
def cvq (s : Nat × Nat) : Nat := if s.2 = 0 then 0 else 1
theorem cvp_0 {s : Nat × Nat} (h : s.2 = 0) : cvp s = s.1 := if_pos h
theorem cvp_1 {s : Nat × Nat} (h : s.2 ≠ 0) : cvp s = s.2 - 1 := if_neg h
theorem cvq_0 {s : Nat × Nat} (h : s.2 = 0) : cvq s = 0 := if_pos h
theorem cvq_1 {s : Nat × Nat} (h : s.2 ≠ 0) : cvq s = 1 := if_neg h
theorem cvq_le (s : Nat × Nat) : cvq s ≤ 1 := by
  unfold cvq
  split <;> omega
theorem cvq_e {s : Nat × Nat} : cvq s = 0 ↔ s.2 = 0 := by
  unfold cvq
  split
  · rename_i h; exact ⟨fun _ => h, fun _ => rfl⟩
  · rename_i h; exact ⟨fun q => absurd q (by omega), fun q => absurd q h⟩
def wrN (g : Nat → Nat) (b m : Nat) (v : Nat → Nat) : Nat → Nat := fun j => if b ≤ j ∧ j < b + m then v (j - b) else g j
theorem wrN_0 {g : Nat → Nat} {b : Nat} {v : Nat → Nat} : wrN g b 0 v = g := by
  funext j
  exact if_neg (by omega)
theorem wrN_s {g : Nat → Nat} {b m : Nat} {v : Nat → Nat} : upN (wrN g b m v) (b + m) (v m) = wrN g b (m + 1) v := by
  funext j
  unfold upN wrN
  by_cases h : j = b + m
  · subst h
    rw [if_pos rfl, if_pos (by omega), show b + m - b = m by omega]
  · rw [if_neg h]
    by_cases h2 : b ≤ j ∧ j < b + m
    · rw [if_pos h2, if_pos (by omega)]
    · rw [if_neg h2, if_neg (by omega)]
set_option maxHeartbeats 4000000 in
set_option maxRecDepth 100000 in
theorem c5_here (l : Launch) {rw : List zC} {M0 : zM} {t : Nat → Nat → Nat} {p q : Nat} {rd : Nat → Nat} (hR : RI (pt t p q rd) M0) (hB : TB (t 36) (t 34 2)) (hp : p ≤ (t 34 2)) : CT l false 0 0 0 yX5_here cX5_here 1 (some .int) [.ref 34] (zSh ++ rw) M0 (zG (zSh ++ rw) (fun v9 M9 => v9 = some (.int (nI (ltr (t 36) (t 34 2) (wh (t 36) (t 34 2) p)))) ∧ RI (pt t (wh (t 36) (t 34 2) p) (q) rd) M9 ∧ zfr PR M0 M9)) := by
  refine CT.ofN (by decide) (fun _ _ => Nat.le_of_ble_eq_true rfl) ?_
  have hF : zfr PR M0 M0 := zfr.rf
  have hL := hB.1
  have loop : ∀ (j k : Nat) (M : zM) (hR : RI (pt t k q rd) M) (hF : zfr PR M0 M) (hh : wh (t 36) (t 34 2) p = wh (t 36) (t 34 2) k), k ≤ (t 34 2) → (t 34 2) < k + j → RA l none (zR 0 0 0) yX5_here cX5_here 1 (some .int) (zG (zSh ++ rw) (fun v9 M9 => v9 = some (.int (nI (ltr (t 36) (t 34 2) (wh (t 36) (t 34 2) p)))) ∧ RI (pt t (wh (t 36) (t 34 2) p) (q) rd) M9 ∧ zfr PR M0 M9)) 0 0 0 [some (.ref 34)] [] (zSh ++ rw) M := by
    intro j
    induction j with
    | zero => intro k M hR hF hh hk hj; exact absurd hj (by omega)
    | succ j ih =>
      intro k M hR hF hh hk hj
      refine r_aload_n dX5_here_0 rfl rfl ?_
      refine r_getV fl_X5_139 dX5_here_1 sh_34 rfl hR.p3 ?_
      refine r_aload_n dX5_here_4 rfl rfl ?_
      refine r_getV fl_X5_136 dX5_here_5 sh_34 rfl hR.p2 ?_
      first | refine r_icmp_geN (tgt := 38) dX5_here_8 (by decide) (by omega) (by omega) (fun c1 => ?_) (fun c1 => ?_) | refine r_icmp_ge (tgt := 38) dX5_here_8 (by decide) (fun c1 => ?_) (fun c1 => ?_)
      · have h9 : wh (t 36) (t 34 2) p = k := hh.trans (wh_n1 c1)
        refine r_aload_n dX5_here_38 rfl rfl ?_
        refine r_getV fl_X5_139 dX5_here_39 sh_34 rfl hR.p3 ?_
        refine r_aload_n dX5_here_42 rfl rfl ?_
        refine r_getV fl_X5_136 dX5_here_43 sh_34 rfl hR.p2 ?_
        first | refine r_icmp_geN (tgt := 61) dX5_here_46 (by decide) (by omega) (by omega) (fun c2 => ?_) (fun c2 => ?_) | refine r_icmp_ge (tgt := 61) dX5_here_46 (by decide) (fun c2 => ?_) (fun c2 => ?_)
        · refine r_iconst (v := nI 0) dX5_here_61 rfl ?_
          refine r_iret dX5_here_62 rfl (by decide) (by decide) ?_
          first
          | (exfalso; omega)
          | (refine ⟨rfl, congrArg (fun x => some (Value.int (nI x))) ?_, by rw [h9]; exact hR, hF⟩; rw [h9]; first | exact (ltr_t (by omega)).symm | exact (ltr_f (by omega)).symm)
          | fail "leaf"
        · refine r_aload_n dX5_here_49 rfl rfl ?_
          refine r_getR fl_X5_13 dX5_here_50 sh_34 rfl ?_
          refine r_aload_n dX5_here_53 rfl rfl ?_
          refine r_getV fl_X5_139 dX5_here_54 sh_34 rfl hR.p3 ?_
          refine r_ialdN dX5_here_57 sh_36 (by omega) (by decide) (hR.p36 _) ?_
          refine r_goto (tgt := 62) dX5_here_58 (by decide) ?_
          refine r_iret dX5_here_62 rfl (by decide) (by decide) ?_
          first
          | (exfalso; omega)
          | (refine ⟨rfl, congrArg (fun x => some (Value.int (nI x))) ?_, by rw [h9]; exact hR, hF⟩; rw [h9]; first | exact (ltr_t (by omega)).symm | exact (ltr_f (by omega)).symm)
          | fail "leaf"
      · have hb1 := hB.2 k c1
        refine r_aload_n dX5_here_11 rfl rfl ?_
        refine r_getR fl_X5_13 dX5_here_12 sh_34 rfl ?_
        refine r_aload_n dX5_here_15 rfl rfl ?_
        refine r_getV fl_X5_139 dX5_here_16 sh_34 rfl hR.p3 ?_
        refine r_ialdN dX5_here_19 sh_36 (by omega) (by decide) (hR.p36 _) ?_
        refine r_bipush (v := nI 32) dX5_here_20 rfl ?_
        first | refine r_icmp_neN (tgt := 38) dX5_here_22 (by decide) (by omega) (by omega) (fun c3 => ?_) (fun c3 => ?_) | refine r_icmp_ne (tgt := 38) dX5_here_22 (by decide) (fun c3 => ?_) (fun c3 => ?_)
        · have h9 : wh (t 36) (t 34 2) p = k := hh.trans (wh_n2 (by omega) c3)
          refine r_aload_n dX5_here_38 rfl rfl ?_
          refine r_getV fl_X5_139 dX5_here_39 sh_34 rfl hR.p3 ?_
          refine r_aload_n dX5_here_42 rfl rfl ?_
          refine r_getV fl_X5_136 dX5_here_43 sh_34 rfl hR.p2 ?_
          first | refine r_icmp_geN (tgt := 61) dX5_here_46 (by decide) (by omega) (by omega) (fun c4 => ?_) (fun c4 => ?_) | refine r_icmp_ge (tgt := 61) dX5_here_46 (by decide) (fun c4 => ?_) (fun c4 => ?_)
          · refine r_iconst (v := nI 0) dX5_here_61 rfl ?_
            refine r_iret dX5_here_62 rfl (by decide) (by decide) ?_
            first
            | (exfalso; omega)
            | (refine ⟨rfl, congrArg (fun x => some (Value.int (nI x))) ?_, by rw [h9]; exact hR, hF⟩; rw [h9]; first | exact (ltr_t (by omega)).symm | exact (ltr_f (by omega)).symm)
            | fail "leaf"
          · refine r_aload_n dX5_here_49 rfl rfl ?_
            refine r_getR fl_X5_13 dX5_here_50 sh_34 rfl ?_
            refine r_aload_n dX5_here_53 rfl rfl ?_
            refine r_getV fl_X5_139 dX5_here_54 sh_34 rfl hR.p3 ?_
            refine r_ialdN dX5_here_57 sh_36 (by omega) (by decide) (hR.p36 _) ?_
            refine r_goto (tgt := 62) dX5_here_58 (by decide) ?_
            refine r_iret dX5_here_62 rfl (by decide) (by decide) ?_
            first
            | (exfalso; omega)
            | (refine ⟨rfl, congrArg (fun x => some (Value.int (nI x))) ?_, by rw [h9]; exact hR, hF⟩; rw [h9]; first | exact (ltr_t (by omega)).symm | exact (ltr_f (by omega)).symm)
            | fail "leaf"
        · have hc2 := c3
          refine r_aload_n dX5_here_25 rfl rfl ?_
          refine r_dup dX5_here_26 rfl ?_
          refine r_getV fl_X5_139 dX5_here_27 sh_34 rfl hR.p3 ?_
          refine r_iconst (v := nI 1) dX5_here_30 rfl ?_
          first | refine r_iaddN dX5_here_31 ?_ | refine r_iadd dX5_here_31 ?_
          refine r_P3 hR fl_X5_139 dX5_here_32 sh_34 rfl (fun M hR hF1 => ?_)
          have hF := hF.trans hF1
          refine r_goto (tgt := 0) dX5_here_35 (by decide) ?_
          exact ih (k + 1) M hR hF (hh.trans (wh_s (by omega) hc2)) (by omega) (by omega)
  exact loop ((t 34 2) + 1) p M0 hR hF rfl hp (by omega)

set_option maxHeartbeats 4000000 in
set_option maxRecDepth 100000 in
theorem c5_mustT (l : Launch) {rw : List zC} {M0 : zM} {t : Nat → Nat → Nat} {p : Nat} {rd : Nat → Nat} (hR : RI (pt t p 0 rd) M0) (hB : TB (t 36) (t 34 2)) : CT l false 0 0 0 yX5_must cX5_must 2 none [.ref 34, .int (nI 1)] (zSh ++ rw) M0 (zG (zSh ++ rw) (fun v9 M9 => v9 = none ∧ RI (pt t (p + 1) (0) rd) M9 ∧ zfr PR M0 M9)) := by
  refine CT.ofN (by decide) (fun _ _ => Nat.le_of_ble_eq_true rfl) ?_
  have hF : zfr PR M0 M0 := zfr.rf
  have hL := hB.1
  refine r_aload_n dX5_must_0 rfl rfl ?_
  refine r_aload_n dX5_must_1 rfl rfl ?_
  refine r_getV fl_X5_142 dX5_must_2 sh_34 rfl hR.p4 ?_
  refine r_if_neN (x := 0) (tgt := 12) dX5_must_5 (by decide) (by decide) (fun q9 => absurd q9 (by decide)) (fun _ => ?_)
  refine r_iload_n dX5_must_8 rfl rfl ?_
  refine r_if_neN (x := 1) (tgt := 16) dX5_must_9 (by decide) (by decide) (fun _ => ?_) (fun q9 => absurd q9 (by decide))
  refine r_iconst (v := nI 0) dX5_must_16 rfl ?_
  refine r_P4 (v := 0) hR (by decide) fl_X5_142 dX5_must_17 sh_34 rfl (fun M hR hF1 => ?_)
  have hF := hF.trans hF1
  refine r_aload_n dX5_must_20 rfl rfl ?_
  refine r_dup dX5_must_21 rfl ?_
  refine r_getV fl_X5_139 dX5_must_22 sh_34 rfl hR.p3 ?_
  refine r_aload_n dX5_must_25 rfl rfl ?_
  refine r_getV fl_X5_142 dX5_must_26 sh_34 rfl hR.p4 ?_
  refine r_if_eqN (x := 0) (tgt := 36) dX5_must_29 (by decide) (by decide) (fun _ => ?_) (fun q9 => absurd q9 (by decide))
  refine r_iconst (v := nI 1) dX5_must_36 rfl ?_
  first | refine r_iaddN dX5_must_37 ?_ | refine r_iadd dX5_must_37 ?_
  refine r_P3 hR fl_X5_139 dX5_must_38 sh_34 rfl (fun M hR hF1 => ?_)
  have hF := hF.trans hF1
  refine r_vret dX5_must_41 rfl (by decide) (by decide) ?_
  exact ⟨rfl, rfl, hR, hF⟩

set_option maxHeartbeats 4000000 in
set_option maxRecDepth 100000 in
theorem c5_mustF (l : Launch) {rw : List zC} {M0 : zM} {t : Nat → Nat → Nat} {p : Nat} {rd : Nat → Nat} (hR : RI (pt t p 0 rd) M0) (hB : TB (t 36) (t 34 2)) : CT l false 0 0 0 yX5_must cX5_must 2 none [.ref 34, .int (nI 0)] (zSh ++ rw) M0 (zG (zSh ++ rw) (fun v9 M9 => v9 = none ∧ RI (pt t (p) (1) rd) M9 ∧ zfr PR M0 M9)) := by
  refine CT.ofN (by decide) (fun _ _ => Nat.le_of_ble_eq_true rfl) ?_
  have hF : zfr PR M0 M0 := zfr.rf
  have hL := hB.1
  refine r_aload_n dX5_must_0 rfl rfl ?_
  refine r_aload_n dX5_must_1 rfl rfl ?_
  refine r_getV fl_X5_142 dX5_must_2 sh_34 rfl hR.p4 ?_
  refine r_if_neN (x := 0) (tgt := 12) dX5_must_5 (by decide) (by decide) (fun q9 => absurd q9 (by decide)) (fun _ => ?_)
  refine r_iload_n dX5_must_8 rfl rfl ?_
  refine r_if_neN (x := 0) (tgt := 16) dX5_must_9 (by decide) (by decide) (fun q9 => absurd q9 (by decide)) (fun _ => ?_)
  refine r_iconst (v := nI 1) dX5_must_12 rfl ?_
  refine r_goto (tgt := 17) dX5_must_13 (by decide) ?_
  refine r_P4 (v := 1) hR (by decide) fl_X5_142 dX5_must_17 sh_34 rfl (fun M hR hF1 => ?_)
  have hF := hF.trans hF1
  refine r_aload_n dX5_must_20 rfl rfl ?_
  refine r_dup dX5_must_21 rfl ?_
  refine r_getV fl_X5_139 dX5_must_22 sh_34 rfl hR.p3 ?_
  refine r_aload_n dX5_must_25 rfl rfl ?_
  refine r_getV fl_X5_142 dX5_must_26 sh_34 rfl hR.p4 ?_
  refine r_if_eqN (x := 1) (tgt := 36) dX5_must_29 (by decide) (by decide) (fun q9 => absurd q9 (by decide)) (fun _ => ?_)
  refine r_iconst (v := nI 0) dX5_must_32 rfl ?_
  refine r_goto (tgt := 37) dX5_must_33 (by decide) ?_
  first | refine r_iaddN dX5_must_37 ?_ | refine r_iadd dX5_must_37 ?_
  refine r_P3 hR fl_X5_139 dX5_must_38 sh_34 rfl (fun M hR hF1 => ?_)
  have hF := hF.trans hF1
  refine r_vret dX5_must_41 rfl (by decide) (by decide) ?_
  exact ⟨rfl, rfl, hR, hF⟩

set_option maxHeartbeats 4000000 in
set_option maxRecDepth 100000 in
theorem c5_must1 (l : Launch) {rw : List zC} {M0 : zM} {t : Nat → Nat → Nat} {p : Nat} {rd : Nat → Nat} (hR : RI (pt t p 1 rd) M0) (hB : TB (t 36) (t 34 2)) : CT l false 0 0 0 yX5_must cX5_must 2 none [.ref 34, .int (nI 0)] (zSh ++ rw) M0 (zG (zSh ++ rw) (fun v9 M9 => v9 = none ∧ RI (pt t (p) (1) rd) M9 ∧ zfr PR M0 M9)) := by
  refine CT.ofN (by decide) (fun _ _ => Nat.le_of_ble_eq_true rfl) ?_
  have hF : zfr PR M0 M0 := zfr.rf
  have hL := hB.1
  refine r_aload_n dX5_must_0 rfl rfl ?_
  refine r_aload_n dX5_must_1 rfl rfl ?_
  refine r_getV fl_X5_142 dX5_must_2 sh_34 rfl hR.p4 ?_
  refine r_if_neN (x := 1) (tgt := 12) dX5_must_5 (by decide) (by decide) (fun _ => ?_) (fun q9 => absurd q9 (by decide))
  refine r_iconst (v := nI 1) dX5_must_12 rfl ?_
  refine r_goto (tgt := 17) dX5_must_13 (by decide) ?_
  refine r_P4 (v := 1) hR (by decide) fl_X5_142 dX5_must_17 sh_34 rfl (fun M hR hF1 => ?_)
  have hF := hF.trans hF1
  refine r_aload_n dX5_must_20 rfl rfl ?_
  refine r_dup dX5_must_21 rfl ?_
  refine r_getV fl_X5_139 dX5_must_22 sh_34 rfl hR.p3 ?_
  refine r_aload_n dX5_must_25 rfl rfl ?_
  refine r_getV fl_X5_142 dX5_must_26 sh_34 rfl hR.p4 ?_
  refine r_if_eqN (x := 1) (tgt := 36) dX5_must_29 (by decide) (by decide) (fun q9 => absurd q9 (by decide)) (fun _ => ?_)
  refine r_iconst (v := nI 0) dX5_must_32 rfl ?_
  refine r_goto (tgt := 37) dX5_must_33 (by decide) ?_
  first | refine r_iaddN dX5_must_37 ?_ | refine r_iadd dX5_must_37 ?_
  refine r_P3 hR fl_X5_139 dX5_must_38 sh_34 rfl (fun M hR hF1 => ?_)
  have hF := hF.trans hF1
  refine r_vret dX5_must_41 rfl (by decide) (by decide) ?_
  exact ⟨rfl, rfl, hR, hF⟩

set_option maxHeartbeats 4000000 in
set_option maxRecDepth 100000 in
theorem c5_numF (l : Launch) {rw : List zC} {M0 : zM} {t : Nat → Nat → Nat} {p : Nat} {rd : Nat → Nat} {lo hi : Nat} (hR : RI (pt t p 1 rd) M0) (hB : TB (t 36) (t 34 2)) : CT l false 1 0 0 yX5_number cX5_number 6 (some .int) [.ref 34, .int (nI lo), .int (nI hi)] (zSh ++ rw) M0 (zG (zSh ++ rw) (fun v9 M9 => v9 = some (.int (nI 0)) ∧ RI (pt t (p) (1) rd) M9 ∧ zfr PR M0 M9)) := by
  refine CT.ofN (by decide) (fun _ _ => Nat.le_of_ble_eq_true rfl) ?_
  have hF : zfr PR M0 M0 := zfr.rf
  have hL := hB.1
  refine r_aload_n dX5_number_0 rfl rfl ?_
  refine r_getV fl_X5_142 dX5_number_1 sh_34 rfl hR.p4 ?_
  refine r_if_eqN (x := 1) (tgt := 11) dX5_number_4 (by decide) (by decide) (fun q9 => absurd q9 (by decide)) (fun _ => ?_)
  refine r_iconst (v := nI 0) dX5_number_7 rfl ?_
  refine r_goto (tgt := 15) dX5_number_8 (by decide) ?_
  refine r_istore_n dX5_number_15 rfl rfl (by decide) ?_
  refine r_aload_n dX5_number_16 rfl rfl ?_
  refine r_getV fl_X5_139 dX5_number_17 sh_34 rfl hR.p3 ?_
  refine r_istore dX5_number_20 rfl (by decide) ?_
  refine r_iconst (v := nI 0) dX5_number_22 rfl ?_
  refine r_istore dX5_number_23 rfl (by decide) ?_
  refine r_aload_n dX5_number_25 rfl rfl ?_
  refine r_aload_n dX5_number_26 rfl rfl ?_
  refine r_getV fl_X5_142 dX5_number_27 sh_34 rfl hR.p4 ?_
  refine r_if_neN (x := 1) (tgt := 47) dX5_number_30 (by decide) (by decide) (fun _ => ?_) (fun q9 => absurd q9 (by decide))
  refine r_iconst (v := nI 1) dX5_number_47 rfl ?_
  refine r_goto (tgt := 52) dX5_number_48 (by decide) ?_
  refine r_P4 (v := 1) hR (by decide) fl_X5_142 dX5_number_52 sh_34 rfl (fun M hR hF1 => ?_)
  have hF := hF.trans hF1
  refine r_aload_n dX5_number_55 rfl rfl ?_
  refine r_getV fl_X5_142 dX5_number_56 sh_34 rfl hR.p4 ?_
  refine r_if_neN (x := 1) (tgt := 139) dX5_number_59 (by decide) (by decide) (fun _ => ?_) (fun q9 => absurd q9 (by decide))
  refine r_aload_n dX5_number_139 rfl rfl ?_
  refine r_getV fl_X5_142 dX5_number_140 sh_34 rfl hR.p4 ?_
  refine r_if_neN (x := 1) (tgt := 170) dX5_number_143 (by decide) (by decide) (fun _ => ?_) (fun q9 => absurd q9 (by decide))
  refine r_iload dX5_number_170 rfl ?_
  refine r_iret dX5_number_172 rfl (by decide) (by decide) ?_
  exact ⟨rfl, rfl, hR, hF⟩

set_option maxHeartbeats 4000000 in
set_option maxRecDepth 100000 in
theorem c5_numT (l : Launch) {rw : List zC} {M0 : zM} {t : Nat → Nat → Nat} {p : Nat} {rd : Nat → Nat} {lo hi : Nat} (hR : RI (pt t p 0 rd) M0) (hB : TB (t 36) (t 34 2)) (hp : p ≤ (t 34 2)) (hlo : lo < 1000) (hhi : hi < 1000) : CT l false 1 0 0 yX5_number cX5_number 6 (some .int) [.ref 34, .int (nI lo), .int (nI hi)] (zSh ++ rw) M0 (zG (zSh ++ rw) (fun v9 M9 => v9 = some (.int (nI (nv (t 36) (t 34 2) p))) ∧ RI (pt t (cvp (nu (t 36) (t 34 2) lo hi (p, 0))) (cvq (nu (t 36) (t 34 2) lo hi (p, 0))) rd) M9 ∧ zfr PR M0 M9)) := by
  refine CT.ofN (by decide) (fun _ _ => Nat.le_of_ble_eq_true rfl) ?_
  have hF : zfr PR M0 M0 := zfr.rf
  have hL := hB.1
  have hwb := wh_b (f := t 36) hp
  have hkk : ∀ {k v : Nat}, wnm (t 36) (t 34 2) 3 (wh (t 36) (t 34 2) p) 0 = (wh (t 36) (t 34 2) p + k, v) → (ltr (t 36) (t 34 2) (wh (t 36) (t 34 2) p) ≥ 48 ∧ ltr (t 36) (t 34 2) (wh (t 36) (t 34 2) p) ≤ 57) → k ≠ 0 := by
    intro k v h1 h2 h3
    by_cases h4 : wh (t 36) (t 34 2) p < (t 34 2)
    · rw [ltr_t h4] at h2
      rw [wnm_s ⟨h4, h2.1, h2.2⟩] at h1
      have h5 := (wnm_b (f := t 36) (L := t 34 2) 2 (wh (t 36) (t 34 2) p + 1) (0 * 10 + t 36 (wh (t 36) (t 34 2) p) - 48) (by omega)).1
      rw [h1] at h5
      have h5 : wh (t 36) (t 34 2) p + 1 ≤ wh (t 36) (t 34 2) p + k := h5
      omega
    · rw [ltr_f h4] at h2
      omega
  refine r_aload_n dX5_number_0 rfl rfl ?_
  refine r_getV fl_X5_142 dX5_number_1 sh_34 rfl hR.p4 ?_
  refine r_if_eqN (x := 0) (tgt := 11) dX5_number_4 (by decide) (by decide) (fun _ => ?_) (fun q9 => absurd q9 (by decide))
  refine r_aload_n dX5_number_11 rfl rfl ?_
  refine r_cV0G mv_X5_here ml_X5_146 (c5_here l hR hB hp) dX5_number_12 (Nat.le_of_ble_eq_true rfl) ⟨by decide, by decide⟩ ⟨by decide, by decide⟩ sh_34 rfl (fun _ h => nomatch h) (fun v M1 hq => ?_)
  obtain ⟨rfl, hR, hF1⟩ := hq
  have hF := hF.trans hF1
  dsimp only [zrst, List.cons_append, List.nil_append]
  have hl9 := ltr_le (a := wh (t 36) (t 34 2) p) hB
  refine r_istore_n dX5_number_15 rfl rfl (by decide) ?_
  refine r_aload_n dX5_number_16 rfl rfl ?_
  refine r_getV fl_X5_139 dX5_number_17 sh_34 rfl hR.p3 ?_
  refine r_istore dX5_number_20 rfl (by decide) ?_
  refine r_iconst (v := nI 0) dX5_number_22 rfl ?_
  refine r_istore dX5_number_23 rfl (by decide) ?_
  refine r_aload_n dX5_number_25 rfl rfl ?_
  refine r_aload_n dX5_number_26 rfl rfl ?_
  refine r_getV fl_X5_142 dX5_number_27 sh_34 rfl hR.p4 ?_
  refine r_if_neN (x := 0) (tgt := 47) dX5_number_30 (by decide) (by decide) (fun q9 => absurd q9 (by decide)) (fun _ => ?_)
  refine r_iload_n dX5_number_33 rfl rfl ?_
  refine r_i2l dX5_number_34 rfl ?_
  refine r_ldc2 kc_X5_149 dX5_number_35 ?_
  refine r_ldc2 kc_X5_151 dX5_number_38 ?_
  refine r_cS3F ms_X5_in ml_X5_41 (c5_in l _ _ _) dX5_number_41 (Nat.le_of_ble_eq_true rfl) ⟨by decide, by decide⟩ ⟨by decide, by decide⟩ (fun _ h => nomatch h) ?_
  try dsimp only [zrst, List.cons_append, List.nil_append]
  first | refine r_if_neB (tgt := 51) dX5_number_44 (by decide) (fun c1 => ?_) (fun c1 => ?_) | refine r_if_neN (tgt := 51) dX5_number_44 (by decide) (by omega) (fun c1 => ?_) (fun c1 => ?_) | refine r_if_ne (tgt := 51) dX5_number_44 (by decide) (fun c1 => ?_) (fun c1 => ?_)
  · have g0 := (in_48 (by omega)).mp c1
    refine r_iconst (v := nI 0) dX5_number_51 rfl ?_
    refine r_P4 (v := 0) hR (by decide) fl_X5_142 dX5_number_52 sh_34 rfl (fun M hR hF1 => ?_)
    have hF := hF.trans hF1
    have loop : ∀ (j k : Nat) (M : zM) (v : Nat) (hR : RI (pt t (wh (t 36) (t 34 2) p + k) 0 rd) M) (hF : zfr PR M0 M) (hv : v + 1 ≤ 10 ^ k) (hq : wnm (t 36) (t 34 2) 3 (wh (t 36) (t 34 2) p) 0 = wnm (t 36) (t 34 2) (3 - k) (wh (t 36) (t 34 2) p + k) v) (hkL : wh (t 36) (t 34 2) p + k ≤ (t 34 2)) (hk1 : k = 0 → ltr (t 36) (t 34 2) (wh (t 36) (t 34 2) p) ≥ 48 ∧ ltr (t 36) (t 34 2) (wh (t 36) (t 34 2) p) ≤ 57), k ≤ 3 → 3 < k + j → RA l none (zR 1 0 0) yX5_number cX5_number 6 (some .int) (zG (zSh ++ rw) (fun v9 M9 => v9 = some (.int (nI (nv (t 36) (t 34 2) p))) ∧ RI (pt t (cvp (nu (t 36) (t 34 2) lo hi (p, 0))) (cvq (nu (t 36) (t 34 2) lo hi (p, 0))) rd) M9 ∧ zfr PR M0 M9)) 0 0 55 [some (.ref 34), some (.int (nI lo)), some (.int (nI hi)), some (.int (nI (ltr (t 36) (t 34 2) (wh (t 36) (t 34 2) p)))), some (.int (nI (wh (t 36) (t 34 2) p))), some (.int (nI v))] [] (zSh ++ rw) M := by
      intro j
      induction j with
      | zero => intro k M v hR hF hv hq hkL hk1 hk hj; exact absurd hj (by omega)
      | succ j ih =>
        intro k M v hR hF hv hq hkL hk1 hk hj
        have hp9 : 10 ^ k ≤ 1000 := Nat.pow_le_pow_right (by decide) hk
        refine r_aload_n dX5_number_55 rfl rfl ?_
        refine r_getV fl_X5_142 dX5_number_56 sh_34 rfl hR.p4 ?_
        refine r_if_neN (x := 0) (tgt := 139) dX5_number_59 (by decide) (by decide) (fun q9 => absurd q9 (by decide)) (fun _ => ?_)
        refine r_aload_n dX5_number_62 rfl rfl ?_
        refine r_getV fl_X5_139 dX5_number_63 sh_34 rfl hR.p3 ?_
        refine r_aload_n dX5_number_66 rfl rfl ?_
        refine r_getV fl_X5_136 dX5_number_67 sh_34 rfl hR.p2 ?_
        first | refine r_icmp_geN (tgt := 139) dX5_number_70 (by decide) (by omega) (by omega) (fun c1 => ?_) (fun c1 => ?_) | refine r_icmp_ge (tgt := 139) dX5_number_70 (by decide) (fun c1 => ?_) (fun c1 => ?_)
        · have hx : wnm (t 36) (t 34 2) 3 (wh (t 36) (t 34 2) p) 0 = (wh (t 36) (t 34 2) p + k, v) := by rw [hq]; exact wnm_no (by omega)
          refine r_aload_n dX5_number_139 rfl rfl ?_
          refine r_getV fl_X5_142 dX5_number_140 sh_34 rfl hR.p4 ?_
          refine r_if_neN (x := 0) (tgt := 170) dX5_number_143 (by decide) (by decide) (fun q9 => absurd q9 (by decide)) (fun _ => ?_)
          refine r_iload dX5_number_146 rfl ?_
          refine r_i2l dX5_number_148 rfl ?_
          refine r_iload_n dX5_number_149 rfl rfl ?_
          refine r_i2l dX5_number_150 rfl ?_
          refine r_iload_n dX5_number_151 rfl rfl ?_
          refine r_i2l dX5_number_152 rfl ?_
          refine r_cS3F ms_X5_in ml_X5_41 (c5_in l _ _ _) dX5_number_153 (Nat.le_of_ble_eq_true rfl) ⟨by decide, by decide⟩ ⟨by decide, by decide⟩ (fun _ h => nomatch h) ?_
          try dsimp only [zrst, List.cons_append, List.nil_append]
          first | refine r_if_neB (tgt := 170) dX5_number_156 (by decide) (fun c2 => ?_) (fun c2 => ?_) | refine r_if_neN (tgt := 170) dX5_number_156 (by decide) (by omega) (fun c2 => ?_) (fun c2 => ?_) | refine r_if_ne (tgt := 170) dX5_number_156 (by decide) (fun c2 => ?_) (fun c2 => ?_)
          · rw [in_N (by omega) (by omega) (by omega)] at c2
            refine r_iload dX5_number_170 rfl ?_
            refine r_iret dX5_number_172 rfl (by decide) (by decide) ?_
            refine ⟨rfl, congrArg (fun x => some (Value.int (nI x))) (by rw [nv, hx]), ?_, hF⟩
            have hk0 : k ≠ 0 := hkk hx g0
            have hn9 : nu (t 36) (t 34 2) lo hi (p, 0) = _ := nu_eq hx
            first
            | (rw [if_pos (by omega), fa_0] at hn9; rw [hn9]; exact hR)
            | (rw [if_neg (by omega)] at hn9; rw [hn9]; exact hR)
          · rw [in_N (by omega) (by omega) (by omega)] at c2
            refine r_aload_n dX5_number_159 rfl rfl ?_
            refine r_iconst (v := nI 1) dX5_number_160 rfl ?_
            refine r_P4 (v := 1) hR (by decide) fl_X5_142 dX5_number_161 sh_34 rfl (fun M hR hF1 => ?_)
            have hF := hF.trans hF1
            refine r_aload_n dX5_number_164 rfl rfl ?_
            refine r_iload dX5_number_165 rfl ?_
            refine r_P3 hR fl_X5_139 dX5_number_167 sh_34 rfl (fun M hR hF1 => ?_)
            have hF := hF.trans hF1
            refine r_iload dX5_number_170 rfl ?_
            refine r_iret dX5_number_172 rfl (by decide) (by decide) ?_
            refine ⟨rfl, congrArg (fun x => some (Value.int (nI x))) (by rw [nv, hx]), ?_, hF⟩
            have hk0 : k ≠ 0 := hkk hx g0
            have hn9 : nu (t 36) (t 34 2) lo hi (p, 0) = _ := nu_eq hx
            first
            | (rw [if_pos (by omega), fa_0] at hn9; rw [hn9]; exact hR)
            | (rw [if_neg (by omega)] at hn9; rw [hn9]; exact hR)
        · have hb1 := hB.2 _ c1
          refine r_aload_n dX5_number_73 rfl rfl ?_
          refine r_getV fl_X5_139 dX5_number_74 sh_34 rfl hR.p3 ?_
          refine r_iload dX5_number_77 rfl ?_
          first | refine r_isubN dX5_number_79 (by omega) ?_ | refine r_isub dX5_number_79 ?_
          refine r_iconst (v := nI 3) dX5_number_80 rfl ?_
          first | refine r_icmp_geN (tgt := 139) dX5_number_81 (by decide) (by omega) (by omega) (fun c3 => ?_) (fun c3 => ?_) | refine r_icmp_ge (tgt := 139) dX5_number_81 (by decide) (fun c3 => ?_) (fun c3 => ?_)
          · have hx : wnm (t 36) (t 34 2) 3 (wh (t 36) (t 34 2) p) 0 = (wh (t 36) (t 34 2) p + k, v) := by rw [hq, show 3 - k = 0 by omega, wnm]
            refine r_aload_n dX5_number_139 rfl rfl ?_
            refine r_getV fl_X5_142 dX5_number_140 sh_34 rfl hR.p4 ?_
            refine r_if_neN (x := 0) (tgt := 170) dX5_number_143 (by decide) (by decide) (fun q9 => absurd q9 (by decide)) (fun _ => ?_)
            refine r_iload dX5_number_146 rfl ?_
            refine r_i2l dX5_number_148 rfl ?_
            refine r_iload_n dX5_number_149 rfl rfl ?_
            refine r_i2l dX5_number_150 rfl ?_
            refine r_iload_n dX5_number_151 rfl rfl ?_
            refine r_i2l dX5_number_152 rfl ?_
            refine r_cS3F ms_X5_in ml_X5_41 (c5_in l _ _ _) dX5_number_153 (Nat.le_of_ble_eq_true rfl) ⟨by decide, by decide⟩ ⟨by decide, by decide⟩ (fun _ h => nomatch h) ?_
            try dsimp only [zrst, List.cons_append, List.nil_append]
            first | refine r_if_neB (tgt := 170) dX5_number_156 (by decide) (fun c4 => ?_) (fun c4 => ?_) | refine r_if_neN (tgt := 170) dX5_number_156 (by decide) (by omega) (fun c4 => ?_) (fun c4 => ?_) | refine r_if_ne (tgt := 170) dX5_number_156 (by decide) (fun c4 => ?_) (fun c4 => ?_)
            · rw [in_N (by omega) (by omega) (by omega)] at c4
              refine r_iload dX5_number_170 rfl ?_
              refine r_iret dX5_number_172 rfl (by decide) (by decide) ?_
              refine ⟨rfl, congrArg (fun x => some (Value.int (nI x))) (by rw [nv, hx]), ?_, hF⟩
              have hk0 : k ≠ 0 := hkk hx g0
              have hn9 : nu (t 36) (t 34 2) lo hi (p, 0) = _ := nu_eq hx
              first
              | (rw [if_pos (by omega), fa_0] at hn9; rw [hn9]; exact hR)
              | (rw [if_neg (by omega)] at hn9; rw [hn9]; exact hR)
            · rw [in_N (by omega) (by omega) (by omega)] at c4
              refine r_aload_n dX5_number_159 rfl rfl ?_
              refine r_iconst (v := nI 1) dX5_number_160 rfl ?_
              refine r_P4 (v := 1) hR (by decide) fl_X5_142 dX5_number_161 sh_34 rfl (fun M hR hF1 => ?_)
              have hF := hF.trans hF1
              refine r_aload_n dX5_number_164 rfl rfl ?_
              refine r_iload dX5_number_165 rfl ?_
              refine r_P3 hR fl_X5_139 dX5_number_167 sh_34 rfl (fun M hR hF1 => ?_)
              have hF := hF.trans hF1
              refine r_iload dX5_number_170 rfl ?_
              refine r_iret dX5_number_172 rfl (by decide) (by decide) ?_
              refine ⟨rfl, congrArg (fun x => some (Value.int (nI x))) (by rw [nv, hx]), ?_, hF⟩
              have hk0 : k ≠ 0 := hkk hx g0
              have hn9 : nu (t 36) (t 34 2) lo hi (p, 0) = _ := nu_eq hx
              first
              | (rw [if_pos (by omega), fa_0] at hn9; rw [hn9]; exact hR)
              | (rw [if_neg (by omega)] at hn9; rw [hn9]; exact hR)
          · refine r_aload_n dX5_number_84 rfl rfl ?_
            refine r_getR fl_X5_13 dX5_number_85 sh_34 rfl ?_
            refine r_aload_n dX5_number_88 rfl rfl ?_
            refine r_getV fl_X5_139 dX5_number_89 sh_34 rfl hR.p3 ?_
            refine r_ialdN dX5_number_92 sh_36 (by omega) (by decide) (hR.p36 _) ?_
            refine r_i2l dX5_number_93 rfl ?_
            refine r_ldc2 kc_X5_149 dX5_number_94 ?_
            refine r_ldc2 kc_X5_151 dX5_number_97 ?_
            refine r_cS3F ms_X5_in ml_X5_41 (c5_in l _ _ _) dX5_number_100 (Nat.le_of_ble_eq_true rfl) ⟨by decide, by decide⟩ ⟨by decide, by decide⟩ (fun _ h => nomatch h) ?_
            try dsimp only [zrst, List.cons_append, List.nil_append]
            first | refine r_if_eqB (tgt := 139) dX5_number_103 (by decide) (fun c5 => ?_) (fun c5 => ?_) | refine r_if_eqN (tgt := 139) dX5_number_103 (by decide) (by omega) (fun c5 => ?_) (fun c5 => ?_) | refine r_if_eq (tgt := 139) dX5_number_103 (by decide) (fun c5 => ?_) (fun c5 => ?_)
            · rw [in_48 (by omega)] at c5
              have hx : wnm (t 36) (t 34 2) 3 (wh (t 36) (t 34 2) p) 0 = (wh (t 36) (t 34 2) p + k, v) := by rw [hq]; exact wnm_no (fun q => c5 q.2)
              refine r_aload_n dX5_number_139 rfl rfl ?_
              refine r_getV fl_X5_142 dX5_number_140 sh_34 rfl hR.p4 ?_
              refine r_if_neN (x := 0) (tgt := 170) dX5_number_143 (by decide) (by decide) (fun q9 => absurd q9 (by decide)) (fun _ => ?_)
              refine r_iload dX5_number_146 rfl ?_
              refine r_i2l dX5_number_148 rfl ?_
              refine r_iload_n dX5_number_149 rfl rfl ?_
              refine r_i2l dX5_number_150 rfl ?_
              refine r_iload_n dX5_number_151 rfl rfl ?_
              refine r_i2l dX5_number_152 rfl ?_
              refine r_cS3F ms_X5_in ml_X5_41 (c5_in l _ _ _) dX5_number_153 (Nat.le_of_ble_eq_true rfl) ⟨by decide, by decide⟩ ⟨by decide, by decide⟩ (fun _ h => nomatch h) ?_
              try dsimp only [zrst, List.cons_append, List.nil_append]
              first | refine r_if_neB (tgt := 170) dX5_number_156 (by decide) (fun c6 => ?_) (fun c6 => ?_) | refine r_if_neN (tgt := 170) dX5_number_156 (by decide) (by omega) (fun c6 => ?_) (fun c6 => ?_) | refine r_if_ne (tgt := 170) dX5_number_156 (by decide) (fun c6 => ?_) (fun c6 => ?_)
              · rw [in_N (by omega) (by omega) (by omega)] at c6
                refine r_iload dX5_number_170 rfl ?_
                refine r_iret dX5_number_172 rfl (by decide) (by decide) ?_
                refine ⟨rfl, congrArg (fun x => some (Value.int (nI x))) (by rw [nv, hx]), ?_, hF⟩
                have hk0 : k ≠ 0 := hkk hx g0
                have hn9 : nu (t 36) (t 34 2) lo hi (p, 0) = _ := nu_eq hx
                first
                | (rw [if_pos (by omega), fa_0] at hn9; rw [hn9]; exact hR)
                | (rw [if_neg (by omega)] at hn9; rw [hn9]; exact hR)
              · rw [in_N (by omega) (by omega) (by omega)] at c6
                refine r_aload_n dX5_number_159 rfl rfl ?_
                refine r_iconst (v := nI 1) dX5_number_160 rfl ?_
                refine r_P4 (v := 1) hR (by decide) fl_X5_142 dX5_number_161 sh_34 rfl (fun M hR hF1 => ?_)
                have hF := hF.trans hF1
                refine r_aload_n dX5_number_164 rfl rfl ?_
                refine r_iload dX5_number_165 rfl ?_
                refine r_P3 hR fl_X5_139 dX5_number_167 sh_34 rfl (fun M hR hF1 => ?_)
                have hF := hF.trans hF1
                refine r_iload dX5_number_170 rfl ?_
                refine r_iret dX5_number_172 rfl (by decide) (by decide) ?_
                refine ⟨rfl, congrArg (fun x => some (Value.int (nI x))) (by rw [nv, hx]), ?_, hF⟩
                have hk0 : k ≠ 0 := hkk hx g0
                have hn9 : nu (t 36) (t 34 2) lo hi (p, 0) = _ := nu_eq hx
                first
                | (rw [if_pos (by omega), fa_0] at hn9; rw [hn9]; exact hR)
                | (rw [if_neg (by omega)] at hn9; rw [hn9]; exact hR)
            · have g1 := (in_48 (by omega)).mp c5
              refine r_bipush (v := nI 10) dX5_number_106 rfl ?_
              refine r_iload dX5_number_108 rfl ?_
              first | refine r_imulN dX5_number_110 ?_ | refine r_imul dX5_number_110 ?_
              refine r_aload_n dX5_number_111 rfl rfl ?_
              refine r_getR fl_X5_13 dX5_number_112 sh_34 rfl ?_
              refine r_aload_n dX5_number_115 rfl rfl ?_
              refine r_getV fl_X5_139 dX5_number_116 sh_34 rfl hR.p3 ?_
              refine r_ialdN dX5_number_119 sh_36 (by omega) (by decide) (hR.p36 _) ?_
              first | refine r_iaddN dX5_number_120 ?_ | refine r_iadd dX5_number_120 ?_
              refine r_bipush (v := nI 48) dX5_number_121 rfl ?_
              first | refine r_isubN dX5_number_123 (by omega) ?_ | refine r_isub dX5_number_123 ?_
              refine r_top (v' := .int (nI (v * 10 + t 36 (wh (t 36) (t 34 2) p + k) - 48))) (congrArg (fun x => Value.int (nI x)) (by omega)) ?_
              refine r_istore dX5_number_124 rfl (by decide) ?_
              refine r_aload_n dX5_number_126 rfl rfl ?_
              refine r_dup dX5_number_127 rfl ?_
              refine r_getV fl_X5_139 dX5_number_128 sh_34 rfl hR.p3 ?_
              refine r_iconst (v := nI 1) dX5_number_131 rfl ?_
              first | refine r_iaddN dX5_number_132 ?_ | refine r_iadd dX5_number_132 ?_
              refine r_P3 hR fl_X5_139 dX5_number_133 sh_34 rfl (fun M hR hF1 => ?_)
              have hF := hF.trans hF1
              refine r_goto (tgt := 55) dX5_number_136 (by decide) ?_
              exact ih (k + 1) M _ hR hF (by rw [Nat.pow_succ]; omega) (by rw [hq, show 3 - k = (3 - (k + 1)) + 1 by omega]; exact wnm_s ⟨by omega, g1.1, g1.2⟩) (by omega) (fun q => absurd q (by omega)) (by omega) (by omega)
    exact loop (3 + 1) 0 _ 0 hR hF (Nat.le_refl _) rfl hwb.2.1 (fun _ => g0) (Nat.zero_le _) (by omega)
  · rw [in_48 (by omega)] at c1
    have hno0 : ¬ (wh (t 36) (t 34 2) p < (t 34 2) ∧ 48 ≤ t 36 (wh (t 36) (t 34 2) p) ∧ t 36 (wh (t 36) (t 34 2) p) ≤ 57) := fun q => c1 (by rw [ltr_t q.1]; exact q.2)
    refine r_iconst (v := nI 1) dX5_number_47 rfl ?_
    refine r_goto (tgt := 52) dX5_number_48 (by decide) ?_
    refine r_P4 (v := 1) hR (by decide) fl_X5_142 dX5_number_52 sh_34 rfl (fun M hR hF1 => ?_)
    have hF := hF.trans hF1
    refine r_aload_n dX5_number_55 rfl rfl ?_
    refine r_getV fl_X5_142 dX5_number_56 sh_34 rfl hR.p4 ?_
    refine r_if_neN (x := 1) (tgt := 139) dX5_number_59 (by decide) (by decide) (fun _ => ?_) (fun q9 => absurd q9 (by decide))
    refine r_aload_n dX5_number_139 rfl rfl ?_
    refine r_getV fl_X5_142 dX5_number_140 sh_34 rfl hR.p4 ?_
    refine r_if_neN (x := 1) (tgt := 170) dX5_number_143 (by decide) (by decide) (fun _ => ?_) (fun q9 => absurd q9 (by decide))
    refine r_iload dX5_number_170 rfl ?_
    refine r_iret dX5_number_172 rfl (by decide) (by decide) ?_
    have hx : wnm (t 36) (t 34 2) 3 (wh (t 36) (t 34 2) p) 0 = (wh (t 36) (t 34 2) p, 0) := wnm_no (fun q => hno0 q)
    refine ⟨rfl, congrArg (fun x => some (Value.int (nI x))) (by rw [nv, hx]), ?_, hF⟩
    have hn9 : nu (t 36) (t 34 2) lo hi (p, 0) = _ := nu_eq hx
    rw [if_pos (Or.inl rfl), fa_0] at hn9
    rw [hn9]
    exact hR

