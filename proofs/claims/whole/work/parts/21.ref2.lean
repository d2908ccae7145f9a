theorem nsub_ge {a b : Nat} (ha : a < 2 ^ 30) (hb : b < 2 ^ 30) : 0 ≤ nI a - nI b ↔ b ≤ a := by
  rw [i32_le, pk_sub_toInt ha hb]
  show (0 : Int) ≤ _ ↔ _
  omega
theorem nsub_lt {a b : Nat} (ha : a < 2 ^ 30) (hb : b < 2 ^ 30) (h : ¬ 0 ≤ nI a - nI b) : a < b := Nat.not_le.mp (fun q => h ((nsub_ge ha hb).mpr q))
set_option maxHeartbeats 4000000 in
set_option maxRecDepth 100000 in
theorem c5_left (l : Launch) {rw : List zC} {M : zM} {t : Nat → Nat → Nat} (hR : RI t M) {d day md : Nat} (hd : d < 10) (hday : t 35 (49 + 4 * d + 3) ≤ day) (hdy : day < 20000) (hmd : md < 2147483648) (hf : 1 ≤ t 35 4 ∧ t 35 4 ≤ 30) (hw : t 35 (49 + 4 * d + 2) ≤ 9) : CT l false 1 0 0 yX5_left cX5_left 5 (some .int) [.ref 34, .int (nI d), .int (nI day), .int (nI md)] (zSh ++ rw) M (zF (some (.int (nI (lft (t 35) d day md)))) (zSh ++ rw) M) := by
  refine CT.ofN (by decide) (fun _ _ => Nat.le_of_ble_eq_true rfl) ?_
  refine r_aload_n dX5_left_0 rfl rfl ?_
  refine r_iload_n dX5_left_1 rfl rfl ?_
  refine r_iconst (v := nI 2) dX5_left_2 rfl ?_
  refine r_cV2F mv_X5_told ml_X5_47 (c5_told l hR (by omega) (by omega)) dX5_left_3 (Nat.le_of_ble_eq_true rfl) ⟨by decide, by decide⟩ ⟨by decide, by decide⟩ sh_34 rfl (fun _ h => nomatch h) ?_
  try dsimp only [zrst, List.cons_append, List.nil_append]
  refine r_iload_n dX5_left_6 rfl rfl ?_
  refine r_aload_n dX5_left_7 rfl rfl ?_
  refine r_iload_n dX5_left_8 rfl rfl ?_
  refine r_iconst (v := nI 3) dX5_left_9 rfl ?_
  refine r_cV2F mv_X5_told ml_X5_47 (c5_told l hR (by omega) (by omega)) dX5_left_10 (Nat.le_of_ble_eq_true rfl) ⟨by decide, by decide⟩ ⟨by decide, by decide⟩ sh_34 rfl (fun _ h => nomatch h) ?_
  try dsimp only [zrst, List.cons_append, List.nil_append]
  first | refine r_isubN dX5_left_13 (by omega) ?_ | refine r_isub dX5_left_13 ?_
  refine r_aload_n dX5_left_14 rfl rfl ?_
  refine r_getR fl_X5_7 dX5_left_15 sh_34 rfl ?_
  refine r_iconst (v := nI 4) dX5_left_18 rfl ?_
  refine r_ialdN dX5_left_19 sh_35 (by omega) (by decide) (hR.a35 _) ?_
  refine r_idivN dX5_left_20 (by omega) (by omega) (by omega) ?_
  have hq2 := Nat.div_le_self (day - t 35 (49 + 4 * d + 3)) (t 35 4)
  generalize hq : (day - t 35 (49 + 4 * d + 3)) / t 35 4 = q at hq2 ⊢
  first | refine r_isubN dX5_left_21 (by omega) ?_ | refine r_isub dX5_left_21 ?_
  refine r_istore dX5_left_22 rfl (by decide) ?_
  refine r_iload dX5_left_24 rfl ?_
  refine r_if_ge (tgt := 33) dX5_left_26 (by decide) (fun c1 => ?_) (fun c1 => ?_)
  · have c1 := (nsub_ge (by omega) (by omega)).mp c1
    rw [pk_sub c1]
    refine r_iload dX5_left_33 rfl ?_
    refine r_istore dX5_left_35 rfl (by decide) ?_
    refine r_iload_n dX5_left_37 rfl rfl ?_
    refine r_iload_n dX5_left_38 rfl rfl ?_
    first | refine r_ishrN dX5_left_39 (by omega) (by omega) ?_ | refine r_ishr dX5_left_39 ?_
    refine r_iconst (v := nI 1) dX5_left_40 rfl ?_
    first | refine r_iandN dX5_left_41 ?_ | refine r_iand dX5_left_41 ?_
    rw [bit1]
    have hbt : (if md.testBit d = true then 1 else 0) < 2 := by split <;> decide
    refine r_iconst (v := nI 1) dX5_left_42 rfl ?_
    first | refine r_icmp_neN (tgt := 53) dX5_left_43 (by decide) (by omega) (by omega) (fun c2 => ?_) (fun c2 => ?_) | refine r_icmp_ne (tgt := 53) dX5_left_43 (by decide) (fun c2 => ?_) (fun c2 => ?_)
    · refine r_iload dX5_left_53 rfl ?_
      refine r_iret dX5_left_55 rfl (by decide) (by decide) ?_
      refine ⟨congrArg (fun x => some (Value.int x)) ?_, rfl, rfl⟩
      refine congrArg nI ?_
      unfold lft
      rw [hq]
      cases hb : md.testBit d <;> simp [hb] at * <;> omega
    · refine r_iload dX5_left_46 rfl ?_
      refine r_iconst (v := nI 2) dX5_left_48 rfl ?_
      refine r_idivN dX5_left_49 (by omega) (by omega) (by omega) ?_
      refine r_goto (tgt := 55) dX5_left_50 (by decide) ?_
      refine r_iret dX5_left_55 rfl (by decide) (by decide) ?_
      refine ⟨congrArg (fun x => some (Value.int x)) ?_, rfl, rfl⟩
      refine congrArg nI ?_
      unfold lft
      rw [hq]
      cases hb : md.testBit d <;> simp [hb] at * <;> omega
  · have c1 := nsub_lt (by omega) (by omega) c1
    refine r_iconst (v := nI 0) dX5_left_29 rfl ?_
    refine r_goto (tgt := 35) dX5_left_30 (by decide) ?_
    refine r_istore dX5_left_35 rfl (by decide) ?_
    refine r_iload_n dX5_left_37 rfl rfl ?_
    refine r_iload_n dX5_left_38 rfl rfl ?_
    first | refine r_ishrN dX5_left_39 (by omega) (by omega) ?_ | refine r_ishr dX5_left_39 ?_
    refine r_iconst (v := nI 1) dX5_left_40 rfl ?_
    first | refine r_iandN dX5_left_41 ?_ | refine r_iand dX5_left_41 ?_
    rw [bit1]
    have hbt : (if md.testBit d = true then 1 else 0) < 2 := by split <;> decide
    refine r_iconst (v := nI 1) dX5_left_42 rfl ?_
    first | refine r_icmp_neN (tgt := 53) dX5_left_43 (by decide) (by omega) (by omega) (fun c3 => ?_) (fun c3 => ?_) | refine r_icmp_ne (tgt := 53) dX5_left_43 (by decide) (fun c3 => ?_) (fun c3 => ?_)
    · refine r_iload dX5_left_53 rfl ?_
      refine r_iret dX5_left_55 rfl (by decide) (by decide) ?_
      refine ⟨congrArg (fun x => some (Value.int x)) ?_, rfl, rfl⟩
      refine congrArg nI ?_
      unfold lft
      rw [hq]
      cases hb : md.testBit d <;> simp [hb] at * <;> omega
    · refine r_iload dX5_left_46 rfl ?_
      refine r_iconst (v := nI 2) dX5_left_48 rfl ?_
      refine r_idivN dX5_left_49 (by omega) (by omega) (by omega) ?_
      refine r_goto (tgt := 55) dX5_left_50 (by decide) ?_
      refine r_iret dX5_left_55 rfl (by decide) (by decide) ?_
      refine ⟨congrArg (fun x => some (Value.int x)) ?_, rfl, rfl⟩
      refine congrArg nI ?_
      unfold lft
      rw [hq]
      cases hb : md.testBit d <;> simp [hb] at * <;> omega

set_option maxHeartbeats 4000000 in
set_option maxRecDepth 100000 in
theorem c5_shows (l : Launch) {S : List zC} {M : zM} {s m : Nat} (hs : s ≤ 5) (hm : m ≤ 3) : CT l false 0 0 0 yX5_shows cX5_shows 2 (some .boolean) [.int (nI s), .int (nI m)] S M (zF (some (.int (zb (shw s m = true)))) S M) := by
  refine CT.ofN (by decide) (fun _ _ => Nat.le_of_ble_eq_true rfl) ?_
  refine r_iload_n dX5_shows_0 rfl rfl ?_
  refine r_iconst (v := nI 5) dX5_shows_1 rfl ?_
  first | refine r_icmp_eqN (tgt := 48) dX5_shows_2 (by decide) (by omega) (by omega) (fun c1 => ?_) (fun c1 => ?_) | refine r_icmp_eq (tgt := 48) dX5_shows_2 (by decide) (fun c1 => ?_) (fun c1 => ?_)
  · refine r_iconst (v := nI 1) dX5_shows_48 rfl ?_
    refine r_goto (tgt := 53) dX5_shows_49 (by decide) ?_
    refine r_zret dX5_shows_53 rfl (by first | exact Or.inl rfl | exact Or.inr rfl | exact zb01) (by decide) (by decide) ?_
    refine ⟨congrArg (fun x => some (Value.int x)) ?_, rfl, rfl⟩
    rcases (show s = 0 ∨ s = 1 ∨ s = 2 ∨ s = 3 ∨ s = 4 ∨ s = 5 by omega) with rfl | rfl | rfl | rfl | rfl | rfl <;> rcases (show m = 0 ∨ m = 1 ∨ m = 2 ∨ m = 3 by omega) with rfl | rfl | rfl | rfl <;> first | rfl | (exfalso; omega)
  · refine r_iload_n dX5_shows_5 rfl rfl ?_
    first | refine r_if_neB (tgt := 14) dX5_shows_6 (by decide) (fun c2 => ?_) (fun c2 => ?_) | refine r_if_neN (tgt := 14) dX5_shows_6 (by decide) (by omega) (fun c2 => ?_) (fun c2 => ?_) | refine r_if_ne (tgt := 14) dX5_shows_6 (by decide) (fun c2 => ?_) (fun c2 => ?_)
    · refine r_iload_n dX5_shows_14 rfl rfl ?_
      refine r_iconst (v := nI 1) dX5_shows_15 rfl ?_
      first | refine r_icmp_eqN (tgt := 24) dX5_shows_16 (by decide) (by omega) (by omega) (fun c3 => ?_) (fun c3 => ?_) | refine r_icmp_eq (tgt := 24) dX5_shows_16 (by decide) (fun c3 => ?_) (fun c3 => ?_)
      · refine r_iload_n dX5_shows_24 rfl rfl ?_
        first | refine r_if_eqB (tgt := 48) dX5_shows_25 (by decide) (fun c4 => ?_) (fun c4 => ?_) | refine r_if_eqN (tgt := 48) dX5_shows_25 (by decide) (by omega) (fun c4 => ?_) (fun c4 => ?_) | refine r_if_eq (tgt := 48) dX5_shows_25 (by decide) (fun c4 => ?_) (fun c4 => ?_)
        · refine r_iconst (v := nI 1) dX5_shows_48 rfl ?_
          refine r_goto (tgt := 53) dX5_shows_49 (by decide) ?_
          refine r_zret dX5_shows_53 rfl (by first | exact Or.inl rfl | exact Or.inr rfl | exact zb01) (by decide) (by decide) ?_
          refine ⟨congrArg (fun x => some (Value.int x)) ?_, rfl, rfl⟩
          rcases (show s = 0 ∨ s = 1 ∨ s = 2 ∨ s = 3 ∨ s = 4 ∨ s = 5 by omega) with rfl | rfl | rfl | rfl | rfl | rfl <;> rcases (show m = 0 ∨ m = 1 ∨ m = 2 ∨ m = 3 by omega) with rfl | rfl | rfl | rfl <;> first | rfl | (exfalso; omega)
        · refine r_iload_n dX5_shows_28 rfl rfl ?_
          refine r_iconst (v := nI 3) dX5_shows_29 rfl ?_
          first | refine r_icmp_neN (tgt := 38) dX5_shows_30 (by decide) (by omega) (by omega) (fun c5 => ?_) (fun c5 => ?_) | refine r_icmp_ne (tgt := 38) dX5_shows_30 (by decide) (fun c5 => ?_) (fun c5 => ?_)
          · refine r_iload_n dX5_shows_38 rfl rfl ?_
            refine r_iconst (v := nI 4) dX5_shows_39 rfl ?_
            first | refine r_icmp_neN (tgt := 52) dX5_shows_40 (by decide) (by omega) (by omega) (fun c6 => ?_) (fun c6 => ?_) | refine r_icmp_ne (tgt := 52) dX5_shows_40 (by decide) (fun c6 => ?_) (fun c6 => ?_)
            · refine r_iconst (v := nI 0) dX5_shows_52 rfl ?_
              refine r_zret dX5_shows_53 rfl (by first | exact Or.inl rfl | exact Or.inr rfl | exact zb01) (by decide) (by decide) ?_
              refine ⟨congrArg (fun x => some (Value.int x)) ?_, rfl, rfl⟩
              rcases (show s = 0 ∨ s = 1 ∨ s = 2 ∨ s = 3 ∨ s = 4 ∨ s = 5 by omega) with rfl | rfl | rfl | rfl | rfl | rfl <;> rcases (show m = 0 ∨ m = 1 ∨ m = 2 ∨ m = 3 by omega) with rfl | rfl | rfl | rfl <;> first | rfl | (exfalso; omega)
            · refine r_iload_n dX5_shows_43 rfl rfl ?_
              refine r_iconst (v := nI 1) dX5_shows_44 rfl ?_
              first | refine r_icmp_neN (tgt := 52) dX5_shows_45 (by decide) (by omega) (by omega) (fun c7 => ?_) (fun c7 => ?_) | refine r_icmp_ne (tgt := 52) dX5_shows_45 (by decide) (fun c7 => ?_) (fun c7 => ?_)
              · refine r_iconst (v := nI 0) dX5_shows_52 rfl ?_
                refine r_zret dX5_shows_53 rfl (by first | exact Or.inl rfl | exact Or.inr rfl | exact zb01) (by decide) (by decide) ?_
                refine ⟨congrArg (fun x => some (Value.int x)) ?_, rfl, rfl⟩
                rcases (show s = 0 ∨ s = 1 ∨ s = 2 ∨ s = 3 ∨ s = 4 ∨ s = 5 by omega) with rfl | rfl | rfl | rfl | rfl | rfl <;> rcases (show m = 0 ∨ m = 1 ∨ m = 2 ∨ m = 3 by omega) with rfl | rfl | rfl | rfl <;> first | rfl | (exfalso; omega)
              · refine r_iconst (v := nI 1) dX5_shows_48 rfl ?_
                refine r_goto (tgt := 53) dX5_shows_49 (by decide) ?_
                refine r_zret dX5_shows_53 rfl (by first | exact Or.inl rfl | exact Or.inr rfl | exact zb01) (by decide) (by decide) ?_
                refine ⟨congrArg (fun x => some (Value.int x)) ?_, rfl, rfl⟩
                rcases (show s = 0 ∨ s = 1 ∨ s = 2 ∨ s = 3 ∨ s = 4 ∨ s = 5 by omega) with rfl | rfl | rfl | rfl | rfl | rfl <;> rcases (show m = 0 ∨ m = 1 ∨ m = 2 ∨ m = 3 by omega) with rfl | rfl | rfl | rfl <;> first | rfl | (exfalso; omega)
          · refine r_iload_n dX5_shows_33 rfl rfl ?_
            refine r_iconst (v := nI 3) dX5_shows_34 rfl ?_
            first | refine r_icmp_eqN (tgt := 48) dX5_shows_35 (by decide) (by omega) (by omega) (fun c8 => ?_) (fun c8 => ?_) | refine r_icmp_eq (tgt := 48) dX5_shows_35 (by decide) (fun c8 => ?_) (fun c8 => ?_)
            · refine r_iconst (v := nI 1) dX5_shows_48 rfl ?_
              refine r_goto (tgt := 53) dX5_shows_49 (by decide) ?_
              refine r_zret dX5_shows_53 rfl (by first | exact Or.inl rfl | exact Or.inr rfl | exact zb01) (by decide) (by decide) ?_
              refine ⟨congrArg (fun x => some (Value.int x)) ?_, rfl, rfl⟩
              rcases (show s = 0 ∨ s = 1 ∨ s = 2 ∨ s = 3 ∨ s = 4 ∨ s = 5 by omega) with rfl | rfl | rfl | rfl | rfl | rfl <;> rcases (show m = 0 ∨ m = 1 ∨ m = 2 ∨ m = 3 by omega) with rfl | rfl | rfl | rfl <;> first | rfl | (exfalso; omega)
            · refine r_iload_n dX5_shows_38 rfl rfl ?_
              refine r_iconst (v := nI 4) dX5_shows_39 rfl ?_
              first | refine r_icmp_neN (tgt := 52) dX5_shows_40 (by decide) (by omega) (by omega) (fun c9 => ?_) (fun c9 => ?_) | refine r_icmp_ne (tgt := 52) dX5_shows_40 (by decide) (fun c9 => ?_) (fun c9 => ?_)
              · refine r_iconst (v := nI 0) dX5_shows_52 rfl ?_
                refine r_zret dX5_shows_53 rfl (by first | exact Or.inl rfl | exact Or.inr rfl | exact zb01) (by decide) (by decide) ?_
                refine ⟨congrArg (fun x => some (Value.int x)) ?_, rfl, rfl⟩
                rcases (show s = 0 ∨ s = 1 ∨ s = 2 ∨ s = 3 ∨ s = 4 ∨ s = 5 by omega) with rfl | rfl | rfl | rfl | rfl | rfl <;> rcases (show m = 0 ∨ m = 1 ∨ m = 2 ∨ m = 3 by omega) with rfl | rfl | rfl | rfl <;> first | rfl | (exfalso; omega)
              · refine r_iload_n dX5_shows_43 rfl rfl ?_
                refine r_iconst (v := nI 1) dX5_shows_44 rfl ?_
                first | refine r_icmp_neN (tgt := 52) dX5_shows_45 (by decide) (by omega) (by omega) (fun c10 => ?_) (fun c10 => ?_) | refine r_icmp_ne (tgt := 52) dX5_shows_45 (by decide) (fun c10 => ?_) (fun c10 => ?_)
                · refine r_iconst (v := nI 0) dX5_shows_52 rfl ?_
                  refine r_zret dX5_shows_53 rfl (by first | exact Or.inl rfl | exact Or.inr rfl | exact zb01) (by decide) (by decide) ?_
                  refine ⟨congrArg (fun x => some (Value.int x)) ?_, rfl, rfl⟩
                  rcases (show s = 0 ∨ s = 1 ∨ s = 2 ∨ s = 3 ∨ s = 4 ∨ s = 5 by omega) with rfl | rfl | rfl | rfl | rfl | rfl <;> rcases (show m = 0 ∨ m = 1 ∨ m = 2 ∨ m = 3 by omega) with rfl | rfl | rfl | rfl <;> first | rfl | (exfalso; omega)
                · refine r_iconst (v := nI 1) dX5_shows_48 rfl ?_
                  refine r_goto (tgt := 53) dX5_shows_49 (by decide) ?_
                  refine r_zret dX5_shows_53 rfl (by first | exact Or.inl rfl | exact Or.inr rfl | exact zb01) (by decide) (by decide) ?_
                  refine ⟨congrArg (fun x => some (Value.int x)) ?_, rfl, rfl⟩
                  rcases (show s = 0 ∨ s = 1 ∨ s = 2 ∨ s = 3 ∨ s = 4 ∨ s = 5 by omega) with rfl | rfl | rfl | rfl | rfl | rfl <;> rcases (show m = 0 ∨ m = 1 ∨ m = 2 ∨ m = 3 by omega) with rfl | rfl | rfl | rfl <;> first | rfl | (exfalso; omega)
      · refine r_iload_n dX5_shows_19 rfl rfl ?_
        refine r_iconst (v := nI 2) dX5_shows_20 rfl ?_
        first | refine r_icmp_neN (tgt := 28) dX5_shows_21 (by decide) (by omega) (by omega) (fun c11 => ?_) (fun c11 => ?_) | refine r_icmp_ne (tgt := 28) dX5_shows_21 (by decide) (fun c11 => ?_) (fun c11 => ?_)
        · refine r_iload_n dX5_shows_28 rfl rfl ?_
          refine r_iconst (v := nI 3) dX5_shows_29 rfl ?_
          first | refine r_icmp_neN (tgt := 38) dX5_shows_30 (by decide) (by omega) (by omega) (fun c12 => ?_) (fun c12 => ?_) | refine r_icmp_ne (tgt := 38) dX5_shows_30 (by decide) (fun c12 => ?_) (fun c12 => ?_)
          · refine r_iload_n dX5_shows_38 rfl rfl ?_
            refine r_iconst (v := nI 4) dX5_shows_39 rfl ?_
            first | refine r_icmp_neN (tgt := 52) dX5_shows_40 (by decide) (by omega) (by omega) (fun c13 => ?_) (fun c13 => ?_) | refine r_icmp_ne (tgt := 52) dX5_shows_40 (by decide) (fun c13 => ?_) (fun c13 => ?_)
            · refine r_iconst (v := nI 0) dX5_shows_52 rfl ?_
              refine r_zret dX5_shows_53 rfl (by first | exact Or.inl rfl | exact Or.inr rfl | exact zb01) (by decide) (by decide) ?_
              refine ⟨congrArg (fun x => some (Value.int x)) ?_, rfl, rfl⟩
              rcases (show s = 0 ∨ s = 1 ∨ s = 2 ∨ s = 3 ∨ s = 4 ∨ s = 5 by omega) with rfl | rfl | rfl | rfl | rfl | rfl <;> rcases (show m = 0 ∨ m = 1 ∨ m = 2 ∨ m = 3 by omega) with rfl | rfl | rfl | rfl <;> first | rfl | (exfalso; omega)
            · refine r_iload_n dX5_shows_43 rfl rfl ?_
              refine r_iconst (v := nI 1) dX5_shows_44 rfl ?_
              first | refine r_icmp_neN (tgt := 52) dX5_shows_45 (by decide) (by omega) (by omega) (fun c14 => ?_) (fun c14 => ?_) | refine r_icmp_ne (tgt := 52) dX5_shows_45 (by decide) (fun c14 => ?_) (fun c14 => ?_)
              · refine r_iconst (v := nI 0) dX5_shows_52 rfl ?_
                refine r_zret dX5_shows_53 rfl (by first | exact Or.inl rfl | exact Or.inr rfl | exact zb01) (by decide) (by decide) ?_
                refine ⟨congrArg (fun x => some (Value.int x)) ?_, rfl, rfl⟩
                rcases (show s = 0 ∨ s = 1 ∨ s = 2 ∨ s = 3 ∨ s = 4 ∨ s = 5 by omega) with rfl | rfl | rfl | rfl | rfl | rfl <;> rcases (show m = 0 ∨ m = 1 ∨ m = 2 ∨ m = 3 by omega) with rfl | rfl | rfl | rfl <;> first | rfl | (exfalso; omega)
              · refine r_iconst (v := nI 1) dX5_shows_48 rfl ?_
                refine r_goto (tgt := 53) dX5_shows_49 (by decide) ?_
                refine r_zret dX5_shows_53 rfl (by first | exact Or.inl rfl | exact Or.inr rfl | exact zb01) (by decide) (by decide) ?_
                refine ⟨congrArg (fun x => some (Value.int x)) ?_, rfl, rfl⟩
                rcases (show s = 0 ∨ s = 1 ∨ s = 2 ∨ s = 3 ∨ s = 4 ∨ s = 5 by omega) with rfl | rfl | rfl | rfl | rfl | rfl <;> rcases (show m = 0 ∨ m = 1 ∨ m = 2 ∨ m = 3 by omega) with rfl | rfl | rfl | rfl <;> first | rfl | (exfalso; omega)
          · refine r_iload_n dX5_shows_33 rfl rfl ?_
            refine r_iconst (v := nI 3) dX5_shows_34 rfl ?_
            first | refine r_icmp_eqN (tgt := 48) dX5_shows_35 (by decide) (by omega) (by omega) (fun c15 => ?_) (fun c15 => ?_) | refine r_icmp_eq (tgt := 48) dX5_shows_35 (by decide) (fun c15 => ?_) (fun c15 => ?_)
            · refine r_iconst (v := nI 1) dX5_shows_48 rfl ?_
              refine r_goto (tgt := 53) dX5_shows_49 (by decide) ?_
              refine r_zret dX5_shows_53 rfl (by first | exact Or.inl rfl | exact Or.inr rfl | exact zb01) (by decide) (by decide) ?_
              refine ⟨congrArg (fun x => some (Value.int x)) ?_, rfl, rfl⟩
              rcases (show s = 0 ∨ s = 1 ∨ s = 2 ∨ s = 3 ∨ s = 4 ∨ s = 5 by omega) with rfl | rfl | rfl | rfl | rfl | rfl <;> rcases (show m = 0 ∨ m = 1 ∨ m = 2 ∨ m = 3 by omega) with rfl | rfl | rfl | rfl <;> first | rfl | (exfalso; omega)
            · refine r_iload_n dX5_shows_38 rfl rfl ?_
              refine r_iconst (v := nI 4) dX5_shows_39 rfl ?_
              first | refine r_icmp_neN (tgt := 52) dX5_shows_40 (by decide) (by omega) (by omega) (fun c16 => ?_) (fun c16 => ?_) | refine r_icmp_ne (tgt := 52) dX5_shows_40 (by decide) (fun c16 => ?_) (fun c16 => ?_)
              · refine r_iconst (v := nI 0) dX5_shows_52 rfl ?_
                refine r_zret dX5_shows_53 rfl (by first | exact Or.inl rfl | exact Or.inr rfl | exact zb01) (by decide) (by decide) ?_
                refine ⟨congrArg (fun x => some (Value.int x)) ?_, rfl, rfl⟩
                rcases (show s = 0 ∨ s = 1 ∨ s = 2 ∨ s = 3 ∨ s = 4 ∨ s = 5 by omega) with rfl | rfl | rfl | rfl | rfl | rfl <;> rcases (show m = 0 ∨ m = 1 ∨ m = 2 ∨ m = 3 by omega) with rfl | rfl | rfl | rfl <;> first | rfl | (exfalso; omega)
              · refine r_iload_n dX5_shows_43 rfl rfl ?_
                refine r_iconst (v := nI 1) dX5_shows_44 rfl ?_
                first | refine r_icmp_neN (tgt := 52) dX5_shows_45 (by decide) (by omega) (by omega) (fun c17 => ?_) (fun c17 => ?_) | refine r_icmp_ne (tgt := 52) dX5_shows_45 (by decide) (fun c17 => ?_) (fun c17 => ?_)
                · refine r_iconst (v := nI 0) dX5_shows_52 rfl ?_
                  refine r_zret dX5_shows_53 rfl (by first | exact Or.inl rfl | exact Or.inr rfl | exact zb01) (by decide) (by decide) ?_
                  refine ⟨congrArg (fun x => some (Value.int x)) ?_, rfl, rfl⟩
                  rcases (show s = 0 ∨ s = 1 ∨ s = 2 ∨ s = 3 ∨ s = 4 ∨ s = 5 by omega) with rfl | rfl | rfl | rfl | rfl | rfl <;> rcases (show m = 0 ∨ m = 1 ∨ m = 2 ∨ m = 3 by omega) with rfl | rfl | rfl | rfl <;> first | rfl | (exfalso; omega)
                · refine r_iconst (v := nI 1) dX5_shows_48 rfl ?_
                  refine r_goto (tgt := 53) dX5_shows_49 (by decide) ?_
                  refine r_zret dX5_shows_53 rfl (by first | exact Or.inl rfl | exact Or.inr rfl | exact zb01) (by decide) (by decide) ?_
                  refine ⟨congrArg (fun x => some (Value.int x)) ?_, rfl, rfl⟩
                  rcases (show s = 0 ∨ s = 1 ∨ s = 2 ∨ s = 3 ∨ s = 4 ∨ s = 5 by omega) with rfl | rfl | rfl | rfl | rfl | rfl <;> rcases (show m = 0 ∨ m = 1 ∨ m = 2 ∨ m = 3 by omega) with rfl | rfl | rfl | rfl <;> first | rfl | (exfalso; omega)
        · refine r_iload_n dX5_shows_24 rfl rfl ?_
          first | refine r_if_eqB (tgt := 48) dX5_shows_25 (by decide) (fun c18 => ?_) (fun c18 => ?_) | refine r_if_eqN (tgt := 48) dX5_shows_25 (by decide) (by omega) (fun c18 => ?_) (fun c18 => ?_) | refine r_if_eq (tgt := 48) dX5_shows_25 (by decide) (fun c18 => ?_) (fun c18 => ?_)
          · refine r_iconst (v := nI 1) dX5_shows_48 rfl ?_
            refine r_goto (tgt := 53) dX5_shows_49 (by decide) ?_
            refine r_zret dX5_shows_53 rfl (by first | exact Or.inl rfl | exact Or.inr rfl | exact zb01) (by decide) (by decide) ?_
            refine ⟨congrArg (fun x => some (Value.int x)) ?_, rfl, rfl⟩
            rcases (show s = 0 ∨ s = 1 ∨ s = 2 ∨ s = 3 ∨ s = 4 ∨ s = 5 by omega) with rfl | rfl | rfl | rfl | rfl | rfl <;> rcases (show m = 0 ∨ m = 1 ∨ m = 2 ∨ m = 3 by omega) with rfl | rfl | rfl | rfl <;> first | rfl | (exfalso; omega)
          · refine r_iload_n dX5_shows_28 rfl rfl ?_
            refine r_iconst (v := nI 3) dX5_shows_29 rfl ?_
            first | refine r_icmp_neN (tgt := 38) dX5_shows_30 (by decide) (by omega) (by omega) (fun c19 => ?_) (fun c19 => ?_) | refine r_icmp_ne (tgt := 38) dX5_shows_30 (by decide) (fun c19 => ?_) (fun c19 => ?_)
            · refine r_iload_n dX5_shows_38 rfl rfl ?_
              refine r_iconst (v := nI 4) dX5_shows_39 rfl ?_
              first | refine r_icmp_neN (tgt := 52) dX5_shows_40 (by decide) (by omega) (by omega) (fun c20 => ?_) (fun c20 => ?_) | refine r_icmp_ne (tgt := 52) dX5_shows_40 (by decide) (fun c20 => ?_) (fun c20 => ?_)
              · refine r_iconst (v := nI 0) dX5_shows_52 rfl ?_
                refine r_zret dX5_shows_53 rfl (by first | exact Or.inl rfl | exact Or.inr rfl | exact zb01) (by decide) (by decide) ?_
                refine ⟨congrArg (fun x => some (Value.int x)) ?_, rfl, rfl⟩
                rcases (show s = 0 ∨ s = 1 ∨ s = 2 ∨ s = 3 ∨ s = 4 ∨ s = 5 by omega) with rfl | rfl | rfl | rfl | rfl | rfl <;> rcases (show m = 0 ∨ m = 1 ∨ m = 2 ∨ m = 3 by omega) with rfl | rfl | rfl | rfl <;> first | rfl | (exfalso; omega)
              · refine r_iload_n dX5_shows_43 rfl rfl ?_
                refine r_iconst (v := nI 1) dX5_shows_44 rfl ?_
                first | refine r_icmp_neN (tgt := 52) dX5_shows_45 (by decide) (by omega) (by omega) (fun c21 => ?_) (fun c21 => ?_) | refine r_icmp_ne (tgt := 52) dX5_shows_45 (by decide) (fun c21 => ?_) (fun c21 => ?_)
                · refine r_iconst (v := nI 0) dX5_shows_52 rfl ?_
                  refine r_zret dX5_shows_53 rfl (by first | exact Or.inl rfl | exact Or.inr rfl | exact zb01) (by decide) (by decide) ?_
                  refine ⟨congrArg (fun x => some (Value.int x)) ?_, rfl, rfl⟩
                  rcases (show s = 0 ∨ s = 1 ∨ s = 2 ∨ s = 3 ∨ s = 4 ∨ s = 5 by omega) with rfl | rfl | rfl | rfl | rfl | rfl <;> rcases (show m = 0 ∨ m = 1 ∨ m = 2 ∨ m = 3 by omega) with rfl | rfl | rfl | rfl <;> first | rfl | (exfalso; omega)
                · refine r_iconst (v := nI 1) dX5_shows_48 rfl ?_
                  refine r_goto (tgt := 53) dX5_shows_49 (by decide) ?_
                  refine r_zret dX5_shows_53 rfl (by first | exact Or.inl rfl | exact Or.inr rfl | exact zb01) (by decide) (by decide) ?_
                  refine ⟨congrArg (fun x => some (Value.int x)) ?_, rfl, rfl⟩
                  rcases (show s = 0 ∨ s = 1 ∨ s = 2 ∨ s = 3 ∨ s = 4 ∨ s = 5 by omega) with rfl | rfl | rfl | rfl | rfl | rfl <;> rcases (show m = 0 ∨ m = 1 ∨ m = 2 ∨ m = 3 by omega) with rfl | rfl | rfl | rfl <;> first | rfl | (exfalso; omega)
            · refine r_iload_n dX5_shows_33 rfl rfl ?_
              refine r_iconst (v := nI 3) dX5_shows_34 rfl ?_
              first | refine r_icmp_eqN (tgt := 48) dX5_shows_35 (by decide) (by omega) (by omega) (fun c22 => ?_) (fun c22 => ?_) | refine r_icmp_eq (tgt := 48) dX5_shows_35 (by decide) (fun c22 => ?_) (fun c22 => ?_)
              · refine r_iconst (v := nI 1) dX5_shows_48 rfl ?_
                refine r_goto (tgt := 53) dX5_shows_49 (by decide) ?_
                refine r_zret dX5_shows_53 rfl (by first | exact Or.inl rfl | exact Or.inr rfl | exact zb01) (by decide) (by decide) ?_
                refine ⟨congrArg (fun x => some (Value.int x)) ?_, rfl, rfl⟩
                rcases (show s = 0 ∨ s = 1 ∨ s = 2 ∨ s = 3 ∨ s = 4 ∨ s = 5 by omega) with rfl | rfl | rfl | rfl | rfl | rfl <;> rcases (show m = 0 ∨ m = 1 ∨ m = 2 ∨ m = 3 by omega) with rfl | rfl | rfl | rfl <;> first | rfl | (exfalso; omega)
              · refine r_iload_n dX5_shows_38 rfl rfl ?_
                refine r_iconst (v := nI 4) dX5_shows_39 rfl ?_
                first | refine r_icmp_neN (tgt := 52) dX5_shows_40 (by decide) (by omega) (by omega) (fun c23 => ?_) (fun c23 => ?_) | refine r_icmp_ne (tgt := 52) dX5_shows_40 (by decide) (fun c23 => ?_) (fun c23 => ?_)
                · refine r_iconst (v := nI 0) dX5_shows_52 rfl ?_
                  refine r_zret dX5_shows_53 rfl (by first | exact Or.inl rfl | exact Or.inr rfl | exact zb01) (by decide) (by decide) ?_
                  refine ⟨congrArg (fun x => some (Value.int x)) ?_, rfl, rfl⟩
                  rcases (show s = 0 ∨ s = 1 ∨ s = 2 ∨ s = 3 ∨ s = 4 ∨ s = 5 by omega) with rfl | rfl | rfl | rfl | rfl | rfl <;> rcases (show m = 0 ∨ m = 1 ∨ m = 2 ∨ m = 3 by omega) with rfl | rfl | rfl | rfl <;> first | rfl | (exfalso; omega)
                · refine r_iload_n dX5_shows_43 rfl rfl ?_
                  refine r_iconst (v := nI 1) dX5_shows_44 rfl ?_
                  first | refine r_icmp_neN (tgt := 52) dX5_shows_45 (by decide) (by omega) (by omega) (fun c24 => ?_) (fun c24 => ?_) | refine r_icmp_ne (tgt := 52) dX5_shows_45 (by decide) (fun c24 => ?_) (fun c24 => ?_)
                  · refine r_iconst (v := nI 0) dX5_shows_52 rfl ?_
                    refine r_zret dX5_shows_53 rfl (by first | exact Or.inl rfl | exact Or.inr rfl | exact zb01) (by decide) (by decide) ?_
                    refine ⟨congrArg (fun x => some (Value.int x)) ?_, rfl, rfl⟩
                    rcases (show s = 0 ∨ s = 1 ∨ s = 2 ∨ s = 3 ∨ s = 4 ∨ s = 5 by omega) with rfl | rfl | rfl | rfl | rfl | rfl <;> rcases (show m = 0 ∨ m = 1 ∨ m = 2 ∨ m = 3 by omega) with rfl | rfl | rfl | rfl <;> first | rfl | (exfalso; omega)
                  · refine r_iconst (v := nI 1) dX5_shows_48 rfl ?_
                    refine r_goto (tgt := 53) dX5_shows_49 (by decide) ?_
                    refine r_zret dX5_shows_53 rfl (by first | exact Or.inl rfl | exact Or.inr rfl | exact zb01) (by decide) (by decide) ?_
                    refine ⟨congrArg (fun x => some (Value.int x)) ?_, rfl, rfl⟩
                    rcases (show s = 0 ∨ s = 1 ∨ s = 2 ∨ s = 3 ∨ s = 4 ∨ s = 5 by omega) with rfl | rfl | rfl | rfl | rfl | rfl <;> rcases (show m = 0 ∨ m = 1 ∨ m = 2 ∨ m = 3 by omega) with rfl | rfl | rfl | rfl <;> first | rfl | (exfalso; omega)
    · refine r_iload_n dX5_shows_9 rfl rfl ?_
      refine r_iconst (v := nI 2) dX5_shows_10 rfl ?_
      first | refine r_icmp_eqN (tgt := 48) dX5_shows_11 (by decide) (by omega) (by omega) (fun c25 => ?_) (fun c25 => ?_) | refine r_icmp_eq (tgt := 48) dX5_shows_11 (by decide) (fun c25 => ?_) (fun c25 => ?_)
      · refine r_iconst (v := nI 1) dX5_shows_48 rfl ?_
        refine r_goto (tgt := 53) dX5_shows_49 (by decide) ?_
        refine r_zret dX5_shows_53 rfl (by first | exact Or.inl rfl | exact Or.inr rfl | exact zb01) (by decide) (by decide) ?_
        refine ⟨congrArg (fun x => some (Value.int x)) ?_, rfl, rfl⟩
        rcases (show s = 0 ∨ s = 1 ∨ s = 2 ∨ s = 3 ∨ s = 4 ∨ s = 5 by omega) with rfl | rfl | rfl | rfl | rfl | rfl <;> rcases (show m = 0 ∨ m = 1 ∨ m = 2 ∨ m = 3 by omega) with rfl | rfl | rfl | rfl <;> first | rfl | (exfalso; omega)
      · refine r_iload_n dX5_shows_14 rfl rfl ?_
        refine r_iconst (v := nI 1) dX5_shows_15 rfl ?_
        first | refine r_icmp_eqN (tgt := 24) dX5_shows_16 (by decide) (by omega) (by omega) (fun c26 => ?_) (fun c26 => ?_) | refine r_icmp_eq (tgt := 24) dX5_shows_16 (by decide) (fun c26 => ?_) (fun c26 => ?_)
        · refine r_iload_n dX5_shows_24 rfl rfl ?_
          first | refine r_if_eqB (tgt := 48) dX5_shows_25 (by decide) (fun c27 => ?_) (fun c27 => ?_) | refine r_if_eqN (tgt := 48) dX5_shows_25 (by decide) (by omega) (fun c27 => ?_) (fun c27 => ?_) | refine r_if_eq (tgt := 48) dX5_shows_25 (by decide) (fun c27 => ?_) (fun c27 => ?_)
          · refine r_iconst (v := nI 1) dX5_shows_48 rfl ?_
            refine r_goto (tgt := 53) dX5_shows_49 (by decide) ?_
            refine r_zret dX5_shows_53 rfl (by first | exact Or.inl rfl | exact Or.inr rfl | exact zb01) (by decide) (by decide) ?_
            refine ⟨congrArg (fun x => some (Value.int x)) ?_, rfl, rfl⟩
            rcases (show s = 0 ∨ s = 1 ∨ s = 2 ∨ s = 3 ∨ s = 4 ∨ s = 5 by omega) with rfl | rfl | rfl | rfl | rfl | rfl <;> rcases (show m = 0 ∨ m = 1 ∨ m = 2 ∨ m = 3 by omega) with rfl | rfl | rfl | rfl <;> first | rfl | (exfalso; omega)
          · refine r_iload_n dX5_shows_28 rfl rfl ?_
            refine r_iconst (v := nI 3) dX5_shows_29 rfl ?_
            first | refine r_icmp_neN (tgt := 38) dX5_shows_30 (by decide) (by omega) (by omega) (fun c28 => ?_) (fun c28 => ?_) | refine r_icmp_ne (tgt := 38) dX5_shows_30 (by decide) (fun c28 => ?_) (fun c28 => ?_)
            · refine r_iload_n dX5_shows_38 rfl rfl ?_
              refine r_iconst (v := nI 4) dX5_shows_39 rfl ?_
              first | refine r_icmp_neN (tgt := 52) dX5_shows_40 (by decide) (by omega) (by omega) (fun c29 => ?_) (fun c29 => ?_) | refine r_icmp_ne (tgt := 52) dX5_shows_40 (by decide) (fun c29 => ?_) (fun c29 => ?_)
              · refine r_iconst (v := nI 0) dX5_shows_52 rfl ?_
                refine r_zret dX5_shows_53 rfl (by first | exact Or.inl rfl | exact Or.inr rfl | exact zb01) (by decide) (by decide) ?_
                refine ⟨congrArg (fun x => some (Value.int x)) ?_, rfl, rfl⟩
                rcases (show s = 0 ∨ s = 1 ∨ s = 2 ∨ s = 3 ∨ s = 4 ∨ s = 5 by omega) with rfl | rfl | rfl | rfl | rfl | rfl <;> rcases (show m = 0 ∨ m = 1 ∨ m = 2 ∨ m = 3 by omega) with rfl | rfl | rfl | rfl <;> first | rfl | (exfalso; omega)
              · refine r_iload_n dX5_shows_43 rfl rfl ?_
                refine r_iconst (v := nI 1) dX5_shows_44 rfl ?_
                first | refine r_icmp_neN (tgt := 52) dX5_shows_45 (by decide) (by omega) (by omega) (fun c30 => ?_) (fun c30 => ?_) | refine r_icmp_ne (tgt := 52) dX5_shows_45 (by decide) (fun c30 => ?_) (fun c30 => ?_)
                · refine r_iconst (v := nI 0) dX5_shows_52 rfl ?_
                  refine r_zret dX5_shows_53 rfl (by first | exact Or.inl rfl | exact Or.inr rfl | exact zb01) (by decide) (by decide) ?_
                  refine ⟨congrArg (fun x => some (Value.int x)) ?_, rfl, rfl⟩
                  rcases (show s = 0 ∨ s = 1 ∨ s = 2 ∨ s = 3 ∨ s = 4 ∨ s = 5 by omega) with rfl | rfl | rfl | rfl | rfl | rfl <;> rcases (show m = 0 ∨ m = 1 ∨ m = 2 ∨ m = 3 by omega) with rfl | rfl | rfl | rfl <;> first | rfl | (exfalso; omega)
                · refine r_iconst (v := nI 1) dX5_shows_48 rfl ?_
                  refine r_goto (tgt := 53) dX5_shows_49 (by decide) ?_
                  refine r_zret dX5_shows_53 rfl (by first | exact Or.inl rfl | exact Or.inr rfl | exact zb01) (by decide) (by decide) ?_
                  refine ⟨congrArg (fun x => some (Value.int x)) ?_, rfl, rfl⟩
                  rcases (show s = 0 ∨ s = 1 ∨ s = 2 ∨ s = 3 ∨ s = 4 ∨ s = 5 by omega) with rfl | rfl | rfl | rfl | rfl | rfl <;> rcases (show m = 0 ∨ m = 1 ∨ m = 2 ∨ m = 3 by omega) with rfl | rfl | rfl | rfl <;> first | rfl | (exfalso; omega)
            · refine r_iload_n dX5_shows_33 rfl rfl ?_
              refine r_iconst (v := nI 3) dX5_shows_34 rfl ?_
              first | refine r_icmp_eqN (tgt := 48) dX5_shows_35 (by decide) (by omega) (by omega) (fun c31 => ?_) (fun c31 => ?_) | refine r_icmp_eq (tgt := 48) dX5_shows_35 (by decide) (fun c31 => ?_) (fun c31 => ?_)
              · refine r_iconst (v := nI 1) dX5_shows_48 rfl ?_
                refine r_goto (tgt := 53) dX5_shows_49 (by decide) ?_
                refine r_zret dX5_shows_53 rfl (by first | exact Or.inl rfl | exact Or.inr rfl | exact zb01) (by decide) (by decide) ?_
                refine ⟨congrArg (fun x => some (Value.int x)) ?_, rfl, rfl⟩
                rcases (show s = 0 ∨ s = 1 ∨ s = 2 ∨ s = 3 ∨ s = 4 ∨ s = 5 by omega) with rfl | rfl | rfl | rfl | rfl | rfl <;> rcases (show m = 0 ∨ m = 1 ∨ m = 2 ∨ m = 3 by omega) with rfl | rfl | rfl | rfl <;> first | rfl | (exfalso; omega)
              · refine r_iload_n dX5_shows_38 rfl rfl ?_
                refine r_iconst (v := nI 4) dX5_shows_39 rfl ?_
                first | refine r_icmp_neN (tgt := 52) dX5_shows_40 (by decide) (by omega) (by omega) (fun c32 => ?_) (fun c32 => ?_) | refine r_icmp_ne (tgt := 52) dX5_shows_40 (by decide) (fun c32 => ?_) (fun c32 => ?_)
                · refine r_iconst (v := nI 0) dX5_shows_52 rfl ?_
                  refine r_zret dX5_shows_53 rfl (by first | exact Or.inl rfl | exact Or.inr rfl | exact zb01) (by decide) (by decide) ?_
                  refine ⟨congrArg (fun x => some (Value.int x)) ?_, rfl, rfl⟩
                  rcases (show s = 0 ∨ s = 1 ∨ s = 2 ∨ s = 3 ∨ s = 4 ∨ s = 5 by omega) with rfl | rfl | rfl | rfl | rfl | rfl <;> rcases (show m = 0 ∨ m = 1 ∨ m = 2 ∨ m = 3 by omega) with rfl | rfl | rfl | rfl <;> first | rfl | (exfalso; omega)
                · refine r_iload_n dX5_shows_43 rfl rfl ?_
                  refine r_iconst (v := nI 1) dX5_shows_44 rfl ?_
                  first | refine r_icmp_neN (tgt := 52) dX5_shows_45 (by decide) (by omega) (by omega) (fun c33 => ?_) (fun c33 => ?_) | refine r_icmp_ne (tgt := 52) dX5_shows_45 (by decide) (fun c33 => ?_) (fun c33 => ?_)
                  · refine r_iconst (v := nI 0) dX5_shows_52 rfl ?_
                    refine r_zret dX5_shows_53 rfl (by first | exact Or.inl rfl | exact Or.inr rfl | exact zb01) (by decide) (by decide) ?_
                    refine ⟨congrArg (fun x => some (Value.int x)) ?_, rfl, rfl⟩
                    rcases (show s = 0 ∨ s = 1 ∨ s = 2 ∨ s = 3 ∨ s = 4 ∨ s = 5 by omega) with rfl | rfl | rfl | rfl | rfl | rfl <;> rcases (show m = 0 ∨ m = 1 ∨ m = 2 ∨ m = 3 by omega) with rfl | rfl | rfl | rfl <;> first | rfl | (exfalso; omega)
                  · refine r_iconst (v := nI 1) dX5_shows_48 rfl ?_
                    refine r_goto (tgt := 53) dX5_shows_49 (by decide) ?_
                    refine r_zret dX5_shows_53 rfl (by first | exact Or.inl rfl | exact Or.inr rfl | exact zb01) (by decide) (by decide) ?_
                    refine ⟨congrArg (fun x => some (Value.int x)) ?_, rfl, rfl⟩
                    rcases (show s = 0 ∨ s = 1 ∨ s = 2 ∨ s = 3 ∨ s = 4 ∨ s = 5 by omega) with rfl | rfl | rfl | rfl | rfl | rfl <;> rcases (show m = 0 ∨ m = 1 ∨ m = 2 ∨ m = 3 by omega) with rfl | rfl | rfl | rfl <;> first | rfl | (exfalso; omega)
        · refine r_iload_n dX5_shows_19 rfl rfl ?_
          refine r_iconst (v := nI 2) dX5_shows_20 rfl ?_
          first | refine r_icmp_neN (tgt := 28) dX5_shows_21 (by decide) (by omega) (by omega) (fun c34 => ?_) (fun c34 => ?_) | refine r_icmp_ne (tgt := 28) dX5_shows_21 (by decide) (fun c34 => ?_) (fun c34 => ?_)
          · refine r_iload_n dX5_shows_28 rfl rfl ?_
            refine r_iconst (v := nI 3) dX5_shows_29 rfl ?_
            first | refine r_icmp_neN (tgt := 38) dX5_shows_30 (by decide) (by omega) (by omega) (fun c35 => ?_) (fun c35 => ?_) | refine r_icmp_ne (tgt := 38) dX5_shows_30 (by decide) (fun c35 => ?_) (fun c35 => ?_)
            · refine r_iload_n dX5_shows_38 rfl rfl ?_
              refine r_iconst (v := nI 4) dX5_shows_39 rfl ?_
              first | refine r_icmp_neN (tgt := 52) dX5_shows_40 (by decide) (by omega) (by omega) (fun c36 => ?_) (fun c36 => ?_) | refine r_icmp_ne (tgt := 52) dX5_shows_40 (by decide) (fun c36 => ?_) (fun c36 => ?_)
              · refine r_iconst (v := nI 0) dX5_shows_52 rfl ?_
                refine r_zret dX5_shows_53 rfl (by first | exact Or.inl rfl | exact Or.inr rfl | exact zb01) (by decide) (by decide) ?_
                refine ⟨congrArg (fun x => some (Value.int x)) ?_, rfl, rfl⟩
                rcases (show s = 0 ∨ s = 1 ∨ s = 2 ∨ s = 3 ∨ s = 4 ∨ s = 5 by omega) with rfl | rfl | rfl | rfl | rfl | rfl <;> rcases (show m = 0 ∨ m = 1 ∨ m = 2 ∨ m = 3 by omega) with rfl | rfl | rfl | rfl <;> first | rfl | (exfalso; omega)
              · refine r_iload_n dX5_shows_43 rfl rfl ?_
                refine r_iconst (v := nI 1) dX5_shows_44 rfl ?_
                first | refine r_icmp_neN (tgt := 52) dX5_shows_45 (by decide) (by omega) (by omega) (fun c37 => ?_) (fun c37 => ?_) | refine r_icmp_ne (tgt := 52) dX5_shows_45 (by decide) (fun c37 => ?_) (fun c37 => ?_)
                · refine r_iconst (v := nI 0) dX5_shows_52 rfl ?_
                  refine r_zret dX5_shows_53 rfl (by first | exact Or.inl rfl | exact Or.inr rfl | exact zb01) (by decide) (by decide) ?_
                  refine ⟨congrArg (fun x => some (Value.int x)) ?_, rfl, rfl⟩
                  rcases (show s = 0 ∨ s = 1 ∨ s = 2 ∨ s = 3 ∨ s = 4 ∨ s = 5 by omega) with rfl | rfl | rfl | rfl | rfl | rfl <;> rcases (show m = 0 ∨ m = 1 ∨ m = 2 ∨ m = 3 by omega) with rfl | rfl | rfl | rfl <;> first | rfl | (exfalso; omega)
                · refine r_iconst (v := nI 1) dX5_shows_48 rfl ?_
                  refine r_goto (tgt := 53) dX5_shows_49 (by decide) ?_
                  refine r_zret dX5_shows_53 rfl (by first | exact Or.inl rfl | exact Or.inr rfl | exact zb01) (by decide) (by decide) ?_
                  refine ⟨congrArg (fun x => some (Value.int x)) ?_, rfl, rfl⟩
                  rcases (show s = 0 ∨ s = 1 ∨ s = 2 ∨ s = 3 ∨ s = 4 ∨ s = 5 by omega) with rfl | rfl | rfl | rfl | rfl | rfl <;> rcases (show m = 0 ∨ m = 1 ∨ m = 2 ∨ m = 3 by omega) with rfl | rfl | rfl | rfl <;> first | rfl | (exfalso; omega)
            · refine r_iload_n dX5_shows_33 rfl rfl ?_
              refine r_iconst (v := nI 3) dX5_shows_34 rfl ?_
              first | refine r_icmp_eqN (tgt := 48) dX5_shows_35 (by decide) (by omega) (by omega) (fun c38 => ?_) (fun c38 => ?_) | refine r_icmp_eq (tgt := 48) dX5_shows_35 (by decide) (fun c38 => ?_) (fun c38 => ?_)
              · refine r_iconst (v := nI 1) dX5_shows_48 rfl ?_
                refine r_goto (tgt := 53) dX5_shows_49 (by decide) ?_
                refine r_zret dX5_shows_53 rfl (by first | exact Or.inl rfl | exact Or.inr rfl | exact zb01) (by decide) (by decide) ?_
                refine ⟨congrArg (fun x => some (Value.int x)) ?_, rfl, rfl⟩
                rcases (show s = 0 ∨ s = 1 ∨ s = 2 ∨ s = 3 ∨ s = 4 ∨ s = 5 by omega) with rfl | rfl | rfl | rfl | rfl | rfl <;> rcases (show m = 0 ∨ m = 1 ∨ m = 2 ∨ m = 3 by omega) with rfl | rfl | rfl | rfl <;> first | rfl | (exfalso; omega)
              · refine r_iload_n dX5_shows_38 rfl rfl ?_
                refine r_iconst (v := nI 4) dX5_shows_39 rfl ?_
                first | refine r_icmp_neN (tgt := 52) dX5_shows_40 (by decide) (by omega) (by omega) (fun c39 => ?_) (fun c39 => ?_) | refine r_icmp_ne (tgt := 52) dX5_shows_40 (by decide) (fun c39 => ?_) (fun c39 => ?_)
                · refine r_iconst (v := nI 0) dX5_shows_52 rfl ?_
                  refine r_zret dX5_shows_53 rfl (by first | exact Or.inl rfl | exact Or.inr rfl | exact zb01) (by decide) (by decide) ?_
                  refine ⟨congrArg (fun x => some (Value.int x)) ?_, rfl, rfl⟩
                  rcases (show s = 0 ∨ s = 1 ∨ s = 2 ∨ s = 3 ∨ s = 4 ∨ s = 5 by omega) with rfl | rfl | rfl | rfl | rfl | rfl <;> rcases (show m = 0 ∨ m = 1 ∨ m = 2 ∨ m = 3 by omega) with rfl | rfl | rfl | rfl <;> first | rfl | (exfalso; omega)
                · refine r_iload_n dX5_shows_43 rfl rfl ?_
                  refine r_iconst (v := nI 1) dX5_shows_44 rfl ?_
                  first | refine r_icmp_neN (tgt := 52) dX5_shows_45 (by decide) (by omega) (by omega) (fun c40 => ?_) (fun c40 => ?_) | refine r_icmp_ne (tgt := 52) dX5_shows_45 (by decide) (fun c40 => ?_) (fun c40 => ?_)
                  · refine r_iconst (v := nI 0) dX5_shows_52 rfl ?_
                    refine r_zret dX5_shows_53 rfl (by first | exact Or.inl rfl | exact Or.inr rfl | exact zb01) (by decide) (by decide) ?_
                    refine ⟨congrArg (fun x => some (Value.int x)) ?_, rfl, rfl⟩
                    rcases (show s = 0 ∨ s = 1 ∨ s = 2 ∨ s = 3 ∨ s = 4 ∨ s = 5 by omega) with rfl | rfl | rfl | rfl | rfl | rfl <;> rcases (show m = 0 ∨ m = 1 ∨ m = 2 ∨ m = 3 by omega) with rfl | rfl | rfl | rfl <;> first | rfl | (exfalso; omega)
                  · refine r_iconst (v := nI 1) dX5_shows_48 rfl ?_
                    refine r_goto (tgt := 53) dX5_shows_49 (by decide) ?_
                    refine r_zret dX5_shows_53 rfl (by first | exact Or.inl rfl | exact Or.inr rfl | exact zb01) (by decide) (by decide) ?_
                    refine ⟨congrArg (fun x => some (Value.int x)) ?_, rfl, rfl⟩
                    rcases (show s = 0 ∨ s = 1 ∨ s = 2 ∨ s = 3 ∨ s = 4 ∨ s = 5 by omega) with rfl | rfl | rfl | rfl | rfl | rfl <;> rcases (show m = 0 ∨ m = 1 ∨ m = 2 ∨ m = 3 by omega) with rfl | rfl | rfl | rfl <;> first | rfl | (exfalso; omega)
          · refine r_iload_n dX5_shows_24 rfl rfl ?_
            first | refine r_if_eqB (tgt := 48) dX5_shows_25 (by decide) (fun c41 => ?_) (fun c41 => ?_) | refine r_if_eqN (tgt := 48) dX5_shows_25 (by decide) (by omega) (fun c41 => ?_) (fun c41 => ?_) | refine r_if_eq (tgt := 48) dX5_shows_25 (by decide) (fun c41 => ?_) (fun c41 => ?_)
            · refine r_iconst (v := nI 1) dX5_shows_48 rfl ?_
              refine r_goto (tgt := 53) dX5_shows_49 (by decide) ?_
              refine r_zret dX5_shows_53 rfl (by first | exact Or.inl rfl | exact Or.inr rfl | exact zb01) (by decide) (by decide) ?_
              refine ⟨congrArg (fun x => some (Value.int x)) ?_, rfl, rfl⟩
              rcases (show s = 0 ∨ s = 1 ∨ s = 2 ∨ s = 3 ∨ s = 4 ∨ s = 5 by omega) with rfl | rfl | rfl | rfl | rfl | rfl <;> rcases (show m = 0 ∨ m = 1 ∨ m = 2 ∨ m = 3 by omega) with rfl | rfl | rfl | rfl <;> first | rfl | (exfalso; omega)
            · refine r_iload_n dX5_shows_28 rfl rfl ?_
              refine r_iconst (v := nI 3) dX5_shows_29 rfl ?_
              first | refine r_icmp_neN (tgt := 38) dX5_shows_30 (by decide) (by omega) (by omega) (fun c42 => ?_) (fun c42 => ?_) | refine r_icmp_ne (tgt := 38) dX5_shows_30 (by decide) (fun c42 => ?_) (fun c42 => ?_)
              · refine r_iload_n dX5_shows_38 rfl rfl ?_
                refine r_iconst (v := nI 4) dX5_shows_39 rfl ?_
                first | refine r_icmp_neN (tgt := 52) dX5_shows_40 (by decide) (by omega) (by omega) (fun c43 => ?_) (fun c43 => ?_) | refine r_icmp_ne (tgt := 52) dX5_shows_40 (by decide) (fun c43 => ?_) (fun c43 => ?_)
                · refine r_iconst (v := nI 0) dX5_shows_52 rfl ?_
                  refine r_zret dX5_shows_53 rfl (by first | exact Or.inl rfl | exact Or.inr rfl | exact zb01) (by decide) (by decide) ?_
                  refine ⟨congrArg (fun x => some (Value.int x)) ?_, rfl, rfl⟩
                  rcases (show s = 0 ∨ s = 1 ∨ s = 2 ∨ s = 3 ∨ s = 4 ∨ s = 5 by omega) with rfl | rfl | rfl | rfl | rfl | rfl <;> rcases (show m = 0 ∨ m = 1 ∨ m = 2 ∨ m = 3 by omega) with rfl | rfl | rfl | rfl <;> first | rfl | (exfalso; omega)
                · refine r_iload_n dX5_shows_43 rfl rfl ?_
                  refine r_iconst (v := nI 1) dX5_shows_44 rfl ?_
                  first | refine r_icmp_neN (tgt := 52) dX5_shows_45 (by decide) (by omega) (by omega) (fun c44 => ?_) (fun c44 => ?_) | refine r_icmp_ne (tgt := 52) dX5_shows_45 (by decide) (fun c44 => ?_) (fun c44 => ?_)
                  · refine r_iconst (v := nI 0) dX5_shows_52 rfl ?_
                    refine r_zret dX5_shows_53 rfl (by first | exact Or.inl rfl | exact Or.inr rfl | exact zb01) (by decide) (by decide) ?_
                    refine ⟨congrArg (fun x => some (Value.int x)) ?_, rfl, rfl⟩
                    rcases (show s = 0 ∨ s = 1 ∨ s = 2 ∨ s = 3 ∨ s = 4 ∨ s = 5 by omega) with rfl | rfl | rfl | rfl | rfl | rfl <;> rcases (show m = 0 ∨ m = 1 ∨ m = 2 ∨ m = 3 by omega) with rfl | rfl | rfl | rfl <;> first | rfl | (exfalso; omega)
                  · refine r_iconst (v := nI 1) dX5_shows_48 rfl ?_
                    refine r_goto (tgt := 53) dX5_shows_49 (by decide) ?_
                    refine r_zret dX5_shows_53 rfl (by first | exact Or.inl rfl | exact Or.inr rfl | exact zb01) (by decide) (by decide) ?_
                    refine ⟨congrArg (fun x => some (Value.int x)) ?_, rfl, rfl⟩
                    rcases (show s = 0 ∨ s = 1 ∨ s = 2 ∨ s = 3 ∨ s = 4 ∨ s = 5 by omega) with rfl | rfl | rfl | rfl | rfl | rfl <;> rcases (show m = 0 ∨ m = 1 ∨ m = 2 ∨ m = 3 by omega) with rfl | rfl | rfl | rfl <;> first | rfl | (exfalso; omega)
              · refine r_iload_n dX5_shows_33 rfl rfl ?_
                refine r_iconst (v := nI 3) dX5_shows_34 rfl ?_
                first | refine r_icmp_eqN (tgt := 48) dX5_shows_35 (by decide) (by omega) (by omega) (fun c45 => ?_) (fun c45 => ?_) | refine r_icmp_eq (tgt := 48) dX5_shows_35 (by decide) (fun c45 => ?_) (fun c45 => ?_)
                · refine r_iconst (v := nI 1) dX5_shows_48 rfl ?_
                  refine r_goto (tgt := 53) dX5_shows_49 (by decide) ?_
                  refine r_zret dX5_shows_53 rfl (by first | exact Or.inl rfl | exact Or.inr rfl | exact zb01) (by decide) (by decide) ?_
                  refine ⟨congrArg (fun x => some (Value.int x)) ?_, rfl, rfl⟩
                  rcases (show s = 0 ∨ s = 1 ∨ s = 2 ∨ s = 3 ∨ s = 4 ∨ s = 5 by omega) with rfl | rfl | rfl | rfl | rfl | rfl <;> rcases (show m = 0 ∨ m = 1 ∨ m = 2 ∨ m = 3 by omega) with rfl | rfl | rfl | rfl <;> first | rfl | (exfalso; omega)
                · refine r_iload_n dX5_shows_38 rfl rfl ?_
                  refine r_iconst (v := nI 4) dX5_shows_39 rfl ?_
                  first | refine r_icmp_neN (tgt := 52) dX5_shows_40 (by decide) (by omega) (by omega) (fun c46 => ?_) (fun c46 => ?_) | refine r_icmp_ne (tgt := 52) dX5_shows_40 (by decide) (fun c46 => ?_) (fun c46 => ?_)
                  · refine r_iconst (v := nI 0) dX5_shows_52 rfl ?_
                    refine r_zret dX5_shows_53 rfl (by first | exact Or.inl rfl | exact Or.inr rfl | exact zb01) (by decide) (by decide) ?_
                    refine ⟨congrArg (fun x => some (Value.int x)) ?_, rfl, rfl⟩
                    rcases (show s = 0 ∨ s = 1 ∨ s = 2 ∨ s = 3 ∨ s = 4 ∨ s = 5 by omega) with rfl | rfl | rfl | rfl | rfl | rfl <;> rcases (show m = 0 ∨ m = 1 ∨ m = 2 ∨ m = 3 by omega) with rfl | rfl | rfl | rfl <;> first | rfl | (exfalso; omega)
                  · refine r_iload_n dX5_shows_43 rfl rfl ?_
                    refine r_iconst (v := nI 1) dX5_shows_44 rfl ?_
                    first | refine r_icmp_neN (tgt := 52) dX5_shows_45 (by decide) (by omega) (by omega) (fun c47 => ?_) (fun c47 => ?_) | refine r_icmp_ne (tgt := 52) dX5_shows_45 (by decide) (fun c47 => ?_) (fun c47 => ?_)
                    · refine r_iconst (v := nI 0) dX5_shows_52 rfl ?_
                      refine r_zret dX5_shows_53 rfl (by first | exact Or.inl rfl | exact Or.inr rfl | exact zb01) (by decide) (by decide) ?_
                      refine ⟨congrArg (fun x => some (Value.int x)) ?_, rfl, rfl⟩
                      rcases (show s = 0 ∨ s = 1 ∨ s = 2 ∨ s = 3 ∨ s = 4 ∨ s = 5 by omega) with rfl | rfl | rfl | rfl | rfl | rfl <;> rcases (show m = 0 ∨ m = 1 ∨ m = 2 ∨ m = 3 by omega) with rfl | rfl | rfl | rfl <;> first | rfl | (exfalso; omega)
                    · refine r_iconst (v := nI 1) dX5_shows_48 rfl ?_
                      refine r_goto (tgt := 53) dX5_shows_49 (by decide) ?_
                      refine r_zret dX5_shows_53 rfl (by first | exact Or.inl rfl | exact Or.inr rfl | exact zb01) (by decide) (by decide) ?_
                      refine ⟨congrArg (fun x => some (Value.int x)) ?_, rfl, rfl⟩
                      rcases (show s = 0 ∨ s = 1 ∨ s = 2 ∨ s = 3 ∨ s = 4 ∨ s = 5 by omega) with rfl | rfl | rfl | rfl | rfl | rfl <;> rcases (show m = 0 ∨ m = 1 ∨ m = 2 ∨ m = 3 by omega) with rfl | rfl | rfl | rfl <;> first | rfl | (exfalso; omega)

