/-! the law's loop -/
theorem and63 (x : Int32) : ∃ n, n ≤ 63 ∧ x &&& nI 63 = nI n := by
  refine ⟨(x &&& nI 63).toBitVec.toNat, ?_, ?_⟩
  · rw [Int32.toBitVec_and, BitVec.toNat_and]
    exact Nat.le_trans Nat.and_le_right (by decide)
  · apply Int32.toBitVec_inj.mp
    show _ = BitVec.ofNat 32 _
    rw [BitVec.ofNat_toNat]
    simp
theorem fits7 {L i : Nat} (hL : L ≤ 3584) (hi : i ≤ 3584) (h : ¬ nI L - nI 7 < nI i) : i + 7 ≤ L := by
  rw [i32_lt, pk_sub_toInt (by omega) (by decide), nI_toInt (by omega)] at h
  omega
set_option maxHeartbeats 4000000 in
set_option maxRecDepth 100000 in
theorem law_loop (l : Launch) {L : Nat} {xs : Nat → Int32} (hL : L ≤ 3584) : ∀ (j i : Nat) (rw : List zC) (M : zM) (cells slots : Nat), WI rw M → i ≤ L → L < i + 7 * j → cells + 2 * j ≤ 600000 → slots + 26 * j ≤ 7302250 → LA (scr L xs) l (some 0) room_1 yL_law cL_law 4 ret (fun v _ _ => v = some (.int (nI 1))) cells slots 18 (lsI i) [] (zSh ++ rw) M := by
  intro j
  induction j with
  | zero => intro i rw M cells slots _ h1 h2; exact absurd h2 (by omega)
  | succ j ih =>
    intro i rw M cells slots hw h1 h2 hc hs
    refine L_iload_n dL_law_18 rfl rfl ?_
    refine L_aload_nX dL_law_19 rfl rfl ?_
    refine L_slen dL_law_20 ?_
    refine L_bipush (v := nI 7) dL_law_21 rfl ?_
    refine L_isub dL_law_23 ?_
    refine L_icmp_gt (tgt := 1367) dL_law_24 (by decide) (fun _ => ?_) (fun hg => ?_)
    · refine L_iconst (v := nI 1) dL_law_1367 rfl ?_
      exact L_zret dL_law_1368 rfl (Or.inr rfl) (show cells ≤ 600000 by omega) (show slots ≤ 7302250 by omega) rfl
    · have hi := fits7 hL (by omega) hg
      have K : ∀ (rw' : List zC) (M' : zM) (c' s' : Nat), WI rw' M' → c' ≤ cells + 2 → s' ≤ slots + 26 → LA (scr L xs) l (some 0) room_1 yL_law cL_law 4 ret (fun v _ _ => v = some (.int (nI 1))) c' s' 1361 (lsI i) [] (zSh ++ rw') M' := by
        intro rw' M' c' s' hw' hc' hs'
        refine L_iinc (i := 3) (x := nI i) (v := nI (i + 7)) dL_law_1361 rfl (nI_add i 7) rfl (by decide) ?_
        refine L_goto (tgt := 18) dL_law_1364 (by decide) ?_
        exact ih (i + 7) rw' M' c' s' hw' hi (by omega) (by omega) (by omega)
      refine L_aload_nX dL_law_27 rfl rfl ?_
      refine L_iload_n dL_law_28 rfl rfl ?_
      refine L_sld dL_law_29 (by omega) hL ?_
      refine L_bipush (v := nI 63) dL_law_30 rfl ?_
      refine L_iand dL_law_32 ?_
      obtain ⟨n, hn, he⟩ := and63 (xs i)
      rw [he]
      have hc2 : cells + 2 ≤ 600000 := by omega
      have hs2 : slots + 26 ≤ 7302250 := by omega
      rcases (show n = 0 ∨ n = 1 ∨ n = 2 ∨ n = 3 ∨ n = 4 ∨ n = 5 ∨ n = 6 ∨ n = 7 ∨ n = 8 ∨ n = 9 ∨ n = 10 ∨ n = 11 ∨ n = 12 ∨ n = 13 ∨ n = 14 ∨ n = 15 ∨ n = 16 ∨ n = 17 ∨ n = 18 ∨ n = 19 ∨ n = 20 ∨ n = 21 ∨ n = 22 ∨ n = 23 ∨ n = 24 ∨ n = 25 ∨ n = 26 ∨ n = 27 ∨ n = 28 ∨ n = 29 ∨ n = 30 ∨ n = 31 ∨ n = 32 ∨ 33 ≤ n by omega) with rfl | rfl | rfl | rfl | rfl | rfl | rfl | rfl | rfl | rfl | rfl | rfl | rfl | rfl | rfl | rfl | rfl | rfl | rfl | rfl | rfl | rfl | rfl | rfl | rfl | rfl | rfl | rfl | rfl | rfl | rfl | rfl | rfl | h33
      · refine L_tabIn (off := 147) (tgt := 180) dL_law_33 (by decide) (by decide) (by decide) (by decide) ?_
        exact k_person l hi hL hc2 hs2 hw K
      · refine L_tabIn (off := 180) (tgt := 213) dL_law_33 (by decide) (by decide) (by decide) (by decide) ?_
        exact k_own l hi hL hc2 hs2 hw K
      · refine L_tabIn (off := 223) (tgt := 256) dL_law_33 (by decide) (by decide) (by decide) (by decide) ?_
        exact k_suit l hi hL hc2 hs2 hw K
      · refine L_tabIn (off := 246) (tgt := 279) dL_law_33 (by decide) (by decide) (by decide) (by decide) ?_
        exact k_cut l hi hL hc2 hs2 hw K
      · refine L_tabIn (off := 289) (tgt := 322) dL_law_33 (by decide) (by decide) (by decide) (by decide) ?_
        exact k_of l hi hL hc2 hs2 hw K
      · refine L_tabIn (off := 322) (tgt := 355) dL_law_33 (by decide) (by decide) (by decide) (by decide) ?_
        exact k_deed l hi hL hc2 hs2 hw K
      · refine L_tabIn (off := 355) (tgt := 388) dL_law_33 (by decide) (by decide) (by decide) (by decide) ?_
        exact k_tries l hi hL hc2 hs2 hw K
      · refine L_tabIn (off := 398) (tgt := 431) dL_law_33 (by decide) (by decide) (by decide) (by decide) ?_
        exact k_rule l hi hL hc2 hs2 hw K
      · refine L_tabIn (off := 431) (tgt := 464) dL_law_33 (by decide) (by decide) (by decide) (by decide) ?_
        exact k_type l hi hL hc2 hs2 hw K
      · refine L_tabIn (off := 454) (tgt := 487) dL_law_33 (by decide) (by decide) (by decide) (by decide) ?_
        exact k_wardrobe l hi hL hc2 hs2 hw K
      · refine L_tabIn (off := 467) (tgt := 500) dL_law_33 (by decide) (by decide) (by decide) (by decide) ?_
        exact k_count l hi hL hc2 hs2 hw K
      · refine L_tabIn (off := 490) (tgt := 523) dL_law_33 (by decide) (by decide) (by decide) (by decide) ?_
        exact k_does l hi hL hc2 hs2 hw K
      · refine L_tabIn (off := 533) (tgt := 566) dL_law_33 (by decide) (by decide) (by decide) (by decide) ?_
        exact k_mend l hi hL hc2 hs2 hw K
      · refine L_tabIn (off := 556) (tgt := 589) dL_law_33 (by decide) (by decide) (by decide) (by decide) ?_
        exact k_days l hi hL hc2 hs2 hw K
      · refine L_tabIn (off := 579) (tgt := 612) dL_law_33 (by decide) (by decide) (by decide) (by decide) ?_
        exact k_drift l hi hL hc2 hs2 hw K
      · refine L_tabIn (off := 602) (tgt := 635) dL_law_33 (by decide) (by decide) (by decide) (by decide) ?_
        exact k_undo l hi hL hc2 hs2 hw K
      · refine L_tabIn (off := 615) (tgt := 648) dL_law_33 (by decide) (by decide) (by decide) (by decide) ?_
        exact k_seed l hi hL hc2 hs2 hw K
      · refine L_tabIn (off := 638) (tgt := 671) dL_law_33 (by decide) (by decide) (by decide) (by decide) ?_
        exact k_ahead l hi hL hc2 hs2 hw K
      · refine L_tabIn (off := 681) (tgt := 714) dL_law_33 (by decide) (by decide) (by decide) (by decide) ?_
        exact k_showsAhead l hi hL hc2 hs2 hw K
      · refine L_tabIn (off := 724) (tgt := 757) dL_law_33 (by decide) (by decide) (by decide) (by decide) ?_
        exact k_again l hi hL hc2 hs2 hw K
      · refine L_tabIn (off := 757) (tgt := 790) dL_law_33 (by decide) (by decide) (by decide) (by decide) ?_
        exact k_wedding l hi hL hc2 hs2 hw K
      · refine L_tabIn (off := 810) (tgt := 843) dL_law_33 (by decide) (by decide) (by decide) (by decide) ?_
        exact k_bestCut l hi hL hc2 hs2 hw K
      · refine L_tabIn (off := 863) (tgt := 896) dL_law_33 (by decide) (by decide) (by decide) (by decide) ?_
        exact k_wear l hi hL hc2 hs2 hw K
      · refine L_tabIn (off := 886) (tgt := 919) dL_law_33 (by decide) (by decide) (by decide) (by decide) ?_
        exact k_luck l hi hL hc2 hs2 hw K
      · refine L_tabIn (off := 929) (tgt := 962) dL_law_33 (by decide) (by decide) (by decide) (by decide) ?_
        exact k_warrant l hi hL hc2 hs2 hw K
      · refine L_tabIn (off := 952) (tgt := 985) dL_law_33 (by decide) (by decide) (by decide) (by decide) ?_
        exact k_image l hi hL hc2 hs2 hw K
      · refine L_tabIn (off := 965) (tgt := 998) dL_law_33 (by decide) (by decide) (by decide) (by decide) ?_
        exact k_restore l hi hL hc2 hs2 hw K
      · refine L_tabIn (off := 978) (tgt := 1011) dL_law_33 (by decide) (by decide) (by decide) (by decide) ?_
        exact k_done l hi hL hc2 hs2 hw K
      · refine L_tabIn (off := 1041) (tgt := 1074) dL_law_33 (by decide) (by decide) (by decide) (by decide) ?_
        exact k_film l hi hL hc2 hs2 hw K
      · refine L_tabIn (off := 1116) (tgt := 1149) dL_law_33 (by decide) (by decide) (by decide) (by decide) ?_
        exact k_sheet l hi hL hc2 hs2 hw K
      · refine L_tabIn (off := 1159) (tgt := 1192) dL_law_33 (by decide) (by decide) (by decide) (by decide) ?_
        exact k_drop l hi hL hc2 hs2 hw K
      · refine L_tabIn (off := 1182) (tgt := 1215) dL_law_33 (by decide) (by decide) (by decide) (by decide) ?_
        exact k_item l hi hL hc2 hs2 hw K
      · refine L_tabIn (off := 1265) (tgt := 1298) dL_law_33 (by decide) (by decide) (by decide) (by decide) ?_
        exact k_copy l hi hL hc2 hs2 hw K
      · refine L_tabOut (tgt := 1361) dL_law_33 (Or.inr (by rw [nI_toInt (by omega)]; omega)) (by decide) ?_
        exact K rw M cells slots hw (by omega) (by omega)
/-! the start: both made -/
def t0 : Nat → Nat → Nat := fun c j => if c = 35 then (if j = 7 then 1 else if j = 5 then 1 else if j = 4 then 5 else 0) else 0
theorem WI_0 {K : zM} (e34 : K.1 34 = fun _ => 0) (e35 : K.1 35 = upd (upd (upd (fun _ => 0) 4 (nI 5)) 5 (nI 1)) 7 (nI 1)) (e36 : K.1 36 = fun _ => 0) (e37 : K.1 37 = fun _ => 0) (e38 : K.1 38 = fun _ => 0) (e39 : K.1 39 = fun _ => 0) (e40 : K.1 40 = fun _ => 0) (e42 : K.1 42 = fun _ => 0) (e1 : K.1 1 = upd (upd (upd (fun _ => 0) 6 (nI 5)) 7 (nI 1)) 8 (nI 1)) (e02 : K.1 0 2 = 0) (e19 : K.1 19 1 = 0) (e31 : K.1 31 = fun _ => 0) (e41 : K.1 41 = upd (upd (upd (upd (fun _ => 0) 0 (-1)) 1 (-1)) 2 (-1)) 3 (-1)) (eo : ∀ i x, K.2.2 i x = none) : WI [] K := by
  refine ⟨t0, fun _ => none, ?_, ⟨⟨?_, ?_, ?_, ?_, ?_, ?_, ?_, ?_, ?_⟩, fun p hp => ?_, fun p m hp => ?_, fun s m hs => ?_, fun d hd => ?_, fun i hi => ?_⟩, ?_, UBn_0, ⟨e02, by decide, fun q => ?_⟩, ⟨e19, fun j hj => ?_⟩, ⟨by decide, fun j hj => ?_⟩, ⟨?_, ?_, ?_, ?_⟩, ?_, ?_⟩
  · intro c h1 h2 h3
    rcases (show c = 34 ∨ c = 35 ∨ c = 36 ∨ c = 37 ∨ c = 38 ∨ c = 39 ∨ c = 40 ∨ c = 42 by omega) with rfl | rfl | rfl | rfl | rfl | rfl | rfl | rfl
    · rw [e34]; rfl
    · rw [e35]
      funext j
      by_cases h7 : j = 7
      · subst h7; rfl
      · by_cases h5 : j = 5
        · subst h5; rfl
        · by_cases h4 : j = 4
          · subst h4; rfl
          · rw [pk_un h7, pk_un h5, pk_un h4]
            unfold nF t0
            rw [if_pos rfl, if_neg h7, if_neg h5, if_neg h4]
            rfl
    · rw [e36]; rfl
    · rw [e37]; rfl
    · rw [e38]; rfl
    · rw [e39]; rfl
    · rw [e40]; rfl
    · rw [e42]; rfl
  · rw [e1]; rfl
  · rw [e1]; rfl
  · rw [e1]; rfl
  · rw [e1]; rfl
  · rw [e1]; rfl
  · rw [e1]; rfl
  · rw [e1]; rfl
  · rw [e1]; rfl
  · rw [e1]; rfl
  · exact absurd hp (Nat.not_lt_zero p)
  · exact absurd hp (Nat.not_lt_zero p)
  · exact absurd hs (Nat.not_lt_zero s)
  · exact absurd hd (Nat.not_lt_zero d)
  · exact absurd hi (Nat.not_lt_zero i)
  · exact ⟨by decide, by decide, by decide, by decide, by decide, by decide, by decide, by decide, fun p hp => absurd hp (Nat.not_lt_zero p), fun p m hp => absurd hp (Nat.not_lt_zero p), fun s m hs => absurd hs (Nat.not_lt_zero s), fun d hd => absurd hd (Nat.not_lt_zero d)⟩
  · exact absurd q (by decide)
  · exact absurd hj (Nat.not_lt_zero j)
  · exact absurd hj (Nat.not_lt_zero j)
  · intro j hj
    exact ⟨fun _ => eo 33 j, fun r ri L q => (nomatch q)⟩
  · intro j hj
    refine ⟨fun _ => ?_, fun r ri L q => (nomatch q)⟩
    rw [e41]
    rcases (show j = 0 ∨ j = 1 ∨ j = 2 ∨ j = 3 by omega) with rfl | rfl | rfl | rfl <;> rfl
  · intro j r ri L hj q
    exact (nomatch q)
  · intro j j' r ri L r' ri' L' hj hj' hne q
    exact (nomatch q)
  · intro m hm
    rw [e31]
    rfl
  · have hz : zwf (zSh ++ []) K := zwf_of (by decide) eo
    exact ⟨fun c hc => absurd hc List.not_mem_nil, hz.1, fun x j q => by rw [eo] at q; cases q⟩
