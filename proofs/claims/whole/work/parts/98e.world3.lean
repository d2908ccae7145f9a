theorem WJ_44 {t : Nat → Nat → Nat} {z : Nat → Option (Nat × Nat × Nat)} {rw : List zC} {M M2 : zM} (h : WJ t z rw M) (h1 : M2.1 = M.1) (h3 : M2.2.2 = M.2.2) (h2 : ∀ i, i ≠ 44 → M2.2.1 i = M.2.1 i) : WJ t z rw M2 := WJ_m h (fun i _ => by rw [h1]) (fun c a b d => by rw [h1]; exact h.ri c a b d) (fun _ _ => rfl) (SHI_fr h.sh (by rw [h3]) (fun i _ => by rw [h1]) (by rw [h1]) (fun i hi => h2 i (by omega)) (h2 43 (by decide))) (FW_st h.fw (by rw [h3]))
theorem WJ_copy {t : Nat → Nat → Nat} {z : Nat → Option (Nat × Nat × Nat)} {rw : List zC} {M : zM} (h : WJ t z rw M) (x i w j n : Int32) : WJ t z rw (mr_copy z (t 42) x i w j n (mc_copy z (t 42) x i w j n M)) := by
  unfold mr_copy mc_copy
  split
  · rename_i g
    rcases hz : z (tn x) with _ | ⟨r, ri, L⟩
    · exact h
    · dsimp only
      rcases hw : z (tn w) with _ | ⟨r', ri', L'⟩
      · exact h
      · dsimp only
        split
        · split
          · rename_i e q
            have hx4 : tn x < 4 := by unfold tn; omega
            have hw4 : tn w < 4 := by unfold tn; omega
            have b1 := ((h.sh.1 (tn x) hx4).2 r ri L hz).2.2.2.1
            have b2 := ((h.sh.1 (tn w) hw4).2 r' ri' L' hw).2.2.2.1
            have hin : tn i + tn n ≤ t 42 (tn x) := by unfold tn at *; omega
            have hjn : tn j + tn n ≤ t 42 (tn w) := by unfold tn at *; omega
            have h9 := WJ_fil (f := fun k => M.2.1 ri (tn i + k)) h hw4 hw hjn
            refine WJ_44 h9 rfl rfl (fun c hc => ?_)
            by_cases c43 : c = 43
            · subst c43
              funext k
              rw [fil_at, fil_at, fil_ne (c := 44) 43 (by decide), fil_ne (c := ri') 43 (by omega)]
              by_cases hk : 24 * tn w + tn j ≤ k ∧ k < 24 * tn w + tn j + tn n
              · rw [if_pos hk, if_pos hk]
                have := h.sh.2.2.1 (tn x) r ri L hx4 hz (tn i + (k - (24 * tn w + tn j))) (by omega)
                rw [show 24 * tn x + tn i + (k - (24 * tn w + tn j)) = 24 * tn x + (tn i + (k - (24 * tn w + tn j))) by omega]
                exact this.symm
              · rw [if_neg hk, if_neg hk]
            · rw [fil_ne c c43, fil_ne c hc, fil_ne c c43]
          · exact h
        · exact h
  · exact h
theorem WJ_drop {t : Nat → Nat → Nat} {z : Nat → Option (Nat × Nat × Nat)} {rw : List zC} {M : zM} (h : WJ t z rw M) (x : Int32) : WI rw (mr_drop z x (mc_drop z x M)) := by
  unfold mr_drop mc_drop
  split
  · rename_i g
    rcases hz : z (tn x) with _ | ⟨r, ri, L⟩
    · exact ⟨t, z, h⟩
    · dsimp only
      obtain ⟨hC, hR, hV, hD⟩ := h.sh
      obtain ⟨z', hz'⟩ : ∃ z' : Nat → Option (Nat × Nat × Nat), z' = fun j => if j = tn x then none else z j := ⟨_, rfl⟩
      have zp : z' (tn x) = none := by rw [hz']; exact if_pos rfl
      have zn : ∀ j, ¬ j = tn x → z' j = z j := fun j e => by rw [hz']; exact if_neg e
      refine ⟨t, z', WJ_m h (fun i hi => (zI_ne i (by omega)).1) (RI.I41 h.ri) (fun _ _ => rfl) ⟨?_, ?_, ?_, ?_⟩ ⟨h.fw.1, h.fw.2.1, fun y j q => ?_⟩⟩
      · intro j hj
        have e33 : (zI (zO M 33 (va_up (M.2.2 33) (tn x) none)) 41 (upd ((zO M 33 (va_up (M.2.2 33) (tn x) none)).1 41) (tn x) (-1))).2.2 33 = va_up (M.2.2 33) (tn x) none := rfl
        rw [e33]
        by_cases e : j = tn x
        · subst e
          refine ⟨fun _ => if_pos rfl, fun r ri L q => ?_⟩
          rw [zp] at q
          cases q
        · have e2 : va_up (M.2.2 33) (tn x) none j = M.2.2 33 j := if_neg e
          rw [e2, zn j e]
          obtain ⟨c1, c2⟩ := hC j hj
          refine ⟨c1, fun r ri L q => ?_⟩
          obtain ⟨d1, d2, d3, d4, d5⟩ := c2 r ri L q
          exact ⟨d1, d2, d3, d4, by rw [(zI_ne r (by omega)).1]; exact d5⟩
      · intro j hj
        rw [zI_at]
        by_cases e : j = tn x
        · subst e
          rw [zp]
          refine ⟨fun _ => pk_us, fun r ri L q => ?_⟩
          cases q
        · rw [zn j e, pk_un e]
          exact hR j hj
      · intro j r ri L hj q k hk
        by_cases e : j = tn x
        · rw [e, zp] at q; cases q
        · rw [zn j e] at q
          exact hV j r ri L hj q k hk
      · intro j j' r ri L r' ri' L' hj hj' hne q q'
        by_cases e : j = tn x
        · rw [e, zp] at q; cases q
        · by_cases e' : j' = tn x
          · rw [e', zp] at q'; cases q'
          · rw [zn j e] at q
            rw [zn j' e'] at q'
            exact hD j j' r ri L r' ri' L' hj hj' hne q q'
      · have e33 : (zI (zO M 33 (va_up (M.2.2 33) (tn x) none)) 41 (upd ((zO M 33 (va_up (M.2.2 33) (tn x) none)).1 41) (tn x) (-1))).2.2 33 = va_up (M.2.2 33) (tn x) none := rfl
        rw [e33] at q
        by_cases e : y = tn x
        · subst e
          have : va_up (M.2.2 33) (tn x) none (tn x) = none := if_pos rfl
          rw [this] at q
          cases q
        · have : va_up (M.2.2 33) (tn x) none y = M.2.2 33 y := if_neg e
          rw [this] at q
          exact h.fw.2.2 y j q
  · exact ⟨t, z, h⟩
theorem rw2_at {rw : List zC} {N i : Nat} (h : i < 45 + rw.length) : (zSh ++ rw2 rw N)[i]? = (zSh ++ rw)[i]? := by
  unfold rw2
  rw [← List.append_assoc, List.getElem?_append_left (by rw [zSh_len]; exact h)]
theorem rw2_0 {rw : List zC} {N : Nat} : (zSh ++ rw2 rw N)[45 + rw.length]? = some (.inr (2, [none, some (some (45 + rw.length + 1))])) := by
  unfold rw2
  rw [← List.append_assoc, List.getElem?_append_right (by rw [zSh_len]; exact Nat.le_refl _), zSh_len, Nat.sub_self]
  rfl
theorem rw2_1 {rw : List zC} {N : Nat} : (zSh ++ rw2 rw N)[45 + rw.length + 1]? = some (.inl (1, N)) := by
  unfold rw2
  rw [← List.append_assoc, List.getElem?_append_right (by rw [zSh_len]; omega), zSh_len, show 45 + rw.length + 1 - (45 + rw.length) = 1 by omega]
  rfl
theorem getl {rw : List zC} {i : Nat} {c : zC} (h : (zSh ++ rw)[i]? = some c) : i < 45 + rw.length := by
  rw [← zSh_len]
  exact (List.getElem?_eq_some_iff.mp h).1
theorem WJ_sheet {t : Nat → Nat → Nat} {z : Nat → Option (Nat × Nat × Nat)} {rw : List zC} {M : zM} (h : WJ t z rw M) {x w k : Int32} (hg : gsh x w k) : WI (rw2 rw (tn k)) (mr_sheet x w k (mc_sheet rw (tn x) (tn w) M)) := by
  obtain ⟨hC, hR, hV, hD⟩ := h.sh
  have hx4 : tn x < 4 := by have := hg.1; unfold tn; omega
  have hL3 : tn w ≤ 3 := by have := hg.2.1; unfold tn; omega
  have hN : tn k ≤ 24 := by have := hg.2.2; unfold tn; omega
  obtain ⟨M1, hM1⟩ : ∃ M1, M1 = mc_sheet rw (tn x) (tn w) M := ⟨_, rfl⟩
  have a1 : ∀ i, i ≠ 45 + rw.length → M1.1 i = M.1 i := fun i hi => by
    rw [hM1]
    exact ((zI_ne i hi).1).trans (zI_ne i hi).1
  have a2 : M1.1 (45 + rw.length) = upd (fun _ => 0) 0 (nI (tn w)) := by
    rw [hM1]
    exact zI_at
  have a3 : ∀ i, i ≠ 45 + rw.length + 1 → M1.2.1 i = M.2.1 i := fun i hi => by
    rw [hM1]
    exact if_neg hi
  have a4 : M1.2.1 (45 + rw.length + 1) = fun _ => 0 := by
    rw [hM1]
    exact if_pos rfl
  have a5 : M1.2.2 33 = va_up (M.2.2 33) (tn x) (some (45 + rw.length)) := by
    rw [hM1]
    exact zO_at
  have hM2 : mr_sheet x w k M1 = fil (zI (zI M1 41 (upd (M1.1 41) (tn x) (nI (tn w)))) 42 (upd (M1.1 42) (tn x) (nI (tn k)))) 43 (24 * tn x) 24 (fun _ => 0) := if_pos hg
  rw [← hM1, hM2]
  obtain ⟨M2, hM2'⟩ : ∃ M2, M2 = fil (zI (zI M1 41 (upd (M1.1 41) (tn x) (nI (tn w)))) 42 (upd (M1.1 42) (tn x) (nI (tn k)))) 43 (24 * tn x) 24 (fun _ => 0) := ⟨_, rfl⟩
  have hRI1 : RI t M1 := fun c c1 c2 c3 => (a1 c (by omega)).trans (h.ri c c1 c2 c3)
  have hRI2 : RI (ts t 42 (tn x) (tn k)) M2 := by
    rw [hM2']
    exact RI.L (RI.put (RI.I41 hRI1) (by decide))
  have b1 : ∀ i, i ≠ 41 → i ≠ 42 → M2.1 i = M1.1 i := fun i c1 c2 => by
    rw [hM2']
    exact ((zI_ne i c2).1).trans (zI_ne i c1).1
  have b41 : M2.1 41 = upd (M1.1 41) (tn x) (nI (tn w)) := by
    rw [hM2']
    rfl
  have b3 : ∀ i, i ≠ 43 → M2.2.1 i = M1.2.1 i := fun i c1 => by
    rw [hM2']
    exact fil_ne i c1
  have b43 : ∀ y, M2.2.1 43 y = if 24 * tn x ≤ y ∧ y < 24 * tn x + 24 then 0 else M1.2.1 43 y := fun y => by
    rw [hM2', fil_at]
    rfl
  have b5 : M2.2.2 33 = va_up (M.2.2 33) (tn x) (some (45 + rw.length)) := by
    rw [hM2']
    exact a5
  rw [← hM2']
  obtain ⟨z', hz'⟩ : ∃ z' : Nat → Option (Nat × Nat × Nat), z' = fun j => if j = tn x then some (45 + rw.length, 45 + rw.length + 1, tn w) else z j := ⟨_, rfl⟩
  have zp : z' (tn x) = some (45 + rw.length, 45 + rw.length + 1, tn w) := by rw [hz']; exact if_pos rfl
  have zn : ∀ j, ¬ j = tn x → z' j = z j := fun j e => by rw [hz']; exact if_neg e
  refine ⟨ts t 42 (tn x) (tn k), z', WJ_m h (fun i hi => (b1 i (by omega) (by omega)).trans (a1 i (by omega))) hRI2 (fun c hc => ts_nc hc) ⟨?_, ?_, ?_, ?_⟩ ⟨?_, ?_, ?_⟩⟩
  · intro j hj
    rw [b5]
    by_cases e : j = tn x
    · subst e
      rw [zp]
      refine ⟨fun q => (nomatch q), fun r ri L q => ?_⟩
      cases q
      refine ⟨if_pos rfl, rw2_0, ?_, ⟨by omega, by omega, hL3, by rw [ts_at]; exact hN⟩, ?_⟩
      · rw [ts_at]; exact rw2_1
      · rw [b1 _ (by omega) (by omega), a2]; exact pk_us
    · have e2 : va_up (M.2.2 33) (tn x) (some (45 + rw.length)) j = M.2.2 33 j := if_neg e
      rw [e2, zn j e, ts_nk e]
      obtain ⟨c1, c2⟩ := hC j hj
      refine ⟨c1, fun r ri L q => ?_⟩
      obtain ⟨d1, d2, d3, d4, d5⟩ := c2 r ri L q
      have l1 := getl d2
      have l2 := getl d3
      exact ⟨d1, by rw [rw2_at l1]; exact d2, by rw [rw2_at l2]; exact d3, d4, by rw [b1 r (by omega) (by omega), a1 r (by omega)]; exact d5⟩
  · intro j hj
    rw [b41]
    by_cases e : j = tn x
    · subst e
      rw [zp]
      refine ⟨fun q => (nomatch q), fun r ri L q => ?_⟩
      cases q
      exact ⟨pk_us, hL3, by rw [ts_at]; exact hN⟩
    · rw [zn j e, pk_un e, a1 41 (by omega), ts_nk e]
      exact hR j hj
  · intro j r ri L hj q y hy
    by_cases e : j = tn x
    · subst e
      rw [zp] at q
      cases q
      rw [ts_at] at hy
      rw [b3 _ (by omega), a4, b43, if_pos (by omega)]
    · rw [zn j e] at q
      rw [ts_nk e] at hy
      obtain ⟨d1, d2, d3, d4, d5⟩ := (hC j hj).2 r ri L q
      have l2 := getl d3
      rw [b3 ri (by omega), a3 ri (by omega), b43, if_neg (by omega), a3 43 (by omega)]
      exact hV j r ri L hj q y hy
  · intro j j' r ri L r' ri' L' hj hj' hne q q'
    by_cases e : j = tn x
    · rw [e, zp] at q
      cases q
      have e' : ¬ j' = tn x := fun c => hne (e.trans c.symm)
      rw [zn j' e'] at q'
      have l2 := getl ((hC j' hj').2 r' ri' L' q').2.2.1
      omega
    · rw [zn j e] at q
      have l1 := getl ((hC j hj).2 r ri L q).2.2.1
      by_cases e' : j' = tn x
      · rw [e', zp] at q'
        cases q'
        omega
      · rw [zn j' e'] at q'
        exact hD j j' r ri L r' ri' L' hj hj' hne q q'
  · intro c hc kk n
    unfold rw2 at hc
    rcases List.mem_append.mp hc with hc | hc
    · exact h.fw.1 c hc kk n
    · simp only [List.mem_cons, List.not_mem_nil, or_false] at hc
      rcases hc with rfl | rfl
      · exact fun q => (nomatch q)
      · intro q
        cases q
  · intro i ci fl hi kk j hk
    rw [rw2_len]
    by_cases l1 : i < 45 + rw.length
    · rw [rw2_at l1] at hi
      have := h.fw.2.1 i ci fl hi kk j hk
      rw [zSh_len] at this
      omega
    · by_cases l2 : i = 45 + rw.length
      · subst l2
        rw [rw2_0] at hi
        cases hi
        match kk, hk with
        | 0, hk => cases hk
        | 1, hk => cases hk; omega
        | kk + 2, hk => cases hk
      · by_cases l3 : i = 45 + rw.length + 1
        · subst l3
          rw [rw2_1] at hi
          cases hi
        · have l4 := (List.getElem?_eq_some_iff.mp hi).1
          rw [rw2_len] at l4
          omega
  · intro y j q
    rw [b5] at q
    rw [rw2_len]
    by_cases e : y = tn x
    · have : va_up (M.2.2 33) (tn x) (some (45 + rw.length)) y = some (45 + rw.length) := if_pos e
      rw [this] at q
      cases q
      omega
    · have : va_up (M.2.2 33) (tn x) (some (45 + rw.length)) y = M.2.2 33 y := if_neg e
      rw [this] at q
      have := h.fw.2.2 y j q
      rw [zSh_len] at this
      omega
