section OKT
variable {t : Nat → Nat → Nat}
theorem OK_own (hn : NB (t 35)) (hu : UBn (t 35) (t 38) (t 34 7)) (x z w : Int32) : OK t (st_own t x z w) := by
  unfold st_own
  split
  · rename_i h
    exact ⟨⟨NB_own hn (by unfold tn; omega) (by unfold tn; omega) (by unfold tn; omega), UBn_ts hu (by omega) (by omega) (by have := hn.1; unfold tn; omega)⟩, KP_35⟩
  · exact OK_id hn hu
theorem OK_cut (hn : NB (t 35)) (hu : UBn (t 35) (t 38) (t 34 7)) (x z w : Int32) : OK t (st_cut t x z w) := by
  unfold st_cut
  split
  · rename_i h
    exact ⟨⟨NB_cut hn (by unfold tn; omega) (by unfold tn; omega) (by unfold tn; omega), UBn_ts hu (by omega) (by omega) (by have := hn.2.1; unfold tn; omega)⟩, KP_35⟩
  · exact OK_id hn hu
theorem OK_rule (hn : NB (t 35)) (hu : UBn (t 35) (t 38) (t 34 7)) (x w : Int32) : OK t (st_rule t x w) := by
  unfold st_rule
  split
  · rename_i h
    exact ⟨⟨NB_45 hn (Or.inl ⟨rfl, by unfold tn; omega, by unfold tn; omega⟩), UBn_ts hu (by decide) (by decide) (by decide)⟩, KP_35⟩
  · split
    · rename_i h
      exact ⟨⟨NB_45 hn (Or.inr ⟨rfl, by unfold tn; omega⟩), UBn_ts hu (by decide) (by decide) (by decide)⟩, KP_35⟩
    · exact OK_id hn hu
theorem OK_seed (hn : NB (t 35)) (hu : UBn (t 35) (t 38) (t 34 7)) (x : Int32) : OK t (st_seed t x) := by
  unfold st_seed
  split
  · have := i32_rng x
    exact ⟨⟨NB_7 hn (by unfold tn; omega), UBn_ts hu (by decide) (by decide) (by decide)⟩, KP_35⟩
  · exact OK_id hn hu
theorem OK_person (hn : NB (t 35)) (hu : UBn (t 35) (t 38) (t 34 7)) (x w : Int32) : OK t (st_person t x w) := by
  unfold st_person
  split
  · split
    · exact OK_id hn hu
    · rename_i h h5
      have h0 := hn.1
      refine ⟨⟨NB_np hn (by omega) (by unfold tn; omega) (by unfold tn; omega), ?_⟩, ((((((KP_35.trans KP_35).trans KP_35).trans KP_35).trans KP_35).trans KP_35).trans KP_7)⟩
      have e : np t (tn x) (tn w) 34 7 = 0 := by unfold np; rw [ts_at]
      rw [e]
      exact UBn_0
  · exact OK_id hn hu
theorem OK_suit (hn : NB (t 35)) (hu : UBn (t 35) (t 38) (t 34 7)) (x : Int32) : OK t (st_suit t x) := by
  unfold st_suit
  split
  · split
    · exact OK_id hn hu
    · rename_i h h5
      have h0 := hn.2.1
      refine ⟨⟨NB_ns hn (by omega) (by unfold tn; omega), ?_⟩, (((((KP_35.trans KP_35).trans KP_35).trans KP_35).trans KP_35).trans KP_7)⟩
      have e : ns t (tn x) 34 7 = 0 := by unfold ns; rw [ts_at]
      rw [e]
      exact UBn_0
  · exact OK_id hn hu
theorem KP_nd {p s w : Nat} : KP t (nd t p s w) := ((((KP_35.trans KP_35).trans KP_35).trans KP_35).trans KP_35)
theorem UBn_nd {p s w : Nat} (hu : UBn (t 35) (t 38) (t 34 7)) : UBn (nd t p s w 35) (nd t p s w 38) (nd t p s w 34 7) := by
  rw [nd_nc t p s w (c := 38) (by decide), nd_nc t p s w (c := 34) (by decide)]
  exact UBn_grow hu (by rw [nd_2]; omega) (by rw [nd_else t p s w (by decide) (by omega)]; exact Nat.le_refl _) (fun d j hd hj => nd_else t p s w (by omega) (by omega))
theorem NB_sn (hn : NB (t 35)) : NB (st_notes t 35) := by rw [sn_35]; exact hn
theorem OK_does (hn : NB (t 35)) (hu : UBn (t 35) (t 38) (t 34 7)) (x z w : Int32) : OK t (st_does t x z w) := by
  unfold st_does
  split
  · split
    · exact OK_id hn hu
    · rename_i h h5
      have h2 := hn.2.2.1
      exact ⟨⟨NB_nd (NB_sn hn) (by rw [sn_35]; omega) (by rw [sn_35]; unfold tn; omega) (by unfold tn; omega) (by unfold tn; omega), UBn_nd (UBn_notes hn hu)⟩, KP_notes.trans KP_nd⟩
  · exact OK_id hn hu
theorem OK_mend (hn : NB (t 35)) (hu : UBn (t 35) (t 38) (t 34 7)) (x : Int32) : OK t (st_mend t x) := by
  unfold st_mend
  split
  · split
    · exact OK_id hn hu
    · rename_i h h5
      have h2 := hn.2.2.1
      have h6 := hn.2.2.2.2.2.2.1
      refine ⟨⟨NB_6 (NB_sn hn) ?_, UBn_ts (UBn_notes hn hu) (by decide) (by decide) (by decide)⟩, KP_notes.trans KP_35⟩
      exact Nat.or_lt_two_pow (n := 10) h6 (pw_lt (by unfold tn; omega))
  · exact OK_id hn hu
theorem UBn_3 {v : Nat} (hu : UBn (t 35) (t 38) (t 34 7)) (hv : t 35 3 ≤ v) : UBn (ts t 35 3 v 35) (ts t 35 3 v 38) (ts t 35 3 v 34 7) := by
  rw [ts_nc (c' := 38) (by decide), ts_nc (c' := 34) (by decide)]
  exact UBn_grow hu (by rw [ts_nk (by decide)]; exact Nat.le_refl _) (by rw [ts_at]; exact hv) (fun d j _ _ => ts_nk (by omega))
theorem OK_dy (hn : NB (t 35)) (hu : UBn (t 35) (t 38) (t 34 7)) (h : t 35 3 + 1 ≤ 9999) : OK t (dy t) := ⟨⟨NB_dy hn h, UBn_3 (UBn_notes hn hu) (by rw [sn_35]; omega)⟩, KP_notes.trans KP_35⟩
theorem OK_dyk (hn : NB (t 35)) (hu : UBn (t 35) (t 38) (t 34 7)) : ∀ k, t 35 3 + k ≤ 9999 → OK t (dyk t k)
  | 0, _ => OK_id hn hu
  | k + 1, h => by
    have h1 := OK_dyk hn hu k (by omega)
    have h2 := OK_dy h1.1.1 h1.1.2 (by rw [dyk_3]; omega)
    exact ⟨h2.1, h1.2.trans h2.2⟩
theorem OK_days (hn : NB (t 35)) (hu : UBn (t 35) (t 38) (t 34 7)) (x : Int32) : OK t (st_days t x) := by
  unfold st_days
  split
  · split
    · exact OK_id hn hu
    · exact OK_dyk hn hu _ (by omega)
  · exact OK_id hn hu
theorem OK_d2 (hn : NB (t 35)) (hu : UBn (t 35) (t 38) (t 34 7)) : OK t (d2 t) := by
  refine ⟨⟨NB_d2 hn, ?_⟩, ?_⟩
  · unfold d2
    split
    · exact UBn_nd (UBn_ts (UBn_notes hn hu) (by decide) (by decide) (by decide))
    · exact UBn_ts (UBn_notes hn hu) (by decide) (by decide) (by decide)
  · unfold d2
    split
    · exact (KP_notes.trans KP_35).trans KP_nd
    · exact KP_notes.trans KP_35
theorem OK_dr (hn : NB (t 35)) (hu : UBn (t 35) (t 38) (t 34 7)) (h : t 35 3 + 1 ≤ 9999) : OK t (dr t) := by
  have h2 := OK_d2 hn hu
  exact ⟨⟨NB_dr hn h, UBn_3 h2.1.2 (by rw [d2_3]; omega)⟩, h2.2.trans KP_35⟩
theorem OK_drk (hn : NB (t 35)) (hu : UBn (t 35) (t 38) (t 34 7)) : ∀ k, t 35 3 + k ≤ 9999 → OK t (drk t k)
  | 0, _ => OK_id hn hu
  | k + 1, h => by
    have h1 := OK_drk hn hu k (by omega)
    have h2 := OK_dr h1.1.1 h1.1.2 (by rw [drk_3]; omega)
    exact ⟨h2.1, h1.2.trans h2.2⟩
theorem OK_drift (hn : NB (t 35)) (hu : UBn (t 35) (t 38) (t 34 7)) (x : Int32) : OK t (st_drift t x) := by
  unfold st_drift
  split
  · split
    · exact OK_id hn hu
    · exact OK_drk hn hu _ (by omega)
  · exact OK_id hn hu
theorem OK_undo (hn : NB (t 35)) (hu : UBn (t 35) (t 38) (t 34 7)) : OK t (st_undo t) := by
  unfold st_undo
  split
  · exact OK_id hn hu
  · rename_i h
    exact ⟨UBn_undo hn hu h, rfl, rfl, rfl, rfl, rfl, rfl⟩
theorem OK_restore (hn : NB (t 35)) (hu : UBn (t 35) (t 38) (t 34 7)) (hi : t 34 11 ≤ 1) (hk : t 34 11 = 1 → NB (t 40) ∧ UBn (t 40) (fun j => t 40 (89 + j)) (t 34 10)) : OK t (st_restore t) := by
  unfold st_restore
  split
  · exact OK_id hn hu
  · rename_i h
    obtain ⟨h1, h2⟩ := hk (by omega)
    refine ⟨⟨NB_cong h1 (fun j hj => ?_), UBn_cong h1 h2 (fun j hj => ?_) (fun j hj => ?_)⟩, rfl, rfl, rfl, rfl, rfl, rfl⟩
    · exact if_pos hj
    · exact if_pos hj
    · exact if_pos hj
end OKT
