/-! writes: the reference's numbers, and what is left as it was -/
def ts (t : Nat → Nat → Nat) (c k v : Nat) : Nat → Nat → Nat := fun c' j => if c' = c then (if j = k then v else t c' j) else t c' j
theorem ts_at (t : Nat → Nat → Nat) (c k v : Nat) : ts t c k v c k = v := by simp [ts]
theorem ts_nk {t : Nat → Nat → Nat} {c k v j : Nat} (h : j ≠ k) : ts t c k v c j = t c j := by simp [ts, h]
theorem ts_nc {t : Nat → Nat → Nat} {c k v c' : Nat} (h : c' ≠ c) : ts t c k v c' = t c' := by funext j; simp [ts, h]
def PR (i : Nat) : Prop := 34 ≤ i ∧ i ≤ 42 ∧ i ≠ 41
def zfr (P : Nat → Prop) (M M' : zM) : Prop := ∀ i, ¬ P i → M'.1 i = M.1 i ∧ M'.2.1 i = M.2.1 i ∧ M'.2.2 i = M.2.2 i
theorem zfr.rf {P : Nat → Prop} {M : zM} : zfr P M M := fun _ _ => ⟨rfl, rfl, rfl⟩
theorem zfr.trans {P : Nat → Prop} {M M1 M2 : zM} (h : zfr P M M1) (h2 : zfr P M1 M2) : zfr P M M2 := fun i hi => ⟨(h2 i hi).1.trans (h i hi).1, (h2 i hi).2.1.trans (h i hi).2.1, (h2 i hi).2.2.trans (h i hi).2.2⟩
theorem zfr.wk {P P' : Nat → Prop} {M M1 : zM} (h : zfr P M M1) (hp : ∀ i, P i → P' i) : zfr P' M M1 := fun i hi => h i (fun q => hi (hp i q))
theorem zfr_I {P : Nat → Prop} {M : zM} {c : Nat} {f : Nat → Int32} (h : P c) : zfr P M (zI M c f) := fun i hi => zI_ne i (fun e => hi (e ▸ h))
theorem RI.put {t : Nat → Nat → Nat} {M : zM} {c k v : Nat} (hR : RI t M) (hc : 34 ≤ c ∧ c ≤ 42 ∧ c ≠ 41) : RI (ts t c k v) (zI M c (upd (M.1 c) k (nI v))) := by
  intro c' h1 h2 h3
  by_cases e : c' = c
  · subst e
    rw [zI_at, hR c' h1 h2 h3]
    funext j
    by_cases hj : j = k
    · subst hj
      rw [pk_us]
      simp only [nF, ts_at]
    · rw [pk_un hj]
      simp only [nF, ts_nk hj]
  · rw [(zI_ne c' e).1, hR c' h1 h2 h3, ts_nc e]
section WRT
variable {l : Launch} {b : Option Nat} {R : Room} {y : MethodName} {cc : ByteArray} {nL : Nat} {ret : Option FieldType} {Q : Option Value → List zC → zM → Prop} {cells slots pc : Nat} {ls : List (Option Value)} {st : List Value} {S : List zC} {M : zM}
theorem r_Rast {a n k v : Nat} {t : Nat → Nat → Nat} (hd : decode cc pc = .ok (.iastore, 1)) (hc : S[a]? = some (.inl (0, n))) (hk : k < n) (hn : n < 2 ^ 31) (hR : RI t M) (ha : 34 ≤ a ∧ a ≤ 42 ∧ a ≠ 41) (kk : ∀ M', RI (ts t a k v) M' → zfr PR M M' → RA l b R y cc nL ret Q cells slots (pc + 1) ls st S M') : RA l b R y cc nL ret Q cells slots pc ls (.int (nI v) :: .int (nI k) :: .ref a :: st) S M := r_iastN hd hc hk hn (kk _ (hR.put ha) (zfr_I ha))
theorem r_Rput {index k v : Nat} {ty : FieldType} {fl : List (Option (Option Nat))} {t : Nat → Nat → Nat} (hf : zFL y.cls index 5 k false ty) (hd : decode cc pc = .ok (.putfield index, 3)) (hn : narrow ty (.int (nI v)) = .int (nI v)) (hfit : fits ty (.int (nI v)) = true) (hc : S[34]? = some (.inr (5, fl))) (hk : fl[k]? = some none) (hR : RI t M) (kk : ∀ M', RI (ts t 34 k v) M' → zfr PR M M' → RA l b R y cc nL ret Q cells slots (pc + 3) ls st S M') : RA l b R y cc nL ret Q cells slots pc ls (.int (nI v) :: .ref 34 :: st) S M := r_putI hf hd hn hfit hc hk (kk _ (hR.put (by decide)) (zfr_I (by unfold PR; decide)))
end WRT
/-- what a writing call of the reference gives -/
def zQR (r : Int32) (t' : Nat → Nat → Nat) (M : zM) : Option Value → zM → Prop := fun v M' => v = some (.int r) ∧ RI t' M' ∧ zfr PR M M'
/-- what a writing call of the class gives: the shop's numbers, and which cells may differ -/
def zQC (r : Int32) (t' : Nat → Nat → Nat) (P : Nat → Prop) (M : zM) : Option Value → zM → Prop := fun v M' => v = some (.int r) ∧ SI 1 (t' 35) (t' 38) (t' 34 7) M' ∧ zfr P M M'
/-! answers and new numbers of the calls that write -/
def sp_seed (t : Nat → Nat → Nat) (x : Int32) : Int32 := if 0 ≤ x.toInt then nI (t 35 7) else -1
def st_seed (t : Nat → Nat → Nat) (x : Int32) : Nat → Nat → Nat := if 0 ≤ x.toInt then ts t 35 7 (tn x) else t
def g_own (t : Nat → Nat → Nat) (x z w : Int32) : Prop := (0 ≤ x.toInt ∧ x.toInt < (t 35 0 : Int)) ∧ (0 ≤ z.toInt ∧ z.toInt ≤ 3) ∧ (10 ≤ w.toInt ∧ w.toInt ≤ 99)
def sp_own (t : Nat → Nat → Nat) (x z w : Int32) : Int32 := if (0 ≤ x.toInt ∧ x.toInt < (t 35 0 : Int)) ∧ (0 ≤ z.toInt ∧ z.toInt ≤ 3) ∧ (10 ≤ w.toInt ∧ w.toInt ≤ 99) then nI (t 35 (8 + 5 * tn x + 1 + tn z)) else -1
def st_own (t : Nat → Nat → Nat) (x z w : Int32) : Nat → Nat → Nat := if (0 ≤ x.toInt ∧ x.toInt < (t 35 0 : Int)) ∧ (0 ≤ z.toInt ∧ z.toInt ≤ 3) ∧ (10 ≤ w.toInt ∧ w.toInt ≤ 99) then ts t 35 (8 + 5 * tn x + 1 + tn z) (tn w) else t
def sp_cut (t : Nat → Nat → Nat) (x z w : Int32) : Int32 := if (0 ≤ x.toInt ∧ x.toInt < (t 35 1 : Int)) ∧ (0 ≤ z.toInt ∧ z.toInt ≤ 3) ∧ (0 ≤ w.toInt ∧ w.toInt ≤ 199) then nI (t 35 (33 + 4 * tn x + tn z)) else -1
def st_cut (t : Nat → Nat → Nat) (x z w : Int32) : Nat → Nat → Nat := if (0 ≤ x.toInt ∧ x.toInt < (t 35 1 : Int)) ∧ (0 ≤ z.toInt ∧ z.toInt ≤ 3) ∧ (0 ≤ w.toInt ∧ w.toInt ≤ 199) then ts t 35 (33 + 4 * tn x + tn z) (tn w) else t
