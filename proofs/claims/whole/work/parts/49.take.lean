def PT (b : Nat) : Nat → Prop := fun i => b ≤ i ∧ i ≤ b + 8
def TS (a b k : Nat) (M0 M : zM) : Prop := (∀ j, j < k → M.1 b j = M0.1 a j) ∧ zfr (PT b) M0 M
def TA (a b i : Nat) (M0 M : zM) : Prop := (∀ j, j < 9 → M.1 b j = M0.1 a j) ∧ (∀ i' j, i' < i → j < slen i' → M.1 (b + 1 + i') j = M0.1 (a + 1 + i') j) ∧ zfr (PT b) M0 M
theorem TS_put {a b k : Nat} {M0 M : zM} (h : TS a b k M0 M) (hab : ¬ PT b a) : TS a b (k + 1) M0 (zI M b (upd (M.1 b) k (M.1 a k))) := by
  refine ⟨fun j hj => ?_, h.2.trans (zfr_I ⟨Nat.le_refl _, by omega⟩)⟩
  rw [zI_at]
  by_cases e : j = k
  · rw [e, pk_us, (h.2 a hab).1]
  · rw [pk_un e]; exact h.1 j (by omega)
theorem TA_put {a b i n : Nat} {M0 M : zM} (h : TA a b i M0 M) (hi : i < 8) (hn : slen i = n) (hab : ¬ PT b (a + 1 + i)) : TA a b (i + 1) M0 (zI M (b + 1 + i) (va_cpy (M.1 (a + 1 + i)) (M.1 (b + 1 + i)) 0 0 n)) := by
  have hb : PT b (b + 1 + i) := ⟨by omega, by omega⟩
  refine ⟨fun j hj => ?_, fun i' j hi' hj => ?_, h.2.2.trans (zfr_I hb)⟩
  · rw [(zI_ne b (by omega)).1]; exact h.1 j hj
  · by_cases e : i' = i
    · subst e
      rw [zI_at, pk_cpy_in (Nat.zero_le _) (by omega), (h.2.2 _ hab).1]
      exact congrArg _ (by omega)
    · rw [(zI_ne (b + 1 + i') (by omega)).1]; exact h.2.1 i' j (by omega) hj
theorem TA_0 {a b : Nat} {M0 M : zM} (h : TS a b 9 M0 M) : TA a b 0 M0 M := ⟨h.1, fun i' j hi' => absurd hi' (by omega), h.2⟩
theorem TA_8 {a b : Nat} {M0 M : zM} (h : TA a b 8 M0 M) : CP a b M0 M := ⟨fun k hk => h.1 k (by omega), fun i j hi hj => h.2.1 i j hi hj⟩
section TPT
variable {l : Launch} {b9 : Option Nat} {R : Room} {y : MethodName} {cc : ByteArray} {nL : Nat} {ret : Option FieldType} {Q : Option Value → List zC → zM → Prop} {cells slots pc : Nat} {ls : List (Option Value)} {st : List Value} {S : List zC} {M : zM}
theorem r_tput {a b k index : Nat} {fl : List (Option (Option Nat))} {M0 : zM} (hT : TS a b k M0 M) (hf : zFL y.cls index 3 k false .int) (hd : decode cc pc = .ok (.putfield index, 3)) (hc : S[b]? = some (.inr (3, fl))) (hk : fl[k]? = some none) (hab : ¬ PT b a) (kk : ∀ M', TS a b (k + 1) M0 M' → RA l b9 R y cc nL ret Q cells slots (pc + 3) ls st S M') : RA l b9 R y cc nL ret Q cells slots pc ls (.int (M.1 a k) :: .ref b :: st) S M := r_putI hf hd rfl rfl hc hk (kk _ (TS_put hT hab))
theorem r_tcpy {a b i n index ca cb : Nat} {M0 : zM} (hT : TA a b i M0 M) (hca : a + 1 + i = ca) (hcb : b + 1 + i = cb) (hi : i < 8) (hn : slen i = n) (hab : ¬ PT b (a + 1 + i)) (hw : Cond.methodLink y.cls index arraycopyName ∈ zT ∧ Cond.native arraycopyName ∈ zT ∧ Cond.static arraycopyName ∈ zT ∧ Cond.initialized "java/lang/System" ∈ zT) (hd : decode cc pc = .ok (.invokestatic index, 3)) (hc0 : S[ca]? = some (.inl (0, n))) (hc1 : S[cb]? = some (.inl (0, n))) (hn9 : n < 2147483648) (hfr : 1 ≤ R.frames) (hlo : (st.map fun v => v.category).sum + (nativeFrameWords "java/lang/System" "arraycopy" 5 + 11) ≤ R.locals) (kk : ∀ M', TA a b (i + 1) M0 M' → RA l b9 R y cc nL ret Q cells slots (pc + 3) ls st S M') : RA l b9 R y cc nL ret Q cells slots pc ls (.int (nI n) :: .int (nI 0) :: .ref cb :: .int (nI 0) :: .ref ca :: st) S M := by
  subst hca; subst hcb
  have e0 : (nI 0).toNatClampNeg = 0 := rfl
  have en : (nI n).toNatClampNeg = n := nI_clamp (by omega)
  refine r_copyi hw hd hc0 hc1 (by decide) (by decide) (nI_pos (by omega)) (by rw [e0, en]; omega) (by rw [e0, en]; omega) hfr hlo ?_
  rw [e0, en]
  exact kk _ (TA_put hT hi hn hab)
end TPT
