/-! the wardrobe on the tape: the letters f, L of them; a state is (place, fault): 0 no fault, p + 1 a fault at p -/
def wh_F (f : Nat → Nat) : Nat → Nat → Nat
  | 0, a => a
  | j + 1, a => if f a = 32 then wh_F f j (a + 1) else a
/-- the place behind blanks -/
def wh (f : Nat → Nat) (L a : Nat) : Nat := wh_F f (L - a) a
def TB (f : Nat → Nat) (L : Nat) : Prop := L ≤ 130 ∧ ∀ j, j < L → 32 ≤ f j ∧ f j ≤ 126
def fa (e p : Nat) : Nat := if e = 0 then p + 1 else e
def fI (e : Nat) : Int32 := if e = 0 then -1 else nI (e - 1)
def wnm (f : Nat → Nat) (L : Nat) : Nat → Nat → Nat → Nat × Nat
  | 0, b, v => (b, v)
  | j + 1, b, v => if b < L ∧ 48 ≤ f b ∧ f b ≤ 57 then wnm f L j (b + 1) (v * 10 + f b - 48) else (b, v)
def nu (f : Nat → Nat) (L lo hi : Nat) (s : Nat × Nat) : Nat × Nat := ((wnm f L 3 (wh f L s.1) 0).1, if (wnm f L 3 (wh f L s.1) 0).1 = wh f L s.1 ∨ (wnm f L 3 (wh f L s.1) 0).2 < lo ∨ hi < (wnm f L 3 (wh f L s.1) 0).2 then fa s.2 (wh f L s.1) else s.2)
def nv (f : Nat → Nat) (L a : Nat) : Nat := (wnm f L 3 (wh f L a) 0).2
def ex (f : Nat → Nat) (L c : Nat) (s : Nat × Nat) : Nat × Nat := if wh f L s.1 < L ∧ f (wh f L s.1) = c then (wh f L s.1 + 1, s.2) else (wh f L s.1, fa s.2 (wh f L s.1))
def tkA (f : Nat → Nat) (L c a : Nat) : Nat := if wh f L a < L ∧ f (wh f L a) = c then wh f L a + 1 else wh f L a
def kn (c : Nat) : Nat := if c = 112 then 0 else if c = 116 then 1 else if c = 115 then 2 else if c = 119 then 3 else if c = 104 then 4 else 5
def ki (f : Nat → Nat) (L : Nat) (s : Nat × Nat) : Nat × Nat := if wh f L s.1 < L ∧ kn (f (wh f L s.1)) < 5 then (wh f L s.1 + 1, s.2) else (wh f L s.1, fa s.2 (wh f L s.1))
def kv (f : Nat → Nat) (L a : Nat) : Nat := if wh f L a < L ∧ kn (f (wh f L a)) < 5 then kn (f (wh f L a)) else 0
def q0 (f : Nat → Nat) (L m : Nat) (s : Nat × Nat) : Nat × Nat := if m = 0 then s else ex f L 46 s
def fs (f : Nat → Nat) (L lo hi : Nat) (s : Nat × Nat) : Nat → Nat × Nat
  | 0 => s
  | m + 1 => nu f L lo hi (q0 f L m (fs f L lo hi s m))
def fv (f : Nat → Nat) (L lo hi : Nat) (s : Nat × Nat) (m : Nat) : Nat := nv f L (q0 f L m (fs f L lo hi s m)).1
/-- behind a comma -/
def sc (f : Nat → Nat) (L n : Nat) (s : Nat × Nat) : Nat × Nat := if n = 0 then s else (wh f L s.1 + 1, s.2)
def wpS (f : Nat → Nat) (L n : Nat) (s : Nat × Nat) : Nat × Nat := fs f L 10 99 (ki f L (sc f L n s)) 4
def wpG (f : Nat → Nat) (L n : Nat) (s : Nat × Nat) (g : Nat → Nat) : Nat → Nat := fun j => if j = 5 * n then kv f L (sc f L n s).1 else if 5 * n + 1 ≤ j ∧ j < 5 * n + 1 + 4 then fv f L 10 99 (ki f L (sc f L n s)) (j - (5 * n + 1)) else g j
def pl (f : Nat → Nat) (L : Nat) : Nat → Nat → Nat × Nat → (Nat → Nat) → (Nat × Nat) × Nat × (Nat → Nat)
  | 0, n, s, g => (s, n, g)
  | j + 1, n, s, g => if s.2 ≠ 0 then (s, n, g) else if n ≠ 0 ∧ ¬ (wh f L s.1 < L ∧ f (wh f L s.1) = 44) then ((wh f L s.1, s.2), n, g) else pl f L j (n + 1) (wpS f L n s) (wpG f L n s g)
def wtS (f : Nat → Nat) (L n : Nat) (s : Nat × Nat) : Nat × Nat := fs f L 0 199 (sc f L n s) 4
def wtG (f : Nat → Nat) (L n : Nat) (s : Nat × Nat) (g : Nat → Nat) : Nat → Nat := fun j => if 25 + 4 * n ≤ j ∧ j < 25 + 4 * n + 4 then fv f L 0 199 (sc f L n s) (j - (25 + 4 * n)) else g j
def sl (f : Nat → Nat) (L : Nat) : Nat → Nat → Nat × Nat → (Nat → Nat) → (Nat × Nat) × Nat × (Nat → Nat)
  | 0, n, s, g => (s, n, g)
  | j + 1, n, s, g => if s.2 ≠ 0 then (s, n, g) else if n ≠ 0 ∧ ¬ (wh f L s.1 < L ∧ f (wh f L s.1) = 44) then ((wh f L s.1, s.2), n, g) else sl f L j (n + 1) (wtS f L n s) (wtG f L n s g)
def wzA (f : Nat → Nat) (L : Nat) (g : Nat → Nat) : (Nat × Nat) × Nat × (Nat → Nat) := pl f L 5 0 (ex f L 59 (nu f L 1 30 (0, 0))) g
def wzB (f : Nat → Nat) (L : Nat) (A : (Nat × Nat) × Nat × (Nat → Nat)) : (Nat × Nat) × Nat × (Nat → Nat) := if A.1.2 = 0 ∧ wh f L A.1.1 < L then sl f L 4 0 (ex f L 59 A.1) A.2.2 else (A.1, 0, A.2.2)
def wzE (f : Nat → Nat) (L : Nat) (B : Nat × Nat) : Nat := if B.2 = 0 ∧ wh f L B.1 < L then wh f L B.1 + 1 else B.2
section WHL
variable {f : Nat → Nat} {L a : Nat}
theorem wh_s (h : a < L) (h2 : f a = 32) : wh f L a = wh f L (a + 1) := by
  unfold wh
  rw [show L - a = (L - (a + 1)) + 1 by omega, wh_F, if_pos h2]
theorem wh_n1 (h : L ≤ a) : wh f L a = a := by
  unfold wh
  rw [show L - a = 0 by omega, wh_F]
theorem wh_n2 (h : a < L) (h2 : ¬ f a = 32) : wh f L a = a := by
  unfold wh
  rw [show L - a = (L - a - 1) + 1 by omega, wh_F, if_neg h2]
theorem wh_Fb : ∀ j a, a + j = L → a ≤ wh_F f j a ∧ wh_F f j a ≤ L ∧ (wh_F f j a < L → ¬ f (wh_F f j a) = 32)
  | 0, a, h => by
    rw [wh_F]
    exact ⟨Nat.le_refl _, by omega, fun q => absurd q (by omega)⟩
  | j + 1, a, h => by
    rw [wh_F]
    by_cases h2 : f a = 32
    · rw [if_pos h2]
      have h3 := wh_Fb j (a + 1) (by omega)
      exact ⟨by omega, h3.2⟩
    · rw [if_neg h2]
      exact ⟨Nat.le_refl _, by omega, fun _ => h2⟩
theorem wh_b (h : a ≤ L) : a ≤ wh f L a ∧ wh f L a ≤ L ∧ (wh f L a < L → ¬ f (wh f L a) = 32) := wh_Fb _ _ (by omega)
theorem wh_wh (h : a ≤ L) : wh f L (wh f L a) = wh f L a := by
  have h1 := wh_b (f := f) h
  by_cases h2 : wh f L a < L
  · exact wh_n2 h2 (h1.2.2 h2)
  · exact wh_n1 (by omega)
theorem wnm_no {j b v : Nat} (h : ¬ (b < L ∧ 48 ≤ f b ∧ f b ≤ 57)) : wnm f L j b v = (b, v) := by
  cases j with
  | zero => rfl
  | succ j => rw [wnm, if_neg h]
theorem wnm_s {j b v : Nat} (h : b < L ∧ 48 ≤ f b ∧ f b ≤ 57) : wnm f L (j + 1) b v = wnm f L j (b + 1) (v * 10 + f b - 48) := by rw [wnm, if_pos h]
theorem wnm_b : ∀ (j b v : Nat), b ≤ L → b ≤ (wnm f L j b v).1 ∧ (wnm f L j b v).1 ≤ L ∧ (wnm f L j b v).1 ≤ b + j ∧ (wnm f L j b v).2 + 1 ≤ (v + 1) * 10 ^ j
  | 0, b, v, h => by
    rw [wnm]
    exact ⟨Nat.le_refl _, h, Nat.le_refl _, by rw [Nat.pow_zero, Nat.mul_one]; exact Nat.le_refl _⟩
  | j + 1, b, v, h => by
    by_cases hc : b < L ∧ 48 ≤ f b ∧ f b ≤ 57
    · rw [wnm_s hc]
      have h2 := wnm_b j (b + 1) (v * 10 + f b - 48) (by omega)
      refine ⟨by omega, h2.2.1, by omega, Nat.le_trans h2.2.2.2 ?_⟩
      rw [Nat.pow_succ, Nat.mul_comm (10 ^ j) 10, ← Nat.mul_assoc]
      exact Nat.mul_le_mul_right _ (by omega)
    · rw [wnm_no hc]
      refine ⟨Nat.le_refl _, h, by omega, ?_⟩
      have : 1 ≤ 10 ^ (j + 1) := Nat.one_le_pow _ _ (by decide)
      calc v + 1 = (v + 1) * 1 := (Nat.mul_one _).symm
        _ ≤ _ := Nat.mul_le_mul_left _ this
theorem nv_le (h : a ≤ L) : nv f L a ≤ 999 := by
  have h1 := wh_b (f := f) h
  have h2 := (wnm_b (f := f) 3 (wh f L a) 0 h1.2.1).2.2.2
  unfold nv
  omega
theorem nu_le {s : Nat × Nat} {lo hi : Nat} (h : s.1 ≤ L) : (nu f L lo hi s).1 ≤ L := (wnm_b (f := f) 3 (wh f L s.1) 0 (wh_b (f := f) h).2.1).2.1
theorem ex_le {s : Nat × Nat} {c : Nat} (h : s.1 ≤ L) : (ex f L c s).1 ≤ L := by
  have h1 := wh_b (f := f) h
  unfold ex
  split
  · exact (by omega : wh f L s.1 + 1 ≤ L)
  · exact h1.2.1
theorem ki_le {s : Nat × Nat} (h : s.1 ≤ L) : (ki f L s).1 ≤ L := by
  have h1 := wh_b (f := f) h
  unfold ki
  split
  · exact (by omega : wh f L s.1 + 1 ≤ L)
  · exact h1.2.1
theorem q0_le {s : Nat × Nat} {m : Nat} (h : s.1 ≤ L) : (q0 f L m s).1 ≤ L := by
  unfold q0
  split
  · exact h
  · exact ex_le h
theorem fs_le {s : Nat × Nat} {lo hi : Nat} (h : s.1 ≤ L) : ∀ m, (fs f L lo hi s m).1 ≤ L
  | 0 => h
  | m + 1 => nu_le (q0_le (fs_le h m))
theorem fa_ne (e p : Nat) : fa e p ≠ 0 := by
  unfold fa
  split <;> omega
theorem fa_e {e p : Nat} (h : e ≠ 0) : fa e p = e := if_neg h
theorem fa_0 (p : Nat) : fa 0 p = p + 1 := if_pos rfl
/-! a fault stays the first -/
theorem nu_f {s : Nat × Nat} {lo hi : Nat} (h : s.2 ≠ 0) : (nu f L lo hi s).2 = s.2 := by
  show (if _ then _ else _) = _
  split
  · exact fa_e h
  · rfl
theorem ex_f {s : Nat × Nat} {c : Nat} (h : s.2 ≠ 0) : (ex f L c s).2 = s.2 := by
  unfold ex
  split
  · rfl
  · exact fa_e h
theorem ki_f {s : Nat × Nat} (h : s.2 ≠ 0) : (ki f L s).2 = s.2 := by
  unfold ki
  split
  · rfl
  · exact fa_e h
theorem q0_f {s : Nat × Nat} {m : Nat} (h : s.2 ≠ 0) : (q0 f L m s).2 = s.2 := by
  unfold q0
  split
  · rfl
  · exact ex_f h
theorem fs_f {s : Nat × Nat} {lo hi : Nat} (h : s.2 ≠ 0) : ∀ m, (fs f L lo hi s m).2 = s.2
  | 0 => rfl
  | m + 1 => by
    have h1 := fs_f (lo := lo) (hi := hi) h m
    have h2 : (q0 f L m (fs f L lo hi s m)).2 = s.2 := (q0_f (by rw [h1]; exact h)).trans h1
    exact (nu_f (by rw [h2]; exact h)).trans h2
theorem fs_f2 {s : Nat × Nat} {lo hi m : Nat} (h : (fs f L lo hi s (m + 1)).2 = 0) : (fs f L lo hi s m).2 = 0 := by
  by_cases h2 : (fs f L lo hi s m).2 = 0
  · exact h2
  · have h3 : (q0 f L m (fs f L lo hi s m)).2 = (fs f L lo hi s m).2 := q0_f h2
    have h4 : (fs f L lo hi s (m + 1)).2 = _ := nu_f (f := f) (L := L) (lo := lo) (hi := hi) (s := q0 f L m (fs f L lo hi s m)) (by rw [h3]; exact h2)
    omega
/-- a number without fault is within its bounds -/
theorem nu_in {s : Nat × Nat} {lo hi : Nat} (h : (nu f L lo hi s).2 = 0) : lo ≤ nv f L s.1 ∧ nv f L s.1 ≤ hi := by
  have h : (if (wnm f L 3 (wh f L s.1) 0).1 = wh f L s.1 ∨ (wnm f L 3 (wh f L s.1) 0).2 < lo ∨ hi < (wnm f L 3 (wh f L s.1) 0).2 then fa s.2 (wh f L s.1) else s.2) = 0 := h
  unfold nv
  split at h
  · exact absurd h (fa_ne _ _)
  · omega
theorem fs_in {s : Nat × Nat} {lo hi : Nat} : ∀ {n m : Nat}, (fs f L lo hi s n).2 = 0 → m < n → lo ≤ fv f L lo hi s m ∧ fv f L lo hi s m ≤ hi
  | 0, m, _, hm => absurd hm (by omega)
  | n + 1, m, h, hm => by
    by_cases e : m = n
    · subst e
      exact nu_in h
    · exact fs_in (fs_f2 h) (by omega)
theorem kv_le (a : Nat) : kv f L a ≤ 4 := by
  unfold kv
  split <;> omega
theorem sc_le {s : Nat × Nat} {n : Nat} (h : s.1 ≤ L) (h2 : n = 0 ∨ wh f L s.1 < L) : (sc f L n s).1 ≤ L := by
  unfold sc
  split
  · exact h
  · show wh f L s.1 + 1 ≤ L
    omega
end WHL
theorem kix_eq (c : Nat) : kix c = if kn c < 5 then nI (kn c) else -1 := by
  unfold kix kn
  split
  · rfl
  · split
    · rfl
    · split
      · rfl
      · split
        · rfl
        · split <;> rfl
/-- a state's bounds -/
def SK (L : Nat) (s : Nat × Nat) : Prop := s.1 ≤ L ∧ s.2 ≤ L + 1
section SKL
variable {f : Nat → Nat} {L : Nat} {s : Nat × Nat}
theorem fa_k {e p : Nat} (h : e ≤ L + 1) (h2 : p ≤ L) : fa e p ≤ L + 1 := by
  unfold fa
  split <;> omega
theorem nu_k {lo hi : Nat} (h : SK L s) : SK L (nu f L lo hi s) := by
  refine ⟨nu_le h.1, ?_⟩
  show (if _ then _ else _) ≤ _
  split
  · exact fa_k h.2 (wh_b h.1).2.1
  · exact h.2
theorem ex_k {c : Nat} (h : SK L s) : SK L (ex f L c s) := by
  refine ⟨ex_le h.1, ?_⟩
  unfold ex
  split
  · exact h.2
  · exact fa_k h.2 (wh_b h.1).2.1
theorem ki_k (h : SK L s) : SK L (ki f L s) := by
  refine ⟨ki_le h.1, ?_⟩
  unfold ki
  split
  · exact h.2
  · exact fa_k h.2 (wh_b h.1).2.1
theorem q0_k {m : Nat} (h : SK L s) : SK L (q0 f L m s) := by
  unfold q0
  split
  · exact h
  · exact ex_k h
theorem fs_k {lo hi : Nat} (h : SK L s) : ∀ m, SK L (fs f L lo hi s m)
  | 0 => h
  | m + 1 => nu_k (q0_k (fs_k h m))
theorem sc_k {n : Nat} (h : SK L s) (h2 : n = 0 ∨ wh f L s.1 < L) : SK L (sc f L n s) := by
  refine ⟨sc_le h.1 h2, ?_⟩
  unfold sc
  split <;> exact h.2
theorem nu_eq {lo hi a e q v : Nat} (hx : wnm f L 3 (wh f L a) 0 = (q, v)) : nu f L lo hi (a, e) = (q, if q = wh f L a ∨ v < lo ∨ hi < v then fa e (wh f L a) else e) := by
  unfold nu
  rw [hx]
end SKL
/-! the class's reader -/
def RS (f : Nat → Nat) (L a e : Nat) (M : zM) : Prop := M.1 19 1 = nI L ∧ M.1 19 2 = nI a ∧ M.1 19 3 = fI e ∧ (∀ j, j < L → M.1 20 j = nI (f j))
def W1 : Nat → Prop := fun i => i = 19
def W2 (c : Nat) : Nat → Prop := fun i => i = 19 ∨ i = c
def WF (P : Nat → Prop) (M M' : zM) : Prop := (∀ k, 4 ≤ k → M'.1 19 k = M.1 19 k) ∧ zfr P M M'
theorem WF.rf {P : Nat → Prop} {M : zM} : WF P M M := ⟨fun _ _ => rfl, zfr.rf⟩
theorem WF.trans {P : Nat → Prop} {M M1 M2 : zM} (h : WF P M M1) (h2 : WF P M1 M2) : WF P M M2 := ⟨fun k hk => (h2.1 k hk).trans (h.1 k hk), h.2.trans h2.2⟩
theorem WF.w2 {c : Nat} {M M1 : zM} (h : WF W1 M M1) : WF (W2 c) M M1 := ⟨h.1, h.2.wk (fun _ q => Or.inl q)⟩
theorem WF.put {M : zM} {k : Nat} {v : Int32} (h : k < 4) : WF W1 M (zI M 19 (upd (M.1 19) k v)) := ⟨fun j hj => by rw [zI_at]; exact pk_un (by omega), zfr_I rfl⟩
theorem WF.row {c : Nat} {M : zM} {g : Nat → Int32} (h : 19 ≠ c) : WF (W2 c) M (zI M c g) := ⟨fun j hj => by rw [(zI_ne 19 h).1], zfr_I (Or.inr rfl)⟩
section RSL
variable {f : Nat → Nat} {L a e : Nat} {M M' : zM}
theorem RS.put2 {a' : Nat} (h : RS f L a e M) : RS f L a' e (zI M 19 (upd (M.1 19) 2 (nI a'))) := ⟨by rw [zI_at, pk_un (by decide)]; exact h.1, by rw [zI_at]; exact pk_us, by rw [zI_at, pk_un (by decide)]; exact h.2.2.1, fun j hj => by rw [(zI_ne 20 (by decide)).1]; exact h.2.2.2 j hj⟩
theorem RS.put3 {e' : Nat} (h : RS f L a e M) : RS f L a e' (zI M 19 (upd (M.1 19) 3 (fI e'))) := ⟨by rw [zI_at, pk_un (by decide)]; exact h.1, by rw [zI_at, pk_un (by decide)]; exact h.2.1, by rw [zI_at]; exact pk_us, fun j hj => by rw [(zI_ne 20 (by decide)).1]; exact h.2.2.2 j hj⟩
theorem RS.put4 {k : Nat} {v : Int32} (h : RS f L a e M) (hk : 4 ≤ k) : RS f L a e (zI M 19 (upd (M.1 19) k v)) := ⟨by rw [zI_at, pk_un (by omega)]; exact h.1, by rw [zI_at, pk_un (by omega)]; exact h.2.1, by rw [zI_at, pk_un (by omega)]; exact h.2.2.1, fun j hj => by rw [(zI_ne 20 (by decide)).1]; exact h.2.2.2 j hj⟩
theorem RS.row {c : Nat} {g : Nat → Int32} (h : RS f L a e M) (h1 : 19 ≠ c) (h2 : 20 ≠ c) : RS f L a e (zI M c g) := ⟨by rw [(zI_ne 19 h1).1]; exact h.1, by rw [(zI_ne 19 h1).1]; exact h.2.1, by rw [(zI_ne 19 h1).1]; exact h.2.2.1, fun j hj => by rw [(zI_ne 20 h2).1]; exact h.2.2.2 j hj⟩
end RSL
section RSR
variable {l : Launch} {b : Option Nat} {R : Room} {y : MethodName} {cc : ByteArray} {nL : Nat} {ret : Option FieldType} {Q : Option Value → List zC → zM → Prop} {cells slots pc : Nat} {ls : List (Option Value)} {st : List Value} {S : List zC} {M : zM}
theorem r_S2 {f : Nat → Nat} {L a e a' index : Nat} {fl : List (Option (Option Nat))} (hR : RS f L a e M) (hf : zFL y.cls index 1 2 false .int) (hd : decode cc pc = .ok (.putfield index, 3)) (hc : S[19]? = some (.inr (1, fl))) (hk : fl[2]? = some none) (kk : ∀ M', RS f L a' e M' → WF W1 M M' → RA l b R y cc nL ret Q cells slots (pc + 3) ls st S M') : RA l b R y cc nL ret Q cells slots pc ls (.int (nI a') :: .ref 19 :: st) S M := r_putI hf hd rfl rfl hc hk (kk _ hR.put2 (WF.put (by decide)))
theorem r_S3 {f : Nat → Nat} {L a e e' index : Nat} {fl : List (Option (Option Nat))} (hR : RS f L a e M) (hf : zFL y.cls index 1 3 false .int) (hd : decode cc pc = .ok (.putfield index, 3)) (hc : S[19]? = some (.inr (1, fl))) (hk : fl[3]? = some none) (kk : ∀ M', RS f L a e' M' → WF W1 M M' → RA l b R y cc nL ret Q cells slots (pc + 3) ls st S M') : RA l b R y cc nL ret Q cells slots pc ls (.int (fI e') :: .ref 19 :: st) S M := r_putI hf hd rfl rfl hc hk (kk _ hR.put3 (WF.put (by decide)))
theorem r_rowK {f : Nat → Nat} {L a e c n k : Nat} {x : Int32} (hR : RS f L a e M) (hd : decode cc pc = .ok (.iastore, 1)) (hc : S[c]? = some (.inl (0, n))) (hk : k < n) (hn : n < 2 ^ 31) (h19 : 19 ≠ c) (h20 : 20 ≠ c) (kk : ∀ M', RS f L a e M' → M'.1 c = upd (M.1 c) k x → WF (W2 c) M M' → (∀ i, i ≠ c → M'.1 i = M.1 i) → RA l b R y cc nL ret Q cells slots (pc + 1) ls st S M') : RA l b R y cc nL ret Q cells slots pc ls (.int x :: .int (nI k) :: .ref c :: st) S M := r_iastN hd hc hk hn (kk _ (hR.row h19 h20) zI_at (WF.row h19) (fun i hi => (zI_ne i hi).1))
theorem r_S4 {f : Nat → Nat} {L a e k index : Nat} {x : Int32} {fl : List (Option (Option Nat))} (hR : RS f L a e M) (h4 : 4 ≤ k) (hf : zFL y.cls index 1 k false .int) (hd : decode cc pc = .ok (.putfield index, 3)) (hc : S[19]? = some (.inr (1, fl))) (hk : fl[k]? = some none) (kk : ∀ M', RS f L a e M' → M'.1 19 = upd (M.1 19) k x → zfr W1 M M' → (∀ i, i ≠ 19 → M'.1 i = M.1 i) → RA l b R y cc nL ret Q cells slots (pc + 3) ls st S M') : RA l b R y cc nL ret Q cells slots pc ls (.int x :: .ref 19 :: st) S M := r_putI hf hd rfl rfl hc hk (kk _ (hR.put4 h4) zI_at (zfr_I rfl) (fun i hi => (zI_ne i hi).1))
theorem r_gen (kk : ∀ M', M' = M → RA l b R y cc nL ret Q cells slots pc ls st S M') : RA l b R y cc nL ret Q cells slots pc ls st S M := kk M rfl
end RSR
/-! rows read -/
def wrr (g : Nat → Int32) (b m : Nat) (v : Nat → Nat) : Nat → Int32 := fun j => if b ≤ j ∧ j < b + m then nI (v (j - b)) else g j
theorem wrr_0 {g : Nat → Int32} {b : Nat} {v : Nat → Nat} : wrr g b 0 v = g := by
  funext j
  exact if_neg (by omega)
theorem wrr_s {g : Nat → Int32} {b m : Nat} {v : Nat → Nat} : upd (wrr g b m v) (b + m) (nI (v m)) = wrr g b (m + 1) v := by
  funext j
  by_cases h : j = b + m
  · subst h
    rw [pk_us]
    unfold wrr
    rw [if_pos (by omega), show b + m - b = m by omega]
  · rw [pk_un h]
    unfold wrr
    by_cases h2 : b ≤ j ∧ j < b + m
    · rw [if_pos h2, if_pos (by omega)]
    · rw [if_neg h2, if_neg (by omega)]
def RW (k : Nat) (g : Nat → Nat) (M : zM) : Prop := ∀ q, q < k → M.1 21 q = nI (g (5 * q)) ∧ ∀ m, m < 4 → M.1 22 (q * 4 + m) = nI (g (5 * q + 1 + m))
def SW (k : Nat) (g : Nat → Nat) (M : zM) : Prop := ∀ q, q < k → ∀ m, m < 4 → M.1 23 (q * 4 + m) = nI (g (25 + 4 * q + m))
theorem RW_s {k : Nat} {g vv : Nat → Nat} {kk : Nat} {M M' : zM} (h : RW k g M) (h21 : M'.1 21 = upd (M.1 21) k (nI kk)) (h22 : M'.1 22 = wrr (M.1 22) (k * 4) 4 vv) : RW (k + 1) (fun j => if j = 5 * k then kk else if 5 * k + 1 ≤ j ∧ j < 5 * k + 1 + 4 then vv (j - (5 * k + 1)) else g j) M' := by
  intro q hq
  by_cases e : q = k
  · subst e
    refine ⟨?_, fun m hm => ?_⟩
    · rw [h21, pk_us]
      dsimp only
      rw [if_pos rfl]
    · rw [h22]
      show (if _ then _ else _) = _
      dsimp only
      rw [if_pos (by omega), if_neg (by omega), if_pos (by omega), show q * 4 + m - q * 4 = m by omega, show 5 * q + 1 + m - (5 * q + 1) = m by omega]
  · have h1 := h q (by omega)
    refine ⟨?_, fun m hm => ?_⟩
    · rw [h21, pk_un e, h1.1]
      dsimp only
      rw [if_neg (by omega), if_neg (by omega)]
    · rw [h22]
      show (if _ then _ else _) = _
      dsimp only
      rw [if_neg (by omega), h1.2 m hm, if_neg (by omega), if_neg (by omega)]
theorem SW_s {k : Nat} {g vv : Nat → Nat} {M M' : zM} (h : SW k g M) (h23 : M'.1 23 = wrr (M.1 23) (k * 4) 4 vv) : SW (k + 1) (fun j => if 25 + 4 * k ≤ j ∧ j < 25 + 4 * k + 4 then vv (j - (25 + 4 * k)) else g j) M' := by
  intro q hq m hm
  rw [h23]
  show (if _ then _ else _) = _
  dsimp only
  by_cases e : q = k
  · subst e
    rw [if_pos (by omega), if_pos (by omega), show q * 4 + m - q * 4 = m by omega, show 25 + 4 * q + m - (25 + 4 * q) = m by omega]
  · rw [if_neg (by omega), h q (by omega) m hm, if_neg (by omega)]
theorem pl_e {f : Nat → Nat} {L j n : Nat} {s : Nat × Nat} {g : Nat → Nat} (h : s.2 ≠ 0) : pl f L j n s g = (s, n, g) := by
  cases j with
  | zero => rfl
  | succ j => rw [pl, if_pos h]
theorem pl_x {f : Nat → Nat} {L j n : Nat} {s : Nat × Nat} {g : Nat → Nat} (h : s.2 = 0) (h2 : n ≠ 0 ∧ ¬ (wh f L s.1 < L ∧ f (wh f L s.1) = 44)) : pl f L (j + 1) n s g = ((wh f L s.1, s.2), n, g) := by rw [pl, if_neg (fun q => q h), if_pos h2]
theorem pl_s {f : Nat → Nat} {L j n : Nat} {s : Nat × Nat} {g : Nat → Nat} (h : s.2 = 0) (h2 : n = 0 ∨ (wh f L s.1 < L ∧ f (wh f L s.1) = 44)) : pl f L (j + 1) n s g = pl f L j (n + 1) (wpS f L n s) (wpG f L n s g) := by rw [pl, if_neg (fun q => q h), if_neg (fun q => h2.elim (fun r => q.1 r) (fun r => q.2 r))]
theorem sl_e {f : Nat → Nat} {L j n : Nat} {s : Nat × Nat} {g : Nat → Nat} (h : s.2 ≠ 0) : sl f L j n s g = (s, n, g) := by
  cases j with
  | zero => rfl
  | succ j => rw [sl, if_pos h]
theorem sl_x {f : Nat → Nat} {L j n : Nat} {s : Nat × Nat} {g : Nat → Nat} (h : s.2 = 0) (h2 : n ≠ 0 ∧ ¬ (wh f L s.1 < L ∧ f (wh f L s.1) = 44)) : sl f L (j + 1) n s g = ((wh f L s.1, s.2), n, g) := by rw [sl, if_neg (fun q => q h), if_pos h2]
theorem sl_s {f : Nat → Nat} {L j n : Nat} {s : Nat × Nat} {g : Nat → Nat} (h : s.2 = 0) (h2 : n = 0 ∨ (wh f L s.1 < L ∧ f (wh f L s.1) = 44)) : sl f L (j + 1) n s g = sl f L j (n + 1) (wtS f L n s) (wtG f L n s g) := by rw [sl, if_neg (fun q => q h), if_neg (fun q => h2.elim (fun r => q.1 r) (fun r => q.2 r))]
def nx (f : Nat → Nat) (L a : Nat) : Int32 := if a < L then nI (f a) else -1
theorem nx_t {f : Nat → Nat} {L a : Nat} (h : a < L) : nx f L a = nI (f a) := if_pos h
theorem nx_f {f : Nat → Nat} {L a : Nat} (h : ¬ a < L) : nx f L a = -1 := if_neg h
theorem nI_nm1 {c : Nat} (h : c < 2147483648) : ¬ nI c = -1 := fun e => by
  have h1 := congrArg Int32.toInt e
  rw [nI_toInt (by omega)] at h1
  have h2 : (-1 : Int32).toInt = -1 := by decide
  omega
theorem nI_gm1 {c : Nat} (h : c < 2147483648) : (-1 : Int32) < nI c := by
  rw [i32_lt, nI_toInt (by omega)]
  have h2 : (-1 : Int32).toInt = -1 := by decide
  omega
theorem nx_eq {f : Nat → Nat} {L a c : Nat} (hB : TB f L) (hc : c ≤ 126) : nx f L a = nI c ↔ (a < L ∧ f a = c) := by
  unfold nx
  split
  · rename_i h
    have h1 := hB.2 a h
    rw [nI_eq (by omega) (by omega)]
    exact ⟨fun q => ⟨h, q⟩, fun q => q.2⟩
  · rename_i h
    exact ⟨fun q => absurd q.symm (nI_nm1 (by omega)), fun q => absurd q.1 h⟩
theorem nx_end {f : Nat → Nat} {L a : Nat} (hB : TB f L) : nx f L a = -1 ↔ ¬ a < L := by
  unfold nx
  split
  · rename_i h
    have h1 := hB.2 a h
    exact ⟨fun q => absurd q (nI_nm1 (by omega)), fun q => absurd h q⟩
  · rename_i h
    exact ⟨fun _ => h, fun _ => rfl⟩
theorem nx_lt {f : Nat → Nat} {L a : Nat} (hB : TB f L) : nx f L a < nI 48 ↔ ¬ (a < L ∧ 48 ≤ f a) := by
  unfold nx
  split
  · rename_i h
    have h1 := hB.2 a h
    rw [nI_ltI (by omega) (by omega)]
    omega
  · rename_i h
    exact ⟨fun _ q => h q.1, fun _ => nI_gm1 (by omega)⟩
theorem nx_gt {f : Nat → Nat} {L a : Nat} (hB : TB f L) : nI 57 < nx f L a ↔ (a < L ∧ 57 < f a) := by
  unfold nx
  split
  · rename_i h
    have h1 := hB.2 a h
    rw [nI_ltI (by omega) (by omega)]
    omega
  · rename_i h
    exact ⟨fun q => absurd q (by decide), fun q => absurd q.1 h⟩
theorem fI_0 {e : Nat} (h : e ≤ 1000) : fI e = -1 ↔ e = 0 := by
  unfold fI
  split
  · rename_i h0
    exact ⟨fun _ => h0, fun _ => rfl⟩
  · rename_i h0
    exact ⟨fun q => absurd q (nI_nm1 (by omega)), fun q => absurd q h0⟩
theorem fI_s (p : Nat) : fI (p + 1) = nI p := if_neg (by omega)
theorem kix_ge {c : Nat} : 0 ≤ kix c ↔ kn c < 5 := by
  rw [kix_eq]
  split
  · rename_i h
    exact ⟨fun _ => h, fun _ => nI_pos' (by omega)⟩
  · rename_i h
    exact ⟨fun q => absurd q (by decide), fun q => absurd q h⟩
