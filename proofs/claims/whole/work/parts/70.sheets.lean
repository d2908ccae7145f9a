/-! the sheets: z j = (row, its items, its lane); sz j: how many items -/
def SHC (S : List zC) (z : Nat → Option (Nat × Nat × Nat)) (sz : Nat → Nat) (M : zM) : Prop := ∀ j, j < 4 → (z j = none → M.2.2 33 j = none) ∧ ∀ r ri L, z j = some (r, ri, L) → M.2.2 33 j = some r ∧ S[r]? = some (.inr (2, [none, some (some ri)])) ∧ S[ri]? = some (.inl (1, sz j)) ∧ (45 ≤ r ∧ 45 ≤ ri ∧ L ≤ 3 ∧ sz j ≤ 24) ∧ M.1 r 0 = nI L
def SHR (z : Nat → Option (Nat × Nat × Nat)) (sz : Nat → Nat) (M : zM) : Prop := ∀ j, j < 4 → (z j = none → M.1 41 j = -1) ∧ ∀ r ri L, z j = some (r, ri, L) → M.1 41 j = nI L ∧ L ≤ 3 ∧ sz j ≤ 24
def fil (M : zM) (c a N : Nat) (f : Nat → Int64) : zM := zL M c (fun k => if a ≤ k ∧ k < a + N then f (k - a) else M.2.1 c k)
theorem fil_at (M : zM) (c a N : Nat) (f : Nat → Int64) (k : Nat) : (fil M c a N f).2.1 c k = if a ≤ k ∧ k < a + N then f (k - a) else M.2.1 c k := by
  unfold fil
  rw [zL_at]
theorem fil_ne {M : zM} {c a N : Nat} {f : Nat → Int64} (i : Nat) (h : i ≠ c) : (fil M c a N f).2.1 i = M.2.1 i := (zL_ne i h).2.1
theorem fil_0 (M : zM) (c a : Nat) (f : Nat → Int64) : fil M c a 0 f = M := by
  refine Prod.ext rfl (Prod.ext ?_ rfl)
  funext i k
  by_cases e : i = c
  · subst e
    rw [fil_at, if_neg (by omega)]
  · rw [fil_ne i e]
theorem fil_step {M : zM} {c a N : Nat} {f : Nat → Int64} {v : Int64} (hv : v = f N) : zL (fil M c a N f) c (vp_updL ((fil M c a N f).2.1 c) (a + N) v) = fil M c a (N + 1) f := by
  refine Prod.ext rfl (Prod.ext ?_ rfl)
  funext i k
  by_cases e : i = c
  · subst e
    rw [zL_at, fil_at]
    unfold vp_updL
    by_cases hk : k = a + N
    · subst hk
      rw [if_pos rfl, if_pos (by omega), show a + N - a = N by omega, hv]
    · rw [if_neg hk, fil_at]
      by_cases h2 : a ≤ k ∧ k < a + N
      · rw [if_pos h2, if_pos (by omega)]
      · rw [if_neg h2, if_neg (by omega)]
  · rw [(zL_ne i e).2.1, fil_ne i e, fil_ne i e]
theorem fil_congr {M : zM} {c a N : Nat} {f g : Nat → Int64} (h : ∀ k, k < N → f k = g k) : fil M c a N f = fil M c a N g := by
  refine Prod.ext rfl (Prod.ext ?_ rfl)
  funext i k
  by_cases e : i = c
  · subst e
    rw [fil_at, fil_at]
    by_cases h2 : a ≤ k ∧ k < a + N
    · rw [if_pos h2, if_pos h2, h _ (by omega)]
    · rw [if_neg h2, if_neg h2]
  · rw [fil_ne i e, fil_ne i e]
theorem fil_1 {M : zM} {c a : Nat} {v : Int64} : zL M c (vp_updL (M.2.1 c) a v) = fil M c a 1 (fun _ => v) := by
  have := fil_step (M := M) (c := c) (a := a) (N := 0) (f := fun _ => v) (v := v) rfl
  rw [fil_0] at this
  exact this
theorem RI.L {t : Nat → Nat → Nat} {M : zM} {c : Nat} {f : Nat → Int64} (h : RI t M) : RI t (zL M c f) := h
theorem RI.I41 {t : Nat → Nat → Nat} {M : zM} {f : Nat → Int32} (h : RI t M) : RI t (zI M 41 f) := fun c h1 h2 h3 => ((zI_ne c h3).1).trans (h c h1 h2 h3)
section AAN
variable {l : Launch} {b : Option Nat} {R : Room} {y : MethodName} {cc : ByteArray} {nL : Nat} {ret : Option FieldType} {Q : Option Value → List zC → zM → Prop} {cells slots pc : Nat} {ls : List (Option Value)} {st : List Value} {S : List zC} {M : zM}
theorem r_aldS {a n i j : Nat} (hd : decode cc pc = .ok (.aaload, 1)) (hc : S[a]? = some (.inl (2, n))) (hi : i < n) (hn : n < 2 ^ 31) (hj : M.2.2 a i = some j) (kk : RA l b R y cc nL ret Q cells slots (pc + 1) ls (.ref j :: st) S M) : RA l b R y cc nL ret Q cells slots pc ls (.int (nI i) :: .ref a :: st) S M := r_aaldS hd hc (vp_in_nI hi hn) (by rw [nI_clamp (Nat.lt_trans hi hn)]; exact hj) kk
theorem r_aldN {a n i : Nat} (hd : decode cc pc = .ok (.aaload, 1)) (hc : S[a]? = some (.inl (2, n))) (hi : i < n) (hn : n < 2 ^ 31) (hj : M.2.2 a i = none) (kk : RA l b R y cc nL ret Q cells slots (pc + 1) ls (.null :: st) S M) : RA l b R y cc nL ret Q cells slots pc ls (.int (nI i) :: .ref a :: st) S M := r_aaldN hd hc (vp_in_nI hi hn) (by rw [nI_clamp (Nat.lt_trans hi hn)]; exact hj) kk
theorem r_astS {a n i j : Nat} {fl : List (Option (Option Nat))} (hd : decode cc pc = .ok (.aastore, 1)) (hc : S[a]? = some (.inl (2, n))) (hi : i < n) (hn : n < 2 ^ 31) (hj : S[j]? = some (.inr (2, fl))) (kk : RA l b R y cc nL ret Q cells slots (pc + 1) ls st S (zO M a (va_up (M.2.2 a) i (some j)))) : RA l b R y cc nL ret Q cells slots pc ls (.ref j :: .int (nI i) :: .ref a :: st) S M := r_aast hd hc (vp_in_nI hi hn) hj (by rw [nI_clamp (Nat.lt_trans hi hn)]; exact kk)
theorem r_astN {a n i : Nat} (hd : decode cc pc = .ok (.aastore, 1)) (hc : S[a]? = some (.inl (2, n))) (hi : i < n) (hn : n < 2 ^ 31) (kk : RA l b R y cc nL ret Q cells slots (pc + 1) ls st S (zO M a (va_up (M.2.2 a) i none))) : RA l b R y cc nL ret Q cells slots pc ls (.null :: .int (nI i) :: .ref a :: st) S M := r_aastN hd hc (vp_in_nI hi hn) (by rw [nI_clamp (Nat.lt_trans hi hn)]; exact kk)
end AAN
theorem rfz0 {La L n : Nat} {i k : Int32} (h : rfz La L i k n = nI 0) : La = L ∧ 0 ≤ i.toInt ∧ 0 ≤ k.toInt ∧ i.toInt + k.toInt ≤ (n : Int) := by
  unfold rfz at h
  split at h
  · split at h
    · exact ⟨by assumption, by assumption⟩
    · exact absurd h (by decide)
  · exact absurd h (by decide)
theorem rfz_dec (La L n : Nat) (i k : Int32) : rfz La L i k n = nI 0 ∨ rfz La L i k n = -13 ∨ rfz La L i k n = -12 := by
  unfold rfz
  split
  · split <;> simp
  · simp
theorem rfz_neg {La L n : Nat} {i k : Int32} (h : rfz La L i k n < 0) : ¬ rfz La L i k n = nI 0 := fun e => by
  rw [e] at h
  exact absurd h (by decide)
theorem rfz_nn {La L n : Nat} {i k : Int32} (h : ¬ rfz La L i k n < 0) : rfz La L i k n = nI 0 := by
  rcases rfz_dec La L n i k with e | e | e
  · exact e
  · rw [e] at h; exact absurd (by decide) h
  · rw [e] at h; exact absurd (by decide) h
/-! answers, and what is written -/
def sp_drop (z : Nat → Option (Nat × Nat × Nat)) (sz : Nat → Nat) (x : Int32) : Int32 := if 0 ≤ x.toInt ∧ x.toInt ≤ 3 then (match z (tn x) with | none => -11 | some _ => nI (sz (tn x))) else -1
def mc_drop (z : Nat → Option (Nat × Nat × Nat)) (x : Int32) (M : zM) : zM := if 0 ≤ x.toInt ∧ x.toInt ≤ 3 then (match z (tn x) with | none => M | some _ => zO M 33 (va_up (M.2.2 33) (tn x) none)) else M
def mr_drop (z : Nat → Option (Nat × Nat × Nat)) (x : Int32) (M : zM) : zM := if 0 ≤ x.toInt ∧ x.toInt ≤ 3 then (match z (tn x) with | none => M | some _ => zI M 41 (upd (M.1 41) (tn x) (-1))) else M
def sp_item (z : Nat → Option (Nat × Nat × Nat)) (sz : Nat → Nat) (x w i : Int32) : Int32 := if (0 ≤ x.toInt ∧ x.toInt ≤ 3) ∧ (0 ≤ w.toInt ∧ w.toInt ≤ 3) then (match z (tn x) with | none => -11 | some (_, _, L) => if rfz (tn w) L i (nI 1) (sz (tn x)) = nI 0 then nI 1 else rfz (tn w) L i (nI 1) (sz (tn x))) else -1
def mc_item (z : Nat → Option (Nat × Nat × Nat)) (sz : Nat → Nat) (x w i : Int32) (v : Int64) (M : zM) : zM := if (0 ≤ x.toInt ∧ x.toInt ≤ 3) ∧ (0 ≤ w.toInt ∧ w.toInt ≤ 3) then (match z (tn x) with | none => M | some (_, ri, L) => if rfz (tn w) L i (nI 1) (sz (tn x)) = nI 0 then fil M ri (tn i) 1 (fun _ => lowl L v) else M) else M
def mr_item (z : Nat → Option (Nat × Nat × Nat)) (sz : Nat → Nat) (x w i : Int32) (v : Int64) (M : zM) : zM := if (0 ≤ x.toInt ∧ x.toInt ≤ 3) ∧ (0 ≤ w.toInt ∧ w.toInt ≤ 3) then (match z (tn x) with | none => M | some (_, _, L) => if rfz (tn w) L i (nI 1) (sz (tn x)) = nI 0 then fil M 43 (24 * tn x + tn i) 1 (fun _ => lowl L v) else M) else M
def fmw (n : Nat → Nat) (p m L : Nat) : Nat → Int64 := fun k => lowl L (nI (mea n p m (n 3 + (k + 1)) (n 6))).toInt64
def sp_film (n : Nat → Nat) (z : Nat → Option (Nat × Nat × Nat)) (sz : Nat → Nat) (x m k s w i : Int32) : Int32 := if ((0 ≤ x.toInt ∧ x.toInt < (n 0 : Int)) ∧ (0 ≤ m.toInt ∧ m.toInt ≤ 3) ∧ (1 ≤ k.toInt ∧ k.toInt ≤ 24) ∧ (0 ≤ s.toInt ∧ s.toInt ≤ 3) ∧ (0 ≤ w.toInt ∧ w.toInt ≤ 3)) then (match z (tn s) with | none => -11 | some (_, _, L) => if rfz (tn w) L i k (sz (tn s)) = nI 0 then k else rfz (tn w) L i k (sz (tn s))) else -1
def mc_film (n : Nat → Nat) (z : Nat → Option (Nat × Nat × Nat)) (sz : Nat → Nat) (x m k s w i : Int32) (M : zM) : zM := if ((0 ≤ x.toInt ∧ x.toInt < (n 0 : Int)) ∧ (0 ≤ m.toInt ∧ m.toInt ≤ 3) ∧ (1 ≤ k.toInt ∧ k.toInt ≤ 24) ∧ (0 ≤ s.toInt ∧ s.toInt ≤ 3) ∧ (0 ≤ w.toInt ∧ w.toInt ≤ 3)) then (match z (tn s) with | none => M | some (_, ri, L) => if rfz (tn w) L i k (sz (tn s)) = nI 0 then fil M ri (tn i) (tn k) (fmw n (tn x) (tn m) L) else M) else M
def mr_film (n : Nat → Nat) (z : Nat → Option (Nat × Nat × Nat)) (sz : Nat → Nat) (x m k s w i : Int32) (M : zM) : zM := if ((0 ≤ x.toInt ∧ x.toInt < (n 0 : Int)) ∧ (0 ≤ m.toInt ∧ m.toInt ≤ 3) ∧ (1 ≤ k.toInt ∧ k.toInt ≤ 24) ∧ (0 ≤ s.toInt ∧ s.toInt ≤ 3) ∧ (0 ≤ w.toInt ∧ w.toInt ≤ 3)) then (match z (tn s) with | none => M | some (_, _, L) => if rfz (tn w) L i k (sz (tn s)) = nI 0 then fil M 43 (24 * tn s + tn i) (tn k) (fmw n (tn x) (tn m) L) else M) else M
def sp_copy (z : Nat → Option (Nat × Nat × Nat)) (sz : Nat → Nat) (x i w j n : Int32) : Int32 := if (0 ≤ x.toInt ∧ x.toInt ≤ 3) ∧ (0 ≤ w.toInt ∧ w.toInt ≤ 3) then (match z (tn x) with | none => -11 | some (_, _, L) => (match z (tn w) with | none => -11 | some (_, _, L') => if L = L' then (if (0 ≤ i.toInt ∧ 0 ≤ n.toInt ∧ i.toInt + n.toInt ≤ (sz (tn x) : Int)) ∧ (0 ≤ j.toInt ∧ 0 ≤ n.toInt ∧ j.toInt + n.toInt ≤ (sz (tn w) : Int)) then n else -13) else -12)) else -1
def mc_copy (z : Nat → Option (Nat × Nat × Nat)) (sz : Nat → Nat) (x i w j n : Int32) (M : zM) : zM := if (0 ≤ x.toInt ∧ x.toInt ≤ 3) ∧ (0 ≤ w.toInt ∧ w.toInt ≤ 3) then (match z (tn x) with | none => M | some (_, ri, L) => (match z (tn w) with | none => M | some (_, ri', L') => if L = L' then (if (0 ≤ i.toInt ∧ 0 ≤ n.toInt ∧ i.toInt + n.toInt ≤ (sz (tn x) : Int)) ∧ (0 ≤ j.toInt ∧ 0 ≤ n.toInt ∧ j.toInt + n.toInt ≤ (sz (tn w) : Int)) then fil M ri' (tn j) (tn n) (fun k => M.2.1 ri (tn i + k)) else M) else M)) else M
def mr_copy (z : Nat → Option (Nat × Nat × Nat)) (sz : Nat → Nat) (x i w j n : Int32) (M : zM) : zM := if (0 ≤ x.toInt ∧ x.toInt ≤ 3) ∧ (0 ≤ w.toInt ∧ w.toInt ≤ 3) then (match z (tn x) with | none => M | some (_, ri, L) => (match z (tn w) with | none => M | some (_, ri', L') => if L = L' then (if (0 ≤ i.toInt ∧ 0 ≤ n.toInt ∧ i.toInt + n.toInt ≤ (sz (tn x) : Int)) ∧ (0 ≤ j.toInt ∧ 0 ≤ n.toInt ∧ j.toInt + n.toInt ≤ (sz (tn w) : Int)) then fil (fil M 44 0 (tn n) (fun k => M.2.1 43 (24 * tn x + tn i + k))) 43 (24 * tn w + tn j) (tn n) (fun k => M.2.1 43 (24 * tn x + tn i + k)) else M) else M)) else M
theorem arg_pos2 {x : Int32} (h : 0 ≤ x.toInt) : ∃ k, k < 2147483648 ∧ x = nI k ∧ (nI k).toInt = (k : Int) := by
  have h2 := i32_rng x
  exact ⟨x.toInt.toNat, by omega, nI_ofInt h, nI_toInt (by omega)⟩
theorem nge_neg {x : Int32} (h : ¬ 0 ≤ x) : x < 0 := by
  have h1 := i32_le (a := 0) (b := x)
  have e0 : (0 : Int32).toInt = 0 := rfl
  rw [e0] at h1
  refine i32_lt.mpr ?_
  rw [e0]
  have : ¬ 0 ≤ x.toInt := fun q => h (h1.mpr q)
  omega
theorem ge_nneg {x : Int32} (h : 0 ≤ x) : ¬ x < 0 := by
  intro q
  have h1 := i32_le.mp h
  have h2 := i32_lt.mp q
  omega
theorem cp_A {α : Type} {L K n1 n2 : Nat} {i j n : Int32} {a b c : α} (h : ¬ rfz L K j n n2 = nI 0) (e : L = K → b = c) : (if L = K then (if (0 ≤ i.toInt ∧ 0 ≤ n.toInt ∧ i.toInt + n.toInt ≤ (n1 : Int)) ∧ (0 ≤ j.toInt ∧ 0 ≤ n.toInt ∧ j.toInt + n.toInt ≤ (n2 : Int)) then a else b) else c) = c := by
  by_cases e1 : L = K
  · rw [if_pos e1, if_neg (fun q => h (by rw [rfz, if_pos e1, if_pos q.2])), e e1]
  · rw [if_neg e1]
theorem cp_A2 {L K n1 n2 : Nat} {i j n : Int32} (h : ¬ rfz L K j n n2 = nI 0) : rfz L K j n n2 = (if L = K then (if (0 ≤ i.toInt ∧ 0 ≤ n.toInt ∧ i.toInt + n.toInt ≤ (n1 : Int)) ∧ (0 ≤ j.toInt ∧ 0 ≤ n.toInt ∧ j.toInt + n.toInt ≤ (n2 : Int)) then n else -13) else -12) := by
  by_cases e1 : L = K
  · rw [if_pos e1, if_neg (fun q => h (by rw [rfz, if_pos e1, if_pos q.2]))]
    rw [rfz, if_pos e1] at h ⊢
    by_cases q : 0 ≤ j.toInt ∧ 0 ≤ n.toInt ∧ j.toInt + n.toInt ≤ (n2 : Int)
    · rw [if_pos q] at h; exact absurd rfl h
    · rw [if_neg q]
  · rw [if_neg e1, rfz, if_neg e1]
theorem rfz_self {L n1 : Nat} {i n : Int32} (h : ¬ rfz L L i n n1 = nI 0) : ¬ (0 ≤ i.toInt ∧ 0 ≤ n.toInt ∧ i.toInt + n.toInt ≤ (n1 : Int)) ∧ rfz L L i n n1 = -13 := by
  rw [rfz, if_pos rfl] at h ⊢
  by_cases q : 0 ≤ i.toInt ∧ 0 ≤ n.toInt ∧ i.toInt + n.toInt ≤ (n1 : Int)
  · rw [if_pos q] at h; exact absurd rfl h
  · exact ⟨q, if_neg q⟩
