/-! a wedding: the open deeds of one, and the sets of them -/
def opn (n : Nat → Nat) (p d : Nat) : Bool := decide (n (49 + 4 * d) = p) && !(n 6).testBit d
def cno (n : Nat → Nat) (p : Nat) : Nat → Nat
  | 0 => 0
  | D + 1 => cno n p D + (if opn n p D = true then 1 else 0)
def oo (n : Nat → Nat) (p : Nat) : Nat → Nat → Nat
  | 0, _ => 0
  | D + 1, k => if opn n p D = true ∧ k = cno n p D then D else oo n p D k
def em (n : Nat → Nat) (p j : Nat) : Nat → Nat
  | 0 => 0
  | D + 1 => if opn n p D = true ∧ j.testBit (cno n p D) = true then em n p j D ||| 1 * 2 ^ D else em n p j D
def am (n : Nat → Nat) (p j : Nat) : Nat → Nat
  | 0 => 0
  | k + 1 => if j.testBit k = true then am n p j k ||| 1 * 2 ^ oo n p (n 2) k else am n p j k
def gn (n : Nat → Nat) (p day d m : Nat) : Nat := lgr (n (8 + 5 * p)) (n (49 + 4 * d + 1)) m (lfb n d day false) - lgr (n (8 + 5 * p)) (n (49 + 4 * d + 1)) m (lfb n d day true)
def tk (n : Nat → Nat) (p day j m : Nat) : Nat → Nat
  | 0 => 0
  | k + 1 => tk n p day j m k + (if j.testBit k = true then gn n p day (oo n p (n 2) k) m else 0)
theorem cno_le (n : Nat → Nat) (p : Nat) : ∀ D, cno n p D ≤ D
  | 0 => Nat.le_refl _
  | D + 1 => by
    have := cno_le n p D
    unfold cno
    split <;> omega
theorem cno_mono {n : Nat → Nat} {p D : Nat} : ∀ E, D ≤ E → cno n p D ≤ cno n p E
  | 0, h => by rw [show D = 0 by omega]; exact Nat.le_refl _
  | E + 1, h => by
    by_cases e : D = E + 1
    · rw [e]; exact Nat.le_refl _
    · have := cno_mono (n := n) (p := p) E (show D ≤ E by omega)
      rw [cno]
      omega
theorem cno_lt {n : Nat → Nat} {p d E : Nat} (h : d < E) (ho : opn n p d = true) : cno n p d < cno n p E := by
  have h1 := cno_mono (n := n) (p := p) E (show d + 1 ≤ E by omega)
  rw [cno, if_pos ho] at h1
  omega
theorem oo_at {n : Nat → Nat} {p d : Nat} (ho : opn n p d = true) : ∀ E, d < E → oo n p E (cno n p d) = d
  | 0, h => by omega
  | E + 1, h => by
    rw [oo]
    by_cases e : d = E
    · subst e
      rw [if_pos ⟨ho, rfl⟩]
    · have hlt := cno_lt (n := n) (p := p) (show d < E by omega) ho
      rw [if_neg (fun q => by omega)]
      exact oo_at ho E (by omega)
theorem oo_ok {n : Nat → Nat} {p : Nat} : ∀ E k, k < cno n p E → oo n p E k < E ∧ opn n p (oo n p E k) = true ∧ cno n p (oo n p E k) = k
  | 0, k, h => by rw [cno] at h; omega
  | E + 1, k, h => by
    rw [oo]
    by_cases e : opn n p E = true ∧ k = cno n p E
    · rw [if_pos e]
      exact ⟨by omega, e.1, e.2.symm⟩
    · rw [if_neg e]
      have h2 : k < cno n p E := by
        rw [cno] at h
        by_cases ho : opn n p E = true
        · rw [if_pos ho] at h
          have : k ≠ cno n p E := fun q => e ⟨ho, q⟩
          omega
        · rw [if_neg ho] at h
          omega
      have := oo_ok E k h2
      exact ⟨by omega, this.2⟩
theorem em_bit {n : Nat → Nat} {p j d : Nat} : ∀ D, (em n p j D).testBit d = (decide (d < D) && (opn n p d && j.testBit (cno n p d)))
  | 0 => by simp [em]
  | D + 1 => by
    have ih := em_bit (n := n) (p := p) (j := j) (d := d) D
    rw [em]
    by_cases e : d = D
    · subst e
      by_cases h : opn n p d = true ∧ j.testBit (cno n p d) = true
      · rw [if_pos h, Nat.one_mul, Nat.testBit_or, ih, Nat.testBit_two_pow_self, h.1, h.2]
        simp
      · rw [if_neg h, ih]
        have h3 : (opn n p d && j.testBit (cno n p d)) = false := by
          cases h1 : opn n p d with
          | false => rfl
          | true =>
            cases h2 : j.testBit (cno n p d) with
            | false => rfl
            | true => exact absurd ⟨h1, h2⟩ h
        rw [h3, Bool.and_false, Bool.and_false]
    · have h1 : decide (d < D + 1) = decide (d < D) := by
        have : d < D + 1 ↔ d < D := by omega
        simp [this]
      rw [h1, ← ih]
      by_cases h : opn n p D = true ∧ j.testBit (cno n p D) = true
      · rw [if_pos h, Nat.one_mul, Nat.testBit_or, Nat.testBit_two_pow_of_ne (fun q => e q.symm), Bool.or_false]
      · rw [if_neg h]
theorem em_lt {n : Nat → Nat} {p j : Nat} : ∀ D, em n p j D < 2 ^ D
  | 0 => by simp [em]
  | D + 1 => by
    have ih := em_lt (n := n) (p := p) (j := j) D
    have h2 : 2 ^ D < 2 ^ (D + 1) := by rw [Nat.pow_succ]; have := Nat.two_pow_pos D; omega
    rw [em]
    split
    · rw [Nat.one_mul]; exact or_lt (Nat.lt_trans ih h2) h2
    · exact Nat.lt_trans ih h2
theorem am_em {n : Nat → Nat} {p j : Nat} : ∀ D, D ≤ n 2 → am n p j (cno n p D) = em n p j D
  | 0, _ => rfl
  | D + 1, h => by
    have ih := am_em (n := n) (p := p) (j := j) D (by omega)
    rw [em, cno]
    by_cases ho : opn n p D = true
    · rw [if_pos ho, am, oo_at ho (n 2) (by omega), ih]
      by_cases hb : j.testBit (cno n p D) = true
      · rw [if_pos hb, if_pos ⟨ho, hb⟩]
      · rw [if_neg hb, if_neg (fun q => hb q.2)]
    · rw [if_neg ho, Nat.add_zero, if_neg (fun q => ho q.1), ih]
theorem lgr_mono {kd s m a b : Nat} (h : a ≤ b) : lgr kd s m a ≤ lgr kd s m b := by
  unfold lgr
  by_cases hb : b = 0
  · rw [if_pos hb, if_pos (show a = 0 by omega)]; exact Nat.le_refl _
  · rw [if_neg hb]
    by_cases ha : a = 0
    · rw [if_pos ha]; exact Nat.zero_le _
    · rw [if_neg ha]
      split <;> (repeat' split) <;> omega
theorem lfb_half {n : Nat → Nat} {d day : Nat} : lfb n d day true ≤ lfb n d day false := by
  unfold lfb
  simp only [if_true]
  rw [if_neg (by decide)]
  omega
theorem lft_lfb (n : Nat → Nat) (d day md : Nat) : lft n d day md = lfb n d day (md.testBit d) := rfl
/-- what is mended now makes shorter by the gains -/
theorem lng_em {n : Nat → Nat} {p j m day : Nat} : ∀ D, D ≤ n 2 → sm (lon n p m day (n 6 ||| em n p j (n 2))) D + tk n p day j m (cno n p D) = sm (lon n p m day (n 6)) D
  | 0, _ => rfl
  | D + 1, h => by
    have ih := lng_em (n := n) (p := p) (j := j) (m := m) (day := day) D (by omega)
    have hbit : (n 6 ||| em n p j (n 2)).testBit D = ((n 6).testBit D || (opn n p D && j.testBit (cno n p D))) := by
      rw [Nat.testBit_or, em_bit]
      have : decide (D < n 2) = true := decide_eq_true (by omega)
      rw [this, Bool.true_and]
    simp only [sm]
    by_cases hp : n (49 + 4 * D) = p
    · have e1 : lon n p m day (n 6 ||| em n p j (n 2)) D = lgr (n (8 + 5 * p)) (n (49 + 4 * D + 1)) m (lfb n D day ((n 6 ||| em n p j (n 2)).testBit D)) := if_pos hp
      have e2 : lon n p m day (n 6) D = lgr (n (8 + 5 * p)) (n (49 + 4 * D + 1)) m (lfb n D day ((n 6).testBit D)) := if_pos hp
      rw [e1, e2, hbit]
      cases h6 : (n 6).testBit D with
      | true =>
        have ho : ¬ opn n p D = true := by simp [opn, h6]
        rw [cno, if_neg ho, Bool.true_or]
        simp only [Nat.add_zero]
        omega
      | false =>
        have ho : opn n p D = true := by simp [opn, h6, hp]
        rw [cno, if_pos ho, tk, oo_at ho (n 2) (by omega), ho, Bool.true_and, Bool.false_or]
        cases hb : j.testBit (cno n p D) with
        | false => rw [if_neg (by decide)]; omega
        | true =>
          rw [if_pos rfl]
          have h1 := lgr_mono (kd := n (8 + 5 * p)) (s := n (49 + 4 * D + 1)) (m := m) (lfb_half (n := n) (d := D) (day := day))
          unfold gn
          omega
    · have e1 : lon n p m day (n 6 ||| em n p j (n 2)) D = 0 := if_neg hp
      have e2 : lon n p m day (n 6) D = 0 := if_neg hp
      have ho : ¬ opn n p D = true := by simp [opn, hp]
      rw [e1, e2, cno, if_neg ho]
      simp only [Nat.add_zero]
      omega
theorem mea_em {n : Nat → Nat} {p j m day : Nat} : mea n p m day (n 6 ||| em n p j (n 2)) + tk n p day j m (cno n p (n 2)) = mea n p m day (n 6) := by
  have := lng_em (n := n) (p := p) (j := j) (m := m) (day := day) (n 2) (Nat.le_refl _)
  unfold mea lng
  omega
/-! one set to the next -/
def sg (n : Nat → Nat) (p day m : Nat) : Nat → Nat := sm (fun k => gn n p day (oo n p (n 2) k) m)
theorem pred_bit : ∀ s, s < 1024 → s ≠ 0 → ∀ i, i < 10 → (s - 1).testBit i = (if i < low s then true else if i = low s then false else s.testBit i) := by decide +kernel
theorem tk_low {n : Nat → Nat} {p day s m : Nat} (hs : s < 1024) (h0 : s ≠ 0) : ∀ K, K ≤ low s → tk n p day s m K = 0 ∧ tk n p day (s - 1) m K = sg n p day m K
  | 0, _ => ⟨rfl, rfl⟩
  | K + 1, h => by
    have ih := tk_low (n := n) (p := p) (day := day) (m := m) hs h0 K (by omega)
    have hl := low_bit s hs h0
    have hb := hl.2.1 K (by omega)
    have hp := pred_bit s hs h0 K (by omega)
    rw [if_pos (by omega)] at hp
    rw [tk, tk, ih.1, ih.2, hb, hp, if_neg (by decide), if_pos rfl]
    exact ⟨rfl, rfl⟩
theorem tk_high {n : Nat → Nat} {p day s m : Nat} (hs : s < 1024) (h0 : s ≠ 0) : ∀ K, low s < K → K ≤ 10 → tk n p day s m K + sg n p day m (low s) = tk n p day (s - 1) m K + gn n p day (oo n p (n 2) (low s)) m
  | 0, h, _ => by omega
  | K + 1, h, h10 => by
    have hl := low_bit s hs h0
    have hp := pred_bit s hs h0 K (by omega)
    by_cases e : low s = K
    · have hK := tk_low (n := n) (p := p) (day := day) (m := m) hs h0 K (by omega)
      rw [if_neg (by omega), if_pos e.symm] at hp
      have hb := hl.1
      rw [e] at hb ⊢
      rw [tk, tk, hK.1, hK.2, hb, hp, if_pos rfl, if_neg (by decide)]
      omega
    · have ih := tk_high (n := n) (p := p) (day := day) (m := m) hs h0 K (by omega) (by omega)
      rw [if_neg (by omega), if_neg (fun q => e q.symm)] at hp
      rw [tk, tk, hp]
      omega
theorem low_lt {s c : Nat} (hs : s < 2 ^ c) (h10 : c ≤ 10) (h0 : s ≠ 0) : low s < c := by
  have h1 : s < 1024 := Nat.lt_of_lt_of_le hs (Nat.pow_le_pow_right (by decide) h10)
  have hl := (low_bit s h1 h0).1
  have h2 := Nat.ge_two_pow_of_testBit hl
  by_cases h : low s < c
  · exact h
  · have h3 : 2 ^ c ≤ 2 ^ low s := Nat.pow_le_pow_right (by decide) (by omega)
    omega
theorem mea_step {n : Nat → Nat} {p day s m : Nat} (hs : s < 2 ^ cno n p (n 2)) (h10 : cno n p (n 2) ≤ 10) (h0 : s ≠ 0) : mea n p m day (n 6 ||| em n p (s - 1) (n 2)) + sg n p day m (low s) = mea n p m day (n 6 ||| em n p s (n 2)) + gn n p day (oo n p (n 2) (low s)) m := by
  have h1 : s < 1024 := Nat.lt_of_lt_of_le hs (Nat.pow_le_pow_right (by decide) h10)
  have a := mea_em (n := n) (p := p) (j := s) (m := m) (day := day)
  have b := mea_em (n := n) (p := p) (j := s - 1) (m := m) (day := day)
  have c := tk_high (n := n) (p := p) (day := day) (m := m) h1 h0 (cno n p (n 2)) (low_lt hs h10 h0) h10
  omega
/-! all sets of open deeds, in order -/
def sbB (n : Nat → Nat) (p : Nat) : Nat → Nat → Bool
  | 0, _ => true
  | D + 1, x => if x.testBit D = true then opn n p D && sbB n p D (x - 2 ^ D) else sbB n p D x
theorem em_cong {n : Nat → Nat} {p j j' : Nat} : ∀ D, (∀ i, i < cno n p D → j.testBit i = j'.testBit i) → em n p j D = em n p j' D
  | 0, _ => rfl
  | D + 1, h => by
    have ih := em_cong (n := n) (p := p) (j := j) (j' := j') D (fun i hi => h i (by have := cno_mono (n := n) (p := p) (D := D) (D + 1) (by omega); omega))
    rw [em, em, ih]
    by_cases ho : opn n p D = true
    · have hb := h (cno n p D) (cno_lt (by omega) ho)
      rw [hb]
    · rw [if_neg (fun q => ho q.1), if_neg (fun q => ho q.1)]
theorem em_hi {n : Nat → Nat} {p y D : Nat} (ho : opn n p D = true) (hy : y < 2 ^ cno n p D) : em n p (2 ^ cno n p D + y) (D + 1) = 2 ^ D + em n p y D := by
  have h1 : (2 ^ cno n p D + y).testBit (cno n p D) = true := by
    rw [Nat.testBit_two_pow_add_eq, Nat.testBit_lt_two_pow hy]
    rfl
  rw [em, if_pos ⟨ho, h1⟩, em_cong (j' := y) D (fun i hi => Nat.testBit_two_pow_add_gt hi y), Nat.one_mul]
  have h2 := Nat.two_pow_add_eq_or_of_lt (em_lt (n := n) (p := p) (j := y) D) 1
  rw [Nat.mul_one] at h2
  rw [h2, Nat.or_comm]
theorem em_lo {n : Nat → Nat} {p y D : Nat} (hy : y < 2 ^ cno n p D) : em n p y (D + 1) = em n p y D := by
  rw [em, if_neg]
  intro q
  rw [Nat.testBit_lt_two_pow hy] at q
  exact absurd q.2 (by decide)
theorem subs (n : Nat → Nat) (p : Nat) : ∀ D, (List.range (2 ^ D)).filter (sbB n p D) = (List.range (2 ^ cno n p D)).map (fun j => em n p j D)
  | 0 => rfl
  | D + 1 => by
    have ih := subs n p D
    have e2 : 2 ^ (D + 1) = 2 ^ D + 2 ^ D := by rw [Nat.pow_succ]; omega
    have hlo : (List.range (2 ^ D)).filter (sbB n p (D + 1)) = (List.range (2 ^ D)).filter (sbB n p D) := by
      refine List.filter_congr (fun x hx => ?_)
      have hx := List.mem_range.mp hx
      rw [sbB, Nat.testBit_lt_two_pow hx, if_neg (by decide)]
    have hhi : (List.range (2 ^ D)).filter (sbB n p (D + 1) ∘ (2 ^ D + ·)) = if opn n p D = true then (List.range (2 ^ D)).filter (sbB n p D) else [] := by
      by_cases ho : opn n p D = true
      · rw [if_pos ho]
        refine List.filter_congr (fun x hx => ?_)
        have hx := List.mem_range.mp hx
        show sbB n p (D + 1) (2 ^ D + x) = _
        rw [sbB, Nat.testBit_two_pow_add_eq, Nat.testBit_lt_two_pow hx, if_pos (by decide), ho, Bool.true_and, Nat.add_sub_cancel_left]
      · rw [if_neg ho]
        refine List.filter_eq_nil_iff.mpr (fun x hx => ?_)
        have hx := List.mem_range.mp hx
        show ¬ sbB n p (D + 1) (2 ^ D + x) = true
        rw [sbB, Nat.testBit_two_pow_add_eq, Nat.testBit_lt_two_pow hx, if_pos (by decide)]
        intro q
        exact ho (Bool.and_eq_true_iff.mp q).1
    rw [e2, List.range_add, List.filter_append, List.filter_map, hlo, hhi, ih]
    by_cases ho : opn n p D = true
    · rw [if_pos ho, cno, if_pos ho, Nat.pow_succ, Nat.mul_two, List.range_add, List.map_append, List.map_map, List.map_map]
      refine congr (congrArg HAppend.hAppend ?_) ?_
      · exact List.map_congr_left (fun y hy => (em_lo (List.mem_range.mp hy)).symm)
      · exact List.map_congr_left (fun y hy => (em_hi ho (List.mem_range.mp hy)).symm)
    · rw [if_neg ho, cno, if_neg ho, Nat.add_zero, List.map_nil, List.append_nil]
      exact List.map_congr_left (fun y hy => (em_lo (List.mem_range.mp hy)).symm)
theorem mny_two : ∀ D, D < 10 → ∀ y, y < 2 ^ D → mny 11 (2 ^ D + y) = mny 11 y + 1 := by decide +kernel
theorem mny_em {n : Nat → Nat} {p : Nat} : ∀ D, D ≤ 10 → ∀ j, j < 2 ^ cno n p D → mny 11 (em n p j D) = mny 11 j
  | 0, _, j, h => by
    have : j = 0 := by
      have h : j < 1 := h
      omega
    subst this
    rfl
  | D + 1, hD, j, h => by
    have ih := mny_em (n := n) (p := p) D (by omega)
    by_cases ho : opn n p D = true
    · rw [cno, if_pos ho, Nat.pow_succ, Nat.mul_two] at h
      by_cases hj : j < 2 ^ cno n p D
      · rw [em_lo hj, ih j hj]
      · have e : j = 2 ^ cno n p D + (j - 2 ^ cno n p D) := by omega
        have hy : j - 2 ^ cno n p D < 2 ^ cno n p D := by omega
        have hc := cno_le n p D
        rw [e, em_hi ho hy, mny_two D (by omega) _ (em_lt D), ih _ hy, mny_two (cno n p D) (by omega) _ hy]
    · rw [cno, if_neg ho, Nat.add_zero] at h
      rw [em_lo h, ih j h]
theorem mny_le : ∀ c, c ≤ 10 → ∀ j, j < 2 ^ c → mny 11 j ≤ c := by decide +kernel
/-- the best of the sets so far -/
def bet (b : Option Nat) (k : Nat) : Bool := match b with
  | none => true
  | some x => decide (mny 11 k < mny 11 x)
def wst (n : Nat → Nat) (p s day : Nat) (b : Option Nat) (k : Nat) : Option Nat := if bet b k = true ∧ fit n p s day (n 6 ||| k) = true then some k else b
def wk (n : Nat → Nat) (p s day : Nat) : Nat → Option Nat
  | 0 => none
  | k + 1 => if sbB n p (n 2) k = true then wst n p s day (wk n p s day k) k else wk n p s day k
def ck (n : Nat → Nat) (p s day : Nat) : Nat → Option Nat
  | 0 => none
  | j + 1 => if bet (ck n p s day j) j = true ∧ fit n p s day (n 6 ||| em n p j (n 2)) = true then some j else ck n p s day j
theorem wk_fold (n : Nat → Nat) (p s day : Nat) : ∀ k, wk n p s day k = (List.range k).foldl (fun b x => if sbB n p (n 2) x = true then wst n p s day b x else b) none
  | 0 => rfl
  | k + 1 => by
    rw [List.range_succ, List.foldl_append, ← wk_fold n p s day k]
    rfl
theorem ck_lt {n : Nat → Nat} {p s day x : Nat} : ∀ j, ck n p s day j = some x → x < j
  | 0, h => by cases h
  | j + 1, h => by
    rw [ck] at h
    split at h
    · cases h; omega
    · have := ck_lt j h; omega
theorem ck_fold {n : Nat → Nat} {p s day : Nat} (h10 : n 2 ≤ 10) : ∀ J, J ≤ 2 ^ cno n p (n 2) → (List.range J).foldl (fun b j => wst n p s day b (em n p j (n 2))) none = (ck n p s day J).map (fun j => em n p j (n 2))
  | 0, _ => rfl
  | J + 1, h => by
    have ih := ck_fold (p := p) (s := s) (day := day) h10 J (by omega)
    rw [List.range_succ, List.foldl_append, ih]
    show wst n p s day _ (em n p J (n 2)) = _
    have hJ := mny_em (n := n) (p := p) (n 2) h10 J (by omega)
    have hbet : bet ((ck n p s day J).map (fun j => em n p j (n 2))) (em n p J (n 2)) = bet (ck n p s day J) J := by
      cases e : ck n p s day J with
      | none => rfl
      | some x =>
        have hx := mny_em (n := n) (p := p) (n 2) h10 x (by have := ck_lt J e; omega)
        show decide (mny 11 (em n p J (n 2)) < mny 11 (em n p x (n 2))) = decide (mny 11 J < mny 11 x)
        rw [hJ, hx]
    rw [wst, ck, hbet]
    split
    · rfl
    · rfl
theorem wk_stay {n : Nat → Nat} {p s day a : Nat} : ∀ b, a ≤ b → (∀ k, a ≤ k → k < b → ¬ sbB n p (n 2) k = true) → wk n p s day b = wk n p s day a
  | 0, h, _ => by rw [show a = 0 by omega]
  | b + 1, h, hk => by
    by_cases e : a = b + 1
    · rw [e]
    · rw [wk, if_neg (hk b (by omega) (by omega))]
      exact wk_stay b (by omega) (fun k h1 h2 => hk k h1 (by omega))
theorem sbB_iff {n : Nat → Nat} {p : Nat} : ∀ D x, x < 2 ^ D → (sbB n p D x = true ↔ ∀ d, x.testBit d = true → opn n p d = true)
  | 0, x, h => by
    have : x = 0 := by
      have h : x < 1 := h
      omega
    subst this
    simp [sbB]
  | D + 1, x, h => by
    rw [Nat.pow_succ, Nat.mul_two] at h
    rw [sbB]
    by_cases hb : x.testBit D = true
    · have hge := Nat.ge_two_pow_of_testBit hb
      have e : x = 2 ^ D + (x - 2 ^ D) := by omega
      have hy : x - 2 ^ D < 2 ^ D := by omega
      rw [if_pos hb, Bool.and_eq_true_iff, sbB_iff D _ hy]
      constructor
      · intro q d hd
        by_cases hD : d = D
        · rw [hD]; exact q.1
        · by_cases hlt : d < D
          · refine q.2 d ?_
            rw [e, Nat.testBit_two_pow_add_gt hlt] at hd
            exact hd
          · exfalso
            have h2 := Nat.ge_two_pow_of_testBit hd
            have h3 : 2 ^ (D + 1) ≤ 2 ^ d := Nat.pow_le_pow_right (by decide) (by omega)
            rw [Nat.pow_succ] at h3
            omega
      · intro q
        refine ⟨q D hb, fun d hd => q d ?_⟩
        have hlt : d < D := by
          by_cases hlt : d < D
          · exact hlt
          · have h2 := Nat.ge_two_pow_of_testBit hd
            have h3 : 2 ^ D ≤ 2 ^ d := Nat.pow_le_pow_right (by decide) (by omega)
            omega
        rw [e, Nat.testBit_two_pow_add_gt hlt]
        exact hd
    · have hx : x < 2 ^ D := by
        by_cases hx : x < 2 ^ D
        · exact hx
        · exfalso
          apply hb
          have e : x = 2 ^ D + (x - 2 ^ D) := by omega
          rw [e, Nat.testBit_two_pow_add_eq, Nat.testBit_lt_two_pow (by omega)]
          rfl
      rw [if_neg hb]
      exact sbB_iff D x hx
/-- the open deeds of one, as a set -/
def mayN (n : Nat → Nat) (p : Nat) : Nat := dof n p &&& (1023 ^^^ n 6)
theorem dofk_bit {n : Nat → Nat} {p d : Nat} : ∀ D, (dofk n p D).testBit d = (decide (d < D) && decide (n (49 + 4 * d) = p))
  | 0 => by simp [dofk]
  | D + 1 => by
    have ih := dofk_bit (n := n) (p := p) (d := d) D
    rw [dofk, Nat.testBit_or, ih]
    by_cases e : d = D
    · subst e
      by_cases h : n (49 + 4 * d) = p
      · rw [if_pos h, Nat.one_mul, Nat.testBit_two_pow_self]
        simp [h]
      · rw [if_neg h]
        simp [h]
    · have h1 : decide (d < D + 1) = decide (d < D) := by
        have : d < D + 1 ↔ d < D := by omega
        simp [this]
      rw [h1]
      by_cases h : n (49 + 4 * D) = p
      · rw [if_pos h, Nat.one_mul, Nat.testBit_two_pow_of_ne (fun q => e q.symm), Bool.or_false]
      · rw [if_neg h]
        simp
theorem bit1023 (i : Nat) : (1023 : Nat).testBit i = decide (i < 10) := by
  have := Nat.testBit_two_pow_sub_one 10 i
  exact this
theorem may_bit {n : Nat → Nat} {p d : Nat} (h10 : n 2 ≤ 10) : (mayN n p).testBit d = (decide (d < n 2) && opn n p d) := by
  unfold mayN dof opn
  rw [Nat.testBit_and, dofk_bit, Nat.testBit_xor, bit1023]
  by_cases h : d < n 2
  · have h2 : decide (d < 10) = true := decide_eq_true (by omega)
    rw [h2, Bool.true_xor, Bool.and_assoc]
  · have h2 : decide (d < n 2) = false := decide_eq_false h
    rw [h2]
    simp
theorem may_lt {n : Nat → Nat} {p : Nat} : mayN n p < 2 ^ n 2 := Nat.lt_of_le_of_lt Nat.and_le_left (dofk_lt (n 2))
theorem sb_may {n : Nat → Nat} {p x : Nat} (h10 : n 2 ≤ 10) (hx : x < 2 ^ n 2) : sbB n p (n 2) x = true ↔ x &&& mayN n p = x := by
  rw [sbB_iff (n 2) x hx]
  constructor
  · intro q
    apply Nat.eq_of_testBit_eq
    intro i
    rw [Nat.testBit_and, may_bit h10]
    cases hb : x.testBit i with
    | false => rfl
    | true =>
      have hi : i < n 2 := by
        by_cases hi : i < n 2
        · exact hi
        · have h2 := Nat.ge_two_pow_of_testBit hb
          have h3 : 2 ^ n 2 ≤ 2 ^ i := Nat.pow_le_pow_right (by decide) (by omega)
          omega
      rw [q i hb, decide_eq_true hi]
      rfl
  · intro q d hd
    rw [← q, Nat.testBit_and, may_bit h10, Bool.and_eq_true_iff, Bool.and_eq_true_iff] at hd
    exact hd.2.2
/-- both ways lead to one -/
theorem wed_eq {n : Nat → Nat} {p s day : Nat} (h10 : n 2 ≤ 10) : wk n p s day (mayN n p + 1) = (ck n p s day (2 ^ cno n p (n 2))).map (fun j => em n p j (n 2)) := by
  have h1 : wk n p s day (2 ^ n 2) = wk n p s day (mayN n p + 1) := by
    refine wk_stay _ (by have := may_lt (n := n) (p := p); omega) (fun k h1 h2 q => ?_)
    have h3 := (sb_may h10 h2).mp q
    have h4 : k &&& mayN n p ≤ mayN n p := Nat.and_le_right
    omega
  rw [← h1, wk_fold, ← List.foldl_filter, subs, List.foldl_map]
  exact ck_fold h10 _ (Nat.le_refl _)
def bo_wed (b : Option Nat) (w : Nat) : Int32 := match b with
  | none => -4
  | some x => if w = 1 then nI x else nI (mny 11 x)
def sp_wedding (n : Nat → Nat) (x z v w : Int32) : Int32 := if (0 ≤ x.toInt ∧ x.toInt < (n 0 : Int)) ∧ (0 ≤ z.toInt ∧ z.toInt < (n 1 : Int)) ∧ (0 ≤ v.toInt ∧ v.toInt ≤ 99) ∧ (0 ≤ w.toInt ∧ w.toInt ≤ 1) then bo_wed (wk n (tn x) (tn z) (n 3 + tn v) (mayN n (tn x) + 1)) (tn w) else -1
