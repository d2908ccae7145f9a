/-! the class's shop (at the cell b) holds the numbers n; of its past, the last kn steps, the numbers u -/
def SI (b : Nat) (n u : Nat → Nat) (kn : Nat) (M : zM) : Prop :=
  (M.1 b 0 = nI (n 0) ∧ M.1 b 1 = nI (n 1) ∧ M.1 b 2 = nI (n 2) ∧ M.1 b 3 = nI (n 6) ∧ M.1 b 4 = nI (n 3) ∧ M.1 b 5 = nI kn ∧ M.1 b 6 = nI (n 4) ∧ M.1 b 7 = nI (n 5) ∧ M.1 b 8 = nI (n 7)) ∧
  (∀ p, p < n 0 → M.1 (b + 1) p = nI (n (8 + 5 * p))) ∧ (∀ p m, p < n 0 → m < 4 → M.1 (b + 2) (p * 4 + m) = nI (n (8 + 5 * p + 1 + m))) ∧ (∀ s m, s < n 1 → m < 4 → M.1 (b + 3) (s * 4 + m) = nI (n (33 + 4 * s + m))) ∧
  (∀ d, d < n 2 → M.1 (b + 4) d = nI (n (49 + 4 * d)) ∧ M.1 (b + 5) d = nI (n (49 + 4 * d + 1)) ∧ M.1 (b + 6) d = nI (n (49 + 4 * d + 2)) ∧ M.1 (b + 7) d = nI (n (49 + 4 * d + 3))) ∧
  (∀ i, i < kn → M.1 (b + 8) (i * 4) = nI (u (44 * i)) ∧ M.1 (b + 8) (i * 4 + 1) = nI (u (44 * i + 2)) ∧ M.1 (b + 8) (i * 4 + 2) = nI (u (44 * i + 1)) ∧ M.1 (b + 8) (i * 4 + 3) = nI (u (44 * i + 3)))
section SIA
variable {n u : Nat → Nat} {kn : Nat} {M : zM}
theorem SI.f0 (h : SI 1 n u kn M) : M.1 1 0 = nI (n 0) := h.1.1
theorem SI.f1 (h : SI 1 n u kn M) : M.1 1 1 = nI (n 1) := h.1.2.1
theorem SI.f2 (h : SI 1 n u kn M) : M.1 1 2 = nI (n 2) := h.1.2.2.1
theorem SI.f3 (h : SI 1 n u kn M) : M.1 1 3 = nI (n 6) := h.1.2.2.2.1
theorem SI.f4 (h : SI 1 n u kn M) : M.1 1 4 = nI (n 3) := h.1.2.2.2.2.1
theorem SI.f5 (h : SI 1 n u kn M) : M.1 1 5 = nI (kn) := h.1.2.2.2.2.2.1
theorem SI.f6 (h : SI 1 n u kn M) : M.1 1 6 = nI (n 4) := h.1.2.2.2.2.2.2.1
theorem SI.f7 (h : SI 1 n u kn M) : M.1 1 7 = nI (n 5) := h.1.2.2.2.2.2.2.2.1
theorem SI.f8 (h : SI 1 n u kn M) : M.1 1 8 = nI (n 7) := h.1.2.2.2.2.2.2.2.2
theorem SI.a2 (h : SI 1 n u kn M) {p : Nat} (hp : p < n 0) : M.1 2 p = nI (n (8 + 5 * p)) := h.2.1 p hp
theorem SI.a3 (h : SI 1 n u kn M) {p m : Nat} (hp : p < n 0) (hm : m < 4) : M.1 3 (p * 4 + m) = nI (n (8 + 5 * p + 1 + m)) := h.2.2.1 p m hp hm
theorem SI.a4 (h : SI 1 n u kn M) {p m : Nat} (hp : p < n 1) (hm : m < 4) : M.1 4 (p * 4 + m) = nI (n (33 + 4 * p + m)) := h.2.2.2.1 p m hp hm
theorem SI.a5 (h : SI 1 n u kn M) {d : Nat} (hd : d < n 2) : M.1 5 d = nI (n (49 + 4 * d)) := (h.2.2.2.2.1 d hd).1
theorem SI.a6 (h : SI 1 n u kn M) {d : Nat} (hd : d < n 2) : M.1 6 d = nI (n (49 + 4 * d + 1)) := (h.2.2.2.2.1 d hd).2.1
theorem SI.a7 (h : SI 1 n u kn M) {d : Nat} (hd : d < n 2) : M.1 7 d = nI (n (49 + 4 * d + 2)) := (h.2.2.2.2.1 d hd).2.2.1
theorem SI.a8 (h : SI 1 n u kn M) {d : Nat} (hd : d < n 2) : M.1 8 d = nI (n (49 + 4 * d + 3)) := (h.2.2.2.2.1 d hd).2.2.2
end SIA
def shn (s : Nat) : Nat := match s with
  | 0 => 4
  | 1 => 1
  | 2 => 1
  | 3 => 8
  | 4 => 2
  | _ => 15
theorem zshown_eq (s : Nat) : zshown s = nI (shn s) := match s with
  | 0 => rfl
  | 1 => rfl
  | 2 => rfl
  | 3 => rfl
  | 4 => rfl
  | _ + 5 => rfl
theorem shn_le (s : Nat) : shn s ≤ 15 := by
  unfold shn
  split <;> omega
section TAL
variable {l : Launch} {b : Option Nat} {R : Room} {y : MethodName} {cc : ByteArray} {nL : Nat} {ret : Option FieldType} {Q : Option Value → List zC → zM → Prop} {cells slots pc : Nat} {ls : List (Option Value)} {st : List Value} {S : List zC} {M : zM}
theorem r_taldN {k : Nat} (hd : decode cc pc = .ok (.iaload, 1)) (hk : k < 6) (kk : RA l b R y cc nL ret Q cells slots (pc + 1) ls (.int (nI (shn k)) :: st) S M) : RA l b R y cc nL ret Q cells slots pc ls (.int (nI k) :: .float 0 :: st) S M := r_tald hd (vp_in_nI hk (by decide)) (by rw [nI_clamp (by omega), zshown_eq]; exact kk)
theorem r_tlenN (hd : decode cc pc = .ok (.arraylength, 1)) (kk : RA l b R y cc nL ret Q cells slots (pc + 1) ls (.int (nI 6) :: st) S M) : RA l b R y cc nL ret Q cells slots pc ls (.float 0 :: st) S M := r_tlen hd kk
end TAL
/-- how often a deed of a sort shows on a measure -/
def tms (kd s m : Nat) : Nat := if kd = 2 ∨ kd = 4 then (if m = 0 then 0 else if m = 1 then (shn s >>> m &&& 1) + (shn s >>> 0 &&& 1) else shn s >>> m &&& 1) else shn s >>> m &&& 1
theorem tms_le {kd s m : Nat} : tms kd s m ≤ 2 := by
  have h : ∀ x : Nat, x &&& 1 ≤ 1 := fun x => by rw [Nat.and_one_is_mod]; omega
  have h1 := h (shn s >>> m)
  have h2 := h (shn s >>> 0)
  unfold tms
  (repeat' split) <;> omega
set_option maxHeartbeats 4000000 in
theorem lgr_tms {kd s m lf : Nat} (hk : kd ≤ 4) (hs : s ≤ 5) (hm : m ≤ 3) : lgr kd s m lf = if tms kd s m < 1 ∨ lf < 1 then 0 else match kd with
    | 1 => lf + 1
    | 3 => lf - 1
    | 4 => tms kd s m * lf / 2
    | _ => tms kd s m * lf := by
  by_cases h : lf = 0
  · subst h
    simp [lgr]
  · have h2 : ¬ lf < 1 := by omega
    rcases (show kd = 0 ∨ kd = 1 ∨ kd = 2 ∨ kd = 3 ∨ kd = 4 by omega) with rfl | rfl | rfl | rfl | rfl <;> rcases (show s = 0 ∨ s = 1 ∨ s = 2 ∨ s = 3 ∨ s = 4 ∨ s = 5 by omega) with rfl | rfl | rfl | rfl | rfl | rfl <;> rcases (show m = 0 ∨ m = 1 ∨ m = 2 ∨ m = 3 by omega) with rfl | rfl | rfl | rfl <;> simp [lgr, tms, shw, shn, h, h2] <;> omega
def lfb (n : Nat → Nat) (d day : Nat) (b : Bool) : Nat := if b then (n (49 + 4 * d + 2) - (day - n (49 + 4 * d + 3)) / n 4) / 2 else n (49 + 4 * d + 2) - (day - n (49 + 4 * d + 3)) / n 4
theorem i32_eq {a b : Int32} : a = b ↔ a.toInt = b.toInt := Int32.toInt_inj.symm
theorem max0 {a b : Nat} (ha : a < 2 ^ 30) (hb : b < 2 ^ 30) : (if nI 0 < nI a - nI b then nI a - nI b else nI 0) = nI (a - b) := by
  have h : nI 0 < nI a - nI b ↔ b < a := by
    rw [i32_lt, pk_sub_toInt ha hb]
    show (0 : Int) < _ ↔ _
    omega
  by_cases hc : b < a
  · rw [if_pos (h.mpr hc), pk_sub (by omega)]
  · rw [if_neg (fun q => hc (h.mp q)), show a - b = 0 by omega]
theorem absd {a b : Nat} (ha : a < 2 ^ 30) (hb : b < 2 ^ 30) : (if 0 ≤ nI a - nI b then nI a - nI b else 0 - (nI a - nI b)) = nI (dst a b) := by
  by_cases hc : b ≤ a
  · rw [if_pos ((nsub_ge ha hb).mpr hc), pk_sub hc]
    exact congrArg nI (by unfold dst; omega)
  · rw [if_neg (fun q => hc ((nsub_ge ha hb).mp q))]
    apply i32_eq.mpr
    have h1 : (nI a - nI b).toInt = (a : Int) - b := pk_sub_toInt ha hb
    rw [Int32.toInt_sub, h1, nI_toInt (by unfold dst; omega)]
    show ((0 : Int) - _).bmod _ = _
    rw [Int.bmod_eq_of_le (by omega) (by omega)]
    unfold dst
    omega
theorem gapeq (a b c : Nat) : (nI a - nI c) + nI b = nI (a + b) - nI c := by
  rw [← nI_add, Int32.sub_eq_add_neg, Int32.sub_eq_add_neg, Int32.add_assoc, Int32.add_comm (-nI c), ← Int32.add_assoc]
