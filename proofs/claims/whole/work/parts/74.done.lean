/-! what one has done: sums by sets of sorts -/
def lsk6 (kd w s m : Nat) : Nat → Nat := sm (fun o => if s.testBit o = true then lgr kd o m w else 0)
def lsm (kd w s m : Nat) : Nat := lsk6 kd w s m 6
def eqs (kd w s : Nat) (W : Nat → Int64) : Nat → Bool
  | 0 => true
  | k + 1 => eqs kd w s W k && decide (lN (lsm kd w s k) = W k)
def fwv : Option Nat → Int32
  | none => -4
  | some v => nI v
def dnh (h : Bool) (v : Nat) (a : Nat × Option Nat) : Nat × Option Nat := if h = true then (a.1 + 1, if a.1 = 0 then some v else a.2) else a
def dns (kd : Nat) (W : Nat → Int64) (w : Nat) (a : Nat × Option Nat) : Nat → Nat × Option Nat
  | 0 => a
  | k + 1 => dnh (eqs kd w (k + 1) W 4) (100 * w + (k + 1)) (dns kd W w a k)
def dnw (kd : Nat) (W : Nat → Int64) : Nat → Nat × Option Nat
  | 0 => (0, none)
  | k + 1 => dns kd W (k + 1) (dnw kd W k) 63
def DI (a : Nat × Option Nat) : Prop := (a.1 = 0 ↔ a.2 = none) ∧ ∀ v, a.2 = some v → 101 ≤ v ∧ v < 1000
theorem DI.h {h : Bool} {v : Nat} {a : Nat × Option Nat} (hd : DI a) (hv : 101 ≤ v ∧ v < 1000) : DI (dnh h v a) := by
  unfold dnh
  split
  · refine ⟨⟨fun e => absurd e (by simp), fun e => ?_⟩, fun u e => ?_⟩
    · dsimp only at e
      split at e
      · cases e
      · exact absurd (hd.1.mpr e) (by assumption)
    · dsimp only at e
      split at e
      · cases e; exact hv
      · exact hd.2 u e
  · exact hd
theorem DI.s {kd w : Nat} {W : Nat → Int64} {a : Nat × Option Nat} (hd : DI a) (hw : 1 ≤ w ∧ w ≤ 9) : ∀ k, k ≤ 63 → DI (dns kd W w a k)
  | 0, _ => hd
  | k + 1, hk => (DI.s hd hw k (by omega)).h (by omega)
theorem DI.w {kd : Nat} {W : Nat → Int64} : ∀ k, k ≤ 9 → DI (dnw kd W k)
  | 0, _ => ⟨⟨fun _ => rfl, fun _ => rfl⟩, fun v e => by cases e⟩
  | k + 1, hk => (DI.w k (by omega)).s (by omega) 63 (by omega)
theorem dnh_le {h : Bool} {v : Nat} {a : Nat × Option Nat} : (dnh h v a).1 ≤ a.1 + 1 := by
  unfold dnh
  split
  · exact Nat.le_refl _
  · omega
theorem dns_le {kd w : Nat} {W : Nat → Int64} {a : Nat × Option Nat} : ∀ k, (dns kd W w a k).1 ≤ a.1 + k
  | 0 => Nat.le_refl _
  | k + 1 => by
    have h1 := dns_le (kd := kd) (w := w) (W := W) (a := a) k
    have h2 := dnh_le (h := eqs kd w (k + 1) W 4) (v := 100 * w + (k + 1)) (a := dns kd W w a k)
    show (dnh _ _ _).1 ≤ _
    omega
theorem dnw_le {kd : Nat} {W : Nat → Int64} : ∀ k, (dnw kd W k).1 ≤ k * 63
  | 0 => Nat.le_refl _
  | k + 1 => by
    have h1 := dnw_le (kd := kd) (W := W) k
    have h2 := dns_le (kd := kd) (w := k + 1) (W := W) (a := dnw kd W k) 63
    show (dns _ _ _ _ _).1 ≤ _
    omega
theorem fwv_none {a : Nat × Option Nat} (hd : DI a) : fwv a.2 = -4 ↔ a.1 = 0 := by
  rw [hd.1]
  cases e : a.2 with
  | none => exact ⟨fun _ => rfl, fun _ => rfl⟩
  | some v =>
    refine ⟨fun h => ?_, fun h => by cases h⟩
    have h1 := hd.2 v e
    have h2 : (nI v).toInt = (-4 : Int32).toInt := congrArg Int32.toInt h
    rw [nI_toInt (by omega)] at h2
    have h3 : (-4 : Int32).toInt = -4 := by decide
    omega
theorem lsk6_le {kd w s m : Nat} (hw : w ≤ 9) (k : Nat) : lsk6 kd w s m k ≤ k * 18 := sm_le (fun i _ => by
  split
  · exact lgr_le hw
  · omega)
theorem low6 : ∀ s, s < 64 → s ≠ 0 → low s < 6 ∧ s &&& (s - 1) < s ∧ ∀ i, i < 6 → (s &&& (s - 1)).testBit i = (s.testBit i && !(i == low s)) := by decide +kernel
theorem lsm_step {kd w s m : Nat} (hs : s < 64) (h0 : s ≠ 0) : lsm kd w (s &&& (s - 1)) m + lgr kd (low s) m w = lsm kd w s m := by
  obtain ⟨h1, -, h2⟩ := low6 s hs h0
  have h3 := (low_bit s (by omega) h0).1
  unfold lsm lsk6
  simp only [sm]
  rw [h2 0 (by decide), h2 1 (by decide), h2 2 (by decide), h2 3 (by decide), h2 4 (by decide), h2 5 (by decide)]
  rcases (show low s = 0 ∨ low s = 1 ∨ low s = 2 ∨ low s = 3 ∨ low s = 4 ∨ low s = 5 by omega) with e | e | e | e | e | e <;> rw [e] at h3 <;> simp [e, h3] <;> omega
theorem eqs_succ {kd w s k : Nat} {W : Nat → Int64} : eqs kd w s W (k + 1) = true ↔ eqs kd w s W k = true ∧ lN (lsm kd w s k) = W k := by
  rw [eqs, Bool.and_eq_true, decide_eq_true_iff]
theorem zb_and1 {p : Prop} [Decidable p] : zb p &&& nI 1 = zb p := by
  unfold zb
  split <;> rfl
theorem zb_and0 {p : Prop} [Decidable p] : zb p &&& nI 0 = nI 0 := by
  unfold zb
  split <;> rfl
def sp_done (n : Nat → Nat) (z : Nat → Option (Nat × Nat × Nat)) (sz : Nat → Nat) (V : Nat → Nat → Int64) (x s w i c : Int32) : Int32 := if (0 ≤ x.toInt ∧ x.toInt < (n 0 : Int)) ∧ (0 ≤ s.toInt ∧ s.toInt ≤ 3) ∧ (0 ≤ w.toInt ∧ w.toInt ≤ 3) ∧ (0 ≤ c.toInt ∧ c.toInt ≤ 1) then (match z (tn s) with | none => -11 | some (_, _, L) => if rfz (tn w) L i (nI 4) (sz (tn s)) = nI 0 then (if tn c = 0 then nI (dnw (n (8 + 5 * tn x)) (fun m => V (tn s) (tn i + m)) 9).1 else fwv (dnw (n (8 + 5 * tn x)) (fun m => V (tn s) (tn i + m)) 9).2) else rfz (tn w) L i (nI 4) (sz (tn s))) else -1
