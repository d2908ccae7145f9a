def KI (t : Nat → Nat → Nat) (M : zM) : Prop := SI 10 (t 40) (fun j => t 40 (89 + j)) (t 34 10) M
theorem si_40 {t : Nat → Nat → Nat} {j : Nat} (h : j < 89) : st_image t 40 j = t 35 j := by
  show (if j < 89 then t 35 j else if j < 89 + 352 then t 38 (j - 89) else t 40 j) = t 35 j
  rw [if_pos h]
theorem si_u {t : Nat → Nat → Nat} {j : Nat} (h : j < 352) : st_image t 40 (89 + j) = t 38 j := by
  show (if 89 + j < 89 then t 35 (89 + j) else if 89 + j < 89 + 352 then t 38 (89 + j - 89) else t 40 (89 + j)) = t 38 j
  rw [if_neg (by omega), if_pos (by omega), show 89 + j - 89 = j by omega]
theorem si_k (t : Nat → Nat → Nat) : st_image t 34 10 = t 34 7 := rfl
/-- the tape -/
def TI (t : Nat → Nat → Nat) (M : zM) : Prop := M.1 19 1 = nI (t 34 2) ∧ ∀ j, j < t 34 2 → M.1 20 j = nI (t 36 j)
def nty (t : Nat → Nat → Nat) (v : Nat) : Nat → Nat → Nat := ts (ts t 36 (t 34 2) v) 34 2 (t 34 2 + 1)
def sp_type (t : Nat → Nat → Nat) (x : Int32) : Int32 := if 32 ≤ x.toInt ∧ x.toInt ≤ 126 then (if t 34 2 = 130 then -3 else nI (t 34 2 + 1)) else -1
def st_type (t : Nat → Nat → Nat) (x : Int32) : Nat → Nat → Nat := if 32 ≤ x.toInt ∧ x.toInt ≤ 126 then (if t 34 2 = 130 then t else nty t (tn x)) else t
theorem TI_type {t : Nat → Nat → Nat} {M M' : zM} {v : Nat} (h : TI t M) (m1 : M'.1 19 = upd (M.1 19) 1 (nI (t 34 2 + 1))) (m2 : M'.1 20 = upd (M.1 20) (t 34 2) (nI v)) : TI (nty t v) M' := by
  refine ⟨?_, fun j hj => ?_⟩
  · rw [m1, pk_us]; unfold nty; rw [ts_at]
  · unfold nty at hj ⊢
    rw [ts_at] at hj
    rw [m2, ts_nc (by decide)]
    by_cases e : j = t 34 2
    · rw [e, pk_us, ts_at]
    · rw [pk_un e, ts_nk e]; exact h.2 j (by omega)
