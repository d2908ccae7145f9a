/-! cells that are made: they come behind the others -/
def zwf (S : List zC) (M : zM) : Prop := (∀ (i ci : Nat) (fl : List (Option (Option Nat))), S[i]? = some (Sum.inr (ci, fl)) → ∀ (k j : Nat), fl[k]? = some (some (some j)) → j < S.length) ∧ (∀ (i k n : Nat), S[i]? = some (Sum.inl (k + 2, n)) → ∀ (x j : Nat), M.2.2 i x = some j → j < S.length)
def vwf (n : Nat) : Value → Prop
  | .ref i => i < n
  | _ => True
def nad (ad : Nat → Nat) (n q : Nat) : Nat → Nat := fun i => if i = n then q else ad i
def nac (ac : Nat → ClassId) (n : Nat) (q : ClassId) : Nat → ClassId := fun i => if i = n then q else ac i
theorem nad_lt {ad : Nat → Nat} {n q i : Nat} (h : i < n) : nad ad n q i = ad i := if_neg (by omega)
theorem nac_lt {ac : Nat → ClassId} {n : Nat} {q : ClassId} {i : Nat} (h : i < n) : nac ac n q i = ac i := if_neg (by omega)
theorem zv_nad {ad : Nat → Nat} {ex : UInt32 → Nat} {n q : Nat} {v : Value} (h : vwf n v) : zv (nad ad n q) ex v = zv ad ex v := by
  cases v with
  | ref i => exact congrArg Value.ref (nad_lt h)
  | _ => rfl
theorem zcell_nad {ad : Nat → Nat} {ac : Nat → ClassId} {S : List zC} {M M' : zM} {q : Nat} {cA : ClassId} {i : Nat} {c : zC} (hwf : zwf S M) (hc : S[i]? = some c) (h1 : M'.1 i = M.1 i) (h2 : M'.2.1 i = M.2.1 i) (h3 : M'.2.2 i = M.2.2 i) : zcell (nad ad S.length q) (nac ac S.length cA) M' i c = zcell ad ac M i c := by
  have hi : i < S.length := (List.getElem?_eq_some_iff.mp hc).1
  rcases c with ⟨k, n⟩ | ⟨ci, fl⟩
  · rcases k with _ | _ | k
    · simp only [zcell, nad_lt hi, nac_lt hi, h1]
    · simp only [zcell, nad_lt hi, nac_lt hi, h2]
    · simp only [zcell, nad_lt hi, nac_lt hi, h3]
      congr 8
      funext j
      cases e : M.2.2 i j with
      | none => rfl
      | some x => exact congrArg some (nad_lt (hwf.2 i k n hc j x e))
  · simp only [zcell, nad_lt hi, h1]
    congr 3
    apply List.ext_getElem?
    intro k
    rw [List.getElem?_mapIdx, List.getElem?_mapIdx]
    cases e : fl[k]? with
    | none => rfl
    | some v =>
      rcases v with _ | _ | j
      · rfl
      · rfl
      · exact congrArg (fun x => some (Value.ref x)) (nad_lt (hwf.1 i ci fl hc k j e))
theorem zW_push {ad : Nat → Nat} {ac : Nat → ClassId} {S : List zC} {M M' : zM} {q : Nat} {cA : ClassId} {c : zC} (hwf : zwf S M) (h : ∀ i, i < S.length → M'.1 i = M.1 i ∧ M'.2.1 i = M.2.1 i ∧ M'.2.2 i = M.2.2 i) : zW (nad ad S.length q) (nac ac S.length cA) (S ++ [c]) M' = zW ad ac S M ++ [zcell (nad ad S.length q) (nac ac S.length cA) M' S.length c] := by
  apply List.ext_getElem?
  intro i
  by_cases hi : i < S.length
  · rw [List.getElem?_append_left (by rw [zW_len]; exact hi)]
    have hc := List.getElem?_eq_getElem hi
    rw [zW_get (c := S[i]) (by rw [List.getElem?_append_left hi]; exact hc), zW_get hc, zcell_nad hwf hc (h i hi).1 (h i hi).2.1 (h i hi).2.2]
  · rw [List.getElem?_append_right (by rw [zW_len]; omega), zW_len]
    by_cases e : i = S.length
    · subst e
      rw [Nat.sub_self, zW_get (c := c) (by rw [List.getElem?_append_right (Nat.le_refl _), Nat.sub_self]; rfl)]
      rfl
    · rw [List.getElem?_eq_none (by rw [zW_len, List.length_append, List.length_singleton]; omega), List.getElem?_eq_none (by rw [List.length_singleton]; omega)]
theorem zH_push {D : va_G} {A : Nat → Prop} {ad : Nat → Nat} {ac : Nat → ClassId} {S : List zC} {M M' : zM} {s : State} {H H1 : Heap} {q : Nat} {cA : ClassId} {c : zC} (hH : zH D A ad ac S M s H) (hwf : zwf S M) (h : ∀ i, i < S.length → M'.1 i = M.1 i ∧ M'.2.1 i = M.2.1 i ∧ M'.2.2 i = M.2.2 i) (hk : ∀ k n, c = .inl (k, n) → ArrOfT s cA (zty k) ∧ va_RA s cA (zty k)) (hP : va_P D vwCl (zW ad ac S M ++ [zcell (nad ad S.length q) (nac ac S.length cA) M' S.length c]) H1) (hD : va_D A (zW ad ac S M ++ [zcell (nad ad S.length q) (nac ac S.length cA) M' S.length c])) : zH D A (nad ad S.length q) (nac ac S.length cA) (S ++ [c]) M' s H1 := by
  rw [← zW_push hwf h] at hP hD
  refine ⟨hH.1, fun i k n hi => ?_, hP, hD⟩
  by_cases e : i < S.length
  · rw [List.getElem?_append_left e] at hi
    rw [nac_lt e]
    exact hH.2.1 i k n hi
  · rw [List.getElem?_append_right (by omega)] at hi
    have e2 : i = S.length := by
      have := (List.getElem?_eq_some_iff.mp hi).1
      rw [List.length_singleton] at this
      omega
    subst e2
    rw [Nat.sub_self] at hi
    have : nac ac S.length cA S.length = cA := if_pos rfl
    rw [this]
    exact hk k n (Option.some.inj hi)
theorem zlv_nad {ad : Nat → Nat} {ex : UInt32 → Nat} {lsA : Array Slot} {nL n q : Nat} {ls : List (Option Value)} (h : zlv ad ex lsA nL ls) (hw : ∀ v, some v ∈ ls → vwf n v) : zlv (nad ad n q) ex lsA nL ls := by
  refine ⟨h.1, h.2.1, fun i v hi => ?_⟩
  rw [zv_nad (hw v (List.mem_of_getElem? hi))]
  exact h.2.2 i v hi
theorem zst_nad {ad : Nat → Nat} {ex : UInt32 → Nat} {n q : Nat} {st : List Value} (hw : ∀ v ∈ st, vwf n v) : st.map (zv (nad ad n q) ex) = st.map (zv ad ex) := List.map_congr_left (fun v hv => zv_nad (hw v hv))
theorem zag_nad {b : Nat} {ad0 ad : Nat → Nat} {ac0 ac : Nat → ClassId} {n q : Nat} {cA : ClassId} (h : zag (some b) ad0 ad ac0 ac) (hb : b ≤ n) : zag (some b) ad0 (nad ad n q) ac0 (nac ac n cA) := fun i hi => ⟨(nad_lt (by omega)).trans (h i hi).1, (nac_lt (by omega)).trans (h i hi).2⟩
section ALL
variable {l : Launch} {b0 : Nat} {R : Room} {y : MethodName} {cc : ByteArray} {nL : Nat} {ret : Option FieldType} {Q : Option Value → List zC → zM → Prop} {cells slots pc : Nat} {ls : List (Option Value)} {st : List Value} {S : List zC} {M : zM}
/-- newarray of ints -/
theorem r_newi {N : Nat} (hak : Cond.arrayClass .int ∈ zT) (hN : N < 2 ^ 26) (hwf : zwf S M) (hls : ∀ v, some v ∈ ls → vwf S.length v) (hst : ∀ v ∈ st, vwf S.length v) (hc : cells + 1 ≤ R.cells) (hs : slots + N ≤ R.slots) (hd : decode cc pc = .ok (.newarray .int, 2)) (kk : RA l (some b0) R y cc nL ret Q (cells + 1) (slots + N) (pc + 2) ls (.ref S.length :: st) (S ++ [.inl (0, N)]) (zI M S.length (fun _ => 0))) : RA l (some b0) R y cc nL ret Q cells slots pc ls (.int (nI N) :: st) S M := by
  intro p e s m args below meth c D A ex ad0 ac0 ad ac H locs lsA Z C hH hS hg hb hl hZ
  refine va_newa (atype := .int) (ty := .int) (a0 := (N, .inl (fun _ => 0))) (N' := N) C.1 C.2.1 (C.2.2.2.2.1 _ hak) rfl hH.1 hH.2.2.1 hH.2.2.2 hS C.2.2.2.2.2.2.2.2.1 (fun cA => rfl) (nI_pos (by omega)) (nI_clamp (by omega)) (by show N * 4 ≤ 536870912; omega) hc hs hd (fun q cA H1 hK hP hD hS1 => ?_)
  have hq : nad ad S.length q S.length = q := if_pos rfl
  have hcq : nac ac S.length cA S.length = cA := if_pos rfl
  have he : ((q, (.inl (cA, N, .inl (fun _ => 0)) : va_E))) = zcell (nad ad S.length q) (nac ac S.length cA) (zI M S.length (fun _ => 0)) S.length (.inl (0, N)) := by
    simp only [zcell, hq, hcq, zI_at]
  rw [he] at hP hD
  have hH1 := zH_push hH hwf (M' := zI M S.length (fun _ => 0)) (fun i hi => zI_ne i (by omega)) (fun k n ek => by
    cases ek
    exact hK.2 0 (cA, .int) rfl) hP hD
  have hk := kk p e s m args below meth c D A ex ad0 ac0 (nad ad S.length q) (nac ac S.length cA) H1 locs lsA Z C hH1 hS1 (zag_nad hg (hb b0 rfl)) (fun q' hq' => by
    have := hb q' hq'
    rw [List.length_append]
    omega) (zlv_nad hl hls) hZ
  rw [List.map_cons, zst_nad hst] at hk
  have e0 : zv (nad ad S.length q) ex (.ref S.length) = .ref q := congrArg Value.ref hq
  rw [e0] at hk
  exact hk
end ALL
