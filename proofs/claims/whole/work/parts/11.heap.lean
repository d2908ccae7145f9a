def zI (M : zM) (c : Nat) (f : Nat → Int32) : zM := (fun i => if i = c then f else M.1 i, M.2)
def zL (M : zM) (c : Nat) (f : Nat → Int64) : zM := (M.1, fun i => if i = c then f else M.2.1 i, M.2.2)
def zO (M : zM) (c : Nat) (f : Nat → Option Nat) : zM := (M.1, M.2.1, fun i => if i = c then f else M.2.2 i)
theorem zW_get {ad : Nat → Nat} {ac : Nat → ClassId} {S : List zC} {M : zM} {i : Nat} {c : zC} (h : S[i]? = some c) : (zW ad ac S M)[i]? = some (zcell ad ac M i c) := by
  unfold zW
  rw [List.getElem?_mapIdx, h]
  rfl
theorem zW_inv {ad : Nat → Nat} {ac : Nat → ClassId} {S : List zC} {M : zM} {i : Nat} {q : Nat × va_E} (h : (zW ad ac S M)[i]? = some q) : ∃ c, S[i]? = some c ∧ q = zcell ad ac M i c := by
  unfold zW at h
  rw [List.getElem?_mapIdx] at h
  cases hc : S[i]? with
  | none => rw [hc] at h; cases h
  | some c => rw [hc] at h; exact ⟨c, rfl, (Option.some.inj h).symm⟩
theorem zcell_ad {ad : Nat → Nat} {ac : Nat → ClassId} {M : zM} {i : Nat} (c : zC) : (zcell ad ac M i c).1 = ad i := by
  rcases c with ⟨k, n⟩ | ⟨ci, fl⟩
  · rcases k with _ | _ | k <;> rfl
  · rfl
theorem zcell_congr {ad : Nat → Nat} {ac : Nat → ClassId} {M M' : zM} {i : Nat} (c : zC) (h1 : M'.1 i = M.1 i) (h2 : M'.2.1 i = M.2.1 i) (h3 : M'.2.2 i = M.2.2 i) : zcell ad ac M' i c = zcell ad ac M i c := by
  rcases c with ⟨k, n⟩ | ⟨ci, fl⟩
  · rcases k with _ | _ | k
    · simp only [zcell, h1]
    · simp only [zcell, h2]
    · simp only [zcell, h3]
  · simp only [zcell, h1]
theorem zW_len {ad : Nat → Nat} {ac : Nat → ClassId} {S : List zC} {M : zM} : (zW ad ac S M).length = S.length := by unfold zW; exact List.length_mapIdx
theorem zW_set {ad : Nat → Nat} {ac : Nat → ClassId} {S : List zC} {M M' : zM} {i : Nat} {c c' : zC} (h : S[i]? = some c) (hj : ∀ j, j ≠ i → M'.1 j = M.1 j ∧ M'.2.1 j = M.2.1 j ∧ M'.2.2 j = M.2.2 j) : (zW ad ac S M).set i (zcell ad ac M' i c') = zW ad ac (S.set i c') M' := by
  apply List.ext_getElem?
  intro j
  have hi : i < S.length := (List.getElem?_eq_some_iff.mp h).1
  by_cases e : j = i
  · subst e
    rw [List.getElem?_set_self (by rw [zW_len]; exact hi), zW_get (c := c') (by rw [List.getElem?_set_self hi])]
  · rw [List.getElem?_set_ne (fun q => e q.symm)]
    cases hc : S[j]? with
    | none =>
      have hl : S.length ≤ j := List.getElem?_eq_none_iff.mp hc
      rw [List.getElem?_eq_none (by rw [zW_len]; exact hl), List.getElem?_eq_none (by rw [zW_len, List.length_set]; exact hl)]
    | some c2 =>
      rw [zW_get hc, zW_get (c := c2) (by rw [List.getElem?_set_ne (fun q => e q.symm)]; exact hc), zcell_congr c2 (hj j e).1 (hj j e).2.1 (hj j e).2.2]
theorem zset_same {S : List zC} {i : Nat} {c : zC} (h : S[i]? = some c) : S.set i c = S := by
  apply List.ext_getElem?
  intro j
  by_cases e : j = i
  · subst e
    rw [List.getElem?_set_self (List.getElem?_eq_some_iff.mp h).1, h]
  · rw [List.getElem?_set_ne (fun q => e q.symm)]
theorem zI_ne {M : zM} {c : Nat} {f : Nat → Int32} (j : Nat) (h : j ≠ c) : (zI M c f).1 j = M.1 j ∧ (zI M c f).2.1 j = M.2.1 j ∧ (zI M c f).2.2 j = M.2.2 j := ⟨if_neg h, rfl, rfl⟩
theorem zL_ne {M : zM} {c : Nat} {f : Nat → Int64} (j : Nat) (h : j ≠ c) : (zL M c f).1 j = M.1 j ∧ (zL M c f).2.1 j = M.2.1 j ∧ (zL M c f).2.2 j = M.2.2 j := ⟨rfl, if_neg h, rfl⟩
theorem zO_ne {M : zM} {c : Nat} {f : Nat → Option Nat} (j : Nat) (h : j ≠ c) : (zO M c f).1 j = M.1 j ∧ (zO M c f).2.1 j = M.2.1 j ∧ (zO M c f).2.2 j = M.2.2 j := ⟨rfl, rfl, if_neg h⟩
theorem zI_at {M : zM} {c : Nat} {f : Nat → Int32} : (zI M c f).1 c = f := if_pos rfl
theorem zL_at {M : zM} {c : Nat} {f : Nat → Int64} : (zL M c f).2.1 c = f := if_pos rfl
theorem zO_at {M : zM} {c : Nat} {f : Nat → Option Nat} : (zO M c f).2.2 c = f := if_pos rfl
theorem zfl_get {ad : Nat → Nat} {f : Nat → Int32} {fl : List (Option (Option Nat))} {k : Nat} {v : Option (Option Nat)} (h : fl[k]? = some v) : (fl.mapIdx (zfld ad f))[k]? = some (zfld ad f k v) := by
  rw [List.getElem?_mapIdx, h]
  rfl
theorem zfl_put {ad : Nat → Nat} {f : Nat → Int32} {fl : List (Option (Option Nat))} {k : Nat} {x : Int32} (h : fl[k]? = some none) : (fl.mapIdx (zfld ad f)).set k (.int x) = fl.mapIdx (zfld ad (upd f k x)) := by
  apply List.ext_getElem?
  intro j
  have hi : k < fl.length := (List.getElem?_eq_some_iff.mp h).1
  by_cases e : j = k
  · subst e
    rw [List.getElem?_set_self (by rw [List.length_mapIdx]; exact hi), zfl_get h]
    simp only [zfld, pk_us]
  · rw [List.getElem?_set_ne (fun q => e q.symm), List.getElem?_mapIdx, List.getElem?_mapIdx]
    cases fl[j]? with
    | none => rfl
    | some v =>
      simp only [Option.map_some, Option.some.injEq]
      rcases v with _ | _ | v
      · simp only [zfld, pk_un e]
      · rfl
      · rfl
theorem zfl_putR {ad : Nat → Nat} {f : Nat → Int32} {fl : List (Option (Option Nat))} {k : Nat} {q : Option Nat} (hi : k < fl.length) : (fl.mapIdx (zfld ad f)).set k (va_rf (q.map ad)) = (fl.set k (some q)).mapIdx (zfld ad f) := by
  apply List.ext_getElem?
  intro j
  by_cases e : j = k
  · subst e
    rw [List.getElem?_set_self (by rw [List.length_mapIdx]; exact hi), zfl_get (List.getElem?_set_self hi)]
    cases q <;> rfl
  · rw [List.getElem?_set_ne (fun q => e q.symm), List.getElem?_mapIdx, List.getElem?_mapIdx, List.getElem?_set_ne (fun q => e q.symm)]
/-- a field's entry of the pool, and what the tables say of the field -/
def zFL (own : String) (index ci k : Nat) (fin : Bool) (ty : FieldType) : Prop := ∃ (C : String) (T : u_T) (N : Nat) (ty0 : Nat → FieldType), vwCl[ci]? = some (C, T, N) ∧ (∀ w ∈ u_ws C T N, w ∈ zT) ∧ (∀ k, k < N → parseFieldDescriptor (T k).2.2.1 = some (ty0 k)) ∧ (∀ a, a < N → ∀ b, b < N → a ≠ b → (T a).2.1 ≠ (T b).2.1) ∧ k < N ∧ Cond.fieldLink own index (T k).1 (T k).2.1 (T k).2.2.1 ∈ zT ∧ (T k).2.2.2 = fin ∧ ty0 k = ty
theorem zK1 {D : va_G} {A : Nat → Prop} {ad : Nat → Nat} {ac : Nat → ClassId} {S : List zC} {M : zM} {s : State} {H : Heap} (h : zH D A ad ac S M s H) {i k n : Nat} (hS : S[i]? = some (.inl (k, n))) : va_K D vwCl [(ac i, zty k)] s := by
  refine ⟨h.1.1, fun j q hj => ?_⟩
  cases j with
  | zero => cases hj; exact h.2.1 i k n hS
  | succ j => cases hj
theorem zH.put {D : va_G} {A : Nat → Prop} {ad : Nat → Nat} {ac : Nat → ClassId} {S : List zC} {M M' : zM} {s : State} {H H1 : Heap} (h : zH D A ad ac S M s H) {i : Nat} {c c' : zC} (hS : S[i]? = some c) (hk : ∀ k n, c' = .inl (k, n) → ∃ n', c = .inl (k, n')) (hj : ∀ j, j ≠ i → M'.1 j = M.1 j ∧ M'.2.1 j = M.2.1 j ∧ M'.2.2 j = M.2.2 j) (hP : va_P D vwCl ((zW ad ac S M).set i (zcell ad ac M' i c')) H1) (hD : va_D A ((zW ad ac S M).set i (zcell ad ac M' i c'))) : zH D A ad ac (S.set i c') M' s H1 := by
  rw [zW_set hS hj] at hP hD
  refine ⟨h.1, fun j k n hjk => ?_, hP, hD⟩
  by_cases e : j = i
  · subst e
    rw [List.getElem?_set_self (List.getElem?_eq_some_iff.mp hS).1] at hjk
    obtain ⟨n', hn⟩ := hk k n (Option.some.inj hjk)
    exact h.2.1 j k n' (by rw [hS, hn])
  · rw [List.getElem?_set_ne (fun q => e q.symm)] at hjk
    exact h.2.1 j k n hjk
theorem zH.put0 {D : va_G} {A : Nat → Prop} {ad : Nat → Nat} {ac : Nat → ClassId} {S : List zC} {M M' : zM} {s : State} {H H1 : Heap} (h : zH D A ad ac S M s H) {i : Nat} {c : zC} (hS : S[i]? = some c) (hj : ∀ j, j ≠ i → M'.1 j = M.1 j ∧ M'.2.1 j = M.2.1 j ∧ M'.2.2 j = M.2.2 j) (hP : va_P D vwCl ((zW ad ac S M).set i (zcell ad ac M' i c)) H1) (hD : va_D A ((zW ad ac S M).set i (zcell ad ac M' i c))) : zH D A ad ac S M' s H1 := by
  have h2 := h.put (c' := c) hS (fun k n e => ⟨n, e⟩) hj hP hD
  rw [zset_same hS] at h2
  exact h2

theorem zsum (ad : Nat → Nat) (ex : UInt32 → Nat) (st : List Value) : ((st.map (zv ad ex)).map fun v => v.category).sum = (st.map fun v => v.category).sum := by
  rw [List.map_map]
  have e : ((fun v : Value => v.category) ∘ zv ad ex) = fun v => v.category := by (funext v; exact zv_cat ad ex v)
  rw [e]
section RAH
variable {l : Launch} {b : Option Nat} {R : Room} {y : MethodName} {cc : ByteArray} {nL : Nat} {ret : Option FieldType} {Q : Option Value → List zC → zM → Prop} {cells slots pc : Nat} {ls : List (Option Value)} {st : List Value} {S : List zC} {M : zM}
theorem r_getI {index ci k o : Nat} {fl : List (Option (Option Nat))} {fin : Bool} {ty : FieldType} (hf : zFL y.cls index ci k fin ty) (hd : decode cc pc = .ok (.getfield index, 3)) (hc : S[o]? = some (.inr (ci, fl))) (hk : fl[k]? = some none) (kk : RA l b R y cc nL ret Q cells slots (pc + 3) ls (.int (M.1 o k) :: st) S M) : RA l b R y cc nL ret Q cells slots pc ls (.ref o :: st) S M := by
  intro p e s m args below meth c D A ex ad0 ac0 ad ac H locs lsA Z C hH hS hg hb hl hZ
  obtain ⟨CC, T, N, ty0, h1, h2, h3, h4, h5, h6, h7, h8⟩ := hf
  exact va_get C.1 C.2.1 C.2.2.2.2.1 h2 C.2.2.2.1 hH.1 hH.2.2.1 o (zW_get hc) h1 k h5 (C.2.2.2.2.1 _ h6) (fun _ h => h) (zfl_get hk) hd (kk p e s m args below meth c D A ex ad0 ac0 ad ac H locs lsA Z C hH hS hg hb hl hZ)
theorem r_getR {index ci k o j : Nat} {fl : List (Option (Option Nat))} {fin : Bool} {ty : FieldType} (hf : zFL y.cls index ci k fin ty) (hd : decode cc pc = .ok (.getfield index, 3)) (hc : S[o]? = some (.inr (ci, fl))) (hk : fl[k]? = some (some (some j))) (kk : RA l b R y cc nL ret Q cells slots (pc + 3) ls (.ref j :: st) S M) : RA l b R y cc nL ret Q cells slots pc ls (.ref o :: st) S M := by
  intro p e s m args below meth c D A ex ad0 ac0 ad ac H locs lsA Z C hH hS hg hb hl hZ
  obtain ⟨CC, T, N, ty0, h1, h2, h3, h4, h5, h6, h7, h8⟩ := hf
  exact va_get C.1 C.2.1 C.2.2.2.2.1 h2 C.2.2.2.1 hH.1 hH.2.2.1 o (zW_get hc) h1 k h5 (C.2.2.2.2.1 _ h6) (fun _ h => h) (zfl_get hk) hd (kk p e s m args below meth c D A ex ad0 ac0 ad ac H locs lsA Z C hH hS hg hb hl hZ)
theorem r_putI {index ci k o : Nat} {x : Int32} {fl : List (Option (Option Nat))} {ty : FieldType} (hf : zFL y.cls index ci k false ty) (hd : decode cc pc = .ok (.putfield index, 3)) (hn : narrow ty (.int x) = .int x) (hfit : fits ty (.int x) = true) (hc : S[o]? = some (.inr (ci, fl))) (hk : fl[k]? = some none) (kk : RA l b R y cc nL ret Q cells slots (pc + 3) ls st S (zI M o (upd (M.1 o) k x))) : RA l b R y cc nL ret Q cells slots pc ls (.int x :: .ref o :: st) S M := by
  intro p e s m args below meth c D A ex ad0 ac0 ad ac H locs lsA Z C hH hS hg hb hl hZ
  obtain ⟨CC, T, N, ty0, h1, h2, h3, h4, h5, h6, h7, h8⟩ := hf
  refine va_put (v := .int x) C.1 C.2.1 C.2.2.2.2.1 h2 ty0 h3 h4 C.2.2.2.1 hH.1 hH.2.2.1 hH.2.2.2 hS o (zW_get hc) h1 k h5 (C.2.2.2.2.1 _ h6) (fun _ h => h) h7 ((h3 k h5).trans (congrArg some h8)) hn hfit (by rw [List.length_mapIdx]; exact (List.getElem?_eq_some_iff.mp hk).1) hd (fun H1 locs1 hP hD hS1 => ?_)
  have he9 : (ad o, (.inr (ci, (fl.mapIdx (zfld ad (M.1 o))).set k (.int x)) : va_E)) = zcell ad ac (zI M o (upd (M.1 o) k x)) o (.inr (ci, fl)) := by
    simp only [zcell, zI_at, zfl_put hk]
  rw [he9] at hP hD
  exact kk p e s m args below meth c D A ex ad0 ac0 ad ac H1 locs1 lsA Z C (hH.put0 hc (fun j h => zI_ne j h) hP hD) hS1 hg hb hl hZ
theorem r_iald {a n : Nat} {i : Int32} (hd : decode cc pc = .ok (.iaload, 1)) (hc : S[a]? = some (.inl (0, n))) (hin : vp_in i n) (kk : RA l b R y cc nL ret Q cells slots (pc + 1) ls (.int (M.1 a i.toNatClampNeg) :: st) S M) : RA l b R y cc nL ret Q cells slots pc ls (.int i :: .ref a :: st) S M := by
  intro p e s m args below meth c D A ex ad0 ac0 ad ac H locs lsA Z C hH hS hg hb hl hZ
  exact va_iald C.1 C.2.1 (zK1 hH hc) hH.2.2.1 a 0 (zW_get hc) rfl hin hd (kk p e s m args below meth c D A ex ad0 ac0 ad ac H locs lsA Z C hH hS hg hb hl hZ)
theorem r_iast {a n : Nat} {i x : Int32} (hd : decode cc pc = .ok (.iastore, 1)) (hc : S[a]? = some (.inl (0, n))) (hin : vp_in i n) (kk : RA l b R y cc nL ret Q cells slots (pc + 1) ls st S (zI M a (upd (M.1 a) i.toNatClampNeg x))) : RA l b R y cc nL ret Q cells slots pc ls (.int x :: .int i :: .ref a :: st) S M := by
  intro p e s m args below meth c D A ex ad0 ac0 ad ac H locs lsA Z C hH hS hg hb hl hZ
  refine va_iast C.1 C.2.1 (zK1 hH hc) hH.2.2.1 hH.2.2.2 hS a 0 (zW_get hc) rfl hin hd (fun H1 locs1 hP hD hS1 => ?_)
  have he9 : (ad a, (.inl (ac a, n, .inl (upd (M.1 a) i.toNatClampNeg x)) : va_E)) = zcell ad ac (zI M a (upd (M.1 a) i.toNatClampNeg x)) a (.inl (0, n)) := by
    simp only [zcell, zI_at]
  rw [he9] at hP hD
  exact kk p e s m args below meth c D A ex ad0 ac0 ad ac H1 locs1 lsA Z C (hH.put0 hc (fun j h => zI_ne j h) hP hD) hS1 hg hb hl hZ
theorem r_lald {a n : Nat} {i : Int32} (hd : decode cc pc = .ok (.laload, 1)) (hc : S[a]? = some (.inl (1, n))) (hin : vp_in i n) (kk : RA l b R y cc nL ret Q cells slots (pc + 1) ls (.long (M.2.1 a i.toNatClampNeg) :: st) S M) : RA l b R y cc nL ret Q cells slots pc ls (.int i :: .ref a :: st) S M := by
  intro p e s m args below meth c D A ex ad0 ac0 ad ac H locs lsA Z C hH hS hg hb hl hZ
  exact va_lald C.1 C.2.1 (zK1 hH hc) hH.2.2.1 a 0 (zW_get hc) rfl hin hd (kk p e s m args below meth c D A ex ad0 ac0 ad ac H locs lsA Z C hH hS hg hb hl hZ)
theorem r_last {a n : Nat} {i : Int32} {x : Int64} (hd : decode cc pc = .ok (.lastore, 1)) (hc : S[a]? = some (.inl (1, n))) (hin : vp_in i n) (kk : RA l b R y cc nL ret Q cells slots (pc + 1) ls st S (zL M a (vp_updL (M.2.1 a) i.toNatClampNeg x))) : RA l b R y cc nL ret Q cells slots pc ls (.long x :: .int i :: .ref a :: st) S M := by
  intro p e s m args below meth c D A ex ad0 ac0 ad ac H locs lsA Z C hH hS hg hb hl hZ
  refine va_last C.1 C.2.1 (zK1 hH hc) hH.2.2.1 hH.2.2.2 hS a 0 (zW_get hc) rfl hin hd (fun H1 locs1 hP hD hS1 => ?_)
  have he9 : (ad a, (.inl (ac a, n, .inr (.inl (vp_updL (M.2.1 a) i.toNatClampNeg x))) : va_E)) = zcell ad ac (zL M a (vp_updL (M.2.1 a) i.toNatClampNeg x)) a (.inl (1, n)) := by
    simp only [zcell, zL_at]
  rw [he9] at hP hD
  exact kk p e s m args below meth c D A ex ad0 ac0 ad ac H1 locs1 lsA Z C (hH.put0 hc (fun j h => zL_ne j h) hP hD) hS1 hg hb hl hZ
theorem r_aaldS {a n j : Nat} {i : Int32} (hd : decode cc pc = .ok (.aaload, 1)) (hc : S[a]? = some (.inl (2, n))) (hin : vp_in i n) (hj : M.2.2 a i.toNatClampNeg = some j) (kk : RA l b R y cc nL ret Q cells slots (pc + 1) ls (.ref j :: st) S M) : RA l b R y cc nL ret Q cells slots pc ls (.int i :: .ref a :: st) S M := by
  intro p e s m args below meth c D A ex ad0 ac0 ad ac H locs lsA Z C hH hS hg hb hl hZ
  refine va_aldq (C := "TailorTape$Row") C.1 C.2.1 (zK1 hH hc) hH.2.2.1 a 0 (zW_get hc) rfl hin hd ?_
  rw [hj]
  exact kk p e s m args below meth c D A ex ad0 ac0 ad ac H locs lsA Z C hH hS hg hb hl hZ
theorem r_aaldN {a n : Nat} {i : Int32} (hd : decode cc pc = .ok (.aaload, 1)) (hc : S[a]? = some (.inl (2, n))) (hin : vp_in i n) (hj : M.2.2 a i.toNatClampNeg = none) (kk : RA l b R y cc nL ret Q cells slots (pc + 1) ls (.null :: st) S M) : RA l b R y cc nL ret Q cells slots pc ls (.int i :: .ref a :: st) S M := by
  intro p e s m args below meth c D A ex ad0 ac0 ad ac H locs lsA Z C hH hS hg hb hl hZ
  refine va_aldq (C := "TailorTape$Row") C.1 C.2.1 (zK1 hH hc) hH.2.2.1 a 0 (zW_get hc) rfl hin hd ?_
  rw [hj]
  exact kk p e s m args below meth c D A ex ad0 ac0 ad ac H locs lsA Z C hH hS hg hb hl hZ
theorem r_aast {a n j : Nat} {i : Int32} {fl : List (Option (Option Nat))} (hd : decode cc pc = .ok (.aastore, 1)) (hc : S[a]? = some (.inl (2, n))) (hin : vp_in i n) (hj : S[j]? = some (.inr (2, fl))) (kk : RA l b R y cc nL ret Q cells slots (pc + 1) ls st S (zO M a (va_up (M.2.2 a) i.toNatClampNeg (some j)))) : RA l b R y cc nL ret Q cells slots pc ls (.ref j :: .int i :: .ref a :: st) S M := by
  intro p e s m args below meth c D A ex ad0 ac0 ad ac H locs lsA Z C hH hS hg hb hl hZ
  refine va_astq (r := (RX2, TX2, 2)) C.1 C.2.1 (zK1 hH hc) hH.2.2.1 hH.2.2.2 hS a 0 j 2 (zW_get hc) rfl (zW_get hj) rfl hin hd (fun H1 locs1 hP hD hS1 => ?_)
  have he9 : (ad a, (.inl (ac a, n, .inr (.inr (.inr (.inr (va_up (fun j => (M.2.2 a j).map ad) i.toNatClampNeg (some (ad j))))))) : va_E)) = zcell ad ac (zO M a (va_up (M.2.2 a) i.toNatClampNeg (some j))) a (.inl (2, n)) := by
    simp only [zcell, zO_at]
    congr 8
    funext q
    by_cases hq : q = i.toNatClampNeg <;> simp [va_up, hq]
  rw [he9] at hP hD
  exact kk p e s m args below meth c D A ex ad0 ac0 ad ac H1 locs1 lsA Z C (hH.put0 hc (fun j h => zO_ne j h) hP hD) hS1 hg hb hl hZ
theorem r_aastN {a n : Nat} {i : Int32} (hd : decode cc pc = .ok (.aastore, 1)) (hc : S[a]? = some (.inl (2, n))) (hin : vp_in i n) (kk : RA l b R y cc nL ret Q cells slots (pc + 1) ls st S (zO M a (va_up (M.2.2 a) i.toNatClampNeg none))) : RA l b R y cc nL ret Q cells slots pc ls (.null :: .int i :: .ref a :: st) S M := by
  intro p e s m args below meth c D A ex ad0 ac0 ad ac H locs lsA Z C hH hS hg hb hl hZ
  refine va_astqN (C := "TailorTape$Row") C.1 C.2.1 (zK1 hH hc) hH.2.2.1 hH.2.2.2 hS a 0 (zW_get hc) rfl hin hd (fun H1 locs1 hP hD hS1 => ?_)
  have he9 : (ad a, (.inl (ac a, n, .inr (.inr (.inr (.inr (va_up (fun j => (M.2.2 a j).map ad) i.toNatClampNeg none))))) : va_E)) = zcell ad ac (zO M a (va_up (M.2.2 a) i.toNatClampNeg none)) a (.inl (2, n)) := by
    simp only [zcell, zO_at]
    congr 8
    funext q
    by_cases hq : q = i.toNatClampNeg <;> simp [va_up, hq]
  rw [he9] at hP hD
  exact kk p e s m args below meth c D A ex ad0 ac0 ad ac H1 locs1 lsA Z C (hH.put0 hc (fun j h => zO_ne j h) hP hD) hS1 hg hb hl hZ
theorem r_alen {a k n : Nat} {v : Int32} (hd : decode cc pc = .ok (.arraylength, 1)) (hc : S[a]? = some (.inl (k, n))) (hv : Int32.ofNat n = v) (kk : RA l b R y cc nL ret Q cells slots (pc + 1) ls (.int v :: st) S M) : RA l b R y cc nL ret Q cells slots pc ls (.ref a :: st) S M := by
  intro p e s m args below meth c D A ex ad0 ac0 ad ac H locs lsA Z C hH hS hg hb hl hZ
  have hg2 := zW_get (ad := ad) (ac := ac) (M := M) hc
  rcases k with _ | _ | k
  · exact va_alen C.1 C.2.1 (zK1 hH hc) hH.2.2.1 a 0 hg2 rfl hv hd (kk p e s m args below meth c D A ex ad0 ac0 ad ac H locs lsA Z C hH hS hg hb hl hZ)
  · exact va_alen C.1 C.2.1 (zK1 hH hc) hH.2.2.1 a 0 hg2 rfl hv hd (kk p e s m args below meth c D A ex ad0 ac0 ad ac H locs lsA Z C hH hS hg hb hl hZ)
  · exact va_alen C.1 C.2.1 (zK1 hH hc) hH.2.2.1 a 0 hg2 rfl hv hd (kk p e s m args below meth c D A ex ad0 ac0 ad ac H locs lsA Z C hH hS hg hb hl hZ)
theorem r_copyi {index a0 a n0 n1 : Nat} {sp dp n : Int32} (hw : Cond.methodLink y.cls index arraycopyName ∈ zT ∧ Cond.native arraycopyName ∈ zT ∧ Cond.static arraycopyName ∈ zT ∧ Cond.initialized "java/lang/System" ∈ zT) (hd : decode cc pc = .ok (.invokestatic index, 3)) (hc0 : S[a0]? = some (.inl (0, n0))) (hc1 : S[a]? = some (.inl (0, n1))) (h1 : ¬ sp < 0) (h2 : ¬ dp < 0) (h3 : ¬ n < 0) (h4 : sp.toNatClampNeg + n.toNatClampNeg ≤ n0) (h5 : dp.toNatClampNeg + n.toNatClampNeg ≤ n1) (hfr : 1 ≤ R.frames) (hlo : (st.map fun v => v.category).sum + (nativeFrameWords "java/lang/System" "arraycopy" 5 + 11) ≤ R.locals) (kk : RA l b R y cc nL ret Q cells slots (pc + 3) ls st S (zI M a (va_cpy (M.1 a0) (M.1 a) sp.toNatClampNeg dp.toNatClampNeg n.toNatClampNeg))) : RA l b R y cc nL ret Q cells slots pc ls (.int n :: .int dp :: .ref a :: .int sp :: .ref a0 :: st) S M := by
  intro p e s m args below meth c D A ex ad0 ac0 ad ac H locs lsA Z C hH hS hg hb hl hZ
  have hK2 : va_K D vwCl [(ac a0, zty 0), (ac a, zty 0)] s := (zK1 hH hc0).app (zK1 hH hc1)
  refine va_copyi C.1 C.2.1 (C.2.2.1.trans hl.1.symm) C.2.2.2.1 (C.2.2.2.2.1 _ hw.1) (C.2.2.2.2.1 _ hw.2.1) (C.2.2.2.2.1 _ hw.2.2.1) (C.2.2.2.2.1 _ hw.2.2.2) hK2 hH.2.2.1 hH.2.2.2 hS a0 a 0 1 (ty := .int) (zW_get hc0) (zW_get hc1) rfl rfl rfl h1 h2 h3 h4 h5 (fun i _ => rfl) hfr (by rw [zsum]; exact hlo) hd (fun H1 locs1 hP hD hS1 => ?_)
  have he9 : (ad a, (.inl (ac a, n1, .inl (va_cpy (M.1 a0) (M.1 a) sp.toNatClampNeg dp.toNatClampNeg n.toNatClampNeg)) : va_E)) = zcell ad ac (zI M a (va_cpy (M.1 a0) (M.1 a) sp.toNatClampNeg dp.toNatClampNeg n.toNatClampNeg)) a (.inl (0, n1)) := by
    simp only [zcell, zI_at]
  rw [he9] at hP hD
  exact kk p e s m args below meth c D A ex ad0 ac0 ad ac H1 locs1 lsA Z C (hH.put0 hc1 (fun j h => zI_ne j h) hP hD) hS1 hg hb hl hZ
theorem r_copyl {index a0 a n0 n1 : Nat} {sp dp n : Int32} (hw : Cond.methodLink y.cls index arraycopyName ∈ zT ∧ Cond.native arraycopyName ∈ zT ∧ Cond.static arraycopyName ∈ zT ∧ Cond.initialized "java/lang/System" ∈ zT) (hd : decode cc pc = .ok (.invokestatic index, 3)) (hc0 : S[a0]? = some (.inl (1, n0))) (hc1 : S[a]? = some (.inl (1, n1))) (h1 : ¬ sp < 0) (h2 : ¬ dp < 0) (h3 : ¬ n < 0) (h4 : sp.toNatClampNeg + n.toNatClampNeg ≤ n0) (h5 : dp.toNatClampNeg + n.toNatClampNeg ≤ n1) (hfr : 1 ≤ R.frames) (hlo : (st.map fun v => v.category).sum + (nativeFrameWords "java/lang/System" "arraycopy" 5 + 11) ≤ R.locals) (kk : RA l b R y cc nL ret Q cells slots (pc + 3) ls st S (zL M a (va_cpy (M.2.1 a0) (M.2.1 a) sp.toNatClampNeg dp.toNatClampNeg n.toNatClampNeg))) : RA l b R y cc nL ret Q cells slots pc ls (.int n :: .int dp :: .ref a :: .int sp :: .ref a0 :: st) S M := by
  intro p e s m args below meth c D A ex ad0 ac0 ad ac H locs lsA Z C hH hS hg hb hl hZ
  have hK2 : va_K D vwCl [(ac a0, zty 1), (ac a, zty 1)] s := (zK1 hH hc0).app (zK1 hH hc1)
  refine va_copyl C.1 C.2.1 (C.2.2.1.trans hl.1.symm) C.2.2.2.1 (C.2.2.2.2.1 _ hw.1) (C.2.2.2.2.1 _ hw.2.1) (C.2.2.2.2.1 _ hw.2.2.1) (C.2.2.2.2.1 _ hw.2.2.2) hK2 hH.2.2.1 hH.2.2.2 hS a0 a 0 1 (ty := .long) (zW_get hc0) (zW_get hc1) rfl rfl rfl h1 h2 h3 h4 h5 (fun i _ => rfl) hfr (by rw [zsum]; exact hlo) hd (fun H1 locs1 hP hD hS1 => ?_)
  have he9 : (ad a, (.inl (ac a, n1, .inr (.inl (va_cpy (M.2.1 a0) (M.2.1 a) sp.toNatClampNeg dp.toNatClampNeg n.toNatClampNeg))) : va_E)) = zcell ad ac (zL M a (va_cpy (M.2.1 a0) (M.2.1 a) sp.toNatClampNeg dp.toNatClampNeg n.toNatClampNeg)) a (.inl (1, n1)) := by
    simp only [zcell, zL_at]
  rw [he9] at hP hD
  exact kk p e s m args below meth c D A ex ad0 ac0 ad ac H1 locs1 lsA Z C (hH.put0 hc1 (fun j h => zL_ne j h) hP hD) hS1 hg hb hl hZ
theorem r_gets {index : Nat} (hy : y.cls = RX4) (hw : Cond.fieldLink RX4 index RX4 "SHOWN_ON" "[I" ∈ zT) (hd : decode cc pc = .ok (.getstatic index, 3)) (kk : RA l b R y cc nL ret Q cells slots (pc + 3) ls (.float 0 :: st) S M) : RA l b R y cc nL ret Q cells slots pc ls st S M := by
  intro p e s m args below meth c D A ex ad0 ac0 ad ac H locs lsA Z C hH hS hg hb hl hZ
  have hown := C.2.2.2.1
  rw [hy] at hown
  exact va_gets C.1 C.2.1 C.2.2.2.2.2.2.2.2.2.1.1 hS hown (C.2.2.2.2.1 _ hw) (fun _ h => h) hd (kk p e s m args below meth c D A ex ad0 ac0 ad ac H locs lsA Z C hH hS hg hb hl hZ)
theorem r_tald {i : Int32} (hd : decode cc pc = .ok (.iaload, 1)) (hin : vp_in i 6) (kk : RA l b R y cc nL ret Q cells slots (pc + 1) ls (.int (zshown i.toNatClampNeg) :: st) S M) : RA l b R y cc nL ret Q cells slots pc ls (.int i :: .float 0 :: st) S M := by
  intro p e s m args below meth c D A ex ad0 ac0 ad ac H locs lsA Z C hH hS hg hb hl hZ
  exact va_ti C.1 C.2.1 C.2.2.2.2.2.2.2.2.2.1.2.1 hS hin rfl hd (kk p e s m args below meth c D A ex ad0 ac0 ad ac H locs lsA Z C hH hS hg hb hl hZ)
theorem r_tlen (hd : decode cc pc = .ok (.arraylength, 1)) (kk : RA l b R y cc nL ret Q cells slots (pc + 1) ls (.int 6 :: st) S M) : RA l b R y cc nL ret Q cells slots pc ls (.float 0 :: st) S M := by
  intro p e s m args below meth c D A ex ad0 ac0 ad ac H locs lsA Z C hH hS hg hb hl hZ
  exact va_tlen C.1 C.2.1 C.2.2.2.2.2.2.2.2.2.1.2.1 hS (v := 6) rfl hd (kk p e s m args below meth c D A ex ad0 ac0 ad ac H locs lsA Z C hH hS hg hb hl hZ)
theorem r_max {index : Nat} {x z : Int32} (hw : Cond.methodLink y.cls index Lib.Math.max.name ∈ zT ∧ Cond.static Lib.Math.max.name ∈ zT ∧ Cond.initialized "java/lang/Math" ∈ zT ∧ Cond.code Lib.Math.max.name Lib.Math.max.code 2 (some .int) ∈ zT) (hd : decode cc pc = .ok (.invokestatic index, 3)) (hfr : 1 ≤ R.frames) (hlo : (st.map fun v => v.category).sum + 13 ≤ R.locals) (hc : cells ≤ R.cells) (hs : slots ≤ R.slots) (kk : RA l b R y cc nL ret Q cells slots (pc + 3) ls (.int (if x < z then z else x) :: st) S M) : RA l b R y cc nL ret Q cells slots pc ls (.int z :: .int x :: st) S M := by
  intro p e s m args below meth c D A ex ad0 ac0 ad ac H locs lsA Z C hH hS hg hb hl hZ
  exact va_mmax C.1 C.2.1 (C.2.2.1.trans hl.1.symm) C.2.2.2.1 (C.2.2.2.2.1 _ hw.1) (C.2.2.2.2.1 _ hw.2.1) (C.2.2.2.2.1 _ hw.2.2.1) (C.2.2.2.2.1 _ hw.2.2.2) hfr (by rw [zsum]; exact hlo) hc hs hd (kk p e s m args below meth c D A ex ad0 ac0 ad ac H locs lsA Z C hH hS hg hb hl hZ)
theorem r_abs {index : Nat} {x : Int32} (hw : Cond.methodLink y.cls index Lib.Math.abs.name ∈ zT ∧ Cond.static Lib.Math.abs.name ∈ zT ∧ Cond.initialized "java/lang/Math" ∈ zT ∧ Cond.code Lib.Math.abs.name Lib.Math.abs.code 1 (some .int) ∈ zT) (hd : decode cc pc = .ok (.invokestatic index, 3)) (hfr : 1 ≤ R.frames) (hlo : (st.map fun v => v.category).sum + 13 ≤ R.locals) (hc : cells ≤ R.cells) (hs : slots ≤ R.slots) (kk : RA l b R y cc nL ret Q cells slots (pc + 3) ls (.int (if 0 ≤ x then x else 0 - x) :: st) S M) : RA l b R y cc nL ret Q cells slots pc ls (.int x :: st) S M := by
  intro p e s m args below meth c D A ex ad0 ac0 ad ac H locs lsA Z C hH hS hg hb hl hZ
  exact va_mabs C.1 C.2.1 (C.2.2.1.trans hl.1.symm) C.2.2.2.1 (C.2.2.2.2.1 _ hw.1) (C.2.2.2.2.1 _ hw.2.1) (C.2.2.2.2.1 _ hw.2.2.1) (C.2.2.2.2.1 _ hw.2.2.2) hfr (by rw [zsum]; exact hlo) hc hs hd (kk p e s m args below meth c D A ex ad0 ac0 ad ac H locs lsA Z C hH hS hg hb hl hZ)
end RAH
