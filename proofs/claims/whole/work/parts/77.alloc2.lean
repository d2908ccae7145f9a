/-! cells that are made (2) -/
def zFF (own : String) (index ci k : Nat) (ty : FieldType) : Prop := ∃ (C : String) (T : u_T) (N : Nat) (ty0 : Nat → FieldType), vwCl[ci]? = some (C, T, N) ∧ (∀ w ∈ u_ws C T N, w ∈ zT) ∧ (∀ k, k < N → parseFieldDescriptor (T k).2.2.1 = some (ty0 k)) ∧ (∀ a, a < N → ∀ b, b < N → a ≠ b → (T a).2.1 ≠ (T b).2.1) ∧ k < N ∧ Cond.fieldLink own index (T k).1 (T k).2.1 (T k).2.2.1 ∈ zT ∧ (T k).2.2.2 = true ∧ ty0 k = ty ∧ (T k).1 = own
def zNO (own : String) (index ci N : Nat) (fl : List (Option (Option Nat))) : Prop := ∃ (C : String) (T : u_T) (ty : Nat → FieldType), vwCl[ci]? = some (C, T, N) ∧ (∀ w ∈ u_ws C T N, w ∈ zT) ∧ (∀ k, k < N → parseFieldDescriptor (T k).2.2.1 = some (ty k)) ∧ Cond.classLink own index C ∈ zT ∧ Cond.instantiable C N ∈ zT ∧ Cond.initialized C ∈ zT ∧ (∀ v ∈ fl, v = none ∨ v = some none) ∧ (∀ j, j < N → (fl[j]? = some none ∧ defaultValue (ty j) = .int 0) ∨ (fl[j]? = some (some none) ∧ defaultValue (ty j) = .null))
theorem ff_X3_21 : zFF RX3 21 3 9 (.array .int) := ⟨RX3, TX3, 17, tyX3, rfl, inzX3, tyX3_ok, nmX3, by decide, zT_in (i := 97) (by decide +kernel) rfl, rfl, rfl, rfl⟩
theorem ff_X3_25 : zFF RX3 25 3 10 (.array .int) := ⟨RX3, TX3, 17, tyX3, rfl, inzX3, tyX3_ok, nmX3, by decide, zT_in (i := 100) (by decide +kernel) rfl, rfl, rfl, rfl⟩
theorem ff_X3_28 : zFF RX3 28 3 11 (.array .int) := ⟨RX3, TX3, 17, tyX3, rfl, inzX3, tyX3_ok, nmX3, by decide, zT_in (i := 102) (by decide +kernel) rfl, rfl, rfl, rfl⟩
theorem ff_X3_31 : zFF RX3 31 3 12 (.array .int) := ⟨RX3, TX3, 17, tyX3, rfl, inzX3, tyX3_ok, nmX3, by decide, zT_in (i := 104) (by decide +kernel) rfl, rfl, rfl, rfl⟩
theorem ff_X3_34 : zFF RX3 34 3 13 (.array .int) := ⟨RX3, TX3, 17, tyX3, rfl, inzX3, tyX3_ok, nmX3, by decide, zT_in (i := 107) (by decide +kernel) rfl, rfl, rfl, rfl⟩
theorem ff_X3_37 : zFF RX3 37 3 14 (.array .int) := ⟨RX3, TX3, 17, tyX3, rfl, inzX3, tyX3_ok, nmX3, by decide, zT_in (i := 110) (by decide +kernel) rfl, rfl, rfl, rfl⟩
theorem ff_X3_40 : zFF RX3 40 3 15 (.array .int) := ⟨RX3, TX3, 17, tyX3, rfl, inzX3, tyX3_ok, nmX3, by decide, zT_in (i := 112) (by decide +kernel) rfl, rfl, rfl, rfl⟩
theorem ff_X3_43 : zFF RX3 43 3 16 (.array .int) := ⟨RX3, TX3, 17, tyX3, rfl, inzX3, tyX3_ok, nmX3, by decide, zT_in (i := 114) (by decide +kernel) rfl, rfl, rfl, rfl⟩
theorem ff_X1_9 : zFF RX1 9 1 0 (.array .int) := ⟨RX1, TX1, 10, tyX1, rfl, inzX1, tyX1_ok, nmX1, by decide, zT_in (i := 157) (by decide +kernel) rfl, rfl, rfl, rfl⟩
theorem ff_X1_15 : zFF RX1 15 1 7 (.array .int) := ⟨RX1, TX1, 10, tyX1, rfl, inzX1, tyX1_ok, nmX1, by decide, zT_in (i := 168) (by decide +kernel) rfl, rfl, rfl, rfl⟩
theorem ff_X1_18 : zFF RX1 18 1 8 (.array .int) := ⟨RX1, TX1, 10, tyX1, rfl, inzX1, tyX1_ok, nmX1, by decide, zT_in (i := 170) (by decide +kernel) rfl, rfl, rfl, rfl⟩
theorem ff_X1_21 : zFF RX1 21 1 9 (.array .int) := ⟨RX1, TX1, 10, tyX1, rfl, inzX1, tyX1_ok, nmX1, by decide, zT_in (i := 172) (by decide +kernel) rfl, rfl, rfl, rfl⟩
theorem ff_X0_37 : zFF RX0 37 0 0 (.object "TailorTape$Shop") := ⟨RX0, TX0, 11, tyX0, rfl, inzX0, tyX0_ok, nmX0, by decide, zT_in (i := 201) (by decide +kernel) rfl, rfl, rfl, rfl⟩
theorem ff_X0_9 : zFF RX0 9 0 1 (.array .int) := ⟨RX0, TX0, 11, tyX0, rfl, inzX0, tyX0_ok, nmX0, by decide, zT_in (i := 202) (by decide +kernel) rfl, rfl, rfl, rfl⟩
theorem ff_X0_15 : zFF RX0 15 0 2 (.array .int) := ⟨RX0, TX0, 11, tyX0, rfl, inzX0, tyX0_ok, nmX0, by decide, zT_in (i := 203) (by decide +kernel) rfl, rfl, rfl, rfl⟩
theorem ff_X0_18 : zFF RX0 18 0 3 (.array .int) := ⟨RX0, TX0, 11, tyX0, rfl, inzX0, tyX0_ok, nmX0, by decide, zT_in (i := 204) (by decide +kernel) rfl, rfl, rfl, rfl⟩
theorem ff_X0_21 : zFF RX0 21 0 4 (.array .int) := ⟨RX0, TX0, 11, tyX0, rfl, inzX0, tyX0_ok, nmX0, by decide, zT_in (i := 205) (by decide +kernel) rfl, rfl, rfl, rfl⟩
theorem ff_X0_24 : zFF RX0 24 0 5 (.array .int) := ⟨RX0, TX0, 11, tyX0, rfl, inzX0, tyX0_ok, nmX0, by decide, zT_in (i := 206) (by decide +kernel) rfl, rfl, rfl, rfl⟩
theorem ff_X0_27 : zFF RX0 27 0 6 (.array .int) := ⟨RX0, TX0, 11, tyX0, rfl, inzX0, tyX0_ok, nmX0, by decide, zT_in (i := 207) (by decide +kernel) rfl, rfl, rfl, rfl⟩
theorem ff_X0_30 : zFF RX0 30 0 7 (.array .int) := ⟨RX0, TX0, 11, tyX0, rfl, inzX0, tyX0_ok, nmX0, by decide, zT_in (i := 208) (by decide +kernel) rfl, rfl, rfl, rfl⟩
theorem ff_X0_33 : zFF RX0 33 0 8 (.array .long) := ⟨RX0, TX0, 11, tyX0, rfl, inzX0, tyX0_ok, nmX0, by decide, zT_in (i := 209) (by decide +kernel) rfl, rfl, rfl, rfl⟩
theorem ff_X4_10 : zFF RX4 10 4 0 (.object "TailorTape$Shop") := ⟨RX4, TX4, 6, tyX4, rfl, inzX4, tyX4_ok, nmX4, by decide, zT_in (i := 240) (by decide +kernel) rfl, rfl, rfl, rfl⟩
theorem ff_X4_16 : zFF RX4 16 4 1 (.object "TailorTape$Shop") := ⟨RX4, TX4, 6, tyX4, rfl, inzX4, tyX4_ok, nmX4, by decide, zT_in (i := 241) (by decide +kernel) rfl, rfl, rfl, rfl⟩
theorem ff_X4_22 : zFF RX4 22 4 3 (.object "TailorTape$Reader") := ⟨RX4, TX4, 6, tyX4, rfl, inzX4, tyX4_ok, nmX4, by decide, zT_in (i := 243) (by decide +kernel) rfl, rfl, rfl, rfl⟩
theorem ff_X4_31 : zFF RX4 31 4 4 (.object "TailorTape$Foresight") := ⟨RX4, TX4, 6, tyX4, rfl, inzX4, tyX4_ok, nmX4, by decide, zT_in (i := 244) (by decide +kernel) rfl, rfl, rfl, rfl⟩
theorem ff_X4_37 : zFF RX4 37 4 5 (.array (.object "TailorTape$Row")) := ⟨RX4, TX4, 6, tyX4, rfl, inzX4, tyX4_ok, nmX4, by decide, zT_in (i := 245) (by decide +kernel) rfl, rfl, rfl, rfl⟩
theorem ff_X2_9 : zFF RX2 9 2 0 .int := ⟨RX2, TX2, 2, tyX2, rfl, inzX2, tyX2_ok, nmX2, by decide, zT_in (i := 766) (by decide +kernel) rfl, rfl, rfl, rfl⟩
theorem ff_X2_15 : zFF RX2 15 2 1 (.array .long) := ⟨RX2, TX2, 2, tyX2, rfl, inzX2, tyX2_ok, nmX2, by decide, zT_in (i := 768) (by decide +kernel) rfl, rfl, rfl, rfl⟩
theorem ff_X5_7 : zFF RX5 7 5 0 (.array .int) := ⟨RX5, TX5, 16, tyX5, rfl, inzX5, tyX5_ok, nmX5, by decide, zT_in (i := 796) (by decide +kernel) rfl, rfl, rfl, rfl⟩
theorem ff_X5_13 : zFF RX5 13 5 1 (.array .int) := ⟨RX5, TX5, 16, tyX5, rfl, inzX5, tyX5_ok, nmX5, by decide, zT_in (i := 797) (by decide +kernel) rfl, rfl, rfl, rfl⟩
theorem ff_X5_16 : zFF RX5 16 5 5 (.array .int) := ⟨RX5, TX5, 16, tyX5, rfl, inzX5, tyX5_ok, nmX5, by decide, zT_in (i := 801) (by decide +kernel) rfl, rfl, rfl, rfl⟩
theorem ff_X5_19 : zFF RX5 19 5 6 (.array .int) := ⟨RX5, TX5, 16, tyX5, rfl, inzX5, tyX5_ok, nmX5, by decide, zT_in (i := 802) (by decide +kernel) rfl, rfl, rfl, rfl⟩
theorem ff_X5_22 : zFF RX5 22 5 8 (.array .int) := ⟨RX5, TX5, 16, tyX5, rfl, inzX5, tyX5_ok, nmX5, by decide, zT_in (i := 804) (by decide +kernel) rfl, rfl, rfl, rfl⟩
theorem ff_X5_25 : zFF RX5 25 5 9 (.array .int) := ⟨RX5, TX5, 16, tyX5, rfl, inzX5, tyX5_ok, nmX5, by decide, zT_in (i := 805) (by decide +kernel) rfl, rfl, rfl, rfl⟩
theorem ff_X5_28 : zFF RX5 28 5 12 (.array .int) := ⟨RX5, TX5, 16, tyX5, rfl, inzX5, tyX5_ok, nmX5, by decide, zT_in (i := 808) (by decide +kernel) rfl, rfl, rfl, rfl⟩
theorem ff_X5_31 : zFF RX5 31 5 13 (.array .int) := ⟨RX5, TX5, 16, tyX5, rfl, inzX5, tyX5_ok, nmX5, by decide, zT_in (i := 809) (by decide +kernel) rfl, rfl, rfl, rfl⟩
theorem ff_X5_34 : zFF RX5 34 5 14 (.array .long) := ⟨RX5, TX5, 16, tyX5, rfl, inzX5, tyX5_ok, nmX5, by decide, zT_in (i := 810) (by decide +kernel) rfl, rfl, rfl, rfl⟩
theorem ff_X5_38 : zFF RX5 38 5 15 (.array .long) := ⟨RX5, TX5, 16, tyX5, rfl, inzX5, tyX5_ok, nmX5, by decide, zT_in (i := 811) (by decide +kernel) rfl, rfl, rfl, rfl⟩
theorem no_L_7 : zNO RL 7 4 6 [some none, some none, none, some none, some none, some none] := ⟨RX4, TX4, tyX4, rfl, inzX4, tyX4_ok, cl_L_7, in_X4, it_X4, by decide, by decide⟩
theorem no_X4_7 : zNO RX4 7 3 17 [none, none, none, none, none, none, none, none, none, some none, some none, some none, some none, some none, some none, some none, some none] := ⟨RX3, TX3, tyX3, rfl, inzX3, tyX3_ok, cl_X4_7, in_X3, it_X3, by decide, by decide⟩
theorem no_X4_19 : zNO RX4 19 1 10 [some none, none, none, none, none, none, none, some none, some none, some none] := ⟨RX1, TX1, tyX1, rfl, inzX1, tyX1_ok, cl_X4_19, in_X1, it_X1, by decide, by decide⟩
theorem no_X4_26 : zNO RX4 26 0 11 [some none, some none, some none, some none, some none, some none, some none, some none, some none, none, none] := ⟨RX0, TX0, tyX0, rfl, inzX0, tyX0_ok, cl_X4_26, in_X0, it_X0, by decide, by decide⟩
theorem no_X4_35 : zNO RX4 35 2 2 [none, some none] := ⟨RX2, TX2, tyX2, rfl, inzX2, tyX2_ok, cl_X4_35, in_X2, it_X2, by decide, by decide⟩
theorem no_L_10 : zNO RL 10 5 16 [some none, some none, none, none, none, some none, some none, none, some none, some none, none, none, some none, some none, some none, some none] := ⟨RX5, TX5, tyX5, rfl, inzX5, tyX5_ok, cl_L_10, in_X5, it_X5, by decide, by decide⟩
def zmwf (S : List zC) : Bool := S.all (fun c => match c with
  | .inl _ => true
  | .inr (_, fl) => fl.all (fun f => match f with
    | some (some j) => decide (j < S.length)
    | _ => true))
theorem zwf_of {S : List zC} {M : zM} (h : zmwf S = true) (hM : ∀ i x, M.2.2 i x = none) : zwf S M := by
  refine ⟨fun i ci fl hi k j hk => ?_, fun i k n _ x j hj => ?_⟩
  · have h1 := List.all_eq_true.mp h _ (List.mem_of_getElem? hi)
    have h2 := List.all_eq_true.mp h1 _ (List.mem_of_getElem? hk)
    exact of_decide_eq_true h2
  · rw [hM] at hj; cases hj
section ALLB
variable {l : Launch} {b0 : Nat} {R : Room} {y : MethodName} {cc : ByteArray} {nL : Nat} {ret : Option FieldType} {Q : Option Value → List zC → zM → Prop} {cells slots pc : Nat} {ls : List (Option Value)} {st : List Value} {S : List zC} {M : zM}
/-- newarray of longs -/
theorem r_newl {N : Nat} (hak : Cond.arrayClass .long ∈ zT) (hN : N < 2 ^ 26) (hwf : zwf S M) (hls : ∀ v, some v ∈ ls → vwf S.length v) (hst : ∀ v ∈ st, vwf S.length v) (hc : cells + 1 ≤ R.cells) (hs : slots + N ≤ R.slots) (hd : decode cc pc = .ok (.newarray .long, 2)) (kk : RA l (some b0) R y cc nL ret Q (cells + 1) (slots + N) (pc + 2) ls (.ref S.length :: st) (S ++ [.inl (1, N)]) (zL M S.length (fun _ => 0))) : RA l (some b0) R y cc nL ret Q cells slots pc ls (.int (nI N) :: st) S M := by
  intro p e s m args below meth c D A ex ad0 ac0 ad ac H locs lsA Z C hH hS hg hb hl hZ
  refine va_newa (atype := .long) (ty := .long) (a0 := (N, .inr (.inl (fun _ => 0)))) (N' := N) C.1 C.2.1 (C.2.2.2.2.1 _ hak) rfl hH.1 hH.2.2.1 hH.2.2.2 hS C.2.2.2.2.2.2.2.2.1 (fun cA => rfl) (nI_pos (by omega)) (nI_clamp (by omega)) (by show N * 8 ≤ 536870912; omega) hc hs hd (fun q cA H1 hK hP hD hS1 => ?_)
  have hq : nad ad S.length q S.length = q := if_pos rfl
  have hcq : nac ac S.length cA S.length = cA := if_pos rfl
  have he : ((q, (.inl (cA, N, .inr (.inl (fun _ => 0))) : va_E))) = zcell (nad ad S.length q) (nac ac S.length cA) (zL M S.length (fun _ => 0)) S.length (.inl (1, N)) := by
    simp only [zcell, hq, hcq, zL_at]
  rw [he] at hP hD
  have hH1 := zH_push hH hwf (M' := zL M S.length (fun _ => 0)) (fun i hi => zL_ne i (by omega)) (fun k n ek => by
    cases ek
    exact hK.2 0 (cA, .long) rfl) hP hD
  have hk := kk p e s m args below meth c D A ex ad0 ac0 (nad ad S.length q) (nac ac S.length cA) H1 locs lsA Z C hH1 hS1 (zag_nad hg (hb b0 rfl)) (fun q' hq' => by
    have := hb q' hq'
    rw [List.length_append]
    omega) (zlv_nad hl hls) hZ
  rw [List.map_cons, zst_nad hst] at hk
  have e0 : zv (nad ad S.length q) ex (.ref S.length) = .ref q := congrArg Value.ref hq
  rw [e0] at hk
  exact hk
/-- anewarray of rows -/
theorem r_newq {N index : Nat} (hcl : Cond.classLink y.cls index RX2 ∈ zT) (hN : N < 2 ^ 26) (hwf : zwf S M) (hls : ∀ v, some v ∈ ls → vwf S.length v) (hst : ∀ v ∈ st, vwf S.length v) (hc : cells + 1 ≤ R.cells) (hs : slots + N ≤ R.slots) (hd : decode cc pc = .ok (.anewarray index, 3)) (kk : RA l (some b0) R y cc nL ret Q (cells + 1) (slots + N) (pc + 3) ls (.ref S.length :: st) (S ++ [.inl (2, N)]) (zO M S.length (fun _ => none))) : RA l (some b0) R y cc nL ret Q cells slots pc ls (.int (nI N) :: st) S M := by
  intro p e s m args below meth c D A ex ad0 ac0 ad ac H locs lsA Z C hH hS hg hb hl hZ
  refine va_newq (C := RX2) (N' := N) C.1 C.2.1 C.2.2.2.1 (C.2.2.2.2.1 _ hcl) C.2.2.2.2.2.2.2.2.2.2.2.2.2.2.2.2 hH.1 hH.2.2.1 hH.2.2.2 hS C.2.2.2.2.2.2.2.2.1 (nI_pos (by omega)) (nI_clamp (by omega)) (by omega) hc hs hd (fun q cA H1 hK hP hD hS1 => ?_)
  have hq : nad ad S.length q S.length = q := if_pos rfl
  have hcq : nac ac S.length cA S.length = cA := if_pos rfl
  have he : ((q, (.inl (cA, N, .inr (.inr (.inr (.inr (fun _ => none))))) : va_E))) = zcell (nad ad S.length q) (nac ac S.length cA) (zO M S.length (fun _ => none)) S.length (.inl (2, N)) := by
    simp only [zcell, hq, hcq, zO_at, Option.map_none]
  rw [he] at hP hD
  have hH1 := zH_push hH hwf (M' := zO M S.length (fun _ => none)) (fun i hi => zO_ne i (by omega)) (fun k n ek => by
    cases ek
    exact hK.2 0 (cA, .object RX2) rfl) hP hD
  have hk := kk p e s m args below meth c D A ex ad0 ac0 (nad ad S.length q) (nac ac S.length cA) H1 locs lsA Z C hH1 hS1 (zag_nad hg (hb b0 rfl)) (fun q' hq' => by
    have := hb q' hq'
    rw [List.length_append]
    omega) (zlv_nad hl hls) hZ
  rw [List.map_cons, zst_nad hst] at hk
  have e0 : zv (nad ad S.length q) ex (.ref S.length) = .ref q := congrArg Value.ref hq
  rw [e0] at hk
  exact hk
theorem zfld_nil {ad ad' : Nat → Nat} {f : Nat → Int32} {fl : List (Option (Option Nat))} (h : ∀ v ∈ fl, v = none ∨ v = some none) : fl.mapIdx (zfld ad f) = fl.mapIdx (zfld ad' f) := by
  apply List.ext_getElem?
  intro k
  rw [List.getElem?_mapIdx, List.getElem?_mapIdx]
  cases e : fl[k]? with
  | none => rfl
  | some v =>
    rcases h v (List.mem_of_getElem? e) with rfl | rfl <;> rfl
/-- a new object -/
theorem r_newo {index ci N : Nat} {fl : List (Option (Option Nat))} (hno : zNO y.cls index ci N fl) (hwf : zwf S M) (hls : ∀ v, some v ∈ ls → vwf S.length v) (hst : ∀ v ∈ st, vwf S.length v) (hc : cells + 1 ≤ R.cells) (hs : slots + N ≤ R.slots) (hd : decode cc pc = .ok (.new index, 3)) (kk : RA l (some b0) R y cc nL ret Q (cells + 1) (slots + N) (pc + 3) ls (.ref S.length :: st) (S ++ [.inr (ci, fl)]) (zI M S.length (fun _ => 0))) : RA l (some b0) R y cc nL ret Q cells slots pc ls st S M := by
  intro p e s m args below meth c D A ex ad0 ac0 ad ac H locs lsA Z C hH hS hg hb hl hZ
  obtain ⟨CC, T, ty, h1, h2, h3, h4, h5, h6, h7, h8⟩ := hno
  refine va_new (C := CC) (T := T) (N := N) (fs := fl.mapIdx (zfld ad (fun _ => 0))) C.1 C.2.1 C.2.2.2.2.1 h2 ty h3 C.2.2.2.1 (C.2.2.2.2.1 _ h4) (C.2.2.2.2.1 _ h5) (C.2.2.2.2.1 _ h6) hH.1 hH.2.2.1 hH.2.2.2 hS C.2.2.2.2.2.2.2.2.1 h1 (fun j hj => ?_) hc hs hd (fun q H1 hP hD hS1 => ?_)
  · unfold vp_V
    rw [List.getD_eq_getElem?_getD, List.getElem?_mapIdx]
    rcases h8 j hj with ⟨e1, e2⟩ | ⟨e1, e2⟩
    · rw [e1, e2]; rfl
    · rw [e1, e2]; rfl
  have hq : nad ad S.length q S.length = q := if_pos rfl
  have he : ((q, (.inr (ci, fl.mapIdx (zfld ad (fun _ => 0))) : va_E))) = zcell (nad ad S.length q) (nac ac S.length (ac 0)) (zI M S.length (fun _ => 0)) S.length (.inr (ci, fl)) := by
    simp only [zcell, hq, zI_at]
    rw [zfld_nil h7]
  rw [he] at hP hD
  have hH1 := zH_push hH hwf (M' := zI M S.length (fun _ => 0)) (fun i hi => zI_ne i (by omega)) (fun k n ek => by cases ek) hP hD
  have hk := kk p e s m args below meth c D A ex ad0 ac0 (nad ad S.length q) (nac ac S.length (ac 0)) H1 locs lsA Z C hH1 hS1 (zag_nad hg (hb b0 rfl)) (fun q' hq' => by
    have := hb q' hq'
    rw [List.length_append]
    omega) (zlv_nad hl hls) hZ
  rw [List.map_cons, zst_nad hst] at hk
  have e0 : zv (nad ad S.length q) ex (.ref S.length) = .ref q := congrArg Value.ref hq
  rw [e0] at hk
  exact hk
end ALLB
section ALLC
variable {l : Launch} {b : Option Nat} {R : Room} {y : MethodName} {cc : ByteArray} {nL : Nat} {ret : Option FieldType} {Q : Option Value → List zC → zM → Prop} {cells slots pc : Nat} {ls : List (Option Value)} {st : List Value} {S : List zC} {M : zM}
theorem r_objInit {index o : Nat} (hw : Cond.methodLink y.cls index Lib.objectInit ∈ zT ∧ Cond.instanceMethod Lib.objectInit ∈ zT ∧ Cond.code Lib.objectInit ⟨#[0xb1]⟩ 1 none ∈ zT) (hd : decode cc pc = .ok (.invokespecial index, 3)) (hfr : 1 ≤ R.frames) (hlo : (st.map fun v => v.category).sum + 12 ≤ R.locals) (kk : RA l b R y cc nL ret Q cells slots (pc + 3) ls st S M) : RA l b R y cc nL ret Q cells slots pc ls (.ref o :: st) S M := by
  intro p e s m args below meth c D A ex ad0 ac0 ad ac H locs lsA Z C hH hS hg hb hl hZ
  refine W.objInit (g := F0 m pc lsA ((Value.ref o :: st).map (zv ad ex))) (rest := st.map (zv ad ex)) (a := ad o) C.1 C.2.1 C.2.2.2.1 (C.2.2.2.2.1 _ hw.1) (C.2.2.2.2.1 _ hw.2.1) (C.2.2.2.2.1 _ hw.2.2) rfl (hl.1.trans C.2.2.1.symm) rfl hd hfr ?_ (kk p e s m args below meth c D A ex ad0 ac0 ad ac H locs lsA Z C hH hS hg hb hl hZ)
  rw [zsum]
  show 2 * 0 + _ + 12 ≤ _
  omega
theorem r_putR {index ci k o j : Nat} {fl : List (Option (Option Nat))} {ty : FieldType} (hf : zFF y.cls index ci k ty) (hy : y.name = "<init>") (hd : decode cc pc = .ok (.putfield index, 3)) (hn : ∀ a, narrow ty (.ref a) = .ref a) (hfit : ∀ a, fits ty (.ref a) = true) (hc : S[o]? = some (.inr (ci, fl))) (hk : k < fl.length) (kk : RA l b R y cc nL ret Q cells slots (pc + 3) ls st (S.set o (.inr (ci, fl.set k (some (some j))))) M) : RA l b R y cc nL ret Q cells slots pc ls (.ref j :: .ref o :: st) S M := by
  intro p e s m args below meth c D A ex ad0 ac0 ad ac H locs lsA Z C hH hS hg hb hl hZ
  obtain ⟨CC, T, N, ty0, h1, h2, h3, h4, h5, h6, h7, h8, h9⟩ := hf
  refine va_putF (v := .ref (ad j)) C.1 C.2.1 C.2.2.2.2.1 h2 ty0 h3 h4 C.2.2.2.1 hH.1 hH.2.2.1 hH.2.2.2 hS o (zW_get hc) h1 k h5 (C.2.2.2.2.1 _ h6) (fun _ h => h) h7 (C.2.2.2.2.2.2.2.1.trans hy) h9 ((h3 k h5).trans (congrArg some h8)) (hn _) (hfit _) (by rw [List.length_mapIdx]; exact hk) hd (fun H1 locs1 hP hD hS1 => ?_)
  have he9 : (ad o, (.inr (ci, (fl.mapIdx (zfld ad (M.1 o))).set k (.ref (ad j))) : va_E)) = zcell ad ac M o (.inr (ci, fl.set k (some (some j)))) := by
    have := zfl_putR (ad := ad) (f := M.1 o) (fl := fl) (k := k) (q := some j) hk
    simp only [zcell, ← this]
    rfl
  rw [he9] at hP hD
  exact kk p e s m args below meth c D A ex ad0 ac0 ad ac H1 locs1 lsA Z C (hH.put hc (fun k n ek => by cases ek) (fun j h => ⟨rfl, rfl, rfl⟩) hP hD) hS1 hg (fun q hq => by rw [List.length_set]; exact hb q hq) hl hZ
theorem r_putIF {index ci k o : Nat} {x : Int32} {fl : List (Option (Option Nat))} {ty : FieldType} (hf : zFF y.cls index ci k ty) (hy : y.name = "<init>") (hd : decode cc pc = .ok (.putfield index, 3)) (hn : narrow ty (.int x) = .int x) (hfit : fits ty (.int x) = true) (hc : S[o]? = some (.inr (ci, fl))) (hk : fl[k]? = some none) (kk : RA l b R y cc nL ret Q cells slots (pc + 3) ls st S (zI M o (upd (M.1 o) k x))) : RA l b R y cc nL ret Q cells slots pc ls (.int x :: .ref o :: st) S M := by
  intro p e s m args below meth c D A ex ad0 ac0 ad ac H locs lsA Z C hH hS hg hb hl hZ
  obtain ⟨CC, T, N, ty0, h1, h2, h3, h4, h5, h6, h7, h8, h9⟩ := hf
  refine va_putF (v := .int x) C.1 C.2.1 C.2.2.2.2.1 h2 ty0 h3 h4 C.2.2.2.1 hH.1 hH.2.2.1 hH.2.2.2 hS o (zW_get hc) h1 k h5 (C.2.2.2.2.1 _ h6) (fun _ h => h) h7 (C.2.2.2.2.2.2.2.1.trans hy) h9 ((h3 k h5).trans (congrArg some h8)) hn hfit (by rw [List.length_mapIdx]; exact (List.getElem?_eq_some_iff.mp hk).1) hd (fun H1 locs1 hP hD hS1 => ?_)
  have he9 : (ad o, (.inr (ci, (fl.mapIdx (zfld ad (M.1 o))).set k (.int x)) : va_E)) = zcell ad ac (zI M o (upd (M.1 o) k x)) o (.inr (ci, fl)) := by
    simp only [zcell, zI_at, zfl_put hk]
  rw [he9] at hP hD
  exact kk p e s m args below meth c D A ex ad0 ac0 ad ac H1 locs1 lsA Z C (hH.put0 hc (fun j h => zI_ne j h) hP hD) hS1 hg hb hl hZ
end ALLC
theorem zv_ag {n : Nat} {ad ad' : Nat → Nat} {ac ac' : Nat → ClassId} {ex : UInt32 → Nat} {v : Value} (h : zag (some n) ad ad' ac ac') (hv : vwf n v) : zv ad' ex v = zv ad ex v := by
  cases v with
  | ref i => exact congrArg Value.ref (h i hv).1
  | _ => rfl
set_option maxHeartbeats 4000000 in
/-- behind a call of a method that makes cells -/
theorem RA.backA {l : Launch} {b0 : Nat} {R : Room} {y : MethodName} {cc : ByteArray} {nL : Nat} {ret : Option FieldType} {Q : Option Value → List zC → zM → Prop} {cells slots pc : Nat} {ls : List (Option Value)} {st : List Value} {S : List zC} {M : zM} {mc ms : Nat} {Q' : Option Value → List zC → zM → Prop} {p : Program} {e : Env} {s : State} {m : MethodId} {args : Array Value} {below : List Frame} {meth : Method} {c : Code} {D : va_G} {A : Nat → Prop} {ex : UInt32 → Nat} {ad0 : Nat → Nat} {ac0 : Nat → ClassId} {ad : Nat → Nat} {ac : Nat → ClassId} {H : Heap} {locs : List Loc} {lsA : Array Slot} {Z : State → Prop} {st0 : List Value} {aa : Array Value}
    (hr : va_Run p l e R s m args below meth c H locs cells slots mc ms (F0 m pc lsA st0) (st.map (zv ad ex)) (zQc D ad ac S M H.size true Q' aa) (va_A (zW ad ac S M) H.size))
    (C : zCtx y cc nL ret p s m args meth c A ex) (hH : zH D A ad ac S M s H) (hS : va_S A s.heap H locs) (hg : zag (some b0) ad0 ad ac0 ac) (hb : b0 ≤ S.length) (hl : zlv ad ex lsA nL ls) (hls : ∀ v, some v ∈ ls → vwf S.length v) (hst9 : ∀ v ∈ st, vwf S.length v)
    (hZ : ∀ (v : Option Value) (S' : List zC) (M' : zM) (ad' : Nat → Nat) (ac' : Nat → ClassId) (H' : Heap) (locs' : List Loc) (k' n' pc' : Nat) (ls' : Array Slot), Q v S' M' → zH D A ad' ac' S' M' s H' → va_S A s.heap H' locs' → zag (some b0) ad0 ad' ac0 ac' → k' ≤ R.cells → n' ≤ R.slots → zretd cc ret pc' v → W p l e R s m args below meth c H' locs' k' n' Z (F0 m pc' ls' (zrst v)))
    (kk : ∀ v S' M', Q' v S' M' → RA l (some b0) R y cc nL ret Q (cells + mc) (slots + ms) (pc + 3) ls (zrst v ++ st) S' M' ∧ b0 ≤ S'.length) :
    W p l e R s m args below meth c H locs cells slots Z (F0 m pc lsA st0) := by
  intro T hT X
  obtain ⟨v, st₀, t, T', L, h0, X', hL, e1, e2, ⟨⟨v2, S', M', ad', ac', hv, hok, hq, hag, hH'⟩, hz, hk⟩, stp⟩ := hr T hT X
  cases hv
  rw [h0] at hz hk
  have hag : zag (some S.length) ad ad' ac ac' := hag
  have hAA : ∀ q, va_A (zW ad ac S M) H.size q → A q := by
    intro q hq
    rcases hq with ⟨k, e, hk⟩ | hq
    · exact hH.2.2.2.2 k (q, e) hk
    · exact C.2.2.2.2.2.2.2.2.1 q (Nat.le_trans hS.1 hq)
  have hvm : t.vm.Alike s.vm := by rw [← e2]; exact X'.warmed.alike.symm
  have hH2 : zH D A ad' ac' S' M' s T'.heap := ⟨va_K.moved hvm hH'.1, fun i k n hi => ⟨arrOfT_moved hvm (hH'.2.1 i k n hi).1, (hH'.2.1 i k n hi).2.moved hvm⟩, by rw [e1]; exact hH'.2.2.1, hH'.2.2.2.weaken (fun _ _ _ h => hAA _ h)⟩
  have hS2 : va_S A s.heap T'.heap (locs ++ L) := ⟨Nat.le_trans hS.1 (by rw [e1]; exact hz), fun q h1 h2 => by rw [e1, hk q (Nat.lt_of_lt_of_le h1 hS.1) (fun z => h2 (hAA q z))]; exact hS.2.1 q h1 h2, fun q hq => by
      rcases List.mem_append.mp hq with h | h
      · exact hS.2.2 q h
      · exact hAA _ (hL q h)⟩
  have hk2 := kk v S' M' hq
  have hst1 : st.map (zv ad' ex) = st.map (zv ad ex) := List.map_congr_left (fun v hv => zv_ag hag (hst9 v hv))
  have hl2 : zlv ad' ex lsA nL ls := ⟨hl.1, hl.2.1, fun i v hi => by rw [zv_ag hag (hls v (List.mem_of_getElem? hi))]; exact hl.2.2 i v hi⟩
  have hg2 : zag (some b0) ad0 ad' ac0 ac' := fun i hi => ⟨(hag i (by omega)).1.trans (hg i hi).1, (hag i (by omega)).2.trans (hg i hi).2⟩
  have hst : v.toList ++ st.map (zv ad ex) = (zrst v ++ st).map (zv ad' ex) := by
    rw [List.map_append, hst1]
    match v, hok with
    | none, _ => rfl
    | some (.int v), _ => rfl
    | some (.long v), _ => rfl
  obtain ⟨t2, a1, b1⟩ := hk2.1 p e s m args below meth c D A ex ad0 ac0 ad' ac' T'.heap (locs ++ L) lsA Z C hH2 hS2 hg2 (fun q hq => by cases hq; exact hk2.2) hl2 hZ T' rfl X'
  refine ⟨t2, stp t2 ?_, b1⟩
  show Steps p.tables e below (T'.setTop { method := m, pc := pc + 3, locals := lsA, stack := v.toList ++ st.map (zv ad ex), locked := none }) t2
  rw [hst]
  exact a1
section CALLA
variable {l : Launch} {b0 : Nat} {R : Room} {y : MethodName} {cc : ByteArray} {nL : Nat} {ret : Option FieldType} {Q : Option Value → List zC → zM → Prop} {cells slots pc : Nat} {ls : List (Option Value)} {st st0 : List Value} {S : List zC} {M : zM}
variable {d mc ms index n nL' : Nat} {y' : MethodName} {cc' : ByteArray} {ret' : Option FieldType} {as : List Value} {Q' : Option Value → List zC → zM → Prop}
set_option maxHeartbeats 4000000 in
/-- invokespecial of a constructor -/
theorem r_callI {o : Nat} (hm : zMI y' cc' nL' n) (hlk : Cond.methodLink y.cls index y' ∈ zT) (hC : CT l true d mc ms y' cc' nL' none (.ref o :: as) S M Q') (hd : decode cc pc = .ok (.invokespecial index, 3)) (hn : as.length = n) (hst : st0 = as.reverse ++ .ref o :: st) (hro : (st.map fun v => v.category).sum ≤ 8) (hR : d + 1 ≤ R.frames ∧ 8 + (nL' + 11) + 37 * d ≤ R.locals) (hcs : cells + mc ≤ R.cells ∧ slots + ms ≤ R.slots) (hls : ∀ v, some v ∈ ls → vwf S.length v) (hst9 : ∀ v ∈ st, vwf S.length v) (kk : ∀ v S' M', Q' v S' M' → RA l (some b0) R y cc nL ret Q (cells + mc) (slots + ms) (pc + 3) ls (zrst v ++ st) S' M' ∧ b0 ≤ S'.length) : RA l (some b0) R y cc nL ret Q cells slots pc ls st0 S M := by
  intro p e s m args below meth c D A ex ad0 ac0 ad ac H locs lsA Z C hH hS hg hb hl hZ
  subst hst
  have hrun := va_runI (g := F0 m pc lsA ((as.reverse ++ .ref o :: st).map (zv ad ex))) (rest := st.map (zv ad ex)) (As := as.map (zv ad ex)) (b := ad o) ⟨C.1, C.2.1, C.2.2.1, C.2.2.2.1, C.2.2.2.2.1⟩ (hC D ex ad ac H.size) (cwI n C.2.2.2.2.1 (zT_good (zcw hm.1)) rfl rfl rfl (C.2.2.2.2.1 _ hm.1.1) (C.2.2.2.2.1 _ hlk) (C.2.2.2.2.1 _ hm.2.1) hm.2.2 ⟨hm.1.2.2.1, hm.1.2.2.2.1, hm.1.2.2.2.2⟩ ⟨hR.1, hR.2⟩) ⟨zB.blind D ex ad ac S M H.size _, fun U hU hW => ⟨rfl, zB.at hH hS C.2.2.2.2.2.2.2.2.1 C.2.2.2.2.2.2.2.2.2.1 C.2.2.2.2.2.2.2.2.2.2 hU hW⟩⟩ (e := e) (p := p) (R := R) (below := below) (meth := meth) (locs := locs) (cells := cells) (slots := slots) rfl (by rw [List.length_map]; exact hn) hl.1 (by simp [List.map_append, zv]) (lv_room (by rw [zsum]; exact hro)) hd hcs
  exact RA.backA hrun C hH hS hg (hb b0 rfl) hl hls hst9 hZ kk
set_option maxHeartbeats 4000000 in
/-- invokespecial of a nest mate's private constructor -/
theorem r_callIN {o : Nat} (hm : zMI y' cc' nL' n) (hlk : ∀ U, zNest U → va_Nw (.methodLinkNest y.cls index y' RX4) U) (hC : CT l true d mc ms y' cc' nL' none (.ref o :: as) S M Q') (hd : decode cc pc = .ok (.invokespecial index, 3)) (hn : as.length = n) (hst : st0 = as.reverse ++ .ref o :: st) (hro : (st.map fun v => v.category).sum ≤ 8) (hR : d + 1 ≤ R.frames ∧ 8 + (nL' + 11) + 37 * d ≤ R.locals) (hcs : cells + mc ≤ R.cells ∧ slots + ms ≤ R.slots) (hls : ∀ v, some v ∈ ls → vwf S.length v) (hst9 : ∀ v ∈ st, vwf S.length v) (kk : ∀ v S' M', Q' v S' M' → RA l (some b0) R y cc nL ret Q (cells + mc) (slots + ms) (pc + 3) ls (zrst v ++ st) S' M' ∧ b0 ≤ S'.length) : RA l (some b0) R y cc nL ret Q cells slots pc ls st0 S M := by
  intro p e s m args below meth c D A ex ad0 ac0 ad ac H locs lsA Z C hH hS hg hb hl hZ
  subst hst
  have hrun := va_runIN (g := F0 m pc lsA ((as.reverse ++ .ref o :: st).map (zv ad ex))) (rest := st.map (zv ad ex)) (As := as.map (zv ad ex)) (b := ad o) ⟨C.1, C.2.1, C.2.2.1, C.2.2.2.1, C.2.2.2.2.1⟩ (hC D ex ad ac H.size) ⟨va_cnB n C.2.2.2.2.1 (zT_good (zcw hm.1)) rfl rfl rfl (hlk s C.2.2.2.2.2.2.2.2.2.2) (C.2.2.2.2.1 _ hm.1.1) ⟨hm.1.2.2.1, hm.1.2.2.2.1, hm.1.2.2.2.2⟩ ⟨hR.1, hR.2⟩, hm.2.2, C.2.2.2.2.1 _ hm.2.1⟩ ⟨zB.blind D ex ad ac S M H.size _, fun U hU hW => ⟨rfl, zB.at hH hS C.2.2.2.2.2.2.2.2.1 C.2.2.2.2.2.2.2.2.2.1 C.2.2.2.2.2.2.2.2.2.2 hU hW⟩⟩ (e := e) (p := p) (R := R) (below := below) (meth := meth) (locs := locs) (cells := cells) (slots := slots) rfl (by rw [List.length_map]; exact hn) hl.1 (by simp [List.map_append, zv]) (lv_room (by rw [zsum]; exact hro)) hd hcs
  exact RA.backA hrun C hH hS hg (hb b0 rfl) hl hls hst9 hZ kk
set_option maxHeartbeats 4000000 in
/-- invokevirtual of a method that makes cells -/
theorem r_callVA {o ci : Nat} {fl : List (Option (Option Nat))} {T : u_T} {N : Nat} (hm : zMV y' cc' nL' ret' n) (hlk : Cond.methodLink y.cls index y' ∈ zT) (hC : CT l true d mc ms y' cc' nL' ret' (.ref o :: as) S M Q') (hd : decode cc pc = .ok (.invokevirtual index, 3)) (hn : as.length = n) (hst : st0 = as.reverse ++ .ref o :: st) (hro : (st.map fun v => v.category).sum ≤ 8) (hR : d + 1 ≤ R.frames ∧ 8 + (nL' + 11) + 37 * d ≤ R.locals) (hcs : cells + mc ≤ R.cells ∧ slots + ms ≤ R.slots) (hc : S[o]? = some (.inr (ci, fl))) (hcl : vwCl[ci]? = some (y'.cls, T, N)) (hls : ∀ v, some v ∈ ls → vwf S.length v) (hst9 : ∀ v ∈ st, vwf S.length v) (kk : ∀ v S' M', Q' v S' M' → RA l (some b0) R y cc nL ret Q (cells + mc) (slots + ms) (pc + 3) ls (zrst v ++ st) S' M' ∧ b0 ≤ S'.length) : RA l (some b0) R y cc nL ret Q cells slots pc ls st0 S M := by
  intro p e s m args below meth c D A ex ad0 ac0 ad ac H locs lsA Z C hH hS hg hb hl hZ
  subst hst
  have hrun := va_runV (g := F0 m pc lsA ((as.reverse ++ .ref o :: st).map (zv ad ex))) (rest := st.map (zv ad ex)) (As := as.map (zv ad ex)) (b := ad o) ⟨C.1, C.2.1, C.2.2.1, C.2.2.2.1, C.2.2.2.2.1⟩ (hC D ex ad ac H.size) (cwV (C := y'.cls) n C.2.2.2.2.1 (zT_good (ws := wsV y.cls index y'.cls y' (.code y' cc' nL' ret' :: zT)) (by
      intro w hw
      rcases List.mem_append.mp hw with h | h
      · simp only [List.mem_cons, List.not_mem_nil, or_false] at h
        rcases h with rfl | rfl | rfl | rfl
        · exact hlk
        · exact hm.2.1
        · exact hm.2.2
        · exact hm.1.1
      · exact zcw hm.1 w h)) rfl rfl rfl ⟨rfl, hm.1.2.2.1, hm.1.2.2.2.1, hm.1.2.2.2.2⟩ ⟨hR.1, hR.2⟩) ⟨zB.blind D ex ad ac S M H.size _, va_recv hH.1 hH.2.2.1 (ci := ci) (q0 := o) (q := (y'.cls, T, N)) hcl (zW_get hc), fun U hU hW => ⟨rfl, zB.at hH hS C.2.2.2.2.2.2.2.2.1 C.2.2.2.2.2.2.2.2.2.1 C.2.2.2.2.2.2.2.2.2.2 hU hW⟩⟩ (e := e) (p := p) (R := R) (below := below) (meth := meth) (locs := locs) (cells := cells) (slots := slots) rfl (by rw [List.length_map]; exact hn) hl.1 (by simp [List.map_append, zv]) (lv_room (by rw [zsum]; exact hro)) hd hcs
  exact RA.backA hrun C hH hS hg (hb b0 rfl) hl hls hst9 hZ kk
end CALLA
