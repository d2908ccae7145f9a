/-- the tables' words that stay through calls -/
def zT : List Cond := lw_tbl.filter goodWord
theorem zT_in {i : Nat} {w : Cond} (h : lw_tbl[i]? = some w) (hg : goodWord w = true) : w ∈ zT := List.mem_filter.mpr ⟨List.mem_of_getElem? h, hg⟩
theorem zT_sub {w : Cond} (h : w ∈ zT) : w ∈ lw_tbl := (List.mem_filter.mp h).1
theorem zT_good {ws : List Cond} (h : ∀ w ∈ ws, w ∈ zT) : GoodIn zT ws := fun w hw => ⟨h w hw, good_of_word (List.mem_filter.mp (h w hw)).2⟩
theorem zT_all {ws : List Cond} (ps : List Nat) (hp : ws = ps.filterMap (fun i => lw_tbl[i]?)) (h : ws.all goodWord = true) : ∀ w ∈ ws, w ∈ zT := fun w hw => by
  rw [List.all_eq_true] at h
  have h2 := h w hw
  rw [hp] at hw
  obtain ⟨i, -, hi⟩ := List.mem_filterMap.mp hw
  exact zT_in hi h2
/-! the abstract heap: cells by number (S: their shapes, M: their contents); ad: where a cell lies; ex: the cells that nobody writes -/
abbrev zM : Type := (Nat → Nat → Int32) × (Nat → Nat → Int64) × (Nat → Nat → Option Nat)
abbrev zC : Type := (Nat × Nat) ⊕ (Nat × List (Option (Option Nat)))
def zv (ad : Nat → Nat) (ex : UInt32 → Nat) : Value → Value
  | .ref i => .ref (ad i)
  | .float x => .ref (ex x)
  | .int x => .int x
  | .long x => .long x
  | .double x => .double x
  | .null => .null
  | .retAddr x => .retAddr x
def zfld (ad : Nat → Nat) (f : Nat → Int32) (k : Nat) : Option (Option Nat) → Value
  | none => .int (f k)
  | some none => .null
  | some (some j) => .ref (ad j)
def zcell (ad : Nat → Nat) (ac : Nat → ClassId) (M : zM) (i : Nat) : zC → Nat × va_E
  | .inl (0, n) => (ad i, .inl (ac i, n, .inl (M.1 i)))
  | .inl (1, n) => (ad i, .inl (ac i, n, .inr (.inl (M.2.1 i))))
  | .inl (_ + 2, n) => (ad i, .inl (ac i, n, .inr (.inr (.inr (.inr (fun j => (M.2.2 i j).map ad))))))
  | .inr (ci, fl) => (ad i, .inr (ci, fl.mapIdx (zfld ad (M.1 i))))
def zW (ad : Nat → Nat) (ac : Nat → ClassId) (S : List zC) (M : zM) : va_W := S.mapIdx (zcell ad ac M)
def zty : Nat → FieldType
  | 0 => .int
  | 1 => .long
  | _ => .object "TailorTape$Row"
def zH (D : va_G) (A : Nat → Prop) (ad : Nat → Nat) (ac : Nat → ClassId) (S : List zC) (M : zM) (s : State) (H : Heap) : Prop :=
  va_K D vwCl [] s ∧ (∀ i k n, S[i]? = some (.inl (k, n)) → ArrOfT s (ac i) (zty k) ∧ va_RA s (ac i) (zty k)) ∧ va_P D vwCl (zW ad ac S M) H ∧ va_D A (zW ad ac S M)
def zshown (j : Nat) : Int32 := match j with
  | 0 => 4
  | 1 => 1
  | 2 => 1
  | 3 => 8
  | 4 => 2
  | _ => 15
def zStat (ex : UInt32 → Nat) (A : Nat → Prop) (U : State) (H : Heap) : Prop :=
  va_Z RX4 "SHOWN_ON" "[I" (.ref (ex 0)) A U H ∧ va_T .int (ex 0) 6 (fun j => .int (zshown j)) A U H ∧ vk_R RX1 72 "ptswh" (ex 1) U ∧ vk_S 1 [5] [[112, 116, 115, 119, 104]] (fun _ => ex 1) (fun _ => ex 2) A U H ∧ va_Z RJ0 "COMPACT_STRINGS" "Z" (.int 1) A U H
def zNest (U : State) : Prop := va_Nw (.methodLinkNest RX4 9 yX3_init RX4) U ∧ va_Nw (.methodLinkNest RX4 21 yX1_init RX4) U ∧ va_Nw (.methodLinkNest RX3 49 yX4_within RX4) U ∧ va_Nw (.methodLinkNest RX3 86 yX4_longer RX4) U ∧ va_Nw (.methodLinkNest RX0 97 yX4_longer RX4) U ∧ va_Nw (.methodLinkNest RX0 100 yX4_lowestOf RX4) U ∧ va_AO RX2 U
/-- what stays the same while a method runs -/
def zCtx (y : MethodName) (cc : ByteArray) (nL : Nat) (ret : Option FieldType) (p : Program) (s : State) (m : MethodId) (args : Array Value) (meth : Method) (c : Code) (A : Nat → Prop) (ex : UInt32 → Nat) : Prop :=
  p.tables.exec = Jvm.exec ∧ c.code = cc ∧ c.maxLocals = nL ∧ s.vm.findClass y.cls = some m.cls ∧ (∀ w ∈ zT, w.before args s = true) ∧ meth.sig.returnType = ret ∧ meth.locks = false ∧ meth.name = y.name ∧ (∀ q, s.heap.size ≤ q → A q) ∧ zStat ex A s s.heap ∧ zNest s
/-- the locals -/
def zlv (ad : Nat → Nat) (ex : UInt32 → Nat) (lsA : Array Slot) (nL : Nat) (ls : List (Option Value)) : Prop :=
  lsA.size = nL ∧ lv_wf lsA ∧ ∀ (i : Nat) (v : Value), ls[i]? = some (some v) → lsA[i]? = some (Slot.val (zv ad ex v))
def zg : List (Option Value) → Nat → Option Value
  | [], _ => none
  | a :: _, 0 => a
  | _ :: l, n + 1 => zg l n
def zs : List (Option Value) → Nat → Value → List (Option Value)
  | [], _, _ => []
  | _ :: l, 0, v => some v :: l
  | a :: l, n + 1, v => a :: zs l n v
def zc1 : Option Value → Bool
  | some (.long _) => false
  | some (.double _) => false
  | _ => true
/-- a store at i is no store into a long's second half, and i is a place -/
def zok : List (Option Value) → Nat → Bool
  | [], _ => false
  | _ :: _, 0 => true
  | a :: _ :: _, 1 => zc1 a
  | _ :: l, n + 1 => zok l n
def zag (b : Option Nat) (ad ad' : Nat → Nat) (ac ac' : Nat → ClassId) : Prop := match b with
  | none => ad' = ad ∧ ac' = ac
  | some n => ∀ i, i < n → ad' i = ad i ∧ ac' i = ac i
def zrst : Option Value → List Value
  | none => []
  | some v => [v]
/-- a return's instruction, for the value that it gives -/
def zretd (cc : ByteArray) (ret : Option FieldType) (pc : Nat) : Option Value → Prop
  | none => ret = none ∧ decode cc pc = .ok (.return_, 1)
  | some (.int v) => (∃ ty, ret = some ty ∧ narrow ty (.int v) = .int v) ∧ decode cc pc = .ok (.ireturn, 1)
  | some (.long _) => ret = some .long ∧ decode cc pc = .ok (.lreturn, 1)
  | _ => False
/-- the method's frame at pc comes to an end with Q: over any machine that stands so -/
def RA (l : Launch) (b : Option Nat) (R : Room) (y : MethodName) (cc : ByteArray) (nL : Nat) (ret : Option FieldType) (Q : Option Value → List zC → zM → Prop) (cells slots : Nat) (pc : Nat) (ls : List (Option Value)) (st : List Value) (S : List zC) (M : zM) : Prop :=
  ∀ (p : Program) (e : Env) (s : State) (m : MethodId) (args : Array Value) (below : List Frame) (meth : Method) (c : Code) (D : va_G) (A : Nat → Prop) (ex : UInt32 → Nat) (ad0 : Nat → Nat) (ac0 : Nat → ClassId) (ad : Nat → Nat) (ac : Nat → ClassId) (H : Heap) (locs : List Loc) (lsA : Array Slot) (Z : State → Prop),
    zCtx y cc nL ret p s m args meth c A ex → zH D A ad ac S M s H → va_S A s.heap H locs → zag b ad0 ad ac0 ac → (∀ q, b = some q → q ≤ S.length) → zlv ad ex lsA nL ls →
    (∀ (v : Option Value) (S' : List zC) (M' : zM) (ad' : Nat → Nat) (ac' : Nat → ClassId) (H' : Heap) (locs' : List Loc) (k' n' pc' : Nat) (ls' : Array Slot), Q v S' M' → zH D A ad' ac' S' M' s H' → va_S A s.heap H' locs' → zag b ad0 ad' ac0 ac' → k' ≤ R.cells → n' ≤ R.slots → zretd cc ret pc' v → W p l e R s m args below meth c H' locs' k' n' Z (F0 m pc' ls' (zrst v))) →
    W p l e R s m args below meth c H locs cells slots Z (F0 m pc lsA (st.map (zv ad ex)))
theorem zg_some : ∀ {l : List (Option Value)} {i : Nat} {v : Value}, zg l i = some v → l[i]? = some (some v)
  | [], _, _, h => by simp [zg] at h
  | a :: l, 0, v, h => by simp only [zg] at h; simp [h]
  | a :: l, n + 1, v, h => by simp only [zg] at h; simpa using zg_some h
theorem zlv.at {ad : Nat → Nat} {ex : UInt32 → Nat} {lsA : Array Slot} {nL : Nat} {ls : List (Option Value)} (h : zlv ad ex lsA nL ls) {i : Nat} {v : Value} (hv : zg ls i = some v) : lsA[i]? = some (.val (zv ad ex v)) := h.2.2 i v (zg_some hv)
def zloc (ad : Nat → Nat) (ex : UInt32 → Nat) (ls : List (Option Value)) : List (Nat × Value) := (ls.mapIdx (fun i o => o.map (fun v => (i, zv ad ex v)))).filterMap id
theorem mem_zloc {ad : Nat → Nat} {ex : UInt32 → Nat} {ls : List (Option Value)} {q : Nat × Value} : q ∈ zloc ad ex ls ↔ ∃ v, ls[q.1]? = some (some v) ∧ q.2 = zv ad ex v := by
  unfold zloc
  rw [List.mem_filterMap]
  constructor
  · rintro ⟨a, ha, hq⟩
    obtain ⟨i, hi⟩ := List.getElem?_of_mem ha
    rw [List.getElem?_mapIdx] at hi
    cases ho : ls[i]? with
    | none => rw [ho] at hi; cases hi
    | some x =>
      rw [ho] at hi
      simp only [Option.map_some, Option.some.injEq] at hi
      subst hi
      cases x with
      | none => cases hq
      | some v =>
        simp only [id, Option.map_some, Option.some.injEq] at hq
        subst hq
        exact ⟨v, ho, rfl⟩
  · rintro ⟨v, hv, hq⟩
    refine ⟨some q, ?_, rfl⟩
    refine List.mem_of_getElem? (i := q.1) ?_
    rw [List.getElem?_mapIdx, hv]
    simp only [Option.map_some]
    rw [← hq]
theorem zlv.has {ad : Nat → Nat} {ex : UInt32 → Nat} {lsA : Array Slot} {nL : Nat} {ls : List (Option Value)} (h : zlv ad ex lsA nL ls) : lv_has lsA nL (zloc ad ex ls) := by
  refine ⟨h.1, h.2.1, fun q hq => ?_⟩
  obtain ⟨v, hv, e⟩ := mem_zloc.mp hq
  rw [e]
  exact h.2.2 q.1 v hv
theorem zs_get : ∀ {l : List (Option Value)} {i : Nat} {v : Value} {j : Nat} {u : Value}, (zs l i v)[j]? = some (some u) → (j = i ∧ u = v) ∨ (j ≠ i ∧ l[j]? = some (some u))
  | [], _, _, _, _, h => by simp [zs] at h
  | a :: l, 0, v, 0, u, h => by simp only [zs, List.getElem?_cons_zero, Option.some.injEq] at h; exact Or.inl ⟨rfl, h.symm⟩
  | a :: l, 0, v, j + 1, u, h => by simp only [zs, List.getElem?_cons_succ] at h; exact Or.inr ⟨by omega, by simpa using h⟩
  | a :: l, n + 1, v, 0, u, h => by simp only [zs, List.getElem?_cons_zero, Option.some.injEq] at h; exact Or.inr ⟨by omega, by simp [h]⟩
  | a :: l, n + 1, v, j + 1, u, h => by
    simp only [zs, List.getElem?_cons_succ] at h
    rcases zs_get h with ⟨h1, h2⟩ | ⟨h1, h2⟩
    · exact Or.inl ⟨by omega, h2⟩
    · exact Or.inr ⟨by omega, by simpa using h2⟩
theorem zok_lt : ∀ {l : List (Option Value)} {i : Nat}, zok l i = true → i < l.length
  | [], _, h => by simp [zok] at h
  | _ :: _, 0, _ => by simp
  | _ :: [], 1, h => by simp [zok] at h
  | _ :: _ :: _, 1, _ => by simp
  | _ :: l, n + 2, h => by
    have h2 : zok l (n + 1) = true := by simpa [zok] using h
    have := zok_lt h2
    simp only [List.length_cons]
    omega
theorem zok_cat : ∀ {l : List (Option Value)} {i j : Nat} {u : Value}, zok l i = true → j + 1 = i → l[j]? = some (some u) → u.category = 1
  | [], _, _, _, h, _, _ => by simp [zok] at h
  | _ :: _, 0, j, _, _, hj, _ => by omega
  | _ :: [], 1, _, _, h, _, _ => by simp [zok] at h
  | a :: _ :: _, 1, j, u, h, hj, hu => by
    have : j = 0 := by omega
    subst this
    simp only [List.getElem?_cons_zero, Option.some.injEq] at hu
    subst hu
    cases u <;> simp_all [zok, zc1, Value.category]
  | a :: l, n + 2, 0, u, h, hj, hu => by omega
  | a :: l, n + 2, j + 1, u, h, hj, hu => by
    have h2 : zok l (n + 1) = true := by simpa [zok] using h
    exact zok_cat (j := j) h2 (by omega) (by simpa using hu)
theorem zv_cat (ad : Nat → Nat) (ex : UInt32 → Nat) (v : Value) : (zv ad ex v).category = v.category := by cases v <;> rfl
theorem zlv.put {ad : Nat → Nat} {ex : UInt32 → Nat} {lsA ls' : Array Slot} {nL : Nat} {ls : List (Option Value)} {i : Nat} {v : Value} (hk : zok ls i = true) (h' : lv_has ls' nL ((i, zv ad ex v) :: (zloc ad ex ls).filter (fun q => !(q.1 == i) && !(q.1 + 1 == i && q.2.category == 2)))) : zlv ad ex ls' nL (zs ls i v) := by
  refine ⟨h'.1, h'.2.1, fun j u hu => ?_⟩
  rcases zs_get hu with ⟨h1, h2⟩ | ⟨h1, h2⟩
  · subst h1; subst h2
    exact h'.2.2 (j, zv ad ex u) List.mem_cons_self
  · refine h'.2.2 (j, zv ad ex u) (List.mem_cons_of_mem _ (List.mem_filter.mpr ⟨mem_zloc.mpr ⟨u, h2, rfl⟩, ?_⟩))
    have e1 : (j == i) = false := by simpa using h1
    simp only [e1, zv_cat, Bool.not_false, Bool.true_and, Bool.not_eq_true', Bool.and_eq_false_iff, beq_eq_false_iff_ne, ne_eq]
    by_cases hj : j + 1 = i
    · right
      rw [zok_cat hk hj h2]
      decide
    · left; exact hj

section RAW
variable {l : Launch} {b : Option Nat} {R : Room} {y : MethodName} {cc : ByteArray} {nL : Nat} {ret : Option FieldType} {Q : Option Value → List zC → zM → Prop} {cells slots pc : Nat} {ls : List (Option Value)} {st : List Value} {S : List zC} {M : zM}
theorem r_iconst {n : Int} {v : Int32} (hd : decode cc pc = .ok (.iconst n, 1)) (hv : Int32.ofInt n = v) (k : RA l b R y cc nL ret Q cells slots (pc + 1) ls (.int v :: st) S M) : RA l b R y cc nL ret Q cells slots pc ls st S M := by
  intro p e s m args below meth c D A ex ad0 ac0 ad ac H locs lsA Z C hH hS hg hb hl hZ
  exact lv_iconst C.1 C.2.1 hd hv (k p e s m args below meth c D A ex ad0 ac0 ad ac H locs lsA Z C hH hS hg hb hl hZ)
theorem r_bipush {n : Int} {v : Int32} (hd : decode cc pc = .ok (.bipush n, 2)) (hv : (Int8.ofInt n).toInt32 = v) (k : RA l b R y cc nL ret Q cells slots (pc + 2) ls (.int v :: st) S M) : RA l b R y cc nL ret Q cells slots pc ls st S M := by
  intro p e s m args below meth c D A ex ad0 ac0 ad ac H locs lsA Z C hH hS hg hb hl hZ
  exact lv_bipush C.1 C.2.1 hd hv (k p e s m args below meth c D A ex ad0 ac0 ad ac H locs lsA Z C hH hS hg hb hl hZ)
theorem r_sipush {n : Int} {v : Int32} (hd : decode cc pc = .ok (.sipush n, 3)) (hv : (Int16.ofInt n).toInt32 = v) (k : RA l b R y cc nL ret Q cells slots (pc + 3) ls (.int v :: st) S M) : RA l b R y cc nL ret Q cells slots pc ls st S M := by
  intro p e s m args below meth c D A ex ad0 ac0 ad ac H locs lsA Z C hH hS hg hb hl hZ
  exact lv_sipush C.1 C.2.1 hd hv (k p e s m args below meth c D A ex ad0 ac0 ad ac H locs lsA Z C hH hS hg hb hl hZ)
theorem r_lconst {n : Fin 2} {v : Int64} (hd : decode cc pc = .ok (.lconst n, 1)) (hv : Int64.ofNat (n : Nat) = v) (k : RA l b R y cc nL ret Q cells slots (pc + 1) ls (.long v :: st) S M) : RA l b R y cc nL ret Q cells slots pc ls st S M := by
  intro p e s m args below meth c D A ex ad0 ac0 ad ac H locs lsA Z C hH hS hg hb hl hZ
  exact lv_lconst C.1 C.2.1 hd hv (k p e s m args below meth c D A ex ad0 ac0 ad ac H locs lsA Z C hH hS hg hb hl hZ)
theorem r_ldc {index : Nat} {v : Int32} (hw : Cond.constant y.cls index v ∈ zT) (hd : decode cc pc = .ok (.ldc index, 2)) (k : RA l b R y cc nL ret Q cells slots (pc + 2) ls (.int v :: st) S M) : RA l b R y cc nL ret Q cells slots pc ls st S M := by
  intro p e s m args below meth c D A ex ad0 ac0 ad ac H locs lsA Z C hH hS hg hb hl hZ
  exact lv_ldc C.1 C.2.1 C.2.2.2.1 (C.2.2.2.2.1 _ hw) hd (k p e s m args below meth c D A ex ad0 ac0 ad ac H locs lsA Z C hH hS hg hb hl hZ)
theorem r_ldcw {index : Nat} {v : Int32} (hw : Cond.constant y.cls index v ∈ zT) (hd : decode cc pc = .ok (.ldc_w index, 3)) (k : RA l b R y cc nL ret Q cells slots (pc + 3) ls (.int v :: st) S M) : RA l b R y cc nL ret Q cells slots pc ls st S M := by
  intro p e s m args below meth c D A ex ad0 ac0 ad ac H locs lsA Z C hH hS hg hb hl hZ
  exact lv_ldcw C.1 C.2.1 C.2.2.2.1 (C.2.2.2.2.1 _ hw) hd (k p e s m args below meth c D A ex ad0 ac0 ad ac H locs lsA Z C hH hS hg hb hl hZ)
theorem r_ldc2 {index : Nat} {v : Int64} (hw : Cond.constantLong y.cls index v ∈ zT) (hd : decode cc pc = .ok (.ldc2_w index, 3)) (k : RA l b R y cc nL ret Q cells slots (pc + 3) ls (.long v :: st) S M) : RA l b R y cc nL ret Q cells slots pc ls st S M := by
  intro p e s m args below meth c D A ex ad0 ac0 ad ac H locs lsA Z C hH hS hg hb hl hZ
  exact lv_ldc2 C.1 C.2.1 C.2.2.2.1 (C.2.2.2.2.1 _ hw) hd (k p e s m args below meth c D A ex ad0 ac0 ad ac H locs lsA Z C hH hS hg hb hl hZ)
theorem r_null  (hd : decode cc pc = .ok (.aconst_null, 1)) (k : RA l b R y cc nL ret Q cells slots (pc + 1) ls (.null :: st) S M) : RA l b R y cc nL ret Q cells slots pc ls st S M := by
  intro p e s m args below meth c D A ex ad0 ac0 ad ac H locs lsA Z C hH hS hg hb hl hZ
  exact lv_null C.1 C.2.1 hd (k p e s m args below meth c D A ex ad0 ac0 ad ac H locs lsA Z C hH hS hg hb hl hZ)
theorem r_iload_n {q : Fin 4} {i : Nat} {x : Int32} (hd : decode cc pc = .ok (.iload_n q, 1)) (hi : (q : Nat) = i) (hv : zg ls i = some (.int x)) (k : RA l b R y cc nL ret Q cells slots (pc + 1) ls (.int x :: st) S M) : RA l b R y cc nL ret Q cells slots pc ls st S M := by
  intro p e s m args below meth c D A ex ad0 ac0 ad ac H locs lsA Z C hH hS hg hb hl hZ
  exact lv_iload_n C.1 C.2.1 hd hi (hl.at hv) (k p e s m args below meth c D A ex ad0 ac0 ad ac H locs lsA Z C hH hS hg hb hl hZ)
theorem r_iload {i : Nat} {x : Int32} (hd : decode cc pc = .ok (.iload i, 2)) (hv : zg ls i = some (.int x)) (k : RA l b R y cc nL ret Q cells slots (pc + 2) ls (.int x :: st) S M) : RA l b R y cc nL ret Q cells slots pc ls st S M := by
  intro p e s m args below meth c D A ex ad0 ac0 ad ac H locs lsA Z C hH hS hg hb hl hZ
  exact lv_iload C.1 C.2.1 hd (hl.at hv) (k p e s m args below meth c D A ex ad0 ac0 ad ac H locs lsA Z C hH hS hg hb hl hZ)
theorem r_lload_n {q : Fin 4} {i : Nat} {x : Int64} (hd : decode cc pc = .ok (.lload_n q, 1)) (hi : (q : Nat) = i) (hv : zg ls i = some (.long x)) (k : RA l b R y cc nL ret Q cells slots (pc + 1) ls (.long x :: st) S M) : RA l b R y cc nL ret Q cells slots pc ls st S M := by
  intro p e s m args below meth c D A ex ad0 ac0 ad ac H locs lsA Z C hH hS hg hb hl hZ
  exact lv_lload_n C.1 C.2.1 hd hi (hl.at hv) (k p e s m args below meth c D A ex ad0 ac0 ad ac H locs lsA Z C hH hS hg hb hl hZ)
theorem r_lload {i : Nat} {x : Int64} (hd : decode cc pc = .ok (.lload i, 2)) (hv : zg ls i = some (.long x)) (k : RA l b R y cc nL ret Q cells slots (pc + 2) ls (.long x :: st) S M) : RA l b R y cc nL ret Q cells slots pc ls st S M := by
  intro p e s m args below meth c D A ex ad0 ac0 ad ac H locs lsA Z C hH hS hg hb hl hZ
  exact lv_lload C.1 C.2.1 hd (hl.at hv) (k p e s m args below meth c D A ex ad0 ac0 ad ac H locs lsA Z C hH hS hg hb hl hZ)
theorem r_aload_n {q : Fin 4} {i : Nat} {x : Nat} (hd : decode cc pc = .ok (.aload_n q, 1)) (hi : (q : Nat) = i) (hv : zg ls i = some (.ref x)) (k : RA l b R y cc nL ret Q cells slots (pc + 1) ls (.ref x :: st) S M) : RA l b R y cc nL ret Q cells slots pc ls st S M := by
  intro p e s m args below meth c D A ex ad0 ac0 ad ac H locs lsA Z C hH hS hg hb hl hZ
  exact lv_aload_n C.1 C.2.1 hd hi (hl.at hv) (k p e s m args below meth c D A ex ad0 ac0 ad ac H locs lsA Z C hH hS hg hb hl hZ)
theorem r_aload {i : Nat} {x : Nat} (hd : decode cc pc = .ok (.aload i, 2)) (hv : zg ls i = some (.ref x)) (k : RA l b R y cc nL ret Q cells slots (pc + 2) ls (.ref x :: st) S M) : RA l b R y cc nL ret Q cells slots pc ls st S M := by
  intro p e s m args below meth c D A ex ad0 ac0 ad ac H locs lsA Z C hH hS hg hb hl hZ
  exact lv_aload C.1 C.2.1 hd (hl.at hv) (k p e s m args below meth c D A ex ad0 ac0 ad ac H locs lsA Z C hH hS hg hb hl hZ)
theorem r_aload_nX {q : Fin 4} {i : Nat} {x : UInt32} (hd : decode cc pc = .ok (.aload_n q, 1)) (hi : (q : Nat) = i) (hv : zg ls i = some (.float x)) (k : RA l b R y cc nL ret Q cells slots (pc + 1) ls (.float x :: st) S M) : RA l b R y cc nL ret Q cells slots pc ls st S M := by
  intro p e s m args below meth c D A ex ad0 ac0 ad ac H locs lsA Z C hH hS hg hb hl hZ
  exact lv_aload_n C.1 C.2.1 hd hi (hl.at hv) (k p e s m args below meth c D A ex ad0 ac0 ad ac H locs lsA Z C hH hS hg hb hl hZ)
theorem r_aload_nN {q : Fin 4} {i : Nat} (hd : decode cc pc = .ok (.aload_n q, 1)) (hi : (q : Nat) = i) (hv : zg ls i = some .null) (k : RA l b R y cc nL ret Q cells slots (pc + 1) ls (.null :: st) S M) : RA l b R y cc nL ret Q cells slots pc ls st S M := by
  intro p e s m args below meth c D A ex ad0 ac0 ad ac H locs lsA Z C hH hS hg hb hl hZ
  exact lv_aload_nN C.1 C.2.1 hd hi (hl.at hv) (k p e s m args below meth c D A ex ad0 ac0 ad ac H locs lsA Z C hH hS hg hb hl hZ)
theorem r_aloadN {i : Nat} (hd : decode cc pc = .ok (.aload i, 2)) (hv : zg ls i = some .null) (k : RA l b R y cc nL ret Q cells slots (pc + 2) ls (.null :: st) S M) : RA l b R y cc nL ret Q cells slots pc ls st S M := by
  intro p e s m args below meth c D A ex ad0 ac0 ad ac H locs lsA Z C hH hS hg hb hl hZ
  exact lv_aloadN C.1 C.2.1 hd (hl.at hv) (k p e s m args below meth c D A ex ad0 ac0 ad ac H locs lsA Z C hH hS hg hb hl hZ)
theorem r_istore_n {q : Fin 4} {i : Nat} {x : Int32} (hd : decode cc pc = .ok (.istore_n q, 1)) (hi : (q : Nat) = i) (hk : zok ls i = true) (hn : i < nL) (k : RA l b R y cc nL ret Q cells slots (pc + 1) (zs ls i (.int x)) st S M) : RA l b R y cc nL ret Q cells slots pc ls (.int x :: st) S M := by
  intro p e s m args below meth c D A ex ad0 ac0 ad ac H locs lsA Z C hH hS hg hb hl hZ
  exact lv_istore_n C.1 C.2.1 hd hi hl.has hn rfl (fun ls2 h2 => k p e s m args below meth c D A ex ad0 ac0 ad ac H locs ls2 Z C hH hS hg hb (zlv.put (lsA := lsA) (v := .int x) hk h2) hZ)
theorem r_istore {i : Nat} {x : Int32} (hd : decode cc pc = .ok (.istore i, 2)) (hk : zok ls i = true) (hn : i < nL) (k : RA l b R y cc nL ret Q cells slots (pc + 2) (zs ls i (.int x)) st S M) : RA l b R y cc nL ret Q cells slots pc ls (.int x :: st) S M := by
  intro p e s m args below meth c D A ex ad0 ac0 ad ac H locs lsA Z C hH hS hg hb hl hZ
  exact lv_istore C.1 C.2.1 hd hl.has hn rfl (fun ls2 h2 => k p e s m args below meth c D A ex ad0 ac0 ad ac H locs ls2 Z C hH hS hg hb (zlv.put (lsA := lsA) (v := .int x) hk h2) hZ)
theorem r_astore_n {q : Fin 4} {i : Nat} {x : Nat} (hd : decode cc pc = .ok (.astore_n q, 1)) (hi : (q : Nat) = i) (hk : zok ls i = true) (hn : i < nL) (k : RA l b R y cc nL ret Q cells slots (pc + 1) (zs ls i (.ref x)) st S M) : RA l b R y cc nL ret Q cells slots pc ls (.ref x :: st) S M := by
  intro p e s m args below meth c D A ex ad0 ac0 ad ac H locs lsA Z C hH hS hg hb hl hZ
  exact lv_astore_n C.1 C.2.1 hd hi hl.has hn rfl (fun ls2 h2 => k p e s m args below meth c D A ex ad0 ac0 ad ac H locs ls2 Z C hH hS hg hb (zlv.put (lsA := lsA) (v := .ref x) hk h2) hZ)
theorem r_astore {i : Nat} {x : Nat} (hd : decode cc pc = .ok (.astore i, 2)) (hk : zok ls i = true) (hn : i < nL) (k : RA l b R y cc nL ret Q cells slots (pc + 2) (zs ls i (.ref x)) st S M) : RA l b R y cc nL ret Q cells slots pc ls (.ref x :: st) S M := by
  intro p e s m args below meth c D A ex ad0 ac0 ad ac H locs lsA Z C hH hS hg hb hl hZ
  exact lv_astore C.1 C.2.1 hd hl.has hn rfl (fun ls2 h2 => k p e s m args below meth c D A ex ad0 ac0 ad ac H locs ls2 Z C hH hS hg hb (zlv.put (lsA := lsA) (v := .ref x) hk h2) hZ)
theorem r_astore_nX {q : Fin 4} {i : Nat} {x : UInt32} (hd : decode cc pc = .ok (.astore_n q, 1)) (hi : (q : Nat) = i) (hk : zok ls i = true) (hn : i < nL) (k : RA l b R y cc nL ret Q cells slots (pc + 1) (zs ls i (.float x)) st S M) : RA l b R y cc nL ret Q cells slots pc ls (.float x :: st) S M := by
  intro p e s m args below meth c D A ex ad0 ac0 ad ac H locs lsA Z C hH hS hg hb hl hZ
  exact lv_astore_n C.1 C.2.1 hd hi hl.has hn rfl (fun ls2 h2 => k p e s m args below meth c D A ex ad0 ac0 ad ac H locs ls2 Z C hH hS hg hb (zlv.put (lsA := lsA) (v := .float x) hk h2) hZ)
theorem r_astoreX {i : Nat} {x : UInt32} (hd : decode cc pc = .ok (.astore i, 2)) (hk : zok ls i = true) (hn : i < nL) (k : RA l b R y cc nL ret Q cells slots (pc + 2) (zs ls i (.float x)) st S M) : RA l b R y cc nL ret Q cells slots pc ls (.float x :: st) S M := by
  intro p e s m args below meth c D A ex ad0 ac0 ad ac H locs lsA Z C hH hS hg hb hl hZ
  exact lv_astore C.1 C.2.1 hd hl.has hn rfl (fun ls2 h2 => k p e s m args below meth c D A ex ad0 ac0 ad ac H locs ls2 Z C hH hS hg hb (zlv.put (lsA := lsA) (v := .float x) hk h2) hZ)
theorem r_astore_nN {q : Fin 4} {i : Nat}  (hd : decode cc pc = .ok (.astore_n q, 1)) (hi : (q : Nat) = i) (hk : zok ls i = true) (hn : i < nL) (k : RA l b R y cc nL ret Q cells slots (pc + 1) (zs ls i .null) st S M) : RA l b R y cc nL ret Q cells slots pc ls (.null :: st) S M := by
  intro p e s m args below meth c D A ex ad0 ac0 ad ac H locs lsA Z C hH hS hg hb hl hZ
  exact lv_astore_nN C.1 C.2.1 hd hi hl.has hn rfl (fun ls2 h2 => k p e s m args below meth c D A ex ad0 ac0 ad ac H locs ls2 Z C hH hS hg hb (zlv.put (lsA := lsA) (v := .null) hk h2) hZ)
theorem r_astoreN {i : Nat}  (hd : decode cc pc = .ok (.astore i, 2)) (hk : zok ls i = true) (hn : i < nL) (k : RA l b R y cc nL ret Q cells slots (pc + 2) (zs ls i .null) st S M) : RA l b R y cc nL ret Q cells slots pc ls (.null :: st) S M := by
  intro p e s m args below meth c D A ex ad0 ac0 ad ac H locs lsA Z C hH hS hg hb hl hZ
  exact lv_astoreN C.1 C.2.1 hd hl.has hn rfl (fun ls2 h2 => k p e s m args below meth c D A ex ad0 ac0 ad ac H locs ls2 Z C hH hS hg hb (zlv.put (lsA := lsA) (v := .null) hk h2) hZ)
theorem r_iinc {i : Nat} {n : Int} {x v : Int32} (hd : decode cc pc = .ok (.iinc i n, 3)) (hv : zg ls i = some (.int x)) (he : x + Int32.ofInt n = v) (hk : zok ls i = true) (hn : i < nL) (k : RA l b R y cc nL ret Q cells slots (pc + 3) (zs ls i (.int v)) st S M) : RA l b R y cc nL ret Q cells slots pc ls st S M := by
  intro p e s m args below meth c D A ex ad0 ac0 ad ac H locs lsA Z C hH hS hg hb hl hZ
  obtain ⟨q, hq⟩ := List.getElem?_of_mem (mem_zloc (ad := ad) (ex := ex) (q := (i, zv ad ex (.int x))) |>.mpr ⟨.int x, zg_some hv, rfl⟩)
  exact lv_iinc C.1 C.2.1 hd hl.has hq he hn rfl (fun ls2 h2 => k p e s m args below meth c D A ex ad0 ac0 ad ac H locs ls2 Z C hH hS hg hb (zlv.put (lsA := lsA) (v := .int v) hk h2) hZ)
theorem r_iadd {x z : Int32} (hd : decode cc pc = .ok (.iadd, 1)) (k : RA l b R y cc nL ret Q cells slots (pc + 1) ls (.int (x + z) :: st) S M) : RA l b R y cc nL ret Q cells slots pc ls (.int z :: .int x :: st) S M := by
  intro p e s m args below meth c D A ex ad0 ac0 ad ac H locs lsA Z C hH hS hg hb hl hZ
  exact lv_iadd C.1 C.2.1 hd (k p e s m args below meth c D A ex ad0 ac0 ad ac H locs lsA Z C hH hS hg hb hl hZ)
theorem r_isub {x z : Int32} (hd : decode cc pc = .ok (.isub, 1)) (k : RA l b R y cc nL ret Q cells slots (pc + 1) ls (.int (x - z) :: st) S M) : RA l b R y cc nL ret Q cells slots pc ls (.int z :: .int x :: st) S M := by
  intro p e s m args below meth c D A ex ad0 ac0 ad ac H locs lsA Z C hH hS hg hb hl hZ
  exact lv_isub C.1 C.2.1 hd (k p e s m args below meth c D A ex ad0 ac0 ad ac H locs lsA Z C hH hS hg hb hl hZ)
theorem r_imul {x z : Int32} (hd : decode cc pc = .ok (.imul, 1)) (k : RA l b R y cc nL ret Q cells slots (pc + 1) ls (.int (x * z) :: st) S M) : RA l b R y cc nL ret Q cells slots pc ls (.int z :: .int x :: st) S M := by
  intro p e s m args below meth c D A ex ad0 ac0 ad ac H locs lsA Z C hH hS hg hb hl hZ
  exact lv_imul C.1 C.2.1 hd (k p e s m args below meth c D A ex ad0 ac0 ad ac H locs lsA Z C hH hS hg hb hl hZ)
theorem r_iand {x z : Int32} (hd : decode cc pc = .ok (.iand, 1)) (k : RA l b R y cc nL ret Q cells slots (pc + 1) ls (.int (x &&& z) :: st) S M) : RA l b R y cc nL ret Q cells slots pc ls (.int z :: .int x :: st) S M := by
  intro p e s m args below meth c D A ex ad0 ac0 ad ac H locs lsA Z C hH hS hg hb hl hZ
  exact lv_iand C.1 C.2.1 hd (k p e s m args below meth c D A ex ad0 ac0 ad ac H locs lsA Z C hH hS hg hb hl hZ)
theorem r_ior {x z : Int32} (hd : decode cc pc = .ok (.ior, 1)) (k : RA l b R y cc nL ret Q cells slots (pc + 1) ls (.int (x ||| z) :: st) S M) : RA l b R y cc nL ret Q cells slots pc ls (.int z :: .int x :: st) S M := by
  intro p e s m args below meth c D A ex ad0 ac0 ad ac H locs lsA Z C hH hS hg hb hl hZ
  exact lv_ior C.1 C.2.1 hd (k p e s m args below meth c D A ex ad0 ac0 ad ac H locs lsA Z C hH hS hg hb hl hZ)
theorem r_ixor {x z : Int32} (hd : decode cc pc = .ok (.ixor, 1)) (k : RA l b R y cc nL ret Q cells slots (pc + 1) ls (.int (x ^^^ z) :: st) S M) : RA l b R y cc nL ret Q cells slots pc ls (.int z :: .int x :: st) S M := by
  intro p e s m args below meth c D A ex ad0 ac0 ad ac H locs lsA Z C hH hS hg hb hl hZ
  exact lv_ixor C.1 C.2.1 hd (k p e s m args below meth c D A ex ad0 ac0 ad ac H locs lsA Z C hH hS hg hb hl hZ)
theorem r_ishl {x z : Int32} (hd : decode cc pc = .ok (.ishl, 1)) (k : RA l b R y cc nL ret Q cells slots (pc + 1) ls (.int (x <<< (z &&& 31)) :: st) S M) : RA l b R y cc nL ret Q cells slots pc ls (.int z :: .int x :: st) S M := by
  intro p e s m args below meth c D A ex ad0 ac0 ad ac H locs lsA Z C hH hS hg hb hl hZ
  exact lv_ishl C.1 C.2.1 hd (k p e s m args below meth c D A ex ad0 ac0 ad ac H locs lsA Z C hH hS hg hb hl hZ)
theorem r_ishr {x z : Int32} (hd : decode cc pc = .ok (.ishr, 1)) (k : RA l b R y cc nL ret Q cells slots (pc + 1) ls (.int (x >>> (z &&& 31)) :: st) S M) : RA l b R y cc nL ret Q cells slots pc ls (.int z :: .int x :: st) S M := by
  intro p e s m args below meth c D A ex ad0 ac0 ad ac H locs lsA Z C hH hS hg hb hl hZ
  exact lv_ishr C.1 C.2.1 hd (k p e s m args below meth c D A ex ad0 ac0 ad ac H locs lsA Z C hH hS hg hb hl hZ)
theorem r_idiv {x z : Int32} (hd : decode cc pc = .ok (.idiv, 1)) (hne : ¬ z = 0) (k : RA l b R y cc nL ret Q cells slots (pc + 1) ls (.int (x / z) :: st) S M) : RA l b R y cc nL ret Q cells slots pc ls (.int z :: .int x :: st) S M := by
  intro p e s m args below meth c D A ex ad0 ac0 ad ac H locs lsA Z C hH hS hg hb hl hZ
  exact lv_idiv C.1 C.2.1 hd hne (k p e s m args below meth c D A ex ad0 ac0 ad ac H locs lsA Z C hH hS hg hb hl hZ)
theorem r_irem {x z : Int32} (hd : decode cc pc = .ok (.irem, 1)) (hne : ¬ z = 0) (k : RA l b R y cc nL ret Q cells slots (pc + 1) ls (.int (x - x / z * z) :: st) S M) : RA l b R y cc nL ret Q cells slots pc ls (.int z :: .int x :: st) S M := by
  intro p e s m args below meth c D A ex ad0 ac0 ad ac H locs lsA Z C hH hS hg hb hl hZ
  exact lv_irem C.1 C.2.1 hd hne (k p e s m args below meth c D A ex ad0 ac0 ad ac H locs lsA Z C hH hS hg hb hl hZ)
theorem r_iushr {x z v : Int32} (hd : decode cc pc = .ok (.iushr, 1)) (hv : (x.toUInt32 >>> (z.toUInt32 &&& Int32.toUInt32 31)).toInt32 = v) (k : RA l b R y cc nL ret Q cells slots (pc + 1) ls (.int v :: st) S M) : RA l b R y cc nL ret Q cells slots pc ls (.int z :: .int x :: st) S M := by
  intro p e s m args below meth c D A ex ad0 ac0 ad ac H locs lsA Z C hH hS hg hb hl hZ
  exact lv_iushr C.1 C.2.1 hd hv (k p e s m args below meth c D A ex ad0 ac0 ad ac H locs lsA Z C hH hS hg hb hl hZ)
theorem r_ineg {x : Int32} (hd : decode cc pc = .ok (.ineg, 1)) (k : RA l b R y cc nL ret Q cells slots (pc + 1) ls (.int (-x) :: st) S M) : RA l b R y cc nL ret Q cells slots pc ls (.int x :: st) S M := by
  intro p e s m args below meth c D A ex ad0 ac0 ad ac H locs lsA Z C hH hS hg hb hl hZ
  exact lv_ineg C.1 C.2.1 hd (k p e s m args below meth c D A ex ad0 ac0 ad ac H locs lsA Z C hH hS hg hb hl hZ)
theorem r_ladd {x z : Int64} (hd : decode cc pc = .ok (.ladd, 1)) (k : RA l b R y cc nL ret Q cells slots (pc + 1) ls (.long (x + z) :: st) S M) : RA l b R y cc nL ret Q cells slots pc ls (.long z :: .long x :: st) S M := by
  intro p e s m args below meth c D A ex ad0 ac0 ad ac H locs lsA Z C hH hS hg hb hl hZ
  exact lv_ladd C.1 C.2.1 hd (k p e s m args below meth c D A ex ad0 ac0 ad ac H locs lsA Z C hH hS hg hb hl hZ)
theorem r_lmul {x z : Int64} (hd : decode cc pc = .ok (.lmul, 1)) (k : RA l b R y cc nL ret Q cells slots (pc + 1) ls (.long (x * z) :: st) S M) : RA l b R y cc nL ret Q cells slots pc ls (.long z :: .long x :: st) S M := by
  intro p e s m args below meth c D A ex ad0 ac0 ad ac H locs lsA Z C hH hS hg hb hl hZ
  exact lv_lmul C.1 C.2.1 hd (k p e s m args below meth c D A ex ad0 ac0 ad ac H locs lsA Z C hH hS hg hb hl hZ)
theorem r_land {x z : Int64} (hd : decode cc pc = .ok (.land, 1)) (k : RA l b R y cc nL ret Q cells slots (pc + 1) ls (.long (x &&& z) :: st) S M) : RA l b R y cc nL ret Q cells slots pc ls (.long z :: .long x :: st) S M := by
  intro p e s m args below meth c D A ex ad0 ac0 ad ac H locs lsA Z C hH hS hg hb hl hZ
  exact lv_land C.1 C.2.1 hd (k p e s m args below meth c D A ex ad0 ac0 ad ac H locs lsA Z C hH hS hg hb hl hZ)
theorem r_lor {x z : Int64} (hd : decode cc pc = .ok (.lor, 1)) (k : RA l b R y cc nL ret Q cells slots (pc + 1) ls (.long (x ||| z) :: st) S M) : RA l b R y cc nL ret Q cells slots pc ls (.long z :: .long x :: st) S M := by
  intro p e s m args below meth c D A ex ad0 ac0 ad ac H locs lsA Z C hH hS hg hb hl hZ
  exact lv_lor C.1 C.2.1 hd (k p e s m args below meth c D A ex ad0 ac0 ad ac H locs lsA Z C hH hS hg hb hl hZ)
theorem r_lshl {x v : Int64} {z : Int32} (hd : decode cc pc = .ok (.lshl, 1)) (hv : x <<< (z.toInt64 &&& 63) = v) (k : RA l b R y cc nL ret Q cells slots (pc + 1) ls (.long v :: st) S M) : RA l b R y cc nL ret Q cells slots pc ls (.int z :: .long x :: st) S M := by
  intro p e s m args below meth c D A ex ad0 ac0 ad ac H locs lsA Z C hH hS hg hb hl hZ
  exact lv_lshl C.1 C.2.1 hd hv (k p e s m args below meth c D A ex ad0 ac0 ad ac H locs lsA Z C hH hS hg hb hl hZ)
theorem r_lcmp {x z : Int64} (hd : decode cc pc = .ok (.lcmp, 1)) (k : RA l b R y cc nL ret Q cells slots (pc + 1) ls (.int (lg_cmp x z) :: st) S M) : RA l b R y cc nL ret Q cells slots pc ls (.long z :: .long x :: st) S M := by
  intro p e s m args below meth c D A ex ad0 ac0 ad ac H locs lsA Z C hH hS hg hb hl hZ
  exact W.lcmp C.1 C.2.1 hd (k p e s m args below meth c D A ex ad0 ac0 ad ac H locs lsA Z C hH hS hg hb hl hZ)
theorem r_i2l {x : Int32} {v : Int64} (hd : decode cc pc = .ok (.i2l, 1)) (hv : x.toInt64 = v) (k : RA l b R y cc nL ret Q cells slots (pc + 1) ls (.long v :: st) S M) : RA l b R y cc nL ret Q cells slots pc ls (.int x :: st) S M := by
  intro p e s m args below meth c D A ex ad0 ac0 ad ac H locs lsA Z C hH hS hg hb hl hZ
  exact lv_i2l C.1 C.2.1 hd hv (k p e s m args below meth c D A ex ad0 ac0 ad ac H locs lsA Z C hH hS hg hb hl hZ)
theorem r_l2i {x : Int64} {v : Int32} (hd : decode cc pc = .ok (.l2i, 1)) (hv : x.toInt32 = v) (k : RA l b R y cc nL ret Q cells slots (pc + 1) ls (.int v :: st) S M) : RA l b R y cc nL ret Q cells slots pc ls (.long x :: st) S M := by
  intro p e s m args below meth c D A ex ad0 ac0 ad ac H locs lsA Z C hH hS hg hb hl hZ
  exact lv_l2i C.1 C.2.1 hd hv (k p e s m args below meth c D A ex ad0 ac0 ad ac H locs lsA Z C hH hS hg hb hl hZ)
theorem r_i2b {x v : Int32} (hd : decode cc pc = .ok (.i2b, 1)) (hv : x.toInt8.toInt32 = v) (k : RA l b R y cc nL ret Q cells slots (pc + 1) ls (.int v :: st) S M) : RA l b R y cc nL ret Q cells slots pc ls (.int x :: st) S M := by
  intro p e s m args below meth c D A ex ad0 ac0 ad ac H locs lsA Z C hH hS hg hb hl hZ
  exact lv_i2b C.1 C.2.1 hd hv (k p e s m args below meth c D A ex ad0 ac0 ad ac H locs lsA Z C hH hS hg hb hl hZ)
theorem r_i2s {x v : Int32} (hd : decode cc pc = .ok (.i2s, 1)) (hv : x.toInt16.toInt32 = v) (k : RA l b R y cc nL ret Q cells slots (pc + 1) ls (.int v :: st) S M) : RA l b R y cc nL ret Q cells slots pc ls (.int x :: st) S M := by
  intro p e s m args below meth c D A ex ad0 ac0 ad ac H locs lsA Z C hH hS hg hb hl hZ
  exact lv_i2s C.1 C.2.1 hd hv (k p e s m args below meth c D A ex ad0 ac0 ad ac H locs lsA Z C hH hS hg hb hl hZ)
theorem r_i2c {x v : Int32} (hd : decode cc pc = .ok (.i2c, 1)) (hv : (x.toUInt32 % 65536).toInt32 = v) (k : RA l b R y cc nL ret Q cells slots (pc + 1) ls (.int v :: st) S M) : RA l b R y cc nL ret Q cells slots pc ls (.int x :: st) S M := by
  intro p e s m args below meth c D A ex ad0 ac0 ad ac H locs lsA Z C hH hS hg hb hl hZ
  exact lv_i2c C.1 C.2.1 hd hv (k p e s m args below meth c D A ex ad0 ac0 ad ac H locs lsA Z C hH hS hg hb hl hZ)
theorem r_dup {va : Value} (hd : decode cc pc = .ok (.dup, 1)) (hva : va.category = 1) (k : RA l b R y cc nL ret Q cells slots (pc + 1) ls (va :: va :: st) S M) : RA l b R y cc nL ret Q cells slots pc ls (va :: st) S M := by
  intro p e s m args below meth c D A ex ad0 ac0 ad ac H locs lsA Z C hH hS hg hb hl hZ
  exact lv_dup C.1 C.2.1 hd ((zv_cat ad ex va).trans hva) (k p e s m args below meth c D A ex ad0 ac0 ad ac H locs lsA Z C hH hS hg hb hl hZ)
theorem r_pop {va : Value} (hd : decode cc pc = .ok (.pop, 1)) (hva : va.category = 1) (k : RA l b R y cc nL ret Q cells slots (pc + 1) ls st S M) : RA l b R y cc nL ret Q cells slots pc ls (va :: st) S M := by
  intro p e s m args below meth c D A ex ad0 ac0 ad ac H locs lsA Z C hH hS hg hb hl hZ
  exact lv_pop C.1 C.2.1 hd ((zv_cat ad ex va).trans hva) (k p e s m args below meth c D A ex ad0 ac0 ad ac H locs lsA Z C hH hS hg hb hl hZ)
theorem r_dup2 {va vb : Value} (hd : decode cc pc = .ok (.dup2, 1)) (hva : va.category = 1) (hvb : vb.category = 1) (k : RA l b R y cc nL ret Q cells slots (pc + 1) ls (va :: vb :: va :: vb :: st) S M) : RA l b R y cc nL ret Q cells slots pc ls (va :: vb :: st) S M := by
  intro p e s m args below meth c D A ex ad0 ac0 ad ac H locs lsA Z C hH hS hg hb hl hZ
  exact lv_dup2_11 C.1 C.2.1 hd ((zv_cat ad ex va).trans hva) ((zv_cat ad ex vb).trans hvb) (k p e s m args below meth c D A ex ad0 ac0 ad ac H locs lsA Z C hH hS hg hb hl hZ)
theorem r_if_eq {x : Int32} {off : Int} {tgt : Nat} (hd : decode cc pc = .ok (.ifCond .eq off, 3)) (ht : (pc : Int) + off = (tgt : Int)) (kt : x = 0 → RA l b R y cc nL ret Q cells slots tgt ls st S M) (kf : ¬ x = 0 → RA l b R y cc nL ret Q cells slots (pc + 3) ls st S M) : RA l b R y cc nL ret Q cells slots pc ls (.int x :: st) S M := by
  intro p e s m args below meth c D A ex ad0 ac0 ad ac H locs lsA Z C hH hS hg hb hl hZ
  exact lv_if_eq C.1 C.2.1 hd ht (fun q => kt q p e s m args below meth c D A ex ad0 ac0 ad ac H locs lsA Z C hH hS hg hb hl hZ) (fun q => kf q p e s m args below meth c D A ex ad0 ac0 ad ac H locs lsA Z C hH hS hg hb hl hZ)
theorem r_if_ne {x : Int32} {off : Int} {tgt : Nat} (hd : decode cc pc = .ok (.ifCond .ne off, 3)) (ht : (pc : Int) + off = (tgt : Int)) (kt : ¬ x = 0 → RA l b R y cc nL ret Q cells slots tgt ls st S M) (kf : x = 0 → RA l b R y cc nL ret Q cells slots (pc + 3) ls st S M) : RA l b R y cc nL ret Q cells slots pc ls (.int x :: st) S M := by
  intro p e s m args below meth c D A ex ad0 ac0 ad ac H locs lsA Z C hH hS hg hb hl hZ
  exact lv_if_ne C.1 C.2.1 hd ht (fun q => kt q p e s m args below meth c D A ex ad0 ac0 ad ac H locs lsA Z C hH hS hg hb hl hZ) (fun q => kf q p e s m args below meth c D A ex ad0 ac0 ad ac H locs lsA Z C hH hS hg hb hl hZ)
theorem r_if_lt {x : Int32} {off : Int} {tgt : Nat} (hd : decode cc pc = .ok (.ifCond .lt off, 3)) (ht : (pc : Int) + off = (tgt : Int)) (kt : x < 0 → RA l b R y cc nL ret Q cells slots tgt ls st S M) (kf : ¬ x < 0 → RA l b R y cc nL ret Q cells slots (pc + 3) ls st S M) : RA l b R y cc nL ret Q cells slots pc ls (.int x :: st) S M := by
  intro p e s m args below meth c D A ex ad0 ac0 ad ac H locs lsA Z C hH hS hg hb hl hZ
  exact lv_if_lt C.1 C.2.1 hd ht (fun q => kt q p e s m args below meth c D A ex ad0 ac0 ad ac H locs lsA Z C hH hS hg hb hl hZ) (fun q => kf q p e s m args below meth c D A ex ad0 ac0 ad ac H locs lsA Z C hH hS hg hb hl hZ)
theorem r_if_ge {x : Int32} {off : Int} {tgt : Nat} (hd : decode cc pc = .ok (.ifCond .ge off, 3)) (ht : (pc : Int) + off = (tgt : Int)) (kt : 0 ≤ x → RA l b R y cc nL ret Q cells slots tgt ls st S M) (kf : ¬ 0 ≤ x → RA l b R y cc nL ret Q cells slots (pc + 3) ls st S M) : RA l b R y cc nL ret Q cells slots pc ls (.int x :: st) S M := by
  intro p e s m args below meth c D A ex ad0 ac0 ad ac H locs lsA Z C hH hS hg hb hl hZ
  exact lv_if_ge C.1 C.2.1 hd ht (fun q => kt q p e s m args below meth c D A ex ad0 ac0 ad ac H locs lsA Z C hH hS hg hb hl hZ) (fun q => kf q p e s m args below meth c D A ex ad0 ac0 ad ac H locs lsA Z C hH hS hg hb hl hZ)
theorem r_if_gt {x : Int32} {off : Int} {tgt : Nat} (hd : decode cc pc = .ok (.ifCond .gt off, 3)) (ht : (pc : Int) + off = (tgt : Int)) (kt : 0 < x → RA l b R y cc nL ret Q cells slots tgt ls st S M) (kf : ¬ 0 < x → RA l b R y cc nL ret Q cells slots (pc + 3) ls st S M) : RA l b R y cc nL ret Q cells slots pc ls (.int x :: st) S M := by
  intro p e s m args below meth c D A ex ad0 ac0 ad ac H locs lsA Z C hH hS hg hb hl hZ
  exact lv_if_gt C.1 C.2.1 hd ht (fun q => kt q p e s m args below meth c D A ex ad0 ac0 ad ac H locs lsA Z C hH hS hg hb hl hZ) (fun q => kf q p e s m args below meth c D A ex ad0 ac0 ad ac H locs lsA Z C hH hS hg hb hl hZ)
theorem r_if_le {x : Int32} {off : Int} {tgt : Nat} (hd : decode cc pc = .ok (.ifCond .le off, 3)) (ht : (pc : Int) + off = (tgt : Int)) (kt : x ≤ 0 → RA l b R y cc nL ret Q cells slots tgt ls st S M) (kf : ¬ x ≤ 0 → RA l b R y cc nL ret Q cells slots (pc + 3) ls st S M) : RA l b R y cc nL ret Q cells slots pc ls (.int x :: st) S M := by
  intro p e s m args below meth c D A ex ad0 ac0 ad ac H locs lsA Z C hH hS hg hb hl hZ
  exact lv_if_le C.1 C.2.1 hd ht (fun q => kt q p e s m args below meth c D A ex ad0 ac0 ad ac H locs lsA Z C hH hS hg hb hl hZ) (fun q => kf q p e s m args below meth c D A ex ad0 ac0 ad ac H locs lsA Z C hH hS hg hb hl hZ)
theorem r_icmp_eq {x z : Int32} {off : Int} {tgt : Nat} (hd : decode cc pc = .ok (.if_icmp .eq off, 3)) (ht : (pc : Int) + off = (tgt : Int)) (kt : x = z → RA l b R y cc nL ret Q cells slots tgt ls st S M) (kf : ¬ x = z → RA l b R y cc nL ret Q cells slots (pc + 3) ls st S M) : RA l b R y cc nL ret Q cells slots pc ls (.int z :: .int x :: st) S M := by
  intro p e s m args below meth c D A ex ad0 ac0 ad ac H locs lsA Z C hH hS hg hb hl hZ
  exact lv_icmp_eq C.1 C.2.1 hd ht (fun q => kt q p e s m args below meth c D A ex ad0 ac0 ad ac H locs lsA Z C hH hS hg hb hl hZ) (fun q => kf q p e s m args below meth c D A ex ad0 ac0 ad ac H locs lsA Z C hH hS hg hb hl hZ)
theorem r_icmp_ne {x z : Int32} {off : Int} {tgt : Nat} (hd : decode cc pc = .ok (.if_icmp .ne off, 3)) (ht : (pc : Int) + off = (tgt : Int)) (kt : ¬ x = z → RA l b R y cc nL ret Q cells slots tgt ls st S M) (kf : x = z → RA l b R y cc nL ret Q cells slots (pc + 3) ls st S M) : RA l b R y cc nL ret Q cells slots pc ls (.int z :: .int x :: st) S M := by
  intro p e s m args below meth c D A ex ad0 ac0 ad ac H locs lsA Z C hH hS hg hb hl hZ
  exact lv_icmp_ne C.1 C.2.1 hd ht (fun q => kt q p e s m args below meth c D A ex ad0 ac0 ad ac H locs lsA Z C hH hS hg hb hl hZ) (fun q => kf q p e s m args below meth c D A ex ad0 ac0 ad ac H locs lsA Z C hH hS hg hb hl hZ)
theorem r_icmp_lt {x z : Int32} {off : Int} {tgt : Nat} (hd : decode cc pc = .ok (.if_icmp .lt off, 3)) (ht : (pc : Int) + off = (tgt : Int)) (kt : x < z → RA l b R y cc nL ret Q cells slots tgt ls st S M) (kf : ¬ x < z → RA l b R y cc nL ret Q cells slots (pc + 3) ls st S M) : RA l b R y cc nL ret Q cells slots pc ls (.int z :: .int x :: st) S M := by
  intro p e s m args below meth c D A ex ad0 ac0 ad ac H locs lsA Z C hH hS hg hb hl hZ
  exact lv_icmp_lt C.1 C.2.1 hd ht (fun q => kt q p e s m args below meth c D A ex ad0 ac0 ad ac H locs lsA Z C hH hS hg hb hl hZ) (fun q => kf q p e s m args below meth c D A ex ad0 ac0 ad ac H locs lsA Z C hH hS hg hb hl hZ)
theorem r_icmp_ge {x z : Int32} {off : Int} {tgt : Nat} (hd : decode cc pc = .ok (.if_icmp .ge off, 3)) (ht : (pc : Int) + off = (tgt : Int)) (kt : z ≤ x → RA l b R y cc nL ret Q cells slots tgt ls st S M) (kf : ¬ z ≤ x → RA l b R y cc nL ret Q cells slots (pc + 3) ls st S M) : RA l b R y cc nL ret Q cells slots pc ls (.int z :: .int x :: st) S M := by
  intro p e s m args below meth c D A ex ad0 ac0 ad ac H locs lsA Z C hH hS hg hb hl hZ
  exact lv_icmp_ge C.1 C.2.1 hd ht (fun q => kt q p e s m args below meth c D A ex ad0 ac0 ad ac H locs lsA Z C hH hS hg hb hl hZ) (fun q => kf q p e s m args below meth c D A ex ad0 ac0 ad ac H locs lsA Z C hH hS hg hb hl hZ)
theorem r_icmp_gt {x z : Int32} {off : Int} {tgt : Nat} (hd : decode cc pc = .ok (.if_icmp .gt off, 3)) (ht : (pc : Int) + off = (tgt : Int)) (kt : z < x → RA l b R y cc nL ret Q cells slots tgt ls st S M) (kf : ¬ z < x → RA l b R y cc nL ret Q cells slots (pc + 3) ls st S M) : RA l b R y cc nL ret Q cells slots pc ls (.int z :: .int x :: st) S M := by
  intro p e s m args below meth c D A ex ad0 ac0 ad ac H locs lsA Z C hH hS hg hb hl hZ
  exact lv_icmp_gt C.1 C.2.1 hd ht (fun q => kt q p e s m args below meth c D A ex ad0 ac0 ad ac H locs lsA Z C hH hS hg hb hl hZ) (fun q => kf q p e s m args below meth c D A ex ad0 ac0 ad ac H locs lsA Z C hH hS hg hb hl hZ)
theorem r_icmp_le {x z : Int32} {off : Int} {tgt : Nat} (hd : decode cc pc = .ok (.if_icmp .le off, 3)) (ht : (pc : Int) + off = (tgt : Int)) (kt : x ≤ z → RA l b R y cc nL ret Q cells slots tgt ls st S M) (kf : ¬ x ≤ z → RA l b R y cc nL ret Q cells slots (pc + 3) ls st S M) : RA l b R y cc nL ret Q cells slots pc ls (.int z :: .int x :: st) S M := by
  intro p e s m args below meth c D A ex ad0 ac0 ad ac H locs lsA Z C hH hS hg hb hl hZ
  exact lv_icmp_le C.1 C.2.1 hd ht (fun q => kt q p e s m args below meth c D A ex ad0 ac0 ad ac H locs lsA Z C hH hS hg hb hl hZ) (fun q => kf q p e s m args below meth c D A ex ad0 ac0 ad ac H locs lsA Z C hH hS hg hb hl hZ)
theorem r_goto {off : Int} {tgt : Nat} (hd : decode cc pc = .ok (.goto off, 3)) (ht : (pc : Int) + off = (tgt : Int)) (k : RA l b R y cc nL ret Q cells slots tgt ls st S M) : RA l b R y cc nL ret Q cells slots pc ls st S M := by
  intro p e s m args below meth c D A ex ad0 ac0 ad ac H locs lsA Z C hH hS hg hb hl hZ
  exact lv_goto C.1 C.2.1 hd ht (k p e s m args below meth c D A ex ad0 ac0 ad ac H locs lsA Z C hH hS hg hb hl hZ)
theorem r_ifnull {o : Nat} {off : Int} (hd : decode cc pc = .ok (.ifnull off, 3)) (k : RA l b R y cc nL ret Q cells slots (pc + 3) ls st S M) : RA l b R y cc nL ret Q cells slots pc ls (.ref o :: st) S M := by
  intro p e s m args below meth c D A ex ad0 ac0 ad ac H locs lsA Z C hH hS hg hb hl hZ
  exact lv_ifnull C.1 C.2.1 hd (k p e s m args below meth c D A ex ad0 ac0 ad ac H locs lsA Z C hH hS hg hb hl hZ)
theorem r_ifnullN {off : Int} {tgt : Nat} (hd : decode cc pc = .ok (.ifnull off, 3)) (ht : (pc : Int) + off = (tgt : Int)) (k : RA l b R y cc nL ret Q cells slots tgt ls st S M) : RA l b R y cc nL ret Q cells slots pc ls (.null :: st) S M := by
  intro p e s m args below meth c D A ex ad0 ac0 ad ac H locs lsA Z C hH hS hg hb hl hZ
  exact lv_ifnullN C.1 C.2.1 hd ht (k p e s m args below meth c D A ex ad0 ac0 ad ac H locs lsA Z C hH hS hg hb hl hZ)
theorem r_ifnonnull {o : Nat} {off : Int} {tgt : Nat} (hd : decode cc pc = .ok (.ifnonnull off, 3)) (ht : (pc : Int) + off = (tgt : Int)) (k : RA l b R y cc nL ret Q cells slots tgt ls st S M) : RA l b R y cc nL ret Q cells slots pc ls (.ref o :: st) S M := by
  intro p e s m args below meth c D A ex ad0 ac0 ad ac H locs lsA Z C hH hS hg hb hl hZ
  exact lv_ifnonnull C.1 C.2.1 hd ht (k p e s m args below meth c D A ex ad0 ac0 ad ac H locs lsA Z C hH hS hg hb hl hZ)
theorem r_ifnonnullN {off : Int} (hd : decode cc pc = .ok (.ifnonnull off, 3)) (k : RA l b R y cc nL ret Q cells slots (pc + 3) ls st S M) : RA l b R y cc nL ret Q cells slots pc ls (.null :: st) S M := by
  intro p e s m args below meth c D A ex ad0 ac0 ad ac H locs lsA Z C hH hS hg hb hl hZ
  exact lv_ifnonnullN C.1 C.2.1 hd (k p e s m args below meth c D A ex ad0 ac0 ad ac H locs lsA Z C hH hS hg hb hl hZ)
theorem r_tabOut {dflt lo hi : Int} {offs : Array Int} {len : Nat} {x : Int32} {tgt : Nat} (hd : decode cc pc = .ok (.tableswitch dflt lo hi offs, len)) (h : x.toInt < lo ∨ hi < x.toInt) (ht : (pc : Int) + dflt = (tgt : Int)) (k : RA l b R y cc nL ret Q cells slots tgt ls st S M) : RA l b R y cc nL ret Q cells slots pc ls (.int x :: st) S M := by
  intro p e s m args below meth c D A ex ad0 ac0 ad ac H locs lsA Z C hH hS hg hb hl hZ
  exact lv_tableOut C.1 C.2.1 hd h ht (k p e s m args below meth c D A ex ad0 ac0 ad ac H locs lsA Z C hH hS hg hb hl hZ)
theorem r_tabIn {dflt lo hi : Int} {offs : Array Int} {len : Nat} {x : Int32} {off : Int} {tgt : Nat} (hd : decode cc pc = .ok (.tableswitch dflt lo hi offs, len)) (h1 : ¬ x.toInt < lo) (h2 : ¬ hi < x.toInt) (ho : offs[(x.toInt - lo).toNat]? = some off) (ht : (pc : Int) + off = (tgt : Int)) (k : RA l b R y cc nL ret Q cells slots tgt ls st S M) : RA l b R y cc nL ret Q cells slots pc ls (.int x :: st) S M := by
  intro p e s m args below meth c D A ex ad0 ac0 ad ac H locs lsA Z C hH hS hg hb hl hZ
  exact lv_tableIn C.1 C.2.1 hd h1 h2 ho ht (k p e s m args below meth c D A ex ad0 ac0 ad ac H locs lsA Z C hH hS hg hb hl hZ)
theorem r_iret {v : Int32} (hd : decode cc pc = .ok (.ireturn, 1)) (hr : ret = some .int) (hc : cells ≤ R.cells) (hs : slots ≤ R.slots) (k : Q (some (.int v)) S M) : RA l b R y cc nL ret Q cells slots pc ls [.int v] S M := by
  intro p e s m args below meth c D A ex ad0 ac0 ad ac H locs lsA Z C hH hS hg hb hl hZ
  exact hZ _ S M ad ac H locs cells slots pc lsA k hH hS hg hc hs ⟨⟨.int, hr, rfl⟩, hd⟩
theorem r_zret {v : Int32} (hd : decode cc pc = .ok (.ireturn, 1)) (hr : ret = some .boolean) (hv : v = 0 ∨ v = 1) (hc : cells ≤ R.cells) (hs : slots ≤ R.slots) (k : Q (some (.int v)) S M) : RA l b R y cc nL ret Q cells slots pc ls [.int v] S M := by
  intro p e s m args below meth c D A ex ad0 ac0 ad ac H locs lsA Z C hH hS hg hb hl hZ
  exact hZ _ S M ad ac H locs cells slots pc lsA k hH hS hg hc hs ⟨⟨.boolean, hr, by rcases hv with rfl | rfl <;> decide⟩, hd⟩
theorem r_lret {v : Int64} (hd : decode cc pc = .ok (.lreturn, 1)) (hr : ret = some .long) (hc : cells ≤ R.cells) (hs : slots ≤ R.slots) (k : Q (some (.long v)) S M) : RA l b R y cc nL ret Q cells slots pc ls [.long v] S M := by
  intro p e s m args below meth c D A ex ad0 ac0 ad ac H locs lsA Z C hH hS hg hb hl hZ
  exact hZ _ S M ad ac H locs cells slots pc lsA k hH hS hg hc hs ⟨hr, hd⟩
theorem r_vret (hd : decode cc pc = .ok (.return_, 1)) (hr : ret = none) (hc : cells ≤ R.cells) (hs : slots ≤ R.slots) (k : Q none S M) : RA l b R y cc nL ret Q cells slots pc ls [] S M := by
  intro p e s m args below meth c D A ex ad0 ac0 ad ac H locs lsA Z C hH hS hg hb hl hZ
  exact hZ _ S M ad ac H locs cells slots pc lsA k hH hS hg hc hs ⟨hr, hd⟩
end RAW
