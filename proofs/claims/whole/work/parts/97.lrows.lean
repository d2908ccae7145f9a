/-- as RA, and the script is known -/
def LA (gg : State → (Nat → Prop) → (UInt32 → Nat) → Prop) (l : Launch) (b : Option Nat) (R : Room) (y : MethodName) (cc : ByteArray) (nL : Nat) (ret : Option FieldType) (Q : Option Value → List zC → zM → Prop) (cells slots : Nat) (pc : Nat) (ls : List (Option Value)) (st : List Value) (S : List zC) (M : zM) : Prop :=
  ∀ (p : Program) (e : Env) (s : State) (m : MethodId) (args : Array Value) (below : List Frame) (meth : Method) (c : Code) (D : va_G) (A : Nat → Prop) (ex : UInt32 → Nat) (ad0 : Nat → Nat) (ac0 : Nat → ClassId) (ad : Nat → Nat) (ac : Nat → ClassId) (H : Heap) (locs : List Loc) (lsA : Array Slot) (Z : State → Prop),
    gg s A ex → zCtx y cc nL ret p s m args meth c A ex → zH D A ad ac S M s H → va_S A s.heap H locs → zag b ad0 ad ac0 ac → (∀ q, b = some q → q ≤ S.length) → zlv ad ex lsA nL ls →
    (∀ (v : Option Value) (S' : List zC) (M' : zM) (ad' : Nat → Nat) (ac' : Nat → ClassId) (H' : Heap) (locs' : List Loc) (k' n' pc' : Nat) (ls' : Array Slot), Q v S' M' → zH D A ad' ac' S' M' s H' → va_S A s.heap H' locs' → zag b ad0 ad' ac0 ac' → k' ≤ R.cells → n' ≤ R.slots → zretd cc ret pc' v → W p l e R s m args below meth c H' locs' k' n' Z (F0 m pc' ls' (zrst v))) →
    W p l e R s m args below meth c H locs cells slots Z (F0 m pc lsA (st.map (zv ad ex)))
section LROW
variable {gg : State → (Nat → Prop) → (UInt32 → Nat) → Prop} {l : Launch} {b : Option Nat} {R : Room} {y : MethodName} {cc : ByteArray} {nL : Nat} {ret : Option FieldType} {Q : Option Value → List zC → zM → Prop} {cells slots pc : Nat} {ls : List (Option Value)} {st : List Value} {S : List zC} {M : zM}
theorem L_iconst {n : Int} {v : Int32} (hd : decode cc pc = .ok (.iconst n, 1)) (hv : Int32.ofInt n = v) (k : LA gg l b R y cc nL ret Q cells slots (pc + 1) ls (.int v :: st) S M) : LA gg l b R y cc nL ret Q cells slots pc ls st S M := by
  intro p e s m args below meth c D A ex ad0 ac0 ad ac H locs lsA Z gG C hH hS hg hb hl hZ
  exact lv_iconst C.1 C.2.1 hd hv (k p e s m args below meth c D A ex ad0 ac0 ad ac H locs lsA Z gG C hH hS hg hb hl hZ)
theorem L_bipush {n : Int} {v : Int32} (hd : decode cc pc = .ok (.bipush n, 2)) (hv : (Int8.ofInt n).toInt32 = v) (k : LA gg l b R y cc nL ret Q cells slots (pc + 2) ls (.int v :: st) S M) : LA gg l b R y cc nL ret Q cells slots pc ls st S M := by
  intro p e s m args below meth c D A ex ad0 ac0 ad ac H locs lsA Z gG C hH hS hg hb hl hZ
  exact lv_bipush C.1 C.2.1 hd hv (k p e s m args below meth c D A ex ad0 ac0 ad ac H locs lsA Z gG C hH hS hg hb hl hZ)
theorem L_ldc2 {index : Nat} {v : Int64} (hw : Cond.constantLong y.cls index v ∈ zT) (hd : decode cc pc = .ok (.ldc2_w index, 3)) (k : LA gg l b R y cc nL ret Q cells slots (pc + 3) ls (.long v :: st) S M) : LA gg l b R y cc nL ret Q cells slots pc ls st S M := by
  intro p e s m args below meth c D A ex ad0 ac0 ad ac H locs lsA Z gG C hH hS hg hb hl hZ
  exact lv_ldc2 C.1 C.2.1 C.2.2.2.1 (C.2.2.2.2.1 _ hw) hd (k p e s m args below meth c D A ex ad0 ac0 ad ac H locs lsA Z gG C hH hS hg hb hl hZ)
theorem L_iload_n {q : Fin 4} {i : Nat} {x : Int32} (hd : decode cc pc = .ok (.iload_n q, 1)) (hi : (q : Nat) = i) (hv : zg ls i = some (.int x)) (k : LA gg l b R y cc nL ret Q cells slots (pc + 1) ls (.int x :: st) S M) : LA gg l b R y cc nL ret Q cells slots pc ls st S M := by
  intro p e s m args below meth c D A ex ad0 ac0 ad ac H locs lsA Z gG C hH hS hg hb hl hZ
  exact lv_iload_n C.1 C.2.1 hd hi (hl.at hv) (k p e s m args below meth c D A ex ad0 ac0 ad ac H locs lsA Z gG C hH hS hg hb hl hZ)
theorem L_aload_n {q : Fin 4} {i : Nat} {x : Nat} (hd : decode cc pc = .ok (.aload_n q, 1)) (hi : (q : Nat) = i) (hv : zg ls i = some (.ref x)) (k : LA gg l b R y cc nL ret Q cells slots (pc + 1) ls (.ref x :: st) S M) : LA gg l b R y cc nL ret Q cells slots pc ls st S M := by
  intro p e s m args below meth c D A ex ad0 ac0 ad ac H locs lsA Z gG C hH hS hg hb hl hZ
  exact lv_aload_n C.1 C.2.1 hd hi (hl.at hv) (k p e s m args below meth c D A ex ad0 ac0 ad ac H locs lsA Z gG C hH hS hg hb hl hZ)
theorem L_aload_nX {q : Fin 4} {i : Nat} {x : UInt32} (hd : decode cc pc = .ok (.aload_n q, 1)) (hi : (q : Nat) = i) (hv : zg ls i = some (.float x)) (k : LA gg l b R y cc nL ret Q cells slots (pc + 1) ls (.float x :: st) S M) : LA gg l b R y cc nL ret Q cells slots pc ls st S M := by
  intro p e s m args below meth c D A ex ad0 ac0 ad ac H locs lsA Z gG C hH hS hg hb hl hZ
  exact lv_aload_n C.1 C.2.1 hd hi (hl.at hv) (k p e s m args below meth c D A ex ad0 ac0 ad ac H locs lsA Z gG C hH hS hg hb hl hZ)
theorem L_istore_n {q : Fin 4} {i : Nat} {x : Int32} (hd : decode cc pc = .ok (.istore_n q, 1)) (hi : (q : Nat) = i) (hk : zok ls i = true) (hn : i < nL) (k : LA gg l b R y cc nL ret Q cells slots (pc + 1) (zs ls i (.int x)) st S M) : LA gg l b R y cc nL ret Q cells slots pc ls (.int x :: st) S M := by
  intro p e s m args below meth c D A ex ad0 ac0 ad ac H locs lsA Z gG C hH hS hg hb hl hZ
  exact lv_istore_n C.1 C.2.1 hd hi hl.has hn rfl (fun ls2 h2 => k p e s m args below meth c D A ex ad0 ac0 ad ac H locs ls2 Z gG C hH hS hg hb (zlv.put (lsA := lsA) (v := .int x) hk h2) hZ)
theorem L_astore_n {q : Fin 4} {i : Nat} {x : Nat} (hd : decode cc pc = .ok (.astore_n q, 1)) (hi : (q : Nat) = i) (hk : zok ls i = true) (hn : i < nL) (k : LA gg l b R y cc nL ret Q cells slots (pc + 1) (zs ls i (.ref x)) st S M) : LA gg l b R y cc nL ret Q cells slots pc ls (.ref x :: st) S M := by
  intro p e s m args below meth c D A ex ad0 ac0 ad ac H locs lsA Z gG C hH hS hg hb hl hZ
  exact lv_astore_n C.1 C.2.1 hd hi hl.has hn rfl (fun ls2 h2 => k p e s m args below meth c D A ex ad0 ac0 ad ac H locs ls2 Z gG C hH hS hg hb (zlv.put (lsA := lsA) (v := .ref x) hk h2) hZ)
theorem L_iinc {i : Nat} {n : Int} {x v : Int32} (hd : decode cc pc = .ok (.iinc i n, 3)) (hv : zg ls i = some (.int x)) (he : x + Int32.ofInt n = v) (hk : zok ls i = true) (hn : i < nL) (k : LA gg l b R y cc nL ret Q cells slots (pc + 3) (zs ls i (.int v)) st S M) : LA gg l b R y cc nL ret Q cells slots pc ls st S M := by
  intro p e s m args below meth c D A ex ad0 ac0 ad ac H locs lsA Z gG C hH hS hg hb hl hZ
  obtain ⟨q, hq⟩ := List.getElem?_of_mem (mem_zloc (ad := ad) (ex := ex) (q := (i, zv ad ex (.int x))) |>.mpr ⟨.int x, zg_some hv, rfl⟩)
  exact lv_iinc C.1 C.2.1 hd hl.has hq he hn rfl (fun ls2 h2 => k p e s m args below meth c D A ex ad0 ac0 ad ac H locs ls2 Z gG C hH hS hg hb (zlv.put (lsA := lsA) (v := .int v) hk h2) hZ)
theorem L_iadd {x z : Int32} (hd : decode cc pc = .ok (.iadd, 1)) (k : LA gg l b R y cc nL ret Q cells slots (pc + 1) ls (.int (x + z) :: st) S M) : LA gg l b R y cc nL ret Q cells slots pc ls (.int z :: .int x :: st) S M := by
  intro p e s m args below meth c D A ex ad0 ac0 ad ac H locs lsA Z gG C hH hS hg hb hl hZ
  exact lv_iadd C.1 C.2.1 hd (k p e s m args below meth c D A ex ad0 ac0 ad ac H locs lsA Z gG C hH hS hg hb hl hZ)
theorem L_isub {x z : Int32} (hd : decode cc pc = .ok (.isub, 1)) (k : LA gg l b R y cc nL ret Q cells slots (pc + 1) ls (.int (x - z) :: st) S M) : LA gg l b R y cc nL ret Q cells slots pc ls (.int z :: .int x :: st) S M := by
  intro p e s m args below meth c D A ex ad0 ac0 ad ac H locs lsA Z gG C hH hS hg hb hl hZ
  exact lv_isub C.1 C.2.1 hd (k p e s m args below meth c D A ex ad0 ac0 ad ac H locs lsA Z gG C hH hS hg hb hl hZ)
theorem L_iand {x z : Int32} (hd : decode cc pc = .ok (.iand, 1)) (k : LA gg l b R y cc nL ret Q cells slots (pc + 1) ls (.int (x &&& z) :: st) S M) : LA gg l b R y cc nL ret Q cells slots pc ls (.int z :: .int x :: st) S M := by
  intro p e s m args below meth c D A ex ad0 ac0 ad ac H locs lsA Z gG C hH hS hg hb hl hZ
  exact lv_iand C.1 C.2.1 hd (k p e s m args below meth c D A ex ad0 ac0 ad ac H locs lsA Z gG C hH hS hg hb hl hZ)
theorem L_land {x z : Int64} (hd : decode cc pc = .ok (.land, 1)) (k : LA gg l b R y cc nL ret Q cells slots (pc + 1) ls (.long (x &&& z) :: st) S M) : LA gg l b R y cc nL ret Q cells slots pc ls (.long z :: .long x :: st) S M := by
  intro p e s m args below meth c D A ex ad0 ac0 ad ac H locs lsA Z gG C hH hS hg hb hl hZ
  exact lv_land C.1 C.2.1 hd (k p e s m args below meth c D A ex ad0 ac0 ad ac H locs lsA Z gG C hH hS hg hb hl hZ)
theorem L_lor {x z : Int64} (hd : decode cc pc = .ok (.lor, 1)) (k : LA gg l b R y cc nL ret Q cells slots (pc + 1) ls (.long (x ||| z) :: st) S M) : LA gg l b R y cc nL ret Q cells slots pc ls (.long z :: .long x :: st) S M := by
  intro p e s m args below meth c D A ex ad0 ac0 ad ac H locs lsA Z gG C hH hS hg hb hl hZ
  exact lv_lor C.1 C.2.1 hd (k p e s m args below meth c D A ex ad0 ac0 ad ac H locs lsA Z gG C hH hS hg hb hl hZ)
theorem L_lshl {x v : Int64} {z : Int32} (hd : decode cc pc = .ok (.lshl, 1)) (hv : x <<< (z.toInt64 &&& 63) = v) (k : LA gg l b R y cc nL ret Q cells slots (pc + 1) ls (.long v :: st) S M) : LA gg l b R y cc nL ret Q cells slots pc ls (.int z :: .long x :: st) S M := by
  intro p e s m args below meth c D A ex ad0 ac0 ad ac H locs lsA Z gG C hH hS hg hb hl hZ
  exact lv_lshl C.1 C.2.1 hd hv (k p e s m args below meth c D A ex ad0 ac0 ad ac H locs lsA Z gG C hH hS hg hb hl hZ)
theorem L_i2l {x : Int32} {v : Int64} (hd : decode cc pc = .ok (.i2l, 1)) (hv : x.toInt64 = v) (k : LA gg l b R y cc nL ret Q cells slots (pc + 1) ls (.long v :: st) S M) : LA gg l b R y cc nL ret Q cells slots pc ls (.int x :: st) S M := by
  intro p e s m args below meth c D A ex ad0 ac0 ad ac H locs lsA Z gG C hH hS hg hb hl hZ
  exact lv_i2l C.1 C.2.1 hd hv (k p e s m args below meth c D A ex ad0 ac0 ad ac H locs lsA Z gG C hH hS hg hb hl hZ)
theorem L_dup {va : Value} (hd : decode cc pc = .ok (.dup, 1)) (hva : va.category = 1) (k : LA gg l b R y cc nL ret Q cells slots (pc + 1) ls (va :: va :: st) S M) : LA gg l b R y cc nL ret Q cells slots pc ls (va :: st) S M := by
  intro p e s m args below meth c D A ex ad0 ac0 ad ac H locs lsA Z gG C hH hS hg hb hl hZ
  exact lv_dup C.1 C.2.1 hd ((zv_cat ad ex va).trans hva) (k p e s m args below meth c D A ex ad0 ac0 ad ac H locs lsA Z gG C hH hS hg hb hl hZ)
theorem L_icmp_eq {x z : Int32} {off : Int} {tgt : Nat} (hd : decode cc pc = .ok (.if_icmp .eq off, 3)) (ht : (pc : Int) + off = (tgt : Int)) (kt : x = z → LA gg l b R y cc nL ret Q cells slots tgt ls st S M) (kf : ¬ x = z → LA gg l b R y cc nL ret Q cells slots (pc + 3) ls st S M) : LA gg l b R y cc nL ret Q cells slots pc ls (.int z :: .int x :: st) S M := by
  intro p e s m args below meth c D A ex ad0 ac0 ad ac H locs lsA Z gG C hH hS hg hb hl hZ
  exact lv_icmp_eq C.1 C.2.1 hd ht (fun q => kt q p e s m args below meth c D A ex ad0 ac0 ad ac H locs lsA Z gG C hH hS hg hb hl hZ) (fun q => kf q p e s m args below meth c D A ex ad0 ac0 ad ac H locs lsA Z gG C hH hS hg hb hl hZ)
theorem L_icmp_gt {x z : Int32} {off : Int} {tgt : Nat} (hd : decode cc pc = .ok (.if_icmp .gt off, 3)) (ht : (pc : Int) + off = (tgt : Int)) (kt : z < x → LA gg l b R y cc nL ret Q cells slots tgt ls st S M) (kf : ¬ z < x → LA gg l b R y cc nL ret Q cells slots (pc + 3) ls st S M) : LA gg l b R y cc nL ret Q cells slots pc ls (.int z :: .int x :: st) S M := by
  intro p e s m args below meth c D A ex ad0 ac0 ad ac H locs lsA Z gG C hH hS hg hb hl hZ
  exact lv_icmp_gt C.1 C.2.1 hd ht (fun q => kt q p e s m args below meth c D A ex ad0 ac0 ad ac H locs lsA Z gG C hH hS hg hb hl hZ) (fun q => kf q p e s m args below meth c D A ex ad0 ac0 ad ac H locs lsA Z gG C hH hS hg hb hl hZ)
theorem L_goto {off : Int} {tgt : Nat} (hd : decode cc pc = .ok (.goto off, 3)) (ht : (pc : Int) + off = (tgt : Int)) (k : LA gg l b R y cc nL ret Q cells slots tgt ls st S M) : LA gg l b R y cc nL ret Q cells slots pc ls st S M := by
  intro p e s m args below meth c D A ex ad0 ac0 ad ac H locs lsA Z gG C hH hS hg hb hl hZ
  exact lv_goto C.1 C.2.1 hd ht (k p e s m args below meth c D A ex ad0 ac0 ad ac H locs lsA Z gG C hH hS hg hb hl hZ)
theorem L_tabOut {dflt lo hi : Int} {offs : Array Int} {len : Nat} {x : Int32} {tgt : Nat} (hd : decode cc pc = .ok (.tableswitch dflt lo hi offs, len)) (h : x.toInt < lo ∨ hi < x.toInt) (ht : (pc : Int) + dflt = (tgt : Int)) (k : LA gg l b R y cc nL ret Q cells slots tgt ls st S M) : LA gg l b R y cc nL ret Q cells slots pc ls (.int x :: st) S M := by
  intro p e s m args below meth c D A ex ad0 ac0 ad ac H locs lsA Z gG C hH hS hg hb hl hZ
  exact lv_tableOut C.1 C.2.1 hd h ht (k p e s m args below meth c D A ex ad0 ac0 ad ac H locs lsA Z gG C hH hS hg hb hl hZ)
theorem L_tabIn {dflt lo hi : Int} {offs : Array Int} {len : Nat} {x : Int32} {off : Int} {tgt : Nat} (hd : decode cc pc = .ok (.tableswitch dflt lo hi offs, len)) (h1 : ¬ x.toInt < lo) (h2 : ¬ hi < x.toInt) (ho : offs[(x.toInt - lo).toNat]? = some off) (ht : (pc : Int) + off = (tgt : Int)) (k : LA gg l b R y cc nL ret Q cells slots tgt ls st S M) : LA gg l b R y cc nL ret Q cells slots pc ls (.int x :: st) S M := by
  intro p e s m args below meth c D A ex ad0 ac0 ad ac H locs lsA Z gG C hH hS hg hb hl hZ
  exact lv_tableIn C.1 C.2.1 hd h1 h2 ho ht (k p e s m args below meth c D A ex ad0 ac0 ad ac H locs lsA Z gG C hH hS hg hb hl hZ)
theorem L_zret {v : Int32} (hd : decode cc pc = .ok (.ireturn, 1)) (hr : ret = some .boolean) (hv : v = 0 ∨ v = 1) (hc : cells ≤ R.cells) (hs : slots ≤ R.slots) (k : Q (some (.int v)) S M) : LA gg l b R y cc nL ret Q cells slots pc ls [.int v] S M := by
  intro p e s m args below meth c D A ex ad0 ac0 ad ac H locs lsA Z gG C hH hS hg hb hl hZ
  exact hZ _ S M ad ac H locs cells slots pc lsA k hH hS hg hc hs ⟨⟨.boolean, hr, by rcases hv with rfl | rfl <;> decide⟩, hd⟩
theorem L_top {v v' : Value} (e : v = v') (k : LA gg l b R y cc nL ret Q cells slots pc ls (v' :: st) S M) : LA gg l b R y cc nL ret Q cells slots pc ls (v :: st) S M := e ▸ k
end LROW
set_option maxHeartbeats 4000000 in
theorem LA.back {gg : State → (Nat → Prop) → (UInt32 → Nat) → Prop} {l : Launch} {b : Option Nat} {R : Room} {y : MethodName} {cc : ByteArray} {nL : Nat} {ret : Option FieldType} {Q : Option Value → List zC → zM → Prop} {cells slots pc : Nat} {ls : List (Option Value)} {st : List Value} {S : List zC} {M : zM} {mc ms : Nat} {Q' : Option Value → List zC → zM → Prop} {p : Program} {e : Env} {s : State} {m : MethodId} {args : Array Value} {below : List Frame} {meth : Method} {c : Code} {D : va_G} {A : Nat → Prop} {ex : UInt32 → Nat} {ad0 : Nat → Nat} {ac0 : Nat → ClassId} {ad : Nat → Nat} {ac : Nat → ClassId} {H : Heap} {locs : List Loc} {lsA : Array Slot} {Z : State → Prop} {st0 : List Value} {aa : Array Value}
    (hr : va_Run p l e R s m args below meth c H locs cells slots mc ms (F0 m pc lsA st0) (st.map (zv ad ex)) (zQc D ad ac S M H.size false Q' aa) (va_A (zW ad ac S M) H.size))
    (gG : gg s A ex) (C : zCtx y cc nL ret p s m args meth c A ex) (hH : zH D A ad ac S M s H) (hS : va_S A s.heap H locs) (hg : zag b ad0 ad ac0 ac) (hl : zlv ad ex lsA nL ls)
    (hZ : ∀ (v : Option Value) (S' : List zC) (M' : zM) (ad' : Nat → Nat) (ac' : Nat → ClassId) (H' : Heap) (locs' : List Loc) (k' n' pc' : Nat) (ls' : Array Slot), Q v S' M' → zH D A ad' ac' S' M' s H' → va_S A s.heap H' locs' → zag b ad0 ad' ac0 ac' → k' ≤ R.cells → n' ≤ R.slots → zretd cc ret pc' v → W p l e R s m args below meth c H' locs' k' n' Z (F0 m pc' ls' (zrst v)))
    (kk : ∀ v S' M', Q' v S' M' → LA gg l b R y cc nL ret Q (cells + mc) (slots + ms) (pc + 3) ls (zrst v ++ st) S' M' ∧ (∀ q, b = some q → q ≤ S'.length)) :
    W p l e R s m args below meth c H locs cells slots Z (F0 m pc lsA st0) := by
  intro T hT X
  obtain ⟨v, st₀, t, T', L, h0, X', hL, e1, e2, ⟨⟨v2, S', M', ad', ac', hv, hok, hq, hag, hH'⟩, hz, hk⟩, stp⟩ := hr T hT X
  cases hv
  rw [h0] at hz hk
  obtain ⟨rfl, rfl⟩ := hag
  have hAA : ∀ q, va_A (zW ad' ac' S M) H.size q → A q := by
    intro q hq
    rcases hq with ⟨k, e, hk⟩ | hq
    · exact hH.2.2.2.2 k (q, e) hk
    · exact C.2.2.2.2.2.2.2.2.1 q (Nat.le_trans hS.1 hq)
  have hvm : t.vm.Alike s.vm := by rw [← e2]; exact X'.warmed.alike.symm
  have hH2 : zH D A ad' ac' S' M' s T'.heap := ⟨va_K.moved hvm hH'.1, fun i k n hi => ⟨arrOfT_moved hvm (hH'.2.1 i k n hi).1, (hH'.2.1 i k n hi).2.moved hvm⟩, by rw [e1]; exact hH'.2.2.1, hH'.2.2.2.weaken (fun _ _ _ h => hAA _ h)⟩
  have hS2 : va_S A s.heap T'.heap (locs ++ L) := ⟨Nat.le_trans hS.1 (by rw [e1]; exact hz), fun q h1 h2 => by rw [e1, hk q (Nat.lt_of_lt_of_le h1 hS.1) (fun z => h2 (hAA q z))]; exact hS.2.1 q h1 h2, fun q hq => by
      rcases List.mem_append.mp hq with h | h
      · exact hS.2.2 q h
      · exact hAA _ (hL q h)⟩
  have hk2 := kk v S' M' hq
  have hst : v.toList ++ st.map (zv ad' ex) = (zrst v ++ st).map (zv ad' ex) := by
    match v, hok with
    | none, _ => rfl
    | some (.int v), _ => rfl
    | some (.long v), _ => rfl
  obtain ⟨t2, a1, b1⟩ := hk2.1 p e s m args below meth c D A ex ad0 ac0 ad' ac' T'.heap (locs ++ L) lsA Z gG C hH2 hS2 hg hk2.2 hl hZ T' rfl X'
  refine ⟨t2, stp t2 ?_, b1⟩
  show Steps p.tables e below (T'.setTop { method := m, pc := pc + 3, locals := lsA, stack := v.toList ++ st.map (zv ad' ex), locked := none }) t2
  rw [hst]
  exact a1
set_option maxHeartbeats 4000000 in
theorem LA.backA {gg : State → (Nat → Prop) → (UInt32 → Nat) → Prop} {l : Launch} {b0 : Nat} {R : Room} {y : MethodName} {cc : ByteArray} {nL : Nat} {ret : Option FieldType} {Q : Option Value → List zC → zM → Prop} {cells slots pc : Nat} {ls : List (Option Value)} {st : List Value} {S : List zC} {M : zM} {mc ms : Nat} {Q' : Option Value → List zC → zM → Prop} {p : Program} {e : Env} {s : State} {m : MethodId} {args : Array Value} {below : List Frame} {meth : Method} {c : Code} {D : va_G} {A : Nat → Prop} {ex : UInt32 → Nat} {ad0 : Nat → Nat} {ac0 : Nat → ClassId} {ad : Nat → Nat} {ac : Nat → ClassId} {H : Heap} {locs : List Loc} {lsA : Array Slot} {Z : State → Prop} {st0 : List Value} {aa : Array Value}
    (hr : va_Run p l e R s m args below meth c H locs cells slots mc ms (F0 m pc lsA st0) (st.map (zv ad ex)) (zQc D ad ac S M H.size true Q' aa) (va_A (zW ad ac S M) H.size))
    (gG : gg s A ex) (C : zCtx y cc nL ret p s m args meth c A ex) (hH : zH D A ad ac S M s H) (hS : va_S A s.heap H locs) (hg : zag (some b0) ad0 ad ac0 ac) (hb : b0 ≤ S.length) (hl : zlv ad ex lsA nL ls) (hls : ∀ v, some v ∈ ls → vwf S.length v) (hst9 : ∀ v ∈ st, vwf S.length v)
    (hZ : ∀ (v : Option Value) (S' : List zC) (M' : zM) (ad' : Nat → Nat) (ac' : Nat → ClassId) (H' : Heap) (locs' : List Loc) (k' n' pc' : Nat) (ls' : Array Slot), Q v S' M' → zH D A ad' ac' S' M' s H' → va_S A s.heap H' locs' → zag (some b0) ad0 ad' ac0 ac' → k' ≤ R.cells → n' ≤ R.slots → zretd cc ret pc' v → W p l e R s m args below meth c H' locs' k' n' Z (F0 m pc' ls' (zrst v)))
    (kk : ∀ v S' M', Q' v S' M' → LA gg l (some b0) R y cc nL ret Q (cells + mc) (slots + ms) (pc + 3) ls (zrst v ++ st) S' M' ∧ b0 ≤ S'.length) :
    W p l e R s m args below meth c H locs cells slots Z (F0 m pc lsA st0) := by
  intro T hT X
  obtain ⟨v, st₀, t, T', L, h0, X', hL, e1, e2, ⟨⟨v2, S', M', ad', ac', hv, hok, hq, hag, hH'⟩, hz, hk⟩, stp⟩ := hr T hT X
  cases hv
  rw [h0] at hz hk
  have hag : zag (some S.length) ad ad' ac ac' := hag
  have hAA : ∀ q, va_A (zW ad ac S M) H.size q → A q := by
    intro q hq
    rcases hq with ⟨k, e, hk⟩ | hq
    · exact hH.2.2.2.2 k (q, e) hk
    · exact C.2.2.2.2.2.2.2.2.1 q (Nat.le_trans hS.1 hq)
  have hvm : t.vm.Alike s.vm := by rw [← e2]; exact X'.warmed.alike.symm
  have hH2 : zH D A ad' ac' S' M' s T'.heap := ⟨va_K.moved hvm hH'.1, fun i k n hi => ⟨arrOfT_moved hvm (hH'.2.1 i k n hi).1, (hH'.2.1 i k n hi).2.moved hvm⟩, by rw [e1]; exact hH'.2.2.1, hH'.2.2.2.weaken (fun _ _ _ h => hAA _ h)⟩
  have hS2 : va_S A s.heap T'.heap (locs ++ L) := ⟨Nat.le_trans hS.1 (by rw [e1]; exact hz), fun q h1 h2 => by rw [e1, hk q (Nat.lt_of_lt_of_le h1 hS.1) (fun z => h2 (hAA q z))]; exact hS.2.1 q h1 h2, fun q hq => by
      rcases List.mem_append.mp hq with h | h
      · exact hS.2.2 q h
      · exact hAA _ (hL q h)⟩
  have hk2 := kk v S' M' hq
  have hst1 : st.map (zv ad' ex) = st.map (zv ad ex) := List.map_congr_left (fun v hv => zv_ag hag (hst9 v hv))
  have hl2 : zlv ad' ex lsA nL ls := ⟨hl.1, hl.2.1, fun i v hi => by rw [zv_ag hag (hls v (List.mem_of_getElem? hi))]; exact hl.2.2 i v hi⟩
  have hg2 : zag (some b0) ad0 ad' ac0 ac' := fun i hi => ⟨(hag i (by omega)).1.trans (hg i hi).1, (hag i (by omega)).2.trans (hg i hi).2⟩
  have hst : v.toList ++ st.map (zv ad ex) = (zrst v ++ st).map (zv ad' ex) := by
    rw [List.map_append, hst1]
    match v, hok with
    | none, _ => rfl
    | some (.int v), _ => rfl
    | some (.long v), _ => rfl
  obtain ⟨t2, a1, b1⟩ := hk2.1 p e s m args below meth c D A ex ad0 ac0 ad' ac' T'.heap (locs ++ L) lsA Z gG C hH2 hS2 hg2 (fun q hq => by cases hq; exact hk2.2) hl2 hZ T' rfl X'
  refine ⟨t2, stp t2 ?_, b1⟩
  show Steps p.tables e below (T'.setTop { method := m, pc := pc + 3, locals := lsA, stack := v.toList ++ st.map (zv ad ex), locked := none }) t2
  rw [hst]
  exact a1
section LCALL
variable {gg : State → (Nat → Prop) → (UInt32 → Nat) → Prop} {l : Launch} {b : Option Nat} {R : Room} {y : MethodName} {cc : ByteArray} {nL : Nat} {ret : Option FieldType} {Q : Option Value → List zC → zM → Prop} {cells slots pc : Nat} {ls : List (Option Value)} {st : List Value} {S : List zC} {M : zM}
variable {st0 : List Value} {d mc ms index n nL' : Nat} {y' : MethodName} {cc' : ByteArray} {ret' : Option FieldType} {as : List Value} {Q' : Option Value → List zC → zM → Prop}
set_option maxHeartbeats 4000000 in
theorem L_callV {o ci : Nat} {fl : List (Option (Option Nat))} {T : u_T} {N : Nat} (hm : zMV y' cc' nL' ret' n) (hlk : Cond.methodLink y.cls index y' ∈ zT) (hC : CT l false d mc ms y' cc' nL' ret' (.ref o :: as) S M Q') (hd : decode cc pc = .ok (.invokevirtual index, 3)) (hn : as.length = n) (hst : st0 = as.reverse ++ .ref o :: st) (hro : (st.map fun v => v.category).sum ≤ 8) (hR : d + 1 ≤ R.frames ∧ 8 + (nL' + 11) + 37 * d ≤ R.locals) (hcs : cells + mc ≤ R.cells ∧ slots + ms ≤ R.slots) (hc : S[o]? = some (.inr (ci, fl))) (hcl : vwCl[ci]? = some (y'.cls, T, N)) (kk : ∀ v S' M', Q' v S' M' → LA gg l b R y cc nL ret Q (cells + mc) (slots + ms) (pc + 3) ls (zrst v ++ st) S' M' ∧ (∀ q, b = some q → q ≤ S'.length)) : LA gg l b R y cc nL ret Q cells slots pc ls st0 S M := by
  intro p e s m args below meth c D A ex ad0 ac0 ad ac H locs lsA Z gG C hH hS hg hb hl hZ
  subst hst
  have hrun := va_runV (g := F0 m pc lsA ((as.reverse ++ .ref o :: st).map (zv ad ex))) (rest := st.map (zv ad ex)) (As := as.map (zv ad ex)) (b := ad o) ⟨C.1, C.2.1, C.2.2.1, C.2.2.2.1, C.2.2.2.2.1⟩ (hC D ex ad ac H.size) (cwV (C := y'.cls) n C.2.2.2.2.1 (zT_good (ws := wsV y.cls index y'.cls y' (.code y' cc' nL' ret' :: zT)) (by
      intro w hw
      rcases List.mem_append.mp hw with h | h
      · simp only [List.mem_cons, List.not_mem_nil, or_false] at h
        rcases h with rfl | rfl | rfl | rfl
        · exact hlk
        · exact hm.2.1
        · exact hm.2.2
        · exact hm.1.1
      · exact zcw hm.1 w h)) rfl rfl rfl ⟨rfl, hm.1.2.2.1, hm.1.2.2.2.1, hm.1.2.2.2.2⟩ ⟨hR.1, hR.2⟩) ⟨zB.blind D ex ad ac S M H.size _, va_recv hH.1 hH.2.2.1 (ci := ci) (q0 := o) (q := (y'.cls, T, N)) hcl (zW_get hc), fun U hU hW => ⟨rfl, zB.at hH hS C.2.2.2.2.2.2.2.2.1 C.2.2.2.2.2.2.2.2.2.1 C.2.2.2.2.2.2.2.2.2.2 hU hW⟩⟩ (e := e) (p := p) (R := R) (below := below) (meth := meth) (locs := locs) (cells := cells) (slots := slots) rfl (by rw [List.length_map]; exact hn) hl.1 (by simp [List.map_append, zv]) (lv_room (by rw [zsum]; exact hro)) hd hcs
  exact LA.back hrun gG C hH hS hg hl hZ kk
end LCALL
section LALLO
variable {gg : State → (Nat → Prop) → (UInt32 → Nat) → Prop} {l : Launch} {b0 : Nat} {R : Room} {y : MethodName} {cc : ByteArray} {nL : Nat} {ret : Option FieldType} {Q : Option Value → List zC → zM → Prop} {cells slots pc : Nat} {ls : List (Option Value)} {st : List Value} {S : List zC} {M : zM}
variable {st0 : List Value} {d mc ms index n nL' : Nat} {y' : MethodName} {cc' : ByteArray} {ret' : Option FieldType} {as : List Value} {Q' : Option Value → List zC → zM → Prop}
set_option maxHeartbeats 4000000 in
theorem L_callI {o : Nat} (hm : zMI y' cc' nL' n) (hlk : Cond.methodLink y.cls index y' ∈ zT) (hC : CT l true d mc ms y' cc' nL' none (.ref o :: as) S M Q') (hd : decode cc pc = .ok (.invokespecial index, 3)) (hn : as.length = n) (hst : st0 = as.reverse ++ .ref o :: st) (hro : (st.map fun v => v.category).sum ≤ 8) (hR : d + 1 ≤ R.frames ∧ 8 + (nL' + 11) + 37 * d ≤ R.locals) (hcs : cells + mc ≤ R.cells ∧ slots + ms ≤ R.slots) (hls : ∀ v, some v ∈ ls → vwf S.length v) (hst9 : ∀ v ∈ st, vwf S.length v) (kk : ∀ v S' M', Q' v S' M' → LA gg l (some b0) R y cc nL ret Q (cells + mc) (slots + ms) (pc + 3) ls (zrst v ++ st) S' M' ∧ b0 ≤ S'.length) : LA gg l (some b0) R y cc nL ret Q cells slots pc ls st0 S M := by
  intro p e s m args below meth c D A ex ad0 ac0 ad ac H locs lsA Z gG C hH hS hg hb hl hZ
  subst hst
  have hrun := va_runI (g := F0 m pc lsA ((as.reverse ++ .ref o :: st).map (zv ad ex))) (rest := st.map (zv ad ex)) (As := as.map (zv ad ex)) (b := ad o) ⟨C.1, C.2.1, C.2.2.1, C.2.2.2.1, C.2.2.2.2.1⟩ (hC D ex ad ac H.size) (cwI n C.2.2.2.2.1 (zT_good (zcw hm.1)) rfl rfl rfl (C.2.2.2.2.1 _ hm.1.1) (C.2.2.2.2.1 _ hlk) (C.2.2.2.2.1 _ hm.2.1) hm.2.2 ⟨hm.1.2.2.1, hm.1.2.2.2.1, hm.1.2.2.2.2⟩ ⟨hR.1, hR.2⟩) ⟨zB.blind D ex ad ac S M H.size _, fun U hU hW => ⟨rfl, zB.at hH hS C.2.2.2.2.2.2.2.2.1 C.2.2.2.2.2.2.2.2.2.1 C.2.2.2.2.2.2.2.2.2.2 hU hW⟩⟩ (e := e) (p := p) (R := R) (below := below) (meth := meth) (locs := locs) (cells := cells) (slots := slots) rfl (by rw [List.length_map]; exact hn) hl.1 (by simp [List.map_append, zv]) (lv_room (by rw [zsum]; exact hro)) hd hcs
  exact LA.backA hrun gG C hH hS hg (hb b0 rfl) hl hls hst9 hZ kk
set_option maxHeartbeats 4000000 in
theorem L_callVA {o ci : Nat} {fl : List (Option (Option Nat))} {T : u_T} {N : Nat} (hm : zMV y' cc' nL' ret' n) (hlk : Cond.methodLink y.cls index y' ∈ zT) (hC : CT l true d mc ms y' cc' nL' ret' (.ref o :: as) S M Q') (hd : decode cc pc = .ok (.invokevirtual index, 3)) (hn : as.length = n) (hst : st0 = as.reverse ++ .ref o :: st) (hro : (st.map fun v => v.category).sum ≤ 8) (hR : d + 1 ≤ R.frames ∧ 8 + (nL' + 11) + 37 * d ≤ R.locals) (hcs : cells + mc ≤ R.cells ∧ slots + ms ≤ R.slots) (hc : S[o]? = some (.inr (ci, fl))) (hcl : vwCl[ci]? = some (y'.cls, T, N)) (hls : ∀ v, some v ∈ ls → vwf S.length v) (hst9 : ∀ v ∈ st, vwf S.length v) (kk : ∀ v S' M', Q' v S' M' → LA gg l (some b0) R y cc nL ret Q (cells + mc) (slots + ms) (pc + 3) ls (zrst v ++ st) S' M' ∧ b0 ≤ S'.length) : LA gg l (some b0) R y cc nL ret Q cells slots pc ls st0 S M := by
  intro p e s m args below meth c D A ex ad0 ac0 ad ac H locs lsA Z gG C hH hS hg hb hl hZ
  subst hst
  have hrun := va_runV (g := F0 m pc lsA ((as.reverse ++ .ref o :: st).map (zv ad ex))) (rest := st.map (zv ad ex)) (As := as.map (zv ad ex)) (b := ad o) ⟨C.1, C.2.1, C.2.2.1, C.2.2.2.1, C.2.2.2.2.1⟩ (hC D ex ad ac H.size) (cwV (C := y'.cls) n C.2.2.2.2.1 (zT_good (ws := wsV y.cls index y'.cls y' (.code y' cc' nL' ret' :: zT)) (by
      intro w hw
      rcases List.mem_append.mp hw with h | h
      · simp only [List.mem_cons, List.not_mem_nil, or_false] at h
        rcases h with rfl | rfl | rfl | rfl
        · exact hlk
        · exact hm.2.1
        · exact hm.2.2
        · exact hm.1.1
      · exact zcw hm.1 w h)) rfl rfl rfl ⟨rfl, hm.1.2.2.1, hm.1.2.2.2.1, hm.1.2.2.2.2⟩ ⟨hR.1, hR.2⟩) ⟨zB.blind D ex ad ac S M H.size _, va_recv hH.1 hH.2.2.1 (ci := ci) (q0 := o) (q := (y'.cls, T, N)) hcl (zW_get hc), fun U hU hW => ⟨rfl, zB.at hH hS C.2.2.2.2.2.2.2.2.1 C.2.2.2.2.2.2.2.2.2.1 C.2.2.2.2.2.2.2.2.2.2 hU hW⟩⟩ (e := e) (p := p) (R := R) (below := below) (meth := meth) (locs := locs) (cells := cells) (slots := slots) rfl (by rw [List.length_map]; exact hn) hl.1 (by simp [List.map_append, zv]) (lv_room (by rw [zsum]; exact hro)) hd hcs
  exact LA.backA hrun gG C hH hS hg (hb b0 rfl) hl hls hst9 hZ kk
theorem L_newo {index ci N : Nat} {fl : List (Option (Option Nat))} (hno : zNO y.cls index ci N fl) (hwf : zwf S M) (hls : ∀ v, some v ∈ ls → vwf S.length v) (hst : ∀ v ∈ st, vwf S.length v) (hc : cells + 1 ≤ R.cells) (hs : slots + N ≤ R.slots) (hd : decode cc pc = .ok (.new index, 3)) (kk : LA gg l (some b0) R y cc nL ret Q (cells + 1) (slots + N) (pc + 3) ls (.ref S.length :: st) (S ++ [.inr (ci, fl)]) (zI M S.length (fun _ => 0))) : LA gg l (some b0) R y cc nL ret Q cells slots pc ls st S M := by
  intro p e s m args below meth c D A ex ad0 ac0 ad ac H locs lsA Z gG C hH hS hg hb hl hZ
  obtain ⟨CC, T, ty, h1, h2, h3, h4, h5, h6, h7, h8⟩ := hno
  refine va_new (C := CC) (T := T) (N := N) (fs := fl.mapIdx (zfld ad (fun _ => 0))) C.1 C.2.1 C.2.2.2.2.1 h2 ty h3 C.2.2.2.1 (C.2.2.2.2.1 _ h4) (C.2.2.2.2.1 _ h5) (C.2.2.2.2.1 _ h6) hH.1 hH.2.2.1 hH.2.2.2 hS C.2.2.2.2.2.2.2.2.1 h1 (fun j hj => ?_) hc hs hd (fun q H1 hP hD hS1 => ?_)
  · unfold vp_V
    rw [List.getD_eq_getElem?_getD, List.getElem?_mapIdx]
    rcases h8 j hj with ⟨e1, e2⟩ | ⟨e1, e2⟩
    · rw [e1, e2]; rfl
    · rw [e1, e2]; rfl
  have hq : nad ad S.length q S.length = q := if_pos rfl
  have he : ((q, (.inr (ci, fl.mapIdx (zfld ad (fun _ => 0))) : va_E))) = zcell (nad ad S.length q) (nac ac S.length (ac 0)) (zI M S.length (fun _ => 0)) S.length (.inr (ci, fl)) := by
    simp only [zcell, hq, zI_at]
    rw [zfld_nil h7]
  rw [he] at hP hD
  have hH1 := zH_push hH hwf (M' := zI M S.length (fun _ => 0)) (fun i hi => zI_ne i (by omega)) (fun k n ek => by cases ek) hP hD
  have hk := kk p e s m args below meth c D A ex ad0 ac0 (nad ad S.length q) (nac ac S.length (ac 0)) H1 locs lsA Z gG C hH1 hS1 (zag_nad hg (hb b0 rfl)) (fun q' hq' => by
    have := hb q' hq'
    rw [List.length_append]
    omega) (zlv_nad hl hls) hZ
  rw [List.map_cons, zst_nad hst] at hk
  have e0 : zv (nad ad S.length q) ex (.ref S.length) = .ref q := congrArg Value.ref hq
  rw [e0] at hk
  exact hk
end LALLO
/-- the script: L ints xs, at ex 9 -/
def scr (L : Nat) (xs : Nat → Int32) : State → (Nat → Prop) → (UInt32 → Nat) → Prop := fun s A ex => va_X (ex 9) L xs s s.heap ∧ ex 9 < s.heap.size ∧ ¬ A (ex 9)
section LSCR
variable {L : Nat} {xs : Nat → Int32} {l : Launch} {b : Option Nat} {R : Room} {y : MethodName} {cc : ByteArray} {nL : Nat} {ret : Option FieldType} {Q : Option Value → List zC → zM → Prop} {cells slots pc : Nat} {ls : List (Option Value)} {st : List Value} {S : List zC} {M : zM}
theorem L_sld {k : Nat} (hd : decode cc pc = .ok (.iaload, 1)) (hk : k < L) (hL : L ≤ 3584) (kk : LA (scr L xs) l b R y cc nL ret Q cells slots (pc + 1) ls (.int (xs k) :: st) S M) : LA (scr L xs) l b R y cc nL ret Q cells slots pc ls (.int (nI k) :: .float 9 :: st) S M := by
  intro p e s m args below meth c D A ex ad0 ac0 ad ac H locs lsA Z gG C hH hS hg hb hl hZ
  refine va_sld C.1 C.2.1 gG.1 gG.2.1 gG.2.2 hS (vp_in_nI hk (by omega)) hd ?_
  rw [nI_clamp (by omega)]
  exact kk p e s m args below meth c D A ex ad0 ac0 ad ac H locs lsA Z gG C hH hS hg hb hl hZ
theorem L_slen (hd : decode cc pc = .ok (.arraylength, 1)) (kk : LA (scr L xs) l b R y cc nL ret Q cells slots (pc + 1) ls (.int (nI L) :: st) S M) : LA (scr L xs) l b R y cc nL ret Q cells slots pc ls (.float 9 :: st) S M := by
  intro p e s m args below meth c D A ex ad0 ac0 ad ac H locs lsA Z gG C hH hS hg hb hl hZ
  exact va_slen C.1 C.2.1 gG.1 gG.2.1 gG.2.2 hS hd (kk p e s m args below meth c D A ex ad0 ac0 ad ac H locs lsA Z gG C hH hS hg hb hl hZ)
end LSCR
