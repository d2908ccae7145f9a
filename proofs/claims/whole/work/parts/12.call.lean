def zR (d mc ms : Nat) : Room := { frames := d, cells := mc, slots := ms, locals := 37 * d }
def zB (D : va_G) (ex : UInt32 → Nat) (ad : Nat → Nat) (ac : Nat → ClassId) (S : List zC) (M : zM) (sz : Nat) (U : State) : Prop :=
  U.heap.size = sz ∧ zH D (fun _ => True) ad ac S M U U.heap ∧ zStat ex (va_A (zW ad ac S M) sz) U U.heap ∧ zNest U
def zrok : Option Value → Prop
  | none => True
  | some (.int _) => True
  | some (.long _) => True
  | _ => False
def zal (al : Bool) (n : Nat) : Option Nat := if al then some n else none
def zQc (D : va_G) (ad : Nat → Nat) (ac : Nat → ClassId) (S : List zC) (M : zM) (sz : Nat) (al : Bool) (Q : Option Value → List zC → zM → Prop) : Array Value → State → Outcome → State → Prop := fun _ st oc t =>
  (∃ (v : Option Value) (S' : List zC) (M' : zM) (ad' : Nat → Nat) (ac' : Nat → ClassId), oc = .returned v ∧ zrok v ∧ Q v S' M' ∧ zag (zal al S.length) ad ad' ac ac' ∧ zH D (va_A (zW ad ac S M) sz) ad' ac' S' M' t t.heap) ∧ va_F (va_A (zW ad ac S M) sz) st t
/-- a method's contract: with these arguments, over these cells -/
def CT (l : Launch) (al : Bool) (d mc ms : Nat) (y : MethodName) (cc : ByteArray) (nL : Nat) (ret : Option FieldType) (as : List Value) (S : List zC) (M : zM) (Q : Option Value → List zC → zM → Prop) : Prop :=
  ∀ (D : va_G) (ex : UInt32 → Nat) (ad : Nat → Nat) (ac : Nat → ClassId) (sz : Nat), Met l y (.code y cc nL ret :: zT) (zR d mc ms) (va_Pc (as.map (zv ad ex)) (zB D ex ad ac S M sz)) (zQc D ad ac S M sz al Q) mc ms (va_A (zW ad ac S M) sz)
def zent : List Value → List (Option Value)
  | [] => []
  | .long x :: vs => some (.long x) :: none :: zent vs
  | .double x :: vs => some (.double x) :: none :: zent vs
  | v :: vs => some v :: zent vs
def zpad (n : Nat) (l : List (Option Value)) : List (Option Value) := l ++ List.replicate (n - l.length) none
theorem zag_refl (b : Option Nat) (ad : Nat → Nat) (ac : Nat → ClassId) : zag b ad ad ac ac := by
  cases b with
  | none => exact ⟨rfl, rfl⟩
  | some n => exact fun i _ => ⟨rfl, rfl⟩
theorem zag_trans {b : Option Nat} {ad ad1 ad2 : Nat → Nat} {ac ac1 ac2 : Nat → ClassId} (h : zag b ad ad1 ac ac1) (h2 : zag b ad1 ad2 ac1 ac2) : zag b ad ad2 ac ac2 := by
  cases b with
  | none => exact ⟨h2.1.trans h.1, h2.2.trans h.2⟩
  | some n => exact fun i hi => ⟨(h2 i hi).1.trans (h i hi).1, (h2 i hi).2.trans (h i hi).2⟩
theorem zent_arg : ∀ (vs : List Value) (o : Nat) (j : Nat) (v : Value) (ad : Nat → Nat) (ex : UInt32 → Nat), (zent vs)[j]? = some (some v) → (o + j, zv ad ex v) ∈ lv_args o (vs.map (zv ad ex))
  | [], _, _, _, _, _, h => by simp [zent] at h
  | w :: vs, o, j, v, ad, ex, h => by
    have two : ∀ x : Value, x.category = 2 → zent (x :: vs) = some x :: none :: zent vs := by
      intro x hx
      cases x <;> first | rfl | (simp [Value.category] at hx)
    have one : ∀ x : Value, ¬ x.category = 2 → zent (x :: vs) = some x :: zent vs := by
      intro x hx
      cases x <;> first | rfl | (exact absurd rfl hx)
    by_cases hc : w.category = 2
    · rw [two w hc] at h
      have hc2 : (zv ad ex w).category = 2 := by rw [zv_cat]; exact hc
      simp only [List.map_cons, lv_args, hc2, if_true]
      match j, h with
      | 0, h =>
        simp only [List.getElem?_cons_zero, Option.some.injEq] at h
        subst h
        exact List.mem_cons_self
      | 1, h => simp at h
      | j + 2, h =>
        simp only [List.getElem?_cons_succ] at h
        have := zent_arg vs (o + 2) j v ad ex h
        rw [show o + (j + 2) = o + 2 + j by omega]
        exact List.mem_cons_of_mem _ this
    · rw [one w hc] at h
      have hc2 : ¬ (zv ad ex w).category = 2 := by rw [zv_cat]; exact hc
      simp only [List.map_cons, lv_args, hc2, if_false]
      match j, h with
      | 0, h =>
        simp only [List.getElem?_cons_zero, Option.some.injEq] at h
        subst h
        exact List.mem_cons_self
      | j + 1, h =>
        simp only [List.getElem?_cons_succ] at h
        have := zent_arg vs (o + 1) j v ad ex h
        rw [show o + (j + 1) = o + 1 + j by omega]
        exact List.mem_cons_of_mem _ this
theorem zpad_get {n j : Nat} {l : List (Option Value)} {v : Value} (h : (zpad n l)[j]? = some (some v)) : l[j]? = some (some v) := by
  unfold zpad at h
  by_cases hj : j < l.length
  · rwa [List.getElem?_append_left hj] at h
  · rw [List.getElem?_append_right (by omega)] at h
    have := List.eq_of_mem_replicate (List.mem_of_getElem? h)
    cases this
set_option maxHeartbeats 4000000 in
/-- a contract out of a walk from the entry -/
theorem CT.of {l : Launch} {al : Bool} {d mc ms : Nat} {y : MethodName} {cc : ByteArray} {nL : Nat} {ret : Option FieldType} {as : List Value} {S : List zC} {M : zM} {Q : Option Value → List zC → zM → Prop} (hy : plainName y.cls = true) (hn : ∀ ad ex, (lg_sl (as.map (zv ad ex))).length ≤ nL) (h : RA l (zal al S.length) (zR d mc ms) y cc nL ret Q 0 0 0 (zpad nL (zent as)) [] S M) : CT l al d mc ms y cc nL ret as S M Q := by
  intro D ex ad ac sz
  refine Met.ofW (cc := cc) (maxL := nL) (ret := ret) hy rfl ?_
  intro p e s m args below meth c s₁ B hml hv
  obtain ⟨rfl, hsz, hH, hSt, hN⟩ := hv
  have hts := atoms_spec (ws := .code y cc nL ret :: zT) B.pre
  have hown : s.vm.findClass y.cls = some m.cls := findClass_of_methodNamed B.named
  have hin : meth.name = y.name := (name_of_methodNamed B.named B.method).1
  have hlocks := B.notSynchronized
  have hr := B.returns
  have hx := B.exec
  have hb := B.bytes
  subst hsz
  rw [lg_entry_eq]
  refine h p e s m _ below meth c D (va_A (zW ad ac S M) s.heap.size) ex ad ac ad ac s.heap [] _ _ ⟨hx, hb, hml, hown, fun w hw => hts w (List.mem_cons_of_mem _ hw), hr, hlocks, hin, fun q hq => Or.inr hq, hSt, hN⟩ ⟨hH.1, hH.2.1, hH.2.2.1, hH.2.2.2.self⟩ va_S.rf (zag_refl _ _ _) ?_ ?_ ?_
  · intro q hq
    cases al with
    | false => cases hq
    | true => cases hq; exact Nat.le_refl _
  · have hE := lv_entry (as.map (zv ad ex)) (n := nL) (hn ad ex)
    refine ⟨hE.1, hE.2.1, fun i v hi => ?_⟩
    have := hE.2.2 _ (zent_arg as 0 i v ad ex (zpad_get hi))
    simpa using this
  · intro v S' M' ad' ac' H' locs' k' n' pc' ls' hq hH' hS' hag hk' hn' hret
    refine W.widen (k := mc) (n := ms) hk' hn' ?_
    have post : ∀ t : State, zrok v → t.heap = H' → s.WarmedH t.vm → zQc D ad ac S M s.heap.size al Q (List.map (zv ad ex) as).toArray s (.returned v) t := by
      intro t hv ht hW
      subst ht
      exact ⟨⟨v, S', M', ad', ac', rfl, hv, hq, hag, va_K.moved hW.alike hH'.1, fun i k n hi => ⟨arrOfT_moved hW.alike (hH'.2.1 i k n hi).1, (hH'.2.1 i k n hi).2.moved hW.alike⟩, hH'.2.2.1, hH'.2.2.2⟩, hS'.F rfl⟩
    match v, hret with
    | none, ⟨h1, h2⟩ => exact W.vret hx hb (hr.trans h1) (fun t ht hW => post t trivial ht hW) hS'.2.2 h2
    | some (.int v), ⟨⟨ty, h1, h2⟩, h3⟩ => exact W.zret hx hb (hr.trans h1) h2 (fun t ht hW => post t trivial ht hW) hS'.2.2 h3
    | some (.long v), ⟨h1, h2⟩ => exact W.lret hx hb (hr.trans h1) (fun t ht hW => post t trivial ht hW) hS'.2.2 h2
theorem zStat.to {ex : UInt32 → Nat} {A A1 : Nat → Prop} {s U : State} {H : Heap} {locs : List Loc} (h : zStat ex A s s.heap) (hW : s.WarmedH U.vm) (hU : U.heap = H) (hS : va_S A s.heap H locs) (hA : ∀ q, A1 q → A q) : zStat ex A1 U U.heap := by
  obtain ⟨h1, h2, h3, h4, h5⟩ := h
  subst hU
  have kq : ∀ a : Nat, a < s.heap.size → ¬ A a → U.heap[a]? = s.heap[a]? := fun a ha hn => hS.2.1 a ha hn
  exact ⟨((h1.kept kq).moved hW.alike).narrow hA, ((h2.kept kq).moved hW.alike).narrow hA, h3.warm hW, ((h4.kept kq).moved hW.alike).narrow hA, ((h5.kept kq).moved hW.alike).narrow hA⟩
theorem zNest.to {s U : State} (hW : s.WarmedH U.vm) (h : zNest s) : zNest U :=
  ⟨h.1.warmM hW, h.2.1.warmM hW, h.2.2.1.warmM hW, h.2.2.2.1.warmM hW, h.2.2.2.2.1.warmM hW, h.2.2.2.2.2.1.warmM hW, h.2.2.2.2.2.2.moved hW.alike⟩
theorem zB.blind (D : va_G) (ex : UInt32 → Nat) (ad : Nat → Nat) (ac : Nat → ClassId) (S : List zC) (M : zM) (sz : Nat) (as : List Value) : FrameBlind (va_Pc as (zB D ex ad ac S M sz)) := by
  intro a U g mk q
  obtain ⟨q0, q1, q2, q3, q4⟩ := q
  refine ⟨q0, q1, ⟨va_K.moved (u := U) (U := U.calling g mk a) (Vm.Alike.refl U.vm) q2.1, fun i k n hi => ⟨arrOfT_moved (Vm.Alike.refl U.vm) (q2.2.1 i k n hi).1, (q2.2.1 i k n hi).2.moved (u := U) (U := U.calling g mk a) (Vm.Alike.refl U.vm)⟩, q2.2.2.1, q2.2.2.2⟩, ⟨q3.1.moved (u := U) (U := U.calling g mk a) (Vm.Alike.refl U.vm), q3.2.1.moved (u := U) (U := U.calling g mk a) (Vm.Alike.refl U.vm), vk_R.same rfl q3.2.2.1, q3.2.2.2.1.moved (u := U) (U := U.calling g mk a) (Vm.Alike.refl U.vm), q3.2.2.2.2.moved (u := U) (U := U.calling g mk a) (Vm.Alike.refl U.vm)⟩, ?_⟩
  exact ⟨va_Nw.same (u := U) (U := U.calling g mk a) rfl rfl q4.1, va_Nw.same (u := U) (U := U.calling g mk a) rfl rfl q4.2.1, va_Nw.same (u := U) (U := U.calling g mk a) rfl rfl q4.2.2.1, va_Nw.same (u := U) (U := U.calling g mk a) rfl rfl q4.2.2.2.1, va_Nw.same (u := U) (U := U.calling g mk a) rfl rfl q4.2.2.2.2.1, va_Nw.same (u := U) (U := U.calling g mk a) rfl rfl q4.2.2.2.2.2.1, va_AO.moved (u := U) (U := U.calling g mk a) (Vm.Alike.refl U.vm) q4.2.2.2.2.2.2⟩
/-- at a call, the callee's start holds -/
theorem zB.at {D : va_G} {A : Nat → Prop} {ex : UInt32 → Nat} {ad : Nat → Nat} {ac : Nat → ClassId} {S : List zC} {M : zM} {s U : State} {H : Heap} {locs : List Loc} (hH : zH D A ad ac S M s H) (hS : va_S A s.heap H locs) (hA : ∀ q, s.heap.size ≤ q → A q) (hSt : zStat ex A s s.heap) (hN : zNest s) (hU : U.heap = H) (hW : s.WarmedH U.vm) : zB D ex ad ac S M H.size U := by
  refine ⟨by rw [hU], ⟨va_K.moved hW.alike hH.1, fun i k n hi => ⟨arrOfT_moved hW.alike (hH.2.1 i k n hi).1, (hH.2.1 i k n hi).2.moved hW.alike⟩, by rw [hU]; exact hH.2.2.1, hH.2.2.2.weaken (fun _ _ _ _ => trivial)⟩, hSt.to hW hU hS (fun q hq => ?_), hN.to hW⟩
  rcases hq with ⟨k, e, hk⟩ | hq
  · exact hH.2.2.2.2 k (q, e) hk
  · exact hA q (Nat.le_trans hS.1 hq)
set_option maxHeartbeats 4000000 in
/-- behind a call of a method that makes nothing -/
theorem RA.back {l : Launch} {b : Option Nat} {R : Room} {y : MethodName} {cc : ByteArray} {nL : Nat} {ret : Option FieldType} {Q : Option Value → List zC → zM → Prop} {cells slots pc : Nat} {ls : List (Option Value)} {st : List Value} {S : List zC} {M : zM} {mc ms : Nat} {Q' : Option Value → List zC → zM → Prop} {p : Program} {e : Env} {s : State} {m : MethodId} {args : Array Value} {below : List Frame} {meth : Method} {c : Code} {D : va_G} {A : Nat → Prop} {ex : UInt32 → Nat} {ad0 : Nat → Nat} {ac0 : Nat → ClassId} {ad : Nat → Nat} {ac : Nat → ClassId} {H : Heap} {locs : List Loc} {lsA : Array Slot} {Z : State → Prop} {st0 : List Value} {aa : Array Value}
    (hr : va_Run p l e R s m args below meth c H locs cells slots mc ms (F0 m pc lsA st0) (st.map (zv ad ex)) (zQc D ad ac S M H.size false Q' aa) (va_A (zW ad ac S M) H.size))
    (C : zCtx y cc nL ret p s m args meth c A ex) (hH : zH D A ad ac S M s H) (hS : va_S A s.heap H locs) (hg : zag b ad0 ad ac0 ac) (hl : zlv ad ex lsA nL ls)
    (hZ : ∀ (v : Option Value) (S' : List zC) (M' : zM) (ad' : Nat → Nat) (ac' : Nat → ClassId) (H' : Heap) (locs' : List Loc) (k' n' pc' : Nat) (ls' : Array Slot), Q v S' M' → zH D A ad' ac' S' M' s H' → va_S A s.heap H' locs' → zag b ad0 ad' ac0 ac' → k' ≤ R.cells → n' ≤ R.slots → zretd cc ret pc' v → W p l e R s m args below meth c H' locs' k' n' Z (F0 m pc' ls' (zrst v)))
    (kk : ∀ v S' M', Q' v S' M' → RA l b R y cc nL ret Q (cells + mc) (slots + ms) (pc + 3) ls (zrst v ++ st) S' M' ∧ (∀ q, b = some q → q ≤ S'.length)) :
    W p l e R s m args below meth c H locs cells slots Z (F0 m pc lsA st0) := by
  intro T hT X
  obtain ⟨v, st₀, t, T', L, h0, X', hL, e1, e2, ⟨⟨v2, S', M', ad', ac', hv, hok, hq, hag, hH'⟩, hz, hk⟩, stp⟩ := hr T hT X
  cases hv
  rw [h0] at hz hk
  obtain ⟨rfl, rfl⟩ := hag
  have hAA : ∀ q, va_A (zW ad' ac' S M) H.size q → A q := by
    intro q hq
    rcases hq with ⟨k, e, hk⟩ | hq
    · exact hH.2.2.2.2 k (q, e) hk
    · exact C.2.2.2.2.2.2.2.2.1 q (Nat.le_trans hS.1 hq)
  have hvm : t.vm.Alike s.vm := by rw [← e2]; exact X'.warmed.alike.symm
  have hH2 : zH D A ad' ac' S' M' s T'.heap := ⟨va_K.moved hvm hH'.1, fun i k n hi => ⟨arrOfT_moved hvm (hH'.2.1 i k n hi).1, (hH'.2.1 i k n hi).2.moved hvm⟩, by rw [e1]; exact hH'.2.2.1, hH'.2.2.2.weaken (fun _ _ _ h => hAA _ h)⟩
  have hS2 : va_S A s.heap T'.heap (locs ++ L) := ⟨Nat.le_trans hS.1 (by rw [e1]; exact hz), fun q h1 h2 => by rw [e1, hk q (Nat.lt_of_lt_of_le h1 hS.1) (fun z => h2 (hAA q z))]; exact hS.2.1 q h1 h2, fun q hq => by
      rcases List.mem_append.mp hq with h | h
      · exact hS.2.2 q h
      · exact hAA _ (hL q h)⟩
  have hk2 := kk v S' M' hq
  have hst : v.toList ++ st.map (zv ad' ex) = (zrst v ++ st).map (zv ad' ex) := by
    match v, hok with
    | none, _ => rfl
    | some (.int v), _ => rfl
    | some (.long v), _ => rfl
  obtain ⟨t2, a1, b1⟩ := hk2.1 p e s m args below meth c D A ex ad0 ac0 ad' ac' T'.heap (locs ++ L) lsA Z C hH2 hS2 hg hk2.2 hl hZ T' rfl X'
  refine ⟨t2, stp t2 ?_, b1⟩
  show Steps p.tables e below (T'.setTop { method := m, pc := pc + 3, locals := lsA, stack := v.toList ++ st.map (zv ad' ex), locked := none }) t2
  rw [hst]
  exact a1
/-- a method's entry of the pool, and what the tables say of the method -/
def zMB (y : MethodName) (cc : ByteArray) (nL : Nat) (ret : Option FieldType) (n : Nat) : Prop := Cond.initialized y.cls ∈ zT ∧ Cond.code y cc nL ret ∈ zT ∧ y.cls ≠ "java/lang/invoke/MethodHandle" ∧ y.cls ≠ "java/lang/invoke/VarHandle" ∧ (parseMethodDescriptor y.desc).map (fun d => d.parameters.length) = some n
def zMV (y : MethodName) (cc : ByteArray) (nL : Nat) (ret : Option FieldType) (n : Nat) : Prop := zMB y cc nL ret n ∧ Cond.instanceMethod y ∈ zT ∧ Cond.selects y.cls y y ∈ zT
def zMS (y : MethodName) (cc : ByteArray) (nL : Nat) (ret : Option FieldType) (n : Nat) : Prop := zMB y cc nL ret n ∧ Cond.static y ∈ zT
def zMI (y : MethodName) (cc : ByteArray) (nL : Nat) (n : Nat) : Prop := zMB y cc nL none n ∧ Cond.instanceMethod y ∈ zT ∧ y.name = "<init>"
theorem zcw {y : MethodName} {cc : ByteArray} {nL : Nat} {ret : Option FieldType} {n : Nat} (h : zMB y cc nL ret n) : ∀ w ∈ (Cond.code y cc nL ret :: zT), w ∈ zT := by
  intro w hw
  rcases List.mem_cons.mp hw with rfl | h2
  · exact h.2.1
  · exact h2
section CALL
variable {l : Launch} {b : Option Nat} {R : Room} {y : MethodName} {cc : ByteArray} {nL : Nat} {ret : Option FieldType} {Q : Option Value → List zC → zM → Prop} {cells slots pc : Nat} {ls : List (Option Value)} {st st0 : List Value} {S : List zC} {M : zM}
variable {d mc ms index n nL' : Nat} {y' : MethodName} {cc' : ByteArray} {ret' : Option FieldType} {as : List Value} {Q' : Option Value → List zC → zM → Prop}
set_option maxHeartbeats 4000000 in
/-- invokevirtual, of a method that makes nothing -/
theorem r_callV {o ci : Nat} {fl : List (Option (Option Nat))} {T : u_T} {N : Nat} (hm : zMV y' cc' nL' ret' n) (hlk : Cond.methodLink y.cls index y' ∈ zT) (hC : CT l false d mc ms y' cc' nL' ret' (.ref o :: as) S M Q') (hd : decode cc pc = .ok (.invokevirtual index, 3)) (hn : as.length = n) (hst : st0 = as.reverse ++ .ref o :: st) (hro : (st.map fun v => v.category).sum ≤ 8) (hR : d + 1 ≤ R.frames ∧ 8 + (nL' + 11) + 37 * d ≤ R.locals) (hcs : cells + mc ≤ R.cells ∧ slots + ms ≤ R.slots) (hc : S[o]? = some (.inr (ci, fl))) (hcl : vwCl[ci]? = some (y'.cls, T, N)) (kk : ∀ v S' M', Q' v S' M' → RA l b R y cc nL ret Q (cells + mc) (slots + ms) (pc + 3) ls (zrst v ++ st) S' M' ∧ (∀ q, b = some q → q ≤ S'.length)) : RA l b R y cc nL ret Q cells slots pc ls st0 S M := by
  intro p e s m args below meth c D A ex ad0 ac0 ad ac H locs lsA Z C hH hS hg hb hl hZ
  subst hst
  have hrun := va_runV (g := F0 m pc lsA ((as.reverse ++ .ref o :: st).map (zv ad ex))) (rest := st.map (zv ad ex)) (As := as.map (zv ad ex)) (b := ad o) ⟨C.1, C.2.1, C.2.2.1, C.2.2.2.1, C.2.2.2.2.1⟩ (hC D ex ad ac H.size) (cwV (C := y'.cls) n C.2.2.2.2.1 (zT_good (ws := wsV y.cls index y'.cls y' (.code y' cc' nL' ret' :: zT)) (by
      intro w hw
      rcases List.mem_append.mp hw with h | h
      · simp only [List.mem_cons, List.not_mem_nil, or_false] at h
        rcases h with rfl | rfl | rfl | rfl
        · exact hlk
        · exact hm.2.1
        · exact hm.2.2
        · exact hm.1.1
      · exact zcw hm.1 w h)) rfl rfl rfl ⟨rfl, hm.1.2.2.1, hm.1.2.2.2.1, hm.1.2.2.2.2⟩ ⟨hR.1, hR.2⟩) ⟨zB.blind D ex ad ac S M H.size _, va_recv hH.1 hH.2.2.1 (ci := ci) (q0 := o) (q := (y'.cls, T, N)) hcl (zW_get hc), fun U hU hW => ⟨rfl, zB.at hH hS C.2.2.2.2.2.2.2.2.1 C.2.2.2.2.2.2.2.2.2.1 C.2.2.2.2.2.2.2.2.2.2 hU hW⟩⟩ (e := e) (p := p) (R := R) (below := below) (meth := meth) (locs := locs) (cells := cells) (slots := slots) rfl (by rw [List.length_map]; exact hn) hl.1 (by simp [List.map_append, zv]) (lv_room (by rw [zsum]; exact hro)) hd hcs
  exact RA.back hrun C hH hS hg hl hZ kk
set_option maxHeartbeats 4000000 in
/-- invokestatic, of a method that makes nothing -/
theorem r_callS (hm : zMS y' cc' nL' ret' n) (hlk : Cond.methodLink y.cls index y' ∈ zT) (hC : CT l false d mc ms y' cc' nL' ret' as S M Q') (hd : decode cc pc = .ok (.invokestatic index, 3)) (hn : as.length = n) (hst : st0 = as.reverse ++ st) (hro : (st.map fun v => v.category).sum ≤ 8) (hR : d + 1 ≤ R.frames ∧ 8 + (nL' + 11) + 37 * d ≤ R.locals) (hcs : cells + mc ≤ R.cells ∧ slots + ms ≤ R.slots) (kk : ∀ v S' M', Q' v S' M' → RA l b R y cc nL ret Q (cells + mc) (slots + ms) (pc + 3) ls (zrst v ++ st) S' M' ∧ (∀ q, b = some q → q ≤ S'.length)) : RA l b R y cc nL ret Q cells slots pc ls st0 S M := by
  intro p e s m args below meth c D A ex ad0 ac0 ad ac H locs lsA Z C hH hS hg hb hl hZ
  subst hst
  have hrun := va_runS (g := F0 m pc lsA ((as.reverse ++ st).map (zv ad ex))) (rest := st.map (zv ad ex)) (As := as.map (zv ad ex)) ⟨C.1, C.2.1, C.2.2.1, C.2.2.2.1, C.2.2.2.2.1⟩ (hC D ex ad ac H.size) (va_cwS n C.2.2.2.2.1 (zT_good (ws := va_wsS y.cls index y' (.code y' cc' nL' ret' :: zT)) (by
      intro w hw
      rcases List.mem_append.mp hw with h | h
      · simp only [List.mem_cons, List.not_mem_nil, or_false] at h
        rcases h with rfl | rfl | rfl
        · exact hlk
        · exact hm.2
        · exact hm.1.1
      · exact zcw hm.1 w h)) rfl rfl rfl ⟨hm.1.2.2.1, hm.1.2.2.2.1, hm.1.2.2.2.2⟩ ⟨hR.1, hR.2⟩) ⟨zB.blind D ex ad ac S M H.size _, fun U hU hW => ⟨rfl, zB.at hH hS C.2.2.2.2.2.2.2.2.1 C.2.2.2.2.2.2.2.2.2.1 C.2.2.2.2.2.2.2.2.2.2 hU hW⟩⟩ (e := e) (p := p) (R := R) (below := below) (meth := meth) (locs := locs) (cells := cells) (slots := slots) rfl (by rw [List.length_map]; exact hn) hl.1 (by simp [List.map_append]) (lv_room (by rw [zsum]; exact hro)) hd hcs
  exact RA.back hrun C hH hS hg hl hZ kk
set_option maxHeartbeats 4000000 in
/-- invokestatic of a nest mate's private method that makes nothing -/
theorem r_callSN (hm : zMS y' cc' nL' ret' n) (hlk : ∀ U, zNest U → va_Nw (.methodLinkNest y.cls index y' RX4) U) (hC : CT l false d mc ms y' cc' nL' ret' as S M Q') (hd : decode cc pc = .ok (.invokestatic index, 3)) (hn : as.length = n) (hst : st0 = as.reverse ++ st) (hro : (st.map fun v => v.category).sum ≤ 8) (hR : d + 1 ≤ R.frames ∧ 8 + (nL' + 11) + 37 * d ≤ R.locals) (hcs : cells + mc ≤ R.cells ∧ slots + ms ≤ R.slots) (kk : ∀ v S' M', Q' v S' M' → RA l b R y cc nL ret Q (cells + mc) (slots + ms) (pc + 3) ls (zrst v ++ st) S' M' ∧ (∀ q, b = some q → q ≤ S'.length)) : RA l b R y cc nL ret Q cells slots pc ls st0 S M := by
  intro p e s m args below meth c D A ex ad0 ac0 ad ac H locs lsA Z C hH hS hg hb hl hZ
  subst hst
  have hrun := va_runSN (g := F0 m pc lsA ((as.reverse ++ st).map (zv ad ex))) (rest := st.map (zv ad ex)) (As := as.map (zv ad ex)) ⟨C.1, C.2.1, C.2.2.1, C.2.2.2.1, C.2.2.2.2.1⟩ (hC D ex ad ac H.size) ⟨va_cnB n C.2.2.2.2.1 (zT_good (zcw hm.1)) rfl rfl rfl (hlk s C.2.2.2.2.2.2.2.2.2.2) (C.2.2.2.2.1 _ hm.1.1) ⟨hm.1.2.2.1, hm.1.2.2.2.1, hm.1.2.2.2.2⟩ ⟨hR.1, hR.2⟩, C.2.2.2.2.1 _ hm.2, trivial⟩ ⟨zB.blind D ex ad ac S M H.size _, fun U hU hW => ⟨rfl, zB.at hH hS C.2.2.2.2.2.2.2.2.1 C.2.2.2.2.2.2.2.2.2.1 C.2.2.2.2.2.2.2.2.2.2 hU hW⟩⟩ (e := e) (p := p) (R := R) (below := below) (meth := meth) (locs := locs) (cells := cells) (slots := slots) rfl (by rw [List.length_map]; exact hn) hl.1 (by simp [List.map_append]) (lv_room (by rw [zsum]; exact hro)) hd hcs
  exact RA.back hrun C hH hS hg hl hZ kk
end CALL
