/-! THE CLAIM OUT OF ONE WALK OF THE LAW'S BODY. Your part is whole_start (and what it stands on); all else here is the same for every law, but numbers. -/
def R_law : String := "TailorTapeLaw"
def lw_P (b : Addr) (xs : List Int32) (args : Array Value) (s : State) : Prop := args = #[.ref b] ∧ s.IntsAt b xs ∧ xs.length ≤ 3584 ∧ (Jvm.Cond.and given_1 narrow_1).before args s = true
def lw_Q (_ : Array Value) (s : State) (o : Outcome) (t : State) : Prop := o = .returned (some (.int 1)) ∧ Framed s o t [] 600000 7302250
def lw_Z (below : List Frame) (a : Array Value) (s : State) : State → Prop := fun t => ∃ o, t.status = .running ∧ Ended t below o ∧ lw_Q a s o t
/-- the law's own end, with 1 on the stack, nothing written that was there before, its room as the claim has it -/
theorem lw_ret {p : Program} {l : Launch} {e : Env} {s : State} {m : MethodId} {below : List Frame} {meth : Method} {c : Code} {b : Nat} (hx : p.tables.exec = Jvm.exec) (hb : c.code = code) (hr : meth.sig.returnType = ret) (hlocks : meth.locks = false) {pc : Nat} {H : Heap} {ls : Array Slot} (hdg : decode code pc = .ok (.ireturn, 1)) : W p l e room_1 s m #[Value.ref b] below meth c H [] 600000 7302250 (lw_Z below #[Value.ref b] s) (F0 m pc ls [.int 1]) := by
  intro T hT X
  obtain ⟨fs, hret, hrun, hended, hW, hframe⟩ := X.leave (v := some (.int 1)) (hlocks := hlocks) (fun h => by rw [hr] at h; cases h)
  have hmeth' : T.vm.method? m = some meth := X.method'
  refine ⟨T.setFrames fs, ?_, .returned (some (.int 1)), hrun, hended, rfl, ⟨_, rfl⟩, hW, hframe⟩
  jvm_step X.here [X.here.top, hx, hb, hdg, hmeth', hr, ret, narrow_b1]
  (try refine ⟨rfl, ?_⟩); (try refine ⟨rfl, ?_⟩)
  first | (intro acts; rw [hret _ acts rfl rfl rfl]) | rw [hret _ _ rfl rfl rfl]
  exact Steps.refl _
/-- what holds at the law's entry: the machine, the code, the tables' words (any of lw_tbl by 'hts w (by decide +kernel)'), the script of L ints xs at the cell b, what the Statement gives of the start (any of its parts by flat_of_before) -/
def lw_At (p : Program) (s : State) (m : MethodId) (meth : Method) (c : Code) (b L : Nat) (xs : Nat → Int32) : Prop :=
  p.tables.exec = Jvm.exec ∧ c.code = code ∧ meth.sig.returnType = ret ∧ c.maxLocals = 4 ∧ s.vm.findClass R_law = some m.cls ∧ (∀ w ∈ lw_tbl, w.before #[Value.ref b] s = true) ∧ va_X b L xs s s.heap ∧ b < s.heap.size ∧ meth.locks = false ∧ (Jvm.Cond.and given_1 narrow_1).before #[Value.ref b] s = true ∧ meth.name = "law"
set_option maxHeartbeats 4000000 in
set_option maxRecDepth 100000 in
theorem whole_start {p : Program} {e : Env} {s : State} {m : MethodId} {below : List Frame} {meth : Method} {c : Code} (l : Launch) {b L : Nat} {xs : Nat → Int32} (hL : L ≤ 3584) (C0 : lw_At p s m meth c b L xs) : W p l e room_1 s m #[Value.ref b] below meth c s.heap [] 0 0 (lw_Z below #[Value.ref b] s) (entryFrame m ([Value.ref b] : List Value).toArray 4) := by
  obtain ⟨hx, hb, hr, hml, hown, hts, hX, hbl, hlocks, hgv, hnm⟩ := C0
  have hzt : ∀ w ∈ zT, w.before #[Value.ref b] s = true := fun w hw => hts w (zT_sub hw)
  have hA : ∀ a : Nat, a < s.heap.size → ¬ (fun q : Nat => s.heap.size ≤ q) a := fun a h => Nat.not_le.mpr h
  have hs := flat_of_before _ hgv
  obtain ⟨c0, i0, k0⟩ := u_known (C := RX0) (T := TX0) (N := 11) (n := 11) hzt inzX0 (hzt _ in_X0)
  obtain ⟨c1, i1, k1⟩ := u_known (C := RX1) (T := TX1) (N := 10) (n := 10) hzt inzX1 (hzt _ in_X1)
  obtain ⟨c2, i2, k2⟩ := u_known (C := RX2) (T := TX2) (N := 2) (n := 2) hzt inzX2 (hzt _ in_X2)
  obtain ⟨c3, i3, k3⟩ := u_known (C := RX3) (T := TX3) (N := 17) (n := 17) hzt inzX3 (hzt _ in_X3)
  obtain ⟨c4, i4, k4⟩ := u_known (C := RX4) (T := TX4) (N := 6) (n := 6) hzt inzX4 (hzt _ in_X4)
  obtain ⟨c5, i5, k5⟩ := u_known (C := RX5) (T := TX5) (N := 16) (n := 16) hzt inzX5 (hzt _ in_X5)
  obtain ⟨dC, dI, hKc⟩ : ∃ (dC : Nat → ClassId) (dI : Nat → Nat → Nat), ∀ (k : Nat) (q : vw_C), vwCl[k]? = some q → u_Kn s q.1 q.2.1 q.2.2 (dC k) (dI k) := by
    refine ⟨fun k => match k with | 0 => c0 | 1 => c1 | 2 => c2 | 3 => c3 | 4 => c4 | _ => c5, fun k => match k with | 0 => i0 | 1 => i1 | 2 => i2 | 3 => i3 | 4 => i4 | _ => i5, ?_⟩
    intro k q hq
    match k, hq with
    | 0, hq => cases hq; exact k0
    | 1, hq => cases hq; exact k1
    | 2, hq => cases hq; exact k2
    | 3, hq => cases hq; exact k3
    | 4, hq => cases hq; exact k4
    | 5, hq => cases hq; exact k5
    | k + 6, hq => simp [vwCl] at hq
  have hK : va_K (dC, dI) vwCl [] s := ⟨hKc, fun k q h => by simp at h⟩
  obtain ⟨aS, hS1, hS2⟩ := va_Tof (args := #[Value.ref b]) (s := s) (tm := .static RX4 "SHOWN_ON" "[I") (ty := .int) (N := 6) (f := fun j => .int (zshown j)) (A := fun q : Nat => s.heap.size ≤ q) (by decide) (hs (.arrayOf (.static RX4 "SHOWN_ON" "[I") .int) (by decide +kernel)) (va_eqt (hs (.eq (.length (.static RX4 "SHOWN_ON" "[I")) (.int (Int32.ofNat 6))) (by decide +kernel))) (fun j hj => va_eqt (by
    rcases (show j = 0 ∨ j = 1 ∨ j = 2 ∨ j = 3 ∨ j = 4 ∨ j = 5 by omega) with rfl | rfl | rfl | rfl | rfl | rfl
    · exact hs (.eq (.elem (.static RX4 "SHOWN_ON" "[I") (.int (Int32.ofNat 0))) (.int (zshown 0))) (by decide +kernel)
    · exact hs (.eq (.elem (.static RX4 "SHOWN_ON" "[I") (.int (Int32.ofNat 1))) (.int (zshown 1))) (by decide +kernel)
    · exact hs (.eq (.elem (.static RX4 "SHOWN_ON" "[I") (.int (Int32.ofNat 2))) (.int (zshown 2))) (by decide +kernel)
    · exact hs (.eq (.elem (.static RX4 "SHOWN_ON" "[I") (.int (Int32.ofNat 3))) (.int (zshown 3))) (by decide +kernel)
    · exact hs (.eq (.elem (.static RX4 "SHOWN_ON" "[I") (.int (Int32.ofNat 4))) (.int (zshown 4))) (by decide +kernel)
    · exact hs (.eq (.elem (.static RX4 "SHOWN_ON" "[I") (.int (Int32.ofNat 5))) (.int (zshown 5))) (by decide +kernel))) hA
  have hZ1 := va_Zof (A := fun q : Nat => s.heap.size ≤ q) (hts (.laysStatic RX4 "SHOWN_ON" "[I") (by decide +kernel)) (hzt _ it_X4) hS1 hA
  obtain ⟨adK, adV, hT1, hT2⟩ := vk_Sof (args := #[Value.ref b]) (s := s) (N := 1) (tm := fun _ => .string RX1 72) (len := [5]) (byt := [[112, 116, 115, 119, 104]]) (A := fun q : Nat => s.heap.size ≤ q)
    (fun i hi => by have : i = 0 := by omega
                    subst this; decide)
    (fun i hi => hs (.exactly (.string RX1 72) "java/lang/String") (by decide +kernel))
    (fun i hi => hs (.eq (.field (.string RX1 72) "java/lang/String" "coder" "B") (.int 0)) (by decide +kernel))
    (fun i hi => hs (.arrayOf (.field (.string RX1 72) "java/lang/String" "value" "[B") .byte) (by decide +kernel))
    (fun i hi => by
      have : i = 0 := by omega
      subst this
      exact hs (.eq (.length (.field (.string RX1 72) "java/lang/String" "value" "[B")) (.int (Int32.ofNat 5))) (by decide +kernel))
    (fun i hi j hj => by
      have : i = 0 := by omega
      subst this
      have hj : j < 5 := hj
      rcases (show j = 0 ∨ j = 1 ∨ j = 2 ∨ j = 3 ∨ j = 4 by omega) with rfl | rfl | rfl | rfl | rfl
      · exact hs (.eq (.elem (.field (.string RX1 72) "java/lang/String" "value" "[B") (.int (Int32.ofNat 0))) (.int 112)) (by decide +kernel)
      · exact hs (.eq (.elem (.field (.string RX1 72) "java/lang/String" "value" "[B") (.int (Int32.ofNat 1))) (.int 116)) (by decide +kernel)
      · exact hs (.eq (.elem (.field (.string RX1 72) "java/lang/String" "value" "[B") (.int (Int32.ofNat 2))) (.int 115)) (by decide +kernel)
      · exact hs (.eq (.elem (.field (.string RX1 72) "java/lang/String" "value" "[B") (.int (Int32.ofNat 3))) (.int 119)) (by decide +kernel)
      · exact hs (.eq (.elem (.field (.string RX1 72) "java/lang/String" "value" "[B") (.int (Int32.ofNat 4))) (.int 104)) (by decide +kernel))
    (fun i j hi hj hne => absurd (show i = j by omega) hne) hA
  have hZ2 := va_Zof (A := fun q : Nat => s.heap.size ≤ q) (hts (.laysStatic RJ0 "COMPACT_STRINGS" "Z") (by decide +kernel)) (hts (.initialized RJ0) (by decide +kernel)) (va_eqi (z := 1) (hs (.eq (.static RJ0 "COMPACT_STRINGS" "Z") (.int 1)) (by decide +kernel))) hA
  obtain ⟨ex, x0, x1, x2, x9⟩ : ∃ ex : UInt32 → Nat, ex 0 = aS ∧ ex 1 = adK 0 ∧ ex 2 = adV 0 ∧ ex 9 = b := ⟨fun x => if x = 0 then aS else if x = 1 then adK 0 else if x = 2 then adV 0 else b, by simp, by simp, by simp, by simp⟩
  have hSt : zStat ex (fun q : Nat => s.heap.size ≤ q) s s.heap := by
    unfold zStat
    rw [x0, x1, x2]
    refine ⟨hZ1, hS2, vk_R.of (hts (.stringRef RX1 72 "ptswh") (by decide +kernel)) (hT2 0 (by decide)), ⟨fun i hi => ?_, fun i j hi hj _ => by omega⟩, hZ2⟩
    have : i = 0 := by omega
    subst this
    exact hT1.1 0 (by decide)
  have hN : zNest s := ⟨va_Nw.of rfl (hts (.methodLinkNest RX4 9 yX3_init RX4) (by decide +kernel)), va_Nw.of rfl (hts (.methodLinkNest RX4 21 yX1_init RX4) (by decide +kernel)), va_Nw.of rfl (hts (.methodLinkNest RX3 49 yX4_within RX4) (by decide +kernel)), va_Nw.of rfl (hts (.methodLinkNest RX3 86 yX4_longer RX4) (by decide +kernel)), va_Nw.of rfl (hts (.methodLinkNest RX0 97 yX4_longer RX4) (by decide +kernel)), va_Nw.of rfl (hts (.methodLinkNest RX0 100 yX4_lowestOf RX4) (by decide +kernel)), va_AO.of (hts (.arrayOver (.object RX2)) (by decide +kernel))⟩
  have hl := lv_entry ([.ref b]) (n := 4) (Nat.le_of_ble_eq_true rfl)
  rw [lg_entry_eq]
  generalize (lg_sl ([.ref b]) ++ List.replicate (4 - (lg_sl ([.ref b])).length) Slot.unset).toArray = ls at hl ⊢
  have hl : lv_has ls 4 [(0, .ref b)] := hl
  refine law_all (xs := xs) l hL p e s m #[Value.ref b] below meth c (dC, dI) (fun q : Nat => s.heap.size ≤ q) ex (fun _ => 0) (fun _ => m.cls) (fun _ => 0) (fun _ => m.cls) s.heap [] ls (lw_Z below #[Value.ref b] s) ?_ ⟨hx, hb, hml, hown, hzt, hr, hlocks, hnm, fun q hq => hq, hSt, hN⟩ ⟨hK, fun i k n h => by simp at h, fun k q h => by simp [zW] at h, ⟨fun i j p q h => by simp [zW] at h, fun k q h => by simp [zW] at h⟩⟩ va_S.rf (zag_refl _ _ _) (fun q hq => by cases hq; exact Nat.le_refl _) ⟨hl.1, hl.2.1, fun i v hi => ?_⟩ ?_
  · unfold scr
    rw [x9]
    exact ⟨hX, hbl, Nat.not_le.mpr hbl⟩
  · match i, hi with
    | 0, hi =>
      cases hi
      show ls[0]? = some (Slot.val (.ref (ex 9)))
      rw [x9]
      exact hl.2.2 (0, .ref b) List.mem_cons_self
    | 1, hi => cases hi
    | 2, hi => cases hi
    | 3, hi => cases hi
    | i + 4, hi => cases hi
  · intro v S' M' ad' ac' H' locs' k' n' pc' ls' hq hH' hS' hag hk' hn' hret
    have hq : v = some (.int (nI 1)) := hq
    subst hq
    refine va_forget (fun q hq => hS'.2.2 q hq) ?_
    refine W.widen (k := 600000) (n := 7302250) hk' hn' ?_
    exact lw_ret hx hb hr hlocks hret.2
set_option maxHeartbeats 4000000 in
theorem lw_walk (l : Launch) (b : Addr) (xs : List Int32) : MetFree l x (headSpec (Jvm.Cond.code x code maxLocals ret :: tables_1) room_1) (lw_P b xs) (fun _ _ _ _ _ => True) lw_Q := by
  refine MetFree.of_bodyS (code := code) (maxLocals := maxLocals) (ret := ret) (by decide) ?_ ?_
  · intro args s m h hn
    obtain ⟨meth, c, h1, h2, h3, h4, h5, h6, -, -⟩ := Cond.code_spec hn (atoms_spec (ws := Jvm.Cond.code x code maxLocals ret :: tables_1) h _ List.mem_cons_self)
    exact ⟨meth, c, h1, h2, h3, h4, h5, h6⟩
  · intro p e s m args below meth c s₁ B hml0 hP _
    obtain ⟨rfl, hx, hbd, hgv⟩ := hP
    obtain ⟨scr, harrAt, hlist, hof, hsmall⟩ := hx
    obtain ⟨hcb, hkn, -, -⟩ := State.arrayAt?_spec harrAt
    have hown : s.vm.findClass R_law = some m.cls := findClass_of_methodNamed B.named
    have hts0 : ∀ c ∈ (Jvm.Cond.code x code maxLocals ret :: tables_1), c.before #[Value.ref b] s = true := atoms_spec (ws := Jvm.Cond.code x code maxLocals ret :: tables_1) B.pre
    have hts : ∀ w ∈ lw_tbl, w.before #[Value.ref b] s = true := k2_hts_sels lw_privs (fun w hw => hts0 w (List.mem_cons_of_mem _ hw)) lw_privs_ok
    have hml : c.maxLocals = 4 := B.maxLocals_eq (hts0 _ List.mem_cons_self)
    have X₀ : Stand p l e room_1 s m #[Value.ref b] below meth c s₁ [] 0 0 := Stand.of_body B
    have hh0 : s₁.heap = s.heap := by rw [B.state]; rfl
    have hsz : scr.slots.size = xs.length := by rw [← Array.length_toList, hlist, List.length_map]
    have hval : ∀ j : Nat, j < xs.length → scr.slots[j]? = some (.int (xs.getD j 0)) := fun j hj => by
      rw [← Array.getElem?_toList, hlist]
      simp [hj]
    have hbl : b < s.heap.size := (Array.getElem?_eq_some_iff.mp hcb).1
    have hX : va_X b xs.length (fun j => xs.getD j 0) s s.heap := ⟨scr, hcb, hof, hkn, hsz, hval⟩
    have K : W p l e room_1 s m #[Value.ref b] below meth c s₁.heap [] 0 0 (lw_Z below #[Value.ref b] s) (entryFrame m ([Value.ref b] : List Value).toArray 4) := by
      rw [hh0]
      exact whole_start l hbd ⟨B.exec, B.bytes, B.returns, hml, hown, hts, hX, hbl, B.notSynchronized, hgv, (name_of_methodNamed B.named B.method).1⟩
    obtain ⟨t, a1, o, b1, b2, b3⟩ := K s₁ rfl X₀
    exact ⟨t, o, a1, b1, b2, b3⟩
theorem lw_pre_spec {args : Array Value} {s : State} (h : (Jvm.Cond.and given_1 narrow_1).before args s = true) (hr : rest_1_c.before args s = true) : ∃ (b : Addr) (xs : List Int32), lw_P b xs args s := by
  have hs := flat_of_before _ h
  have hq := flat_of_before _ hr
  have hc : (Cond.count 1).before args s = true := hs _ (by decide +kernel)
  have harr : (Cond.arrayOf (.arg 0) .int).before args s = true := hs _ (by decide +kernel)
  have hle : (Cond.le (.length (.arg 0)) (.int 3584)).before args s = true := hs _ (by decide +kernel)
  have hlen : (Cond.isInt (.length (.arg 0))).before args s = true := hq _ (by decide +kernel)
  have hall : (Cond.all (.arg 0) (.isInt (.elem (.arg 0) (.index 0)))).before args s = true := hq _ (by decide +kernel)
  obtain ⟨b, xs, hb, hx⟩ := State.ints_of_pre rfl harr hlen hall
  have hsm : xs.length < 2 ^ 31 := hx.choose_spec.2.2.2
  have hev : (Term.length (.arg 0)).eval args s none [] s = some (.int xs.length.toInt32) := hx.length_eval hb
  have hv := Cond.le_ints hev (show (Term.int 3584).eval args s none [] s = some (.int 3584) from rfl)
  have hd : xs.length.toInt32 ≤ 3584 := by
    simpa [Cond.before, Cond.holds, hv] using hle
  have hN : xs.length ≤ 3584 := (Int32.ofNat_le_ofNat hsm (by decide)).mp (show Int32.ofNat xs.length ≤ Int32.ofNat 3584 from hd)
  exact ⟨b, xs, Cond.one_arg hc (show args[0]? = some (.ref b) from hb), hx, hN, h⟩
theorem lw_comes (l : Launch) : Comes l x (Jvm.Cond.code x code maxLocals ret :: tables_1) room_1 (fun tb e args s => Calls_1 tb e args s ∧ rest_1 tb e args s ∧ Pre_1 tb e args s)
    (fun _ _ args s o t => lw_Q args s o t) := by
  intro p e ha hc hk s m args below hf hfit hheap happ hpre
  obtain ⟨b, xs, hP⟩ := lw_pre_spec hpre.2.2 hpre.2.1
  obtain ⟨k, o, h1, h2, h3, hQ⟩ := lw_walk l b xs p e ha hc hk s m args below hf ((Spec.applies_iff_loose hf).mp happ).1 hP trivial
  exact ⟨k, o, h1, h2, h3, hQ⟩
theorem lw_frame {s t : State} {o : Outcome} {args : Array Value} (h : Framed s o t [] 600000 7302250) :
    Framed s o t (fieldLocs frame_1_writes args s ++ arrayLocs frame_1_arrays args s ++ staticLocs frame_1_statics s) 600000 7302250 := h
theorem lw_limb (L : Cond) (hL : ∀ (args : Array Value) (s t : State), L.after args s (.returned (some (.int 1))) t = true) :
    ArmFor flags0 classFile x code maxLocals ret World_1 tables_1 room_1 Calls_1 rest_1 Pre_1
      (fun tb e a s o t => postC L tb e a s o t ∧ Framed s o t (fieldLocs frame_1_writes a s ++ arrayLocs frame_1_arrays a s ++ staticLocs frame_1_statics s) 600000 7302250) := by
  intro l _ _ _ p e ha hc hk s m args below hf hfit hheap happ hpre
  obtain ⟨k, o, h1, h2, h3, rfl, hF⟩ := lw_comes l p e ha hc hk s m args below hf hfit hheap happ hpre
  exact ⟨k, _, h1, h2, h3, hL args s _, lw_frame hF⟩
theorem i_vc : Claimed_1_1 ∧ Claimed_1_2 := ⟨lw_limb limb_1_1 (fun args s t => by simp [limb_1_1, Cond.after, Cond.holds, Cond.value]), lw_limb limb_1_2 (fun args s t => Cond.after_iff.mpr (by
  first | (rw [show limb_1_2 = Cond.eq .result (.int 1) from rfl, Cond.eq_ints (x := 1) (y := 1) rfl rfl]; simp; done) | (simp [limb_1_2, Cond.value, Term.eval]; done)))⟩
