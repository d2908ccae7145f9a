/-! the text "ptswh": .float 1 the String, .float 2 its bytes -/
def kb (j : Nat) : Int32 := (([[112, 116, 115, 119, 104]] : List (List Int32)).getD 0 []).getD j 0
section STR
variable {l : Launch} {b : Option Nat} {R : Room} {y : MethodName} {cc : ByteArray} {nL : Nat} {ret : Option FieldType} {Q : Option Value → List zC → zM → Prop} {cells slots pc : Nat} {ls : List (Option Value)} {st : List Value} {S : List zC} {M : zM}
theorem r_ldcS (hy : y.cls = RX1) (hd : decode cc pc = .ok (.ldc 72, 2)) (kk : RA l b R y cc nL ret Q cells slots (pc + 2) ls (.float 1 :: st) S M) : RA l b R y cc nL ret Q cells slots pc ls st S M := by
  intro p e s m args below meth c D A ex ad0 ac0 ad ac H locs lsA Z C hH hS hg hb hl hZ
  have hown := C.2.2.2.1
  rw [hy] at hown
  exact va_ldcS C.1 C.2.1 hown C.2.2.2.2.2.2.2.2.2.1.2.2.1 hd (kk p e s m args below meth c D A ex ad0 ac0 ad ac H locs lsA Z C hH hS hg hb hl hZ)
theorem r_getCoder (hy : y.cls = RJ0) (hd : decode cc pc = .ok (.getfield 15, 3)) (kk : RA l b R y cc nL ret Q cells slots (pc + 3) ls (.int (nI 0) :: st) S M) : RA l b R y cc nL ret Q cells slots pc ls (.float 1 :: st) S M := by
  intro p e s m args below meth c D A ex ad0 ac0 ad ac H locs lsA Z C hH hS hg hb hl hZ
  have hown := C.2.2.2.1
  rw [hy] at hown
  exact vk_getf C.1 C.2.1 (C.2.2.2.2.2.2.2.2.2.1.2.2.2.1.1 0 (by decide)).2.1 hS hown (C.2.2.2.2.1 _ fs_J0_15) (fun _ h => h) hd (kk p e s m args below meth c D A ex ad0 ac0 ad ac H locs lsA Z C hH hS hg hb hl hZ)
theorem r_getValue (hy : y.cls = RJ0) (hd : decode cc pc = .ok (.getfield 9, 3)) (kk : RA l b R y cc nL ret Q cells slots (pc + 3) ls (.float 2 :: st) S M) : RA l b R y cc nL ret Q cells slots pc ls (.float 1 :: st) S M := by
  intro p e s m args below meth c D A ex ad0 ac0 ad ac H locs lsA Z C hH hS hg hb hl hZ
  have hown := C.2.2.2.1
  rw [hy] at hown
  exact vk_getf C.1 C.2.1 (C.2.2.2.2.2.2.2.2.2.1.2.2.2.1.1 0 (by decide)).2.2.1 hS hown (C.2.2.2.2.1 _ fs_J0_9) (fun _ h => h) hd (kk p e s m args below meth c D A ex ad0 ac0 ad ac H locs lsA Z C hH hS hg hb hl hZ)
theorem r_getCompact (hy : y.cls = RJ0) (hd : decode cc pc = .ok (.getstatic 38, 3)) (kk : RA l b R y cc nL ret Q cells slots (pc + 3) ls (.int (nI 1) :: st) S M) : RA l b R y cc nL ret Q cells slots pc ls st S M := by
  intro p e s m args below meth c D A ex ad0 ac0 ad ac H locs lsA Z C hH hS hg hb hl hZ
  have hown := C.2.2.2.1
  rw [hy] at hown
  exact va_gets C.1 C.2.1 C.2.2.2.2.2.2.2.2.2.1.2.2.2.2 hS hown (C.2.2.2.2.1 _ fs_J0_38) (fun _ h => h) hd (kk p e s m args below meth c D A ex ad0 ac0 ad ac H locs lsA Z C hH hS hg hb hl hZ)
theorem r_blen (hd : decode cc pc = .ok (.arraylength, 1)) (kk : RA l b R y cc nL ret Q cells slots (pc + 1) ls (.int (nI 5) :: st) S M) : RA l b R y cc nL ret Q cells slots pc ls (.float 2 :: st) S M := by
  intro p e s m args below meth c D A ex ad0 ac0 ad ac H locs lsA Z C hH hS hg hb hl hZ
  exact va_tlen C.1 C.2.1 (C.2.2.2.2.2.2.2.2.2.1.2.2.2.1.1 0 (by decide)).2.2.2 hS (v := nI 5) rfl hd (kk p e s m args below meth c D A ex ad0 ac0 ad ac H locs lsA Z C hH hS hg hb hl hZ)
theorem r_bald5 {k : Nat} (hd : decode cc pc = .ok (.baload, 1)) (hk : k < 5) (kk : RA l b R y cc nL ret Q cells slots (pc + 1) ls (.int (kb k) :: st) S M) : RA l b R y cc nL ret Q cells slots pc ls (.int (nI k) :: .float 2 :: st) S M := by
  intro p e s m args below meth c D A ex ad0 ac0 ad ac H locs lsA Z C hH hS hg hb hl hZ
  exact va_tb C.1 C.2.1 (C.2.2.2.2.2.2.2.2.2.1.2.2.2.1.1 0 (by decide)).2.2.2 hS (vp_in_nI hk (by decide)) (v := .int (kb k)) (by rw [nI_clamp (by omega)]; rfl) hd (kk p e s m args below meth c D A ex ad0 ac0 ad ac H locs lsA Z C hH hS hg hb hl hZ)
theorem r_min {index : Nat} {x z : Int32} (hw : Cond.methodLink y.cls index Lib.Math.min.name ∈ zT ∧ Cond.static Lib.Math.min.name ∈ zT ∧ Cond.initialized "java/lang/Math" ∈ zT ∧ Cond.code Lib.Math.min.name Lib.Math.min.code 2 (some .int) ∈ zT) (hd : decode cc pc = .ok (.invokestatic index, 3)) (hfr : 1 ≤ R.frames) (hlo : (st.map fun v => v.category).sum + 13 ≤ R.locals) (hc : cells ≤ R.cells) (hs : slots ≤ R.slots) (kk : RA l b R y cc nL ret Q cells slots (pc + 3) ls (.int (if z < x then z else x) :: st) S M) : RA l b R y cc nL ret Q cells slots pc ls (.int z :: .int x :: st) S M := by
  intro p e s m args below meth c D A ex ad0 ac0 ad ac H locs lsA Z C hH hS hg hb hl hZ
  exact va_mmin C.1 C.2.1 (C.2.2.1.trans hl.1.symm) C.2.2.2.1 (C.2.2.2.2.1 _ hw.1) (C.2.2.2.2.1 _ hw.2.1) (C.2.2.2.2.1 _ hw.2.2.1) (C.2.2.2.2.1 _ hw.2.2.2) hfr (by rw [zsum]; exact hlo) hc hs hd (kk p e s m args below meth c D A ex ad0 ac0 ad ac H locs lsA Z C hH hS hg hb hl hZ)
theorem r_bret {v : Int32} (hd : decode cc pc = .ok (.ireturn, 1)) (hr : ret = some .byte) (hv : v = 0) (hc : cells ≤ R.cells) (hs : slots ≤ R.slots) (k : Q (some (.int v)) S M) : RA l b R y cc nL ret Q cells slots pc ls [.int v] S M := by
  intro p e s m args below meth c D A ex ad0 ac0 ad ac H locs lsA Z C hH hS hg hb hl hZ
  exact hZ _ S M ad ac H locs cells slots pc lsA k hH hS hg hc hs ⟨⟨.byte, hr, by subst hv; decide⟩, hd⟩
variable {d index n nL' : Nat} {y' : MethodName} {cc' : ByteArray} {ret' : Option FieldType} {as : List Value} {st0 : List Value} {r : Option Value}
set_option maxHeartbeats 4000000 in
/-- invokevirtual on the String, of a method that changes nothing -/
theorem r_cVX (hy' : y'.cls = RJ0) (hm : zMV y' cc' nL' ret' n) (hlk : Cond.methodLink y.cls index y' ∈ zT) (hC : CT l false d 0 0 y' cc' nL' ret' (.float 1 :: as) S M (zF r S M)) (hd : decode cc pc = .ok (.invokevirtual index, 3)) (hn : as.length = n) (hst : st0 = as.reverse ++ .float 1 :: st) (hro : (st.map fun v => v.category).sum ≤ 8) (hR : d + 1 ≤ R.frames ∧ 8 + (nL' + 11) + 37 * d ≤ R.locals) (hcs : cells ≤ R.cells ∧ slots ≤ R.slots) (hbn : ∀ q, b = some q → q ≤ S.length) (kk : RA l b R y cc nL ret Q cells slots (pc + 3) ls (zrst r ++ st) S M) : RA l b R y cc nL ret Q cells slots pc ls st0 S M := by
  intro p e s m args below meth c D A ex ad0 ac0 ad ac H locs lsA Z C hH hS hg hb hl hZ
  subst hst
  have hrc := vk_recv (C.2.2.2.2.2.2.2.2.2.1.2.2.2.1) (i := 0) (by decide) hS
  have hrc : ∃ cell : Cell, H[ex 1]? = some cell ∧ cell.vm.isStatics = false ∧ s.vm.findClass y'.cls = some cell.cls := by rw [hy']; exact hrc
  have hrun := va_runV (g := F0 m pc lsA ((as.reverse ++ .float 1 :: st).map (zv ad ex))) (rest := st.map (zv ad ex)) (As := as.map (zv ad ex)) (b := ex 1) ⟨C.1, C.2.1, C.2.2.1, C.2.2.2.1, C.2.2.2.2.1⟩ (hC D ex ad ac H.size) (cwV (C := y'.cls) n C.2.2.2.2.1 (zT_good (ws := wsV y.cls index y'.cls y' (.code y' cc' nL' ret' :: zT)) (by
      intro w hw
      rcases List.mem_append.mp hw with h | h
      · simp only [List.mem_cons, List.not_mem_nil, or_false] at h
        rcases h with rfl | rfl | rfl | rfl
        · exact hlk
        · exact hm.2.1
        · exact hm.2.2
        · exact hm.1.1
      · exact zcw hm.1 w h)) rfl rfl rfl ⟨rfl, hm.1.2.2.1, hm.1.2.2.2.1, hm.1.2.2.2.2⟩ ⟨hR.1, hR.2⟩) ⟨zB.blind D ex ad ac S M H.size _, hrc, fun U hU hW => ⟨rfl, zB.at hH hS C.2.2.2.2.2.2.2.2.1 C.2.2.2.2.2.2.2.2.2.1 C.2.2.2.2.2.2.2.2.2.2 hU hW⟩⟩ (e := e) (p := p) (R := R) (below := below) (meth := meth) (locs := locs) (cells := cells) (slots := slots) rfl (by rw [List.length_map]; exact hn) hl.1 (by simp [List.map_append, zv]) (lv_room (by rw [zsum]; exact hro)) hd hcs
  exact RA.back hrun C hH hS hg hl hZ (fun v S' M' hq => by obtain ⟨rfl, rfl, rfl⟩ := hq; exact ⟨kk, hbn⟩)
end STR
/-- the kind of a letter -/
def kix (c : Nat) : Int32 := if c = 112 then nI 0 else if c = 116 then nI 1 else if c = 115 then nI 2 else if c = 119 then nI 3 else if c = 104 then nI 4 else -1
theorem i2b_nI {c : Nat} (h : c ≤ 126) : (nI c).toInt8.toInt32 = nI c := by
  have : ∀ c, c < 127 → (nI c).toInt8.toInt32 = nI c := by decide +kernel
  exact this c (by omega)
theorem i2c_nI {c : Nat} (h : c ≤ 126) : ((nI c).toUInt32 % 65536).toInt32 = nI c := by
  have : ∀ c, c < 127 → ((nI c).toUInt32 % 65536).toInt32 = nI c := by decide +kernel
  exact this c (by omega)
set_option maxHeartbeats 4000000 in
set_option maxRecDepth 100000 in
theorem cJ_coder (l : Launch) {S : List zC} {M : zM} : CT l false 0 0 0 yJ0_coder_7d493 cJ0_coder_7d493 1 (some .byte) [.float 1] S M (zF (some (.int (nI 0))) S M) := by
  refine CT.ofN (by decide) (fun _ _ => Nat.le_of_ble_eq_true rfl) ?_
  refine r_getCompact rfl dJ0_coder_7d493_0 ?_
  refine r_if_eqN (tgt := 13) dJ0_coder_7d493_3 (by decide) (by decide) (fun q9 => absurd q9 (by decide)) (fun _ => ?_)
  refine r_aload_nX dJ0_coder_7d493_6 rfl rfl ?_
  refine r_getCoder rfl dJ0_coder_7d493_7 ?_
  refine r_goto (tgt := 14) dJ0_coder_7d493_10 (by decide) ?_
  refine r_bret dJ0_coder_7d493_14 rfl rfl (by decide) (by decide) ?_
  exact ⟨rfl, rfl, rfl⟩

set_option maxHeartbeats 4000000 in
set_option maxRecDepth 100000 in
theorem cJ_isLatin1 (l : Launch) {S : List zC} {M : zM} : CT l false 0 0 0 yJ0_isLatin1_aae02 cJ0_isLatin1_aae02 1 (some .boolean) [.float 1] S M (zF (some (.int (nI 1))) S M) := by
  refine CT.ofN (by decide) (fun _ _ => Nat.le_of_ble_eq_true rfl) ?_
  refine r_getCompact rfl dJ0_isLatin1_aae02_0 ?_
  refine r_if_eqN (tgt := 17) dJ0_isLatin1_aae02_3 (by decide) (by decide) (fun q9 => absurd q9 (by decide)) (fun _ => ?_)
  refine r_aload_nX dJ0_isLatin1_aae02_6 rfl rfl ?_
  refine r_getCoder rfl dJ0_isLatin1_aae02_7 ?_
  refine r_if_neN (tgt := 17) dJ0_isLatin1_aae02_10 (by decide) (by decide) (fun q9 => absurd rfl q9) (fun _ => ?_)
  refine r_iconst (v := nI 1) dJ0_isLatin1_aae02_13 rfl ?_
  refine r_goto (tgt := 18) dJ0_isLatin1_aae02_14 (by decide) ?_
  refine r_zret dJ0_isLatin1_aae02_18 rfl (Or.inr rfl) (by decide) (by decide) ?_
  exact ⟨rfl, rfl, rfl⟩

set_option maxHeartbeats 4000000 in
set_option maxRecDepth 100000 in
theorem cJ_length (l : Launch) {S : List zC} {M : zM} : CT l false 1 0 0 yJ0_length_8abf5 cJ0_length_8abf5 1 (some .int) [.float 1] S M (zF (some (.int (nI 5))) S M) := by
  refine CT.ofN (by decide) (fun _ _ => Nat.le_of_ble_eq_true rfl) ?_
  refine r_aload_nX dJ0_length_8abf5_0 rfl rfl ?_
  refine r_getValue rfl dJ0_length_8abf5_1 ?_
  refine r_blen dJ0_length_8abf5_4 ?_
  refine r_aload_nX dJ0_length_8abf5_5 rfl rfl ?_
  refine r_cVX (as := []) rfl mv_J0_coder_7d493 ml_J0_335 (cJ_coder l) dJ0_length_8abf5_6 rfl rfl (Nat.le_of_ble_eq_true rfl) ⟨by decide, by decide⟩ ⟨by decide, by decide⟩ (fun _ h => nomatch h) ?_
  dsimp only [zrst, List.cons_append, List.nil_append]
  first | refine r_ishrN dJ0_length_8abf5_9 (by omega) (by omega) ?_ | refine r_ishr dJ0_length_8abf5_9 ?_
  refine r_iret dJ0_length_8abf5_10 rfl (by decide) (by decide) ?_
  exact ⟨rfl, rfl, rfl⟩

set_option maxHeartbeats 4000000 in
set_option maxRecDepth 100000 in
theorem cJ_canEncode (l : Launch) {S : List zC} {M : zM} {c : Nat} (hc : c ≤ 126) : CT l false 0 0 0 yJ1_canEncode_9a6ad cJ1_canEncode_9a6ad 1 (some .boolean) [.int (nI c)] S M (zF (some (.int (nI 1))) S M) := by
  refine CT.ofN (by decide) (fun _ _ => Nat.le_of_ble_eq_true rfl) ?_
  refine r_iload_n dJ1_canEncode_9a6ad_0 rfl rfl ?_
  refine r_if_ltN (tgt := 15) dJ1_canEncode_9a6ad_1 (by decide) (by omega) ?_
  refine r_iload_n dJ1_canEncode_9a6ad_4 rfl rfl ?_
  refine r_sipush (v := nI 255) dJ1_canEncode_9a6ad_5 rfl ?_
  refine r_icmp_gtN (tgt := 15) dJ1_canEncode_9a6ad_8 (by decide) (by omega) (by omega) (fun q9 => absurd q9 (by omega)) (fun _ => ?_)
  refine r_iconst (v := nI 1) dJ1_canEncode_9a6ad_11 rfl ?_
  refine r_goto (tgt := 16) dJ1_canEncode_9a6ad_12 (by decide) ?_
  refine r_zret dJ1_canEncode_9a6ad_16 rfl (Or.inr rfl) (by decide) (by decide) ?_
  exact ⟨rfl, rfl, rfl⟩

set_option maxHeartbeats 4000000 in
set_option maxRecDepth 100000 in
theorem cJ_indexOfChar (l : Launch) {S : List zC} {M : zM} {c : Nat} (hc : c ≤ 126) : CT l false 0 0 0 yJ1_indexOfChar_4cfef cJ1_indexOfChar_4cfef 6 (some .int) [.float 2, .int (nI c), .int (nI 0), .int (nI 5)] S M (zF (some (.int (kix c))) S M) := by
  refine CT.ofN (by decide) (fun _ _ => Nat.le_of_ble_eq_true rfl) ?_
  refine r_iload_n dJ1_indexOfChar_4cfef_0 rfl rfl ?_
  refine r_i2b (v := nI c) dJ1_indexOfChar_4cfef_1 (i2b_nI hc) ?_
  refine r_istore dJ1_indexOfChar_4cfef_2 rfl (by decide) ?_
  refine r_iload_n dJ1_indexOfChar_4cfef_4 rfl rfl ?_
  refine r_istore dJ1_indexOfChar_4cfef_5 rfl (by decide) ?_
  refine r_iload dJ1_indexOfChar_4cfef_7 rfl ?_
  refine r_iload_n dJ1_indexOfChar_4cfef_9 rfl rfl ?_
  refine r_icmp_geN (tgt := 31) dJ1_indexOfChar_4cfef_10 (by decide) (by decide) (by decide) (fun q9 => absurd q9 (by decide)) (fun _ => ?_)
  refine r_aload_nX dJ1_indexOfChar_4cfef_13 rfl rfl ?_
  refine r_iload dJ1_indexOfChar_4cfef_14 rfl ?_
  refine r_bald5 dJ1_indexOfChar_4cfef_16 (by decide) ?_
  refine r_iload dJ1_indexOfChar_4cfef_17 rfl ?_
  refine r_icmp_neN (x := 112) (tgt := 25) dJ1_indexOfChar_4cfef_19 (by decide) (by decide) (by omega) (fun n0 => ?_) (fun e9 => ?_)
  · skip
    first | refine r_iincN dJ1_indexOfChar_4cfef_25 rfl rfl (by decide) ?_ | refine r_iinc dJ1_indexOfChar_4cfef_25 rfl rfl rfl (by decide) ?_
    refine r_goto (tgt := 7) dJ1_indexOfChar_4cfef_28 (by decide) ?_
    refine r_iload dJ1_indexOfChar_4cfef_7 rfl ?_
    refine r_iload_n dJ1_indexOfChar_4cfef_9 rfl rfl ?_
    refine r_icmp_geN (tgt := 31) dJ1_indexOfChar_4cfef_10 (by decide) (by decide) (by decide) (fun q9 => absurd q9 (by decide)) (fun _ => ?_)
    refine r_aload_nX dJ1_indexOfChar_4cfef_13 rfl rfl ?_
    refine r_iload dJ1_indexOfChar_4cfef_14 rfl ?_
    refine r_bald5 dJ1_indexOfChar_4cfef_16 (by decide) ?_
    refine r_iload dJ1_indexOfChar_4cfef_17 rfl ?_
    refine r_icmp_neN (x := 116) (tgt := 25) dJ1_indexOfChar_4cfef_19 (by decide) (by decide) (by omega) (fun n1 => ?_) (fun e9 => ?_)
    · skip
      first | refine r_iincN dJ1_indexOfChar_4cfef_25 rfl rfl (by decide) ?_ | refine r_iinc dJ1_indexOfChar_4cfef_25 rfl rfl rfl (by decide) ?_
      refine r_goto (tgt := 7) dJ1_indexOfChar_4cfef_28 (by decide) ?_
      refine r_iload dJ1_indexOfChar_4cfef_7 rfl ?_
      refine r_iload_n dJ1_indexOfChar_4cfef_9 rfl rfl ?_
      refine r_icmp_geN (tgt := 31) dJ1_indexOfChar_4cfef_10 (by decide) (by decide) (by decide) (fun q9 => absurd q9 (by decide)) (fun _ => ?_)
      refine r_aload_nX dJ1_indexOfChar_4cfef_13 rfl rfl ?_
      refine r_iload dJ1_indexOfChar_4cfef_14 rfl ?_
      refine r_bald5 dJ1_indexOfChar_4cfef_16 (by decide) ?_
      refine r_iload dJ1_indexOfChar_4cfef_17 rfl ?_
      refine r_icmp_neN (x := 115) (tgt := 25) dJ1_indexOfChar_4cfef_19 (by decide) (by decide) (by omega) (fun n2 => ?_) (fun e9 => ?_)
      · skip
        first | refine r_iincN dJ1_indexOfChar_4cfef_25 rfl rfl (by decide) ?_ | refine r_iinc dJ1_indexOfChar_4cfef_25 rfl rfl rfl (by decide) ?_
        refine r_goto (tgt := 7) dJ1_indexOfChar_4cfef_28 (by decide) ?_
        refine r_iload dJ1_indexOfChar_4cfef_7 rfl ?_
        refine r_iload_n dJ1_indexOfChar_4cfef_9 rfl rfl ?_
        refine r_icmp_geN (tgt := 31) dJ1_indexOfChar_4cfef_10 (by decide) (by decide) (by decide) (fun q9 => absurd q9 (by decide)) (fun _ => ?_)
        refine r_aload_nX dJ1_indexOfChar_4cfef_13 rfl rfl ?_
        refine r_iload dJ1_indexOfChar_4cfef_14 rfl ?_
        refine r_bald5 dJ1_indexOfChar_4cfef_16 (by decide) ?_
        refine r_iload dJ1_indexOfChar_4cfef_17 rfl ?_
        refine r_icmp_neN (x := 119) (tgt := 25) dJ1_indexOfChar_4cfef_19 (by decide) (by decide) (by omega) (fun n3 => ?_) (fun e9 => ?_)
        · skip
          first | refine r_iincN dJ1_indexOfChar_4cfef_25 rfl rfl (by decide) ?_ | refine r_iinc dJ1_indexOfChar_4cfef_25 rfl rfl rfl (by decide) ?_
          refine r_goto (tgt := 7) dJ1_indexOfChar_4cfef_28 (by decide) ?_
          refine r_iload dJ1_indexOfChar_4cfef_7 rfl ?_
          refine r_iload_n dJ1_indexOfChar_4cfef_9 rfl rfl ?_
          refine r_icmp_geN (tgt := 31) dJ1_indexOfChar_4cfef_10 (by decide) (by decide) (by decide) (fun q9 => absurd q9 (by decide)) (fun _ => ?_)
          refine r_aload_nX dJ1_indexOfChar_4cfef_13 rfl rfl ?_
          refine r_iload dJ1_indexOfChar_4cfef_14 rfl ?_
          refine r_bald5 dJ1_indexOfChar_4cfef_16 (by decide) ?_
          refine r_iload dJ1_indexOfChar_4cfef_17 rfl ?_
          refine r_icmp_neN (x := 104) (tgt := 25) dJ1_indexOfChar_4cfef_19 (by decide) (by decide) (by omega) (fun n4 => ?_) (fun e9 => ?_)
          · skip
            first | refine r_iincN dJ1_indexOfChar_4cfef_25 rfl rfl (by decide) ?_ | refine r_iinc dJ1_indexOfChar_4cfef_25 rfl rfl rfl (by decide) ?_
            refine r_goto (tgt := 7) dJ1_indexOfChar_4cfef_28 (by decide) ?_
            refine r_iload dJ1_indexOfChar_4cfef_7 rfl ?_
            refine r_iload_n dJ1_indexOfChar_4cfef_9 rfl rfl ?_
            refine r_icmp_geN (tgt := 31) dJ1_indexOfChar_4cfef_10 (by decide) (by decide) (by decide) (fun _ => ?_) (fun q9 => absurd q9 (by decide))
            refine r_iconst (v := (-1)) dJ1_indexOfChar_4cfef_31 rfl ?_
            refine r_iret dJ1_indexOfChar_4cfef_32 rfl (by decide) (by decide) ?_
            refine ⟨congrArg (fun x => some (Value.int x)) ?_, rfl, rfl⟩
            unfold kix
            rw [if_neg (fun q => n0 q.symm), if_neg (fun q => n1 q.symm), if_neg (fun q => n2 q.symm), if_neg (fun q => n3 q.symm), if_neg (fun q => n4 q.symm)]
          · skip
            refine r_iload dJ1_indexOfChar_4cfef_22 rfl ?_
            refine r_iret dJ1_indexOfChar_4cfef_24 rfl (by decide) (by decide) ?_
            refine ⟨congrArg (fun x => some (Value.int x)) ?_, rfl, rfl⟩
            subst e9
            rfl
        · skip
          refine r_iload dJ1_indexOfChar_4cfef_22 rfl ?_
          refine r_iret dJ1_indexOfChar_4cfef_24 rfl (by decide) (by decide) ?_
          refine ⟨congrArg (fun x => some (Value.int x)) ?_, rfl, rfl⟩
          subst e9
          rfl
      · skip
        refine r_iload dJ1_indexOfChar_4cfef_22 rfl ?_
        refine r_iret dJ1_indexOfChar_4cfef_24 rfl (by decide) (by decide) ?_
        refine ⟨congrArg (fun x => some (Value.int x)) ?_, rfl, rfl⟩
        subst e9
        rfl
    · skip
      refine r_iload dJ1_indexOfChar_4cfef_22 rfl ?_
      refine r_iret dJ1_indexOfChar_4cfef_24 rfl (by decide) (by decide) ?_
      refine ⟨congrArg (fun x => some (Value.int x)) ?_, rfl, rfl⟩
      subst e9
      rfl
  · skip
    refine r_iload dJ1_indexOfChar_4cfef_22 rfl ?_
    refine r_iret dJ1_indexOfChar_4cfef_24 rfl (by decide) (by decide) ?_
    refine ⟨congrArg (fun x => some (Value.int x)) ?_, rfl, rfl⟩
    subst e9
    rfl

set_option maxHeartbeats 4000000 in
set_option maxRecDepth 100000 in
theorem cJ_indexOf4 (l : Launch) {S : List zC} {M : zM} {c : Nat} (hc : c ≤ 126) : CT l false 1 0 0 yJ1_indexOf_4cfef cJ1_indexOf_4cfef 4 (some .int) [.float 2, .int (nI c), .int (nI 0), .int (nI 5)] S M (zF (some (.int (kix c))) S M) := by
  refine CT.ofN (by decide) (fun _ _ => Nat.le_of_ble_eq_true rfl) ?_
  refine r_iload_n dJ1_indexOf_4cfef_0 rfl rfl ?_
  refine r_cS1F ms_J1_canEncode_9a6ad ml_J1_88 (cJ_canEncode l hc) dJ1_indexOf_4cfef_1 (Nat.le_of_ble_eq_true rfl) ⟨by decide, by decide⟩ ⟨by decide, by decide⟩ (fun _ h => nomatch h) ?_
  try dsimp only [zrst, List.cons_append, List.nil_append]
  refine r_if_neN (tgt := 9) dJ1_indexOf_4cfef_4 (by decide) (by decide) (fun _ => ?_) (fun q9 => absurd q9 (by decide))
  refine r_iload_n dJ1_indexOf_4cfef_9 rfl rfl ?_
  refine r_iconst (v := nI 0) dJ1_indexOf_4cfef_10 rfl ?_
  refine r_max ml_J1_92 dJ1_indexOf_4cfef_11 (by decide) (Nat.le_of_ble_eq_true rfl) (by decide) (by decide) ?_
  refine r_top (v' := .int (nI 0)) rfl ?_
  refine r_istore_n dJ1_indexOf_4cfef_14 rfl rfl (by decide) ?_
  refine r_iload_n dJ1_indexOf_4cfef_15 rfl rfl ?_
  refine r_aload_nX dJ1_indexOf_4cfef_16 rfl rfl ?_
  refine r_blen dJ1_indexOf_4cfef_17 ?_
  refine r_min ml_J1_38 dJ1_indexOf_4cfef_18 (by decide) (Nat.le_of_ble_eq_true rfl) (by decide) (by decide) ?_
  refine r_top (v' := .int (nI 5)) rfl ?_
  refine r_istore_n dJ1_indexOf_4cfef_21 rfl rfl (by decide) ?_
  refine r_iload_n dJ1_indexOf_4cfef_22 rfl rfl ?_
  refine r_iload_n dJ1_indexOf_4cfef_23 rfl rfl ?_
  refine r_icmp_ltN (tgt := 29) dJ1_indexOf_4cfef_24 (by decide) (by decide) (by decide) (fun _ => ?_) (fun q9 => absurd q9 (by decide))
  refine r_aload_nX dJ1_indexOf_4cfef_29 rfl rfl ?_
  refine r_iload_n dJ1_indexOf_4cfef_30 rfl rfl ?_
  refine r_iload_n dJ1_indexOf_4cfef_31 rfl rfl ?_
  refine r_iload_n dJ1_indexOf_4cfef_32 rfl rfl ?_
  refine r_cS4F ms_J1_indexOfChar_4cfef ml_J1_95 (cJ_indexOfChar l hc) dJ1_indexOf_4cfef_33 (Nat.le_of_ble_eq_true rfl) ⟨by decide, by decide⟩ ⟨by decide, by decide⟩ (fun _ h => nomatch h) ?_
  try dsimp only [zrst, List.cons_append, List.nil_append]
  refine r_iret dJ1_indexOf_4cfef_36 rfl (by decide) (by decide) ?_
  exact ⟨rfl, rfl, rfl⟩

set_option maxHeartbeats 4000000 in
set_option maxRecDepth 100000 in
theorem cJ_indexOf3 (l : Launch) {S : List zC} {M : zM} {c : Nat} (hc : c ≤ 126) : CT l false 2 0 0 yJ0_indexOf_7cf53 cJ0_indexOf_7cf53 3 (some .int) [.float 1, .int (nI c), .int (nI 0)] S M (zF (some (.int (kix c))) S M) := by
  refine CT.ofN (by decide) (fun _ _ => Nat.le_of_ble_eq_true rfl) ?_
  refine r_aload_nX dJ0_indexOf_7cf53_0 rfl rfl ?_
  refine r_cVX (as := []) rfl mv_J0_isLatin1_aae02 ml_J0_492 (cJ_isLatin1 l) dJ0_indexOf_7cf53_1 rfl rfl (Nat.le_of_ble_eq_true rfl) ⟨by decide, by decide⟩ ⟨by decide, by decide⟩ (fun _ h => nomatch h) ?_
  dsimp only [zrst, List.cons_append, List.nil_append]
  refine r_if_eqN (tgt := 23) dJ0_indexOf_7cf53_4 (by decide) (by decide) (fun q9 => absurd q9 (by decide)) (fun _ => ?_)
  refine r_aload_nX dJ0_indexOf_7cf53_7 rfl rfl ?_
  refine r_getValue rfl dJ0_indexOf_7cf53_8 ?_
  refine r_iload_n dJ0_indexOf_7cf53_11 rfl rfl ?_
  refine r_iload_n dJ0_indexOf_7cf53_12 rfl rfl ?_
  refine r_aload_nX dJ0_indexOf_7cf53_13 rfl rfl ?_
  refine r_cVX (as := []) rfl mv_J0_length_8abf5 ml_J0_505 (cJ_length l) dJ0_indexOf_7cf53_14 rfl rfl (Nat.le_of_ble_eq_true rfl) ⟨by decide, by decide⟩ ⟨by decide, by decide⟩ (fun _ h => nomatch h) ?_
  dsimp only [zrst, List.cons_append, List.nil_append]
  refine r_cS4F ms_J1_indexOf_4cfef ml_J0_637 (cJ_indexOf4 l hc) dJ0_indexOf_7cf53_17 (Nat.le_of_ble_eq_true rfl) ⟨by decide, by decide⟩ ⟨by decide, by decide⟩ (fun _ h => nomatch h) ?_
  try dsimp only [zrst, List.cons_append, List.nil_append]
  refine r_goto (tgt := 36) dJ0_indexOf_7cf53_20 (by decide) ?_
  refine r_iret dJ0_indexOf_7cf53_36 rfl (by decide) (by decide) ?_
  exact ⟨rfl, rfl, rfl⟩

set_option maxHeartbeats 4000000 in
set_option maxRecDepth 100000 in
theorem cJ_indexOf (l : Launch) {S : List zC} {M : zM} {c : Nat} (hc : c ≤ 126) : CT l false 3 0 0 yJ0_indexOf_0f7a4 cJ0_indexOf_0f7a4 2 (some .int) [.float 1, .int (nI c)] S M (zF (some (.int (kix c))) S M) := by
  refine CT.ofN (by decide) (fun _ _ => Nat.le_of_ble_eq_true rfl) ?_
  refine r_aload_nX dJ0_indexOf_0f7a4_0 rfl rfl ?_
  refine r_iload_n dJ0_indexOf_0f7a4_1 rfl rfl ?_
  refine r_iconst (v := nI 0) dJ0_indexOf_0f7a4_2 rfl ?_
  refine r_cVX (as := [.int (nI c), .int (nI 0)]) rfl mv_J0_indexOf_7cf53 ml_J0_633 (cJ_indexOf3 l hc) dJ0_indexOf_0f7a4_3 rfl rfl (Nat.le_of_ble_eq_true rfl) ⟨by decide, by decide⟩ ⟨by decide, by decide⟩ (fun _ h => nomatch h) ?_
  dsimp only [zrst, List.cons_append, List.nil_append]
  refine r_iret dJ0_indexOf_0f7a4_6 rfl (by decide) (by decide) ?_
  exact ⟨rfl, rfl, rfl⟩

