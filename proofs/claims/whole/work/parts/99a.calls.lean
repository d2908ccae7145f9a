/-! the law's calls, one by one -/
def lsI (i : Nat) : List (Option Value) := [some (.float 9), some (.ref 0), some (.ref 34), some (.int (nI i))]
section LCV
variable {L : Nat} {xs : Nat → Int32} {l : Launch} {b : Option Nat} {R : Room} {y : MethodName} {cc : ByteArray} {nL : Nat} {ret : Option FieldType} {Q : Option Value → List zC → zM → Prop} {cells slots pc : Nat} {ls : List (Option Value)} {st : List Value} {S : List zC} {M : zM}
theorem L_arg {i j : Nat} {n : Int} (h1 : decode cc pc = .ok (.aload_n 0, 1)) (h2 : decode cc (pc + 1) = .ok (.iload_n 3, 1)) (h3 : decode cc (pc + 1 + 1) = .ok (.iconst n, 1)) (hn : Int32.ofInt n = nI j) (h4 : decode cc (pc + 1 + 1 + 1) = .ok (.iadd, 1)) (h5 : decode cc (pc + 1 + 1 + 1 + 1) = .ok (.iaload, 1)) (hj : i + j < L) (hL : L ≤ 3584) (kk : LA (scr L xs) l b R y cc nL ret Q cells slots (pc + 5) (lsI i) (.int (xs (i + j)) :: st) S M) : LA (scr L xs) l b R y cc nL ret Q cells slots pc (lsI i) st S M := by
  refine L_aload_nX h1 rfl rfl ?_
  refine L_iload_n h2 rfl rfl ?_
  refine L_iconst h3 hn ?_
  refine L_iadd h4 ?_
  rw [nI_add]
  exact L_sld h5 hj hL kk
theorem L_argB {i j : Nat} {n : Int} (h1 : decode cc pc = .ok (.aload_n 0, 1)) (h2 : decode cc (pc + 1) = .ok (.iload_n 3, 1)) (h3 : decode cc (pc + 1 + 1) = .ok (.bipush n, 2)) (hn : (Int8.ofInt n).toInt32 = nI j) (h4 : decode cc (pc + 1 + 1 + 2) = .ok (.iadd, 1)) (h5 : decode cc (pc + 1 + 1 + 2 + 1) = .ok (.iaload, 1)) (hj : i + j < L) (hL : L ≤ 3584) (kk : LA (scr L xs) l b R y cc nL ret Q cells slots (pc + 6) (lsI i) (.int (xs (i + j)) :: st) S M) : LA (scr L xs) l b R y cc nL ret Q cells slots pc (lsI i) st S M := by
  refine L_aload_nX h1 rfl rfl ?_
  refine L_iload_n h2 rfl rfl ?_
  refine L_bipush h3 hn ?_
  refine L_iadd h4 ?_
  rw [nI_add]
  exact L_sld h5 hj hL kk
variable {gg : State → (Nat → Prop) → (UInt32 → Nat) → Prop} {d mc ms index nL' : Nat} {y' : MethodName} {cc' : ByteArray} {ret' : Option FieldType} {Q' : Option Value → List zC → zM → Prop}
theorem L_cV0 {o ci : Nat} {fl : List (Option (Option Nat))} {T : u_T} {N : Nat} (hm : zMV y' cc' nL' ret' 0) (hlk : Cond.methodLink y.cls index y' ∈ zT) (hC : CT l false d mc ms y' cc' nL' ret' [.ref o] S M Q') (hd : decode cc pc = .ok (.invokevirtual index, 3)) (hro : (st.map fun v => v.category).sum ≤ 8) (hR : d + 1 ≤ R.frames ∧ 8 + (nL' + 11) + 37 * d ≤ R.locals) (hcs : cells + mc ≤ R.cells ∧ slots + ms ≤ R.slots) (hc : S[o]? = some (.inr (ci, fl))) (hcl : vwCl[ci]? = some (y'.cls, T, N)) (kk : ∀ v S' M', Q' v S' M' → LA gg l b R y cc nL ret Q (cells + mc) (slots + ms) (pc + 3) ls (zrst v ++ st) S' M' ∧ (∀ q, b = some q → q ≤ S'.length)) : LA gg l b R y cc nL ret Q cells slots pc ls (.ref o :: st) S M :=
  L_callV (as := []) hm hlk hC hd rfl rfl hro hR hcs hc hcl kk
theorem L_cV1 {a1 : Value} {o ci : Nat} {fl : List (Option (Option Nat))} {T : u_T} {N : Nat} (hm : zMV y' cc' nL' ret' 1) (hlk : Cond.methodLink y.cls index y' ∈ zT) (hC : CT l false d mc ms y' cc' nL' ret' [.ref o, a1] S M Q') (hd : decode cc pc = .ok (.invokevirtual index, 3)) (hro : (st.map fun v => v.category).sum ≤ 8) (hR : d + 1 ≤ R.frames ∧ 8 + (nL' + 11) + 37 * d ≤ R.locals) (hcs : cells + mc ≤ R.cells ∧ slots + ms ≤ R.slots) (hc : S[o]? = some (.inr (ci, fl))) (hcl : vwCl[ci]? = some (y'.cls, T, N)) (kk : ∀ v S' M', Q' v S' M' → LA gg l b R y cc nL ret Q (cells + mc) (slots + ms) (pc + 3) ls (zrst v ++ st) S' M' ∧ (∀ q, b = some q → q ≤ S'.length)) : LA gg l b R y cc nL ret Q cells slots pc ls (a1 :: .ref o :: st) S M :=
  L_callV (as := [a1]) hm hlk hC hd rfl rfl hro hR hcs hc hcl kk
theorem L_cV2 {a1 a2 : Value} {o ci : Nat} {fl : List (Option (Option Nat))} {T : u_T} {N : Nat} (hm : zMV y' cc' nL' ret' 2) (hlk : Cond.methodLink y.cls index y' ∈ zT) (hC : CT l false d mc ms y' cc' nL' ret' [.ref o, a1, a2] S M Q') (hd : decode cc pc = .ok (.invokevirtual index, 3)) (hro : (st.map fun v => v.category).sum ≤ 8) (hR : d + 1 ≤ R.frames ∧ 8 + (nL' + 11) + 37 * d ≤ R.locals) (hcs : cells + mc ≤ R.cells ∧ slots + ms ≤ R.slots) (hc : S[o]? = some (.inr (ci, fl))) (hcl : vwCl[ci]? = some (y'.cls, T, N)) (kk : ∀ v S' M', Q' v S' M' → LA gg l b R y cc nL ret Q (cells + mc) (slots + ms) (pc + 3) ls (zrst v ++ st) S' M' ∧ (∀ q, b = some q → q ≤ S'.length)) : LA gg l b R y cc nL ret Q cells slots pc ls (a2 :: a1 :: .ref o :: st) S M :=
  L_callV (as := [a1, a2]) hm hlk hC hd rfl rfl hro hR hcs hc hcl kk
theorem L_cV3 {a1 a2 a3 : Value} {o ci : Nat} {fl : List (Option (Option Nat))} {T : u_T} {N : Nat} (hm : zMV y' cc' nL' ret' 3) (hlk : Cond.methodLink y.cls index y' ∈ zT) (hC : CT l false d mc ms y' cc' nL' ret' [.ref o, a1, a2, a3] S M Q') (hd : decode cc pc = .ok (.invokevirtual index, 3)) (hro : (st.map fun v => v.category).sum ≤ 8) (hR : d + 1 ≤ R.frames ∧ 8 + (nL' + 11) + 37 * d ≤ R.locals) (hcs : cells + mc ≤ R.cells ∧ slots + ms ≤ R.slots) (hc : S[o]? = some (.inr (ci, fl))) (hcl : vwCl[ci]? = some (y'.cls, T, N)) (kk : ∀ v S' M', Q' v S' M' → LA gg l b R y cc nL ret Q (cells + mc) (slots + ms) (pc + 3) ls (zrst v ++ st) S' M' ∧ (∀ q, b = some q → q ≤ S'.length)) : LA gg l b R y cc nL ret Q cells slots pc ls (a3 :: a2 :: a1 :: .ref o :: st) S M :=
  L_callV (as := [a1, a2, a3]) hm hlk hC hd rfl rfl hro hR hcs hc hcl kk
theorem L_cV4 {a1 a2 a3 a4 : Value} {o ci : Nat} {fl : List (Option (Option Nat))} {T : u_T} {N : Nat} (hm : zMV y' cc' nL' ret' 4) (hlk : Cond.methodLink y.cls index y' ∈ zT) (hC : CT l false d mc ms y' cc' nL' ret' [.ref o, a1, a2, a3, a4] S M Q') (hd : decode cc pc = .ok (.invokevirtual index, 3)) (hro : (st.map fun v => v.category).sum ≤ 8) (hR : d + 1 ≤ R.frames ∧ 8 + (nL' + 11) + 37 * d ≤ R.locals) (hcs : cells + mc ≤ R.cells ∧ slots + ms ≤ R.slots) (hc : S[o]? = some (.inr (ci, fl))) (hcl : vwCl[ci]? = some (y'.cls, T, N)) (kk : ∀ v S' M', Q' v S' M' → LA gg l b R y cc nL ret Q (cells + mc) (slots + ms) (pc + 3) ls (zrst v ++ st) S' M' ∧ (∀ q, b = some q → q ≤ S'.length)) : LA gg l b R y cc nL ret Q cells slots pc ls (a4 :: a3 :: a2 :: a1 :: .ref o :: st) S M :=
  L_callV (as := [a1, a2, a3, a4]) hm hlk hC hd rfl rfl hro hR hcs hc hcl kk
theorem L_cV5 {a1 a2 a3 a4 a5 : Value} {o ci : Nat} {fl : List (Option (Option Nat))} {T : u_T} {N : Nat} (hm : zMV y' cc' nL' ret' 5) (hlk : Cond.methodLink y.cls index y' ∈ zT) (hC : CT l false d mc ms y' cc' nL' ret' [.ref o, a1, a2, a3, a4, a5] S M Q') (hd : decode cc pc = .ok (.invokevirtual index, 3)) (hro : (st.map fun v => v.category).sum ≤ 8) (hR : d + 1 ≤ R.frames ∧ 8 + (nL' + 11) + 37 * d ≤ R.locals) (hcs : cells + mc ≤ R.cells ∧ slots + ms ≤ R.slots) (hc : S[o]? = some (.inr (ci, fl))) (hcl : vwCl[ci]? = some (y'.cls, T, N)) (kk : ∀ v S' M', Q' v S' M' → LA gg l b R y cc nL ret Q (cells + mc) (slots + ms) (pc + 3) ls (zrst v ++ st) S' M' ∧ (∀ q, b = some q → q ≤ S'.length)) : LA gg l b R y cc nL ret Q cells slots pc ls (a5 :: a4 :: a3 :: a2 :: a1 :: .ref o :: st) S M :=
  L_callV (as := [a1, a2, a3, a4, a5]) hm hlk hC hd rfl rfl hro hR hcs hc hcl kk
theorem L_cV6 {a1 a2 a3 a4 a5 a6 : Value} {o ci : Nat} {fl : List (Option (Option Nat))} {T : u_T} {N : Nat} (hm : zMV y' cc' nL' ret' 6) (hlk : Cond.methodLink y.cls index y' ∈ zT) (hC : CT l false d mc ms y' cc' nL' ret' [.ref o, a1, a2, a3, a4, a5, a6] S M Q') (hd : decode cc pc = .ok (.invokevirtual index, 3)) (hro : (st.map fun v => v.category).sum ≤ 8) (hR : d + 1 ≤ R.frames ∧ 8 + (nL' + 11) + 37 * d ≤ R.locals) (hcs : cells + mc ≤ R.cells ∧ slots + ms ≤ R.slots) (hc : S[o]? = some (.inr (ci, fl))) (hcl : vwCl[ci]? = some (y'.cls, T, N)) (kk : ∀ v S' M', Q' v S' M' → LA gg l b R y cc nL ret Q (cells + mc) (slots + ms) (pc + 3) ls (zrst v ++ st) S' M' ∧ (∀ q, b = some q → q ≤ S'.length)) : LA gg l b R y cc nL ret Q cells slots pc ls (a6 :: a5 :: a4 :: a3 :: a2 :: a1 :: .ref o :: st) S M :=
  L_callV (as := [a1, a2, a3, a4, a5, a6]) hm hlk hC hd rfl rfl hro hR hcs hc hcl kk
end LCV
section MC1
variable {n : Nat → Nat} {z : Nat → Option (Nat × Nat × Nat)} {sz : Nat → Nat} {M : zM}
theorem mc_film_1 (x m k s w i : Int32) : (mc_film n z sz x m k s w i M).1 = M.1 := by
  unfold mc_film
  split
  · rcases z (tn s) with _ | ⟨r, ri, L⟩
    · rfl
    · dsimp only
      split <;> rfl
  · rfl
theorem mc_item_1 (x w i : Int32) (v : Int64) : (mc_item z sz x w i v M).1 = M.1 := by
  unfold mc_item
  split
  · rcases z (tn x) with _ | ⟨r, ri, L⟩
    · rfl
    · dsimp only
      split <;> rfl
  · rfl
theorem mc_copy_1 (x i w j k : Int32) : (mc_copy z sz x i w j k M).1 = M.1 := by
  unfold mc_copy
  split
  · rcases z (tn x) with _ | ⟨r, ri, L⟩
    · rfl
    · dsimp only
      rcases z (tn w) with _ | ⟨r', ri', L'⟩
      · rfl
      · dsimp only
        split
        · split <;> rfl
        · rfl
  · rfl
theorem mc_drop_1 (x : Int32) : (mc_drop z x M).1 = M.1 := by
  unfold mc_drop
  split
  · rcases z (tn x) with _ | ⟨r, ri, L⟩ <;> rfl
  · rfl
theorem RI_1 {t : Nat → Nat → Nat} {M M' : zM} (h : RI t M) (e : M'.1 = M.1) : RI t M' := fun c a b d => by rw [e]; exact h c a b d
theorem SHR_1 {M' : zM} (h : SHR z sz M) (e : M'.1 = M.1) : SHR z sz M' := SHR_fr h (by rw [e])
end MC1
theorem lsI_wf {i : Nat} {rw : List zC} {v : Value} (h : some v ∈ lsI i) : vwf (zSh ++ rw).length v := by
  rw [zSh_len]
  simp only [lsI, List.mem_cons, List.not_mem_nil, or_false, Option.some.injEq] at h
  rcases h with rfl | rfl | rfl | rfl
  · trivial
  · show 0 < 45 + rw.length
    omega
  · show 34 < 45 + rw.length
    omega
  · trivial
set_option maxHeartbeats 4000000 in
set_option maxRecDepth 100000 in
theorem k_person (l : Launch) {L : Nat} {xs : Nat → Int32} {rw : List zC} {M : zM} {cells slots i : Nat} {Q : Option Value → List zC → zM → Prop} (hi : i + 7 ≤ L) (hL : L ≤ 3584) (hc : cells + 2 ≤ 600000) (hs : slots + 26 ≤ 7302250) (hw : WI rw M) (K : ∀ (rw' : List zC) (M' : zM) (c' s' : Nat), WI rw' M' → c' ≤ cells + 2 → s' ≤ slots + 26 → LA (scr L xs) l (some 0) room_1 yL_law cL_law 4 ret Q c' s' 1361 (lsI i) [] (zSh ++ rw') M') : LA (scr L xs) l (some 0) room_1 yL_law cL_law 4 ret Q cells slots 180 (lsI i) [] (zSh ++ rw) M := by
  obtain ⟨t, z, hw⟩ := hw
  refine L_aload_n dL_law_180 rfl rfl ?_
  refine L_arg (i := i) (j := 1) dL_law_181 dL_law_182 dL_law_183 rfl dL_law_184 dL_law_185 (by omega) hL ?_
  refine L_arg (i := i) (j := 2) dL_law_186 dL_law_187 dL_law_188 rfl dL_law_189 dL_law_190 (by omega) hL ?_
  refine L_cV2 mv_X4_person ml_L_13 (c4_person l hw.si hw.nb _ _) dL_law_191 (Nat.le_of_ble_eq_true rfl) ⟨by decide, by decide⟩ ⟨by show _ ≤ 600000; omega, by show _ ≤ 7302250; omega⟩ sh_0 rfl (fun v S1 M1 hq => ?_)
  obtain ⟨rfl, rfl, hS1, hf1⟩ := hq
  have hR1 := RI_fr hw.ri hf1 (fun i q => by first | omega | (unfold PT at q; omega) | (unfold PT PQ at q; omega))
  refine ⟨?_, fun q9 h9 => by cases h9; exact Nat.zero_le _⟩
  dsimp only [zrst, List.cons_append, List.nil_append]
  refine L_aload_n dL_law_194 rfl rfl ?_
  refine L_arg (i := i) (j := 1) dL_law_195 dL_law_196 dL_law_197 rfl dL_law_198 dL_law_199 (by omega) hL ?_
  refine L_arg (i := i) (j := 2) dL_law_200 dL_law_201 dL_law_202 rfl dL_law_203 dL_law_204 (by omega) hL ?_
  refine L_cV2 mv_X5_person ml_L_17 (c5p_person l hR1 hw.nb _ _) dL_law_205 (Nat.le_of_ble_eq_true rfl) ⟨by decide, by decide⟩ ⟨by show _ ≤ 600000; omega, by show _ ≤ 7302250; omega⟩ sh_34 rfl (fun v S2 M2 hq => ?_)
  obtain ⟨rfl, rfl, hR2, hf2⟩ := hq
  refine ⟨?_, fun q9 h9 => by cases h9; exact Nat.zero_le _⟩
  dsimp only [zrst, List.cons_append, List.nil_append]
  refine L_icmp_eq (tgt := 1361) dL_law_208 (by decide) (fun _ => ?_) (fun q => absurd rfl q)
  exact K _ _ _ _ (⟨_, z, WJ_w hw (fun i q => by first | omega | (unfold PT at q; omega) | (unfold PT PQ at q; omega)) hS1 hf1 hR2 hf2 (OK_person hw.nb hw.ub _ _)⟩) (Nat.le_add_right _ _) (Nat.le_add_right _ _)
set_option maxHeartbeats 4000000 in
set_option maxRecDepth 100000 in
theorem k_own (l : Launch) {L : Nat} {xs : Nat → Int32} {rw : List zC} {M : zM} {cells slots i : Nat} {Q : Option Value → List zC → zM → Prop} (hi : i + 7 ≤ L) (hL : L ≤ 3584) (hc : cells + 2 ≤ 600000) (hs : slots + 26 ≤ 7302250) (hw : WI rw M) (K : ∀ (rw' : List zC) (M' : zM) (c' s' : Nat), WI rw' M' → c' ≤ cells + 2 → s' ≤ slots + 26 → LA (scr L xs) l (some 0) room_1 yL_law cL_law 4 ret Q c' s' 1361 (lsI i) [] (zSh ++ rw') M') : LA (scr L xs) l (some 0) room_1 yL_law cL_law 4 ret Q cells slots 213 (lsI i) [] (zSh ++ rw) M := by
  obtain ⟨t, z, hw⟩ := hw
  refine L_aload_n dL_law_213 rfl rfl ?_
  refine L_arg (i := i) (j := 1) dL_law_214 dL_law_215 dL_law_216 rfl dL_law_217 dL_law_218 (by omega) hL ?_
  refine L_arg (i := i) (j := 2) dL_law_219 dL_law_220 dL_law_221 rfl dL_law_222 dL_law_223 (by omega) hL ?_
  refine L_arg (i := i) (j := 3) dL_law_224 dL_law_225 dL_law_226 rfl dL_law_227 dL_law_228 (by omega) hL ?_
  refine L_cV3 mv_X4_own ml_L_18 (c4_own l hw.si hw.nb _ _ _) dL_law_229 (Nat.le_of_ble_eq_true rfl) ⟨by decide, by decide⟩ ⟨by show _ ≤ 600000; omega, by show _ ≤ 7302250; omega⟩ sh_0 rfl (fun v S1 M1 hq => ?_)
  obtain ⟨rfl, rfl, hS1, hf1⟩ := hq
  have hR1 := RI_fr hw.ri hf1 (fun i q => by first | omega | (unfold PT at q; omega) | (unfold PT PQ at q; omega))
  refine ⟨?_, fun q9 h9 => by cases h9; exact Nat.zero_le _⟩
  dsimp only [zrst, List.cons_append, List.nil_append]
  refine L_aload_n dL_law_232 rfl rfl ?_
  refine L_arg (i := i) (j := 1) dL_law_233 dL_law_234 dL_law_235 rfl dL_law_236 dL_law_237 (by omega) hL ?_
  refine L_arg (i := i) (j := 2) dL_law_238 dL_law_239 dL_law_240 rfl dL_law_241 dL_law_242 (by omega) hL ?_
  refine L_arg (i := i) (j := 3) dL_law_243 dL_law_244 dL_law_245 rfl dL_law_246 dL_law_247 (by omega) hL ?_
  refine L_cV3 mv_X5_own ml_L_22 (c5p_own l hR1 hw.nb _ _ _) dL_law_248 (Nat.le_of_ble_eq_true rfl) ⟨by decide, by decide⟩ ⟨by show _ ≤ 600000; omega, by show _ ≤ 7302250; omega⟩ sh_34 rfl (fun v S2 M2 hq => ?_)
  obtain ⟨rfl, rfl, hR2, hf2⟩ := hq
  refine ⟨?_, fun q9 h9 => by cases h9; exact Nat.zero_le _⟩
  dsimp only [zrst, List.cons_append, List.nil_append]
  refine L_icmp_eq (tgt := 1361) dL_law_251 (by decide) (fun _ => ?_) (fun q => absurd rfl q)
  exact K _ _ _ _ (⟨_, z, WJ_w hw (fun i q => by first | omega | (unfold PT at q; omega) | (unfold PT PQ at q; omega)) hS1 hf1 hR2 hf2 (OK_own hw.nb hw.ub _ _ _)⟩) (Nat.le_add_right _ _) (Nat.le_add_right _ _)
set_option maxHeartbeats 4000000 in
set_option maxRecDepth 100000 in
theorem k_suit (l : Launch) {L : Nat} {xs : Nat → Int32} {rw : List zC} {M : zM} {cells slots i : Nat} {Q : Option Value → List zC → zM → Prop} (hi : i + 7 ≤ L) (hL : L ≤ 3584) (hc : cells + 2 ≤ 600000) (hs : slots + 26 ≤ 7302250) (hw : WI rw M) (K : ∀ (rw' : List zC) (M' : zM) (c' s' : Nat), WI rw' M' → c' ≤ cells + 2 → s' ≤ slots + 26 → LA (scr L xs) l (some 0) room_1 yL_law cL_law 4 ret Q c' s' 1361 (lsI i) [] (zSh ++ rw') M') : LA (scr L xs) l (some 0) room_1 yL_law cL_law 4 ret Q cells slots 256 (lsI i) [] (zSh ++ rw) M := by
  obtain ⟨t, z, hw⟩ := hw
  refine L_aload_n dL_law_256 rfl rfl ?_
  refine L_arg (i := i) (j := 1) dL_law_257 dL_law_258 dL_law_259 rfl dL_law_260 dL_law_261 (by omega) hL ?_
  refine L_cV1 mv_X4_suit ml_L_23 (c4_suit l hw.si hw.nb _) dL_law_262 (Nat.le_of_ble_eq_true rfl) ⟨by decide, by decide⟩ ⟨by show _ ≤ 600000; omega, by show _ ≤ 7302250; omega⟩ sh_0 rfl (fun v S1 M1 hq => ?_)
  obtain ⟨rfl, rfl, hS1, hf1⟩ := hq
  have hR1 := RI_fr hw.ri hf1 (fun i q => by first | omega | (unfold PT at q; omega) | (unfold PT PQ at q; omega))
  refine ⟨?_, fun q9 h9 => by cases h9; exact Nat.zero_le _⟩
  dsimp only [zrst, List.cons_append, List.nil_append]
  refine L_aload_n dL_law_265 rfl rfl ?_
  refine L_arg (i := i) (j := 1) dL_law_266 dL_law_267 dL_law_268 rfl dL_law_269 dL_law_270 (by omega) hL ?_
  refine L_cV1 mv_X5_suit ml_L_27 (c5p_suit l hR1 hw.nb _) dL_law_271 (Nat.le_of_ble_eq_true rfl) ⟨by decide, by decide⟩ ⟨by show _ ≤ 600000; omega, by show _ ≤ 7302250; omega⟩ sh_34 rfl (fun v S2 M2 hq => ?_)
  obtain ⟨rfl, rfl, hR2, hf2⟩ := hq
  refine ⟨?_, fun q9 h9 => by cases h9; exact Nat.zero_le _⟩
  dsimp only [zrst, List.cons_append, List.nil_append]
  refine L_icmp_eq (tgt := 1361) dL_law_274 (by decide) (fun _ => ?_) (fun q => absurd rfl q)
  exact K _ _ _ _ (⟨_, z, WJ_w hw (fun i q => by first | omega | (unfold PT at q; omega) | (unfold PT PQ at q; omega)) hS1 hf1 hR2 hf2 (OK_suit hw.nb hw.ub _)⟩) (Nat.le_add_right _ _) (Nat.le_add_right _ _)
set_option maxHeartbeats 4000000 in
set_option maxRecDepth 100000 in
theorem k_cut (l : Launch) {L : Nat} {xs : Nat → Int32} {rw : List zC} {M : zM} {cells slots i : Nat} {Q : Option Value → List zC → zM → Prop} (hi : i + 7 ≤ L) (hL : L ≤ 3584) (hc : cells + 2 ≤ 600000) (hs : slots + 26 ≤ 7302250) (hw : WI rw M) (K : ∀ (rw' : List zC) (M' : zM) (c' s' : Nat), WI rw' M' → c' ≤ cells + 2 → s' ≤ slots + 26 → LA (scr L xs) l (some 0) room_1 yL_law cL_law 4 ret Q c' s' 1361 (lsI i) [] (zSh ++ rw') M') : LA (scr L xs) l (some 0) room_1 yL_law cL_law 4 ret Q cells slots 279 (lsI i) [] (zSh ++ rw) M := by
  obtain ⟨t, z, hw⟩ := hw
  refine L_aload_n dL_law_279 rfl rfl ?_
  refine L_arg (i := i) (j := 1) dL_law_280 dL_law_281 dL_law_282 rfl dL_law_283 dL_law_284 (by omega) hL ?_
  refine L_arg (i := i) (j := 2) dL_law_285 dL_law_286 dL_law_287 rfl dL_law_288 dL_law_289 (by omega) hL ?_
  refine L_arg (i := i) (j := 3) dL_law_290 dL_law_291 dL_law_292 rfl dL_law_293 dL_law_294 (by omega) hL ?_
  refine L_cV3 mv_X4_cut ml_L_28 (c4_cut l hw.si hw.nb _ _ _) dL_law_295 (Nat.le_of_ble_eq_true rfl) ⟨by decide, by decide⟩ ⟨by show _ ≤ 600000; omega, by show _ ≤ 7302250; omega⟩ sh_0 rfl (fun v S1 M1 hq => ?_)
  obtain ⟨rfl, rfl, hS1, hf1⟩ := hq
  have hR1 := RI_fr hw.ri hf1 (fun i q => by first | omega | (unfold PT at q; omega) | (unfold PT PQ at q; omega))
  refine ⟨?_, fun q9 h9 => by cases h9; exact Nat.zero_le _⟩
  dsimp only [zrst, List.cons_append, List.nil_append]
  refine L_aload_n dL_law_298 rfl rfl ?_
  refine L_arg (i := i) (j := 1) dL_law_299 dL_law_300 dL_law_301 rfl dL_law_302 dL_law_303 (by omega) hL ?_
  refine L_arg (i := i) (j := 2) dL_law_304 dL_law_305 dL_law_306 rfl dL_law_307 dL_law_308 (by omega) hL ?_
  refine L_arg (i := i) (j := 3) dL_law_309 dL_law_310 dL_law_311 rfl dL_law_312 dL_law_313 (by omega) hL ?_
  refine L_cV3 mv_X5_cut ml_L_31 (c5p_cut l hR1 hw.nb _ _ _) dL_law_314 (Nat.le_of_ble_eq_true rfl) ⟨by decide, by decide⟩ ⟨by show _ ≤ 600000; omega, by show _ ≤ 7302250; omega⟩ sh_34 rfl (fun v S2 M2 hq => ?_)
  obtain ⟨rfl, rfl, hR2, hf2⟩ := hq
  refine ⟨?_, fun q9 h9 => by cases h9; exact Nat.zero_le _⟩
  dsimp only [zrst, List.cons_append, List.nil_append]
  refine L_icmp_eq (tgt := 1361) dL_law_317 (by decide) (fun _ => ?_) (fun q => absurd rfl q)
  exact K _ _ _ _ (⟨_, z, WJ_w hw (fun i q => by first | omega | (unfold PT at q; omega) | (unfold PT PQ at q; omega)) hS1 hf1 hR2 hf2 (OK_cut hw.nb hw.ub _ _ _)⟩) (Nat.le_add_right _ _) (Nat.le_add_right _ _)
set_option maxHeartbeats 4000000 in
set_option maxRecDepth 100000 in
theorem k_of (l : Launch) {L : Nat} {xs : Nat → Int32} {rw : List zC} {M : zM} {cells slots i : Nat} {Q : Option Value → List zC → zM → Prop} (hi : i + 7 ≤ L) (hL : L ≤ 3584) (hc : cells + 2 ≤ 600000) (hs : slots + 26 ≤ 7302250) (hw : WI rw M) (K : ∀ (rw' : List zC) (M' : zM) (c' s' : Nat), WI rw' M' → c' ≤ cells + 2 → s' ≤ slots + 26 → LA (scr L xs) l (some 0) room_1 yL_law cL_law 4 ret Q c' s' 1361 (lsI i) [] (zSh ++ rw') M') : LA (scr L xs) l (some 0) room_1 yL_law cL_law 4 ret Q cells slots 322 (lsI i) [] (zSh ++ rw) M := by
  obtain ⟨t, z, hw⟩ := hw
  refine L_aload_n dL_law_322 rfl rfl ?_
  refine L_arg (i := i) (j := 1) dL_law_323 dL_law_324 dL_law_325 rfl dL_law_326 dL_law_327 (by omega) hL ?_
  refine L_arg (i := i) (j := 2) dL_law_328 dL_law_329 dL_law_330 rfl dL_law_331 dL_law_332 (by omega) hL ?_
  refine L_cV2 mv_X4_of ml_L_32 (c4_of l hw.si hw.nb _ _) dL_law_333 (Nat.le_of_ble_eq_true rfl) ⟨by decide, by decide⟩ ⟨by show _ ≤ 600000; omega, by show _ ≤ 7302250; omega⟩ sh_0 rfl (fun v S1 M1 hq => ?_)
  obtain ⟨rfl, rfl, rfl⟩ := hq
  refine ⟨?_, fun q9 h9 => by cases h9; exact Nat.zero_le _⟩
  dsimp only [zrst, List.cons_append, List.nil_append]
  refine L_aload_n dL_law_336 rfl rfl ?_
  refine L_arg (i := i) (j := 1) dL_law_337 dL_law_338 dL_law_339 rfl dL_law_340 dL_law_341 (by omega) hL ?_
  refine L_arg (i := i) (j := 2) dL_law_342 dL_law_343 dL_law_344 rfl dL_law_345 dL_law_346 (by omega) hL ?_
  refine L_cV2 mv_X5_of ml_L_35 (c5p_of l hw.ri hw.nb _ _) dL_law_347 (Nat.le_of_ble_eq_true rfl) ⟨by decide, by decide⟩ ⟨by show _ ≤ 600000; omega, by show _ ≤ 7302250; omega⟩ sh_34 rfl (fun v S2 M2 hq => ?_)
  obtain ⟨rfl, rfl, rfl⟩ := hq
  refine ⟨?_, fun q9 h9 => by cases h9; exact Nat.zero_le _⟩
  dsimp only [zrst, List.cons_append, List.nil_append]
  refine L_icmp_eq (tgt := 1361) dL_law_350 (by decide) (fun _ => ?_) (fun q => absurd rfl q)
  exact K _ _ _ _ (⟨t, z, hw⟩) (Nat.le_add_right _ _) (Nat.le_add_right _ _)
set_option maxHeartbeats 4000000 in
set_option maxRecDepth 100000 in
theorem k_deed (l : Launch) {L : Nat} {xs : Nat → Int32} {rw : List zC} {M : zM} {cells slots i : Nat} {Q : Option Value → List zC → zM → Prop} (hi : i + 7 ≤ L) (hL : L ≤ 3584) (hc : cells + 2 ≤ 600000) (hs : slots + 26 ≤ 7302250) (hw : WI rw M) (K : ∀ (rw' : List zC) (M' : zM) (c' s' : Nat), WI rw' M' → c' ≤ cells + 2 → s' ≤ slots + 26 → LA (scr L xs) l (some 0) room_1 yL_law cL_law 4 ret Q c' s' 1361 (lsI i) [] (zSh ++ rw') M') : LA (scr L xs) l (some 0) room_1 yL_law cL_law 4 ret Q cells slots 355 (lsI i) [] (zSh ++ rw) M := by
  obtain ⟨t, z, hw⟩ := hw
  refine L_aload_n dL_law_355 rfl rfl ?_
  refine L_arg (i := i) (j := 1) dL_law_356 dL_law_357 dL_law_358 rfl dL_law_359 dL_law_360 (by omega) hL ?_
  refine L_arg (i := i) (j := 2) dL_law_361 dL_law_362 dL_law_363 rfl dL_law_364 dL_law_365 (by omega) hL ?_
  refine L_cV2 mv_X4_deed ml_L_36 (c4_deed l hw.si hw.nb _ _) dL_law_366 (Nat.le_of_ble_eq_true rfl) ⟨by decide, by decide⟩ ⟨by show _ ≤ 600000; omega, by show _ ≤ 7302250; omega⟩ sh_0 rfl (fun v S1 M1 hq => ?_)
  obtain ⟨rfl, rfl, rfl⟩ := hq
  refine ⟨?_, fun q9 h9 => by cases h9; exact Nat.zero_le _⟩
  dsimp only [zrst, List.cons_append, List.nil_append]
  refine L_aload_n dL_law_369 rfl rfl ?_
  refine L_arg (i := i) (j := 1) dL_law_370 dL_law_371 dL_law_372 rfl dL_law_373 dL_law_374 (by omega) hL ?_
  refine L_arg (i := i) (j := 2) dL_law_375 dL_law_376 dL_law_377 rfl dL_law_378 dL_law_379 (by omega) hL ?_
  refine L_cV2 mv_X5_deed ml_L_39 (c5p_deed l hw.ri hw.nb _ _) dL_law_380 (Nat.le_of_ble_eq_true rfl) ⟨by decide, by decide⟩ ⟨by show _ ≤ 600000; omega, by show _ ≤ 7302250; omega⟩ sh_34 rfl (fun v S2 M2 hq => ?_)
  obtain ⟨rfl, rfl, rfl⟩ := hq
  refine ⟨?_, fun q9 h9 => by cases h9; exact Nat.zero_le _⟩
  dsimp only [zrst, List.cons_append, List.nil_append]
  refine L_icmp_eq (tgt := 1361) dL_law_383 (by decide) (fun _ => ?_) (fun q => absurd rfl q)
  exact K _ _ _ _ (⟨t, z, hw⟩) (Nat.le_add_right _ _) (Nat.le_add_right _ _)
set_option maxHeartbeats 4000000 in
set_option maxRecDepth 100000 in
theorem k_tries (l : Launch) {L : Nat} {xs : Nat → Int32} {rw : List zC} {M : zM} {cells slots i : Nat} {Q : Option Value → List zC → zM → Prop} (hi : i + 7 ≤ L) (hL : L ≤ 3584) (hc : cells + 2 ≤ 600000) (hs : slots + 26 ≤ 7302250) (hw : WI rw M) (K : ∀ (rw' : List zC) (M' : zM) (c' s' : Nat), WI rw' M' → c' ≤ cells + 2 → s' ≤ slots + 26 → LA (scr L xs) l (some 0) room_1 yL_law cL_law 4 ret Q c' s' 1361 (lsI i) [] (zSh ++ rw') M') : LA (scr L xs) l (some 0) room_1 yL_law cL_law 4 ret Q cells slots 388 (lsI i) [] (zSh ++ rw) M := by
  obtain ⟨t, z, hw⟩ := hw
  refine L_aload_n dL_law_388 rfl rfl ?_
  refine L_arg (i := i) (j := 1) dL_law_389 dL_law_390 dL_law_391 rfl dL_law_392 dL_law_393 (by omega) hL ?_
  refine L_arg (i := i) (j := 2) dL_law_394 dL_law_395 dL_law_396 rfl dL_law_397 dL_law_398 (by omega) hL ?_
  refine L_arg (i := i) (j := 3) dL_law_399 dL_law_400 dL_law_401 rfl dL_law_402 dL_law_403 (by omega) hL ?_
  refine L_cV3 mv_X4_tries ml_L_40 (c4_tries l hw.si hw.nb _ _ _) dL_law_404 (Nat.le_of_ble_eq_true rfl) ⟨by decide, by decide⟩ ⟨by show _ ≤ 600000; omega, by show _ ≤ 7302250; omega⟩ sh_0 rfl (fun v S1 M1 hq => ?_)
  obtain ⟨rfl, rfl, rfl⟩ := hq
  refine ⟨?_, fun q9 h9 => by cases h9; exact Nat.zero_le _⟩
  dsimp only [zrst, List.cons_append, List.nil_append]
  refine L_aload_n dL_law_407 rfl rfl ?_
  refine L_arg (i := i) (j := 1) dL_law_408 dL_law_409 dL_law_410 rfl dL_law_411 dL_law_412 (by omega) hL ?_
  refine L_arg (i := i) (j := 2) dL_law_413 dL_law_414 dL_law_415 rfl dL_law_416 dL_law_417 (by omega) hL ?_
  refine L_arg (i := i) (j := 3) dL_law_418 dL_law_419 dL_law_420 rfl dL_law_421 dL_law_422 (by omega) hL ?_
  refine L_cV3 mv_X5_tries ml_L_43 (c5p_tries l hw.ri hw.nb _ _ _) dL_law_423 (Nat.le_of_ble_eq_true rfl) ⟨by decide, by decide⟩ ⟨by show _ ≤ 600000; omega, by show _ ≤ 7302250; omega⟩ sh_34 rfl (fun v S2 M2 hq => ?_)
  obtain ⟨rfl, rfl, rfl⟩ := hq
  refine ⟨?_, fun q9 h9 => by cases h9; exact Nat.zero_le _⟩
  dsimp only [zrst, List.cons_append, List.nil_append]
  refine L_icmp_eq (tgt := 1361) dL_law_426 (by decide) (fun _ => ?_) (fun q => absurd rfl q)
  exact K _ _ _ _ (⟨t, z, hw⟩) (Nat.le_add_right _ _) (Nat.le_add_right _ _)
set_option maxHeartbeats 4000000 in
set_option maxRecDepth 100000 in
theorem k_rule (l : Launch) {L : Nat} {xs : Nat → Int32} {rw : List zC} {M : zM} {cells slots i : Nat} {Q : Option Value → List zC → zM → Prop} (hi : i + 7 ≤ L) (hL : L ≤ 3584) (hc : cells + 2 ≤ 600000) (hs : slots + 26 ≤ 7302250) (hw : WI rw M) (K : ∀ (rw' : List zC) (M' : zM) (c' s' : Nat), WI rw' M' → c' ≤ cells + 2 → s' ≤ slots + 26 → LA (scr L xs) l (some 0) room_1 yL_law cL_law 4 ret Q c' s' 1361 (lsI i) [] (zSh ++ rw') M') : LA (scr L xs) l (some 0) room_1 yL_law cL_law 4 ret Q cells slots 431 (lsI i) [] (zSh ++ rw) M := by
  obtain ⟨t, z, hw⟩ := hw
  refine L_aload_n dL_law_431 rfl rfl ?_
  refine L_arg (i := i) (j := 1) dL_law_432 dL_law_433 dL_law_434 rfl dL_law_435 dL_law_436 (by omega) hL ?_
  refine L_arg (i := i) (j := 2) dL_law_437 dL_law_438 dL_law_439 rfl dL_law_440 dL_law_441 (by omega) hL ?_
  refine L_cV2 mv_X4_rule ml_L_44 (c4_rule l hw.si hw.nb _ _) dL_law_442 (Nat.le_of_ble_eq_true rfl) ⟨by decide, by decide⟩ ⟨by show _ ≤ 600000; omega, by show _ ≤ 7302250; omega⟩ sh_0 rfl (fun v S1 M1 hq => ?_)
  obtain ⟨rfl, rfl, hS1, hf1⟩ := hq
  have hR1 := RI_fr hw.ri hf1 (fun i q => by first | omega | (unfold PT at q; omega) | (unfold PT PQ at q; omega))
  refine ⟨?_, fun q9 h9 => by cases h9; exact Nat.zero_le _⟩
  dsimp only [zrst, List.cons_append, List.nil_append]
  refine L_aload_n dL_law_445 rfl rfl ?_
  refine L_arg (i := i) (j := 1) dL_law_446 dL_law_447 dL_law_448 rfl dL_law_449 dL_law_450 (by omega) hL ?_
  refine L_arg (i := i) (j := 2) dL_law_451 dL_law_452 dL_law_453 rfl dL_law_454 dL_law_455 (by omega) hL ?_
  refine L_cV2 mv_X5_rule ml_L_47 (c5p_rule l hR1 hw.nb _ _) dL_law_456 (Nat.le_of_ble_eq_true rfl) ⟨by decide, by decide⟩ ⟨by show _ ≤ 600000; omega, by show _ ≤ 7302250; omega⟩ sh_34 rfl (fun v S2 M2 hq => ?_)
  obtain ⟨rfl, rfl, hR2, hf2⟩ := hq
  refine ⟨?_, fun q9 h9 => by cases h9; exact Nat.zero_le _⟩
  dsimp only [zrst, List.cons_append, List.nil_append]
  refine L_icmp_eq (tgt := 1361) dL_law_459 (by decide) (fun _ => ?_) (fun q => absurd rfl q)
  exact K _ _ _ _ (⟨_, z, WJ_w hw (fun i q => by first | omega | (unfold PT at q; omega) | (unfold PT PQ at q; omega)) hS1 hf1 hR2 hf2 (OK_rule hw.nb hw.ub _ _)⟩) (Nat.le_add_right _ _) (Nat.le_add_right _ _)
set_option maxHeartbeats 4000000 in
set_option maxRecDepth 100000 in
theorem k_type (l : Launch) {L : Nat} {xs : Nat → Int32} {rw : List zC} {M : zM} {cells slots i : Nat} {Q : Option Value → List zC → zM → Prop} (hi : i + 7 ≤ L) (hL : L ≤ 3584) (hc : cells + 2 ≤ 600000) (hs : slots + 26 ≤ 7302250) (hw : WI rw M) (K : ∀ (rw' : List zC) (M' : zM) (c' s' : Nat), WI rw' M' → c' ≤ cells + 2 → s' ≤ slots + 26 → LA (scr L xs) l (some 0) room_1 yL_law cL_law 4 ret Q c' s' 1361 (lsI i) [] (zSh ++ rw') M') : LA (scr L xs) l (some 0) room_1 yL_law cL_law 4 ret Q cells slots 464 (lsI i) [] (zSh ++ rw) M := by
  obtain ⟨t, z, hw⟩ := hw
  refine L_aload_n dL_law_464 rfl rfl ?_
  refine L_arg (i := i) (j := 1) dL_law_465 dL_law_466 dL_law_467 rfl dL_law_468 dL_law_469 (by omega) hL ?_
  refine L_cV1 mv_X4_type ml_L_48 (c4_type l hw.ti hw.tb.1 _) dL_law_470 (Nat.le_of_ble_eq_true rfl) ⟨by decide, by decide⟩ ⟨by show _ ≤ 600000; omega, by show _ ≤ 7302250; omega⟩ sh_0 rfl (fun v S1 M1 hq => ?_)
  obtain ⟨rfl, rfl, hT, hf1⟩ := hq
  have hR1 := RI_fr hw.ri hf1 (fun i q => by first | omega | (unfold PT at q; omega) | (unfold PT PQ at q; omega))
  refine ⟨?_, fun q9 h9 => by cases h9; exact Nat.zero_le _⟩
  dsimp only [zrst, List.cons_append, List.nil_append]
  refine L_aload_n dL_law_473 rfl rfl ?_
  refine L_arg (i := i) (j := 1) dL_law_474 dL_law_475 dL_law_476 rfl dL_law_477 dL_law_478 (by omega) hL ?_
  refine L_cV1 mv_X5_type ml_L_51 (c5p_type l hR1 hw.nb _ hw.tb.1) dL_law_479 (Nat.le_of_ble_eq_true rfl) ⟨by decide, by decide⟩ ⟨by show _ ≤ 600000; omega, by show _ ≤ 7302250; omega⟩ sh_34 rfl (fun v S2 M2 hq => ?_)
  obtain ⟨rfl, rfl, hR2, hf2⟩ := hq
  refine ⟨?_, fun q9 h9 => by cases h9; exact Nat.zero_le _⟩
  dsimp only [zrst, List.cons_append, List.nil_append]
  refine L_icmp_eq (tgt := 1361) dL_law_482 (by decide) (fun _ => ?_) (fun q => absurd rfl q)
  exact K _ _ _ _ (⟨_, z, WJ_type hw hT hf1 hR2 hf2⟩) (Nat.le_add_right _ _) (Nat.le_add_right _ _)
set_option maxHeartbeats 4000000 in
set_option maxRecDepth 100000 in
theorem k_wardrobe (l : Launch) {L : Nat} {xs : Nat → Int32} {rw : List zC} {M : zM} {cells slots i : Nat} {Q : Option Value → List zC → zM → Prop} (hi : i + 7 ≤ L) (hL : L ≤ 3584) (hc : cells + 2 ≤ 600000) (hs : slots + 26 ≤ 7302250) (hw : WI rw M) (K : ∀ (rw' : List zC) (M' : zM) (c' s' : Nat), WI rw' M' → c' ≤ cells + 2 → s' ≤ slots + 26 → LA (scr L xs) l (some 0) room_1 yL_law cL_law 4 ret Q c' s' 1361 (lsI i) [] (zSh ++ rw') M') : LA (scr L xs) l (some 0) room_1 yL_law cL_law 4 ret Q cells slots 487 (lsI i) [] (zSh ++ rw) M := by
  obtain ⟨t, z, hw⟩ := hw
  refine L_aload_n dL_law_487 rfl rfl ?_
  refine L_cV0 mv_X4_wardrobe ml_L_52 (c4_wardrobe l hw.si hw.ti hw.tb) dL_law_488 (Nat.le_of_ble_eq_true rfl) ⟨by decide, by decide⟩ ⟨by show _ ≤ 600000; omega, by show _ ≤ 7302250; omega⟩ sh_0 rfl (fun v S1 M1 hq => ?_)
  obtain ⟨rfl, rfl, hS1, h1, hf1⟩ := hq
  have hR1 := RI_fr hw.ri hf1 (fun i q => by first | omega | (unfold PT at q; omega) | (unfold PT PQ at q; omega))
  refine ⟨?_, fun q9 h9 => by cases h9; exact Nat.zero_le _⟩
  dsimp only [zrst, List.cons_append, List.nil_append]
  refine L_aload_n dL_law_491 rfl rfl ?_
  refine L_cV0 mv_X5_wardrobe ml_L_56 (c5p_wardrobe l hR1 hw.tb) dL_law_492 (Nat.le_of_ble_eq_true rfl) ⟨by decide, by decide⟩ ⟨by show _ ≤ 600000; omega, by show _ ≤ 7302250; omega⟩ sh_34 rfl (fun v S2 M2 hq => ?_)
  obtain ⟨rfl, rfl, t9, hwp, hR2, hf2⟩ := hq
  refine ⟨?_, fun q9 h9 => by cases h9; exact Nat.zero_le _⟩
  dsimp only [zrst, List.cons_append, List.nil_append]
  refine L_icmp_eq (tgt := 1361) dL_law_495 (by decide) (fun _ => ?_) (fun q => absurd rfl q)
  exact K _ _ _ _ (⟨t9, z, WJ_ward hw hS1 h1 hf1 hwp hR2 hf2⟩) (Nat.le_add_right _ _) (Nat.le_add_right _ _)
set_option maxHeartbeats 4000000 in
set_option maxRecDepth 100000 in
theorem k_count (l : Launch) {L : Nat} {xs : Nat → Int32} {rw : List zC} {M : zM} {cells slots i : Nat} {Q : Option Value → List zC → zM → Prop} (hi : i + 7 ≤ L) (hL : L ≤ 3584) (hc : cells + 2 ≤ 600000) (hs : slots + 26 ≤ 7302250) (hw : WI rw M) (K : ∀ (rw' : List zC) (M' : zM) (c' s' : Nat), WI rw' M' → c' ≤ cells + 2 → s' ≤ slots + 26 → LA (scr L xs) l (some 0) room_1 yL_law cL_law 4 ret Q c' s' 1361 (lsI i) [] (zSh ++ rw') M') : LA (scr L xs) l (some 0) room_1 yL_law cL_law 4 ret Q cells slots 500 (lsI i) [] (zSh ++ rw) M := by
  obtain ⟨t, z, hw⟩ := hw
  refine L_aload_n dL_law_500 rfl rfl ?_
  refine L_arg (i := i) (j := 1) dL_law_501 dL_law_502 dL_law_503 rfl dL_law_504 dL_law_505 (by omega) hL ?_
  refine L_cV1 mv_X4_count ml_L_57 (c4_count l hw.si hw.nb _) dL_law_506 (Nat.le_of_ble_eq_true rfl) ⟨by decide, by decide⟩ ⟨by show _ ≤ 600000; omega, by show _ ≤ 7302250; omega⟩ sh_0 rfl (fun v S1 M1 hq => ?_)
  obtain ⟨rfl, rfl, rfl⟩ := hq
  refine ⟨?_, fun q9 h9 => by cases h9; exact Nat.zero_le _⟩
  dsimp only [zrst, List.cons_append, List.nil_append]
  refine L_aload_n dL_law_509 rfl rfl ?_
  refine L_arg (i := i) (j := 1) dL_law_510 dL_law_511 dL_law_512 rfl dL_law_513 dL_law_514 (by omega) hL ?_
  refine L_cV1 mv_X5_count ml_L_60 (c5p_count l hw.ri hw.nb _) dL_law_515 (Nat.le_of_ble_eq_true rfl) ⟨by decide, by decide⟩ ⟨by show _ ≤ 600000; omega, by show _ ≤ 7302250; omega⟩ sh_34 rfl (fun v S2 M2 hq => ?_)
  obtain ⟨rfl, rfl, rfl⟩ := hq
  refine ⟨?_, fun q9 h9 => by cases h9; exact Nat.zero_le _⟩
  dsimp only [zrst, List.cons_append, List.nil_append]
  refine L_icmp_eq (tgt := 1361) dL_law_518 (by decide) (fun _ => ?_) (fun q => absurd rfl q)
  exact K _ _ _ _ (⟨t, z, hw⟩) (Nat.le_add_right _ _) (Nat.le_add_right _ _)
set_option maxHeartbeats 4000000 in
set_option maxRecDepth 100000 in
theorem k_does (l : Launch) {L : Nat} {xs : Nat → Int32} {rw : List zC} {M : zM} {cells slots i : Nat} {Q : Option Value → List zC → zM → Prop} (hi : i + 7 ≤ L) (hL : L ≤ 3584) (hc : cells + 2 ≤ 600000) (hs : slots + 26 ≤ 7302250) (hw : WI rw M) (K : ∀ (rw' : List zC) (M' : zM) (c' s' : Nat), WI rw' M' → c' ≤ cells + 2 → s' ≤ slots + 26 → LA (scr L xs) l (some 0) room_1 yL_law cL_law 4 ret Q c' s' 1361 (lsI i) [] (zSh ++ rw') M') : LA (scr L xs) l (some 0) room_1 yL_law cL_law 4 ret Q cells slots 523 (lsI i) [] (zSh ++ rw) M := by
  obtain ⟨t, z, hw⟩ := hw
  refine L_aload_n dL_law_523 rfl rfl ?_
  refine L_arg (i := i) (j := 1) dL_law_524 dL_law_525 dL_law_526 rfl dL_law_527 dL_law_528 (by omega) hL ?_
  refine L_arg (i := i) (j := 2) dL_law_529 dL_law_530 dL_law_531 rfl dL_law_532 dL_law_533 (by omega) hL ?_
  refine L_arg (i := i) (j := 3) dL_law_534 dL_law_535 dL_law_536 rfl dL_law_537 dL_law_538 (by omega) hL ?_
  refine L_cV3 mv_X4_does ml_L_61 (c4_does l hw.si hw.nb _ _ _ hw.ub.1) dL_law_539 (Nat.le_of_ble_eq_true rfl) ⟨by decide, by decide⟩ ⟨by show _ ≤ 600000; omega, by show _ ≤ 7302250; omega⟩ sh_0 rfl (fun v S1 M1 hq => ?_)
  obtain ⟨rfl, rfl, hS1, hf1⟩ := hq
  have hR1 := RI_fr hw.ri hf1 (fun i q => by first | omega | (unfold PT at q; omega) | (unfold PT PQ at q; omega))
  refine ⟨?_, fun q9 h9 => by cases h9; exact Nat.zero_le _⟩
  dsimp only [zrst, List.cons_append, List.nil_append]
  refine L_aload_n dL_law_542 rfl rfl ?_
  refine L_arg (i := i) (j := 1) dL_law_543 dL_law_544 dL_law_545 rfl dL_law_546 dL_law_547 (by omega) hL ?_
  refine L_arg (i := i) (j := 2) dL_law_548 dL_law_549 dL_law_550 rfl dL_law_551 dL_law_552 (by omega) hL ?_
  refine L_arg (i := i) (j := 3) dL_law_553 dL_law_554 dL_law_555 rfl dL_law_556 dL_law_557 (by omega) hL ?_
  refine L_cV3 mv_X5_does ml_L_64 (c5p_does l hR1 hw.nb _ _ _ hw.ub.1) dL_law_558 (Nat.le_of_ble_eq_true rfl) ⟨by decide, by decide⟩ ⟨by show _ ≤ 600000; omega, by show _ ≤ 7302250; omega⟩ sh_34 rfl (fun v S2 M2 hq => ?_)
  obtain ⟨rfl, rfl, hR2, hf2⟩ := hq
  refine ⟨?_, fun q9 h9 => by cases h9; exact Nat.zero_le _⟩
  dsimp only [zrst, List.cons_append, List.nil_append]
  refine L_icmp_eq (tgt := 1361) dL_law_561 (by decide) (fun _ => ?_) (fun q => absurd rfl q)
  exact K _ _ _ _ (⟨_, z, WJ_w hw (fun i q => by first | omega | (unfold PT at q; omega) | (unfold PT PQ at q; omega)) hS1 hf1 hR2 hf2 (OK_does hw.nb hw.ub _ _ _)⟩) (Nat.le_add_right _ _) (Nat.le_add_right _ _)
set_option maxHeartbeats 4000000 in
set_option maxRecDepth 100000 in
theorem k_mend (l : Launch) {L : Nat} {xs : Nat → Int32} {rw : List zC} {M : zM} {cells slots i : Nat} {Q : Option Value → List zC → zM → Prop} (hi : i + 7 ≤ L) (hL : L ≤ 3584) (hc : cells + 2 ≤ 600000) (hs : slots + 26 ≤ 7302250) (hw : WI rw M) (K : ∀ (rw' : List zC) (M' : zM) (c' s' : Nat), WI rw' M' → c' ≤ cells + 2 → s' ≤ slots + 26 → LA (scr L xs) l (some 0) room_1 yL_law cL_law 4 ret Q c' s' 1361 (lsI i) [] (zSh ++ rw') M') : LA (scr L xs) l (some 0) room_1 yL_law cL_law 4 ret Q cells slots 566 (lsI i) [] (zSh ++ rw) M := by
  obtain ⟨t, z, hw⟩ := hw
  refine L_aload_n dL_law_566 rfl rfl ?_
  refine L_arg (i := i) (j := 1) dL_law_567 dL_law_568 dL_law_569 rfl dL_law_570 dL_law_571 (by omega) hL ?_
  refine L_cV1 mv_X4_mend ml_L_65 (c4_mend l hw.si hw.nb _ hw.ub.1) dL_law_572 (Nat.le_of_ble_eq_true rfl) ⟨by decide, by decide⟩ ⟨by show _ ≤ 600000; omega, by show _ ≤ 7302250; omega⟩ sh_0 rfl (fun v S1 M1 hq => ?_)
  obtain ⟨rfl, rfl, hS1, hf1⟩ := hq
  have hR1 := RI_fr hw.ri hf1 (fun i q => by first | omega | (unfold PT at q; omega) | (unfold PT PQ at q; omega))
  refine ⟨?_, fun q9 h9 => by cases h9; exact Nat.zero_le _⟩
  dsimp only [zrst, List.cons_append, List.nil_append]
  refine L_aload_n dL_law_575 rfl rfl ?_
  refine L_arg (i := i) (j := 1) dL_law_576 dL_law_577 dL_law_578 rfl dL_law_579 dL_law_580 (by omega) hL ?_
  refine L_cV1 mv_X5_mend ml_L_68 (c5p_mend l hR1 hw.nb _ hw.ub.1) dL_law_581 (Nat.le_of_ble_eq_true rfl) ⟨by decide, by decide⟩ ⟨by show _ ≤ 600000; omega, by show _ ≤ 7302250; omega⟩ sh_34 rfl (fun v S2 M2 hq => ?_)
  obtain ⟨rfl, rfl, hR2, hf2⟩ := hq
  refine ⟨?_, fun q9 h9 => by cases h9; exact Nat.zero_le _⟩
  dsimp only [zrst, List.cons_append, List.nil_append]
  refine L_icmp_eq (tgt := 1361) dL_law_584 (by decide) (fun _ => ?_) (fun q => absurd rfl q)
  exact K _ _ _ _ (⟨_, z, WJ_w hw (fun i q => by first | omega | (unfold PT at q; omega) | (unfold PT PQ at q; omega)) hS1 hf1 hR2 hf2 (OK_mend hw.nb hw.ub _)⟩) (Nat.le_add_right _ _) (Nat.le_add_right _ _)
set_option maxHeartbeats 4000000 in
set_option maxRecDepth 100000 in
theorem k_days (l : Launch) {L : Nat} {xs : Nat → Int32} {rw : List zC} {M : zM} {cells slots i : Nat} {Q : Option Value → List zC → zM → Prop} (hi : i + 7 ≤ L) (hL : L ≤ 3584) (hc : cells + 2 ≤ 600000) (hs : slots + 26 ≤ 7302250) (hw : WI rw M) (K : ∀ (rw' : List zC) (M' : zM) (c' s' : Nat), WI rw' M' → c' ≤ cells + 2 → s' ≤ slots + 26 → LA (scr L xs) l (some 0) room_1 yL_law cL_law 4 ret Q c' s' 1361 (lsI i) [] (zSh ++ rw') M') : LA (scr L xs) l (some 0) room_1 yL_law cL_law 4 ret Q cells slots 589 (lsI i) [] (zSh ++ rw) M := by
  obtain ⟨t, z, hw⟩ := hw
  refine L_aload_n dL_law_589 rfl rfl ?_
  refine L_arg (i := i) (j := 1) dL_law_590 dL_law_591 dL_law_592 rfl dL_law_593 dL_law_594 (by omega) hL ?_
  refine L_cV1 mv_X4_days ml_L_69 (c4_days l hw.si hw.nb _ hw.ub.1) dL_law_595 (Nat.le_of_ble_eq_true rfl) ⟨by decide, by decide⟩ ⟨by show _ ≤ 600000; omega, by show _ ≤ 7302250; omega⟩ sh_0 rfl (fun v S1 M1 hq => ?_)
  obtain ⟨rfl, rfl, hS1, hf1⟩ := hq
  have hR1 := RI_fr hw.ri hf1 (fun i q => by first | omega | (unfold PT at q; omega) | (unfold PT PQ at q; omega))
  refine ⟨?_, fun q9 h9 => by cases h9; exact Nat.zero_le _⟩
  dsimp only [zrst, List.cons_append, List.nil_append]
  refine L_aload_n dL_law_598 rfl rfl ?_
  refine L_arg (i := i) (j := 1) dL_law_599 dL_law_600 dL_law_601 rfl dL_law_602 dL_law_603 (by omega) hL ?_
  refine L_cV1 mv_X5_days ml_L_72 (c5p_days l hR1 hw.nb _ hw.ub.1) dL_law_604 (Nat.le_of_ble_eq_true rfl) ⟨by decide, by decide⟩ ⟨by show _ ≤ 600000; omega, by show _ ≤ 7302250; omega⟩ sh_34 rfl (fun v S2 M2 hq => ?_)
  obtain ⟨rfl, rfl, hR2, hf2⟩ := hq
  refine ⟨?_, fun q9 h9 => by cases h9; exact Nat.zero_le _⟩
  dsimp only [zrst, List.cons_append, List.nil_append]
  refine L_icmp_eq (tgt := 1361) dL_law_607 (by decide) (fun _ => ?_) (fun q => absurd rfl q)
  exact K _ _ _ _ (⟨_, z, WJ_w hw (fun i q => by first | omega | (unfold PT at q; omega) | (unfold PT PQ at q; omega)) hS1 hf1 hR2 hf2 (OK_days hw.nb hw.ub _)⟩) (Nat.le_add_right _ _) (Nat.le_add_right _ _)
set_option maxHeartbeats 4000000 in
set_option maxRecDepth 100000 in
theorem k_drift (l : Launch) {L : Nat} {xs : Nat → Int32} {rw : List zC} {M : zM} {cells slots i : Nat} {Q : Option Value → List zC → zM → Prop} (hi : i + 7 ≤ L) (hL : L ≤ 3584) (hc : cells + 2 ≤ 600000) (hs : slots + 26 ≤ 7302250) (hw : WI rw M) (K : ∀ (rw' : List zC) (M' : zM) (c' s' : Nat), WI rw' M' → c' ≤ cells + 2 → s' ≤ slots + 26 → LA (scr L xs) l (some 0) room_1 yL_law cL_law 4 ret Q c' s' 1361 (lsI i) [] (zSh ++ rw') M') : LA (scr L xs) l (some 0) room_1 yL_law cL_law 4 ret Q cells slots 612 (lsI i) [] (zSh ++ rw) M := by
  obtain ⟨t, z, hw⟩ := hw
  refine L_aload_n dL_law_612 rfl rfl ?_
  refine L_arg (i := i) (j := 1) dL_law_613 dL_law_614 dL_law_615 rfl dL_law_616 dL_law_617 (by omega) hL ?_
  refine L_cV1 mv_X4_drift ml_L_73 (c4_drift l hw.si hw.nb _ hw.ub.1) dL_law_618 (Nat.le_of_ble_eq_true rfl) ⟨by decide, by decide⟩ ⟨by show _ ≤ 600000; omega, by show _ ≤ 7302250; omega⟩ sh_0 rfl (fun v S1 M1 hq => ?_)
  obtain ⟨rfl, rfl, hS1, hf1⟩ := hq
  have hR1 := RI_fr hw.ri hf1 (fun i q => by first | omega | (unfold PT at q; omega) | (unfold PT PQ at q; omega))
  refine ⟨?_, fun q9 h9 => by cases h9; exact Nat.zero_le _⟩
  dsimp only [zrst, List.cons_append, List.nil_append]
  refine L_aload_n dL_law_621 rfl rfl ?_
  refine L_arg (i := i) (j := 1) dL_law_622 dL_law_623 dL_law_624 rfl dL_law_625 dL_law_626 (by omega) hL ?_
  refine L_cV1 mv_X5_drift ml_L_76 (c5p_drift l hR1 hw.nb _ hw.ub.1) dL_law_627 (Nat.le_of_ble_eq_true rfl) ⟨by decide, by decide⟩ ⟨by show _ ≤ 600000; omega, by show _ ≤ 7302250; omega⟩ sh_34 rfl (fun v S2 M2 hq => ?_)
  obtain ⟨rfl, rfl, hR2, hf2⟩ := hq
  refine ⟨?_, fun q9 h9 => by cases h9; exact Nat.zero_le _⟩
  dsimp only [zrst, List.cons_append, List.nil_append]
  refine L_icmp_eq (tgt := 1361) dL_law_630 (by decide) (fun _ => ?_) (fun q => absurd rfl q)
  exact K _ _ _ _ (⟨_, z, WJ_w hw (fun i q => by first | omega | (unfold PT at q; omega) | (unfold PT PQ at q; omega)) hS1 hf1 hR2 hf2 (OK_drift hw.nb hw.ub _)⟩) (Nat.le_add_right _ _) (Nat.le_add_right _ _)
set_option maxHeartbeats 4000000 in
set_option maxRecDepth 100000 in
theorem k_undo (l : Launch) {L : Nat} {xs : Nat → Int32} {rw : List zC} {M : zM} {cells slots i : Nat} {Q : Option Value → List zC → zM → Prop} (hi : i + 7 ≤ L) (hL : L ≤ 3584) (hc : cells + 2 ≤ 600000) (hs : slots + 26 ≤ 7302250) (hw : WI rw M) (K : ∀ (rw' : List zC) (M' : zM) (c' s' : Nat), WI rw' M' → c' ≤ cells + 2 → s' ≤ slots + 26 → LA (scr L xs) l (some 0) room_1 yL_law cL_law 4 ret Q c' s' 1361 (lsI i) [] (zSh ++ rw') M') : LA (scr L xs) l (some 0) room_1 yL_law cL_law 4 ret Q cells slots 635 (lsI i) [] (zSh ++ rw) M := by
  obtain ⟨t, z, hw⟩ := hw
  refine L_aload_n dL_law_635 rfl rfl ?_
  refine L_cV0 mv_X4_undo ml_L_77 (c4_undo l hw.si hw.nb (UBn_UB hw.ub)) dL_law_636 (Nat.le_of_ble_eq_true rfl) ⟨by decide, by decide⟩ ⟨by show _ ≤ 600000; omega, by show _ ≤ 7302250; omega⟩ sh_0 rfl (fun v S1 M1 hq => ?_)
  obtain ⟨rfl, rfl, hS1, hf1⟩ := hq
  have hR1 := RI_fr hw.ri hf1 (fun i q => by first | omega | (unfold PT at q; omega) | (unfold PT PQ at q; omega))
  refine ⟨?_, fun q9 h9 => by cases h9; exact Nat.zero_le _⟩
  dsimp only [zrst, List.cons_append, List.nil_append]
  refine L_aload_n dL_law_639 rfl rfl ?_
  refine L_cV0 mv_X5_undo ml_L_80 (c5p_undo l hR1 hw.ub.1) dL_law_640 (Nat.le_of_ble_eq_true rfl) ⟨by decide, by decide⟩ ⟨by show _ ≤ 600000; omega, by show _ ≤ 7302250; omega⟩ sh_34 rfl (fun v S2 M2 hq => ?_)
  obtain ⟨rfl, rfl, hR2, hf2⟩ := hq
  refine ⟨?_, fun q9 h9 => by cases h9; exact Nat.zero_le _⟩
  dsimp only [zrst, List.cons_append, List.nil_append]
  refine L_icmp_eq (tgt := 1361) dL_law_643 (by decide) (fun _ => ?_) (fun q => absurd rfl q)
  exact K _ _ _ _ (⟨_, z, WJ_w hw (fun i q => by first | omega | (unfold PT at q; omega) | (unfold PT PQ at q; omega)) hS1 hf1 hR2 hf2 (OK_undo hw.nb hw.ub )⟩) (Nat.le_add_right _ _) (Nat.le_add_right _ _)
