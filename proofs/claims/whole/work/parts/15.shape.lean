/-! the cells of the class (0 to 33), of the reference (34 to 44); the sheets' rows come behind -/
def zSh : List zC := [.inr (4, [some (some 1), some (some 10), none, some (some 19), some (some 24), some (some 33)]),
  .inr (3, [none, none, none, none, none, none, none, none, none, some (some 2), some (some 3), some (some 4), some (some 5), some (some 6), some (some 7), some (some 8), some (some 9)]),
  .inl (0, 5),
  .inl (0, 20),
  .inl (0, 16),
  .inl (0, 10),
  .inl (0, 10),
  .inl (0, 10),
  .inl (0, 10),
  .inl (0, 32),
  .inr (3, [none, none, none, none, none, none, none, none, none, some (some 11), some (some 12), some (some 13), some (some 14), some (some 15), some (some 16), some (some 17), some (some 18)]),
  .inl (0, 5),
  .inl (0, 20),
  .inl (0, 16),
  .inl (0, 10),
  .inl (0, 10),
  .inl (0, 10),
  .inl (0, 10),
  .inl (0, 32),
  .inr (1, [some (some 20), none, none, none, none, none, none, some (some 21), some (some 22), some (some 23)]),
  .inl (0, 130),
  .inl (0, 5),
  .inl (0, 20),
  .inl (0, 16),
  .inr (0, [some (some 1), some (some 25), some (some 26), some (some 27), some (some 28), some (some 29), some (some 30), some (some 31), some (some 32), none, none]),
  .inl (0, 41),
  .inl (0, 4),
  .inl (0, 10),
  .inl (0, 40),
  .inl (0, 5),
  .inl (0, 96),
  .inl (0, 256),
  .inl (1, 4),
  .inl (2, 4),
  .inr (5, [some (some 35), some (some 36), none, none, none, some (some 37), some (some 38), none, some (some 39), some (some 40), none, none, some (some 41), some (some 42), some (some 43), some (some 44)]),
  .inl (0, 89),
  .inl (0, 130),
  .inl (0, 41),
  .inl (0, 352),
  .inl (0, 41),
  .inl (0, 441),
  .inl (0, 4),
  .inl (0, 4),
  .inl (1, 96),
  .inl (1, 24)]
theorem sh_0 {rw : List zC} : (zSh ++ rw)[0]? = some (.inr (4, [some (some 1), some (some 10), none, some (some 19), some (some 24), some (some 33)])) := rfl
theorem sh_1 {rw : List zC} : (zSh ++ rw)[1]? = some (.inr (3, [none, none, none, none, none, none, none, none, none, some (some 2), some (some 3), some (some 4), some (some 5), some (some 6), some (some 7), some (some 8), some (some 9)])) := rfl
theorem sh_2 {rw : List zC} : (zSh ++ rw)[2]? = some (.inl (0, 5)) := rfl
theorem sh_3 {rw : List zC} : (zSh ++ rw)[3]? = some (.inl (0, 20)) := rfl
theorem sh_4 {rw : List zC} : (zSh ++ rw)[4]? = some (.inl (0, 16)) := rfl
theorem sh_5 {rw : List zC} : (zSh ++ rw)[5]? = some (.inl (0, 10)) := rfl
theorem sh_6 {rw : List zC} : (zSh ++ rw)[6]? = some (.inl (0, 10)) := rfl
theorem sh_7 {rw : List zC} : (zSh ++ rw)[7]? = some (.inl (0, 10)) := rfl
theorem sh_8 {rw : List zC} : (zSh ++ rw)[8]? = some (.inl (0, 10)) := rfl
theorem sh_9 {rw : List zC} : (zSh ++ rw)[9]? = some (.inl (0, 32)) := rfl
theorem sh_10 {rw : List zC} : (zSh ++ rw)[10]? = some (.inr (3, [none, none, none, none, none, none, none, none, none, some (some 11), some (some 12), some (some 13), some (some 14), some (some 15), some (some 16), some (some 17), some (some 18)])) := rfl
theorem sh_11 {rw : List zC} : (zSh ++ rw)[11]? = some (.inl (0, 5)) := rfl
theorem sh_12 {rw : List zC} : (zSh ++ rw)[12]? = some (.inl (0, 20)) := rfl
theorem sh_13 {rw : List zC} : (zSh ++ rw)[13]? = some (.inl (0, 16)) := rfl
theorem sh_14 {rw : List zC} : (zSh ++ rw)[14]? = some (.inl (0, 10)) := rfl
theorem sh_15 {rw : List zC} : (zSh ++ rw)[15]? = some (.inl (0, 10)) := rfl
theorem sh_16 {rw : List zC} : (zSh ++ rw)[16]? = some (.inl (0, 10)) := rfl
theorem sh_17 {rw : List zC} : (zSh ++ rw)[17]? = some (.inl (0, 10)) := rfl
theorem sh_18 {rw : List zC} : (zSh ++ rw)[18]? = some (.inl (0, 32)) := rfl
theorem sh_19 {rw : List zC} : (zSh ++ rw)[19]? = some (.inr (1, [some (some 20), none, none, none, none, none, none, some (some 21), some (some 22), some (some 23)])) := rfl
theorem sh_20 {rw : List zC} : (zSh ++ rw)[20]? = some (.inl (0, 130)) := rfl
theorem sh_21 {rw : List zC} : (zSh ++ rw)[21]? = some (.inl (0, 5)) := rfl
theorem sh_22 {rw : List zC} : (zSh ++ rw)[22]? = some (.inl (0, 20)) := rfl
theorem sh_23 {rw : List zC} : (zSh ++ rw)[23]? = some (.inl (0, 16)) := rfl
theorem sh_24 {rw : List zC} : (zSh ++ rw)[24]? = some (.inr (0, [some (some 1), some (some 25), some (some 26), some (some 27), some (some 28), some (some 29), some (some 30), some (some 31), some (some 32), none, none])) := rfl
theorem sh_25 {rw : List zC} : (zSh ++ rw)[25]? = some (.inl (0, 41)) := rfl
theorem sh_26 {rw : List zC} : (zSh ++ rw)[26]? = some (.inl (0, 4)) := rfl
theorem sh_27 {rw : List zC} : (zSh ++ rw)[27]? = some (.inl (0, 10)) := rfl
theorem sh_28 {rw : List zC} : (zSh ++ rw)[28]? = some (.inl (0, 40)) := rfl
theorem sh_29 {rw : List zC} : (zSh ++ rw)[29]? = some (.inl (0, 5)) := rfl
theorem sh_30 {rw : List zC} : (zSh ++ rw)[30]? = some (.inl (0, 96)) := rfl
theorem sh_31 {rw : List zC} : (zSh ++ rw)[31]? = some (.inl (0, 256)) := rfl
theorem sh_32 {rw : List zC} : (zSh ++ rw)[32]? = some (.inl (1, 4)) := rfl
theorem sh_33 {rw : List zC} : (zSh ++ rw)[33]? = some (.inl (2, 4)) := rfl
theorem sh_34 {rw : List zC} : (zSh ++ rw)[34]? = some (.inr (5, [some (some 35), some (some 36), none, none, none, some (some 37), some (some 38), none, some (some 39), some (some 40), none, none, some (some 41), some (some 42), some (some 43), some (some 44)])) := rfl
theorem sh_35 {rw : List zC} : (zSh ++ rw)[35]? = some (.inl (0, 89)) := rfl
theorem sh_36 {rw : List zC} : (zSh ++ rw)[36]? = some (.inl (0, 130)) := rfl
theorem sh_37 {rw : List zC} : (zSh ++ rw)[37]? = some (.inl (0, 41)) := rfl
theorem sh_38 {rw : List zC} : (zSh ++ rw)[38]? = some (.inl (0, 352)) := rfl
theorem sh_39 {rw : List zC} : (zSh ++ rw)[39]? = some (.inl (0, 41)) := rfl
theorem sh_40 {rw : List zC} : (zSh ++ rw)[40]? = some (.inl (0, 441)) := rfl
theorem sh_41 {rw : List zC} : (zSh ++ rw)[41]? = some (.inl (0, 4)) := rfl
theorem sh_42 {rw : List zC} : (zSh ++ rw)[42]? = some (.inl (0, 4)) := rfl
theorem sh_43 {rw : List zC} : (zSh ++ rw)[43]? = some (.inl (1, 96)) := rfl
theorem sh_44 {rw : List zC} : (zSh ++ rw)[44]? = some (.inl (1, 24)) := rfl
def zb (p : Prop) [Decidable p] : Int32 := if p then 1 else 0
theorem zb_t {p : Prop} [Decidable p] (h : p) : zb p = 1 := if_pos h
theorem zb_f {p : Prop} [Decidable p] (h : ¬ p) : zb p = 0 := if_neg h
theorem zb_eq0 {p : Prop} [Decidable p] : zb p = 0 ↔ ¬ p := by
  unfold zb
  by_cases h : p <;> simp [h]
theorem zb01 {p : Prop} [Decidable p] : zb p = 0 ∨ zb p = 1 := by
  unfold zb
  by_cases h : p <;> simp [h]
theorem zb_congr {p q : Prop} [Decidable p] [Decidable q] (h : p ↔ q) : zb p = zb q := by
  unfold zb
  by_cases hq : q
  · rw [if_pos hq, if_pos (h.mpr hq)]
  · rw [if_neg hq, if_neg (fun x => hq (h.mp x))]
section BR
variable {l : Launch} {b : Option Nat} {R : Room} {y : MethodName} {cc : ByteArray} {nL : Nat} {ret : Option FieldType} {Q : Option Value → List zC → zM → Prop} {cells slots pc : Nat} {ls : List (Option Value)} {st : List Value} {S : List zC} {M : zM}
theorem r_if_eqB {p : Prop} {hp : Decidable p} {off : Int} {tgt : Nat} (hd : decode cc pc = .ok (.ifCond .eq off, 3)) (ht : (pc : Int) + off = (tgt : Int)) (kt : ¬ p → RA l b R y cc nL ret Q cells slots tgt ls st S M) (kf : p → RA l b R y cc nL ret Q cells slots (pc + 3) ls st S M) : RA l b R y cc nL ret Q cells slots pc ls (.int (zb p) :: st) S M := r_if_eq hd ht (fun h => kt (zb_eq0.mp h)) (fun h => kf (Decidable.not_not.mp (fun q => h (zb_eq0.mpr q))))
theorem r_if_neB {p : Prop} {hp : Decidable p} {off : Int} {tgt : Nat} (hd : decode cc pc = .ok (.ifCond .ne off, 3)) (ht : (pc : Int) + off = (tgt : Int)) (kt : p → RA l b R y cc nL ret Q cells slots tgt ls st S M) (kf : ¬ p → RA l b R y cc nL ret Q cells slots (pc + 3) ls st S M) : RA l b R y cc nL ret Q cells slots pc ls (.int (zb p) :: st) S M := r_if_ne hd ht (fun h => kt (Decidable.not_not.mp (fun q => h (zb_eq0.mpr q)))) (fun h => kf (zb_eq0.mp h))
end BR
/-! Int32 by its number -/
theorem i32_le {a b : Int32} : a ≤ b ↔ a.toInt ≤ b.toInt := Int32.le_iff_toInt_le
theorem i32_lt {a b : Int32} : a < b ↔ a.toInt < b.toInt := Int32.lt_iff_toInt_lt
theorem i64_le {a b : Int64} : a ≤ b ↔ a.toInt ≤ b.toInt := Int64.le_iff_toInt_le
theorem i64_lt {a b : Int64} : a < b ↔ a.toInt < b.toInt := Int64.lt_iff_toInt_lt
theorem i32_rng (x : Int32) : -2147483648 ≤ x.toInt ∧ x.toInt < 2147483648 := ⟨Int32.le_toInt x, Int32.toInt_lt x⟩
theorem nI_ofInt {x : Int32} (h : 0 ≤ x.toInt) : x = nI x.toInt.toNat := by
  apply Int32.toInt_inj.mp
  have := i32_rng x
  rw [nI_toInt (by omega)]
  omega
