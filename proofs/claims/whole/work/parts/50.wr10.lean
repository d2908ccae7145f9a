set_option maxHeartbeats 4000000 in
set_option maxRecDepth 100000 in
theorem c3_takeAll_1_10 (l : Launch) {rw : List zC} {M0 : zM} : CT l false 1 0 0 yX3_takeAll cX3_takeAll 2 none [.ref 10, .ref 1] (zSh ++ rw) M0 (zG (zSh ++ rw) (fun v M9 => v = none ∧ CP 1 10 M0 M9 ∧ zfr (PT 10) M0 M9)) := by
  refine CT.ofN (by decide) (fun _ _ => Nat.le_of_ble_eq_true rfl) ?_
  have hT : TS 1 10 0 M0 M0 := ⟨fun j hj => absurd hj (by omega), zfr.rf⟩
  refine r_aload_n dX3_takeAll_0 rfl rfl ?_
  refine r_aload_n dX3_takeAll_1 rfl rfl ?_
  refine r_getV fl_X3_46 dX3_takeAll_2 sh_1 rfl rfl ?_
  refine r_tput hT fl_X3_46 dX3_takeAll_5 sh_10 rfl (by unfold PT; decide) (fun M hT => ?_)
  refine r_aload_n dX3_takeAll_8 rfl rfl ?_
  refine r_aload_n dX3_takeAll_9 rfl rfl ?_
  refine r_getV fl_X3_53 dX3_takeAll_10 sh_1 rfl rfl ?_
  refine r_tput hT fl_X3_53 dX3_takeAll_13 sh_10 rfl (by unfold PT; decide) (fun M hT => ?_)
  refine r_aload_n dX3_takeAll_16 rfl rfl ?_
  refine r_aload_n dX3_takeAll_17 rfl rfl ?_
  refine r_getV fl_X3_56 dX3_takeAll_18 sh_1 rfl rfl ?_
  refine r_tput hT fl_X3_56 dX3_takeAll_21 sh_10 rfl (by unfold PT; decide) (fun M hT => ?_)
  refine r_aload_n dX3_takeAll_24 rfl rfl ?_
  refine r_aload_n dX3_takeAll_25 rfl rfl ?_
  refine r_getV fl_X3_65 dX3_takeAll_26 sh_1 rfl rfl ?_
  refine r_tput hT fl_X3_65 dX3_takeAll_29 sh_10 rfl (by unfold PT; decide) (fun M hT => ?_)
  refine r_aload_n dX3_takeAll_32 rfl rfl ?_
  refine r_aload_n dX3_takeAll_33 rfl rfl ?_
  refine r_getV fl_X3_62 dX3_takeAll_34 sh_1 rfl rfl ?_
  refine r_tput hT fl_X3_62 dX3_takeAll_37 sh_10 rfl (by unfold PT; decide) (fun M hT => ?_)
  refine r_aload_n dX3_takeAll_40 rfl rfl ?_
  refine r_aload_n dX3_takeAll_41 rfl rfl ?_
  refine r_getV fl_X3_59 dX3_takeAll_42 sh_1 rfl rfl ?_
  refine r_tput hT fl_X3_59 dX3_takeAll_45 sh_10 rfl (by unfold PT; decide) (fun M hT => ?_)
  refine r_aload_n dX3_takeAll_48 rfl rfl ?_
  refine r_aload_n dX3_takeAll_49 rfl rfl ?_
  refine r_getV fl_X3_9 dX3_takeAll_50 sh_1 rfl rfl ?_
  refine r_tput hT fl_X3_9 dX3_takeAll_53 sh_10 rfl (by unfold PT; decide) (fun M hT => ?_)
  refine r_aload_n dX3_takeAll_56 rfl rfl ?_
  refine r_aload_n dX3_takeAll_57 rfl rfl ?_
  refine r_getV fl_X3_15 dX3_takeAll_58 sh_1 rfl rfl ?_
  refine r_tput hT fl_X3_15 dX3_takeAll_61 sh_10 rfl (by unfold PT; decide) (fun M hT => ?_)
  refine r_aload_n dX3_takeAll_64 rfl rfl ?_
  refine r_aload_n dX3_takeAll_65 rfl rfl ?_
  refine r_getV fl_X3_18 dX3_takeAll_66 sh_1 rfl rfl ?_
  refine r_tput hT fl_X3_18 dX3_takeAll_69 sh_10 rfl (by unfold PT; decide) (fun M hT => ?_)
  have hT := TA_0 hT
  refine r_aload_n dX3_takeAll_72 rfl rfl ?_
  refine r_getR fl_X3_21 dX3_takeAll_73 sh_1 rfl ?_
  refine r_iconst (v := nI 0) dX3_takeAll_76 rfl ?_
  refine r_aload_n dX3_takeAll_77 rfl rfl ?_
  refine r_getR fl_X3_21 dX3_takeAll_78 sh_10 rfl ?_
  refine r_iconst (v := nI 0) dX3_takeAll_81 rfl ?_
  refine r_aload_n dX3_takeAll_82 rfl rfl ?_
  refine r_getR fl_X3_21 dX3_takeAll_83 sh_10 rfl ?_
  refine r_alen (v := nI 5) dX3_takeAll_86 sh_11 rfl ?_
  refine r_tcpy hT rfl rfl (by decide) rfl (by unfold PT; decide) ml_X3_100 dX3_takeAll_87 sh_2 sh_11 (by decide) (by decide) (Nat.le_of_ble_eq_true rfl) (fun M hT => ?_)
  refine r_aload_n dX3_takeAll_90 rfl rfl ?_
  refine r_getR fl_X3_25 dX3_takeAll_91 sh_1 rfl ?_
  refine r_iconst (v := nI 0) dX3_takeAll_94 rfl ?_
  refine r_aload_n dX3_takeAll_95 rfl rfl ?_
  refine r_getR fl_X3_25 dX3_takeAll_96 sh_10 rfl ?_
  refine r_iconst (v := nI 0) dX3_takeAll_99 rfl ?_
  refine r_aload_n dX3_takeAll_100 rfl rfl ?_
  refine r_getR fl_X3_25 dX3_takeAll_101 sh_10 rfl ?_
  refine r_alen (v := nI 20) dX3_takeAll_104 sh_12 rfl ?_
  refine r_tcpy hT rfl rfl (by decide) rfl (by unfold PT; decide) ml_X3_100 dX3_takeAll_105 sh_3 sh_12 (by decide) (by decide) (Nat.le_of_ble_eq_true rfl) (fun M hT => ?_)
  refine r_aload_n dX3_takeAll_108 rfl rfl ?_
  refine r_getR fl_X3_28 dX3_takeAll_109 sh_1 rfl ?_
  refine r_iconst (v := nI 0) dX3_takeAll_112 rfl ?_
  refine r_aload_n dX3_takeAll_113 rfl rfl ?_
  refine r_getR fl_X3_28 dX3_takeAll_114 sh_10 rfl ?_
  refine r_iconst (v := nI 0) dX3_takeAll_117 rfl ?_
  refine r_aload_n dX3_takeAll_118 rfl rfl ?_
  refine r_getR fl_X3_28 dX3_takeAll_119 sh_10 rfl ?_
  refine r_alen (v := nI 16) dX3_takeAll_122 sh_13 rfl ?_
  refine r_tcpy hT rfl rfl (by decide) rfl (by unfold PT; decide) ml_X3_100 dX3_takeAll_123 sh_4 sh_13 (by decide) (by decide) (Nat.le_of_ble_eq_true rfl) (fun M hT => ?_)
  refine r_aload_n dX3_takeAll_126 rfl rfl ?_
  refine r_getR fl_X3_31 dX3_takeAll_127 sh_1 rfl ?_
  refine r_iconst (v := nI 0) dX3_takeAll_130 rfl ?_
  refine r_aload_n dX3_takeAll_131 rfl rfl ?_
  refine r_getR fl_X3_31 dX3_takeAll_132 sh_10 rfl ?_
  refine r_iconst (v := nI 0) dX3_takeAll_135 rfl ?_
  refine r_aload_n dX3_takeAll_136 rfl rfl ?_
  refine r_getR fl_X3_31 dX3_takeAll_137 sh_10 rfl ?_
  refine r_alen (v := nI 10) dX3_takeAll_140 sh_14 rfl ?_
  refine r_tcpy hT rfl rfl (by decide) rfl (by unfold PT; decide) ml_X3_100 dX3_takeAll_141 sh_5 sh_14 (by decide) (by decide) (Nat.le_of_ble_eq_true rfl) (fun M hT => ?_)
  refine r_aload_n dX3_takeAll_144 rfl rfl ?_
  refine r_getR fl_X3_34 dX3_takeAll_145 sh_1 rfl ?_
  refine r_iconst (v := nI 0) dX3_takeAll_148 rfl ?_
  refine r_aload_n dX3_takeAll_149 rfl rfl ?_
  refine r_getR fl_X3_34 dX3_takeAll_150 sh_10 rfl ?_
  refine r_iconst (v := nI 0) dX3_takeAll_153 rfl ?_
  refine r_aload_n dX3_takeAll_154 rfl rfl ?_
  refine r_getR fl_X3_34 dX3_takeAll_155 sh_10 rfl ?_
  refine r_alen (v := nI 10) dX3_takeAll_158 sh_15 rfl ?_
  refine r_tcpy hT rfl rfl (by decide) rfl (by unfold PT; decide) ml_X3_100 dX3_takeAll_159 sh_6 sh_15 (by decide) (by decide) (Nat.le_of_ble_eq_true rfl) (fun M hT => ?_)
  refine r_aload_n dX3_takeAll_162 rfl rfl ?_
  refine r_getR fl_X3_37 dX3_takeAll_163 sh_1 rfl ?_
  refine r_iconst (v := nI 0) dX3_takeAll_166 rfl ?_
  refine r_aload_n dX3_takeAll_167 rfl rfl ?_
  refine r_getR fl_X3_37 dX3_takeAll_168 sh_10 rfl ?_
  refine r_iconst (v := nI 0) dX3_takeAll_171 rfl ?_
  refine r_aload_n dX3_takeAll_172 rfl rfl ?_
  refine r_getR fl_X3_37 dX3_takeAll_173 sh_10 rfl ?_
  refine r_alen (v := nI 10) dX3_takeAll_176 sh_16 rfl ?_
  refine r_tcpy hT rfl rfl (by decide) rfl (by unfold PT; decide) ml_X3_100 dX3_takeAll_177 sh_7 sh_16 (by decide) (by decide) (Nat.le_of_ble_eq_true rfl) (fun M hT => ?_)
  refine r_aload_n dX3_takeAll_180 rfl rfl ?_
  refine r_getR fl_X3_40 dX3_takeAll_181 sh_1 rfl ?_
  refine r_iconst (v := nI 0) dX3_takeAll_184 rfl ?_
  refine r_aload_n dX3_takeAll_185 rfl rfl ?_
  refine r_getR fl_X3_40 dX3_takeAll_186 sh_10 rfl ?_
  refine r_iconst (v := nI 0) dX3_takeAll_189 rfl ?_
  refine r_aload_n dX3_takeAll_190 rfl rfl ?_
  refine r_getR fl_X3_40 dX3_takeAll_191 sh_10 rfl ?_
  refine r_alen (v := nI 10) dX3_takeAll_194 sh_17 rfl ?_
  refine r_tcpy hT rfl rfl (by decide) rfl (by unfold PT; decide) ml_X3_100 dX3_takeAll_195 sh_8 sh_17 (by decide) (by decide) (Nat.le_of_ble_eq_true rfl) (fun M hT => ?_)
  refine r_aload_n dX3_takeAll_198 rfl rfl ?_
  refine r_getR fl_X3_43 dX3_takeAll_199 sh_1 rfl ?_
  refine r_iconst (v := nI 0) dX3_takeAll_202 rfl ?_
  refine r_aload_n dX3_takeAll_203 rfl rfl ?_
  refine r_getR fl_X3_43 dX3_takeAll_204 sh_10 rfl ?_
  refine r_iconst (v := nI 0) dX3_takeAll_207 rfl ?_
  refine r_aload_n dX3_takeAll_208 rfl rfl ?_
  refine r_getR fl_X3_43 dX3_takeAll_209 sh_10 rfl ?_
  refine r_alen (v := nI 32) dX3_takeAll_212 sh_18 rfl ?_
  refine r_tcpy hT rfl rfl (by decide) rfl (by unfold PT; decide) ml_X3_100 dX3_takeAll_213 sh_9 sh_18 (by decide) (by decide) (Nat.le_of_ble_eq_true rfl) (fun M hT => ?_)
  refine r_vret dX3_takeAll_216 rfl (by decide) (by decide) ?_
  exact ⟨rfl, rfl, TA_8 hT, hT.2.2⟩

set_option maxHeartbeats 4000000 in
set_option maxRecDepth 100000 in
theorem c3_takeAll_10_1 (l : Launch) {rw : List zC} {M0 : zM} : CT l false 1 0 0 yX3_takeAll cX3_takeAll 2 none [.ref 1, .ref 10] (zSh ++ rw) M0 (zG (zSh ++ rw) (fun v M9 => v = none ∧ CP 10 1 M0 M9 ∧ zfr (PT 1) M0 M9)) := by
  refine CT.ofN (by decide) (fun _ _ => Nat.le_of_ble_eq_true rfl) ?_
  have hT : TS 10 1 0 M0 M0 := ⟨fun j hj => absurd hj (by omega), zfr.rf⟩
  refine r_aload_n dX3_takeAll_0 rfl rfl ?_
  refine r_aload_n dX3_takeAll_1 rfl rfl ?_
  refine r_getV fl_X3_46 dX3_takeAll_2 sh_10 rfl rfl ?_
  refine r_tput hT fl_X3_46 dX3_takeAll_5 sh_1 rfl (by unfold PT; decide) (fun M hT => ?_)
  refine r_aload_n dX3_takeAll_8 rfl rfl ?_
  refine r_aload_n dX3_takeAll_9 rfl rfl ?_
  refine r_getV fl_X3_53 dX3_takeAll_10 sh_10 rfl rfl ?_
  refine r_tput hT fl_X3_53 dX3_takeAll_13 sh_1 rfl (by unfold PT; decide) (fun M hT => ?_)
  refine r_aload_n dX3_takeAll_16 rfl rfl ?_
  refine r_aload_n dX3_takeAll_17 rfl rfl ?_
  refine r_getV fl_X3_56 dX3_takeAll_18 sh_10 rfl rfl ?_
  refine r_tput hT fl_X3_56 dX3_takeAll_21 sh_1 rfl (by unfold PT; decide) (fun M hT => ?_)
  refine r_aload_n dX3_takeAll_24 rfl rfl ?_
  refine r_aload_n dX3_takeAll_25 rfl rfl ?_
  refine r_getV fl_X3_65 dX3_takeAll_26 sh_10 rfl rfl ?_
  refine r_tput hT fl_X3_65 dX3_takeAll_29 sh_1 rfl (by unfold PT; decide) (fun M hT => ?_)
  refine r_aload_n dX3_takeAll_32 rfl rfl ?_
  refine r_aload_n dX3_takeAll_33 rfl rfl ?_
  refine r_getV fl_X3_62 dX3_takeAll_34 sh_10 rfl rfl ?_
  refine r_tput hT fl_X3_62 dX3_takeAll_37 sh_1 rfl (by unfold PT; decide) (fun M hT => ?_)
  refine r_aload_n dX3_takeAll_40 rfl rfl ?_
  refine r_aload_n dX3_takeAll_41 rfl rfl ?_
  refine r_getV fl_X3_59 dX3_takeAll_42 sh_10 rfl rfl ?_
  refine r_tput hT fl_X3_59 dX3_takeAll_45 sh_1 rfl (by unfold PT; decide) (fun M hT => ?_)
  refine r_aload_n dX3_takeAll_48 rfl rfl ?_
  refine r_aload_n dX3_takeAll_49 rfl rfl ?_
  refine r_getV fl_X3_9 dX3_takeAll_50 sh_10 rfl rfl ?_
  refine r_tput hT fl_X3_9 dX3_takeAll_53 sh_1 rfl (by unfold PT; decide) (fun M hT => ?_)
  refine r_aload_n dX3_takeAll_56 rfl rfl ?_
  refine r_aload_n dX3_takeAll_57 rfl rfl ?_
  refine r_getV fl_X3_15 dX3_takeAll_58 sh_10 rfl rfl ?_
  refine r_tput hT fl_X3_15 dX3_takeAll_61 sh_1 rfl (by unfold PT; decide) (fun M hT => ?_)
  refine r_aload_n dX3_takeAll_64 rfl rfl ?_
  refine r_aload_n dX3_takeAll_65 rfl rfl ?_
  refine r_getV fl_X3_18 dX3_takeAll_66 sh_10 rfl rfl ?_
  refine r_tput hT fl_X3_18 dX3_takeAll_69 sh_1 rfl (by unfold PT; decide) (fun M hT => ?_)
  have hT := TA_0 hT
  refine r_aload_n dX3_takeAll_72 rfl rfl ?_
  refine r_getR fl_X3_21 dX3_takeAll_73 sh_10 rfl ?_
  refine r_iconst (v := nI 0) dX3_takeAll_76 rfl ?_
  refine r_aload_n dX3_takeAll_77 rfl rfl ?_
  refine r_getR fl_X3_21 dX3_takeAll_78 sh_1 rfl ?_
  refine r_iconst (v := nI 0) dX3_takeAll_81 rfl ?_
  refine r_aload_n dX3_takeAll_82 rfl rfl ?_
  refine r_getR fl_X3_21 dX3_takeAll_83 sh_1 rfl ?_
  refine r_alen (v := nI 5) dX3_takeAll_86 sh_2 rfl ?_
  refine r_tcpy hT rfl rfl (by decide) rfl (by unfold PT; decide) ml_X3_100 dX3_takeAll_87 sh_11 sh_2 (by decide) (by decide) (Nat.le_of_ble_eq_true rfl) (fun M hT => ?_)
  refine r_aload_n dX3_takeAll_90 rfl rfl ?_
  refine r_getR fl_X3_25 dX3_takeAll_91 sh_10 rfl ?_
  refine r_iconst (v := nI 0) dX3_takeAll_94 rfl ?_
  refine r_aload_n dX3_takeAll_95 rfl rfl ?_
  refine r_getR fl_X3_25 dX3_takeAll_96 sh_1 rfl ?_
  refine r_iconst (v := nI 0) dX3_takeAll_99 rfl ?_
  refine r_aload_n dX3_takeAll_100 rfl rfl ?_
  refine r_getR fl_X3_25 dX3_takeAll_101 sh_1 rfl ?_
  refine r_alen (v := nI 20) dX3_takeAll_104 sh_3 rfl ?_
  refine r_tcpy hT rfl rfl (by decide) rfl (by unfold PT; decide) ml_X3_100 dX3_takeAll_105 sh_12 sh_3 (by decide) (by decide) (Nat.le_of_ble_eq_true rfl) (fun M hT => ?_)
  refine r_aload_n dX3_takeAll_108 rfl rfl ?_
  refine r_getR fl_X3_28 dX3_takeAll_109 sh_10 rfl ?_
  refine r_iconst (v := nI 0) dX3_takeAll_112 rfl ?_
  refine r_aload_n dX3_takeAll_113 rfl rfl ?_
  refine r_getR fl_X3_28 dX3_takeAll_114 sh_1 rfl ?_
  refine r_iconst (v := nI 0) dX3_takeAll_117 rfl ?_
  refine r_aload_n dX3_takeAll_118 rfl rfl ?_
  refine r_getR fl_X3_28 dX3_takeAll_119 sh_1 rfl ?_
  refine r_alen (v := nI 16) dX3_takeAll_122 sh_4 rfl ?_
  refine r_tcpy hT rfl rfl (by decide) rfl (by unfold PT; decide) ml_X3_100 dX3_takeAll_123 sh_13 sh_4 (by decide) (by decide) (Nat.le_of_ble_eq_true rfl) (fun M hT => ?_)
  refine r_aload_n dX3_takeAll_126 rfl rfl ?_
  refine r_getR fl_X3_31 dX3_takeAll_127 sh_10 rfl ?_
  refine r_iconst (v := nI 0) dX3_takeAll_130 rfl ?_
  refine r_aload_n dX3_takeAll_131 rfl rfl ?_
  refine r_getR fl_X3_31 dX3_takeAll_132 sh_1 rfl ?_
  refine r_iconst (v := nI 0) dX3_takeAll_135 rfl ?_
  refine r_aload_n dX3_takeAll_136 rfl rfl ?_
  refine r_getR fl_X3_31 dX3_takeAll_137 sh_1 rfl ?_
  refine r_alen (v := nI 10) dX3_takeAll_140 sh_5 rfl ?_
  refine r_tcpy hT rfl rfl (by decide) rfl (by unfold PT; decide) ml_X3_100 dX3_takeAll_141 sh_14 sh_5 (by decide) (by decide) (Nat.le_of_ble_eq_true rfl) (fun M hT => ?_)
  refine r_aload_n dX3_takeAll_144 rfl rfl ?_
  refine r_getR fl_X3_34 dX3_takeAll_145 sh_10 rfl ?_
  refine r_iconst (v := nI 0) dX3_takeAll_148 rfl ?_
  refine r_aload_n dX3_takeAll_149 rfl rfl ?_
  refine r_getR fl_X3_34 dX3_takeAll_150 sh_1 rfl ?_
  refine r_iconst (v := nI 0) dX3_takeAll_153 rfl ?_
  refine r_aload_n dX3_takeAll_154 rfl rfl ?_
  refine r_getR fl_X3_34 dX3_takeAll_155 sh_1 rfl ?_
  refine r_alen (v := nI 10) dX3_takeAll_158 sh_6 rfl ?_
  refine r_tcpy hT rfl rfl (by decide) rfl (by unfold PT; decide) ml_X3_100 dX3_takeAll_159 sh_15 sh_6 (by decide) (by decide) (Nat.le_of_ble_eq_true rfl) (fun M hT => ?_)
  refine r_aload_n dX3_takeAll_162 rfl rfl ?_
  refine r_getR fl_X3_37 dX3_takeAll_163 sh_10 rfl ?_
  refine r_iconst (v := nI 0) dX3_takeAll_166 rfl ?_
  refine r_aload_n dX3_takeAll_167 rfl rfl ?_
  refine r_getR fl_X3_37 dX3_takeAll_168 sh_1 rfl ?_
  refine r_iconst (v := nI 0) dX3_takeAll_171 rfl ?_
  refine r_aload_n dX3_takeAll_172 rfl rfl ?_
  refine r_getR fl_X3_37 dX3_takeAll_173 sh_1 rfl ?_
  refine r_alen (v := nI 10) dX3_takeAll_176 sh_7 rfl ?_
  refine r_tcpy hT rfl rfl (by decide) rfl (by unfold PT; decide) ml_X3_100 dX3_takeAll_177 sh_16 sh_7 (by decide) (by decide) (Nat.le_of_ble_eq_true rfl) (fun M hT => ?_)
  refine r_aload_n dX3_takeAll_180 rfl rfl ?_
  refine r_getR fl_X3_40 dX3_takeAll_181 sh_10 rfl ?_
  refine r_iconst (v := nI 0) dX3_takeAll_184 rfl ?_
  refine r_aload_n dX3_takeAll_185 rfl rfl ?_
  refine r_getR fl_X3_40 dX3_takeAll_186 sh_1 rfl ?_
  refine r_iconst (v := nI 0) dX3_takeAll_189 rfl ?_
  refine r_aload_n dX3_takeAll_190 rfl rfl ?_
  refine r_getR fl_X3_40 dX3_takeAll_191 sh_1 rfl ?_
  refine r_alen (v := nI 10) dX3_takeAll_194 sh_8 rfl ?_
  refine r_tcpy hT rfl rfl (by decide) rfl (by unfold PT; decide) ml_X3_100 dX3_takeAll_195 sh_17 sh_8 (by decide) (by decide) (Nat.le_of_ble_eq_true rfl) (fun M hT => ?_)
  refine r_aload_n dX3_takeAll_198 rfl rfl ?_
  refine r_getR fl_X3_43 dX3_takeAll_199 sh_10 rfl ?_
  refine r_iconst (v := nI 0) dX3_takeAll_202 rfl ?_
  refine r_aload_n dX3_takeAll_203 rfl rfl ?_
  refine r_getR fl_X3_43 dX3_takeAll_204 sh_1 rfl ?_
  refine r_iconst (v := nI 0) dX3_takeAll_207 rfl ?_
  refine r_aload_n dX3_takeAll_208 rfl rfl ?_
  refine r_getR fl_X3_43 dX3_takeAll_209 sh_1 rfl ?_
  refine r_alen (v := nI 32) dX3_takeAll_212 sh_9 rfl ?_
  refine r_tcpy hT rfl rfl (by decide) rfl (by unfold PT; decide) ml_X3_100 dX3_takeAll_213 sh_18 sh_9 (by decide) (by decide) (Nat.le_of_ble_eq_true rfl) (fun M hT => ?_)
  refine r_vret dX3_takeAll_216 rfl (by decide) (by decide) ?_
  exact ⟨rfl, rfl, TA_8 hT, hT.2.2⟩

