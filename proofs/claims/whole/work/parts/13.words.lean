theorem inzX0 : ∀ w ∈ u_ws RX0 TX0 11, w ∈ zT := zT_all [214, 216, 218, 220, 222, 224, 226, 228, 230, 232, 234] (by decide +kernel) (by decide +kernel)
theorem inzX1 : ∀ w ∈ u_ws RX1 TX1 10, w ∈ zT := zT_all [174, 176, 178, 180, 182, 184, 186, 188, 190, 192] (by decide +kernel) (by decide +kernel)
theorem inzX2 : ∀ w ∈ u_ws RX2 TX2 2, w ∈ zT := zT_all [771, 773] (by decide +kernel) (by decide +kernel)
theorem inzX3 : ∀ w ∈ u_ws RX3 TX3 17, w ∈ zT := zT_all [115, 117, 119, 121, 123, 125, 127, 129, 131, 133, 135, 137, 139, 141, 143, 145, 147] (by decide +kernel) (by decide +kernel)
theorem inzX4 : ∀ w ∈ u_ws RX4 TX4 6, w ∈ zT := zT_all [246, 248, 250, 252, 254, 256] (by decide +kernel) (by decide +kernel)
theorem inzX5 : ∀ w ∈ u_ws RX5 TX5 16, w ∈ zT := zT_all [812, 814, 816, 818, 820, 822, 824, 826, 828, 830, 832, 834, 836, 838, 840, 842] (by decide +kernel) (by decide +kernel)
theorem fl_X3_46 : zFL RX3 46 3 0 false .int := ⟨RX3, TX3, 17, tyX3, rfl, inzX3, tyX3_ok, nmX3, by decide, zT_in (i := 75) (by decide +kernel) rfl, rfl, rfl⟩
theorem fl_X4_45 : zFL RX4 45 3 0 false .int := ⟨RX3, TX3, 17, tyX3, rfl, inzX3, tyX3_ok, nmX3, by decide, zT_in (i := 76) (by decide +kernel) rfl, rfl, rfl⟩
theorem fl_X0_118 : zFL RX0 118 3 0 false .int := ⟨RX3, TX3, 17, tyX3, rfl, inzX3, tyX3_ok, nmX3, by decide, zT_in (i := 77) (by decide +kernel) rfl, rfl, rfl⟩
theorem fl_X3_53 : zFL RX3 53 3 1 false .int := ⟨RX3, TX3, 17, tyX3, rfl, inzX3, tyX3_ok, nmX3, by decide, zT_in (i := 78) (by decide +kernel) rfl, rfl, rfl⟩
theorem fl_X4_64 : zFL RX4 64 3 1 false .int := ⟨RX3, TX3, 17, tyX3, rfl, inzX3, tyX3_ok, nmX3, by decide, zT_in (i := 79) (by decide +kernel) rfl, rfl, rfl⟩
theorem fl_X0_121 : zFL RX0 121 3 1 false .int := ⟨RX3, TX3, 17, tyX3, rfl, inzX3, tyX3_ok, nmX3, by decide, zT_in (i := 80) (by decide +kernel) rfl, rfl, rfl⟩
theorem fl_X3_56 : zFL RX3 56 3 2 false .int := ⟨RX3, TX3, 17, tyX3, rfl, inzX3, tyX3_ok, nmX3, by decide, zT_in (i := 81) (by decide +kernel) rfl, rfl, rfl⟩
theorem fl_X0_72 : zFL RX0 72 3 2 false .int := ⟨RX3, TX3, 17, tyX3, rfl, inzX3, tyX3_ok, nmX3, by decide, zT_in (i := 82) (by decide +kernel) rfl, rfl, rfl⟩
theorem fl_X4_137 : zFL RX4 137 3 2 false .int := ⟨RX3, TX3, 17, tyX3, rfl, inzX3, tyX3_ok, nmX3, by decide, zT_in (i := 83) (by decide +kernel) rfl, rfl, rfl⟩
theorem fl_X3_65 : zFL RX3 65 3 3 false .int := ⟨RX3, TX3, 17, tyX3, rfl, inzX3, tyX3_ok, nmX3, by decide, zT_in (i := 84) (by decide +kernel) rfl, rfl, rfl⟩
theorem fl_X4_143 : zFL RX4 143 3 3 false .int := ⟨RX3, TX3, 17, tyX3, rfl, inzX3, tyX3_ok, nmX3, by decide, zT_in (i := 85) (by decide +kernel) rfl, rfl, rfl⟩
theorem fl_X3_62 : zFL RX3 62 3 4 false .int := ⟨RX3, TX3, 17, tyX3, rfl, inzX3, tyX3_ok, nmX3, by decide, zT_in (i := 86) (by decide +kernel) rfl, rfl, rfl⟩
theorem fl_X4_140 : zFL RX4 140 3 4 false .int := ⟨RX3, TX3, 17, tyX3, rfl, inzX3, tyX3_ok, nmX3, by decide, zT_in (i := 87) (by decide +kernel) rfl, rfl, rfl⟩
theorem fl_X3_59 : zFL RX3 59 3 5 false .int := ⟨RX3, TX3, 17, tyX3, rfl, inzX3, tyX3_ok, nmX3, by decide, zT_in (i := 88) (by decide +kernel) rfl, rfl, rfl⟩
theorem fl_X4_149 : zFL RX4 149 3 5 false .int := ⟨RX3, TX3, 17, tyX3, rfl, inzX3, tyX3_ok, nmX3, by decide, zT_in (i := 89) (by decide +kernel) rfl, rfl, rfl⟩
theorem fl_X3_9 : zFL RX3 9 3 6 false .int := ⟨RX3, TX3, 17, tyX3, rfl, inzX3, tyX3_ok, nmX3, by decide, zT_in (i := 90) (by decide +kernel) rfl, rfl, rfl⟩
theorem fl_X4_117 : zFL RX4 117 3 6 false .int := ⟨RX3, TX3, 17, tyX3, rfl, inzX3, tyX3_ok, nmX3, by decide, zT_in (i := 91) (by decide +kernel) rfl, rfl, rfl⟩
theorem fl_X3_15 : zFL RX3 15 3 7 false .int := ⟨RX3, TX3, 17, tyX3, rfl, inzX3, tyX3_ok, nmX3, by decide, zT_in (i := 92) (by decide +kernel) rfl, rfl, rfl⟩
theorem fl_X0_108 : zFL RX0 108 3 7 false .int := ⟨RX3, TX3, 17, tyX3, rfl, inzX3, tyX3_ok, nmX3, by decide, zT_in (i := 93) (by decide +kernel) rfl, rfl, rfl⟩
theorem fl_X4_120 : zFL RX4 120 3 7 false .int := ⟨RX3, TX3, 17, tyX3, rfl, inzX3, tyX3_ok, nmX3, by decide, zT_in (i := 94) (by decide +kernel) rfl, rfl, rfl⟩
theorem fl_X3_18 : zFL RX3 18 3 8 false .int := ⟨RX3, TX3, 17, tyX3, rfl, inzX3, tyX3_ok, nmX3, by decide, zT_in (i := 95) (by decide +kernel) rfl, rfl, rfl⟩
theorem fl_X4_167 : zFL RX4 167 3 8 false .int := ⟨RX3, TX3, 17, tyX3, rfl, inzX3, tyX3_ok, nmX3, by decide, zT_in (i := 96) (by decide +kernel) rfl, rfl, rfl⟩
theorem fl_X3_21 : zFL RX3 21 3 9 true (.array .int) := ⟨RX3, TX3, 17, tyX3, rfl, inzX3, tyX3_ok, nmX3, by decide, zT_in (i := 97) (by decide +kernel) rfl, rfl, rfl⟩
theorem fl_X0_87 : zFL RX0 87 3 9 true (.array .int) := ⟨RX3, TX3, 17, tyX3, rfl, inzX3, tyX3_ok, nmX3, by decide, zT_in (i := 98) (by decide +kernel) rfl, rfl, rfl⟩
theorem fl_X4_81 : zFL RX4 81 3 9 true (.array .int) := ⟨RX3, TX3, 17, tyX3, rfl, inzX3, tyX3_ok, nmX3, by decide, zT_in (i := 99) (by decide +kernel) rfl, rfl, rfl⟩
theorem fl_X3_25 : zFL RX3 25 3 10 true (.array .int) := ⟨RX3, TX3, 17, tyX3, rfl, inzX3, tyX3_ok, nmX3, by decide, zT_in (i := 100) (by decide +kernel) rfl, rfl, rfl⟩
theorem fl_X4_60 : zFL RX4 60 3 10 true (.array .int) := ⟨RX3, TX3, 17, tyX3, rfl, inzX3, tyX3_ok, nmX3, by decide, zT_in (i := 101) (by decide +kernel) rfl, rfl, rfl⟩
theorem fl_X3_28 : zFL RX3 28 3 11 true (.array .int) := ⟨RX3, TX3, 17, tyX3, rfl, inzX3, tyX3_ok, nmX3, by decide, zT_in (i := 102) (by decide +kernel) rfl, rfl, rfl⟩
theorem fl_X4_74 : zFL RX4 74 3 11 true (.array .int) := ⟨RX3, TX3, 17, tyX3, rfl, inzX3, tyX3_ok, nmX3, by decide, zT_in (i := 103) (by decide +kernel) rfl, rfl, rfl⟩
theorem fl_X3_31 : zFL RX3 31 3 12 true (.array .int) := ⟨RX3, TX3, 17, tyX3, rfl, inzX3, tyX3_ok, nmX3, by decide, zT_in (i := 104) (by decide +kernel) rfl, rfl, rfl⟩
theorem fl_X0_76 : zFL RX0 76 3 12 true (.array .int) := ⟨RX3, TX3, 17, tyX3, rfl, inzX3, tyX3_ok, nmX3, by decide, zT_in (i := 105) (by decide +kernel) rfl, rfl, rfl⟩
theorem fl_X4_90 : zFL RX4 90 3 12 true (.array .int) := ⟨RX3, TX3, 17, tyX3, rfl, inzX3, tyX3_ok, nmX3, by decide, zT_in (i := 106) (by decide +kernel) rfl, rfl, rfl⟩
theorem fl_X3_34 : zFL RX3 34 3 13 true (.array .int) := ⟨RX3, TX3, 17, tyX3, rfl, inzX3, tyX3_ok, nmX3, by decide, zT_in (i := 107) (by decide +kernel) rfl, rfl, rfl⟩
theorem fl_X0_90 : zFL RX0 90 3 13 true (.array .int) := ⟨RX3, TX3, 17, tyX3, rfl, inzX3, tyX3_ok, nmX3, by decide, zT_in (i := 108) (by decide +kernel) rfl, rfl, rfl⟩
theorem fl_X4_93 : zFL RX4 93 3 13 true (.array .int) := ⟨RX3, TX3, 17, tyX3, rfl, inzX3, tyX3_ok, nmX3, by decide, zT_in (i := 109) (by decide +kernel) rfl, rfl, rfl⟩
theorem fl_X3_37 : zFL RX3 37 3 14 true (.array .int) := ⟨RX3, TX3, 17, tyX3, rfl, inzX3, tyX3_ok, nmX3, by decide, zT_in (i := 110) (by decide +kernel) rfl, rfl, rfl⟩
theorem fl_X4_96 : zFL RX4 96 3 14 true (.array .int) := ⟨RX3, TX3, 17, tyX3, rfl, inzX3, tyX3_ok, nmX3, by decide, zT_in (i := 111) (by decide +kernel) rfl, rfl, rfl⟩
theorem fl_X3_40 : zFL RX3 40 3 15 true (.array .int) := ⟨RX3, TX3, 17, tyX3, rfl, inzX3, tyX3_ok, nmX3, by decide, zT_in (i := 112) (by decide +kernel) rfl, rfl, rfl⟩
theorem fl_X4_99 : zFL RX4 99 3 15 true (.array .int) := ⟨RX3, TX3, 17, tyX3, rfl, inzX3, tyX3_ok, nmX3, by decide, zT_in (i := 113) (by decide +kernel) rfl, rfl, rfl⟩
theorem fl_X3_43 : zFL RX3 43 3 16 true (.array .int) := ⟨RX3, TX3, 17, tyX3, rfl, inzX3, tyX3_ok, nmX3, by decide, zT_in (i := 114) (by decide +kernel) rfl, rfl, rfl⟩
theorem fl_X1_9 : zFL RX1 9 1 0 true (.array .int) := ⟨RX1, TX1, 10, tyX1, rfl, inzX1, tyX1_ok, nmX1, by decide, zT_in (i := 157) (by decide +kernel) rfl, rfl, rfl⟩
theorem fl_X1_24 : zFL RX1 24 1 1 false .int := ⟨RX1, TX1, 10, tyX1, rfl, inzX1, tyX1_ok, nmX1, by decide, zT_in (i := 158) (by decide +kernel) rfl, rfl, rfl⟩
theorem fl_X4_123 : zFL RX4 123 1 1 false .int := ⟨RX1, TX1, 10, tyX1, rfl, inzX1, tyX1_ok, nmX1, by decide, zT_in (i := 159) (by decide +kernel) rfl, rfl, rfl⟩
theorem fl_X1_28 : zFL RX1 28 1 2 false .int := ⟨RX1, TX1, 10, tyX1, rfl, inzX1, tyX1_ok, nmX1, by decide, zT_in (i := 160) (by decide +kernel) rfl, rfl, rfl⟩
theorem fl_X1_31 : zFL RX1 31 1 3 false .int := ⟨RX1, TX1, 10, tyX1, rfl, inzX1, tyX1_ok, nmX1, by decide, zT_in (i := 161) (by decide +kernel) rfl, rfl, rfl⟩
theorem fl_X1_41 : zFL RX1 41 1 4 false .int := ⟨RX1, TX1, 10, tyX1, rfl, inzX1, tyX1_ok, nmX1, by decide, zT_in (i := 162) (by decide +kernel) rfl, rfl, rfl⟩
theorem fl_X3_115 : zFL RX3 115 1 4 false .int := ⟨RX1, TX1, 10, tyX1, rfl, inzX1, tyX1_ok, nmX1, by decide, zT_in (i := 163) (by decide +kernel) rfl, rfl, rfl⟩
theorem fl_X1_69 : zFL RX1 69 1 5 false .int := ⟨RX1, TX1, 10, tyX1, rfl, inzX1, tyX1_ok, nmX1, by decide, zT_in (i := 164) (by decide +kernel) rfl, rfl, rfl⟩
theorem fl_X3_118 : zFL RX3 118 1 5 false .int := ⟨RX1, TX1, 10, tyX1, rfl, inzX1, tyX1_ok, nmX1, by decide, zT_in (i := 165) (by decide +kernel) rfl, rfl, rfl⟩
theorem fl_X1_34 : zFL RX1 34 1 6 false .int := ⟨RX1, TX1, 10, tyX1, rfl, inzX1, tyX1_ok, nmX1, by decide, zT_in (i := 166) (by decide +kernel) rfl, rfl, rfl⟩
theorem fl_X3_119 : zFL RX3 119 1 6 false .int := ⟨RX1, TX1, 10, tyX1, rfl, inzX1, tyX1_ok, nmX1, by decide, zT_in (i := 167) (by decide +kernel) rfl, rfl, rfl⟩
theorem fl_X1_15 : zFL RX1 15 1 7 true (.array .int) := ⟨RX1, TX1, 10, tyX1, rfl, inzX1, tyX1_ok, nmX1, by decide, zT_in (i := 168) (by decide +kernel) rfl, rfl, rfl⟩
theorem fl_X3_120 : zFL RX3 120 1 7 true (.array .int) := ⟨RX1, TX1, 10, tyX1, rfl, inzX1, tyX1_ok, nmX1, by decide, zT_in (i := 169) (by decide +kernel) rfl, rfl, rfl⟩
theorem fl_X1_18 : zFL RX1 18 1 8 true (.array .int) := ⟨RX1, TX1, 10, tyX1, rfl, inzX1, tyX1_ok, nmX1, by decide, zT_in (i := 170) (by decide +kernel) rfl, rfl, rfl⟩
theorem fl_X3_121 : zFL RX3 121 1 8 true (.array .int) := ⟨RX1, TX1, 10, tyX1, rfl, inzX1, tyX1_ok, nmX1, by decide, zT_in (i := 171) (by decide +kernel) rfl, rfl, rfl⟩
theorem fl_X1_21 : zFL RX1 21 1 9 true (.array .int) := ⟨RX1, TX1, 10, tyX1, rfl, inzX1, tyX1_ok, nmX1, by decide, zT_in (i := 172) (by decide +kernel) rfl, rfl, rfl⟩
theorem fl_X3_122 : zFL RX3 122 1 9 true (.array .int) := ⟨RX1, TX1, 10, tyX1, rfl, inzX1, tyX1_ok, nmX1, by decide, zT_in (i := 173) (by decide +kernel) rfl, rfl, rfl⟩
theorem fl_X0_37 : zFL RX0 37 0 0 true (.object "TailorTape$Shop") := ⟨RX0, TX0, 11, tyX0, rfl, inzX0, tyX0_ok, nmX0, by decide, zT_in (i := 201) (by decide +kernel) rfl, rfl, rfl⟩
theorem fl_X0_9 : zFL RX0 9 0 1 true (.array .int) := ⟨RX0, TX0, 11, tyX0, rfl, inzX0, tyX0_ok, nmX0, by decide, zT_in (i := 202) (by decide +kernel) rfl, rfl, rfl⟩
theorem fl_X0_15 : zFL RX0 15 0 2 true (.array .int) := ⟨RX0, TX0, 11, tyX0, rfl, inzX0, tyX0_ok, nmX0, by decide, zT_in (i := 203) (by decide +kernel) rfl, rfl, rfl⟩
theorem fl_X0_18 : zFL RX0 18 0 3 true (.array .int) := ⟨RX0, TX0, 11, tyX0, rfl, inzX0, tyX0_ok, nmX0, by decide, zT_in (i := 204) (by decide +kernel) rfl, rfl, rfl⟩
theorem fl_X0_21 : zFL RX0 21 0 4 true (.array .int) := ⟨RX0, TX0, 11, tyX0, rfl, inzX0, tyX0_ok, nmX0, by decide, zT_in (i := 205) (by decide +kernel) rfl, rfl, rfl⟩
theorem fl_X0_24 : zFL RX0 24 0 5 true (.array .int) := ⟨RX0, TX0, 11, tyX0, rfl, inzX0, tyX0_ok, nmX0, by decide, zT_in (i := 206) (by decide +kernel) rfl, rfl, rfl⟩
theorem fl_X0_27 : zFL RX0 27 0 6 true (.array .int) := ⟨RX0, TX0, 11, tyX0, rfl, inzX0, tyX0_ok, nmX0, by decide, zT_in (i := 207) (by decide +kernel) rfl, rfl, rfl⟩
theorem fl_X0_30 : zFL RX0 30 0 7 true (.array .int) := ⟨RX0, TX0, 11, tyX0, rfl, inzX0, tyX0_ok, nmX0, by decide, zT_in (i := 208) (by decide +kernel) rfl, rfl, rfl⟩
theorem fl_X0_33 : zFL RX0 33 0 8 true (.array .long) := ⟨RX0, TX0, 11, tyX0, rfl, inzX0, tyX0_ok, nmX0, by decide, zT_in (i := 209) (by decide +kernel) rfl, rfl, rfl⟩
theorem fl_X0_150 : zFL RX0 150 0 9 false .int := ⟨RX0, TX0, 11, tyX0, rfl, inzX0, tyX0_ok, nmX0, by decide, zT_in (i := 210) (by decide +kernel) rfl, rfl, rfl⟩
theorem fl_X4_226 : zFL RX4 226 0 9 false .int := ⟨RX0, TX0, 11, tyX0, rfl, inzX0, tyX0_ok, nmX0, by decide, zT_in (i := 211) (by decide +kernel) rfl, rfl, rfl⟩
theorem fl_X0_153 : zFL RX0 153 0 10 false .int := ⟨RX0, TX0, 11, tyX0, rfl, inzX0, tyX0_ok, nmX0, by decide, zT_in (i := 212) (by decide +kernel) rfl, rfl, rfl⟩
theorem fl_X4_229 : zFL RX4 229 0 10 false .int := ⟨RX0, TX0, 11, tyX0, rfl, inzX0, tyX0_ok, nmX0, by decide, zT_in (i := 213) (by decide +kernel) rfl, rfl, rfl⟩
theorem fl_X4_10 : zFL RX4 10 4 0 true (.object "TailorTape$Shop") := ⟨RX4, TX4, 6, tyX4, rfl, inzX4, tyX4_ok, nmX4, by decide, zT_in (i := 240) (by decide +kernel) rfl, rfl, rfl⟩
theorem fl_X4_16 : zFL RX4 16 4 1 true (.object "TailorTape$Shop") := ⟨RX4, TX4, 6, tyX4, rfl, inzX4, tyX4_ok, nmX4, by decide, zT_in (i := 241) (by decide +kernel) rfl, rfl, rfl⟩
theorem fl_X4_209 : zFL RX4 209 4 2 false .boolean := ⟨RX4, TX4, 6, tyX4, rfl, inzX4, tyX4_ok, nmX4, by decide, zT_in (i := 242) (by decide +kernel) rfl, rfl, rfl⟩
theorem fl_X4_22 : zFL RX4 22 4 3 true (.object "TailorTape$Reader") := ⟨RX4, TX4, 6, tyX4, rfl, inzX4, tyX4_ok, nmX4, by decide, zT_in (i := 243) (by decide +kernel) rfl, rfl, rfl⟩
theorem fl_X4_31 : zFL RX4 31 4 4 true (.object "TailorTape$Foresight") := ⟨RX4, TX4, 6, tyX4, rfl, inzX4, tyX4_ok, nmX4, by decide, zT_in (i := 244) (by decide +kernel) rfl, rfl, rfl⟩
theorem fl_X4_37 : zFL RX4 37 4 5 true (.array (.object "TailorTape$Row")) := ⟨RX4, TX4, 6, tyX4, rfl, inzX4, tyX4_ok, nmX4, by decide, zT_in (i := 245) (by decide +kernel) rfl, rfl, rfl⟩
theorem fs_X4_259 : Cond.fieldLink RX4 259 RX4 "SHOWN_ON" "[I" ∈ zT := zT_in (i := 327) (by decide +kernel) rfl
theorem fs_J0_38 : Cond.fieldLink RJ0 38 "java/lang/String" "COMPACT_STRINGS" "Z" ∈ zT := zT_in (i := 429) (by decide +kernel) rfl
theorem fs_J0_1053 : Cond.fieldLink RJ0 1053 "jdk/internal/util/Preconditions" "SIOOBE_FORMATTER" "Ljava/util/function/BiFunction;" ∈ zT := zT_in (i := 470) (by decide +kernel) rfl
theorem fs_J2_44 : Cond.fieldLink RJ2 44 "java/lang/StringUTF16" "$assertionsDisabled" "Z" ∈ zT := zT_in (i := 481) (by decide +kernel) rfl
theorem fs_J2_59 : Cond.fieldLink RJ2 59 "java/lang/StringUTF16" "HI_BYTE_SHIFT" "I" ∈ zT := zT_in (i := 483) (by decide +kernel) rfl
theorem fs_J2_63 : Cond.fieldLink RJ2 63 "java/lang/StringUTF16" "LO_BYTE_SHIFT" "I" ∈ zT := zT_in (i := 485) (by decide +kernel) rfl
theorem fl_X2_9 : zFL RX2 9 2 0 true .int := ⟨RX2, TX2, 2, tyX2, rfl, inzX2, tyX2_ok, nmX2, by decide, zT_in (i := 766) (by decide +kernel) rfl, rfl, rfl⟩
theorem fl_X4_243 : zFL RX4 243 2 0 true .int := ⟨RX2, TX2, 2, tyX2, rfl, inzX2, tyX2_ok, nmX2, by decide, zT_in (i := 767) (by decide +kernel) rfl, rfl, rfl⟩
theorem fl_X2_15 : zFL RX2 15 2 1 true (.array .long) := ⟨RX2, TX2, 2, tyX2, rfl, inzX2, tyX2_ok, nmX2, by decide, zT_in (i := 768) (by decide +kernel) rfl, rfl, rfl⟩
theorem fl_X0_145 : zFL RX0 145 2 1 true (.array .long) := ⟨RX2, TX2, 2, tyX2, rfl, inzX2, tyX2_ok, nmX2, by decide, zT_in (i := 769) (by decide +kernel) rfl, rfl, rfl⟩
theorem fl_X4_239 : zFL RX4 239 2 1 true (.array .long) := ⟨RX2, TX2, 2, tyX2, rfl, inzX2, tyX2_ok, nmX2, by decide, zT_in (i := 770) (by decide +kernel) rfl, rfl, rfl⟩
theorem fl_X5_7 : zFL RX5 7 5 0 true (.array .int) := ⟨RX5, TX5, 16, tyX5, rfl, inzX5, tyX5_ok, nmX5, by decide, zT_in (i := 796) (by decide +kernel) rfl, rfl, rfl⟩
theorem fl_X5_13 : zFL RX5 13 5 1 true (.array .int) := ⟨RX5, TX5, 16, tyX5, rfl, inzX5, tyX5_ok, nmX5, by decide, zT_in (i := 797) (by decide +kernel) rfl, rfl, rfl⟩
theorem fl_X5_136 : zFL RX5 136 5 2 false .int := ⟨RX5, TX5, 16, tyX5, rfl, inzX5, tyX5_ok, nmX5, by decide, zT_in (i := 798) (by decide +kernel) rfl, rfl, rfl⟩
theorem fl_X5_139 : zFL RX5 139 5 3 false .int := ⟨RX5, TX5, 16, tyX5, rfl, inzX5, tyX5_ok, nmX5, by decide, zT_in (i := 799) (by decide +kernel) rfl, rfl, rfl⟩
theorem fl_X5_142 : zFL RX5 142 5 4 false .boolean := ⟨RX5, TX5, 16, tyX5, rfl, inzX5, tyX5_ok, nmX5, by decide, zT_in (i := 800) (by decide +kernel) rfl, rfl, rfl⟩
theorem fl_X5_16 : zFL RX5 16 5 5 true (.array .int) := ⟨RX5, TX5, 16, tyX5, rfl, inzX5, tyX5_ok, nmX5, by decide, zT_in (i := 801) (by decide +kernel) rfl, rfl, rfl⟩
theorem fl_X5_19 : zFL RX5 19 5 6 true (.array .int) := ⟨RX5, TX5, 16, tyX5, rfl, inzX5, tyX5_ok, nmX5, by decide, zT_in (i := 802) (by decide +kernel) rfl, rfl, rfl⟩
theorem fl_X5_89 : zFL RX5 89 5 7 false .int := ⟨RX5, TX5, 16, tyX5, rfl, inzX5, tyX5_ok, nmX5, by decide, zT_in (i := 803) (by decide +kernel) rfl, rfl, rfl⟩
theorem fl_X5_22 : zFL RX5 22 5 8 true (.array .int) := ⟨RX5, TX5, 16, tyX5, rfl, inzX5, tyX5_ok, nmX5, by decide, zT_in (i := 804) (by decide +kernel) rfl, rfl, rfl⟩
theorem fl_X5_25 : zFL RX5 25 5 9 true (.array .int) := ⟨RX5, TX5, 16, tyX5, rfl, inzX5, tyX5_ok, nmX5, by decide, zT_in (i := 805) (by decide +kernel) rfl, rfl, rfl⟩
theorem fl_X5_188 : zFL RX5 188 5 10 false .int := ⟨RX5, TX5, 16, tyX5, rfl, inzX5, tyX5_ok, nmX5, by decide, zT_in (i := 806) (by decide +kernel) rfl, rfl, rfl⟩
theorem fl_X5_191 : zFL RX5 191 5 11 false .boolean := ⟨RX5, TX5, 16, tyX5, rfl, inzX5, tyX5_ok, nmX5, by decide, zT_in (i := 807) (by decide +kernel) rfl, rfl, rfl⟩
theorem fl_X5_28 : zFL RX5 28 5 12 true (.array .int) := ⟨RX5, TX5, 16, tyX5, rfl, inzX5, tyX5_ok, nmX5, by decide, zT_in (i := 808) (by decide +kernel) rfl, rfl, rfl⟩
theorem fl_X5_31 : zFL RX5 31 5 13 true (.array .int) := ⟨RX5, TX5, 16, tyX5, rfl, inzX5, tyX5_ok, nmX5, by decide, zT_in (i := 809) (by decide +kernel) rfl, rfl, rfl⟩
theorem fl_X5_34 : zFL RX5 34 5 14 true (.array .long) := ⟨RX5, TX5, 16, tyX5, rfl, inzX5, tyX5_ok, nmX5, by decide, zT_in (i := 810) (by decide +kernel) rfl, rfl, rfl⟩
theorem fl_X5_38 : zFL RX5 38 5 15 true (.array .long) := ⟨RX5, TX5, 16, tyX5, rfl, inzX5, tyX5_ok, nmX5, by decide, zT_in (i := 811) (by decide +kernel) rfl, rfl, rfl⟩
theorem fs_J0_15 : Cond.fieldLink RJ0 15 "java/lang/String" "coder" "B" ∈ zT := zT_in (i := 1120) (by decide +kernel) rfl
theorem fs_J0_9 : Cond.fieldLink RJ0 9 "java/lang/String" "value" "[B" ∈ zT := zT_in (i := 1121) (by decide +kernel) rfl
theorem kc_J2_227 : Cond.constant RJ2 227 (65536) ∈ zT := zT_in (i := 457) (by decide +kernel) rfl
theorem kc_J11_110 : Cond.constant RJ11 110 (55232) ∈ zT := zT_in (i := 496) (by decide +kernel) rfl
theorem kc_J11_76 : Cond.constant RJ11 76 (56320) ∈ zT := zT_in (i := 500) (by decide +kernel) rfl
theorem kc_X3_109 : Cond.constant RX3 109 (1103515245) ∈ zT := zT_in (i := 559) (by decide +kernel) rfl
theorem kc_X3_110 : Cond.constant RX3 110 (2147483647) ∈ zT := zT_in (i := 560) (by decide +kernel) rfl
theorem kc_X3_111 : Cond.constant RX3 111 (65536) ∈ zT := zT_in (i := 561) (by decide +kernel) rfl
theorem kc_J6_265 : Cond.constant RJ6 265 (1431655765) ∈ zT := zT_in (i := 622) (by decide +kernel) rfl
theorem kc_J6_266 : Cond.constant RJ6 266 (858993459) ∈ zT := zT_in (i := 623) (by decide +kernel) rfl
theorem kc_J6_267 : Cond.constant RJ6 267 (252645135) ∈ zT := zT_in (i := 624) (by decide +kernel) rfl
theorem kc_X5_83 : Cond.constantLong RX5 83 (4) ∈ zT := zT_in (i := 849) (by decide +kernel) rfl
theorem kc_X5_85 : Cond.constantLong RX5 85 (10) ∈ zT := zT_in (i := 853) (by decide +kernel) rfl
theorem kc_X5_87 : Cond.constantLong RX5 87 (99) ∈ zT := zT_in (i := 854) (by decide +kernel) rfl
theorem kc_X5_45 : Cond.constantLong RX5 45 (3) ∈ zT := zT_in (i := 866) (by decide +kernel) rfl
theorem kc_X5_100 : Cond.constantLong RX5 100 (199) ∈ zT := zT_in (i := 875) (by decide +kernel) rfl
theorem kc_X5_105 : Cond.constantLong RX5 105 (9) ∈ zT := zT_in (i := 892) (by decide +kernel) rfl
theorem kc_X5_116 : Cond.constantLong RX5 116 (5) ∈ zT := zT_in (i := 931) (by decide +kernel) rfl
theorem kc_X5_124 : Cond.constantLong RX5 124 (30) ∈ zT := zT_in (i := 955) (by decide +kernel) rfl
theorem kc_X5_126 : Cond.constantLong RX5 126 (6) ∈ zT := zT_in (i := 960) (by decide +kernel) rfl
theorem kc_X5_132 : Cond.constantLong RX5 132 (32) ∈ zT := zT_in (i := 969) (by decide +kernel) rfl
theorem kc_X5_134 : Cond.constantLong RX5 134 (126) ∈ zT := zT_in (i := 970) (by decide +kernel) rfl
theorem kc_X5_149 : Cond.constantLong RX5 149 (48) ∈ zT := zT_in (i := 983) (by decide +kernel) rfl
theorem kc_X5_151 : Cond.constantLong RX5 151 (57) ∈ zT := zT_in (i := 984) (by decide +kernel) rfl
theorem kc_X5_176 : Cond.constantLong RX5 176 (1103515245) ∈ zT := zT_in (i := 1025) (by decide +kernel) rfl
theorem kc_X5_178 : Cond.constantLong RX5 178 (12345) ∈ zT := zT_in (i := 1026) (by decide +kernel) rfl
theorem kc_X5_180 : Cond.constantLong RX5 180 (2147483647) ∈ zT := zT_in (i := 1027) (by decide +kernel) rfl
theorem kc_X5_182 : Cond.constant RX5 182 (65536) ∈ zT := zT_in (i := 1028) (by decide +kernel) rfl
theorem kc_X5_186 : Cond.constantLong RX5 186 (40) ∈ zT := zT_in (i := 1060) (by decide +kernel) rfl
theorem kc_X5_203 : Cond.constantLong RX5 203 (24) ∈ zT := zT_in (i := 1099) (by decide +kernel) rfl
theorem kc_L_144 : Cond.constantLong RL 144 (4294967295) ∈ zT := zT_in (i := 1119) (by decide +kernel) rfl
theorem it_L : Cond.initialized RL ∈ zT := zT_in (i := 46) (by decide +kernel) rfl
theorem it_X4 : Cond.initialized RX4 ∈ zT := zT_in (i := 47) (by decide +kernel) rfl
theorem it_X3 : Cond.initialized RX3 ∈ zT := zT_in (i := 48) (by decide +kernel) rfl
theorem it_X1 : Cond.initialized RX1 ∈ zT := zT_in (i := 49) (by decide +kernel) rfl
theorem it_X0 : Cond.initialized RX0 ∈ zT := zT_in (i := 50) (by decide +kernel) rfl
theorem it_X5 : Cond.initialized RX5 ∈ zT := zT_in (i := 51) (by decide +kernel) rfl
theorem it_J9 : Cond.initialized RJ9 ∈ zT := zT_in (i := 52) (by decide +kernel) rfl
theorem it_J0 : Cond.initialized RJ0 ∈ zT := zT_in (i := 53) (by decide +kernel) rfl
theorem it_J1 : Cond.initialized RJ1 ∈ zT := zT_in (i := 54) (by decide +kernel) rfl
theorem it_J2 : Cond.initialized RJ2 ∈ zT := zT_in (i := 55) (by decide +kernel) rfl
theorem it_J3 : Cond.initialized RJ3 ∈ zT := zT_in (i := 56) (by decide +kernel) rfl
theorem it_J11 : Cond.initialized RJ11 ∈ zT := zT_in (i := 57) (by decide +kernel) rfl
theorem it_J10 : Cond.initialized RJ10 ∈ zT := zT_in (i := 58) (by decide +kernel) rfl
theorem it_J6 : Cond.initialized RJ6 ∈ zT := zT_in (i := 59) (by decide +kernel) rfl
theorem it_X2 : Cond.initialized RX2 ∈ zT := zT_in (i := 60) (by decide +kernel) rfl
set_option maxRecDepth 100000 in
theorem mb_X4_init : zMB yX4_init cX4_init 1 none 0 := ⟨it_X4, zT_in (i := 65) rfl rfl, (by decide +kernel), (by decide +kernel), (by decide +kernel)⟩
theorem mi_X4_init : zMI yX4_init cX4_init 1 0 := ⟨mb_X4_init, zT_in (i := 64) (by decide +kernel) rfl, rfl⟩
set_option maxRecDepth 100000 in
theorem mb_X3_init : zMB yX3_init cX3_init 1 none 0 := ⟨it_X3, zT_in (i := 73) rfl rfl, (by decide +kernel), (by decide +kernel), (by decide +kernel)⟩
theorem mi_X3_init : zMI yX3_init cX3_init 1 0 := ⟨mb_X3_init, zT_in (i := 72) (by decide +kernel) rfl, rfl⟩
set_option maxRecDepth 100000 in
theorem mb_X1_init : zMB yX1_init cX1_init 1 none 0 := ⟨it_X1, zT_in (i := 155) rfl rfl, (by decide +kernel), (by decide +kernel), (by decide +kernel)⟩
theorem mi_X1_init : zMI yX1_init cX1_init 1 0 := ⟨mb_X1_init, zT_in (i := 154) (by decide +kernel) rfl, rfl⟩
set_option maxRecDepth 100000 in
theorem mb_X0_init : zMB yX0_init cX0_init 2 none 1 := ⟨it_X0, zT_in (i := 199) rfl rfl, (by decide +kernel), (by decide +kernel), (by decide +kernel)⟩
theorem mi_X0_init : zMI yX0_init cX0_init 2 1 := ⟨mb_X0_init, zT_in (i := 198) (by decide +kernel) rfl, rfl⟩
set_option maxRecDepth 100000 in
theorem mb_X4_person : zMB yX4_person cX4_person 3 (some .int) 2 := ⟨it_X4, zT_in (i := 262) rfl rfl, (by decide +kernel), (by decide +kernel), (by decide +kernel)⟩
theorem mv_X4_person : zMV yX4_person cX4_person 3 (some .int) 2 := ⟨mb_X4_person, zT_in (i := 260) (by decide +kernel) rfl, zT_in (i := 261) (by decide +kernel) rfl⟩
set_option maxRecDepth 100000 in
theorem mb_X4_within : zMB yX4_within cX4_within 3 (some .boolean) 3 := ⟨it_X4, zT_in (i := 265) rfl rfl, (by decide +kernel), (by decide +kernel), (by decide +kernel)⟩
theorem ms_X4_within : zMS yX4_within cX4_within 3 (some .boolean) 3 := ⟨mb_X4_within, zT_in (i := 264) (by decide +kernel) rfl⟩
set_option maxRecDepth 100000 in
theorem mb_X3_addPerson : zMB yX3_addPerson cX3_addPerson 5 (some .int) 2 := ⟨it_X3, zT_in (i := 269) rfl rfl, (by decide +kernel), (by decide +kernel), (by decide +kernel)⟩
theorem mv_X3_addPerson : zMV yX3_addPerson cX3_addPerson 5 (some .int) 2 := ⟨mb_X3_addPerson, zT_in (i := 267) (by decide +kernel) rfl, zT_in (i := 268) (by decide +kernel) rfl⟩
set_option maxRecDepth 100000 in
theorem mb_X4_own : zMB yX4_own cX4_own 5 (some .int) 3 := ⟨it_X4, zT_in (i := 273) rfl rfl, (by decide +kernel), (by decide +kernel), (by decide +kernel)⟩
theorem mv_X4_own : zMV yX4_own cX4_own 5 (some .int) 3 := ⟨mb_X4_own, zT_in (i := 271) (by decide +kernel) rfl, zT_in (i := 272) (by decide +kernel) rfl⟩
set_option maxRecDepth 100000 in
theorem mb_X3_hasPerson : zMB yX3_hasPerson cX3_hasPerson 2 (some .boolean) 1 := ⟨it_X3, zT_in (i := 277) rfl rfl, (by decide +kernel), (by decide +kernel), (by decide +kernel)⟩
theorem mv_X3_hasPerson : zMV yX3_hasPerson cX3_hasPerson 2 (some .boolean) 1 := ⟨mb_X3_hasPerson, zT_in (i := 275) (by decide +kernel) rfl, zT_in (i := 276) (by decide +kernel) rfl⟩
set_option maxRecDepth 100000 in
theorem mb_X4_isMeasure : zMB yX4_isMeasure cX4_isMeasure 1 (some .boolean) 1 := ⟨it_X4, zT_in (i := 281) rfl rfl, (by decide +kernel), (by decide +kernel), (by decide +kernel)⟩
theorem ms_X4_isMeasure : zMS yX4_isMeasure cX4_isMeasure 1 (some .boolean) 1 := ⟨mb_X4_isMeasure, zT_in (i := 280) (by decide +kernel) rfl⟩
set_option maxRecDepth 100000 in
theorem mb_X4_suit : zMB yX4_suit cX4_suit 2 (some .int) 1 := ⟨it_X4, zT_in (i := 285) rfl rfl, (by decide +kernel), (by decide +kernel), (by decide +kernel)⟩
theorem mv_X4_suit : zMV yX4_suit cX4_suit 2 (some .int) 1 := ⟨mb_X4_suit, zT_in (i := 283) (by decide +kernel) rfl, zT_in (i := 284) (by decide +kernel) rfl⟩
set_option maxRecDepth 100000 in
theorem mb_X3_addSuit : zMB yX3_addSuit cX3_addSuit 4 (some .int) 1 := ⟨it_X3, zT_in (i := 289) rfl rfl, (by decide +kernel), (by decide +kernel), (by decide +kernel)⟩
theorem mv_X3_addSuit : zMV yX3_addSuit cX3_addSuit 4 (some .int) 1 := ⟨mb_X3_addSuit, zT_in (i := 287) (by decide +kernel) rfl, zT_in (i := 288) (by decide +kernel) rfl⟩
set_option maxRecDepth 100000 in
theorem mb_X4_cut : zMB yX4_cut cX4_cut 5 (some .int) 3 := ⟨it_X4, zT_in (i := 293) rfl rfl, (by decide +kernel), (by decide +kernel), (by decide +kernel)⟩
theorem mv_X4_cut : zMV yX4_cut cX4_cut 5 (some .int) 3 := ⟨mb_X4_cut, zT_in (i := 291) (by decide +kernel) rfl, zT_in (i := 292) (by decide +kernel) rfl⟩
set_option maxRecDepth 100000 in
theorem mb_X3_hasSuit : zMB yX3_hasSuit cX3_hasSuit 2 (some .boolean) 1 := ⟨it_X3, zT_in (i := 297) rfl rfl, (by decide +kernel), (by decide +kernel), (by decide +kernel)⟩
theorem mv_X3_hasSuit : zMV yX3_hasSuit cX3_hasSuit 2 (some .boolean) 1 := ⟨mb_X3_hasSuit, zT_in (i := 295) (by decide +kernel) rfl, zT_in (i := 296) (by decide +kernel) rfl⟩
set_option maxRecDepth 100000 in
theorem mb_X4_of : zMB yX4_of cX4_of 3 (some .int) 2 := ⟨it_X4, zT_in (i := 301) rfl rfl, (by decide +kernel), (by decide +kernel), (by decide +kernel)⟩
theorem mv_X4_of : zMV yX4_of cX4_of 3 (some .int) 2 := ⟨mb_X4_of, zT_in (i := 299) (by decide +kernel) rfl, zT_in (i := 300) (by decide +kernel) rfl⟩
set_option maxRecDepth 100000 in
theorem mb_X3_measureBehind : zMB yX3_measureBehind cX3_measureBehind 4 (some .int) 3 := ⟨it_X3, zT_in (i := 305) rfl rfl, (by decide +kernel), (by decide +kernel), (by decide +kernel)⟩
theorem mv_X3_measureBehind : zMV yX3_measureBehind cX3_measureBehind 4 (some .int) 3 := ⟨mb_X3_measureBehind, zT_in (i := 303) (by decide +kernel) rfl, zT_in (i := 304) (by decide +kernel) rfl⟩
set_option maxRecDepth 100000 in
theorem mb_X3_longerBehind : zMB yX3_longerBehind cX3_longerBehind 6 (some .int) 3 := ⟨it_X3, zT_in (i := 309) rfl rfl, (by decide +kernel), (by decide +kernel), (by decide +kernel)⟩
theorem mv_X3_longerBehind : zMV yX3_longerBehind cX3_longerBehind 6 (some .int) 3 := ⟨mb_X3_longerBehind, zT_in (i := 307) (by decide +kernel) rfl, zT_in (i := 308) (by decide +kernel) rfl⟩
set_option maxRecDepth 100000 in
theorem mb_X3_isMended : zMB yX3_isMended cX3_isMended 2 (some .boolean) 1 := ⟨it_X3, zT_in (i := 313) rfl rfl, (by decide +kernel), (by decide +kernel), (by decide +kernel)⟩
theorem mv_X3_isMended : zMV yX3_isMended cX3_isMended 2 (some .boolean) 1 := ⟨mb_X3_isMended, zT_in (i := 311) (by decide +kernel) rfl, zT_in (i := 312) (by decide +kernel) rfl⟩
set_option maxRecDepth 100000 in
theorem mb_X3_leftBehind : zMB yX3_leftBehind cX3_leftBehind 5 (some .int) 3 := ⟨it_X3, zT_in (i := 317) rfl rfl, (by decide +kernel), (by decide +kernel), (by decide +kernel)⟩
theorem mv_X3_leftBehind : zMV yX3_leftBehind cX3_leftBehind 5 (some .int) 3 := ⟨mb_X3_leftBehind, zT_in (i := 315) (by decide +kernel) rfl, zT_in (i := 316) (by decide +kernel) rfl⟩
set_option maxRecDepth 100000 in
theorem mb_X4_longer : zMB yX4_longer cX4_longer 5 (some .int) 4 := ⟨it_X4, zT_in (i := 323) rfl rfl, (by decide +kernel), (by decide +kernel), (by decide +kernel)⟩
theorem ms_X4_longer : zMS yX4_longer cX4_longer 5 (some .int) 4 := ⟨mb_X4_longer, zT_in (i := 322) (by decide +kernel) rfl⟩
set_option maxRecDepth 100000 in
theorem mb_X4_timesShown : zMB yX4_timesShown cX4_timesShown 4 (some .int) 3 := ⟨it_X4, zT_in (i := 326) rfl rfl, (by decide +kernel), (by decide +kernel), (by decide +kernel)⟩
theorem ms_X4_timesShown : zMS yX4_timesShown cX4_timesShown 4 (some .int) 3 := ⟨mb_X4_timesShown, zT_in (i := 325) (by decide +kernel) rfl⟩
set_option maxRecDepth 100000 in
theorem mb_X3_deedsBy : zMB yX3_deedsBy cX3_deedsBy 4 (some .int) 1 := ⟨it_X3, zT_in (i := 332) rfl rfl, (by decide +kernel), (by decide +kernel), (by decide +kernel)⟩
theorem mv_X3_deedsBy : zMV yX3_deedsBy cX3_deedsBy 4 (some .int) 1 := ⟨mb_X3_deedsBy, zT_in (i := 330) (by decide +kernel) rfl, zT_in (i := 331) (by decide +kernel) rfl⟩
set_option maxRecDepth 100000 in
theorem mb_X4_deed : zMB yX4_deed cX4_deed 3 (some .int) 2 := ⟨it_X4, zT_in (i := 336) rfl rfl, (by decide +kernel), (by decide +kernel), (by decide +kernel)⟩
theorem mv_X4_deed : zMV yX4_deed cX4_deed 3 (some .int) 2 := ⟨mb_X4_deed, zT_in (i := 334) (by decide +kernel) rfl, zT_in (i := 335) (by decide +kernel) rfl⟩
set_option maxRecDepth 100000 in
theorem mb_X3_hasDeed : zMB yX3_hasDeed cX3_hasDeed 2 (some .boolean) 1 := ⟨it_X3, zT_in (i := 340) rfl rfl, (by decide +kernel), (by decide +kernel), (by decide +kernel)⟩
theorem mv_X3_hasDeed : zMV yX3_hasDeed cX3_hasDeed 2 (some .boolean) 1 := ⟨mb_X3_hasDeed, zT_in (i := 338) (by decide +kernel) rfl, zT_in (i := 339) (by decide +kernel) rfl⟩
set_option maxRecDepth 100000 in
theorem mb_X3_leftNow : zMB yX3_leftNow cX3_leftNow 2 (some .int) 1 := ⟨it_X3, zT_in (i := 345) rfl rfl, (by decide +kernel), (by decide +kernel), (by decide +kernel)⟩
theorem mv_X3_leftNow : zMV yX3_leftNow cX3_leftNow 2 (some .int) 1 := ⟨mb_X3_leftNow, zT_in (i := 343) (by decide +kernel) rfl, zT_in (i := 344) (by decide +kernel) rfl⟩
set_option maxRecDepth 100000 in
theorem mb_X4_tries : zMB yX4_tries cX4_tries 4 (some .int) 3 := ⟨it_X4, zT_in (i := 349) rfl rfl, (by decide +kernel), (by decide +kernel), (by decide +kernel)⟩
theorem mv_X4_tries : zMV yX4_tries cX4_tries 4 (some .int) 3 := ⟨mb_X4_tries, zT_in (i := 347) (by decide +kernel) rfl, zT_in (i := 348) (by decide +kernel) rfl⟩
set_option maxRecDepth 100000 in
theorem mb_X4_isEither : zMB yX4_isEither cX4_isEither 1 (some .boolean) 1 := ⟨it_X4, zT_in (i := 352) rfl rfl, (by decide +kernel), (by decide +kernel), (by decide +kernel)⟩
theorem ms_X4_isEither : zMS yX4_isEither cX4_isEither 1 (some .boolean) 1 := ⟨mb_X4_isEither, zT_in (i := 351) (by decide +kernel) rfl⟩
set_option maxRecDepth 100000 in
theorem mb_X3_showsBehind : zMB yX3_showsBehind cX3_showsBehind 6 (some .int) 3 := ⟨it_X3, zT_in (i := 356) rfl rfl, (by decide +kernel), (by decide +kernel), (by decide +kernel)⟩
theorem mv_X3_showsBehind : zMV yX3_showsBehind cX3_showsBehind 6 (some .int) 3 := ⟨mb_X3_showsBehind, zT_in (i := 354) (by decide +kernel) rfl, zT_in (i := 355) (by decide +kernel) rfl⟩
set_option maxRecDepth 100000 in
theorem mb_X3_gapBehind : zMB yX3_gapBehind cX3_gapBehind 6 (some .int) 4 := ⟨it_X3, zT_in (i := 360) rfl rfl, (by decide +kernel), (by decide +kernel), (by decide +kernel)⟩
theorem mv_X3_gapBehind : zMV yX3_gapBehind cX3_gapBehind 6 (some .int) 4 := ⟨mb_X3_gapBehind, zT_in (i := 358) (by decide +kernel) rfl, zT_in (i := 359) (by decide +kernel) rfl⟩
set_option maxRecDepth 100000 in
theorem mb_X3_fitsBehind : zMB yX3_fitsBehind cX3_fitsBehind 5 (some .boolean) 3 := ⟨it_X3, zT_in (i := 367) rfl rfl, (by decide +kernel), (by decide +kernel), (by decide +kernel)⟩
theorem mv_X3_fitsBehind : zMV yX3_fitsBehind cX3_fitsBehind 5 (some .boolean) 3 := ⟨mb_X3_fitsBehind, zT_in (i := 365) (by decide +kernel) rfl, zT_in (i := 366) (by decide +kernel) rfl⟩
set_option maxRecDepth 100000 in
theorem mb_X4_rule : zMB yX4_rule cX4_rule 4 (some .int) 2 := ⟨it_X4, zT_in (i := 371) rfl rfl, (by decide +kernel), (by decide +kernel), (by decide +kernel)⟩
theorem mv_X4_rule : zMV yX4_rule cX4_rule 4 (some .int) 2 := ⟨mb_X4_rule, zT_in (i := 369) (by decide +kernel) rfl, zT_in (i := 370) (by decide +kernel) rfl⟩
set_option maxRecDepth 100000 in
theorem mb_X4_type : zMB yX4_type cX4_type 2 (some .int) 1 := ⟨it_X4, zT_in (i := 375) rfl rfl, (by decide +kernel), (by decide +kernel), (by decide +kernel)⟩
theorem mv_X4_type : zMV yX4_type cX4_type 2 (some .int) 1 := ⟨mb_X4_type, zT_in (i := 373) (by decide +kernel) rfl, zT_in (i := 374) (by decide +kernel) rfl⟩
set_option maxRecDepth 100000 in
theorem mb_X1_addLetter : zMB yX1_addLetter cX1_addLetter 2 (some .int) 1 := ⟨it_X1, zT_in (i := 379) rfl rfl, (by decide +kernel), (by decide +kernel), (by decide +kernel)⟩
theorem mv_X1_addLetter : zMV yX1_addLetter cX1_addLetter 2 (some .int) 1 := ⟨mb_X1_addLetter, zT_in (i := 377) (by decide +kernel) rfl, zT_in (i := 378) (by decide +kernel) rfl⟩
set_option maxRecDepth 100000 in
theorem mb_X4_wardrobe : zMB yX4_wardrobe cX4_wardrobe 2 (some .int) 0 := ⟨it_X4, zT_in (i := 383) rfl rfl, (by decide +kernel), (by decide +kernel), (by decide +kernel)⟩
theorem mv_X4_wardrobe : zMV yX4_wardrobe cX4_wardrobe 2 (some .int) 0 := ⟨mb_X4_wardrobe, zT_in (i := 381) (by decide +kernel) rfl, zT_in (i := 382) (by decide +kernel) rfl⟩
set_option maxRecDepth 100000 in
theorem mb_X1_readAll : zMB yX1_readAll cX1_readAll 1 (some .int) 0 := ⟨it_X1, zT_in (i := 387) rfl rfl, (by decide +kernel), (by decide +kernel), (by decide +kernel)⟩
theorem mv_X1_readAll : zMV yX1_readAll cX1_readAll 1 (some .int) 0 := ⟨mb_X1_readAll, zT_in (i := 385) (by decide +kernel) rfl, zT_in (i := 386) (by decide +kernel) rfl⟩
set_option maxRecDepth 100000 in
theorem mb_X1_readNumber : zMB yX1_readNumber cX1_readNumber 6 (some .int) 2 := ⟨it_X1, zT_in (i := 391) rfl rfl, (by decide +kernel), (by decide +kernel), (by decide +kernel)⟩
theorem mv_X1_readNumber : zMV yX1_readNumber cX1_readNumber 6 (some .int) 2 := ⟨mb_X1_readNumber, zT_in (i := 390) (by decide +kernel) rfl, zT_in (i := 0) (by decide +kernel) rfl⟩
set_option maxRecDepth 100000 in
theorem mb_X1_next : zMB yX1_next cX1_next 1 (some .int) 0 := ⟨it_X1, zT_in (i := 395) rfl rfl, (by decide +kernel), (by decide +kernel), (by decide +kernel)⟩
theorem mv_X1_next : zMV yX1_next cX1_next 1 (some .int) 0 := ⟨mb_X1_next, zT_in (i := 394) (by decide +kernel) rfl, zT_in (i := 1) (by decide +kernel) rfl⟩
set_option maxRecDepth 100000 in
theorem mb_X1_faultAt : zMB yX1_faultAt cX1_faultAt 2 none 1 := ⟨it_X1, zT_in (i := 399) rfl rfl, (by decide +kernel), (by decide +kernel), (by decide +kernel)⟩
theorem mv_X1_faultAt : zMV yX1_faultAt cX1_faultAt 2 none 1 := ⟨mb_X1_faultAt, zT_in (i := 398) (by decide +kernel) rfl, zT_in (i := 2) (by decide +kernel) rfl⟩
set_option maxRecDepth 100000 in
theorem mb_X1_expect : zMB yX1_expect cX1_expect 2 none 1 := ⟨it_X1, zT_in (i := 403) rfl rfl, (by decide +kernel), (by decide +kernel), (by decide +kernel)⟩
theorem mv_X1_expect : zMV yX1_expect cX1_expect 2 none 1 := ⟨mb_X1_expect, zT_in (i := 402) (by decide +kernel) rfl, zT_in (i := 3) (by decide +kernel) rfl⟩
set_option maxRecDepth 100000 in
theorem mb_X1_took : zMB yX1_took cX1_took 2 (some .boolean) 1 := ⟨it_X1, zT_in (i := 407) rfl rfl, (by decide +kernel), (by decide +kernel), (by decide +kernel)⟩
theorem mv_X1_took : zMV yX1_took cX1_took 2 (some .boolean) 1 := ⟨mb_X1_took, zT_in (i := 406) (by decide +kernel) rfl, zT_in (i := 4) (by decide +kernel) rfl⟩
set_option maxRecDepth 100000 in
theorem mb_X1_readPeople : zMB yX1_readPeople cX1_readPeople 2 none 0 := ⟨it_X1, zT_in (i := 411) rfl rfl, (by decide +kernel), (by decide +kernel), (by decide +kernel)⟩
theorem mv_X1_readPeople : zMV yX1_readPeople cX1_readPeople 2 none 0 := ⟨mb_X1_readPeople, zT_in (i := 410) (by decide +kernel) rfl, zT_in (i := 5) (by decide +kernel) rfl⟩
set_option maxRecDepth 100000 in
theorem mb_X1_readKind : zMB yX1_readKind cX1_readKind 3 (some .int) 0 := ⟨it_X1, zT_in (i := 415) rfl rfl, (by decide +kernel), (by decide +kernel), (by decide +kernel)⟩
theorem mv_X1_readKind : zMV yX1_readKind cX1_readKind 3 (some .int) 0 := ⟨mb_X1_readKind, zT_in (i := 414) (by decide +kernel) rfl, zT_in (i := 6) (by decide +kernel) rfl⟩
set_option maxRecDepth 100000 in
theorem mb_J0_indexOf_0f7a4 : zMB yJ0_indexOf_0f7a4 cJ0_indexOf_0f7a4 2 (some .int) 1 := ⟨it_J0, zT_in (i := 420) rfl rfl, (by decide +kernel), (by decide +kernel), (by decide +kernel)⟩
theorem mv_J0_indexOf_0f7a4 : zMV yJ0_indexOf_0f7a4 cJ0_indexOf_0f7a4 2 (some .int) 1 := ⟨mb_J0_indexOf_0f7a4, zT_in (i := 418) (by decide +kernel) rfl, zT_in (i := 419) (by decide +kernel) rfl⟩
set_option maxRecDepth 100000 in
theorem mb_J0_indexOf_7cf53 : zMB yJ0_indexOf_7cf53 cJ0_indexOf_7cf53 3 (some .int) 2 := ⟨it_J0, zT_in (i := 424) rfl rfl, (by decide +kernel), (by decide +kernel), (by decide +kernel)⟩
theorem mv_J0_indexOf_7cf53 : zMV yJ0_indexOf_7cf53 cJ0_indexOf_7cf53 3 (some .int) 2 := ⟨mb_J0_indexOf_7cf53, zT_in (i := 422) (by decide +kernel) rfl, zT_in (i := 423) (by decide +kernel) rfl⟩
set_option maxRecDepth 100000 in
theorem mb_J0_isLatin1_aae02 : zMB yJ0_isLatin1_aae02 cJ0_isLatin1_aae02 1 (some .boolean) 0 := ⟨it_J0, zT_in (i := 428) rfl rfl, (by decide +kernel), (by decide +kernel), (by decide +kernel)⟩
theorem mv_J0_isLatin1_aae02 : zMV yJ0_isLatin1_aae02 cJ0_isLatin1_aae02 1 (some .boolean) 0 := ⟨mb_J0_isLatin1_aae02, zT_in (i := 426) (by decide +kernel) rfl, zT_in (i := 427) (by decide +kernel) rfl⟩
set_option maxRecDepth 100000 in
theorem mb_J0_length_8abf5 : zMB yJ0_length_8abf5 cJ0_length_8abf5 1 (some .int) 0 := ⟨it_J0, zT_in (i := 434) rfl rfl, (by decide +kernel), (by decide +kernel), (by decide +kernel)⟩
theorem mv_J0_length_8abf5 : zMV yJ0_length_8abf5 cJ0_length_8abf5 1 (some .int) 0 := ⟨mb_J0_length_8abf5, zT_in (i := 432) (by decide +kernel) rfl, zT_in (i := 433) (by decide +kernel) rfl⟩
set_option maxRecDepth 100000 in
theorem mb_J0_coder_7d493 : zMB yJ0_coder_7d493 cJ0_coder_7d493 1 (some .byte) 0 := ⟨it_J0, zT_in (i := 438) rfl rfl, (by decide +kernel), (by decide +kernel), (by decide +kernel)⟩
theorem mv_J0_coder_7d493 : zMV yJ0_coder_7d493 cJ0_coder_7d493 1 (some .byte) 0 := ⟨mb_J0_coder_7d493, zT_in (i := 436) (by decide +kernel) rfl, zT_in (i := 437) (by decide +kernel) rfl⟩
set_option maxRecDepth 100000 in
theorem mb_J1_indexOf_4cfef : zMB yJ1_indexOf_4cfef cJ1_indexOf_4cfef 4 (some .int) 4 := ⟨it_J1, zT_in (i := 441) rfl rfl, (by decide +kernel), (by decide +kernel), (by decide +kernel)⟩
theorem ms_J1_indexOf_4cfef : zMS yJ1_indexOf_4cfef cJ1_indexOf_4cfef 4 (some .int) 4 := ⟨mb_J1_indexOf_4cfef, zT_in (i := 440) (by decide +kernel) rfl⟩
set_option maxRecDepth 100000 in
theorem mb_J1_canEncode_9a6ad : zMB yJ1_canEncode_9a6ad cJ1_canEncode_9a6ad 1 (some .boolean) 1 := ⟨it_J1, zT_in (i := 444) rfl rfl, (by decide +kernel), (by decide +kernel), (by decide +kernel)⟩
theorem ms_J1_canEncode_9a6ad : zMS yJ1_canEncode_9a6ad cJ1_canEncode_9a6ad 1 (some .boolean) 1 := ⟨mb_J1_canEncode_9a6ad, zT_in (i := 443) (by decide +kernel) rfl⟩
set_option maxRecDepth 100000 in
theorem mb_J1_indexOfChar_4cfef : zMB yJ1_indexOfChar_4cfef cJ1_indexOfChar_4cfef 6 (some .int) 4 := ⟨it_J1, zT_in (i := 451) rfl rfl, (by decide +kernel), (by decide +kernel), (by decide +kernel)⟩
theorem ms_J1_indexOfChar_4cfef : zMS yJ1_indexOfChar_4cfef cJ1_indexOfChar_4cfef 6 (some .int) 4 := ⟨mb_J1_indexOfChar_4cfef, zT_in (i := 450) (by decide +kernel) rfl⟩
set_option maxRecDepth 100000 in
theorem mb_J2_indexOf_4cfef : zMB yJ2_indexOf_4cfef cJ2_indexOf_4cfef 4 (some .int) 4 := ⟨it_J2, zT_in (i := 454) rfl rfl, (by decide +kernel), (by decide +kernel), (by decide +kernel)⟩
theorem ms_J2_indexOf_4cfef : zMS yJ2_indexOf_4cfef cJ2_indexOf_4cfef 4 (some .int) 4 := ⟨mb_J2_indexOf_4cfef, zT_in (i := 453) (by decide +kernel) rfl⟩
set_option maxRecDepth 100000 in
theorem mb_J2_indexOfChar_4cfef : zMB yJ2_indexOfChar_4cfef cJ2_indexOfChar_4cfef 4 (some .int) 4 := ⟨it_J2, zT_in (i := 460) rfl rfl, (by decide +kernel), (by decide +kernel), (by decide +kernel)⟩
theorem ms_J2_indexOfChar_4cfef : zMS yJ2_indexOfChar_4cfef cJ2_indexOfChar_4cfef 4 (some .int) 4 := ⟨mb_J2_indexOfChar_4cfef, zT_in (i := 459) (by decide +kernel) rfl⟩
set_option maxRecDepth 100000 in
theorem mb_J2_checkBoundsBeginEnd_d044e : zMB yJ2_checkBoundsBeginEnd_d044e cJ2_checkBoundsBeginEnd_d044e 3 none 3 := ⟨it_J2, zT_in (i := 463) rfl rfl, (by decide +kernel), (by decide +kernel), (by decide +kernel)⟩
theorem ms_J2_checkBoundsBeginEnd_d044e : zMS yJ2_checkBoundsBeginEnd_d044e cJ2_checkBoundsBeginEnd_d044e 3 none 3 := ⟨mb_J2_checkBoundsBeginEnd_d044e, zT_in (i := 462) (by decide +kernel) rfl⟩
set_option maxRecDepth 100000 in
theorem mb_J2_length_9d52b : zMB yJ2_length_9d52b cJ2_length_9d52b 1 (some .int) 1 := ⟨it_J2, zT_in (i := 466) rfl rfl, (by decide +kernel), (by decide +kernel), (by decide +kernel)⟩
theorem ms_J2_length_9d52b : zMS yJ2_length_9d52b cJ2_length_9d52b 1 (some .int) 1 := ⟨mb_J2_length_9d52b, zT_in (i := 465) (by decide +kernel) rfl⟩
set_option maxRecDepth 100000 in
theorem mb_J0_checkBoundsBeginEnd_23922 : zMB yJ0_checkBoundsBeginEnd_23922 cJ0_checkBoundsBeginEnd_23922 3 none 3 := ⟨it_J0, zT_in (i := 469) rfl rfl, (by decide +kernel), (by decide +kernel), (by decide +kernel)⟩
theorem ms_J0_checkBoundsBeginEnd_23922 : zMS yJ0_checkBoundsBeginEnd_23922 cJ0_checkBoundsBeginEnd_23922 3 none 3 := ⟨mb_J0_checkBoundsBeginEnd_23922, zT_in (i := 468) (by decide +kernel) rfl⟩
set_option maxRecDepth 100000 in
theorem mb_J3_checkFromToIndex_8c36e : zMB yJ3_checkFromToIndex_8c36e cJ3_checkFromToIndex_8c36e 4 (some .int) 4 := ⟨it_J3, zT_in (i := 474) rfl rfl, (by decide +kernel), (by decide +kernel), (by decide +kernel)⟩
theorem ms_J3_checkFromToIndex_8c36e : zMS yJ3_checkFromToIndex_8c36e cJ3_checkFromToIndex_8c36e 4 (some .int) 4 := ⟨mb_J3_checkFromToIndex_8c36e, zT_in (i := 473) (by decide +kernel) rfl⟩
set_option maxRecDepth 100000 in
theorem mb_J2_indexOfCharUnsafe_4cfef : zMB yJ2_indexOfCharUnsafe_4cfef cJ2_indexOfCharUnsafe_4cfef 5 (some .int) 4 := ⟨it_J2, zT_in (i := 477) rfl rfl, (by decide +kernel), (by decide +kernel), (by decide +kernel)⟩
theorem ms_J2_indexOfCharUnsafe_4cfef : zMS yJ2_indexOfCharUnsafe_4cfef cJ2_indexOfCharUnsafe_4cfef 5 (some .int) 4 := ⟨mb_J2_indexOfCharUnsafe_4cfef, zT_in (i := 476) (by decide +kernel) rfl⟩
set_option maxRecDepth 100000 in
theorem mb_J2_getChar_3b067 : zMB yJ2_getChar_3b067 cJ2_getChar_3b067 2 (some .char) 2 := ⟨it_J2, zT_in (i := 480) rfl rfl, (by decide +kernel), (by decide +kernel), (by decide +kernel)⟩
theorem ms_J2_getChar_3b067 : zMS yJ2_getChar_3b067 cJ2_getChar_3b067 2 (some .char) 2 := ⟨mb_J2_getChar_3b067, zT_in (i := 479) (by decide +kernel) rfl⟩
set_option maxRecDepth 100000 in
theorem mb_J2_indexOfSupplementary_4cfef : zMB yJ2_indexOfSupplementary_4cfef cJ2_indexOfSupplementary_4cfef 7 (some .int) 4 := ⟨it_J2, zT_in (i := 489) rfl rfl, (by decide +kernel), (by decide +kernel), (by decide +kernel)⟩
theorem ms_J2_indexOfSupplementary_4cfef : zMS yJ2_indexOfSupplementary_4cfef cJ2_indexOfSupplementary_4cfef 7 (some .int) 4 := ⟨mb_J2_indexOfSupplementary_4cfef, zT_in (i := 488) (by decide +kernel) rfl⟩
set_option maxRecDepth 100000 in
theorem mb_J11_isValidCodePoint_9a6ad : zMB yJ11_isValidCodePoint_9a6ad cJ11_isValidCodePoint_9a6ad 2 (some .boolean) 1 := ⟨it_J11, zT_in (i := 492) rfl rfl, (by decide +kernel), (by decide +kernel), (by decide +kernel)⟩
theorem ms_J11_isValidCodePoint_9a6ad : zMS yJ11_isValidCodePoint_9a6ad cJ11_isValidCodePoint_9a6ad 2 (some .boolean) 1 := ⟨mb_J11_isValidCodePoint_9a6ad, zT_in (i := 491) (by decide +kernel) rfl⟩
set_option maxRecDepth 100000 in
theorem mb_J11_highSurrogate_5068e : zMB yJ11_highSurrogate_5068e cJ11_highSurrogate_5068e 1 (some .char) 1 := ⟨it_J11, zT_in (i := 495) rfl rfl, (by decide +kernel), (by decide +kernel), (by decide +kernel)⟩
theorem ms_J11_highSurrogate_5068e : zMS yJ11_highSurrogate_5068e cJ11_highSurrogate_5068e 1 (some .char) 1 := ⟨mb_J11_highSurrogate_5068e, zT_in (i := 494) (by decide +kernel) rfl⟩
set_option maxRecDepth 100000 in
theorem mb_J11_lowSurrogate_5068e : zMB yJ11_lowSurrogate_5068e cJ11_lowSurrogate_5068e 1 (some .char) 1 := ⟨it_J11, zT_in (i := 499) rfl rfl, (by decide +kernel), (by decide +kernel), (by decide +kernel)⟩
theorem ms_J11_lowSurrogate_5068e : zMS yJ11_lowSurrogate_5068e cJ11_lowSurrogate_5068e 1 (some .char) 1 := ⟨mb_J11_lowSurrogate_5068e, zT_in (i := 498) (by decide +kernel) rfl⟩
set_option maxRecDepth 100000 in
theorem mb_X1_readFour : zMB yX1_readFour cX1_readFour 6 none 4 := ⟨it_X1, zT_in (i := 504) rfl rfl, (by decide +kernel), (by decide +kernel), (by decide +kernel)⟩
theorem mv_X1_readFour : zMV yX1_readFour cX1_readFour 6 none 4 := ⟨mb_X1_readFour, zT_in (i := 503) (by decide +kernel) rfl, zT_in (i := 7) (by decide +kernel) rfl⟩
set_option maxRecDepth 100000 in
theorem mb_X1_readSuits : zMB yX1_readSuits cX1_readSuits 2 none 0 := ⟨it_X1, zT_in (i := 508) rfl rfl, (by decide +kernel), (by decide +kernel), (by decide +kernel)⟩
theorem mv_X1_readSuits : zMV yX1_readSuits cX1_readSuits 2 none 0 := ⟨mb_X1_readSuits, zT_in (i := 507) (by decide +kernel) rfl, zT_in (i := 8) (by decide +kernel) rfl⟩
set_option maxRecDepth 100000 in
theorem mb_X3_takeWardrobe : zMB yX3_takeWardrobe cX3_takeWardrobe 2 none 1 := ⟨it_X3, zT_in (i := 512) rfl rfl, (by decide +kernel), (by decide +kernel), (by decide +kernel)⟩
theorem mv_X3_takeWardrobe : zMV yX3_takeWardrobe cX3_takeWardrobe 2 none 1 := ⟨mb_X3_takeWardrobe, zT_in (i := 510) (by decide +kernel) rfl, zT_in (i := 511) (by decide +kernel) rfl⟩
set_option maxRecDepth 100000 in
theorem mb_X4_count : zMB yX4_count cX4_count 2 (some .int) 1 := ⟨it_X4, zT_in (i := 520) rfl rfl, (by decide +kernel), (by decide +kernel), (by decide +kernel)⟩
theorem mv_X4_count : zMV yX4_count cX4_count 2 (some .int) 1 := ⟨mb_X4_count, zT_in (i := 518) (by decide +kernel) rfl, zT_in (i := 519) (by decide +kernel) rfl⟩
set_option maxRecDepth 100000 in
theorem mb_X3_leftOfAll : zMB yX3_leftOfAll cX3_leftOfAll 3 (some .int) 0 := ⟨it_X3, zT_in (i := 524) rfl rfl, (by decide +kernel), (by decide +kernel), (by decide +kernel)⟩
theorem mv_X3_leftOfAll : zMV yX3_leftOfAll cX3_leftOfAll 3 (some .int) 0 := ⟨mb_X3_leftOfAll, zT_in (i := 522) (by decide +kernel) rfl, zT_in (i := 523) (by decide +kernel) rfl⟩
set_option maxRecDepth 100000 in
theorem mb_X4_does : zMB yX4_does cX4_does 4 (some .int) 3 := ⟨it_X4, zT_in (i := 529) rfl rfl, (by decide +kernel), (by decide +kernel), (by decide +kernel)⟩
theorem mv_X4_does : zMV yX4_does cX4_does 4 (some .int) 3 := ⟨mb_X4_does, zT_in (i := 527) (by decide +kernel) rfl, zT_in (i := 528) (by decide +kernel) rfl⟩
set_option maxRecDepth 100000 in
theorem mb_X3_remember : zMB yX3_remember cX3_remember 2 none 0 := ⟨it_X3, zT_in (i := 533) rfl rfl, (by decide +kernel), (by decide +kernel), (by decide +kernel)⟩
theorem mv_X3_remember : zMV yX3_remember cX3_remember 2 none 0 := ⟨mb_X3_remember, zT_in (i := 531) (by decide +kernel) rfl, zT_in (i := 532) (by decide +kernel) rfl⟩
set_option maxRecDepth 100000 in
theorem mb_X3_addDeed : zMB yX3_addDeed cX3_addDeed 5 (some .int) 3 := ⟨it_X3, zT_in (i := 537) rfl rfl, (by decide +kernel), (by decide +kernel), (by decide +kernel)⟩
theorem mv_X3_addDeed : zMV yX3_addDeed cX3_addDeed 5 (some .int) 3 := ⟨mb_X3_addDeed, zT_in (i := 535) (by decide +kernel) rfl, zT_in (i := 536) (by decide +kernel) rfl⟩
set_option maxRecDepth 100000 in
theorem mb_X4_mend : zMB yX4_mend cX4_mend 2 (some .int) 1 := ⟨it_X4, zT_in (i := 541) rfl rfl, (by decide +kernel), (by decide +kernel), (by decide +kernel)⟩
theorem mv_X4_mend : zMV yX4_mend cX4_mend 2 (some .int) 1 := ⟨mb_X4_mend, zT_in (i := 539) (by decide +kernel) rfl, zT_in (i := 540) (by decide +kernel) rfl⟩
set_option maxRecDepth 100000 in
theorem mb_X4_days : zMB yX4_days cX4_days 4 (some .int) 1 := ⟨it_X4, zT_in (i := 545) rfl rfl, (by decide +kernel), (by decide +kernel), (by decide +kernel)⟩
theorem mv_X4_days : zMV yX4_days cX4_days 4 (some .int) 1 := ⟨mb_X4_days, zT_in (i := 543) (by decide +kernel) rfl, zT_in (i := 544) (by decide +kernel) rfl⟩
set_option maxRecDepth 100000 in
theorem mb_X4_refusalOfDays : zMB yX4_refusalOfDays cX4_refusalOfDays 2 (some .int) 1 := ⟨it_X4, zT_in (i := 549) rfl rfl, (by decide +kernel), (by decide +kernel), (by decide +kernel)⟩
theorem mv_X4_refusalOfDays : zMV yX4_refusalOfDays cX4_refusalOfDays 2 (some .int) 1 := ⟨mb_X4_refusalOfDays, zT_in (i := 548) (by decide +kernel) rfl, zT_in (i := 9) (by decide +kernel) rfl⟩
set_option maxRecDepth 100000 in
theorem mb_X4_drift : zMB yX4_drift cX4_drift 5 (some .int) 1 := ⟨it_X4, zT_in (i := 553) rfl rfl, (by decide +kernel), (by decide +kernel), (by decide +kernel)⟩
theorem mv_X4_drift : zMV yX4_drift cX4_drift 5 (some .int) 1 := ⟨mb_X4_drift, zT_in (i := 551) (by decide +kernel) rfl, zT_in (i := 552) (by decide +kernel) rfl⟩
set_option maxRecDepth 100000 in
theorem mb_X3_driftOneDay : zMB yX3_driftOneDay cX3_driftOneDay 2 none 0 := ⟨it_X3, zT_in (i := 557) rfl rfl, (by decide +kernel), (by decide +kernel), (by decide +kernel)⟩
theorem mv_X3_driftOneDay : zMV yX3_driftOneDay cX3_driftOneDay 2 none 0 := ⟨mb_X3_driftOneDay, zT_in (i := 555) (by decide +kernel) rfl, zT_in (i := 556) (by decide +kernel) rfl⟩
set_option maxRecDepth 100000 in
theorem mb_X4_undo : zMB yX4_undo cX4_undo 1 (some .int) 0 := ⟨it_X4, zT_in (i := 566) rfl rfl, (by decide +kernel), (by decide +kernel), (by decide +kernel)⟩
theorem mv_X4_undo : zMV yX4_undo cX4_undo 1 (some .int) 0 := ⟨mb_X4_undo, zT_in (i := 564) (by decide +kernel) rfl, zT_in (i := 565) (by decide +kernel) rfl⟩
set_option maxRecDepth 100000 in
theorem mb_X3_takeBack : zMB yX3_takeBack cX3_takeBack 2 none 0 := ⟨it_X3, zT_in (i := 570) rfl rfl, (by decide +kernel), (by decide +kernel), (by decide +kernel)⟩
theorem mv_X3_takeBack : zMV yX3_takeBack cX3_takeBack 2 none 0 := ⟨mb_X3_takeBack, zT_in (i := 568) (by decide +kernel) rfl, zT_in (i := 569) (by decide +kernel) rfl⟩
set_option maxRecDepth 100000 in
theorem mb_X4_seed : zMB yX4_seed cX4_seed 3 (some .int) 1 := ⟨it_X4, zT_in (i := 574) rfl rfl, (by decide +kernel), (by decide +kernel), (by decide +kernel)⟩
theorem mv_X4_seed : zMV yX4_seed cX4_seed 3 (some .int) 1 := ⟨mb_X4_seed, zT_in (i := 572) (by decide +kernel) rfl, zT_in (i := 573) (by decide +kernel) rfl⟩
set_option maxRecDepth 100000 in
theorem mb_X4_ahead : zMB yX4_ahead cX4_ahead 4 (some .int) 3 := ⟨it_X4, zT_in (i := 578) rfl rfl, (by decide +kernel), (by decide +kernel), (by decide +kernel)⟩
theorem mv_X4_ahead : zMV yX4_ahead cX4_ahead 4 (some .int) 3 := ⟨mb_X4_ahead, zT_in (i := 576) (by decide +kernel) rfl, zT_in (i := 577) (by decide +kernel) rfl⟩
set_option maxRecDepth 100000 in
theorem mb_X4_showsAhead : zMB yX4_showsAhead cX4_showsAhead 4 (some .int) 3 := ⟨it_X4, zT_in (i := 582) rfl rfl, (by decide +kernel), (by decide +kernel), (by decide +kernel)⟩
theorem mv_X4_showsAhead : zMV yX4_showsAhead cX4_showsAhead 4 (some .int) 3 := ⟨mb_X4_showsAhead, zT_in (i := 580) (by decide +kernel) rfl, zT_in (i := 581) (by decide +kernel) rfl⟩
set_option maxRecDepth 100000 in
theorem mb_X4_again : zMB yX4_again cX4_again 3 (some .int) 2 := ⟨it_X4, zT_in (i := 586) rfl rfl, (by decide +kernel), (by decide +kernel), (by decide +kernel)⟩
theorem mv_X4_again : zMV yX4_again cX4_again 3 (some .int) 2 := ⟨mb_X4_again, zT_in (i := 584) (by decide +kernel) rfl, zT_in (i := 585) (by decide +kernel) rfl⟩
set_option maxRecDepth 100000 in
theorem mb_X0_firstFit : zMB yX0_firstFit cX0_firstFit 4 (some .int) 2 := ⟨it_X0, zT_in (i := 590) rfl rfl, (by decide +kernel), (by decide +kernel), (by decide +kernel)⟩
theorem mv_X0_firstFit : zMV yX0_firstFit cX0_firstFit 4 (some .int) 2 := ⟨mb_X0_firstFit, zT_in (i := 588) (by decide +kernel) rfl, zT_in (i := 589) (by decide +kernel) rfl⟩
set_option maxRecDepth 100000 in
theorem mb_X4_wedding : zMB yX4_wedding cX4_wedding 6 (some .int) 4 := ⟨it_X4, zT_in (i := 595) rfl rfl, (by decide +kernel), (by decide +kernel), (by decide +kernel)⟩
theorem mv_X4_wedding : zMV yX4_wedding cX4_wedding 6 (some .int) 4 := ⟨mb_X4_wedding, zT_in (i := 593) (by decide +kernel) rfl, zT_in (i := 594) (by decide +kernel) rfl⟩
set_option maxRecDepth 100000 in
theorem mb_X0_fewestToMend : zMB yX0_fewestToMend cX0_fewestToMend 9 (some .int) 3 := ⟨it_X0, zT_in (i := 599) rfl rfl, (by decide +kernel), (by decide +kernel), (by decide +kernel)⟩
theorem mv_X0_fewestToMend : zMV yX0_fewestToMend cX0_fewestToMend 9 (some .int) 3 := ⟨mb_X0_fewestToMend, zT_in (i := 597) (by decide +kernel) rfl, zT_in (i := 598) (by decide +kernel) rfl⟩
set_option maxRecDepth 100000 in
theorem mb_X0_findOpenDeeds : zMB yX0_findOpenDeeds cX0_findOpenDeeds 5 (some .int) 2 := ⟨it_X0, zT_in (i := 604) rfl rfl, (by decide +kernel), (by decide +kernel), (by decide +kernel)⟩
theorem mv_X0_findOpenDeeds : zMV yX0_findOpenDeeds cX0_findOpenDeeds 5 (some .int) 2 := ⟨mb_X0_findOpenDeeds, zT_in (i := 603) (by decide +kernel) rfl, zT_in (i := 10) (by decide +kernel) rfl⟩
set_option maxRecDepth 100000 in
theorem mb_X0_findGains : zMB yX0_findGains cX0_findGains 9 none 2 := ⟨it_X0, zT_in (i := 609) rfl rfl, (by decide +kernel), (by decide +kernel), (by decide +kernel)⟩
theorem mv_X0_findGains : zMV yX0_findGains cX0_findGains 9 none 2 := ⟨mb_X0_findGains, zT_in (i := 608) (by decide +kernel) rfl, zT_in (i := 11) (by decide +kernel) rfl⟩
set_option maxRecDepth 100000 in
theorem mb_X0_stepTo : zMB yX0_stepTo cX0_stepTo 6 none 1 := ⟨it_X0, zT_in (i := 615) rfl rfl, (by decide +kernel), (by decide +kernel), (by decide +kernel)⟩
theorem mv_X0_stepTo : zMV yX0_stepTo cX0_stepTo 6 none 1 := ⟨mb_X0_stepTo, zT_in (i := 614) (by decide +kernel) rfl, zT_in (i := 12) (by decide +kernel) rfl⟩
set_option maxRecDepth 100000 in
theorem mb_X4_lowestOf : zMB yX4_lowestOf cX4_lowestOf 1 (some .int) 1 := ⟨it_X4, zT_in (i := 618) rfl rfl, (by decide +kernel), (by decide +kernel), (by decide +kernel)⟩
theorem ms_X4_lowestOf : zMS yX4_lowestOf cX4_lowestOf 1 (some .int) 1 := ⟨mb_X4_lowestOf, zT_in (i := 617) (by decide +kernel) rfl⟩
set_option maxRecDepth 100000 in
theorem mb_J6_bitCount_0f7a4 : zMB yJ6_bitCount_0f7a4 cJ6_bitCount_0f7a4 1 (some .int) 1 := ⟨it_J6, zT_in (i := 621) rfl rfl, (by decide +kernel), (by decide +kernel), (by decide +kernel)⟩
theorem ms_J6_bitCount_0f7a4 : zMS yJ6_bitCount_0f7a4 cJ6_bitCount_0f7a4 1 (some .int) 1 := ⟨mb_J6_bitCount_0f7a4, zT_in (i := 620) (by decide +kernel) rfl⟩
set_option maxRecDepth 100000 in
theorem mb_X0_gapsAreEasy : zMB yX0_gapsAreEasy cX0_gapsAreEasy 2 (some .boolean) 0 := ⟨it_X0, zT_in (i := 629) rfl rfl, (by decide +kernel), (by decide +kernel), (by decide +kernel)⟩
theorem mv_X0_gapsAreEasy : zMV yX0_gapsAreEasy cX0_gapsAreEasy 2 (some .boolean) 0 := ⟨mb_X0_gapsAreEasy, zT_in (i := 628) (by decide +kernel) rfl, zT_in (i := 13) (by decide +kernel) rfl⟩
set_option maxRecDepth 100000 in
theorem mb_X0_asDeeds : zMB yX0_asDeeds cX0_asDeeds 5 (some .int) 2 := ⟨it_X0, zT_in (i := 634) rfl rfl, (by decide +kernel), (by decide +kernel), (by decide +kernel)⟩
theorem mv_X0_asDeeds : zMV yX0_asDeeds cX0_asDeeds 5 (some .int) 2 := ⟨mb_X0_asDeeds, zT_in (i := 633) (by decide +kernel) rfl, zT_in (i := 14) (by decide +kernel) rfl⟩
set_option maxRecDepth 100000 in
theorem mb_X4_bestCut : zMB yX4_bestCut cX4_bestCut 6 (some .int) 4 := ⟨it_X4, zT_in (i := 638) rfl rfl, (by decide +kernel), (by decide +kernel), (by decide +kernel)⟩
theorem mv_X4_bestCut : zMV yX4_bestCut cX4_bestCut 6 (some .int) 4 := ⟨mb_X4_bestCut, zT_in (i := 636) (by decide +kernel) rfl, zT_in (i := 637) (by decide +kernel) rfl⟩
set_option maxRecDepth 100000 in
theorem mb_X0_leastShowingCut : zMB yX0_leastShowingCut cX0_leastShowingCut 8 (some .int) 3 := ⟨it_X0, zT_in (i := 642) rfl rfl, (by decide +kernel), (by decide +kernel), (by decide +kernel)⟩
theorem mv_X0_leastShowingCut : zMV yX0_leastShowingCut cX0_leastShowingCut 8 (some .int) 3 := ⟨mb_X0_leastShowingCut, zT_in (i := 640) (by decide +kernel) rfl, zT_in (i := 641) (by decide +kernel) rfl⟩
set_option maxRecDepth 100000 in
theorem mb_X0_farInAll : zMB yX0_farInAll cX0_farInAll 5 (some .int) 2 := ⟨it_X0, zT_in (i := 647) rfl rfl, (by decide +kernel), (by decide +kernel), (by decide +kernel)⟩
theorem mv_X0_farInAll : zMV yX0_farInAll cX0_farInAll 5 (some .int) 2 := ⟨mb_X0_farInAll, zT_in (i := 645) (by decide +kernel) rfl, zT_in (i := 646) (by decide +kernel) rfl⟩
set_option maxRecDepth 100000 in
theorem mb_X4_wear : zMB yX4_wear cX4_wear 2 (some .int) 1 := ⟨it_X4, zT_in (i := 652) rfl rfl, (by decide +kernel), (by decide +kernel), (by decide +kernel)⟩
theorem mv_X4_wear : zMV yX4_wear cX4_wear 2 (some .int) 1 := ⟨mb_X4_wear, zT_in (i := 650) (by decide +kernel) rfl, zT_in (i := 651) (by decide +kernel) rfl⟩
set_option maxRecDepth 100000 in
theorem mb_X0_findFitting : zMB yX0_findFitting cX0_findFitting 3 none 0 := ⟨it_X0, zT_in (i := 656) rfl rfl, (by decide +kernel), (by decide +kernel), (by decide +kernel)⟩
theorem mv_X0_findFitting : zMV yX0_findFitting cX0_findFitting 3 none 0 := ⟨mb_X0_findFitting, zT_in (i := 654) (by decide +kernel) rfl, zT_in (i := 655) (by decide +kernel) rfl⟩
set_option maxRecDepth 100000 in
theorem mb_X0_matchSuits : zMB yX0_matchSuits cX0_matchSuits 3 none 0 := ⟨it_X0, zT_in (i := 660) rfl rfl, (by decide +kernel), (by decide +kernel), (by decide +kernel)⟩
theorem mv_X0_matchSuits : zMV yX0_matchSuits cX0_matchSuits 3 none 0 := ⟨mb_X0_matchSuits, zT_in (i := 658) (by decide +kernel) rfl, zT_in (i := 659) (by decide +kernel) rfl⟩
set_option maxRecDepth 100000 in
theorem mb_X0_mostFrom : zMB yX0_mostFrom cX0_mostFrom 5 (some .int) 2 := ⟨it_X0, zT_in (i := 664) rfl rfl, (by decide +kernel), (by decide +kernel), (by decide +kernel)⟩
theorem mv_X0_mostFrom : zMV yX0_mostFrom cX0_mostFrom 5 (some .int) 2 := ⟨mb_X0_mostFrom, zT_in (i := 663) (by decide +kernel) rfl, zT_in (i := 15) (by decide +kernel) rfl⟩
set_option maxRecDepth 100000 in
theorem mb_X0_isFree : zMB yX0_isFree cX0_isFree 4 (some .boolean) 3 := ⟨it_X0, zT_in (i := 668) rfl rfl, (by decide +kernel), (by decide +kernel), (by decide +kernel)⟩
theorem mv_X0_isFree : zMV yX0_isFree cX0_isFree 4 (some .boolean) 3 := ⟨mb_X0_isFree, zT_in (i := 667) (by decide +kernel) rfl, zT_in (i := 16) (by decide +kernel) rfl⟩
set_option maxRecDepth 100000 in
theorem mb_X0_mostWith : zMB yX0_mostWith cX0_mostWith 4 (some .int) 3 := ⟨it_X0, zT_in (i := 672) rfl rfl, (by decide +kernel), (by decide +kernel), (by decide +kernel)⟩
theorem mv_X0_mostWith : zMV yX0_mostWith cX0_mostWith 4 (some .int) 3 := ⟨mb_X0_mostWith, zT_in (i := 671) (by decide +kernel) rfl, zT_in (i := 17) (by decide +kernel) rfl⟩
set_option maxRecDepth 100000 in
theorem mb_X0_mostDressed : zMB yX0_mostDressed cX0_mostDressed 1 (some .int) 0 := ⟨it_X0, zT_in (i := 677) rfl rfl, (by decide +kernel), (by decide +kernel), (by decide +kernel)⟩
theorem mv_X0_mostDressed : zMV yX0_mostDressed cX0_mostDressed 1 (some .int) 0 := ⟨mb_X0_mostDressed, zT_in (i := 675) (by decide +kernel) rfl, zT_in (i := 676) (by decide +kernel) rfl⟩
set_option maxRecDepth 100000 in
theorem mb_X0_suitOf : zMB yX0_suitOf cX0_suitOf 5 (some .int) 1 := ⟨it_X0, zT_in (i := 681) rfl rfl, (by decide +kernel), (by decide +kernel), (by decide +kernel)⟩
theorem mv_X0_suitOf : zMV yX0_suitOf cX0_suitOf 5 (some .int) 1 := ⟨mb_X0_suitOf, zT_in (i := 679) (by decide +kernel) rfl, zT_in (i := 680) (by decide +kernel) rfl⟩
set_option maxRecDepth 100000 in
theorem mb_X0_firstChoice : zMB yX0_firstChoice cX0_firstChoice 4 (some .int) 2 := ⟨it_X0, zT_in (i := 685) rfl rfl, (by decide +kernel), (by decide +kernel), (by decide +kernel)⟩
theorem mv_X0_firstChoice : zMV yX0_firstChoice cX0_firstChoice 4 (some .int) 2 := ⟨mb_X0_firstChoice, zT_in (i := 684) (by decide +kernel) rfl, zT_in (i := 18) (by decide +kernel) rfl⟩
set_option maxRecDepth 100000 in
theorem mb_X4_luck : zMB yX4_luck cX4_luck 4 (some .int) 3 := ⟨it_X4, zT_in (i := 689) rfl rfl, (by decide +kernel), (by decide +kernel), (by decide +kernel)⟩
theorem mv_X4_luck : zMV yX4_luck cX4_luck 4 (some .int) 3 := ⟨mb_X4_luck, zT_in (i := 687) (by decide +kernel) rfl, zT_in (i := 688) (by decide +kernel) rfl⟩
set_option maxRecDepth 100000 in
theorem mb_X0_likelihood : zMB yX0_likelihood cX0_likelihood 8 (some .int) 3 := ⟨it_X0, zT_in (i := 693) rfl rfl, (by decide +kernel), (by decide +kernel), (by decide +kernel)⟩
theorem mv_X0_likelihood : zMV yX0_likelihood cX0_likelihood 8 (some .int) 3 := ⟨mb_X0_likelihood, zT_in (i := 691) (by decide +kernel) rfl, zT_in (i := 692) (by decide +kernel) rfl⟩
set_option maxRecDepth 100000 in
theorem mb_X0_easyReadings : zMB yX0_easyReadings cX0_easyReadings 4 (some .int) 1 := ⟨it_X0, zT_in (i := 697) rfl rfl, (by decide +kernel), (by decide +kernel), (by decide +kernel)⟩
theorem mv_X0_easyReadings : zMV yX0_easyReadings cX0_easyReadings 4 (some .int) 1 := ⟨mb_X0_easyReadings, zT_in (i := 696) (by decide +kernel) rfl, zT_in (i := 19) (by decide +kernel) rfl⟩
set_option maxRecDepth 100000 in
theorem mb_X4_warrant : zMB yX4_warrant cX4_warrant 2 (some .int) 1 := ⟨it_X4, zT_in (i := 701) rfl rfl, (by decide +kernel), (by decide +kernel), (by decide +kernel)⟩
theorem mv_X4_warrant : zMV yX4_warrant cX4_warrant 2 (some .int) 1 := ⟨mb_X4_warrant, zT_in (i := 699) (by decide +kernel) rfl, zT_in (i := 700) (by decide +kernel) rfl⟩
set_option maxRecDepth 100000 in
theorem mb_X0_longerByAtLeast : zMB yX0_longerByAtLeast cX0_longerByAtLeast 5 (some .int) 1 := ⟨it_X0, zT_in (i := 705) rfl rfl, (by decide +kernel), (by decide +kernel), (by decide +kernel)⟩
theorem mv_X0_longerByAtLeast : zMV yX0_longerByAtLeast cX0_longerByAtLeast 5 (some .int) 1 := ⟨mb_X0_longerByAtLeast, zT_in (i := 703) (by decide +kernel) rfl, zT_in (i := 704) (by decide +kernel) rfl⟩
set_option maxRecDepth 100000 in
theorem mb_X4_image : zMB yX4_image cX4_image 1 (some .int) 0 := ⟨it_X4, zT_in (i := 710) rfl rfl, (by decide +kernel), (by decide +kernel), (by decide +kernel)⟩
theorem mv_X4_image : zMV yX4_image cX4_image 1 (some .int) 0 := ⟨mb_X4_image, zT_in (i := 708) (by decide +kernel) rfl, zT_in (i := 709) (by decide +kernel) rfl⟩
set_option maxRecDepth 100000 in
theorem mb_X3_takeAll : zMB yX3_takeAll cX3_takeAll 2 none 1 := ⟨it_X3, zT_in (i := 714) rfl rfl, (by decide +kernel), (by decide +kernel), (by decide +kernel)⟩
theorem mv_X3_takeAll : zMV yX3_takeAll cX3_takeAll 2 none 1 := ⟨mb_X3_takeAll, zT_in (i := 712) (by decide +kernel) rfl, zT_in (i := 713) (by decide +kernel) rfl⟩
set_option maxRecDepth 100000 in
theorem mb_X4_restore : zMB yX4_restore cX4_restore 1 (some .int) 0 := ⟨it_X4, zT_in (i := 718) rfl rfl, (by decide +kernel), (by decide +kernel), (by decide +kernel)⟩
theorem mv_X4_restore : zMV yX4_restore cX4_restore 1 (some .int) 0 := ⟨mb_X4_restore, zT_in (i := 716) (by decide +kernel) rfl, zT_in (i := 717) (by decide +kernel) rfl⟩
set_option maxRecDepth 100000 in
theorem mb_X4_done : zMB yX4_done cX4_done 8 (some .int) 5 := ⟨it_X4, zT_in (i := 722) rfl rfl, (by decide +kernel), (by decide +kernel), (by decide +kernel)⟩
theorem mv_X4_done : zMV yX4_done cX4_done 8 (some .int) 5 := ⟨mb_X4_done, zT_in (i := 720) (by decide +kernel) rfl, zT_in (i := 721) (by decide +kernel) rfl⟩
set_option maxRecDepth 100000 in
theorem mb_X4_isSheet : zMB yX4_isSheet cX4_isSheet 1 (some .boolean) 1 := ⟨it_X4, zT_in (i := 725) rfl rfl, (by decide +kernel), (by decide +kernel), (by decide +kernel)⟩
theorem ms_X4_isSheet : zMS yX4_isSheet cX4_isSheet 1 (some .boolean) 1 := ⟨mb_X4_isSheet, zT_in (i := 724) (by decide +kernel) rfl⟩
set_option maxRecDepth 100000 in
theorem mb_X4_isLane : zMB yX4_isLane cX4_isLane 1 (some .boolean) 1 := ⟨it_X4, zT_in (i := 728) rfl rfl, (by decide +kernel), (by decide +kernel), (by decide +kernel)⟩
theorem ms_X4_isLane : zMS yX4_isLane cX4_isLane 1 (some .boolean) 1 := ⟨mb_X4_isLane, zT_in (i := 727) (by decide +kernel) rfl⟩
set_option maxRecDepth 100000 in
theorem mb_X2_refusal : zMB yX2_refusal cX2_refusal 4 (some .int) 3 := ⟨it_X2, zT_in (i := 732) rfl rfl, (by decide +kernel), (by decide +kernel), (by decide +kernel)⟩
theorem mv_X2_refusal : zMV yX2_refusal cX2_refusal 4 (some .int) 3 := ⟨mb_X2_refusal, zT_in (i := 730) (by decide +kernel) rfl, zT_in (i := 731) (by decide +kernel) rfl⟩
set_option maxRecDepth 100000 in
theorem mb_X2_holds : zMB yX2_holds cX2_holds 3 (some .boolean) 2 := ⟨it_X2, zT_in (i := 736) rfl rfl, (by decide +kernel), (by decide +kernel), (by decide +kernel)⟩
theorem mv_X2_holds : zMV yX2_holds cX2_holds 3 (some .boolean) 2 := ⟨mb_X2_holds, zT_in (i := 734) (by decide +kernel) rfl, zT_in (i := 735) (by decide +kernel) rfl⟩
set_option maxRecDepth 100000 in
theorem mb_X0_explain : zMB yX0_explain cX0_explain 6 none 3 := ⟨it_X0, zT_in (i := 740) rfl rfl, (by decide +kernel), (by decide +kernel), (by decide +kernel)⟩
theorem mv_X0_explain : zMV yX0_explain cX0_explain 6 none 3 := ⟨mb_X0_explain, zT_in (i := 738) (by decide +kernel) rfl, zT_in (i := 739) (by decide +kernel) rfl⟩
set_option maxRecDepth 100000 in
theorem mb_X0_addsUpTo : zMB yX0_addsUpTo cX0_addsUpTo 9 (some .boolean) 3 := ⟨it_X0, zT_in (i := 744) rfl rfl, (by decide +kernel), (by decide +kernel), (by decide +kernel)⟩
theorem mv_X0_addsUpTo : zMV yX0_addsUpTo cX0_addsUpTo 9 (some .boolean) 3 := ⟨mb_X0_addsUpTo, zT_in (i := 743) (by decide +kernel) rfl, zT_in (i := 20) (by decide +kernel) rfl⟩
set_option maxRecDepth 100000 in
theorem mb_X4_film : zMB yX4_film cX4_film 10 (some .int) 6 := ⟨it_X4, zT_in (i := 748) rfl rfl, (by decide +kernel), (by decide +kernel), (by decide +kernel)⟩
theorem mv_X4_film : zMV yX4_film cX4_film 10 (some .int) 6 := ⟨mb_X4_film, zT_in (i := 746) (by decide +kernel) rfl, zT_in (i := 747) (by decide +kernel) rfl⟩
set_option maxRecDepth 100000 in
theorem mb_X2_put : zMB yX2_put cX2_put 4 none 2 := ⟨it_X2, zT_in (i := 752) rfl rfl, (by decide +kernel), (by decide +kernel), (by decide +kernel)⟩
theorem mv_X2_put : zMV yX2_put cX2_put 4 none 2 := ⟨mb_X2_put, zT_in (i := 750) (by decide +kernel) rfl, zT_in (i := 751) (by decide +kernel) rfl⟩
set_option maxRecDepth 100000 in
theorem mb_X2_lowestBits : zMB yX2_lowestBits cX2_lowestBits 3 (some .long) 1 := ⟨it_X2, zT_in (i := 757) rfl rfl, (by decide +kernel), (by decide +kernel), (by decide +kernel)⟩
theorem mv_X2_lowestBits : zMV yX2_lowestBits cX2_lowestBits 3 (some .long) 1 := ⟨mb_X2_lowestBits, zT_in (i := 755) (by decide +kernel) rfl, zT_in (i := 21) (by decide +kernel) rfl⟩
set_option maxRecDepth 100000 in
theorem mb_X4_sheet : zMB yX4_sheet cX4_sheet 4 (some .int) 3 := ⟨it_X4, zT_in (i := 761) rfl rfl, (by decide +kernel), (by decide +kernel), (by decide +kernel)⟩
theorem mv_X4_sheet : zMV yX4_sheet cX4_sheet 4 (some .int) 3 := ⟨mb_X4_sheet, zT_in (i := 759) (by decide +kernel) rfl, zT_in (i := 760) (by decide +kernel) rfl⟩
set_option maxRecDepth 100000 in
theorem mb_X2_init : zMB yX2_init cX2_init 3 none 2 := ⟨it_X2, zT_in (i := 764) rfl rfl, (by decide +kernel), (by decide +kernel), (by decide +kernel)⟩
theorem mi_X2_init : zMI yX2_init cX2_init 3 2 := ⟨mb_X2_init, zT_in (i := 763) (by decide +kernel) rfl, rfl⟩
set_option maxRecDepth 100000 in
theorem mb_X4_drop : zMB yX4_drop cX4_drop 3 (some .int) 1 := ⟨it_X4, zT_in (i := 779) rfl rfl, (by decide +kernel), (by decide +kernel), (by decide +kernel)⟩
theorem mv_X4_drop : zMV yX4_drop cX4_drop 3 (some .int) 1 := ⟨mb_X4_drop, zT_in (i := 777) (by decide +kernel) rfl, zT_in (i := 778) (by decide +kernel) rfl⟩
set_option maxRecDepth 100000 in
theorem mb_X4_item : zMB yX4_item cX4_item 8 (some .int) 4 := ⟨it_X4, zT_in (i := 783) rfl rfl, (by decide +kernel), (by decide +kernel), (by decide +kernel)⟩
theorem mv_X4_item : zMV yX4_item cX4_item 8 (some .int) 4 := ⟨mb_X4_item, zT_in (i := 781) (by decide +kernel) rfl, zT_in (i := 782) (by decide +kernel) rfl⟩
set_option maxRecDepth 100000 in
theorem mb_X4_copy : zMB yX4_copy cX4_copy 8 (some .int) 5 := ⟨it_X4, zT_in (i := 787) rfl rfl, (by decide +kernel), (by decide +kernel), (by decide +kernel)⟩
theorem mv_X4_copy : zMV yX4_copy cX4_copy 8 (some .int) 5 := ⟨mb_X4_copy, zT_in (i := 785) (by decide +kernel) rfl, zT_in (i := 786) (by decide +kernel) rfl⟩
set_option maxRecDepth 100000 in
theorem mb_X5_init : zMB yX5_init cX5_init 2 none 0 := ⟨it_X5, zT_in (i := 794) rfl rfl, (by decide +kernel), (by decide +kernel), (by decide +kernel)⟩
theorem mi_X5_init : zMI yX5_init cX5_init 2 0 := ⟨mb_X5_init, zT_in (i := 793) (by decide +kernel) rfl, rfl⟩
set_option maxRecDepth 100000 in
theorem mb_X5_person : zMB yX5_person cX5_person 5 (some .int) 2 := ⟨it_X5, zT_in (i := 848) rfl rfl, (by decide +kernel), (by decide +kernel), (by decide +kernel)⟩
theorem mv_X5_person : zMV yX5_person cX5_person 5 (some .int) 2 := ⟨mb_X5_person, zT_in (i := 846) (by decide +kernel) rfl, zT_in (i := 847) (by decide +kernel) rfl⟩
set_option maxRecDepth 100000 in
theorem mb_X5_in : zMB yX5_in cX5_in 6 (some .boolean) 3 := ⟨it_X5, zT_in (i := 852) rfl rfl, (by decide +kernel), (by decide +kernel), (by decide +kernel)⟩
theorem ms_X5_in : zMS yX5_in cX5_in 6 (some .boolean) 3 := ⟨mb_X5_in, zT_in (i := 851) (by decide +kernel) rfl⟩
set_option maxRecDepth 100000 in
theorem mb_X5_own : zMB yX5_own cX5_own 5 (some .int) 3 := ⟨it_X5, zT_in (i := 858) rfl rfl, (by decide +kernel), (by decide +kernel), (by decide +kernel)⟩
theorem mv_X5_own : zMV yX5_own cX5_own 5 (some .int) 3 := ⟨mb_X5_own, zT_in (i := 856) (by decide +kernel) rfl, zT_in (i := 857) (by decide +kernel) rfl⟩
set_option maxRecDepth 100000 in
theorem mb_X5_isPerson : zMB yX5_isPerson cX5_isPerson 2 (some .boolean) 1 := ⟨it_X5, zT_in (i := 862) rfl rfl, (by decide +kernel), (by decide +kernel), (by decide +kernel)⟩
theorem mv_X5_isPerson : zMV yX5_isPerson cX5_isPerson 2 (some .boolean) 1 := ⟨mb_X5_isPerson, zT_in (i := 861) (by decide +kernel) rfl, zT_in (i := 22) (by decide +kernel) rfl⟩
set_option maxRecDepth 100000 in
theorem mb_X5_isMeasure : zMB yX5_isMeasure cX5_isMeasure 1 (some .boolean) 1 := ⟨it_X5, zT_in (i := 865) rfl rfl, (by decide +kernel), (by decide +kernel), (by decide +kernel)⟩
theorem ms_X5_isMeasure : zMS yX5_isMeasure cX5_isMeasure 1 (some .boolean) 1 := ⟨mb_X5_isMeasure, zT_in (i := 864) (by decide +kernel) rfl⟩
set_option maxRecDepth 100000 in
theorem mb_X5_ownOf : zMB yX5_ownOf cX5_ownOf 3 (some .int) 2 := ⟨it_X5, zT_in (i := 870) rfl rfl, (by decide +kernel), (by decide +kernel), (by decide +kernel)⟩
theorem mv_X5_ownOf : zMV yX5_ownOf cX5_ownOf 3 (some .int) 2 := ⟨mb_X5_ownOf, zT_in (i := 869) (by decide +kernel) rfl, zT_in (i := 23) (by decide +kernel) rfl⟩
set_option maxRecDepth 100000 in
theorem mb_X5_suit : zMB yX5_suit cX5_suit 3 (some .int) 1 := ⟨it_X5, zT_in (i := 874) rfl rfl, (by decide +kernel), (by decide +kernel), (by decide +kernel)⟩
theorem mv_X5_suit : zMV yX5_suit cX5_suit 3 (some .int) 1 := ⟨mb_X5_suit, zT_in (i := 872) (by decide +kernel) rfl, zT_in (i := 873) (by decide +kernel) rfl⟩
set_option maxRecDepth 100000 in
theorem mb_X5_cut : zMB yX5_cut cX5_cut 5 (some .int) 3 := ⟨it_X5, zT_in (i := 879) rfl rfl, (by decide +kernel), (by decide +kernel), (by decide +kernel)⟩
theorem mv_X5_cut : zMV yX5_cut cX5_cut 5 (some .int) 3 := ⟨mb_X5_cut, zT_in (i := 877) (by decide +kernel) rfl, zT_in (i := 878) (by decide +kernel) rfl⟩
set_option maxRecDepth 100000 in
theorem mb_X5_isSuit : zMB yX5_isSuit cX5_isSuit 2 (some .boolean) 1 := ⟨it_X5, zT_in (i := 883) rfl rfl, (by decide +kernel), (by decide +kernel), (by decide +kernel)⟩
theorem mv_X5_isSuit : zMV yX5_isSuit cX5_isSuit 2 (some .boolean) 1 := ⟨mb_X5_isSuit, zT_in (i := 882) (by decide +kernel) rfl, zT_in (i := 24) (by decide +kernel) rfl⟩
set_option maxRecDepth 100000 in
theorem mb_X5_cutOf : zMB yX5_cutOf cX5_cutOf 3 (some .int) 2 := ⟨it_X5, zT_in (i := 887) rfl rfl, (by decide +kernel), (by decide +kernel), (by decide +kernel)⟩
theorem mv_X5_cutOf : zMV yX5_cutOf cX5_cutOf 3 (some .int) 2 := ⟨mb_X5_cutOf, zT_in (i := 886) (by decide +kernel) rfl, zT_in (i := 25) (by decide +kernel) rfl⟩
set_option maxRecDepth 100000 in
theorem mb_X5_of : zMB yX5_of cX5_of 3 (some .int) 2 := ⟨it_X5, zT_in (i := 891) rfl rfl, (by decide +kernel), (by decide +kernel), (by decide +kernel)⟩
theorem mv_X5_of : zMV yX5_of cX5_of 3 (some .int) 2 := ⟨mb_X5_of, zT_in (i := 889) (by decide +kernel) rfl, zT_in (i := 890) (by decide +kernel) rfl⟩
set_option maxRecDepth 100000 in
theorem mb_X5_today : zMB yX5_today cX5_today 3 (some .int) 2 := ⟨it_X5, zT_in (i := 896) rfl rfl, (by decide +kernel), (by decide +kernel), (by decide +kernel)⟩
theorem mv_X5_today : zMV yX5_today cX5_today 3 (some .int) 2 := ⟨mb_X5_today, zT_in (i := 895) (by decide +kernel) rfl, zT_in (i := 26) (by decide +kernel) rfl⟩
set_option maxRecDepth 100000 in
theorem mb_X5_measure : zMB yX5_measure cX5_measure 7 (some .int) 4 := ⟨it_X5, zT_in (i := 900) rfl rfl, (by decide +kernel), (by decide +kernel), (by decide +kernel)⟩
theorem mv_X5_measure : zMV yX5_measure cX5_measure 7 (some .int) 4 := ⟨mb_X5_measure, zT_in (i := 899) (by decide +kernel) rfl, zT_in (i := 27) (by decide +kernel) rfl⟩
set_option maxRecDepth 100000 in
theorem mb_X5_told : zMB yX5_told cX5_told 3 (some .int) 2 := ⟨it_X5, zT_in (i := 904) rfl rfl, (by decide +kernel), (by decide +kernel), (by decide +kernel)⟩
theorem mv_X5_told : zMV yX5_told cX5_told 3 (some .int) 2 := ⟨mb_X5_told, zT_in (i := 903) (by decide +kernel) rfl, zT_in (i := 28) (by decide +kernel) rfl⟩
set_option maxRecDepth 100000 in
theorem mb_X5_kind : zMB yX5_kind cX5_kind 2 (some .int) 1 := ⟨it_X5, zT_in (i := 908) rfl rfl, (by decide +kernel), (by decide +kernel), (by decide +kernel)⟩
theorem mv_X5_kind : zMV yX5_kind cX5_kind 2 (some .int) 1 := ⟨mb_X5_kind, zT_in (i := 907) (by decide +kernel) rfl, zT_in (i := 29) (by decide +kernel) rfl⟩
set_option maxRecDepth 100000 in
theorem mb_X5_left : zMB yX5_left cX5_left 5 (some .int) 3 := ⟨it_X5, zT_in (i := 912) rfl rfl, (by decide +kernel), (by decide +kernel), (by decide +kernel)⟩
theorem mv_X5_left : zMV yX5_left cX5_left 5 (some .int) 3 := ⟨mb_X5_left, zT_in (i := 911) (by decide +kernel) rfl, zT_in (i := 30) (by decide +kernel) rfl⟩
set_option maxRecDepth 100000 in
theorem mb_X5_longer : zMB yX5_longer cX5_longer 6 (some .int) 4 := ⟨it_X5, zT_in (i := 915) rfl rfl, (by decide +kernel), (by decide +kernel), (by decide +kernel)⟩
theorem ms_X5_longer : zMS yX5_longer cX5_longer 6 (some .int) 4 := ⟨mb_X5_longer, zT_in (i := 914) (by decide +kernel) rfl⟩
set_option maxRecDepth 100000 in
theorem mb_X5_shows : zMB yX5_shows cX5_shows 2 (some .boolean) 2 := ⟨it_X5, zT_in (i := 918) rfl rfl, (by decide +kernel), (by decide +kernel), (by decide +kernel)⟩
theorem ms_X5_shows : zMS yX5_shows cX5_shows 2 (some .boolean) 2 := ⟨mb_X5_shows, zT_in (i := 917) (by decide +kernel) rfl⟩
set_option maxRecDepth 100000 in
theorem mb_X5_deedsOf : zMB yX5_deedsOf cX5_deedsOf 4 (some .int) 1 := ⟨it_X5, zT_in (i := 922) rfl rfl, (by decide +kernel), (by decide +kernel), (by decide +kernel)⟩
theorem mv_X5_deedsOf : zMV yX5_deedsOf cX5_deedsOf 4 (some .int) 1 := ⟨mb_X5_deedsOf, zT_in (i := 921) (by decide +kernel) rfl, zT_in (i := 31) (by decide +kernel) rfl⟩
set_option maxRecDepth 100000 in
theorem mb_X5_deed : zMB yX5_deed cX5_deed 3 (some .int) 2 := ⟨it_X5, zT_in (i := 926) rfl rfl, (by decide +kernel), (by decide +kernel), (by decide +kernel)⟩
theorem mv_X5_deed : zMV yX5_deed cX5_deed 3 (some .int) 2 := ⟨mb_X5_deed, zT_in (i := 924) (by decide +kernel) rfl, zT_in (i := 925) (by decide +kernel) rfl⟩
set_option maxRecDepth 100000 in
theorem mb_X5_isDeed : zMB yX5_isDeed cX5_isDeed 2 (some .boolean) 1 := ⟨it_X5, zT_in (i := 930) rfl rfl, (by decide +kernel), (by decide +kernel), (by decide +kernel)⟩
theorem mv_X5_isDeed : zMV yX5_isDeed cX5_isDeed 2 (some .boolean) 1 := ⟨mb_X5_isDeed, zT_in (i := 929) (by decide +kernel) rfl, zT_in (i := 32) (by decide +kernel) rfl⟩
set_option maxRecDepth 100000 in
theorem mb_X5_tries : zMB yX5_tries cX5_tries 4 (some .int) 3 := ⟨it_X5, zT_in (i := 935) rfl rfl, (by decide +kernel), (by decide +kernel), (by decide +kernel)⟩
theorem mv_X5_tries : zMV yX5_tries cX5_tries 4 (some .int) 3 := ⟨mb_X5_tries, zT_in (i := 933) (by decide +kernel) rfl, zT_in (i := 934) (by decide +kernel) rfl⟩
set_option maxRecDepth 100000 in
theorem mb_X5_showsOn : zMB yX5_showsOn cX5_showsOn 6 (some .int) 3 := ⟨it_X5, zT_in (i := 939) rfl rfl, (by decide +kernel), (by decide +kernel), (by decide +kernel)⟩
theorem mv_X5_showsOn : zMV yX5_showsOn cX5_showsOn 6 (some .int) 3 := ⟨mb_X5_showsOn, zT_in (i := 938) (by decide +kernel) rfl, zT_in (i := 33) (by decide +kernel) rfl⟩
set_option maxRecDepth 100000 in
theorem mb_X5_apart : zMB yX5_apart cX5_apart 2 (some .int) 2 := ⟨it_X5, zT_in (i := 942) rfl rfl, (by decide +kernel), (by decide +kernel), (by decide +kernel)⟩
theorem ms_X5_apart : zMS yX5_apart cX5_apart 2 (some .int) 2 := ⟨mb_X5_apart, zT_in (i := 941) (by decide +kernel) rfl⟩
set_option maxRecDepth 100000 in
theorem mb_X5_fitsNow : zMB yX5_fitsNow cX5_fitsNow 3 (some .boolean) 2 := ⟨it_X5, zT_in (i := 946) rfl rfl, (by decide +kernel), (by decide +kernel), (by decide +kernel)⟩
theorem mv_X5_fitsNow : zMV yX5_fitsNow cX5_fitsNow 3 (some .boolean) 2 := ⟨mb_X5_fitsNow, zT_in (i := 945) (by decide +kernel) rfl, zT_in (i := 34) (by decide +kernel) rfl⟩
set_option maxRecDepth 100000 in
theorem mb_X5_fits : zMB yX5_fits cX5_fits 7 (some .boolean) 4 := ⟨it_X5, zT_in (i := 950) rfl rfl, (by decide +kernel), (by decide +kernel), (by decide +kernel)⟩
theorem mv_X5_fits : zMV yX5_fits cX5_fits 7 (some .boolean) 4 := ⟨mb_X5_fits, zT_in (i := 949) (by decide +kernel) rfl, zT_in (i := 35) (by decide +kernel) rfl⟩
set_option maxRecDepth 100000 in
theorem mb_X5_rule : zMB yX5_rule cX5_rule 4 (some .int) 2 := ⟨it_X5, zT_in (i := 954) rfl rfl, (by decide +kernel), (by decide +kernel), (by decide +kernel)⟩
theorem mv_X5_rule : zMV yX5_rule cX5_rule 4 (some .int) 2 := ⟨mb_X5_rule, zT_in (i := 952) (by decide +kernel) rfl, zT_in (i := 953) (by decide +kernel) rfl⟩
set_option maxRecDepth 100000 in
theorem mb_X5_count : zMB yX5_count cX5_count 2 (some .int) 1 := ⟨it_X5, zT_in (i := 959) rfl rfl, (by decide +kernel), (by decide +kernel), (by decide +kernel)⟩
theorem mv_X5_count : zMV yX5_count cX5_count 2 (some .int) 1 := ⟨mb_X5_count, zT_in (i := 957) (by decide +kernel) rfl, zT_in (i := 958) (by decide +kernel) rfl⟩
set_option maxRecDepth 100000 in
theorem mb_X5_leftOfAll : zMB yX5_leftOfAll cX5_leftOfAll 3 (some .int) 0 := ⟨it_X5, zT_in (i := 964) rfl rfl, (by decide +kernel), (by decide +kernel), (by decide +kernel)⟩
theorem mv_X5_leftOfAll : zMV yX5_leftOfAll cX5_leftOfAll 3 (some .int) 0 := ⟨mb_X5_leftOfAll, zT_in (i := 963) (by decide +kernel) rfl, zT_in (i := 36) (by decide +kernel) rfl⟩
set_option maxRecDepth 100000 in
theorem mb_X5_type : zMB yX5_type cX5_type 2 (some .int) 1 := ⟨it_X5, zT_in (i := 968) rfl rfl, (by decide +kernel), (by decide +kernel), (by decide +kernel)⟩
theorem mv_X5_type : zMV yX5_type cX5_type 2 (some .int) 1 := ⟨mb_X5_type, zT_in (i := 966) (by decide +kernel) rfl, zT_in (i := 967) (by decide +kernel) rfl⟩
set_option maxRecDepth 100000 in
theorem mb_X5_wardrobe : zMB yX5_wardrobe cX5_wardrobe 5 (some .int) 0 := ⟨it_X5, zT_in (i := 974) rfl rfl, (by decide +kernel), (by decide +kernel), (by decide +kernel)⟩
theorem mv_X5_wardrobe : zMV yX5_wardrobe cX5_wardrobe 5 (some .int) 0 := ⟨mb_X5_wardrobe, zT_in (i := 972) (by decide +kernel) rfl, zT_in (i := 973) (by decide +kernel) rfl⟩
set_option maxRecDepth 100000 in
theorem mb_X5_number : zMB yX5_number cX5_number 6 (some .int) 2 := ⟨it_X5, zT_in (i := 978) rfl rfl, (by decide +kernel), (by decide +kernel), (by decide +kernel)⟩
theorem mv_X5_number : zMV yX5_number cX5_number 6 (some .int) 2 := ⟨mb_X5_number, zT_in (i := 977) (by decide +kernel) rfl, zT_in (i := 37) (by decide +kernel) rfl⟩
set_option maxRecDepth 100000 in
theorem mb_X5_here : zMB yX5_here cX5_here 1 (some .int) 0 := ⟨it_X5, zT_in (i := 982) rfl rfl, (by decide +kernel), (by decide +kernel), (by decide +kernel)⟩
theorem mv_X5_here : zMV yX5_here cX5_here 1 (some .int) 0 := ⟨mb_X5_here, zT_in (i := 981) (by decide +kernel) rfl, zT_in (i := 38) (by decide +kernel) rfl⟩
set_option maxRecDepth 100000 in
theorem mb_X5_must : zMB yX5_must cX5_must 2 none 1 := ⟨it_X5, zT_in (i := 988) rfl rfl, (by decide +kernel), (by decide +kernel), (by decide +kernel)⟩
theorem mv_X5_must : zMV yX5_must cX5_must 2 none 1 := ⟨mb_X5_must, zT_in (i := 987) (by decide +kernel) rfl, zT_in (i := 39) (by decide +kernel) rfl⟩
set_option maxRecDepth 100000 in
theorem mb_X5_readPeople : zMB yX5_readPeople cX5_readPeople 4 (some .int) 0 := ⟨it_X5, zT_in (i := 992) rfl rfl, (by decide +kernel), (by decide +kernel), (by decide +kernel)⟩
theorem mv_X5_readPeople : zMV yX5_readPeople cX5_readPeople 4 (some .int) 0 := ⟨mb_X5_readPeople, zT_in (i := 991) (by decide +kernel) rfl, zT_in (i := 40) (by decide +kernel) rfl⟩
set_option maxRecDepth 100000 in
theorem mb_X5_readFour : zMB yX5_readFour cX5_readFour 6 none 3 := ⟨it_X5, zT_in (i := 996) rfl rfl, (by decide +kernel), (by decide +kernel), (by decide +kernel)⟩
theorem mv_X5_readFour : zMV yX5_readFour cX5_readFour 6 none 3 := ⟨mb_X5_readFour, zT_in (i := 995) (by decide +kernel) rfl, zT_in (i := 41) (by decide +kernel) rfl⟩
set_option maxRecDepth 100000 in
theorem mb_X5_readSuits : zMB yX5_readSuits cX5_readSuits 2 (some .int) 0 := ⟨it_X5, zT_in (i := 1000) rfl rfl, (by decide +kernel), (by decide +kernel), (by decide +kernel)⟩
theorem mv_X5_readSuits : zMV yX5_readSuits cX5_readSuits 2 (some .int) 0 := ⟨mb_X5_readSuits, zT_in (i := 999) (by decide +kernel) rfl, zT_in (i := 42) (by decide +kernel) rfl⟩
set_option maxRecDepth 100000 in
theorem mb_X5_does : zMB yX5_does cX5_does 4 (some .int) 3 := ⟨it_X5, zT_in (i := 1004) rfl rfl, (by decide +kernel), (by decide +kernel), (by decide +kernel)⟩
theorem mv_X5_does : zMV yX5_does cX5_does 4 (some .int) 3 := ⟨mb_X5_does, zT_in (i := 1002) (by decide +kernel) rfl, zT_in (i := 1003) (by decide +kernel) rfl⟩
set_option maxRecDepth 100000 in
theorem mb_X5_notes : zMB yX5_notes cX5_notes 3 none 0 := ⟨it_X5, zT_in (i := 1008) rfl rfl, (by decide +kernel), (by decide +kernel), (by decide +kernel)⟩
theorem mv_X5_notes : zMV yX5_notes cX5_notes 3 none 0 := ⟨mb_X5_notes, zT_in (i := 1007) (by decide +kernel) rfl, zT_in (i := 43) (by decide +kernel) rfl⟩
set_option maxRecDepth 100000 in
theorem mb_X5_isDone : zMB yX5_isDone cX5_isDone 5 none 3 := ⟨it_X5, zT_in (i := 1012) rfl rfl, (by decide +kernel), (by decide +kernel), (by decide +kernel)⟩
theorem mv_X5_isDone : zMV yX5_isDone cX5_isDone 5 none 3 := ⟨mb_X5_isDone, zT_in (i := 1011) (by decide +kernel) rfl, zT_in (i := 44) (by decide +kernel) rfl⟩
set_option maxRecDepth 100000 in
theorem mb_X5_mend : zMB yX5_mend cX5_mend 2 (some .int) 1 := ⟨it_X5, zT_in (i := 1016) rfl rfl, (by decide +kernel), (by decide +kernel), (by decide +kernel)⟩
theorem mv_X5_mend : zMV yX5_mend cX5_mend 2 (some .int) 1 := ⟨mb_X5_mend, zT_in (i := 1014) (by decide +kernel) rfl, zT_in (i := 1015) (by decide +kernel) rfl⟩
set_option maxRecDepth 100000 in
theorem mb_X5_days : zMB yX5_days cX5_days 3 (some .int) 1 := ⟨it_X5, zT_in (i := 1020) rfl rfl, (by decide +kernel), (by decide +kernel), (by decide +kernel)⟩
theorem mv_X5_days : zMV yX5_days cX5_days 3 (some .int) 1 := ⟨mb_X5_days, zT_in (i := 1018) (by decide +kernel) rfl, zT_in (i := 1019) (by decide +kernel) rfl⟩
set_option maxRecDepth 100000 in
theorem mb_X5_drift : zMB yX5_drift cX5_drift 5 (some .int) 1 := ⟨it_X5, zT_in (i := 1024) rfl rfl, (by decide +kernel), (by decide +kernel), (by decide +kernel)⟩
theorem mv_X5_drift : zMV yX5_drift cX5_drift 5 (some .int) 1 := ⟨mb_X5_drift, zT_in (i := 1022) (by decide +kernel) rfl, zT_in (i := 1023) (by decide +kernel) rfl⟩
set_option maxRecDepth 100000 in
theorem mb_X5_undo : zMB yX5_undo cX5_undo 3 (some .int) 0 := ⟨it_X5, zT_in (i := 1032) rfl rfl, (by decide +kernel), (by decide +kernel), (by decide +kernel)⟩
theorem mv_X5_undo : zMV yX5_undo cX5_undo 3 (some .int) 0 := ⟨mb_X5_undo, zT_in (i := 1030) (by decide +kernel) rfl, zT_in (i := 1031) (by decide +kernel) rfl⟩
set_option maxRecDepth 100000 in
theorem mb_X5_seed : zMB yX5_seed cX5_seed 3 (some .int) 1 := ⟨it_X5, zT_in (i := 1036) rfl rfl, (by decide +kernel), (by decide +kernel), (by decide +kernel)⟩
theorem mv_X5_seed : zMV yX5_seed cX5_seed 3 (some .int) 1 := ⟨mb_X5_seed, zT_in (i := 1034) (by decide +kernel) rfl, zT_in (i := 1035) (by decide +kernel) rfl⟩
set_option maxRecDepth 100000 in
theorem mb_X5_ahead : zMB yX5_ahead cX5_ahead 4 (some .int) 3 := ⟨it_X5, zT_in (i := 1040) rfl rfl, (by decide +kernel), (by decide +kernel), (by decide +kernel)⟩
theorem mv_X5_ahead : zMV yX5_ahead cX5_ahead 4 (some .int) 3 := ⟨mb_X5_ahead, zT_in (i := 1038) (by decide +kernel) rfl, zT_in (i := 1039) (by decide +kernel) rfl⟩
set_option maxRecDepth 100000 in
theorem mb_X5_showsAhead : zMB yX5_showsAhead cX5_showsAhead 4 (some .int) 3 := ⟨it_X5, zT_in (i := 1044) rfl rfl, (by decide +kernel), (by decide +kernel), (by decide +kernel)⟩
theorem mv_X5_showsAhead : zMV yX5_showsAhead cX5_showsAhead 4 (some .int) 3 := ⟨mb_X5_showsAhead, zT_in (i := 1042) (by decide +kernel) rfl, zT_in (i := 1043) (by decide +kernel) rfl⟩
set_option maxRecDepth 100000 in
theorem mb_X5_again : zMB yX5_again cX5_again 4 (some .int) 2 := ⟨it_X5, zT_in (i := 1048) rfl rfl, (by decide +kernel), (by decide +kernel), (by decide +kernel)⟩
theorem mv_X5_again : zMV yX5_again cX5_again 4 (some .int) 2 := ⟨mb_X5_again, zT_in (i := 1046) (by decide +kernel) rfl, zT_in (i := 1047) (by decide +kernel) rfl⟩
set_option maxRecDepth 100000 in
theorem mb_X5_wedding : zMB yX5_wedding cX5_wedding 9 (some .int) 4 := ⟨it_X5, zT_in (i := 1052) rfl rfl, (by decide +kernel), (by decide +kernel), (by decide +kernel)⟩
theorem mv_X5_wedding : zMV yX5_wedding cX5_wedding 9 (some .int) 4 := ⟨mb_X5_wedding, zT_in (i := 1050) (by decide +kernel) rfl, zT_in (i := 1051) (by decide +kernel) rfl⟩
set_option maxRecDepth 100000 in
theorem mb_X5_many : zMB yX5_many cX5_many 3 (some .int) 1 := ⟨it_X5, zT_in (i := 1055) rfl rfl, (by decide +kernel), (by decide +kernel), (by decide +kernel)⟩
theorem ms_X5_many : zMS yX5_many cX5_many 3 (some .int) 1 := ⟨mb_X5_many, zT_in (i := 1054) (by decide +kernel) rfl⟩
set_option maxRecDepth 100000 in
theorem mb_X5_bestCut : zMB yX5_bestCut cX5_bestCut 10 (some .int) 4 := ⟨it_X5, zT_in (i := 1059) rfl rfl, (by decide +kernel), (by decide +kernel), (by decide +kernel)⟩
theorem mv_X5_bestCut : zMV yX5_bestCut cX5_bestCut 10 (some .int) 4 := ⟨mb_X5_bestCut, zT_in (i := 1057) (by decide +kernel) rfl, zT_in (i := 1058) (by decide +kernel) rfl⟩
set_option maxRecDepth 100000 in
theorem mb_X5_wear : zMB yX5_wear cX5_wear 13 (some .int) 1 := ⟨it_X5, zT_in (i := 1064) rfl rfl, (by decide +kernel), (by decide +kernel), (by decide +kernel)⟩
theorem mv_X5_wear : zMV yX5_wear cX5_wear 13 (some .int) 1 := ⟨mb_X5_wear, zT_in (i := 1062) (by decide +kernel) rfl, zT_in (i := 1063) (by decide +kernel) rfl⟩
set_option maxRecDepth 100000 in
theorem mb_X5_luck : zMB yX5_luck cX5_luck 9 (some .int) 3 := ⟨it_X5, zT_in (i := 1068) rfl rfl, (by decide +kernel), (by decide +kernel), (by decide +kernel)⟩
theorem mv_X5_luck : zMV yX5_luck cX5_luck 9 (some .int) 3 := ⟨mb_X5_luck, zT_in (i := 1066) (by decide +kernel) rfl, zT_in (i := 1067) (by decide +kernel) rfl⟩
set_option maxRecDepth 100000 in
theorem mb_X5_warrant : zMB yX5_warrant cX5_warrant 5 (some .int) 1 := ⟨it_X5, zT_in (i := 1072) rfl rfl, (by decide +kernel), (by decide +kernel), (by decide +kernel)⟩
theorem mv_X5_warrant : zMV yX5_warrant cX5_warrant 5 (some .int) 1 := ⟨mb_X5_warrant, zT_in (i := 1070) (by decide +kernel) rfl, zT_in (i := 1071) (by decide +kernel) rfl⟩
set_option maxRecDepth 100000 in
theorem mb_X5_image : zMB yX5_image cX5_image 2 (some .int) 0 := ⟨it_X5, zT_in (i := 1076) rfl rfl, (by decide +kernel), (by decide +kernel), (by decide +kernel)⟩
theorem mv_X5_image : zMV yX5_image cX5_image 2 (some .int) 0 := ⟨mb_X5_image, zT_in (i := 1074) (by decide +kernel) rfl, zT_in (i := 1075) (by decide +kernel) rfl⟩
set_option maxRecDepth 100000 in
theorem mb_X5_restore : zMB yX5_restore cX5_restore 2 (some .int) 0 := ⟨it_X5, zT_in (i := 1080) rfl rfl, (by decide +kernel), (by decide +kernel), (by decide +kernel)⟩
theorem mv_X5_restore : zMV yX5_restore cX5_restore 2 (some .int) 0 := ⟨mb_X5_restore, zT_in (i := 1078) (by decide +kernel) rfl, zT_in (i := 1079) (by decide +kernel) rfl⟩
set_option maxRecDepth 100000 in
theorem mb_X5_done : zMB yX5_done cX5_done 15 (some .int) 5 := ⟨it_X5, zT_in (i := 1084) rfl rfl, (by decide +kernel), (by decide +kernel), (by decide +kernel)⟩
theorem mv_X5_done : zMV yX5_done cX5_done 15 (some .int) 5 := ⟨mb_X5_done, zT_in (i := 1082) (by decide +kernel) rfl, zT_in (i := 1083) (by decide +kernel) rfl⟩
set_option maxRecDepth 100000 in
theorem mb_X5_isSheet : zMB yX5_isSheet cX5_isSheet 1 (some .boolean) 1 := ⟨it_X5, zT_in (i := 1087) rfl rfl, (by decide +kernel), (by decide +kernel), (by decide +kernel)⟩
theorem ms_X5_isSheet : zMS yX5_isSheet cX5_isSheet 1 (some .boolean) 1 := ⟨mb_X5_isSheet, zT_in (i := 1086) (by decide +kernel) rfl⟩
set_option maxRecDepth 100000 in
theorem mb_X5_isLane : zMB yX5_isLane cX5_isLane 1 (some .boolean) 1 := ⟨it_X5, zT_in (i := 1090) rfl rfl, (by decide +kernel), (by decide +kernel), (by decide +kernel)⟩
theorem ms_X5_isLane : zMS yX5_isLane cX5_isLane 1 (some .boolean) 1 := ⟨mb_X5_isLane, zT_in (i := 1089) (by decide +kernel) rfl⟩
set_option maxRecDepth 100000 in
theorem mb_X5_why : zMB yX5_why cX5_why 5 (some .int) 4 := ⟨it_X5, zT_in (i := 1094) rfl rfl, (by decide +kernel), (by decide +kernel), (by decide +kernel)⟩
theorem mv_X5_why : zMV yX5_why cX5_why 5 (some .int) 4 := ⟨mb_X5_why, zT_in (i := 1093) (by decide +kernel) rfl, zT_in (i := 45) (by decide +kernel) rfl⟩
set_option maxRecDepth 100000 in
theorem mb_X5_film : zMB yX5_film cX5_film 9 (some .int) 6 := ⟨it_X5, zT_in (i := 1098) rfl rfl, (by decide +kernel), (by decide +kernel), (by decide +kernel)⟩
theorem mv_X5_film : zMV yX5_film cX5_film 9 (some .int) 6 := ⟨mb_X5_film, zT_in (i := 1096) (by decide +kernel) rfl, zT_in (i := 1097) (by decide +kernel) rfl⟩
set_option maxRecDepth 100000 in
theorem mb_X5_lowest : zMB yX5_lowest cX5_lowest 3 (some .long) 2 := ⟨it_X5, zT_in (i := 1102) rfl rfl, (by decide +kernel), (by decide +kernel), (by decide +kernel)⟩
theorem ms_X5_lowest : zMS yX5_lowest cX5_lowest 3 (some .long) 2 := ⟨mb_X5_lowest, zT_in (i := 1101) (by decide +kernel) rfl⟩
set_option maxRecDepth 100000 in
theorem mb_X5_sheet : zMB yX5_sheet cX5_sheet 5 (some .int) 3 := ⟨it_X5, zT_in (i := 1106) rfl rfl, (by decide +kernel), (by decide +kernel), (by decide +kernel)⟩
theorem mv_X5_sheet : zMV yX5_sheet cX5_sheet 5 (some .int) 3 := ⟨mb_X5_sheet, zT_in (i := 1104) (by decide +kernel) rfl, zT_in (i := 1105) (by decide +kernel) rfl⟩
set_option maxRecDepth 100000 in
theorem mb_X5_drop : zMB yX5_drop cX5_drop 2 (some .int) 1 := ⟨it_X5, zT_in (i := 1110) rfl rfl, (by decide +kernel), (by decide +kernel), (by decide +kernel)⟩
theorem mv_X5_drop : zMV yX5_drop cX5_drop 2 (some .int) 1 := ⟨mb_X5_drop, zT_in (i := 1108) (by decide +kernel) rfl, zT_in (i := 1109) (by decide +kernel) rfl⟩
set_option maxRecDepth 100000 in
theorem mb_X5_item : zMB yX5_item cX5_item 7 (some .int) 4 := ⟨it_X5, zT_in (i := 1114) rfl rfl, (by decide +kernel), (by decide +kernel), (by decide +kernel)⟩
theorem mv_X5_item : zMV yX5_item cX5_item 7 (some .int) 4 := ⟨mb_X5_item, zT_in (i := 1112) (by decide +kernel) rfl, zT_in (i := 1113) (by decide +kernel) rfl⟩
set_option maxRecDepth 100000 in
theorem mb_X5_copy : zMB yX5_copy cX5_copy 8 (some .int) 5 := ⟨it_X5, zT_in (i := 1118) rfl rfl, (by decide +kernel), (by decide +kernel), (by decide +kernel)⟩
theorem mv_X5_copy : zMV yX5_copy cX5_copy 8 (some .int) 5 := ⟨mb_X5_copy, zT_in (i := 1116) (by decide +kernel) rfl, zT_in (i := 1117) (by decide +kernel) rfl⟩
theorem ml_L_9 : Cond.methodLink RL 9 yX4_init ∈ zT := zT_in (i := 63) (by decide +kernel) rfl
set_option maxRecDepth 100000 in
theorem ml_X4_1 : Cond.methodLink RX4 1 Lib.objectInit ∈ zT ∧ Cond.instanceMethod Lib.objectInit ∈ zT ∧ Cond.code Lib.objectInit ⟨#[0xb1]⟩ 1 none ∈ zT := ⟨zT_in (i := 66) (by decide +kernel) rfl, zT_in (i := 67) (by decide +kernel) rfl, zT_in (i := 68) rfl rfl⟩
set_option maxRecDepth 100000 in
theorem ml_X3_3 : Cond.methodLink RX3 3 Lib.objectInit ∈ zT ∧ Cond.instanceMethod Lib.objectInit ∈ zT ∧ Cond.code Lib.objectInit ⟨#[0xb1]⟩ 1 none ∈ zT := ⟨zT_in (i := 74) (by decide +kernel) rfl, zT_in (i := 67) (by decide +kernel) rfl, zT_in (i := 68) rfl rfl⟩
set_option maxRecDepth 100000 in
theorem ml_X1_3 : Cond.methodLink RX1 3 Lib.objectInit ∈ zT ∧ Cond.instanceMethod Lib.objectInit ∈ zT ∧ Cond.code Lib.objectInit ⟨#[0xb1]⟩ 1 none ∈ zT := ⟨zT_in (i := 156) (by decide +kernel) rfl, zT_in (i := 67) (by decide +kernel) rfl, zT_in (i := 68) rfl rfl⟩
theorem ml_X4_28 : Cond.methodLink RX4 28 yX0_init ∈ zT := zT_in (i := 197) (by decide +kernel) rfl
set_option maxRecDepth 100000 in
theorem ml_X0_3 : Cond.methodLink RX0 3 Lib.objectInit ∈ zT ∧ Cond.instanceMethod Lib.objectInit ∈ zT ∧ Cond.code Lib.objectInit ⟨#[0xb1]⟩ 1 none ∈ zT := ⟨zT_in (i := 200) (by decide +kernel) rfl, zT_in (i := 67) (by decide +kernel) rfl, zT_in (i := 68) rfl rfl⟩
theorem ml_L_13 : Cond.methodLink RL 13 yX4_person ∈ zT := zT_in (i := 259) (by decide +kernel) rfl
theorem ml_X4_41 : Cond.methodLink RX4 41 yX4_within ∈ zT := zT_in (i := 263) (by decide +kernel) rfl
theorem ml_X4_49 : Cond.methodLink RX4 49 yX3_addPerson ∈ zT := zT_in (i := 266) (by decide +kernel) rfl
theorem ml_L_18 : Cond.methodLink RL 18 yX4_own ∈ zT := zT_in (i := 270) (by decide +kernel) rfl
theorem ml_X4_53 : Cond.methodLink RX4 53 yX3_hasPerson ∈ zT := zT_in (i := 274) (by decide +kernel) rfl
theorem ml_X4_57 : Cond.methodLink RX4 57 yX4_isMeasure ∈ zT := zT_in (i := 279) (by decide +kernel) rfl
theorem ml_L_23 : Cond.methodLink RL 23 yX4_suit ∈ zT := zT_in (i := 282) (by decide +kernel) rfl
theorem ml_X4_67 : Cond.methodLink RX4 67 yX3_addSuit ∈ zT := zT_in (i := 286) (by decide +kernel) rfl
theorem ml_L_28 : Cond.methodLink RL 28 yX4_cut ∈ zT := zT_in (i := 290) (by decide +kernel) rfl
theorem ml_X4_71 : Cond.methodLink RX4 71 yX3_hasSuit ∈ zT := zT_in (i := 294) (by decide +kernel) rfl
theorem ml_L_32 : Cond.methodLink RL 32 yX4_of ∈ zT := zT_in (i := 298) (by decide +kernel) rfl
theorem ml_X4_77 : Cond.methodLink RX4 77 yX3_measureBehind ∈ zT := zT_in (i := 302) (by decide +kernel) rfl
theorem ml_X3_90 : Cond.methodLink RX3 90 yX3_longerBehind ∈ zT := zT_in (i := 306) (by decide +kernel) rfl
theorem ml_X3_74 : Cond.methodLink RX3 74 yX3_isMended ∈ zT := zT_in (i := 310) (by decide +kernel) rfl
theorem ml_X3_78 : Cond.methodLink RX3 78 yX3_leftBehind ∈ zT := zT_in (i := 314) (by decide +kernel) rfl
set_option maxRecDepth 100000 in
theorem ml_X3_68 : Cond.methodLink RX3 68 Lib.Math.max.name ∈ zT ∧ Cond.static Lib.Math.max.name ∈ zT ∧ Cond.initialized "java/lang/Math" ∈ zT ∧ Cond.code Lib.Math.max.name Lib.Math.max.code 2 (some .int) ∈ zT := ⟨zT_in (i := 318) (by decide +kernel) rfl, zT_in (i := 319) (by decide +kernel) rfl, zT_in (i := 52) (by decide +kernel) rfl, zT_in (i := 320) rfl rfl⟩
theorem ml_X4_256 : Cond.methodLink RX4 256 yX4_timesShown ∈ zT := zT_in (i := 324) (by decide +kernel) rfl
theorem ml_X4_84 : Cond.methodLink RX4 84 yX3_deedsBy ∈ zT := zT_in (i := 329) (by decide +kernel) rfl
theorem ml_L_36 : Cond.methodLink RL 36 yX4_deed ∈ zT := zT_in (i := 333) (by decide +kernel) rfl
theorem ml_X4_87 : Cond.methodLink RX4 87 yX3_hasDeed ∈ zT := zT_in (i := 337) (by decide +kernel) rfl
theorem ml_X4_102 : Cond.methodLink RX4 102 yX3_isMended ∈ zT := zT_in (i := 341) (by decide +kernel) rfl
theorem ml_X4_105 : Cond.methodLink RX4 105 yX3_leftNow ∈ zT := zT_in (i := 342) (by decide +kernel) rfl
theorem ml_L_40 : Cond.methodLink RL 40 yX4_tries ∈ zT := zT_in (i := 346) (by decide +kernel) rfl
theorem ml_X4_108 : Cond.methodLink RX4 108 yX4_isEither ∈ zT := zT_in (i := 350) (by decide +kernel) rfl
theorem ml_X4_111 : Cond.methodLink RX4 111 yX3_showsBehind ∈ zT := zT_in (i := 353) (by decide +kernel) rfl
theorem ml_X3_94 : Cond.methodLink RX3 94 yX3_gapBehind ∈ zT := zT_in (i := 357) (by decide +kernel) rfl
set_option maxRecDepth 100000 in
theorem ml_X3_97 : Cond.methodLink RX3 97 Lib.Math.abs.name ∈ zT ∧ Cond.static Lib.Math.abs.name ∈ zT ∧ Cond.initialized "java/lang/Math" ∈ zT ∧ Cond.code Lib.Math.abs.name Lib.Math.abs.code 1 (some .int) ∈ zT := ⟨zT_in (i := 361) (by decide +kernel) rfl, zT_in (i := 362) (by decide +kernel) rfl, zT_in (i := 52) (by decide +kernel) rfl, zT_in (i := 363) rfl rfl⟩
theorem ml_X4_114 : Cond.methodLink RX4 114 yX3_fitsBehind ∈ zT := zT_in (i := 364) (by decide +kernel) rfl
theorem ml_L_44 : Cond.methodLink RL 44 yX4_rule ∈ zT := zT_in (i := 368) (by decide +kernel) rfl
theorem ml_L_48 : Cond.methodLink RL 48 yX4_type ∈ zT := zT_in (i := 372) (by decide +kernel) rfl
theorem ml_X4_126 : Cond.methodLink RX4 126 yX1_addLetter ∈ zT := zT_in (i := 376) (by decide +kernel) rfl
theorem ml_L_52 : Cond.methodLink RL 52 yX4_wardrobe ∈ zT := zT_in (i := 380) (by decide +kernel) rfl
theorem ml_X4_129 : Cond.methodLink RX4 129 yX1_readAll ∈ zT := zT_in (i := 384) (by decide +kernel) rfl
theorem ml_X1_37 : Cond.methodLink RX1 37 yX1_readNumber ∈ zT := zT_in (i := 388) (by decide +kernel) rfl
theorem ml_X1_51 : Cond.methodLink RX1 51 yX1_next ∈ zT := zT_in (i := 392) (by decide +kernel) rfl
theorem ml_X1_80 : Cond.methodLink RX1 80 yX1_faultAt ∈ zT := zT_in (i := 396) (by decide +kernel) rfl
theorem ml_X1_44 : Cond.methodLink RX1 44 yX1_expect ∈ zT := zT_in (i := 400) (by decide +kernel) rfl
theorem ml_X1_58 : Cond.methodLink RX1 58 yX1_took ∈ zT := zT_in (i := 404) (by decide +kernel) rfl
theorem ml_X1_48 : Cond.methodLink RX1 48 yX1_readPeople ∈ zT := zT_in (i := 408) (by decide +kernel) rfl
theorem ml_X1_62 : Cond.methodLink RX1 62 yX1_readKind ∈ zT := zT_in (i := 412) (by decide +kernel) rfl
theorem ml_X1_74 : Cond.methodLink RX1 74 yJ0_indexOf_0f7a4 ∈ zT := zT_in (i := 417) (by decide +kernel) rfl
theorem ml_J0_633 : Cond.methodLink RJ0 633 yJ0_indexOf_7cf53 ∈ zT := zT_in (i := 421) (by decide +kernel) rfl
theorem ml_J0_492 : Cond.methodLink RJ0 492 yJ0_isLatin1_aae02 ∈ zT := zT_in (i := 425) (by decide +kernel) rfl
theorem ml_J0_505 : Cond.methodLink RJ0 505 yJ0_length_8abf5 ∈ zT := zT_in (i := 431) (by decide +kernel) rfl
theorem ml_J0_335 : Cond.methodLink RJ0 335 yJ0_coder_7d493 ∈ zT := zT_in (i := 435) (by decide +kernel) rfl
theorem ml_J0_637 : Cond.methodLink RJ0 637 yJ1_indexOf_4cfef ∈ zT := zT_in (i := 439) (by decide +kernel) rfl
theorem ml_J1_88 : Cond.methodLink RJ1 88 yJ1_canEncode_9a6ad ∈ zT := zT_in (i := 442) (by decide +kernel) rfl
set_option maxRecDepth 100000 in
theorem ml_J1_92 : Cond.methodLink RJ1 92 Lib.Math.max.name ∈ zT ∧ Cond.static Lib.Math.max.name ∈ zT ∧ Cond.initialized "java/lang/Math" ∈ zT ∧ Cond.code Lib.Math.max.name Lib.Math.max.code 2 (some .int) ∈ zT := ⟨zT_in (i := 445) (by decide +kernel) rfl, zT_in (i := 319) (by decide +kernel) rfl, zT_in (i := 52) (by decide +kernel) rfl, zT_in (i := 320) rfl rfl⟩
set_option maxRecDepth 100000 in
theorem ml_J1_38 : Cond.methodLink RJ1 38 Lib.Math.min.name ∈ zT ∧ Cond.static Lib.Math.min.name ∈ zT ∧ Cond.initialized "java/lang/Math" ∈ zT ∧ Cond.code Lib.Math.min.name Lib.Math.min.code 2 (some .int) ∈ zT := ⟨zT_in (i := 446) (by decide +kernel) rfl, zT_in (i := 447) (by decide +kernel) rfl, zT_in (i := 52) (by decide +kernel) rfl, zT_in (i := 448) rfl rfl⟩
theorem ml_J1_95 : Cond.methodLink RJ1 95 yJ1_indexOfChar_4cfef ∈ zT := zT_in (i := 449) (by decide +kernel) rfl
theorem ml_J0_640 : Cond.methodLink RJ0 640 yJ2_indexOf_4cfef ∈ zT := zT_in (i := 452) (by decide +kernel) rfl
set_option maxRecDepth 100000 in
theorem ml_J2_224 : Cond.methodLink RJ2 224 Lib.Math.max.name ∈ zT ∧ Cond.static Lib.Math.max.name ∈ zT ∧ Cond.initialized "java/lang/Math" ∈ zT ∧ Cond.code Lib.Math.max.name Lib.Math.max.code 2 (some .int) ∈ zT := ⟨zT_in (i := 455) (by decide +kernel) rfl, zT_in (i := 319) (by decide +kernel) rfl, zT_in (i := 52) (by decide +kernel) rfl, zT_in (i := 320) rfl rfl⟩
set_option maxRecDepth 100000 in
theorem ml_J2_183 : Cond.methodLink RJ2 183 Lib.Math.min.name ∈ zT ∧ Cond.static Lib.Math.min.name ∈ zT ∧ Cond.initialized "java/lang/Math" ∈ zT ∧ Cond.code Lib.Math.min.name Lib.Math.min.code 2 (some .int) ∈ zT := ⟨zT_in (i := 456) (by decide +kernel) rfl, zT_in (i := 447) (by decide +kernel) rfl, zT_in (i := 52) (by decide +kernel) rfl, zT_in (i := 448) rfl rfl⟩
theorem ml_J2_228 : Cond.methodLink RJ2 228 yJ2_indexOfChar_4cfef ∈ zT := zT_in (i := 458) (by decide +kernel) rfl
theorem ml_J2_96 : Cond.methodLink RJ2 96 yJ2_checkBoundsBeginEnd_d044e ∈ zT := zT_in (i := 461) (by decide +kernel) rfl
theorem ml_J2_48 : Cond.methodLink RJ2 48 yJ2_length_9d52b ∈ zT := zT_in (i := 464) (by decide +kernel) rfl
theorem ml_J2_241 : Cond.methodLink RJ2 241 yJ0_checkBoundsBeginEnd_23922 ∈ zT := zT_in (i := 467) (by decide +kernel) rfl
theorem ml_J0_1062 : Cond.methodLink RJ0 1062 yJ3_checkFromToIndex_8c36e ∈ zT := zT_in (i := 472) (by decide +kernel) rfl
theorem ml_J2_244 : Cond.methodLink RJ2 244 yJ2_indexOfCharUnsafe_4cfef ∈ zT := zT_in (i := 475) (by decide +kernel) rfl
theorem ml_J2_71 : Cond.methodLink RJ2 71 yJ2_getChar_3b067 ∈ zT := zT_in (i := 478) (by decide +kernel) rfl
theorem ml_J2_232 : Cond.methodLink RJ2 232 yJ2_indexOfSupplementary_4cfef ∈ zT := zT_in (i := 487) (by decide +kernel) rfl
theorem ml_J2_164 : Cond.methodLink RJ2 164 yJ11_isValidCodePoint_9a6ad ∈ zT := zT_in (i := 490) (by decide +kernel) rfl
theorem ml_J2_157 : Cond.methodLink RJ2 157 yJ11_highSurrogate_5068e ∈ zT := zT_in (i := 493) (by decide +kernel) rfl
theorem ml_J2_161 : Cond.methodLink RJ2 161 yJ11_lowSurrogate_5068e ∈ zT := zT_in (i := 497) (by decide +kernel) rfl
theorem ml_X1_65 : Cond.methodLink RX1 65 yX1_readFour ∈ zT := zT_in (i := 501) (by decide +kernel) rfl
theorem ml_X1_55 : Cond.methodLink RX1 55 yX1_readSuits ∈ zT := zT_in (i := 505) (by decide +kernel) rfl
theorem ml_X4_133 : Cond.methodLink RX4 133 yX3_takeWardrobe ∈ zT := zT_in (i := 509) (by decide +kernel) rfl
theorem ml_X3_100 : Cond.methodLink RX3 100 arraycopyName ∈ zT ∧ Cond.native arraycopyName ∈ zT ∧ Cond.static arraycopyName ∈ zT ∧ Cond.initialized "java/lang/System" ∈ zT := ⟨zT_in (i := 513) (by decide +kernel) rfl, zT_in (i := 515) (by decide +kernel) rfl, zT_in (i := 514) (by decide +kernel) rfl, zT_in (i := 58) (by decide +kernel) rfl⟩
theorem ml_L_57 : Cond.methodLink RL 57 yX4_count ∈ zT := zT_in (i := 517) (by decide +kernel) rfl
theorem ml_X4_146 : Cond.methodLink RX4 146 yX3_leftOfAll ∈ zT := zT_in (i := 521) (by decide +kernel) rfl
theorem ml_X3_82 : Cond.methodLink RX3 82 yX3_leftNow ∈ zT := zT_in (i := 525) (by decide +kernel) rfl
theorem ml_L_61 : Cond.methodLink RL 61 yX4_does ∈ zT := zT_in (i := 526) (by decide +kernel) rfl
theorem ml_X4_152 : Cond.methodLink RX4 152 yX3_remember ∈ zT := zT_in (i := 530) (by decide +kernel) rfl
theorem ml_X4_155 : Cond.methodLink RX4 155 yX3_addDeed ∈ zT := zT_in (i := 534) (by decide +kernel) rfl
theorem ml_L_65 : Cond.methodLink RL 65 yX4_mend ∈ zT := zT_in (i := 538) (by decide +kernel) rfl
theorem ml_L_69 : Cond.methodLink RL 69 yX4_days ∈ zT := zT_in (i := 542) (by decide +kernel) rfl
theorem ml_X4_158 : Cond.methodLink RX4 158 yX4_refusalOfDays ∈ zT := zT_in (i := 546) (by decide +kernel) rfl
theorem ml_L_73 : Cond.methodLink RL 73 yX4_drift ∈ zT := zT_in (i := 550) (by decide +kernel) rfl
theorem ml_X4_161 : Cond.methodLink RX4 161 yX3_driftOneDay ∈ zT := zT_in (i := 554) (by decide +kernel) rfl
theorem ml_X3_106 : Cond.methodLink RX3 106 yX3_remember ∈ zT := zT_in (i := 558) (by decide +kernel) rfl
theorem ml_X3_112 : Cond.methodLink RX3 112 yX3_addDeed ∈ zT := zT_in (i := 562) (by decide +kernel) rfl
theorem ml_L_77 : Cond.methodLink RL 77 yX4_undo ∈ zT := zT_in (i := 563) (by decide +kernel) rfl
theorem ml_X4_164 : Cond.methodLink RX4 164 yX3_takeBack ∈ zT := zT_in (i := 567) (by decide +kernel) rfl
theorem ml_L_81 : Cond.methodLink RL 81 yX4_seed ∈ zT := zT_in (i := 571) (by decide +kernel) rfl
theorem ml_L_85 : Cond.methodLink RL 85 yX4_ahead ∈ zT := zT_in (i := 575) (by decide +kernel) rfl
theorem ml_L_89 : Cond.methodLink RL 89 yX4_showsAhead ∈ zT := zT_in (i := 579) (by decide +kernel) rfl
theorem ml_L_93 : Cond.methodLink RL 93 yX4_again ∈ zT := zT_in (i := 583) (by decide +kernel) rfl
theorem ml_X4_170 : Cond.methodLink RX4 170 yX0_firstFit ∈ zT := zT_in (i := 587) (by decide +kernel) rfl
theorem ml_X0_41 : Cond.methodLink RX0 41 yX3_fitsBehind ∈ zT := zT_in (i := 591) (by decide +kernel) rfl
theorem ml_L_97 : Cond.methodLink RL 97 yX4_wedding ∈ zT := zT_in (i := 592) (by decide +kernel) rfl
theorem ml_X4_173 : Cond.methodLink RX4 173 yX0_fewestToMend ∈ zT := zT_in (i := 596) (by decide +kernel) rfl
theorem ml_X0_47 : Cond.methodLink RX0 47 yX3_gapBehind ∈ zT := zT_in (i := 600) (by decide +kernel) rfl
theorem ml_X0_51 : Cond.methodLink RX0 51 yX0_findOpenDeeds ∈ zT := zT_in (i := 601) (by decide +kernel) rfl
theorem ml_X0_79 : Cond.methodLink RX0 79 yX3_isMended ∈ zT := zT_in (i := 605) (by decide +kernel) rfl
theorem ml_X0_83 : Cond.methodLink RX0 83 yX0_findGains ∈ zT := zT_in (i := 606) (by decide +kernel) rfl
theorem ml_X0_93 : Cond.methodLink RX0 93 yX3_leftBehind ∈ zT := zT_in (i := 610) (by decide +kernel) rfl
theorem ml_X0_55 : Cond.methodLink RX0 55 yX0_stepTo ∈ zT := zT_in (i := 612) (by decide +kernel) rfl
theorem ml_X4_176 : Cond.methodLink RX4 176 yJ6_bitCount_0f7a4 ∈ zT := zT_in (i := 619) (by decide +kernel) rfl
theorem ml_X0_59 : Cond.methodLink RX0 59 yJ6_bitCount_0f7a4 ∈ zT := zT_in (i := 625) (by decide +kernel) rfl
theorem ml_X0_65 : Cond.methodLink RX0 65 yX0_gapsAreEasy ∈ zT := zT_in (i := 626) (by decide +kernel) rfl
set_option maxRecDepth 100000 in
theorem ml_X0_103 : Cond.methodLink RX0 103 Lib.Math.abs.name ∈ zT ∧ Cond.static Lib.Math.abs.name ∈ zT ∧ Cond.initialized "java/lang/Math" ∈ zT ∧ Cond.code Lib.Math.abs.name Lib.Math.abs.code 1 (some .int) ∈ zT := ⟨zT_in (i := 630) (by decide +kernel) rfl, zT_in (i := 362) (by decide +kernel) rfl, zT_in (i := 52) (by decide +kernel) rfl, zT_in (i := 363) rfl rfl⟩
theorem ml_X0_69 : Cond.methodLink RX0 69 yX0_asDeeds ∈ zT := zT_in (i := 631) (by decide +kernel) rfl
theorem ml_L_102 : Cond.methodLink RL 102 yX4_bestCut ∈ zT := zT_in (i := 635) (by decide +kernel) rfl
theorem ml_X4_181 : Cond.methodLink RX4 181 yX0_leastShowingCut ∈ zT := zT_in (i := 639) (by decide +kernel) rfl
theorem ml_X0_111 : Cond.methodLink RX0 111 yX3_measureBehind ∈ zT := zT_in (i := 643) (by decide +kernel) rfl
theorem ml_X0_115 : Cond.methodLink RX0 115 yX0_farInAll ∈ zT := zT_in (i := 644) (by decide +kernel) rfl
theorem ml_X4_184 : Cond.methodLink RX4 184 yX0_farInAll ∈ zT := zT_in (i := 648) (by decide +kernel) rfl
theorem ml_L_106 : Cond.methodLink RL 106 yX4_wear ∈ zT := zT_in (i := 649) (by decide +kernel) rfl
theorem ml_X4_187 : Cond.methodLink RX4 187 yX0_findFitting ∈ zT := zT_in (i := 653) (by decide +kernel) rfl
theorem ml_X4_190 : Cond.methodLink RX4 190 yX0_matchSuits ∈ zT := zT_in (i := 657) (by decide +kernel) rfl
theorem ml_X0_124 : Cond.methodLink RX0 124 yX0_mostFrom ∈ zT := zT_in (i := 661) (by decide +kernel) rfl
theorem ml_X0_127 : Cond.methodLink RX0 127 yX0_isFree ∈ zT := zT_in (i := 665) (by decide +kernel) rfl
theorem ml_X0_130 : Cond.methodLink RX0 130 yX0_mostWith ∈ zT := zT_in (i := 669) (by decide +kernel) rfl
set_option maxRecDepth 100000 in
theorem ml_X0_133 : Cond.methodLink RX0 133 Lib.Math.max.name ∈ zT ∧ Cond.static Lib.Math.max.name ∈ zT ∧ Cond.initialized "java/lang/Math" ∈ zT ∧ Cond.code Lib.Math.max.name Lib.Math.max.code 2 (some .int) ∈ zT := ⟨zT_in (i := 673) (by decide +kernel) rfl, zT_in (i := 319) (by decide +kernel) rfl, zT_in (i := 52) (by decide +kernel) rfl, zT_in (i := 320) rfl rfl⟩
theorem ml_X4_193 : Cond.methodLink RX4 193 yX0_mostDressed ∈ zT := zT_in (i := 674) (by decide +kernel) rfl
theorem ml_X4_196 : Cond.methodLink RX4 196 yX0_suitOf ∈ zT := zT_in (i := 678) (by decide +kernel) rfl
theorem ml_X0_136 : Cond.methodLink RX0 136 yX0_firstChoice ∈ zT := zT_in (i := 682) (by decide +kernel) rfl
theorem ml_L_110 : Cond.methodLink RL 110 yX4_luck ∈ zT := zT_in (i := 686) (by decide +kernel) rfl
theorem ml_X4_199 : Cond.methodLink RX4 199 yX0_likelihood ∈ zT := zT_in (i := 690) (by decide +kernel) rfl
theorem ml_X0_139 : Cond.methodLink RX0 139 yX0_easyReadings ∈ zT := zT_in (i := 694) (by decide +kernel) rfl
theorem ml_L_114 : Cond.methodLink RL 114 yX4_warrant ∈ zT := zT_in (i := 698) (by decide +kernel) rfl
theorem ml_X4_203 : Cond.methodLink RX4 203 yX0_longerByAtLeast ∈ zT := zT_in (i := 702) (by decide +kernel) rfl
theorem ml_X0_142 : Cond.methodLink RX0 142 yX3_longerBehind ∈ zT := zT_in (i := 706) (by decide +kernel) rfl
theorem ml_L_118 : Cond.methodLink RL 118 yX4_image ∈ zT := zT_in (i := 707) (by decide +kernel) rfl
theorem ml_X4_206 : Cond.methodLink RX4 206 yX3_takeAll ∈ zT := zT_in (i := 711) (by decide +kernel) rfl
theorem ml_L_122 : Cond.methodLink RL 122 yX4_restore ∈ zT := zT_in (i := 715) (by decide +kernel) rfl
theorem ml_L_126 : Cond.methodLink RL 126 yX4_done ∈ zT := zT_in (i := 719) (by decide +kernel) rfl
theorem ml_X4_213 : Cond.methodLink RX4 213 yX4_isSheet ∈ zT := zT_in (i := 723) (by decide +kernel) rfl
theorem ml_X4_216 : Cond.methodLink RX4 216 yX4_isLane ∈ zT := zT_in (i := 726) (by decide +kernel) rfl
theorem ml_X4_219 : Cond.methodLink RX4 219 yX2_refusal ∈ zT := zT_in (i := 729) (by decide +kernel) rfl
theorem ml_X2_19 : Cond.methodLink RX2 19 yX2_holds ∈ zT := zT_in (i := 733) (by decide +kernel) rfl
theorem ml_X4_222 : Cond.methodLink RX4 222 yX0_explain ∈ zT := zT_in (i := 737) (by decide +kernel) rfl
theorem ml_X0_156 : Cond.methodLink RX0 156 yX0_addsUpTo ∈ zT := zT_in (i := 741) (by decide +kernel) rfl
theorem ml_L_131 : Cond.methodLink RL 131 yX4_film ∈ zT := zT_in (i := 745) (by decide +kernel) rfl
theorem ml_X4_232 : Cond.methodLink RX4 232 yX2_put ∈ zT := zT_in (i := 749) (by decide +kernel) rfl
theorem ml_X2_23 : Cond.methodLink RX2 23 yX2_lowestBits ∈ zT := zT_in (i := 753) (by decide +kernel) rfl
theorem ml_L_136 : Cond.methodLink RL 136 yX4_sheet ∈ zT := zT_in (i := 758) (by decide +kernel) rfl
theorem ml_X4_236 : Cond.methodLink RX4 236 yX2_init ∈ zT := zT_in (i := 762) (by decide +kernel) rfl
set_option maxRecDepth 100000 in
theorem ml_X2_3 : Cond.methodLink RX2 3 Lib.objectInit ∈ zT ∧ Cond.instanceMethod Lib.objectInit ∈ zT ∧ Cond.code Lib.objectInit ⟨#[0xb1]⟩ 1 none ∈ zT := ⟨zT_in (i := 765) (by decide +kernel) rfl, zT_in (i := 67) (by decide +kernel) rfl, zT_in (i := 68) rfl rfl⟩
theorem ml_L_140 : Cond.methodLink RL 140 yX4_drop ∈ zT := zT_in (i := 776) (by decide +kernel) rfl
theorem ml_L_146 : Cond.methodLink RL 146 yX4_item ∈ zT := zT_in (i := 780) (by decide +kernel) rfl
theorem ml_L_151 : Cond.methodLink RL 151 yX4_copy ∈ zT := zT_in (i := 784) (by decide +kernel) rfl
theorem ml_X4_246 : Cond.methodLink RX4 246 yX2_holds ∈ zT := zT_in (i := 788) (by decide +kernel) rfl
theorem ml_X4_250 : Cond.methodLink RX4 250 arraycopyName ∈ zT ∧ Cond.native arraycopyName ∈ zT ∧ Cond.static arraycopyName ∈ zT ∧ Cond.initialized "java/lang/System" ∈ zT := ⟨zT_in (i := 789) (by decide +kernel) rfl, zT_in (i := 515) (by decide +kernel) rfl, zT_in (i := 514) (by decide +kernel) rfl, zT_in (i := 58) (by decide +kernel) rfl⟩
theorem ml_L_12 : Cond.methodLink RL 12 yX5_init ∈ zT := zT_in (i := 792) (by decide +kernel) rfl
set_option maxRecDepth 100000 in
theorem ml_X5_1 : Cond.methodLink RX5 1 Lib.objectInit ∈ zT ∧ Cond.instanceMethod Lib.objectInit ∈ zT ∧ Cond.code Lib.objectInit ⟨#[0xb1]⟩ 1 none ∈ zT := ⟨zT_in (i := 795) (by decide +kernel) rfl, zT_in (i := 67) (by decide +kernel) rfl, zT_in (i := 68) rfl rfl⟩
theorem ml_L_17 : Cond.methodLink RL 17 yX5_person ∈ zT := zT_in (i := 845) (by decide +kernel) rfl
theorem ml_X5_41 : Cond.methodLink RX5 41 yX5_in ∈ zT := zT_in (i := 850) (by decide +kernel) rfl
theorem ml_L_22 : Cond.methodLink RL 22 yX5_own ∈ zT := zT_in (i := 855) (by decide +kernel) rfl
theorem ml_X5_93 : Cond.methodLink RX5 93 yX5_isPerson ∈ zT := zT_in (i := 859) (by decide +kernel) rfl
theorem ml_X5_97 : Cond.methodLink RX5 97 yX5_isMeasure ∈ zT := zT_in (i := 863) (by decide +kernel) rfl
theorem ml_X5_55 : Cond.methodLink RX5 55 yX5_ownOf ∈ zT := zT_in (i := 867) (by decide +kernel) rfl
theorem ml_L_27 : Cond.methodLink RL 27 yX5_suit ∈ zT := zT_in (i := 871) (by decide +kernel) rfl
theorem ml_L_31 : Cond.methodLink RL 31 yX5_cut ∈ zT := zT_in (i := 876) (by decide +kernel) rfl
theorem ml_X5_102 : Cond.methodLink RX5 102 yX5_isSuit ∈ zT := zT_in (i := 880) (by decide +kernel) rfl
theorem ml_X5_73 : Cond.methodLink RX5 73 yX5_cutOf ∈ zT := zT_in (i := 884) (by decide +kernel) rfl
theorem ml_L_35 : Cond.methodLink RL 35 yX5_of ∈ zT := zT_in (i := 888) (by decide +kernel) rfl
theorem ml_X5_107 : Cond.methodLink RX5 107 yX5_today ∈ zT := zT_in (i := 893) (by decide +kernel) rfl
theorem ml_X5_70 : Cond.methodLink RX5 70 yX5_measure ∈ zT := zT_in (i := 897) (by decide +kernel) rfl
theorem ml_X5_47 : Cond.methodLink RX5 47 yX5_told ∈ zT := zT_in (i := 901) (by decide +kernel) rfl
theorem ml_X5_58 : Cond.methodLink RX5 58 yX5_kind ∈ zT := zT_in (i := 905) (by decide +kernel) rfl
theorem ml_X5_62 : Cond.methodLink RX5 62 yX5_left ∈ zT := zT_in (i := 909) (by decide +kernel) rfl
theorem ml_X5_66 : Cond.methodLink RX5 66 yX5_longer ∈ zT := zT_in (i := 913) (by decide +kernel) rfl
theorem ml_X5_51 : Cond.methodLink RX5 51 yX5_shows ∈ zT := zT_in (i := 916) (by decide +kernel) rfl
theorem ml_X5_110 : Cond.methodLink RX5 110 yX5_deedsOf ∈ zT := zT_in (i := 919) (by decide +kernel) rfl
theorem ml_L_39 : Cond.methodLink RL 39 yX5_deed ∈ zT := zT_in (i := 923) (by decide +kernel) rfl
theorem ml_X5_113 : Cond.methodLink RX5 113 yX5_isDeed ∈ zT := zT_in (i := 927) (by decide +kernel) rfl
theorem ml_L_43 : Cond.methodLink RL 43 yX5_tries ∈ zT := zT_in (i := 932) (by decide +kernel) rfl
theorem ml_X5_118 : Cond.methodLink RX5 118 yX5_showsOn ∈ zT := zT_in (i := 936) (by decide +kernel) rfl
theorem ml_X5_76 : Cond.methodLink RX5 76 yX5_apart ∈ zT := zT_in (i := 940) (by decide +kernel) rfl
theorem ml_X5_121 : Cond.methodLink RX5 121 yX5_fitsNow ∈ zT := zT_in (i := 943) (by decide +kernel) rfl
theorem ml_X5_79 : Cond.methodLink RX5 79 yX5_fits ∈ zT := zT_in (i := 947) (by decide +kernel) rfl
theorem ml_L_47 : Cond.methodLink RL 47 yX5_rule ∈ zT := zT_in (i := 951) (by decide +kernel) rfl
theorem ml_L_60 : Cond.methodLink RL 60 yX5_count ∈ zT := zT_in (i := 956) (by decide +kernel) rfl
theorem ml_X5_128 : Cond.methodLink RX5 128 yX5_leftOfAll ∈ zT := zT_in (i := 961) (by decide +kernel) rfl
theorem ml_L_51 : Cond.methodLink RL 51 yX5_type ∈ zT := zT_in (i := 965) (by decide +kernel) rfl
theorem ml_L_56 : Cond.methodLink RL 56 yX5_wardrobe ∈ zT := zT_in (i := 971) (by decide +kernel) rfl
theorem ml_X5_157 : Cond.methodLink RX5 157 yX5_number ∈ zT := zT_in (i := 975) (by decide +kernel) rfl
theorem ml_X5_146 : Cond.methodLink RX5 146 yX5_here ∈ zT := zT_in (i := 979) (by decide +kernel) rfl
theorem ml_X5_153 : Cond.methodLink RX5 153 yX5_must ∈ zT := zT_in (i := 985) (by decide +kernel) rfl
theorem ml_X5_164 : Cond.methodLink RX5 164 yX5_readPeople ∈ zT := zT_in (i := 989) (by decide +kernel) rfl
theorem ml_X5_160 : Cond.methodLink RX5 160 yX5_readFour ∈ zT := zT_in (i := 993) (by decide +kernel) rfl
theorem ml_X5_167 : Cond.methodLink RX5 167 yX5_readSuits ∈ zT := zT_in (i := 997) (by decide +kernel) rfl
theorem ml_L_64 : Cond.methodLink RL 64 yX5_does ∈ zT := zT_in (i := 1001) (by decide +kernel) rfl
theorem ml_X5_170 : Cond.methodLink RX5 170 yX5_notes ∈ zT := zT_in (i := 1005) (by decide +kernel) rfl
theorem ml_X5_173 : Cond.methodLink RX5 173 yX5_isDone ∈ zT := zT_in (i := 1009) (by decide +kernel) rfl
theorem ml_L_68 : Cond.methodLink RL 68 yX5_mend ∈ zT := zT_in (i := 1013) (by decide +kernel) rfl
theorem ml_L_72 : Cond.methodLink RL 72 yX5_days ∈ zT := zT_in (i := 1017) (by decide +kernel) rfl
theorem ml_L_76 : Cond.methodLink RL 76 yX5_drift ∈ zT := zT_in (i := 1021) (by decide +kernel) rfl
theorem ml_L_80 : Cond.methodLink RL 80 yX5_undo ∈ zT := zT_in (i := 1029) (by decide +kernel) rfl
theorem ml_L_84 : Cond.methodLink RL 84 yX5_seed ∈ zT := zT_in (i := 1033) (by decide +kernel) rfl
theorem ml_L_88 : Cond.methodLink RL 88 yX5_ahead ∈ zT := zT_in (i := 1037) (by decide +kernel) rfl
theorem ml_L_92 : Cond.methodLink RL 92 yX5_showsAhead ∈ zT := zT_in (i := 1041) (by decide +kernel) rfl
theorem ml_L_96 : Cond.methodLink RL 96 yX5_again ∈ zT := zT_in (i := 1045) (by decide +kernel) rfl
theorem ml_L_101 : Cond.methodLink RL 101 yX5_wedding ∈ zT := zT_in (i := 1049) (by decide +kernel) rfl
theorem ml_X5_183 : Cond.methodLink RX5 183 yX5_many ∈ zT := zT_in (i := 1053) (by decide +kernel) rfl
theorem ml_L_105 : Cond.methodLink RL 105 yX5_bestCut ∈ zT := zT_in (i := 1056) (by decide +kernel) rfl
theorem ml_L_109 : Cond.methodLink RL 109 yX5_wear ∈ zT := zT_in (i := 1061) (by decide +kernel) rfl
theorem ml_L_113 : Cond.methodLink RL 113 yX5_luck ∈ zT := zT_in (i := 1065) (by decide +kernel) rfl
theorem ml_L_117 : Cond.methodLink RL 117 yX5_warrant ∈ zT := zT_in (i := 1069) (by decide +kernel) rfl
theorem ml_L_121 : Cond.methodLink RL 121 yX5_image ∈ zT := zT_in (i := 1073) (by decide +kernel) rfl
theorem ml_L_125 : Cond.methodLink RL 125 yX5_restore ∈ zT := zT_in (i := 1077) (by decide +kernel) rfl
theorem ml_L_130 : Cond.methodLink RL 130 yX5_done ∈ zT := zT_in (i := 1081) (by decide +kernel) rfl
theorem ml_X5_194 : Cond.methodLink RX5 194 yX5_isSheet ∈ zT := zT_in (i := 1085) (by decide +kernel) rfl
theorem ml_X5_197 : Cond.methodLink RX5 197 yX5_isLane ∈ zT := zT_in (i := 1088) (by decide +kernel) rfl
theorem ml_X5_200 : Cond.methodLink RX5 200 yX5_why ∈ zT := zT_in (i := 1091) (by decide +kernel) rfl
theorem ml_L_135 : Cond.methodLink RL 135 yX5_film ∈ zT := zT_in (i := 1095) (by decide +kernel) rfl
theorem ml_X5_205 : Cond.methodLink RX5 205 yX5_lowest ∈ zT := zT_in (i := 1100) (by decide +kernel) rfl
theorem ml_L_139 : Cond.methodLink RL 139 yX5_sheet ∈ zT := zT_in (i := 1103) (by decide +kernel) rfl
theorem ml_L_143 : Cond.methodLink RL 143 yX5_drop ∈ zT := zT_in (i := 1107) (by decide +kernel) rfl
theorem ml_L_150 : Cond.methodLink RL 150 yX5_item ∈ zT := zT_in (i := 1111) (by decide +kernel) rfl
theorem ml_L_154 : Cond.methodLink RL 154 yX5_copy ∈ zT := zT_in (i := 1115) (by decide +kernel) rfl
theorem cl_L_7 : Cond.classLink RL 7 RX4 ∈ zT := zT_in (i := 61) (by decide +kernel) rfl
theorem cl_X4_7 : Cond.classLink RX4 7 RX3 ∈ zT := zT_in (i := 69) (by decide +kernel) rfl
theorem cl_X4_19 : Cond.classLink RX4 19 RX1 ∈ zT := zT_in (i := 151) (by decide +kernel) rfl
theorem cl_X4_26 : Cond.classLink RX4 26 RX0 ∈ zT := zT_in (i := 195) (by decide +kernel) rfl
theorem cl_X4_35 : Cond.classLink RX4 35 RX2 ∈ zT := zT_in (i := 238) (by decide +kernel) rfl
theorem cl_L_10 : Cond.classLink RL 10 RX5 ∈ zT := zT_in (i := 790) (by decide +kernel) rfl
theorem in_X4 : Cond.instantiable RX4 6 ∈ zT := zT_in (i := 62) (by decide +kernel) rfl
theorem in_X3 : Cond.instantiable RX3 17 ∈ zT := zT_in (i := 70) (by decide +kernel) rfl
theorem in_X1 : Cond.instantiable RX1 10 ∈ zT := zT_in (i := 152) (by decide +kernel) rfl
theorem in_X0 : Cond.instantiable RX0 11 ∈ zT := zT_in (i := 196) (by decide +kernel) rfl
theorem in_X2 : Cond.instantiable RX2 2 ∈ zT := zT_in (i := 756) (by decide +kernel) rfl
theorem in_X5 : Cond.instantiable RX5 16 ∈ zT := zT_in (i := 791) (by decide +kernel) rfl
theorem ak_int : Cond.arrayClass .int ∈ zT := zT_in (i := 150) (by decide +kernel) rfl
theorem ak_long : Cond.arrayClass .long ∈ zT := zT_in (i := 237) (by decide +kernel) rfl
theorem ak_byte : Cond.arrayClass .byte ∈ zT := zT_in (i := 516) (by decide +kernel) rfl
