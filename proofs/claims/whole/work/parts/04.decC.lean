theorem dX5_in_0 : decode cX5_in 0 = .ok (.lload_n 0, 1) := by decide +kernel
theorem dX5_in_1 : decode cX5_in 1 = .ok (.lload_n 2, 1) := by decide +kernel
theorem dX5_in_2 : decode cX5_in 2 = .ok (.lcmp, 1) := by decide +kernel
theorem dX5_in_3 : decode cX5_in 3 = .ok (.ifCond .lt 14, 3) := by decide +kernel
theorem dX5_in_6 : decode cX5_in 6 = .ok (.lload_n 0, 1) := by decide +kernel
theorem dX5_in_7 : decode cX5_in 7 = .ok (.lload 4, 2) := by decide +kernel
theorem dX5_in_9 : decode cX5_in 9 = .ok (.lcmp, 1) := by decide +kernel
theorem dX5_in_10 : decode cX5_in 10 = .ok (.ifCond .gt 7, 3) := by decide +kernel
theorem dX5_in_13 : decode cX5_in 13 = .ok (.iconst 1, 1) := by decide +kernel
theorem dX5_in_14 : decode cX5_in 14 = .ok (.goto 4, 3) := by decide +kernel
theorem dX5_in_17 : decode cX5_in 17 = .ok (.iconst 0, 1) := by decide +kernel
theorem dX5_in_18 : decode cX5_in 18 = .ok (.ireturn, 1) := by decide +kernel
theorem dX5_init_0 : decode cX5_init 0 = .ok (.aload_n 0, 1) := by decide +kernel
theorem dX5_init_1 : decode cX5_init 1 = .ok (.invokespecial 1, 3) := by decide +kernel
theorem dX5_init_4 : decode cX5_init 4 = .ok (.aload_n 0, 1) := by decide +kernel
theorem dX5_init_5 : decode cX5_init 5 = .ok (.bipush 89, 2) := by decide +kernel
theorem dX5_init_7 : decode cX5_init 7 = .ok (.newarray .int, 2) := by decide +kernel
theorem dX5_init_9 : decode cX5_init 9 = .ok (.putfield 7, 3) := by decide +kernel
theorem dX5_init_12 : decode cX5_init 12 = .ok (.aload_n 0, 1) := by decide +kernel
theorem dX5_init_13 : decode cX5_init 13 = .ok (.sipush 130, 3) := by decide +kernel
theorem dX5_init_16 : decode cX5_init 16 = .ok (.newarray .int, 2) := by decide +kernel
theorem dX5_init_18 : decode cX5_init 18 = .ok (.putfield 13, 3) := by decide +kernel
theorem dX5_init_21 : decode cX5_init 21 = .ok (.aload_n 0, 1) := by decide +kernel
theorem dX5_init_22 : decode cX5_init 22 = .ok (.bipush 41, 2) := by decide +kernel
theorem dX5_init_24 : decode cX5_init 24 = .ok (.newarray .int, 2) := by decide +kernel
theorem dX5_init_26 : decode cX5_init 26 = .ok (.putfield 16, 3) := by decide +kernel
theorem dX5_init_29 : decode cX5_init 29 = .ok (.aload_n 0, 1) := by decide +kernel
theorem dX5_init_30 : decode cX5_init 30 = .ok (.sipush 352, 3) := by decide +kernel
theorem dX5_init_33 : decode cX5_init 33 = .ok (.newarray .int, 2) := by decide +kernel
theorem dX5_init_35 : decode cX5_init 35 = .ok (.putfield 19, 3) := by decide +kernel
theorem dX5_init_38 : decode cX5_init 38 = .ok (.aload_n 0, 1) := by decide +kernel
theorem dX5_init_39 : decode cX5_init 39 = .ok (.bipush 41, 2) := by decide +kernel
theorem dX5_init_41 : decode cX5_init 41 = .ok (.newarray .int, 2) := by decide +kernel
theorem dX5_init_43 : decode cX5_init 43 = .ok (.putfield 22, 3) := by decide +kernel
theorem dX5_init_46 : decode cX5_init 46 = .ok (.aload_n 0, 1) := by decide +kernel
theorem dX5_init_47 : decode cX5_init 47 = .ok (.sipush 441, 3) := by decide +kernel
theorem dX5_init_50 : decode cX5_init 50 = .ok (.newarray .int, 2) := by decide +kernel
theorem dX5_init_52 : decode cX5_init 52 = .ok (.putfield 25, 3) := by decide +kernel
theorem dX5_init_55 : decode cX5_init 55 = .ok (.aload_n 0, 1) := by decide +kernel
theorem dX5_init_56 : decode cX5_init 56 = .ok (.iconst 4, 1) := by decide +kernel
theorem dX5_init_57 : decode cX5_init 57 = .ok (.newarray .int, 2) := by decide +kernel
theorem dX5_init_59 : decode cX5_init 59 = .ok (.putfield 28, 3) := by decide +kernel
theorem dX5_init_62 : decode cX5_init 62 = .ok (.aload_n 0, 1) := by decide +kernel
theorem dX5_init_63 : decode cX5_init 63 = .ok (.iconst 4, 1) := by decide +kernel
theorem dX5_init_64 : decode cX5_init 64 = .ok (.newarray .int, 2) := by decide +kernel
theorem dX5_init_66 : decode cX5_init 66 = .ok (.putfield 31, 3) := by decide +kernel
theorem dX5_init_69 : decode cX5_init 69 = .ok (.aload_n 0, 1) := by decide +kernel
theorem dX5_init_70 : decode cX5_init 70 = .ok (.bipush 96, 2) := by decide +kernel
theorem dX5_init_72 : decode cX5_init 72 = .ok (.newarray .long, 2) := by decide +kernel
theorem dX5_init_74 : decode cX5_init 74 = .ok (.putfield 34, 3) := by decide +kernel
theorem dX5_init_77 : decode cX5_init 77 = .ok (.aload_n 0, 1) := by decide +kernel
theorem dX5_init_78 : decode cX5_init 78 = .ok (.bipush 24, 2) := by decide +kernel
theorem dX5_init_80 : decode cX5_init 80 = .ok (.newarray .long, 2) := by decide +kernel
theorem dX5_init_82 : decode cX5_init 82 = .ok (.putfield 38, 3) := by decide +kernel
theorem dX5_init_85 : decode cX5_init 85 = .ok (.aload_n 0, 1) := by decide +kernel
theorem dX5_init_86 : decode cX5_init 86 = .ok (.getfield 7, 3) := by decide +kernel
theorem dX5_init_89 : decode cX5_init 89 = .ok (.iconst 4, 1) := by decide +kernel
theorem dX5_init_90 : decode cX5_init 90 = .ok (.iconst 5, 1) := by decide +kernel
theorem dX5_init_91 : decode cX5_init 91 = .ok (.iastore, 1) := by decide +kernel
theorem dX5_init_92 : decode cX5_init 92 = .ok (.aload_n 0, 1) := by decide +kernel
theorem dX5_init_93 : decode cX5_init 93 = .ok (.getfield 7, 3) := by decide +kernel
theorem dX5_init_96 : decode cX5_init 96 = .ok (.iconst 5, 1) := by decide +kernel
theorem dX5_init_97 : decode cX5_init 97 = .ok (.iconst 1, 1) := by decide +kernel
theorem dX5_init_98 : decode cX5_init 98 = .ok (.iastore, 1) := by decide +kernel
theorem dX5_init_99 : decode cX5_init 99 = .ok (.aload_n 0, 1) := by decide +kernel
theorem dX5_init_100 : decode cX5_init 100 = .ok (.getfield 7, 3) := by decide +kernel
theorem dX5_init_103 : decode cX5_init 103 = .ok (.bipush 7, 2) := by decide +kernel
theorem dX5_init_105 : decode cX5_init 105 = .ok (.iconst 1, 1) := by decide +kernel
theorem dX5_init_106 : decode cX5_init 106 = .ok (.iastore, 1) := by decide +kernel
theorem dX5_init_107 : decode cX5_init 107 = .ok (.iconst 0, 1) := by decide +kernel
theorem dX5_init_108 : decode cX5_init 108 = .ok (.istore_n 1, 1) := by decide +kernel
theorem dX5_init_109 : decode cX5_init 109 = .ok (.iload_n 1, 1) := by decide +kernel
theorem dX5_init_110 : decode cX5_init 110 = .ok (.iconst 4, 1) := by decide +kernel
theorem dX5_init_111 : decode cX5_init 111 = .ok (.if_icmp .ge 16, 3) := by decide +kernel
theorem dX5_init_114 : decode cX5_init 114 = .ok (.aload_n 0, 1) := by decide +kernel
theorem dX5_init_115 : decode cX5_init 115 = .ok (.getfield 28, 3) := by decide +kernel
theorem dX5_init_118 : decode cX5_init 118 = .ok (.iload_n 1, 1) := by decide +kernel
theorem dX5_init_119 : decode cX5_init 119 = .ok (.iconst (-1), 1) := by decide +kernel
theorem dX5_init_120 : decode cX5_init 120 = .ok (.iastore, 1) := by decide +kernel
theorem dX5_init_121 : decode cX5_init 121 = .ok (.iinc 1 1, 3) := by decide +kernel
theorem dX5_init_124 : decode cX5_init 124 = .ok (.goto (-15), 3) := by decide +kernel
theorem dX5_init_127 : decode cX5_init 127 = .ok (.return_, 1) := by decide +kernel
theorem dX5_isPerson_0 : decode cX5_isPerson 0 = .ok (.iload_n 1, 1) := by decide +kernel
theorem dX5_isPerson_1 : decode cX5_isPerson 1 = .ok (.i2l, 1) := by decide +kernel
theorem dX5_isPerson_2 : decode cX5_isPerson 2 = .ok (.lconst 0, 1) := by decide +kernel
theorem dX5_isPerson_3 : decode cX5_isPerson 3 = .ok (.aload_n 0, 1) := by decide +kernel
theorem dX5_isPerson_4 : decode cX5_isPerson 4 = .ok (.getfield 7, 3) := by decide +kernel
theorem dX5_isPerson_7 : decode cX5_isPerson 7 = .ok (.iconst 0, 1) := by decide +kernel
theorem dX5_isPerson_8 : decode cX5_isPerson 8 = .ok (.iaload, 1) := by decide +kernel
theorem dX5_isPerson_9 : decode cX5_isPerson 9 = .ok (.iconst 1, 1) := by decide +kernel
theorem dX5_isPerson_10 : decode cX5_isPerson 10 = .ok (.isub, 1) := by decide +kernel
theorem dX5_isPerson_11 : decode cX5_isPerson 11 = .ok (.i2l, 1) := by decide +kernel
theorem dX5_isPerson_12 : decode cX5_isPerson 12 = .ok (.invokestatic 41, 3) := by decide +kernel
theorem dX5_isPerson_15 : decode cX5_isPerson 15 = .ok (.ireturn, 1) := by decide +kernel
theorem dX5_isSuit_0 : decode cX5_isSuit 0 = .ok (.iload_n 1, 1) := by decide +kernel
theorem dX5_isSuit_1 : decode cX5_isSuit 1 = .ok (.i2l, 1) := by decide +kernel
theorem dX5_isSuit_2 : decode cX5_isSuit 2 = .ok (.lconst 0, 1) := by decide +kernel
theorem dX5_isSuit_3 : decode cX5_isSuit 3 = .ok (.aload_n 0, 1) := by decide +kernel
theorem dX5_isSuit_4 : decode cX5_isSuit 4 = .ok (.getfield 7, 3) := by decide +kernel
theorem dX5_isSuit_7 : decode cX5_isSuit 7 = .ok (.iconst 1, 1) := by decide +kernel
theorem dX5_isSuit_8 : decode cX5_isSuit 8 = .ok (.iaload, 1) := by decide +kernel
theorem dX5_isSuit_9 : decode cX5_isSuit 9 = .ok (.iconst 1, 1) := by decide +kernel
theorem dX5_isSuit_10 : decode cX5_isSuit 10 = .ok (.isub, 1) := by decide +kernel
theorem dX5_isSuit_11 : decode cX5_isSuit 11 = .ok (.i2l, 1) := by decide +kernel
theorem dX5_isSuit_12 : decode cX5_isSuit 12 = .ok (.invokestatic 41, 3) := by decide +kernel
theorem dX5_isSuit_15 : decode cX5_isSuit 15 = .ok (.ireturn, 1) := by decide +kernel
theorem dX5_isDeed_0 : decode cX5_isDeed 0 = .ok (.iload_n 1, 1) := by decide +kernel
theorem dX5_isDeed_1 : decode cX5_isDeed 1 = .ok (.i2l, 1) := by decide +kernel
theorem dX5_isDeed_2 : decode cX5_isDeed 2 = .ok (.lconst 0, 1) := by decide +kernel
theorem dX5_isDeed_3 : decode cX5_isDeed 3 = .ok (.aload_n 0, 1) := by decide +kernel
theorem dX5_isDeed_4 : decode cX5_isDeed 4 = .ok (.getfield 7, 3) := by decide +kernel
theorem dX5_isDeed_7 : decode cX5_isDeed 7 = .ok (.iconst 2, 1) := by decide +kernel
theorem dX5_isDeed_8 : decode cX5_isDeed 8 = .ok (.iaload, 1) := by decide +kernel
theorem dX5_isDeed_9 : decode cX5_isDeed 9 = .ok (.iconst 1, 1) := by decide +kernel
theorem dX5_isDeed_10 : decode cX5_isDeed 10 = .ok (.isub, 1) := by decide +kernel
theorem dX5_isDeed_11 : decode cX5_isDeed 11 = .ok (.i2l, 1) := by decide +kernel
theorem dX5_isDeed_12 : decode cX5_isDeed 12 = .ok (.invokestatic 41, 3) := by decide +kernel
theorem dX5_isDeed_15 : decode cX5_isDeed 15 = .ok (.ireturn, 1) := by decide +kernel
theorem dX5_isMeasure_0 : decode cX5_isMeasure 0 = .ok (.iload_n 0, 1) := by decide +kernel
theorem dX5_isMeasure_1 : decode cX5_isMeasure 1 = .ok (.i2l, 1) := by decide +kernel
theorem dX5_isMeasure_2 : decode cX5_isMeasure 2 = .ok (.lconst 0, 1) := by decide +kernel
theorem dX5_isMeasure_3 : decode cX5_isMeasure 3 = .ok (.ldc2_w 45, 3) := by decide +kernel
theorem dX5_isMeasure_6 : decode cX5_isMeasure 6 = .ok (.invokestatic 41, 3) := by decide +kernel
theorem dX5_isMeasure_9 : decode cX5_isMeasure 9 = .ok (.ireturn, 1) := by decide +kernel
theorem dX5_kind_0 : decode cX5_kind 0 = .ok (.aload_n 0, 1) := by decide +kernel
theorem dX5_kind_1 : decode cX5_kind 1 = .ok (.getfield 7, 3) := by decide +kernel
theorem dX5_kind_4 : decode cX5_kind 4 = .ok (.bipush 8, 2) := by decide +kernel
theorem dX5_kind_6 : decode cX5_kind 6 = .ok (.iconst 5, 1) := by decide +kernel
theorem dX5_kind_7 : decode cX5_kind 7 = .ok (.iload_n 1, 1) := by decide +kernel
theorem dX5_kind_8 : decode cX5_kind 8 = .ok (.imul, 1) := by decide +kernel
theorem dX5_kind_9 : decode cX5_kind 9 = .ok (.iadd, 1) := by decide +kernel
theorem dX5_kind_10 : decode cX5_kind 10 = .ok (.iaload, 1) := by decide +kernel
theorem dX5_kind_11 : decode cX5_kind 11 = .ok (.ireturn, 1) := by decide +kernel
theorem dX5_ownOf_0 : decode cX5_ownOf 0 = .ok (.aload_n 0, 1) := by decide +kernel
theorem dX5_ownOf_1 : decode cX5_ownOf 1 = .ok (.getfield 7, 3) := by decide +kernel
theorem dX5_ownOf_4 : decode cX5_ownOf 4 = .ok (.bipush 8, 2) := by decide +kernel
theorem dX5_ownOf_6 : decode cX5_ownOf 6 = .ok (.iconst 5, 1) := by decide +kernel
theorem dX5_ownOf_7 : decode cX5_ownOf 7 = .ok (.iload_n 1, 1) := by decide +kernel
theorem dX5_ownOf_8 : decode cX5_ownOf 8 = .ok (.imul, 1) := by decide +kernel
theorem dX5_ownOf_9 : decode cX5_ownOf 9 = .ok (.iadd, 1) := by decide +kernel
theorem dX5_ownOf_10 : decode cX5_ownOf 10 = .ok (.iconst 1, 1) := by decide +kernel
theorem dX5_ownOf_11 : decode cX5_ownOf 11 = .ok (.iadd, 1) := by decide +kernel
theorem dX5_ownOf_12 : decode cX5_ownOf 12 = .ok (.iload_n 2, 1) := by decide +kernel
theorem dX5_ownOf_13 : decode cX5_ownOf 13 = .ok (.iadd, 1) := by decide +kernel
theorem dX5_ownOf_14 : decode cX5_ownOf 14 = .ok (.iaload, 1) := by decide +kernel
theorem dX5_ownOf_15 : decode cX5_ownOf 15 = .ok (.ireturn, 1) := by decide +kernel
theorem dX5_cutOf_0 : decode cX5_cutOf 0 = .ok (.aload_n 0, 1) := by decide +kernel
theorem dX5_cutOf_1 : decode cX5_cutOf 1 = .ok (.getfield 7, 3) := by decide +kernel
theorem dX5_cutOf_4 : decode cX5_cutOf 4 = .ok (.bipush 33, 2) := by decide +kernel
theorem dX5_cutOf_6 : decode cX5_cutOf 6 = .ok (.iconst 4, 1) := by decide +kernel
theorem dX5_cutOf_7 : decode cX5_cutOf 7 = .ok (.iload_n 1, 1) := by decide +kernel
theorem dX5_cutOf_8 : decode cX5_cutOf 8 = .ok (.imul, 1) := by decide +kernel
theorem dX5_cutOf_9 : decode cX5_cutOf 9 = .ok (.iadd, 1) := by decide +kernel
theorem dX5_cutOf_10 : decode cX5_cutOf 10 = .ok (.iload_n 2, 1) := by decide +kernel
theorem dX5_cutOf_11 : decode cX5_cutOf 11 = .ok (.iadd, 1) := by decide +kernel
theorem dX5_cutOf_12 : decode cX5_cutOf 12 = .ok (.iaload, 1) := by decide +kernel
theorem dX5_cutOf_13 : decode cX5_cutOf 13 = .ok (.ireturn, 1) := by decide +kernel
theorem dX5_told_0 : decode cX5_told 0 = .ok (.aload_n 0, 1) := by decide +kernel
theorem dX5_told_1 : decode cX5_told 1 = .ok (.getfield 7, 3) := by decide +kernel
theorem dX5_told_4 : decode cX5_told 4 = .ok (.bipush 49, 2) := by decide +kernel
theorem dX5_told_6 : decode cX5_told 6 = .ok (.iconst 4, 1) := by decide +kernel
theorem dX5_told_7 : decode cX5_told 7 = .ok (.iload_n 1, 1) := by decide +kernel
theorem dX5_told_8 : decode cX5_told 8 = .ok (.imul, 1) := by decide +kernel
theorem dX5_told_9 : decode cX5_told 9 = .ok (.iadd, 1) := by decide +kernel
theorem dX5_told_10 : decode cX5_told 10 = .ok (.iload_n 2, 1) := by decide +kernel
theorem dX5_told_11 : decode cX5_told 11 = .ok (.iadd, 1) := by decide +kernel
theorem dX5_told_12 : decode cX5_told 12 = .ok (.iaload, 1) := by decide +kernel
theorem dX5_told_13 : decode cX5_told 13 = .ok (.ireturn, 1) := by decide +kernel
theorem dX5_left_0 : decode cX5_left 0 = .ok (.aload_n 0, 1) := by decide +kernel
theorem dX5_left_1 : decode cX5_left 1 = .ok (.iload_n 1, 1) := by decide +kernel
theorem dX5_left_2 : decode cX5_left 2 = .ok (.iconst 2, 1) := by decide +kernel
theorem dX5_left_3 : decode cX5_left 3 = .ok (.invokevirtual 47, 3) := by decide +kernel
theorem dX5_left_6 : decode cX5_left 6 = .ok (.iload_n 2, 1) := by decide +kernel
theorem dX5_left_7 : decode cX5_left 7 = .ok (.aload_n 0, 1) := by decide +kernel
theorem dX5_left_8 : decode cX5_left 8 = .ok (.iload_n 1, 1) := by decide +kernel
theorem dX5_left_9 : decode cX5_left 9 = .ok (.iconst 3, 1) := by decide +kernel
theorem dX5_left_10 : decode cX5_left 10 = .ok (.invokevirtual 47, 3) := by decide +kernel
theorem dX5_left_13 : decode cX5_left 13 = .ok (.isub, 1) := by decide +kernel
theorem dX5_left_14 : decode cX5_left 14 = .ok (.aload_n 0, 1) := by decide +kernel
theorem dX5_left_15 : decode cX5_left 15 = .ok (.getfield 7, 3) := by decide +kernel
theorem dX5_left_18 : decode cX5_left 18 = .ok (.iconst 4, 1) := by decide +kernel
theorem dX5_left_19 : decode cX5_left 19 = .ok (.iaload, 1) := by decide +kernel
theorem dX5_left_20 : decode cX5_left 20 = .ok (.idiv, 1) := by decide +kernel
theorem dX5_left_21 : decode cX5_left 21 = .ok (.isub, 1) := by decide +kernel
theorem dX5_left_22 : decode cX5_left 22 = .ok (.istore 4, 2) := by decide +kernel
theorem dX5_left_24 : decode cX5_left 24 = .ok (.iload 4, 2) := by decide +kernel
theorem dX5_left_26 : decode cX5_left 26 = .ok (.ifCond .ge 7, 3) := by decide +kernel
theorem dX5_left_29 : decode cX5_left 29 = .ok (.iconst 0, 1) := by decide +kernel
theorem dX5_left_30 : decode cX5_left 30 = .ok (.goto 5, 3) := by decide +kernel
theorem dX5_left_33 : decode cX5_left 33 = .ok (.iload 4, 2) := by decide +kernel
theorem dX5_left_35 : decode cX5_left 35 = .ok (.istore 4, 2) := by decide +kernel
theorem dX5_left_37 : decode cX5_left 37 = .ok (.iload_n 3, 1) := by decide +kernel
theorem dX5_left_38 : decode cX5_left 38 = .ok (.iload_n 1, 1) := by decide +kernel
theorem dX5_left_39 : decode cX5_left 39 = .ok (.ishr, 1) := by decide +kernel
theorem dX5_left_40 : decode cX5_left 40 = .ok (.iconst 1, 1) := by decide +kernel
theorem dX5_left_41 : decode cX5_left 41 = .ok (.iand, 1) := by decide +kernel
theorem dX5_left_42 : decode cX5_left 42 = .ok (.iconst 1, 1) := by decide +kernel
theorem dX5_left_43 : decode cX5_left 43 = .ok (.if_icmp .ne 10, 3) := by decide +kernel
theorem dX5_left_46 : decode cX5_left 46 = .ok (.iload 4, 2) := by decide +kernel
theorem dX5_left_48 : decode cX5_left 48 = .ok (.iconst 2, 1) := by decide +kernel
theorem dX5_left_49 : decode cX5_left 49 = .ok (.idiv, 1) := by decide +kernel
theorem dX5_left_50 : decode cX5_left 50 = .ok (.goto 5, 3) := by decide +kernel
theorem dX5_left_53 : decode cX5_left 53 = .ok (.iload 4, 2) := by decide +kernel
theorem dX5_left_55 : decode cX5_left 55 = .ok (.ireturn, 1) := by decide +kernel
theorem dX5_shows_0 : decode cX5_shows 0 = .ok (.iload_n 0, 1) := by decide +kernel
theorem dX5_shows_1 : decode cX5_shows 1 = .ok (.iconst 5, 1) := by decide +kernel
theorem dX5_shows_2 : decode cX5_shows 2 = .ok (.if_icmp .eq 46, 3) := by decide +kernel
theorem dX5_shows_5 : decode cX5_shows 5 = .ok (.iload_n 0, 1) := by decide +kernel
theorem dX5_shows_6 : decode cX5_shows 6 = .ok (.ifCond .ne 8, 3) := by decide +kernel
theorem dX5_shows_9 : decode cX5_shows 9 = .ok (.iload_n 1, 1) := by decide +kernel
theorem dX5_shows_10 : decode cX5_shows 10 = .ok (.iconst 2, 1) := by decide +kernel
theorem dX5_shows_11 : decode cX5_shows 11 = .ok (.if_icmp .eq 37, 3) := by decide +kernel
theorem dX5_shows_14 : decode cX5_shows 14 = .ok (.iload_n 0, 1) := by decide +kernel
theorem dX5_shows_15 : decode cX5_shows 15 = .ok (.iconst 1, 1) := by decide +kernel
theorem dX5_shows_16 : decode cX5_shows 16 = .ok (.if_icmp .eq 8, 3) := by decide +kernel
theorem dX5_shows_19 : decode cX5_shows 19 = .ok (.iload_n 0, 1) := by decide +kernel
theorem dX5_shows_20 : decode cX5_shows 20 = .ok (.iconst 2, 1) := by decide +kernel
theorem dX5_shows_21 : decode cX5_shows 21 = .ok (.if_icmp .ne 7, 3) := by decide +kernel
theorem dX5_shows_24 : decode cX5_shows 24 = .ok (.iload_n 1, 1) := by decide +kernel
theorem dX5_shows_25 : decode cX5_shows 25 = .ok (.ifCond .eq 23, 3) := by decide +kernel
theorem dX5_shows_28 : decode cX5_shows 28 = .ok (.iload_n 0, 1) := by decide +kernel
theorem dX5_shows_29 : decode cX5_shows 29 = .ok (.iconst 3, 1) := by decide +kernel
theorem dX5_shows_30 : decode cX5_shows 30 = .ok (.if_icmp .ne 8, 3) := by decide +kernel
theorem dX5_shows_33 : decode cX5_shows 33 = .ok (.iload_n 1, 1) := by decide +kernel
theorem dX5_shows_34 : decode cX5_shows 34 = .ok (.iconst 3, 1) := by decide +kernel
theorem dX5_shows_35 : decode cX5_shows 35 = .ok (.if_icmp .eq 13, 3) := by decide +kernel
theorem dX5_shows_38 : decode cX5_shows 38 = .ok (.iload_n 0, 1) := by decide +kernel
theorem dX5_shows_39 : decode cX5_shows 39 = .ok (.iconst 4, 1) := by decide +kernel
theorem dX5_shows_40 : decode cX5_shows 40 = .ok (.if_icmp .ne 12, 3) := by decide +kernel
theorem dX5_shows_43 : decode cX5_shows 43 = .ok (.iload_n 1, 1) := by decide +kernel
theorem dX5_shows_44 : decode cX5_shows 44 = .ok (.iconst 1, 1) := by decide +kernel
theorem dX5_shows_45 : decode cX5_shows 45 = .ok (.if_icmp .ne 7, 3) := by decide +kernel
theorem dX5_shows_48 : decode cX5_shows 48 = .ok (.iconst 1, 1) := by decide +kernel
theorem dX5_shows_49 : decode cX5_shows 49 = .ok (.goto 4, 3) := by decide +kernel
theorem dX5_shows_52 : decode cX5_shows 52 = .ok (.iconst 0, 1) := by decide +kernel
theorem dX5_shows_53 : decode cX5_shows 53 = .ok (.ireturn, 1) := by decide +kernel
theorem dX5_longer_0 : decode cX5_longer 0 = .ok (.iload_n 3, 1) := by decide +kernel
theorem dX5_longer_1 : decode cX5_longer 1 = .ok (.ifCond .ne 5, 3) := by decide +kernel
theorem dX5_longer_4 : decode cX5_longer 4 = .ok (.iconst 0, 1) := by decide +kernel
theorem dX5_longer_5 : decode cX5_longer 5 = .ok (.ireturn, 1) := by decide +kernel
theorem dX5_longer_6 : decode cX5_longer 6 = .ok (.iload_n 1, 1) := by decide +kernel
theorem dX5_longer_7 : decode cX5_longer 7 = .ok (.iload_n 2, 1) := by decide +kernel
theorem dX5_longer_8 : decode cX5_longer 8 = .ok (.invokestatic 51, 3) := by decide +kernel
theorem dX5_longer_11 : decode cX5_longer 11 = .ok (.ifCond .eq 7, 3) := by decide +kernel
theorem dX5_longer_14 : decode cX5_longer 14 = .ok (.iload_n 3, 1) := by decide +kernel
theorem dX5_longer_15 : decode cX5_longer 15 = .ok (.goto 4, 3) := by decide +kernel
theorem dX5_longer_18 : decode cX5_longer 18 = .ok (.iconst 0, 1) := by decide +kernel
theorem dX5_longer_19 : decode cX5_longer 19 = .ok (.istore 4, 2) := by decide +kernel
theorem dX5_longer_21 : decode cX5_longer 21 = .ok (.iload_n 2, 1) := by decide +kernel
theorem dX5_longer_22 : decode cX5_longer 22 = .ok (.ifCond .ne 7, 3) := by decide +kernel
theorem dX5_longer_25 : decode cX5_longer 25 = .ok (.iconst 0, 1) := by decide +kernel
theorem dX5_longer_26 : decode cX5_longer 26 = .ok (.goto 25, 3) := by decide +kernel
theorem dX5_longer_29 : decode cX5_longer 29 = .ok (.iload_n 2, 1) := by decide +kernel
theorem dX5_longer_30 : decode cX5_longer 30 = .ok (.iconst 1, 1) := by decide +kernel
theorem dX5_longer_31 : decode cX5_longer 31 = .ok (.if_icmp .ne 18, 3) := by decide +kernel
theorem dX5_longer_34 : decode cX5_longer 34 = .ok (.iload_n 1, 1) := by decide +kernel
theorem dX5_longer_35 : decode cX5_longer 35 = .ok (.iconst 0, 1) := by decide +kernel
theorem dX5_longer_36 : decode cX5_longer 36 = .ok (.invokestatic 51, 3) := by decide +kernel
theorem dX5_longer_39 : decode cX5_longer 39 = .ok (.ifCond .eq 10, 3) := by decide +kernel
theorem dX5_longer_42 : decode cX5_longer 42 = .ok (.iload 4, 2) := by decide +kernel
theorem dX5_longer_44 : decode cX5_longer 44 = .ok (.iload_n 3, 1) := by decide +kernel
theorem dX5_longer_45 : decode cX5_longer 45 = .ok (.iadd, 1) := by decide +kernel
theorem dX5_longer_46 : decode cX5_longer 46 = .ok (.goto 5, 3) := by decide +kernel
theorem dX5_longer_49 : decode cX5_longer 49 = .ok (.iload 4, 2) := by decide +kernel
theorem dX5_longer_51 : decode cX5_longer 51 = .ok (.istore 5, 2) := by decide +kernel
theorem dX5_longer_53 : decode cX5_longer 53 = .ok (.iload_n 0, 1) := by decide +kernel
theorem dX5_longer_54 : decode cX5_longer 54 = .ok (.tableswitch 64 0 3 #[30, 33, 47, 50], 30) := by decide +kernel
theorem dX5_longer_84 : decode cX5_longer 84 = .ok (.iload 4, 2) := by decide +kernel
theorem dX5_longer_86 : decode cX5_longer 86 = .ok (.ireturn, 1) := by decide +kernel
theorem dX5_longer_87 : decode cX5_longer 87 = .ok (.iload 4, 2) := by decide +kernel
theorem dX5_longer_89 : decode cX5_longer 89 = .ok (.ifCond .ne 7, 3) := by decide +kernel
theorem dX5_longer_92 : decode cX5_longer 92 = .ok (.iconst 0, 1) := by decide +kernel
theorem dX5_longer_93 : decode cX5_longer 93 = .ok (.goto 7, 3) := by decide +kernel
theorem dX5_longer_96 : decode cX5_longer 96 = .ok (.iload 4, 2) := by decide +kernel
theorem dX5_longer_98 : decode cX5_longer 98 = .ok (.iconst 1, 1) := by decide +kernel
theorem dX5_longer_99 : decode cX5_longer 99 = .ok (.iadd, 1) := by decide +kernel
theorem dX5_longer_100 : decode cX5_longer 100 = .ok (.ireturn, 1) := by decide +kernel
theorem dX5_longer_101 : decode cX5_longer 101 = .ok (.iload 5, 2) := by decide +kernel
theorem dX5_longer_103 : decode cX5_longer 103 = .ok (.ireturn, 1) := by decide +kernel
theorem dX5_longer_104 : decode cX5_longer 104 = .ok (.iload 4, 2) := by decide +kernel
theorem dX5_longer_106 : decode cX5_longer 106 = .ok (.ifCond .ne 7, 3) := by decide +kernel
theorem dX5_longer_109 : decode cX5_longer 109 = .ok (.iconst 0, 1) := by decide +kernel
theorem dX5_longer_110 : decode cX5_longer 110 = .ok (.goto 7, 3) := by decide +kernel
theorem dX5_longer_113 : decode cX5_longer 113 = .ok (.iload 4, 2) := by decide +kernel
theorem dX5_longer_115 : decode cX5_longer 115 = .ok (.iconst 1, 1) := by decide +kernel
theorem dX5_longer_116 : decode cX5_longer 116 = .ok (.isub, 1) := by decide +kernel
theorem dX5_longer_117 : decode cX5_longer 117 = .ok (.ireturn, 1) := by decide +kernel
theorem dX5_longer_118 : decode cX5_longer 118 = .ok (.iload 5, 2) := by decide +kernel
theorem dX5_longer_120 : decode cX5_longer 120 = .ok (.iconst 2, 1) := by decide +kernel
theorem dX5_longer_121 : decode cX5_longer 121 = .ok (.idiv, 1) := by decide +kernel
theorem dX5_longer_122 : decode cX5_longer 122 = .ok (.ireturn, 1) := by decide +kernel
theorem dX5_measure_0 : decode cX5_measure 0 = .ok (.aload_n 0, 1) := by decide +kernel
theorem dX5_measure_1 : decode cX5_measure 1 = .ok (.iload_n 1, 1) := by decide +kernel
theorem dX5_measure_2 : decode cX5_measure 2 = .ok (.iload_n 2, 1) := by decide +kernel
theorem dX5_measure_3 : decode cX5_measure 3 = .ok (.invokevirtual 55, 3) := by decide +kernel
theorem dX5_measure_6 : decode cX5_measure 6 = .ok (.istore 5, 2) := by decide +kernel
theorem dX5_measure_8 : decode cX5_measure 8 = .ok (.iconst 0, 1) := by decide +kernel
theorem dX5_measure_9 : decode cX5_measure 9 = .ok (.istore 6, 2) := by decide +kernel
theorem dX5_measure_11 : decode cX5_measure 11 = .ok (.iload 6, 2) := by decide +kernel
theorem dX5_measure_13 : decode cX5_measure 13 = .ok (.aload_n 0, 1) := by decide +kernel
theorem dX5_measure_14 : decode cX5_measure 14 = .ok (.getfield 7, 3) := by decide +kernel
theorem dX5_measure_17 : decode cX5_measure 17 = .ok (.iconst 2, 1) := by decide +kernel
theorem dX5_measure_18 : decode cX5_measure 18 = .ok (.iaload, 1) := by decide +kernel
theorem dX5_measure_19 : decode cX5_measure 19 = .ok (.if_icmp .ge 54, 3) := by decide +kernel
theorem dX5_measure_22 : decode cX5_measure 22 = .ok (.iload 5, 2) := by decide +kernel
theorem dX5_measure_24 : decode cX5_measure 24 = .ok (.aload_n 0, 1) := by decide +kernel
theorem dX5_measure_25 : decode cX5_measure 25 = .ok (.iload 6, 2) := by decide +kernel
theorem dX5_measure_27 : decode cX5_measure 27 = .ok (.iconst 0, 1) := by decide +kernel
theorem dX5_measure_28 : decode cX5_measure 28 = .ok (.invokevirtual 47, 3) := by decide +kernel
theorem dX5_measure_31 : decode cX5_measure 31 = .ok (.iload_n 1, 1) := by decide +kernel
theorem dX5_measure_32 : decode cX5_measure 32 = .ok (.if_icmp .ne 31, 3) := by decide +kernel
theorem dX5_measure_35 : decode cX5_measure 35 = .ok (.aload_n 0, 1) := by decide +kernel
theorem dX5_measure_36 : decode cX5_measure 36 = .ok (.iload_n 1, 1) := by decide +kernel
theorem dX5_measure_37 : decode cX5_measure 37 = .ok (.invokevirtual 58, 3) := by decide +kernel
theorem dX5_measure_40 : decode cX5_measure 40 = .ok (.aload_n 0, 1) := by decide +kernel
theorem dX5_measure_41 : decode cX5_measure 41 = .ok (.iload 6, 2) := by decide +kernel
theorem dX5_measure_43 : decode cX5_measure 43 = .ok (.iconst 1, 1) := by decide +kernel
theorem dX5_measure_44 : decode cX5_measure 44 = .ok (.invokevirtual 47, 3) := by decide +kernel
theorem dX5_measure_47 : decode cX5_measure 47 = .ok (.iload_n 2, 1) := by decide +kernel
theorem dX5_measure_48 : decode cX5_measure 48 = .ok (.aload_n 0, 1) := by decide +kernel
theorem dX5_measure_49 : decode cX5_measure 49 = .ok (.iload 6, 2) := by decide +kernel
theorem dX5_measure_51 : decode cX5_measure 51 = .ok (.iload_n 3, 1) := by decide +kernel
theorem dX5_measure_52 : decode cX5_measure 52 = .ok (.iload 4, 2) := by decide +kernel
theorem dX5_measure_54 : decode cX5_measure 54 = .ok (.invokevirtual 62, 3) := by decide +kernel
theorem dX5_measure_57 : decode cX5_measure 57 = .ok (.invokestatic 66, 3) := by decide +kernel
theorem dX5_measure_60 : decode cX5_measure 60 = .ok (.goto 4, 3) := by decide +kernel
theorem dX5_measure_63 : decode cX5_measure 63 = .ok (.iconst 0, 1) := by decide +kernel
theorem dX5_measure_64 : decode cX5_measure 64 = .ok (.iadd, 1) := by decide +kernel
theorem dX5_measure_65 : decode cX5_measure 65 = .ok (.istore 5, 2) := by decide +kernel
theorem dX5_measure_67 : decode cX5_measure 67 = .ok (.iinc 6 1, 3) := by decide +kernel
theorem dX5_measure_70 : decode cX5_measure 70 = .ok (.goto (-59), 3) := by decide +kernel
theorem dX5_measure_73 : decode cX5_measure 73 = .ok (.iload 5, 2) := by decide +kernel
theorem dX5_measure_75 : decode cX5_measure 75 = .ok (.ireturn, 1) := by decide +kernel
theorem dX5_today_0 : decode cX5_today 0 = .ok (.aload_n 0, 1) := by decide +kernel
theorem dX5_today_1 : decode cX5_today 1 = .ok (.iload_n 1, 1) := by decide +kernel
theorem dX5_today_2 : decode cX5_today 2 = .ok (.iload_n 2, 1) := by decide +kernel
theorem dX5_today_3 : decode cX5_today 3 = .ok (.aload_n 0, 1) := by decide +kernel
theorem dX5_today_4 : decode cX5_today 4 = .ok (.getfield 7, 3) := by decide +kernel
theorem dX5_today_7 : decode cX5_today 7 = .ok (.iconst 3, 1) := by decide +kernel
theorem dX5_today_8 : decode cX5_today 8 = .ok (.iaload, 1) := by decide +kernel
theorem dX5_today_9 : decode cX5_today 9 = .ok (.aload_n 0, 1) := by decide +kernel
theorem dX5_today_10 : decode cX5_today 10 = .ok (.getfield 7, 3) := by decide +kernel
theorem dX5_today_13 : decode cX5_today 13 = .ok (.bipush 6, 2) := by decide +kernel
theorem dX5_today_15 : decode cX5_today 15 = .ok (.iaload, 1) := by decide +kernel
theorem dX5_today_16 : decode cX5_today 16 = .ok (.invokevirtual 70, 3) := by decide +kernel
theorem dX5_today_19 : decode cX5_today 19 = .ok (.ireturn, 1) := by decide +kernel
theorem dX5_apart_0 : decode cX5_apart 0 = .ok (.iload_n 0, 1) := by decide +kernel
theorem dX5_apart_1 : decode cX5_apart 1 = .ok (.iload_n 1, 1) := by decide +kernel
theorem dX5_apart_2 : decode cX5_apart 2 = .ok (.if_icmp .ge 9, 3) := by decide +kernel
theorem dX5_apart_5 : decode cX5_apart 5 = .ok (.iload_n 1, 1) := by decide +kernel
theorem dX5_apart_6 : decode cX5_apart 6 = .ok (.iload_n 0, 1) := by decide +kernel
theorem dX5_apart_7 : decode cX5_apart 7 = .ok (.isub, 1) := by decide +kernel
theorem dX5_apart_8 : decode cX5_apart 8 = .ok (.goto 6, 3) := by decide +kernel
theorem dX5_apart_11 : decode cX5_apart 11 = .ok (.iload_n 0, 1) := by decide +kernel
theorem dX5_apart_12 : decode cX5_apart 12 = .ok (.iload_n 1, 1) := by decide +kernel
theorem dX5_apart_13 : decode cX5_apart 13 = .ok (.isub, 1) := by decide +kernel
theorem dX5_apart_14 : decode cX5_apart 14 = .ok (.ireturn, 1) := by decide +kernel
theorem dX5_showsOn_0 : decode cX5_showsOn 0 = .ok (.iconst 0, 1) := by decide +kernel
theorem dX5_showsOn_1 : decode cX5_showsOn 1 = .ok (.istore 4, 2) := by decide +kernel
theorem dX5_showsOn_3 : decode cX5_showsOn 3 = .ok (.iconst 0, 1) := by decide +kernel
theorem dX5_showsOn_4 : decode cX5_showsOn 4 = .ok (.istore 5, 2) := by decide +kernel
theorem dX5_showsOn_6 : decode cX5_showsOn 6 = .ok (.iload 5, 2) := by decide +kernel
theorem dX5_showsOn_8 : decode cX5_showsOn 8 = .ok (.iconst 4, 1) := by decide +kernel
theorem dX5_showsOn_9 : decode cX5_showsOn 9 = .ok (.if_icmp .ge 39, 3) := by decide +kernel
theorem dX5_showsOn_12 : decode cX5_showsOn 12 = .ok (.iload 4, 2) := by decide +kernel
theorem dX5_showsOn_14 : decode cX5_showsOn 14 = .ok (.aload_n 0, 1) := by decide +kernel
theorem dX5_showsOn_15 : decode cX5_showsOn 15 = .ok (.iload_n 1, 1) := by decide +kernel
theorem dX5_showsOn_16 : decode cX5_showsOn 16 = .ok (.iload 5, 2) := by decide +kernel
theorem dX5_showsOn_18 : decode cX5_showsOn 18 = .ok (.iload_n 3, 1) := by decide +kernel
theorem dX5_showsOn_19 : decode cX5_showsOn 19 = .ok (.aload_n 0, 1) := by decide +kernel
theorem dX5_showsOn_20 : decode cX5_showsOn 20 = .ok (.getfield 7, 3) := by decide +kernel
theorem dX5_showsOn_23 : decode cX5_showsOn 23 = .ok (.bipush 6, 2) := by decide +kernel
theorem dX5_showsOn_25 : decode cX5_showsOn 25 = .ok (.iaload, 1) := by decide +kernel
theorem dX5_showsOn_26 : decode cX5_showsOn 26 = .ok (.invokevirtual 70, 3) := by decide +kernel
theorem dX5_showsOn_29 : decode cX5_showsOn 29 = .ok (.aload_n 0, 1) := by decide +kernel
theorem dX5_showsOn_30 : decode cX5_showsOn 30 = .ok (.iload_n 2, 1) := by decide +kernel
theorem dX5_showsOn_31 : decode cX5_showsOn 31 = .ok (.iload 5, 2) := by decide +kernel
theorem dX5_showsOn_33 : decode cX5_showsOn 33 = .ok (.invokevirtual 73, 3) := by decide +kernel
theorem dX5_showsOn_36 : decode cX5_showsOn 36 = .ok (.invokestatic 76, 3) := by decide +kernel
theorem dX5_showsOn_39 : decode cX5_showsOn 39 = .ok (.iadd, 1) := by decide +kernel
theorem dX5_showsOn_40 : decode cX5_showsOn 40 = .ok (.istore 4, 2) := by decide +kernel
theorem dX5_showsOn_42 : decode cX5_showsOn 42 = .ok (.iinc 5 1, 3) := by decide +kernel
theorem dX5_showsOn_45 : decode cX5_showsOn 45 = .ok (.goto (-39), 3) := by decide +kernel
theorem dX5_showsOn_48 : decode cX5_showsOn 48 = .ok (.iload 4, 2) := by decide +kernel
theorem dX5_showsOn_50 : decode cX5_showsOn 50 = .ok (.ireturn, 1) := by decide +kernel
theorem dX5_fits_0 : decode cX5_fits 0 = .ok (.iconst 1, 1) := by decide +kernel
theorem dX5_fits_1 : decode cX5_fits 1 = .ok (.istore 5, 2) := by decide +kernel
theorem dX5_fits_3 : decode cX5_fits 3 = .ok (.iconst 0, 1) := by decide +kernel
theorem dX5_fits_4 : decode cX5_fits 4 = .ok (.istore 6, 2) := by decide +kernel
theorem dX5_fits_6 : decode cX5_fits 6 = .ok (.iload 6, 2) := by decide +kernel
theorem dX5_fits_8 : decode cX5_fits 8 = .ok (.iconst 4, 1) := by decide +kernel
theorem dX5_fits_9 : decode cX5_fits 9 = .ok (.if_icmp .ge 50, 3) := by decide +kernel
theorem dX5_fits_12 : decode cX5_fits 12 = .ok (.iload 5, 2) := by decide +kernel
theorem dX5_fits_14 : decode cX5_fits 14 = .ok (.ifCond .eq 36, 3) := by decide +kernel
theorem dX5_fits_17 : decode cX5_fits 17 = .ok (.aload_n 0, 1) := by decide +kernel
theorem dX5_fits_18 : decode cX5_fits 18 = .ok (.iload_n 1, 1) := by decide +kernel
theorem dX5_fits_19 : decode cX5_fits 19 = .ok (.iload 6, 2) := by decide +kernel
theorem dX5_fits_21 : decode cX5_fits 21 = .ok (.iload_n 3, 1) := by decide +kernel
theorem dX5_fits_22 : decode cX5_fits 22 = .ok (.iload 4, 2) := by decide +kernel
theorem dX5_fits_24 : decode cX5_fits 24 = .ok (.invokevirtual 70, 3) := by decide +kernel
theorem dX5_fits_27 : decode cX5_fits 27 = .ok (.aload_n 0, 1) := by decide +kernel
theorem dX5_fits_28 : decode cX5_fits 28 = .ok (.iload_n 2, 1) := by decide +kernel
theorem dX5_fits_29 : decode cX5_fits 29 = .ok (.iload 6, 2) := by decide +kernel
theorem dX5_fits_31 : decode cX5_fits 31 = .ok (.invokevirtual 73, 3) := by decide +kernel
theorem dX5_fits_34 : decode cX5_fits 34 = .ok (.invokestatic 76, 3) := by decide +kernel
theorem dX5_fits_37 : decode cX5_fits 37 = .ok (.aload_n 0, 1) := by decide +kernel
theorem dX5_fits_38 : decode cX5_fits 38 = .ok (.getfield 7, 3) := by decide +kernel
theorem dX5_fits_41 : decode cX5_fits 41 = .ok (.iconst 5, 1) := by decide +kernel
theorem dX5_fits_42 : decode cX5_fits 42 = .ok (.iaload, 1) := by decide +kernel
theorem dX5_fits_43 : decode cX5_fits 43 = .ok (.if_icmp .gt 7, 3) := by decide +kernel
theorem dX5_fits_46 : decode cX5_fits 46 = .ok (.iconst 1, 1) := by decide +kernel
theorem dX5_fits_47 : decode cX5_fits 47 = .ok (.goto 4, 3) := by decide +kernel
theorem dX5_fits_50 : decode cX5_fits 50 = .ok (.iconst 0, 1) := by decide +kernel
theorem dX5_fits_51 : decode cX5_fits 51 = .ok (.istore 5, 2) := by decide +kernel
theorem dX5_fits_53 : decode cX5_fits 53 = .ok (.iinc 6 1, 3) := by decide +kernel
theorem dX5_fits_56 : decode cX5_fits 56 = .ok (.goto (-50), 3) := by decide +kernel
theorem dX5_fits_59 : decode cX5_fits 59 = .ok (.iload 5, 2) := by decide +kernel
theorem dX5_fits_61 : decode cX5_fits 61 = .ok (.ireturn, 1) := by decide +kernel
theorem dX5_fitsNow_0 : decode cX5_fitsNow 0 = .ok (.aload_n 0, 1) := by decide +kernel
theorem dX5_fitsNow_1 : decode cX5_fitsNow 1 = .ok (.iload_n 1, 1) := by decide +kernel
theorem dX5_fitsNow_2 : decode cX5_fitsNow 2 = .ok (.iload_n 2, 1) := by decide +kernel
theorem dX5_fitsNow_3 : decode cX5_fitsNow 3 = .ok (.aload_n 0, 1) := by decide +kernel
theorem dX5_fitsNow_4 : decode cX5_fitsNow 4 = .ok (.getfield 7, 3) := by decide +kernel
theorem dX5_fitsNow_7 : decode cX5_fitsNow 7 = .ok (.iconst 3, 1) := by decide +kernel
theorem dX5_fitsNow_8 : decode cX5_fitsNow 8 = .ok (.iaload, 1) := by decide +kernel
theorem dX5_fitsNow_9 : decode cX5_fitsNow 9 = .ok (.aload_n 0, 1) := by decide +kernel
theorem dX5_fitsNow_10 : decode cX5_fitsNow 10 = .ok (.getfield 7, 3) := by decide +kernel
theorem dX5_fitsNow_13 : decode cX5_fitsNow 13 = .ok (.bipush 6, 2) := by decide +kernel
theorem dX5_fitsNow_15 : decode cX5_fitsNow 15 = .ok (.iaload, 1) := by decide +kernel
theorem dX5_fitsNow_16 : decode cX5_fitsNow 16 = .ok (.invokevirtual 79, 3) := by decide +kernel
theorem dX5_fitsNow_19 : decode cX5_fitsNow 19 = .ok (.ireturn, 1) := by decide +kernel
theorem dX5_leftOfAll_0 : decode cX5_leftOfAll 0 = .ok (.iconst 0, 1) := by decide +kernel
theorem dX5_leftOfAll_1 : decode cX5_leftOfAll 1 = .ok (.istore_n 1, 1) := by decide +kernel
theorem dX5_leftOfAll_2 : decode cX5_leftOfAll 2 = .ok (.iconst 0, 1) := by decide +kernel
theorem dX5_leftOfAll_3 : decode cX5_leftOfAll 3 = .ok (.istore_n 2, 1) := by decide +kernel
theorem dX5_leftOfAll_4 : decode cX5_leftOfAll 4 = .ok (.iload_n 2, 1) := by decide +kernel
theorem dX5_leftOfAll_5 : decode cX5_leftOfAll 5 = .ok (.aload_n 0, 1) := by decide +kernel
theorem dX5_leftOfAll_6 : decode cX5_leftOfAll 6 = .ok (.getfield 7, 3) := by decide +kernel
theorem dX5_leftOfAll_9 : decode cX5_leftOfAll 9 = .ok (.iconst 2, 1) := by decide +kernel
theorem dX5_leftOfAll_10 : decode cX5_leftOfAll 10 = .ok (.iaload, 1) := by decide +kernel
theorem dX5_leftOfAll_11 : decode cX5_leftOfAll 11 = .ok (.if_icmp .ge 30, 3) := by decide +kernel
theorem dX5_leftOfAll_14 : decode cX5_leftOfAll 14 = .ok (.iload_n 1, 1) := by decide +kernel
theorem dX5_leftOfAll_15 : decode cX5_leftOfAll 15 = .ok (.aload_n 0, 1) := by decide +kernel
theorem dX5_leftOfAll_16 : decode cX5_leftOfAll 16 = .ok (.iload_n 2, 1) := by decide +kernel
theorem dX5_leftOfAll_17 : decode cX5_leftOfAll 17 = .ok (.aload_n 0, 1) := by decide +kernel
theorem dX5_leftOfAll_18 : decode cX5_leftOfAll 18 = .ok (.getfield 7, 3) := by decide +kernel
theorem dX5_leftOfAll_21 : decode cX5_leftOfAll 21 = .ok (.iconst 3, 1) := by decide +kernel
theorem dX5_leftOfAll_22 : decode cX5_leftOfAll 22 = .ok (.iaload, 1) := by decide +kernel
theorem dX5_leftOfAll_23 : decode cX5_leftOfAll 23 = .ok (.aload_n 0, 1) := by decide +kernel
theorem dX5_leftOfAll_24 : decode cX5_leftOfAll 24 = .ok (.getfield 7, 3) := by decide +kernel
theorem dX5_leftOfAll_27 : decode cX5_leftOfAll 27 = .ok (.bipush 6, 2) := by decide +kernel
theorem dX5_leftOfAll_29 : decode cX5_leftOfAll 29 = .ok (.iaload, 1) := by decide +kernel
theorem dX5_leftOfAll_30 : decode cX5_leftOfAll 30 = .ok (.invokevirtual 62, 3) := by decide +kernel
theorem dX5_leftOfAll_33 : decode cX5_leftOfAll 33 = .ok (.iadd, 1) := by decide +kernel
theorem dX5_leftOfAll_34 : decode cX5_leftOfAll 34 = .ok (.istore_n 1, 1) := by decide +kernel
theorem dX5_leftOfAll_35 : decode cX5_leftOfAll 35 = .ok (.iinc 2 1, 3) := by decide +kernel
theorem dX5_leftOfAll_38 : decode cX5_leftOfAll 38 = .ok (.goto (-34), 3) := by decide +kernel
theorem dX5_leftOfAll_41 : decode cX5_leftOfAll 41 = .ok (.iload_n 1, 1) := by decide +kernel
theorem dX5_leftOfAll_42 : decode cX5_leftOfAll 42 = .ok (.ireturn, 1) := by decide +kernel
theorem dX5_person_0 : decode cX5_person 0 = .ok (.iload_n 1, 1) := by decide +kernel
theorem dX5_person_1 : decode cX5_person 1 = .ok (.i2l, 1) := by decide +kernel
theorem dX5_person_2 : decode cX5_person 2 = .ok (.lconst 0, 1) := by decide +kernel
theorem dX5_person_3 : decode cX5_person 3 = .ok (.ldc2_w 83, 3) := by decide +kernel
theorem dX5_person_6 : decode cX5_person 6 = .ok (.invokestatic 41, 3) := by decide +kernel
theorem dX5_person_9 : decode cX5_person 9 = .ok (.ifCond .eq 17, 3) := by decide +kernel
theorem dX5_person_12 : decode cX5_person 12 = .ok (.iload_n 2, 1) := by decide +kernel
theorem dX5_person_13 : decode cX5_person 13 = .ok (.i2l, 1) := by decide +kernel
theorem dX5_person_14 : decode cX5_person 14 = .ok (.ldc2_w 85, 3) := by decide +kernel
theorem dX5_person_17 : decode cX5_person 17 = .ok (.ldc2_w 87, 3) := by decide +kernel
theorem dX5_person_20 : decode cX5_person 20 = .ok (.invokestatic 41, 3) := by decide +kernel
theorem dX5_person_23 : decode cX5_person 23 = .ok (.ifCond .ne 5, 3) := by decide +kernel
theorem dX5_person_26 : decode cX5_person 26 = .ok (.iconst (-1), 1) := by decide +kernel
theorem dX5_person_27 : decode cX5_person 27 = .ok (.ireturn, 1) := by decide +kernel
theorem dX5_person_28 : decode cX5_person 28 = .ok (.aload_n 0, 1) := by decide +kernel
theorem dX5_person_29 : decode cX5_person 29 = .ok (.getfield 7, 3) := by decide +kernel
theorem dX5_person_32 : decode cX5_person 32 = .ok (.iconst 0, 1) := by decide +kernel
theorem dX5_person_33 : decode cX5_person 33 = .ok (.iaload, 1) := by decide +kernel
theorem dX5_person_34 : decode cX5_person 34 = .ok (.iconst 5, 1) := by decide +kernel
theorem dX5_person_35 : decode cX5_person 35 = .ok (.if_icmp .ne 6, 3) := by decide +kernel
theorem dX5_person_38 : decode cX5_person 38 = .ok (.bipush (-3), 2) := by decide +kernel
theorem dX5_person_40 : decode cX5_person 40 = .ok (.ireturn, 1) := by decide +kernel
theorem dX5_person_41 : decode cX5_person 41 = .ok (.bipush 8, 2) := by decide +kernel
theorem dX5_person_43 : decode cX5_person 43 = .ok (.iconst 5, 1) := by decide +kernel
theorem dX5_person_44 : decode cX5_person 44 = .ok (.aload_n 0, 1) := by decide +kernel
theorem dX5_person_45 : decode cX5_person 45 = .ok (.getfield 7, 3) := by decide +kernel
theorem dX5_person_48 : decode cX5_person 48 = .ok (.iconst 0, 1) := by decide +kernel
theorem dX5_person_49 : decode cX5_person 49 = .ok (.iaload, 1) := by decide +kernel
theorem dX5_person_50 : decode cX5_person 50 = .ok (.imul, 1) := by decide +kernel
theorem dX5_person_51 : decode cX5_person 51 = .ok (.iadd, 1) := by decide +kernel
theorem dX5_person_52 : decode cX5_person 52 = .ok (.istore_n 3, 1) := by decide +kernel
theorem dX5_person_53 : decode cX5_person 53 = .ok (.aload_n 0, 1) := by decide +kernel
theorem dX5_person_54 : decode cX5_person 54 = .ok (.getfield 7, 3) := by decide +kernel
theorem dX5_person_57 : decode cX5_person 57 = .ok (.iload_n 3, 1) := by decide +kernel
theorem dX5_person_58 : decode cX5_person 58 = .ok (.iload_n 1, 1) := by decide +kernel
theorem dX5_person_59 : decode cX5_person 59 = .ok (.iastore, 1) := by decide +kernel
theorem dX5_person_60 : decode cX5_person 60 = .ok (.iconst 1, 1) := by decide +kernel
theorem dX5_person_61 : decode cX5_person 61 = .ok (.istore 4, 2) := by decide +kernel
theorem dX5_person_63 : decode cX5_person 63 = .ok (.iload 4, 2) := by decide +kernel
theorem dX5_person_65 : decode cX5_person 65 = .ok (.iconst 5, 1) := by decide +kernel
theorem dX5_person_66 : decode cX5_person 66 = .ok (.if_icmp .ge 19, 3) := by decide +kernel
theorem dX5_person_69 : decode cX5_person 69 = .ok (.aload_n 0, 1) := by decide +kernel
theorem dX5_person_70 : decode cX5_person 70 = .ok (.getfield 7, 3) := by decide +kernel
theorem dX5_person_73 : decode cX5_person 73 = .ok (.iload_n 3, 1) := by decide +kernel
theorem dX5_person_74 : decode cX5_person 74 = .ok (.iload 4, 2) := by decide +kernel
theorem dX5_person_76 : decode cX5_person 76 = .ok (.iadd, 1) := by decide +kernel
theorem dX5_person_77 : decode cX5_person 77 = .ok (.iload_n 2, 1) := by decide +kernel
theorem dX5_person_78 : decode cX5_person 78 = .ok (.iastore, 1) := by decide +kernel
theorem dX5_person_79 : decode cX5_person 79 = .ok (.iinc 4 1, 3) := by decide +kernel
theorem dX5_person_82 : decode cX5_person 82 = .ok (.goto (-19), 3) := by decide +kernel
theorem dX5_person_85 : decode cX5_person 85 = .ok (.aload_n 0, 1) := by decide +kernel
theorem dX5_person_86 : decode cX5_person 86 = .ok (.getfield 7, 3) := by decide +kernel
theorem dX5_person_89 : decode cX5_person 89 = .ok (.iconst 0, 1) := by decide +kernel
theorem dX5_person_90 : decode cX5_person 90 = .ok (.dup2, 1) := by decide +kernel
theorem dX5_person_91 : decode cX5_person 91 = .ok (.iaload, 1) := by decide +kernel
theorem dX5_person_92 : decode cX5_person 92 = .ok (.iconst 1, 1) := by decide +kernel
theorem dX5_person_93 : decode cX5_person 93 = .ok (.iadd, 1) := by decide +kernel
theorem dX5_person_94 : decode cX5_person 94 = .ok (.iastore, 1) := by decide +kernel
theorem dX5_person_95 : decode cX5_person 95 = .ok (.aload_n 0, 1) := by decide +kernel
theorem dX5_person_96 : decode cX5_person 96 = .ok (.iconst 0, 1) := by decide +kernel
theorem dX5_person_97 : decode cX5_person 97 = .ok (.putfield 89, 3) := by decide +kernel
theorem dX5_person_100 : decode cX5_person 100 = .ok (.aload_n 0, 1) := by decide +kernel
theorem dX5_person_101 : decode cX5_person 101 = .ok (.getfield 7, 3) := by decide +kernel
theorem dX5_person_104 : decode cX5_person 104 = .ok (.iconst 0, 1) := by decide +kernel
theorem dX5_person_105 : decode cX5_person 105 = .ok (.iaload, 1) := by decide +kernel
theorem dX5_person_106 : decode cX5_person 106 = .ok (.iconst 1, 1) := by decide +kernel
theorem dX5_person_107 : decode cX5_person 107 = .ok (.isub, 1) := by decide +kernel
theorem dX5_person_108 : decode cX5_person 108 = .ok (.ireturn, 1) := by decide +kernel
theorem dX5_own_0 : decode cX5_own 0 = .ok (.aload_n 0, 1) := by decide +kernel
theorem dX5_own_1 : decode cX5_own 1 = .ok (.iload_n 1, 1) := by decide +kernel
theorem dX5_own_2 : decode cX5_own 2 = .ok (.invokevirtual 93, 3) := by decide +kernel
theorem dX5_own_5 : decode cX5_own 5 = .ok (.ifCond .eq 24, 3) := by decide +kernel
theorem dX5_own_8 : decode cX5_own 8 = .ok (.iload_n 2, 1) := by decide +kernel
theorem dX5_own_9 : decode cX5_own 9 = .ok (.invokestatic 97, 3) := by decide +kernel
theorem dX5_own_12 : decode cX5_own 12 = .ok (.ifCond .eq 17, 3) := by decide +kernel
theorem dX5_own_15 : decode cX5_own 15 = .ok (.iload_n 3, 1) := by decide +kernel
theorem dX5_own_16 : decode cX5_own 16 = .ok (.i2l, 1) := by decide +kernel
theorem dX5_own_17 : decode cX5_own 17 = .ok (.ldc2_w 85, 3) := by decide +kernel
theorem dX5_own_20 : decode cX5_own 20 = .ok (.ldc2_w 87, 3) := by decide +kernel
theorem dX5_own_23 : decode cX5_own 23 = .ok (.invokestatic 41, 3) := by decide +kernel
theorem dX5_own_26 : decode cX5_own 26 = .ok (.ifCond .ne 5, 3) := by decide +kernel
theorem dX5_own_29 : decode cX5_own 29 = .ok (.iconst (-1), 1) := by decide +kernel
theorem dX5_own_30 : decode cX5_own 30 = .ok (.ireturn, 1) := by decide +kernel
theorem dX5_own_31 : decode cX5_own 31 = .ok (.aload_n 0, 1) := by decide +kernel
theorem dX5_own_32 : decode cX5_own 32 = .ok (.iload_n 1, 1) := by decide +kernel
theorem dX5_own_33 : decode cX5_own 33 = .ok (.iload_n 2, 1) := by decide +kernel
theorem dX5_own_34 : decode cX5_own 34 = .ok (.invokevirtual 55, 3) := by decide +kernel
theorem dX5_own_37 : decode cX5_own 37 = .ok (.istore 4, 2) := by decide +kernel
theorem dX5_own_39 : decode cX5_own 39 = .ok (.aload_n 0, 1) := by decide +kernel
theorem dX5_own_40 : decode cX5_own 40 = .ok (.getfield 7, 3) := by decide +kernel
theorem dX5_own_43 : decode cX5_own 43 = .ok (.bipush 8, 2) := by decide +kernel
theorem dX5_own_45 : decode cX5_own 45 = .ok (.iconst 5, 1) := by decide +kernel
theorem dX5_own_46 : decode cX5_own 46 = .ok (.iload_n 1, 1) := by decide +kernel
theorem dX5_own_47 : decode cX5_own 47 = .ok (.imul, 1) := by decide +kernel
theorem dX5_own_48 : decode cX5_own 48 = .ok (.iadd, 1) := by decide +kernel
theorem dX5_own_49 : decode cX5_own 49 = .ok (.iconst 1, 1) := by decide +kernel
theorem dX5_own_50 : decode cX5_own 50 = .ok (.iadd, 1) := by decide +kernel
theorem dX5_own_51 : decode cX5_own 51 = .ok (.iload_n 2, 1) := by decide +kernel
theorem dX5_own_52 : decode cX5_own 52 = .ok (.iadd, 1) := by decide +kernel
theorem dX5_own_53 : decode cX5_own 53 = .ok (.iload_n 3, 1) := by decide +kernel
theorem dX5_own_54 : decode cX5_own 54 = .ok (.iastore, 1) := by decide +kernel
theorem dX5_own_55 : decode cX5_own 55 = .ok (.iload 4, 2) := by decide +kernel
theorem dX5_own_57 : decode cX5_own 57 = .ok (.ireturn, 1) := by decide +kernel
theorem dX5_suit_0 : decode cX5_suit 0 = .ok (.iload_n 1, 1) := by decide +kernel
theorem dX5_suit_1 : decode cX5_suit 1 = .ok (.i2l, 1) := by decide +kernel
theorem dX5_suit_2 : decode cX5_suit 2 = .ok (.lconst 0, 1) := by decide +kernel
theorem dX5_suit_3 : decode cX5_suit 3 = .ok (.ldc2_w 100, 3) := by decide +kernel
theorem dX5_suit_6 : decode cX5_suit 6 = .ok (.invokestatic 41, 3) := by decide +kernel
theorem dX5_suit_9 : decode cX5_suit 9 = .ok (.ifCond .ne 5, 3) := by decide +kernel
theorem dX5_suit_12 : decode cX5_suit 12 = .ok (.iconst (-1), 1) := by decide +kernel
theorem dX5_suit_13 : decode cX5_suit 13 = .ok (.ireturn, 1) := by decide +kernel
theorem dX5_suit_14 : decode cX5_suit 14 = .ok (.aload_n 0, 1) := by decide +kernel
theorem dX5_suit_15 : decode cX5_suit 15 = .ok (.getfield 7, 3) := by decide +kernel
theorem dX5_suit_18 : decode cX5_suit 18 = .ok (.iconst 1, 1) := by decide +kernel
theorem dX5_suit_19 : decode cX5_suit 19 = .ok (.iaload, 1) := by decide +kernel
theorem dX5_suit_20 : decode cX5_suit 20 = .ok (.iconst 4, 1) := by decide +kernel
theorem dX5_suit_21 : decode cX5_suit 21 = .ok (.if_icmp .ne 6, 3) := by decide +kernel
theorem dX5_suit_24 : decode cX5_suit 24 = .ok (.bipush (-3), 2) := by decide +kernel
theorem dX5_suit_26 : decode cX5_suit 26 = .ok (.ireturn, 1) := by decide +kernel
theorem dX5_suit_27 : decode cX5_suit 27 = .ok (.iconst 0, 1) := by decide +kernel
theorem dX5_suit_28 : decode cX5_suit 28 = .ok (.istore_n 2, 1) := by decide +kernel
theorem dX5_suit_29 : decode cX5_suit 29 = .ok (.iload_n 2, 1) := by decide +kernel
theorem dX5_suit_30 : decode cX5_suit 30 = .ok (.iconst 4, 1) := by decide +kernel
theorem dX5_suit_31 : decode cX5_suit 31 = .ok (.if_icmp .ge 28, 3) := by decide +kernel
theorem dX5_suit_34 : decode cX5_suit 34 = .ok (.aload_n 0, 1) := by decide +kernel
theorem dX5_suit_35 : decode cX5_suit 35 = .ok (.getfield 7, 3) := by decide +kernel
theorem dX5_suit_38 : decode cX5_suit 38 = .ok (.bipush 33, 2) := by decide +kernel
theorem dX5_suit_40 : decode cX5_suit 40 = .ok (.iconst 4, 1) := by decide +kernel
theorem dX5_suit_41 : decode cX5_suit 41 = .ok (.aload_n 0, 1) := by decide +kernel
theorem dX5_suit_42 : decode cX5_suit 42 = .ok (.getfield 7, 3) := by decide +kernel
theorem dX5_suit_45 : decode cX5_suit 45 = .ok (.iconst 1, 1) := by decide +kernel
theorem dX5_suit_46 : decode cX5_suit 46 = .ok (.iaload, 1) := by decide +kernel
theorem dX5_suit_47 : decode cX5_suit 47 = .ok (.imul, 1) := by decide +kernel
theorem dX5_suit_48 : decode cX5_suit 48 = .ok (.iadd, 1) := by decide +kernel
theorem dX5_suit_49 : decode cX5_suit 49 = .ok (.iload_n 2, 1) := by decide +kernel
theorem dX5_suit_50 : decode cX5_suit 50 = .ok (.iadd, 1) := by decide +kernel
theorem dX5_suit_51 : decode cX5_suit 51 = .ok (.iload_n 1, 1) := by decide +kernel
theorem dX5_suit_52 : decode cX5_suit 52 = .ok (.iastore, 1) := by decide +kernel
theorem dX5_suit_53 : decode cX5_suit 53 = .ok (.iinc 2 1, 3) := by decide +kernel
theorem dX5_suit_56 : decode cX5_suit 56 = .ok (.goto (-27), 3) := by decide +kernel
theorem dX5_suit_59 : decode cX5_suit 59 = .ok (.aload_n 0, 1) := by decide +kernel
theorem dX5_suit_60 : decode cX5_suit 60 = .ok (.getfield 7, 3) := by decide +kernel
theorem dX5_suit_63 : decode cX5_suit 63 = .ok (.iconst 1, 1) := by decide +kernel
theorem dX5_suit_64 : decode cX5_suit 64 = .ok (.dup2, 1) := by decide +kernel
theorem dX5_suit_65 : decode cX5_suit 65 = .ok (.iaload, 1) := by decide +kernel
theorem dX5_suit_66 : decode cX5_suit 66 = .ok (.iconst 1, 1) := by decide +kernel
theorem dX5_suit_67 : decode cX5_suit 67 = .ok (.iadd, 1) := by decide +kernel
theorem dX5_suit_68 : decode cX5_suit 68 = .ok (.iastore, 1) := by decide +kernel
theorem dX5_suit_69 : decode cX5_suit 69 = .ok (.aload_n 0, 1) := by decide +kernel
theorem dX5_suit_70 : decode cX5_suit 70 = .ok (.iconst 0, 1) := by decide +kernel
theorem dX5_suit_71 : decode cX5_suit 71 = .ok (.putfield 89, 3) := by decide +kernel
theorem dX5_suit_74 : decode cX5_suit 74 = .ok (.aload_n 0, 1) := by decide +kernel
theorem dX5_suit_75 : decode cX5_suit 75 = .ok (.getfield 7, 3) := by decide +kernel
theorem dX5_suit_78 : decode cX5_suit 78 = .ok (.iconst 1, 1) := by decide +kernel
theorem dX5_suit_79 : decode cX5_suit 79 = .ok (.iaload, 1) := by decide +kernel
theorem dX5_suit_80 : decode cX5_suit 80 = .ok (.iconst 1, 1) := by decide +kernel
theorem dX5_suit_81 : decode cX5_suit 81 = .ok (.isub, 1) := by decide +kernel
theorem dX5_suit_82 : decode cX5_suit 82 = .ok (.ireturn, 1) := by decide +kernel
theorem dX5_cut_0 : decode cX5_cut 0 = .ok (.aload_n 0, 1) := by decide +kernel
theorem dX5_cut_1 : decode cX5_cut 1 = .ok (.iload_n 1, 1) := by decide +kernel
theorem dX5_cut_2 : decode cX5_cut 2 = .ok (.invokevirtual 102, 3) := by decide +kernel
theorem dX5_cut_5 : decode cX5_cut 5 = .ok (.ifCond .eq 22, 3) := by decide +kernel
theorem dX5_cut_8 : decode cX5_cut 8 = .ok (.iload_n 2, 1) := by decide +kernel
theorem dX5_cut_9 : decode cX5_cut 9 = .ok (.invokestatic 97, 3) := by decide +kernel
theorem dX5_cut_12 : decode cX5_cut 12 = .ok (.ifCond .eq 15, 3) := by decide +kernel
theorem dX5_cut_15 : decode cX5_cut 15 = .ok (.iload_n 3, 1) := by decide +kernel
theorem dX5_cut_16 : decode cX5_cut 16 = .ok (.i2l, 1) := by decide +kernel
theorem dX5_cut_17 : decode cX5_cut 17 = .ok (.lconst 0, 1) := by decide +kernel
theorem dX5_cut_18 : decode cX5_cut 18 = .ok (.ldc2_w 100, 3) := by decide +kernel
theorem dX5_cut_21 : decode cX5_cut 21 = .ok (.invokestatic 41, 3) := by decide +kernel
theorem dX5_cut_24 : decode cX5_cut 24 = .ok (.ifCond .ne 5, 3) := by decide +kernel
theorem dX5_cut_27 : decode cX5_cut 27 = .ok (.iconst (-1), 1) := by decide +kernel
theorem dX5_cut_28 : decode cX5_cut 28 = .ok (.ireturn, 1) := by decide +kernel
theorem dX5_cut_29 : decode cX5_cut 29 = .ok (.aload_n 0, 1) := by decide +kernel
theorem dX5_cut_30 : decode cX5_cut 30 = .ok (.iload_n 1, 1) := by decide +kernel
theorem dX5_cut_31 : decode cX5_cut 31 = .ok (.iload_n 2, 1) := by decide +kernel
theorem dX5_cut_32 : decode cX5_cut 32 = .ok (.invokevirtual 73, 3) := by decide +kernel
theorem dX5_cut_35 : decode cX5_cut 35 = .ok (.istore 4, 2) := by decide +kernel
theorem dX5_cut_37 : decode cX5_cut 37 = .ok (.aload_n 0, 1) := by decide +kernel
theorem dX5_cut_38 : decode cX5_cut 38 = .ok (.getfield 7, 3) := by decide +kernel
theorem dX5_cut_41 : decode cX5_cut 41 = .ok (.bipush 33, 2) := by decide +kernel
theorem dX5_cut_43 : decode cX5_cut 43 = .ok (.iconst 4, 1) := by decide +kernel
theorem dX5_cut_44 : decode cX5_cut 44 = .ok (.iload_n 1, 1) := by decide +kernel
theorem dX5_cut_45 : decode cX5_cut 45 = .ok (.imul, 1) := by decide +kernel
theorem dX5_cut_46 : decode cX5_cut 46 = .ok (.iadd, 1) := by decide +kernel
theorem dX5_cut_47 : decode cX5_cut 47 = .ok (.iload_n 2, 1) := by decide +kernel
theorem dX5_cut_48 : decode cX5_cut 48 = .ok (.iadd, 1) := by decide +kernel
theorem dX5_cut_49 : decode cX5_cut 49 = .ok (.iload_n 3, 1) := by decide +kernel
theorem dX5_cut_50 : decode cX5_cut 50 = .ok (.iastore, 1) := by decide +kernel
theorem dX5_cut_51 : decode cX5_cut 51 = .ok (.iload 4, 2) := by decide +kernel
theorem dX5_cut_53 : decode cX5_cut 53 = .ok (.ireturn, 1) := by decide +kernel
theorem dX5_deedsOf_0 : decode cX5_deedsOf 0 = .ok (.iconst 0, 1) := by decide +kernel
theorem dX5_deedsOf_1 : decode cX5_deedsOf 1 = .ok (.istore_n 2, 1) := by decide +kernel
theorem dX5_deedsOf_2 : decode cX5_deedsOf 2 = .ok (.iconst 0, 1) := by decide +kernel
theorem dX5_deedsOf_3 : decode cX5_deedsOf 3 = .ok (.istore_n 3, 1) := by decide +kernel
theorem dX5_deedsOf_4 : decode cX5_deedsOf 4 = .ok (.iload_n 3, 1) := by decide +kernel
theorem dX5_deedsOf_5 : decode cX5_deedsOf 5 = .ok (.aload_n 0, 1) := by decide +kernel
theorem dX5_deedsOf_6 : decode cX5_deedsOf 6 = .ok (.getfield 7, 3) := by decide +kernel
theorem dX5_deedsOf_9 : decode cX5_deedsOf 9 = .ok (.iconst 2, 1) := by decide +kernel
theorem dX5_deedsOf_10 : decode cX5_deedsOf 10 = .ok (.iaload, 1) := by decide +kernel
theorem dX5_deedsOf_11 : decode cX5_deedsOf 11 = .ok (.if_icmp .ge 29, 3) := by decide +kernel
theorem dX5_deedsOf_14 : decode cX5_deedsOf 14 = .ok (.iload_n 2, 1) := by decide +kernel
theorem dX5_deedsOf_15 : decode cX5_deedsOf 15 = .ok (.aload_n 0, 1) := by decide +kernel
theorem dX5_deedsOf_16 : decode cX5_deedsOf 16 = .ok (.iload_n 3, 1) := by decide +kernel
theorem dX5_deedsOf_17 : decode cX5_deedsOf 17 = .ok (.iconst 0, 1) := by decide +kernel
theorem dX5_deedsOf_18 : decode cX5_deedsOf 18 = .ok (.invokevirtual 47, 3) := by decide +kernel
theorem dX5_deedsOf_21 : decode cX5_deedsOf 21 = .ok (.iload_n 1, 1) := by decide +kernel
theorem dX5_deedsOf_22 : decode cX5_deedsOf 22 = .ok (.if_icmp .ne 9, 3) := by decide +kernel
theorem dX5_deedsOf_25 : decode cX5_deedsOf 25 = .ok (.iconst 1, 1) := by decide +kernel
theorem dX5_deedsOf_26 : decode cX5_deedsOf 26 = .ok (.iload_n 3, 1) := by decide +kernel
theorem dX5_deedsOf_27 : decode cX5_deedsOf 27 = .ok (.ishl, 1) := by decide +kernel
theorem dX5_deedsOf_28 : decode cX5_deedsOf 28 = .ok (.goto 4, 3) := by decide +kernel
theorem dX5_deedsOf_31 : decode cX5_deedsOf 31 = .ok (.iconst 0, 1) := by decide +kernel
theorem dX5_deedsOf_32 : decode cX5_deedsOf 32 = .ok (.ior, 1) := by decide +kernel
theorem dX5_deedsOf_33 : decode cX5_deedsOf 33 = .ok (.istore_n 2, 1) := by decide +kernel
theorem dX5_deedsOf_34 : decode cX5_deedsOf 34 = .ok (.iinc 3 1, 3) := by decide +kernel
theorem dX5_deedsOf_37 : decode cX5_deedsOf 37 = .ok (.goto (-33), 3) := by decide +kernel
theorem dX5_deedsOf_40 : decode cX5_deedsOf 40 = .ok (.iload_n 2, 1) := by decide +kernel
theorem dX5_deedsOf_41 : decode cX5_deedsOf 41 = .ok (.ireturn, 1) := by decide +kernel
theorem dX5_of_0 : decode cX5_of 0 = .ok (.aload_n 0, 1) := by decide +kernel
theorem dX5_of_1 : decode cX5_of 1 = .ok (.iload_n 1, 1) := by decide +kernel
theorem dX5_of_2 : decode cX5_of 2 = .ok (.invokevirtual 93, 3) := by decide +kernel
theorem dX5_of_5 : decode cX5_of 5 = .ok (.ifCond .eq 15, 3) := by decide +kernel
theorem dX5_of_8 : decode cX5_of 8 = .ok (.iload_n 2, 1) := by decide +kernel
theorem dX5_of_9 : decode cX5_of 9 = .ok (.i2l, 1) := by decide +kernel
theorem dX5_of_10 : decode cX5_of 10 = .ok (.lconst 0, 1) := by decide +kernel
theorem dX5_of_11 : decode cX5_of 11 = .ok (.ldc2_w 105, 3) := by decide +kernel
theorem dX5_of_14 : decode cX5_of 14 = .ok (.invokestatic 41, 3) := by decide +kernel
theorem dX5_of_17 : decode cX5_of 17 = .ok (.ifCond .ne 5, 3) := by decide +kernel
theorem dX5_of_20 : decode cX5_of 20 = .ok (.iconst (-1), 1) := by decide +kernel
theorem dX5_of_21 : decode cX5_of 21 = .ok (.ireturn, 1) := by decide +kernel
theorem dX5_of_22 : decode cX5_of 22 = .ok (.iload_n 2, 1) := by decide +kernel
theorem dX5_of_23 : decode cX5_of 23 = .ok (.iconst 4, 1) := by decide +kernel
theorem dX5_of_24 : decode cX5_of 24 = .ok (.if_icmp .ge 12, 3) := by decide +kernel
theorem dX5_of_27 : decode cX5_of 27 = .ok (.aload_n 0, 1) := by decide +kernel
theorem dX5_of_28 : decode cX5_of 28 = .ok (.iload_n 1, 1) := by decide +kernel
theorem dX5_of_29 : decode cX5_of 29 = .ok (.iload_n 2, 1) := by decide +kernel
theorem dX5_of_30 : decode cX5_of 30 = .ok (.invokevirtual 107, 3) := by decide +kernel
theorem dX5_of_33 : decode cX5_of 33 = .ok (.goto 39, 3) := by decide +kernel
theorem dX5_of_36 : decode cX5_of 36 = .ok (.iload_n 2, 1) := by decide +kernel
theorem dX5_of_37 : decode cX5_of 37 = .ok (.bipush 8, 2) := by decide +kernel
theorem dX5_of_39 : decode cX5_of 39 = .ok (.if_icmp .ge 14, 3) := by decide +kernel
theorem dX5_of_42 : decode cX5_of 42 = .ok (.aload_n 0, 1) := by decide +kernel
theorem dX5_of_43 : decode cX5_of 43 = .ok (.iload_n 1, 1) := by decide +kernel
theorem dX5_of_44 : decode cX5_of 44 = .ok (.iload_n 2, 1) := by decide +kernel
theorem dX5_of_45 : decode cX5_of 45 = .ok (.iconst 4, 1) := by decide +kernel
theorem dX5_of_46 : decode cX5_of 46 = .ok (.isub, 1) := by decide +kernel
theorem dX5_of_47 : decode cX5_of 47 = .ok (.invokevirtual 55, 3) := by decide +kernel
theorem dX5_of_50 : decode cX5_of 50 = .ok (.goto 22, 3) := by decide +kernel
theorem dX5_of_53 : decode cX5_of 53 = .ok (.iload_n 2, 1) := by decide +kernel
theorem dX5_of_54 : decode cX5_of 54 = .ok (.bipush 8, 2) := by decide +kernel
theorem dX5_of_56 : decode cX5_of 56 = .ok (.if_icmp .ne 11, 3) := by decide +kernel
theorem dX5_of_59 : decode cX5_of 59 = .ok (.aload_n 0, 1) := by decide +kernel
theorem dX5_of_60 : decode cX5_of 60 = .ok (.iload_n 1, 1) := by decide +kernel
theorem dX5_of_61 : decode cX5_of 61 = .ok (.invokevirtual 58, 3) := by decide +kernel
theorem dX5_of_64 : decode cX5_of 64 = .ok (.goto 8, 3) := by decide +kernel
theorem dX5_of_67 : decode cX5_of 67 = .ok (.aload_n 0, 1) := by decide +kernel
theorem dX5_of_68 : decode cX5_of 68 = .ok (.iload_n 1, 1) := by decide +kernel
theorem dX5_of_69 : decode cX5_of 69 = .ok (.invokevirtual 110, 3) := by decide +kernel
theorem dX5_of_72 : decode cX5_of 72 = .ok (.ireturn, 1) := by decide +kernel
theorem dX5_deed_0 : decode cX5_deed 0 = .ok (.aload_n 0, 1) := by decide +kernel
theorem dX5_deed_1 : decode cX5_deed 1 = .ok (.iload_n 1, 1) := by decide +kernel
theorem dX5_deed_2 : decode cX5_deed 2 = .ok (.invokevirtual 113, 3) := by decide +kernel
theorem dX5_deed_5 : decode cX5_deed 5 = .ok (.ifCond .eq 15, 3) := by decide +kernel
theorem dX5_deed_8 : decode cX5_deed 8 = .ok (.iload_n 2, 1) := by decide +kernel
theorem dX5_deed_9 : decode cX5_deed 9 = .ok (.i2l, 1) := by decide +kernel
theorem dX5_deed_10 : decode cX5_deed 10 = .ok (.lconst 0, 1) := by decide +kernel
theorem dX5_deed_11 : decode cX5_deed 11 = .ok (.ldc2_w 116, 3) := by decide +kernel
theorem dX5_deed_14 : decode cX5_deed 14 = .ok (.invokestatic 41, 3) := by decide +kernel
theorem dX5_deed_17 : decode cX5_deed 17 = .ok (.ifCond .ne 5, 3) := by decide +kernel
theorem dX5_deed_20 : decode cX5_deed 20 = .ok (.iconst (-1), 1) := by decide +kernel
theorem dX5_deed_21 : decode cX5_deed 21 = .ok (.ireturn, 1) := by decide +kernel
theorem dX5_deed_22 : decode cX5_deed 22 = .ok (.iload_n 2, 1) := by decide +kernel
theorem dX5_deed_23 : decode cX5_deed 23 = .ok (.iconst 4, 1) := by decide +kernel
theorem dX5_deed_24 : decode cX5_deed 24 = .ok (.if_icmp .ge 12, 3) := by decide +kernel
theorem dX5_deed_27 : decode cX5_deed 27 = .ok (.aload_n 0, 1) := by decide +kernel
theorem dX5_deed_28 : decode cX5_deed 28 = .ok (.iload_n 1, 1) := by decide +kernel
theorem dX5_deed_29 : decode cX5_deed 29 = .ok (.iload_n 2, 1) := by decide +kernel
theorem dX5_deed_30 : decode cX5_deed 30 = .ok (.invokevirtual 47, 3) := by decide +kernel
theorem dX5_deed_33 : decode cX5_deed 33 = .ok (.goto 40, 3) := by decide +kernel
theorem dX5_deed_36 : decode cX5_deed 36 = .ok (.iload_n 2, 1) := by decide +kernel
theorem dX5_deed_37 : decode cX5_deed 37 = .ok (.iconst 4, 1) := by decide +kernel
theorem dX5_deed_38 : decode cX5_deed 38 = .ok (.if_icmp .ne 17, 3) := by decide +kernel
theorem dX5_deed_41 : decode cX5_deed 41 = .ok (.aload_n 0, 1) := by decide +kernel
theorem dX5_deed_42 : decode cX5_deed 42 = .ok (.getfield 7, 3) := by decide +kernel
theorem dX5_deed_45 : decode cX5_deed 45 = .ok (.bipush 6, 2) := by decide +kernel
theorem dX5_deed_47 : decode cX5_deed 47 = .ok (.iaload, 1) := by decide +kernel
theorem dX5_deed_48 : decode cX5_deed 48 = .ok (.iload_n 1, 1) := by decide +kernel
theorem dX5_deed_49 : decode cX5_deed 49 = .ok (.ishr, 1) := by decide +kernel
theorem dX5_deed_50 : decode cX5_deed 50 = .ok (.iconst 1, 1) := by decide +kernel
theorem dX5_deed_51 : decode cX5_deed 51 = .ok (.iand, 1) := by decide +kernel
theorem dX5_deed_52 : decode cX5_deed 52 = .ok (.goto 21, 3) := by decide +kernel
theorem dX5_deed_55 : decode cX5_deed 55 = .ok (.aload_n 0, 1) := by decide +kernel
theorem dX5_deed_56 : decode cX5_deed 56 = .ok (.iload_n 1, 1) := by decide +kernel
theorem dX5_deed_57 : decode cX5_deed 57 = .ok (.aload_n 0, 1) := by decide +kernel
theorem dX5_deed_58 : decode cX5_deed 58 = .ok (.getfield 7, 3) := by decide +kernel
theorem dX5_deed_61 : decode cX5_deed 61 = .ok (.iconst 3, 1) := by decide +kernel
theorem dX5_deed_62 : decode cX5_deed 62 = .ok (.iaload, 1) := by decide +kernel
theorem dX5_deed_63 : decode cX5_deed 63 = .ok (.aload_n 0, 1) := by decide +kernel
theorem dX5_deed_64 : decode cX5_deed 64 = .ok (.getfield 7, 3) := by decide +kernel
theorem dX5_deed_67 : decode cX5_deed 67 = .ok (.bipush 6, 2) := by decide +kernel
theorem dX5_deed_69 : decode cX5_deed 69 = .ok (.iaload, 1) := by decide +kernel
theorem dX5_deed_70 : decode cX5_deed 70 = .ok (.invokevirtual 62, 3) := by decide +kernel
theorem dX5_deed_73 : decode cX5_deed 73 = .ok (.ireturn, 1) := by decide +kernel
theorem dX5_tries_0 : decode cX5_tries 0 = .ok (.aload_n 0, 1) := by decide +kernel
theorem dX5_tries_1 : decode cX5_tries 1 = .ok (.iload_n 1, 1) := by decide +kernel
theorem dX5_tries_2 : decode cX5_tries 2 = .ok (.invokevirtual 93, 3) := by decide +kernel
theorem dX5_tries_5 : decode cX5_tries 5 = .ok (.ifCond .eq 21, 3) := by decide +kernel
theorem dX5_tries_8 : decode cX5_tries 8 = .ok (.aload_n 0, 1) := by decide +kernel
theorem dX5_tries_9 : decode cX5_tries 9 = .ok (.iload_n 2, 1) := by decide +kernel
theorem dX5_tries_10 : decode cX5_tries 10 = .ok (.invokevirtual 102, 3) := by decide +kernel
theorem dX5_tries_13 : decode cX5_tries 13 = .ok (.ifCond .eq 13, 3) := by decide +kernel
theorem dX5_tries_16 : decode cX5_tries 16 = .ok (.iload_n 3, 1) := by decide +kernel
theorem dX5_tries_17 : decode cX5_tries 17 = .ok (.i2l, 1) := by decide +kernel
theorem dX5_tries_18 : decode cX5_tries 18 = .ok (.lconst 0, 1) := by decide +kernel
theorem dX5_tries_19 : decode cX5_tries 19 = .ok (.lconst 1, 1) := by decide +kernel
theorem dX5_tries_20 : decode cX5_tries 20 = .ok (.invokestatic 41, 3) := by decide +kernel
theorem dX5_tries_23 : decode cX5_tries 23 = .ok (.ifCond .ne 5, 3) := by decide +kernel
theorem dX5_tries_26 : decode cX5_tries 26 = .ok (.iconst (-1), 1) := by decide +kernel
theorem dX5_tries_27 : decode cX5_tries 27 = .ok (.ireturn, 1) := by decide +kernel
theorem dX5_tries_28 : decode cX5_tries 28 = .ok (.iload_n 3, 1) := by decide +kernel
theorem dX5_tries_29 : decode cX5_tries 29 = .ok (.ifCond .ne 18, 3) := by decide +kernel
theorem dX5_tries_32 : decode cX5_tries 32 = .ok (.aload_n 0, 1) := by decide +kernel
theorem dX5_tries_33 : decode cX5_tries 33 = .ok (.iload_n 1, 1) := by decide +kernel
theorem dX5_tries_34 : decode cX5_tries 34 = .ok (.iload_n 2, 1) := by decide +kernel
theorem dX5_tries_35 : decode cX5_tries 35 = .ok (.aload_n 0, 1) := by decide +kernel
theorem dX5_tries_36 : decode cX5_tries 36 = .ok (.getfield 7, 3) := by decide +kernel
theorem dX5_tries_39 : decode cX5_tries 39 = .ok (.iconst 3, 1) := by decide +kernel
theorem dX5_tries_40 : decode cX5_tries 40 = .ok (.iaload, 1) := by decide +kernel
theorem dX5_tries_41 : decode cX5_tries 41 = .ok (.invokevirtual 118, 3) := by decide +kernel
theorem dX5_tries_44 : decode cX5_tries 44 = .ok (.goto 17, 3) := by decide +kernel
theorem dX5_tries_47 : decode cX5_tries 47 = .ok (.aload_n 0, 1) := by decide +kernel
theorem dX5_tries_48 : decode cX5_tries 48 = .ok (.iload_n 1, 1) := by decide +kernel
theorem dX5_tries_49 : decode cX5_tries 49 = .ok (.iload_n 2, 1) := by decide +kernel
theorem dX5_tries_50 : decode cX5_tries 50 = .ok (.invokevirtual 121, 3) := by decide +kernel
theorem dX5_tries_53 : decode cX5_tries 53 = .ok (.ifCond .eq 7, 3) := by decide +kernel
theorem dX5_tries_56 : decode cX5_tries 56 = .ok (.iconst 1, 1) := by decide +kernel
theorem dX5_tries_57 : decode cX5_tries 57 = .ok (.goto 4, 3) := by decide +kernel
theorem dX5_tries_60 : decode cX5_tries 60 = .ok (.iconst 0, 1) := by decide +kernel
theorem dX5_tries_61 : decode cX5_tries 61 = .ok (.ireturn, 1) := by decide +kernel
theorem dX5_rule_0 : decode cX5_rule 0 = .ok (.iload_n 1, 1) := by decide +kernel
theorem dX5_rule_1 : decode cX5_rule 1 = .ok (.ifCond .ne 18, 3) := by decide +kernel
theorem dX5_rule_4 : decode cX5_rule 4 = .ok (.iload_n 2, 1) := by decide +kernel
theorem dX5_rule_5 : decode cX5_rule 5 = .ok (.i2l, 1) := by decide +kernel
theorem dX5_rule_6 : decode cX5_rule 6 = .ok (.lconst 1, 1) := by decide +kernel
theorem dX5_rule_7 : decode cX5_rule 7 = .ok (.ldc2_w 124, 3) := by decide +kernel
theorem dX5_rule_10 : decode cX5_rule 10 = .ok (.invokestatic 41, 3) := by decide +kernel
theorem dX5_rule_13 : decode cX5_rule 13 = .ok (.ifCond .ne 25, 3) := by decide +kernel
theorem dX5_rule_16 : decode cX5_rule 16 = .ok (.goto 20, 3) := by decide +kernel
theorem dX5_rule_19 : decode cX5_rule 19 = .ok (.iload_n 1, 1) := by decide +kernel
theorem dX5_rule_20 : decode cX5_rule 20 = .ok (.iconst 1, 1) := by decide +kernel
theorem dX5_rule_21 : decode cX5_rule 21 = .ok (.if_icmp .ne 15, 3) := by decide +kernel
theorem dX5_rule_24 : decode cX5_rule 24 = .ok (.iload_n 2, 1) := by decide +kernel
theorem dX5_rule_25 : decode cX5_rule 25 = .ok (.i2l, 1) := by decide +kernel
theorem dX5_rule_26 : decode cX5_rule 26 = .ok (.lconst 0, 1) := by decide +kernel
theorem dX5_rule_27 : decode cX5_rule 27 = .ok (.ldc2_w 105, 3) := by decide +kernel
theorem dX5_rule_30 : decode cX5_rule 30 = .ok (.invokestatic 41, 3) := by decide +kernel
theorem dX5_rule_33 : decode cX5_rule 33 = .ok (.ifCond .ne 5, 3) := by decide +kernel
theorem dX5_rule_36 : decode cX5_rule 36 = .ok (.iconst (-1), 1) := by decide +kernel
theorem dX5_rule_37 : decode cX5_rule 37 = .ok (.ireturn, 1) := by decide +kernel
theorem dX5_rule_38 : decode cX5_rule 38 = .ok (.aload_n 0, 1) := by decide +kernel
theorem dX5_rule_39 : decode cX5_rule 39 = .ok (.getfield 7, 3) := by decide +kernel
theorem dX5_rule_42 : decode cX5_rule 42 = .ok (.iconst 4, 1) := by decide +kernel
theorem dX5_rule_43 : decode cX5_rule 43 = .ok (.iload_n 1, 1) := by decide +kernel
theorem dX5_rule_44 : decode cX5_rule 44 = .ok (.iadd, 1) := by decide +kernel
theorem dX5_rule_45 : decode cX5_rule 45 = .ok (.iaload, 1) := by decide +kernel
theorem dX5_rule_46 : decode cX5_rule 46 = .ok (.istore_n 3, 1) := by decide +kernel
theorem dX5_rule_47 : decode cX5_rule 47 = .ok (.aload_n 0, 1) := by decide +kernel
theorem dX5_rule_48 : decode cX5_rule 48 = .ok (.getfield 7, 3) := by decide +kernel
theorem dX5_rule_51 : decode cX5_rule 51 = .ok (.iconst 4, 1) := by decide +kernel
theorem dX5_rule_52 : decode cX5_rule 52 = .ok (.iload_n 1, 1) := by decide +kernel
theorem dX5_rule_53 : decode cX5_rule 53 = .ok (.iadd, 1) := by decide +kernel
theorem dX5_rule_54 : decode cX5_rule 54 = .ok (.iload_n 2, 1) := by decide +kernel
theorem dX5_rule_55 : decode cX5_rule 55 = .ok (.iastore, 1) := by decide +kernel
theorem dX5_rule_56 : decode cX5_rule 56 = .ok (.iload_n 3, 1) := by decide +kernel
theorem dX5_rule_57 : decode cX5_rule 57 = .ok (.ireturn, 1) := by decide +kernel
theorem dX5_count_0 : decode cX5_count 0 = .ok (.iload_n 1, 1) := by decide +kernel
theorem dX5_count_1 : decode cX5_count 1 = .ok (.i2l, 1) := by decide +kernel
theorem dX5_count_2 : decode cX5_count 2 = .ok (.lconst 0, 1) := by decide +kernel
theorem dX5_count_3 : decode cX5_count 3 = .ok (.ldc2_w 126, 3) := by decide +kernel
theorem dX5_count_6 : decode cX5_count 6 = .ok (.invokestatic 41, 3) := by decide +kernel
theorem dX5_count_9 : decode cX5_count 9 = .ok (.ifCond .eq 12, 3) := by decide +kernel
theorem dX5_count_12 : decode cX5_count 12 = .ok (.aload_n 0, 1) := by decide +kernel
theorem dX5_count_13 : decode cX5_count 13 = .ok (.getfield 7, 3) := by decide +kernel
theorem dX5_count_16 : decode cX5_count 16 = .ok (.iload_n 1, 1) := by decide +kernel
theorem dX5_count_17 : decode cX5_count 17 = .ok (.iaload, 1) := by decide +kernel
theorem dX5_count_18 : decode cX5_count 18 = .ok (.goto 30, 3) := by decide +kernel
theorem dX5_count_21 : decode cX5_count 21 = .ok (.iload_n 1, 1) := by decide +kernel
theorem dX5_count_22 : decode cX5_count 22 = .ok (.bipush 7, 2) := by decide +kernel
theorem dX5_count_24 : decode cX5_count 24 = .ok (.if_icmp .ne 10, 3) := by decide +kernel
theorem dX5_count_27 : decode cX5_count 27 = .ok (.aload_n 0, 1) := by decide +kernel
theorem dX5_count_28 : decode cX5_count 28 = .ok (.invokevirtual 128, 3) := by decide +kernel
theorem dX5_count_31 : decode cX5_count 31 = .ok (.goto 17, 3) := by decide +kernel
theorem dX5_count_34 : decode cX5_count 34 = .ok (.iload_n 1, 1) := by decide +kernel
theorem dX5_count_35 : decode cX5_count 35 = .ok (.bipush 8, 2) := by decide +kernel
theorem dX5_count_37 : decode cX5_count 37 = .ok (.if_icmp .ne 10, 3) := by decide +kernel
theorem dX5_count_40 : decode cX5_count 40 = .ok (.aload_n 0, 1) := by decide +kernel
theorem dX5_count_41 : decode cX5_count 41 = .ok (.getfield 89, 3) := by decide +kernel
theorem dX5_count_44 : decode cX5_count 44 = .ok (.goto 4, 3) := by decide +kernel
theorem dX5_count_47 : decode cX5_count 47 = .ok (.iconst (-1), 1) := by decide +kernel
theorem dX5_count_48 : decode cX5_count 48 = .ok (.ireturn, 1) := by decide +kernel
theorem dX5_type_0 : decode cX5_type 0 = .ok (.iload_n 1, 1) := by decide +kernel
theorem dX5_type_1 : decode cX5_type 1 = .ok (.i2l, 1) := by decide +kernel
theorem dX5_type_2 : decode cX5_type 2 = .ok (.ldc2_w 132, 3) := by decide +kernel
theorem dX5_type_5 : decode cX5_type 5 = .ok (.ldc2_w 134, 3) := by decide +kernel
theorem dX5_type_8 : decode cX5_type 8 = .ok (.invokestatic 41, 3) := by decide +kernel
theorem dX5_type_11 : decode cX5_type 11 = .ok (.ifCond .ne 5, 3) := by decide +kernel
theorem dX5_type_14 : decode cX5_type 14 = .ok (.iconst (-1), 1) := by decide +kernel
theorem dX5_type_15 : decode cX5_type 15 = .ok (.ireturn, 1) := by decide +kernel
theorem dX5_type_16 : decode cX5_type 16 = .ok (.aload_n 0, 1) := by decide +kernel
theorem dX5_type_17 : decode cX5_type 17 = .ok (.getfield 136, 3) := by decide +kernel
theorem dX5_type_20 : decode cX5_type 20 = .ok (.sipush 130, 3) := by decide +kernel
theorem dX5_type_23 : decode cX5_type 23 = .ok (.if_icmp .ne 6, 3) := by decide +kernel
theorem dX5_type_26 : decode cX5_type 26 = .ok (.bipush (-3), 2) := by decide +kernel
theorem dX5_type_28 : decode cX5_type 28 = .ok (.ireturn, 1) := by decide +kernel
theorem dX5_type_29 : decode cX5_type 29 = .ok (.aload_n 0, 1) := by decide +kernel
theorem dX5_type_30 : decode cX5_type 30 = .ok (.getfield 13, 3) := by decide +kernel
theorem dX5_type_33 : decode cX5_type 33 = .ok (.aload_n 0, 1) := by decide +kernel
theorem dX5_type_34 : decode cX5_type 34 = .ok (.getfield 136, 3) := by decide +kernel
theorem dX5_type_37 : decode cX5_type 37 = .ok (.iload_n 1, 1) := by decide +kernel
theorem dX5_type_38 : decode cX5_type 38 = .ok (.iastore, 1) := by decide +kernel
theorem dX5_type_39 : decode cX5_type 39 = .ok (.aload_n 0, 1) := by decide +kernel
theorem dX5_type_40 : decode cX5_type 40 = .ok (.dup, 1) := by decide +kernel
theorem dX5_type_41 : decode cX5_type 41 = .ok (.getfield 136, 3) := by decide +kernel
theorem dX5_type_44 : decode cX5_type 44 = .ok (.iconst 1, 1) := by decide +kernel
theorem dX5_type_45 : decode cX5_type 45 = .ok (.iadd, 1) := by decide +kernel
theorem dX5_type_46 : decode cX5_type 46 = .ok (.putfield 136, 3) := by decide +kernel
theorem dX5_type_49 : decode cX5_type 49 = .ok (.aload_n 0, 1) := by decide +kernel
theorem dX5_type_50 : decode cX5_type 50 = .ok (.getfield 136, 3) := by decide +kernel
theorem dX5_type_53 : decode cX5_type 53 = .ok (.ireturn, 1) := by decide +kernel
theorem dX5_here_0 : decode cX5_here 0 = .ok (.aload_n 0, 1) := by decide +kernel
theorem dX5_here_1 : decode cX5_here 1 = .ok (.getfield 139, 3) := by decide +kernel
theorem dX5_here_4 : decode cX5_here 4 = .ok (.aload_n 0, 1) := by decide +kernel
theorem dX5_here_5 : decode cX5_here 5 = .ok (.getfield 136, 3) := by decide +kernel
theorem dX5_here_8 : decode cX5_here 8 = .ok (.if_icmp .ge 30, 3) := by decide +kernel
theorem dX5_here_11 : decode cX5_here 11 = .ok (.aload_n 0, 1) := by decide +kernel
theorem dX5_here_12 : decode cX5_here 12 = .ok (.getfield 13, 3) := by decide +kernel
theorem dX5_here_15 : decode cX5_here 15 = .ok (.aload_n 0, 1) := by decide +kernel
theorem dX5_here_16 : decode cX5_here 16 = .ok (.getfield 139, 3) := by decide +kernel
theorem dX5_here_19 : decode cX5_here 19 = .ok (.iaload, 1) := by decide +kernel
theorem dX5_here_20 : decode cX5_here 20 = .ok (.bipush 32, 2) := by decide +kernel
theorem dX5_here_22 : decode cX5_here 22 = .ok (.if_icmp .ne 16, 3) := by decide +kernel
theorem dX5_here_25 : decode cX5_here 25 = .ok (.aload_n 0, 1) := by decide +kernel
theorem dX5_here_26 : decode cX5_here 26 = .ok (.dup, 1) := by decide +kernel
theorem dX5_here_27 : decode cX5_here 27 = .ok (.getfield 139, 3) := by decide +kernel
theorem dX5_here_30 : decode cX5_here 30 = .ok (.iconst 1, 1) := by decide +kernel
theorem dX5_here_31 : decode cX5_here 31 = .ok (.iadd, 1) := by decide +kernel
theorem dX5_here_32 : decode cX5_here 32 = .ok (.putfield 139, 3) := by decide +kernel
theorem dX5_here_35 : decode cX5_here 35 = .ok (.goto (-35), 3) := by decide +kernel
theorem dX5_here_38 : decode cX5_here 38 = .ok (.aload_n 0, 1) := by decide +kernel
theorem dX5_here_39 : decode cX5_here 39 = .ok (.getfield 139, 3) := by decide +kernel
theorem dX5_here_42 : decode cX5_here 42 = .ok (.aload_n 0, 1) := by decide +kernel
theorem dX5_here_43 : decode cX5_here 43 = .ok (.getfield 136, 3) := by decide +kernel
theorem dX5_here_46 : decode cX5_here 46 = .ok (.if_icmp .ge 15, 3) := by decide +kernel
theorem dX5_here_49 : decode cX5_here 49 = .ok (.aload_n 0, 1) := by decide +kernel
theorem dX5_here_50 : decode cX5_here 50 = .ok (.getfield 13, 3) := by decide +kernel
theorem dX5_here_53 : decode cX5_here 53 = .ok (.aload_n 0, 1) := by decide +kernel
theorem dX5_here_54 : decode cX5_here 54 = .ok (.getfield 139, 3) := by decide +kernel
theorem dX5_here_57 : decode cX5_here 57 = .ok (.iaload, 1) := by decide +kernel
theorem dX5_here_58 : decode cX5_here 58 = .ok (.goto 4, 3) := by decide +kernel
theorem dX5_here_61 : decode cX5_here 61 = .ok (.iconst 0, 1) := by decide +kernel
theorem dX5_here_62 : decode cX5_here 62 = .ok (.ireturn, 1) := by decide +kernel
theorem dX5_must_0 : decode cX5_must 0 = .ok (.aload_n 0, 1) := by decide +kernel
theorem dX5_must_1 : decode cX5_must 1 = .ok (.aload_n 0, 1) := by decide +kernel
theorem dX5_must_2 : decode cX5_must 2 = .ok (.getfield 142, 3) := by decide +kernel
theorem dX5_must_5 : decode cX5_must 5 = .ok (.ifCond .ne 7, 3) := by decide +kernel
theorem dX5_must_8 : decode cX5_must 8 = .ok (.iload_n 1, 1) := by decide +kernel
theorem dX5_must_9 : decode cX5_must 9 = .ok (.ifCond .ne 7, 3) := by decide +kernel
theorem dX5_must_12 : decode cX5_must 12 = .ok (.iconst 1, 1) := by decide +kernel
theorem dX5_must_13 : decode cX5_must 13 = .ok (.goto 4, 3) := by decide +kernel
theorem dX5_must_16 : decode cX5_must 16 = .ok (.iconst 0, 1) := by decide +kernel
theorem dX5_must_17 : decode cX5_must 17 = .ok (.putfield 142, 3) := by decide +kernel
theorem dX5_must_20 : decode cX5_must 20 = .ok (.aload_n 0, 1) := by decide +kernel
theorem dX5_must_21 : decode cX5_must 21 = .ok (.dup, 1) := by decide +kernel
theorem dX5_must_22 : decode cX5_must 22 = .ok (.getfield 139, 3) := by decide +kernel
theorem dX5_must_25 : decode cX5_must 25 = .ok (.aload_n 0, 1) := by decide +kernel
theorem dX5_must_26 : decode cX5_must 26 = .ok (.getfield 142, 3) := by decide +kernel
theorem dX5_must_29 : decode cX5_must 29 = .ok (.ifCond .eq 7, 3) := by decide +kernel
theorem dX5_must_32 : decode cX5_must 32 = .ok (.iconst 0, 1) := by decide +kernel
theorem dX5_must_33 : decode cX5_must 33 = .ok (.goto 4, 3) := by decide +kernel
theorem dX5_must_36 : decode cX5_must 36 = .ok (.iconst 1, 1) := by decide +kernel
theorem dX5_must_37 : decode cX5_must 37 = .ok (.iadd, 1) := by decide +kernel
theorem dX5_must_38 : decode cX5_must 38 = .ok (.putfield 139, 3) := by decide +kernel
theorem dX5_must_41 : decode cX5_must 41 = .ok (.return_, 1) := by decide +kernel
theorem dX5_number_0 : decode cX5_number 0 = .ok (.aload_n 0, 1) := by decide +kernel
theorem dX5_number_1 : decode cX5_number 1 = .ok (.getfield 142, 3) := by decide +kernel
theorem dX5_number_4 : decode cX5_number 4 = .ok (.ifCond .eq 7, 3) := by decide +kernel
theorem dX5_number_7 : decode cX5_number 7 = .ok (.iconst 0, 1) := by decide +kernel
theorem dX5_number_8 : decode cX5_number 8 = .ok (.goto 7, 3) := by decide +kernel
theorem dX5_number_11 : decode cX5_number 11 = .ok (.aload_n 0, 1) := by decide +kernel
theorem dX5_number_12 : decode cX5_number 12 = .ok (.invokevirtual 146, 3) := by decide +kernel
theorem dX5_number_15 : decode cX5_number 15 = .ok (.istore_n 3, 1) := by decide +kernel
theorem dX5_number_16 : decode cX5_number 16 = .ok (.aload_n 0, 1) := by decide +kernel
theorem dX5_number_17 : decode cX5_number 17 = .ok (.getfield 139, 3) := by decide +kernel
theorem dX5_number_20 : decode cX5_number 20 = .ok (.istore 4, 2) := by decide +kernel
theorem dX5_number_22 : decode cX5_number 22 = .ok (.iconst 0, 1) := by decide +kernel
theorem dX5_number_23 : decode cX5_number 23 = .ok (.istore 5, 2) := by decide +kernel
theorem dX5_number_25 : decode cX5_number 25 = .ok (.aload_n 0, 1) := by decide +kernel
theorem dX5_number_26 : decode cX5_number 26 = .ok (.aload_n 0, 1) := by decide +kernel
theorem dX5_number_27 : decode cX5_number 27 = .ok (.getfield 142, 3) := by decide +kernel
theorem dX5_number_30 : decode cX5_number 30 = .ok (.ifCond .ne 17, 3) := by decide +kernel
theorem dX5_number_33 : decode cX5_number 33 = .ok (.iload_n 3, 1) := by decide +kernel
theorem dX5_number_34 : decode cX5_number 34 = .ok (.i2l, 1) := by decide +kernel
theorem dX5_number_35 : decode cX5_number 35 = .ok (.ldc2_w 149, 3) := by decide +kernel
theorem dX5_number_38 : decode cX5_number 38 = .ok (.ldc2_w 151, 3) := by decide +kernel
theorem dX5_number_41 : decode cX5_number 41 = .ok (.invokestatic 41, 3) := by decide +kernel
theorem dX5_number_44 : decode cX5_number 44 = .ok (.ifCond .ne 7, 3) := by decide +kernel
theorem dX5_number_47 : decode cX5_number 47 = .ok (.iconst 1, 1) := by decide +kernel
theorem dX5_number_48 : decode cX5_number 48 = .ok (.goto 4, 3) := by decide +kernel
theorem dX5_number_51 : decode cX5_number 51 = .ok (.iconst 0, 1) := by decide +kernel
theorem dX5_number_52 : decode cX5_number 52 = .ok (.putfield 142, 3) := by decide +kernel
theorem dX5_number_55 : decode cX5_number 55 = .ok (.aload_n 0, 1) := by decide +kernel
theorem dX5_number_56 : decode cX5_number 56 = .ok (.getfield 142, 3) := by decide +kernel
theorem dX5_number_59 : decode cX5_number 59 = .ok (.ifCond .ne 80, 3) := by decide +kernel
theorem dX5_number_62 : decode cX5_number 62 = .ok (.aload_n 0, 1) := by decide +kernel
theorem dX5_number_63 : decode cX5_number 63 = .ok (.getfield 139, 3) := by decide +kernel
theorem dX5_number_66 : decode cX5_number 66 = .ok (.aload_n 0, 1) := by decide +kernel
theorem dX5_number_67 : decode cX5_number 67 = .ok (.getfield 136, 3) := by decide +kernel
theorem dX5_number_70 : decode cX5_number 70 = .ok (.if_icmp .ge 69, 3) := by decide +kernel
theorem dX5_number_73 : decode cX5_number 73 = .ok (.aload_n 0, 1) := by decide +kernel
theorem dX5_number_74 : decode cX5_number 74 = .ok (.getfield 139, 3) := by decide +kernel
theorem dX5_number_77 : decode cX5_number 77 = .ok (.iload 4, 2) := by decide +kernel
theorem dX5_number_79 : decode cX5_number 79 = .ok (.isub, 1) := by decide +kernel
theorem dX5_number_80 : decode cX5_number 80 = .ok (.iconst 3, 1) := by decide +kernel
theorem dX5_number_81 : decode cX5_number 81 = .ok (.if_icmp .ge 58, 3) := by decide +kernel
theorem dX5_number_84 : decode cX5_number 84 = .ok (.aload_n 0, 1) := by decide +kernel
theorem dX5_number_85 : decode cX5_number 85 = .ok (.getfield 13, 3) := by decide +kernel
theorem dX5_number_88 : decode cX5_number 88 = .ok (.aload_n 0, 1) := by decide +kernel
theorem dX5_number_89 : decode cX5_number 89 = .ok (.getfield 139, 3) := by decide +kernel
theorem dX5_number_92 : decode cX5_number 92 = .ok (.iaload, 1) := by decide +kernel
theorem dX5_number_93 : decode cX5_number 93 = .ok (.i2l, 1) := by decide +kernel
theorem dX5_number_94 : decode cX5_number 94 = .ok (.ldc2_w 149, 3) := by decide +kernel
theorem dX5_number_97 : decode cX5_number 97 = .ok (.ldc2_w 151, 3) := by decide +kernel
theorem dX5_number_100 : decode cX5_number 100 = .ok (.invokestatic 41, 3) := by decide +kernel
theorem dX5_number_103 : decode cX5_number 103 = .ok (.ifCond .eq 36, 3) := by decide +kernel
theorem dX5_number_106 : decode cX5_number 106 = .ok (.bipush 10, 2) := by decide +kernel
theorem dX5_number_108 : decode cX5_number 108 = .ok (.iload 5, 2) := by decide +kernel
theorem dX5_number_110 : decode cX5_number 110 = .ok (.imul, 1) := by decide +kernel
theorem dX5_number_111 : decode cX5_number 111 = .ok (.aload_n 0, 1) := by decide +kernel
theorem dX5_number_112 : decode cX5_number 112 = .ok (.getfield 13, 3) := by decide +kernel
theorem dX5_number_115 : decode cX5_number 115 = .ok (.aload_n 0, 1) := by decide +kernel
theorem dX5_number_116 : decode cX5_number 116 = .ok (.getfield 139, 3) := by decide +kernel
theorem dX5_number_119 : decode cX5_number 119 = .ok (.iaload, 1) := by decide +kernel
theorem dX5_number_120 : decode cX5_number 120 = .ok (.iadd, 1) := by decide +kernel
theorem dX5_number_121 : decode cX5_number 121 = .ok (.bipush 48, 2) := by decide +kernel
theorem dX5_number_123 : decode cX5_number 123 = .ok (.isub, 1) := by decide +kernel
theorem dX5_number_124 : decode cX5_number 124 = .ok (.istore 5, 2) := by decide +kernel
theorem dX5_number_126 : decode cX5_number 126 = .ok (.aload_n 0, 1) := by decide +kernel
theorem dX5_number_127 : decode cX5_number 127 = .ok (.dup, 1) := by decide +kernel
theorem dX5_number_128 : decode cX5_number 128 = .ok (.getfield 139, 3) := by decide +kernel
theorem dX5_number_131 : decode cX5_number 131 = .ok (.iconst 1, 1) := by decide +kernel
theorem dX5_number_132 : decode cX5_number 132 = .ok (.iadd, 1) := by decide +kernel
theorem dX5_number_133 : decode cX5_number 133 = .ok (.putfield 139, 3) := by decide +kernel
theorem dX5_number_136 : decode cX5_number 136 = .ok (.goto (-81), 3) := by decide +kernel
theorem dX5_number_139 : decode cX5_number 139 = .ok (.aload_n 0, 1) := by decide +kernel
theorem dX5_number_140 : decode cX5_number 140 = .ok (.getfield 142, 3) := by decide +kernel
theorem dX5_number_143 : decode cX5_number 143 = .ok (.ifCond .ne 27, 3) := by decide +kernel
theorem dX5_number_146 : decode cX5_number 146 = .ok (.iload 5, 2) := by decide +kernel
theorem dX5_number_148 : decode cX5_number 148 = .ok (.i2l, 1) := by decide +kernel
theorem dX5_number_149 : decode cX5_number 149 = .ok (.iload_n 1, 1) := by decide +kernel
theorem dX5_number_150 : decode cX5_number 150 = .ok (.i2l, 1) := by decide +kernel
theorem dX5_number_151 : decode cX5_number 151 = .ok (.iload_n 2, 1) := by decide +kernel
theorem dX5_number_152 : decode cX5_number 152 = .ok (.i2l, 1) := by decide +kernel
theorem dX5_number_153 : decode cX5_number 153 = .ok (.invokestatic 41, 3) := by decide +kernel
theorem dX5_number_156 : decode cX5_number 156 = .ok (.ifCond .ne 14, 3) := by decide +kernel
theorem dX5_number_159 : decode cX5_number 159 = .ok (.aload_n 0, 1) := by decide +kernel
theorem dX5_number_160 : decode cX5_number 160 = .ok (.iconst 1, 1) := by decide +kernel
theorem dX5_number_161 : decode cX5_number 161 = .ok (.putfield 142, 3) := by decide +kernel
theorem dX5_number_164 : decode cX5_number 164 = .ok (.aload_n 0, 1) := by decide +kernel
theorem dX5_number_165 : decode cX5_number 165 = .ok (.iload 4, 2) := by decide +kernel
theorem dX5_number_167 : decode cX5_number 167 = .ok (.putfield 139, 3) := by decide +kernel
theorem dX5_number_170 : decode cX5_number 170 = .ok (.iload 5, 2) := by decide +kernel
theorem dX5_number_172 : decode cX5_number 172 = .ok (.ireturn, 1) := by decide +kernel
theorem dX5_readFour_0 : decode cX5_readFour 0 = .ok (.iconst 0, 1) := by decide +kernel
theorem dX5_readFour_1 : decode cX5_readFour 1 = .ok (.istore 4, 2) := by decide +kernel
theorem dX5_readFour_3 : decode cX5_readFour 3 = .ok (.iload 4, 2) := by decide +kernel
theorem dX5_readFour_5 : decode cX5_readFour 5 = .ok (.iconst 4, 1) := by decide +kernel
theorem dX5_readFour_6 : decode cX5_readFour 6 = .ok (.if_icmp .ge 65, 3) := by decide +kernel
theorem dX5_readFour_9 : decode cX5_readFour 9 = .ok (.iload 4, 2) := by decide +kernel
theorem dX5_readFour_11 : decode cX5_readFour 11 = .ok (.ifCond .le 28, 3) := by decide +kernel
theorem dX5_readFour_14 : decode cX5_readFour 14 = .ok (.aload_n 0, 1) := by decide +kernel
theorem dX5_readFour_15 : decode cX5_readFour 15 = .ok (.aload_n 0, 1) := by decide +kernel
theorem dX5_readFour_16 : decode cX5_readFour 16 = .ok (.getfield 142, 3) := by decide +kernel
theorem dX5_readFour_19 : decode cX5_readFour 19 = .ok (.ifCond .ne 16, 3) := by decide +kernel
theorem dX5_readFour_22 : decode cX5_readFour 22 = .ok (.aload_n 0, 1) := by decide +kernel
theorem dX5_readFour_23 : decode cX5_readFour 23 = .ok (.invokevirtual 146, 3) := by decide +kernel
theorem dX5_readFour_26 : decode cX5_readFour 26 = .ok (.bipush 46, 2) := by decide +kernel
theorem dX5_readFour_28 : decode cX5_readFour 28 = .ok (.if_icmp .ne 7, 3) := by decide +kernel
theorem dX5_readFour_31 : decode cX5_readFour 31 = .ok (.iconst 1, 1) := by decide +kernel
theorem dX5_readFour_32 : decode cX5_readFour 32 = .ok (.goto 4, 3) := by decide +kernel
theorem dX5_readFour_35 : decode cX5_readFour 35 = .ok (.iconst 0, 1) := by decide +kernel
theorem dX5_readFour_36 : decode cX5_readFour 36 = .ok (.invokevirtual 153, 3) := by decide +kernel
theorem dX5_readFour_39 : decode cX5_readFour 39 = .ok (.aload_n 0, 1) := by decide +kernel
theorem dX5_readFour_40 : decode cX5_readFour 40 = .ok (.iload_n 2, 1) := by decide +kernel
theorem dX5_readFour_41 : decode cX5_readFour 41 = .ok (.iload_n 3, 1) := by decide +kernel
theorem dX5_readFour_42 : decode cX5_readFour 42 = .ok (.invokevirtual 157, 3) := by decide +kernel
theorem dX5_readFour_45 : decode cX5_readFour 45 = .ok (.istore 5, 2) := by decide +kernel
theorem dX5_readFour_47 : decode cX5_readFour 47 = .ok (.aload_n 0, 1) := by decide +kernel
theorem dX5_readFour_48 : decode cX5_readFour 48 = .ok (.getfield 142, 3) := by decide +kernel
theorem dX5_readFour_51 : decode cX5_readFour 51 = .ok (.ifCond .ne 14, 3) := by decide +kernel
theorem dX5_readFour_54 : decode cX5_readFour 54 = .ok (.aload_n 0, 1) := by decide +kernel
theorem dX5_readFour_55 : decode cX5_readFour 55 = .ok (.getfield 16, 3) := by decide +kernel
theorem dX5_readFour_58 : decode cX5_readFour 58 = .ok (.iload_n 1, 1) := by decide +kernel
theorem dX5_readFour_59 : decode cX5_readFour 59 = .ok (.iload 4, 2) := by decide +kernel
theorem dX5_readFour_61 : decode cX5_readFour 61 = .ok (.iadd, 1) := by decide +kernel
theorem dX5_readFour_62 : decode cX5_readFour 62 = .ok (.iload 5, 2) := by decide +kernel
theorem dX5_readFour_64 : decode cX5_readFour 64 = .ok (.iastore, 1) := by decide +kernel
theorem dX5_readFour_65 : decode cX5_readFour 65 = .ok (.iinc 4 1, 3) := by decide +kernel
theorem dX5_readFour_68 : decode cX5_readFour 68 = .ok (.goto (-65), 3) := by decide +kernel
theorem dX5_readFour_71 : decode cX5_readFour 71 = .ok (.return_, 1) := by decide +kernel
theorem dX5_readPeople_0 : decode cX5_readPeople 0 = .ok (.iconst 0, 1) := by decide +kernel
theorem dX5_readPeople_1 : decode cX5_readPeople 1 = .ok (.istore_n 1, 1) := by decide +kernel
theorem dX5_readPeople_2 : decode cX5_readPeople 2 = .ok (.aload_n 0, 1) := by decide +kernel
theorem dX5_readPeople_3 : decode cX5_readPeople 3 = .ok (.getfield 142, 3) := by decide +kernel
theorem dX5_readPeople_6 : decode cX5_readPeople 6 = .ok (.ifCond .ne 150, 3) := by decide +kernel
theorem dX5_readPeople_9 : decode cX5_readPeople 9 = .ok (.iload_n 1, 1) := by decide +kernel
theorem dX5_readPeople_10 : decode cX5_readPeople 10 = .ok (.ifCond .eq 12, 3) := by decide +kernel
theorem dX5_readPeople_13 : decode cX5_readPeople 13 = .ok (.aload_n 0, 1) := by decide +kernel
theorem dX5_readPeople_14 : decode cX5_readPeople 14 = .ok (.invokevirtual 146, 3) := by decide +kernel
theorem dX5_readPeople_17 : decode cX5_readPeople 17 = .ok (.bipush 44, 2) := by decide +kernel
theorem dX5_readPeople_19 : decode cX5_readPeople 19 = .ok (.if_icmp .ne 137, 3) := by decide +kernel
theorem dX5_readPeople_22 : decode cX5_readPeople 22 = .ok (.iload_n 1, 1) := by decide +kernel
theorem dX5_readPeople_23 : decode cX5_readPeople 23 = .ok (.ifCond .le 17, 3) := by decide +kernel
theorem dX5_readPeople_26 : decode cX5_readPeople 26 = .ok (.aload_n 0, 1) := by decide +kernel
theorem dX5_readPeople_27 : decode cX5_readPeople 27 = .ok (.iload_n 1, 1) := by decide +kernel
theorem dX5_readPeople_28 : decode cX5_readPeople 28 = .ok (.iconst 5, 1) := by decide +kernel
theorem dX5_readPeople_29 : decode cX5_readPeople 29 = .ok (.if_icmp .ge 7, 3) := by decide +kernel
theorem dX5_readPeople_32 : decode cX5_readPeople 32 = .ok (.iconst 1, 1) := by decide +kernel
theorem dX5_readPeople_33 : decode cX5_readPeople 33 = .ok (.goto 4, 3) := by decide +kernel
theorem dX5_readPeople_36 : decode cX5_readPeople 36 = .ok (.iconst 0, 1) := by decide +kernel
theorem dX5_readPeople_37 : decode cX5_readPeople 37 = .ok (.invokevirtual 153, 3) := by decide +kernel
theorem dX5_readPeople_40 : decode cX5_readPeople 40 = .ok (.aload_n 0, 1) := by decide +kernel
theorem dX5_readPeople_41 : decode cX5_readPeople 41 = .ok (.getfield 142, 3) := by decide +kernel
theorem dX5_readPeople_44 : decode cX5_readPeople 44 = .ok (.ifCond .eq 7, 3) := by decide +kernel
theorem dX5_readPeople_47 : decode cX5_readPeople 47 = .ok (.iconst 0, 1) := by decide +kernel
theorem dX5_readPeople_48 : decode cX5_readPeople 48 = .ok (.goto 7, 3) := by decide +kernel
theorem dX5_readPeople_51 : decode cX5_readPeople 51 = .ok (.aload_n 0, 1) := by decide +kernel
theorem dX5_readPeople_52 : decode cX5_readPeople 52 = .ok (.invokevirtual 146, 3) := by decide +kernel
theorem dX5_readPeople_55 : decode cX5_readPeople 55 = .ok (.istore_n 2, 1) := by decide +kernel
theorem dX5_readPeople_56 : decode cX5_readPeople 56 = .ok (.iload_n 2, 1) := by decide +kernel
theorem dX5_readPeople_57 : decode cX5_readPeople 57 = .ok (.bipush 112, 2) := by decide +kernel
theorem dX5_readPeople_59 : decode cX5_readPeople 59 = .ok (.if_icmp .ne 7, 3) := by decide +kernel
theorem dX5_readPeople_62 : decode cX5_readPeople 62 = .ok (.iconst 0, 1) := by decide +kernel
theorem dX5_readPeople_63 : decode cX5_readPeople 63 = .ok (.goto 44, 3) := by decide +kernel
theorem dX5_readPeople_66 : decode cX5_readPeople 66 = .ok (.iload_n 2, 1) := by decide +kernel
theorem dX5_readPeople_67 : decode cX5_readPeople 67 = .ok (.bipush 116, 2) := by decide +kernel
theorem dX5_readPeople_69 : decode cX5_readPeople 69 = .ok (.if_icmp .ne 7, 3) := by decide +kernel
theorem dX5_readPeople_72 : decode cX5_readPeople 72 = .ok (.iconst 1, 1) := by decide +kernel
theorem dX5_readPeople_73 : decode cX5_readPeople 73 = .ok (.goto 34, 3) := by decide +kernel
theorem dX5_readPeople_76 : decode cX5_readPeople 76 = .ok (.iload_n 2, 1) := by decide +kernel
theorem dX5_readPeople_77 : decode cX5_readPeople 77 = .ok (.bipush 115, 2) := by decide +kernel
theorem dX5_readPeople_79 : decode cX5_readPeople 79 = .ok (.if_icmp .ne 7, 3) := by decide +kernel
theorem dX5_readPeople_82 : decode cX5_readPeople 82 = .ok (.iconst 2, 1) := by decide +kernel
theorem dX5_readPeople_83 : decode cX5_readPeople 83 = .ok (.goto 24, 3) := by decide +kernel
theorem dX5_readPeople_86 : decode cX5_readPeople 86 = .ok (.iload_n 2, 1) := by decide +kernel
theorem dX5_readPeople_87 : decode cX5_readPeople 87 = .ok (.bipush 119, 2) := by decide +kernel
theorem dX5_readPeople_89 : decode cX5_readPeople 89 = .ok (.if_icmp .ne 7, 3) := by decide +kernel
theorem dX5_readPeople_92 : decode cX5_readPeople 92 = .ok (.iconst 3, 1) := by decide +kernel
theorem dX5_readPeople_93 : decode cX5_readPeople 93 = .ok (.goto 14, 3) := by decide +kernel
theorem dX5_readPeople_96 : decode cX5_readPeople 96 = .ok (.iload_n 2, 1) := by decide +kernel
theorem dX5_readPeople_97 : decode cX5_readPeople 97 = .ok (.bipush 104, 2) := by decide +kernel
theorem dX5_readPeople_99 : decode cX5_readPeople 99 = .ok (.if_icmp .ne 7, 3) := by decide +kernel
theorem dX5_readPeople_102 : decode cX5_readPeople 102 = .ok (.iconst 4, 1) := by decide +kernel
theorem dX5_readPeople_103 : decode cX5_readPeople 103 = .ok (.goto 4, 3) := by decide +kernel
theorem dX5_readPeople_106 : decode cX5_readPeople 106 = .ok (.iconst (-1), 1) := by decide +kernel
theorem dX5_readPeople_107 : decode cX5_readPeople 107 = .ok (.istore_n 3, 1) := by decide +kernel
theorem dX5_readPeople_108 : decode cX5_readPeople 108 = .ok (.aload_n 0, 1) := by decide +kernel
theorem dX5_readPeople_109 : decode cX5_readPeople 109 = .ok (.iload_n 3, 1) := by decide +kernel
theorem dX5_readPeople_110 : decode cX5_readPeople 110 = .ok (.ifCond .lt 7, 3) := by decide +kernel
theorem dX5_readPeople_113 : decode cX5_readPeople 113 = .ok (.iconst 1, 1) := by decide +kernel
theorem dX5_readPeople_114 : decode cX5_readPeople 114 = .ok (.goto 4, 3) := by decide +kernel
theorem dX5_readPeople_117 : decode cX5_readPeople 117 = .ok (.iconst 0, 1) := by decide +kernel
theorem dX5_readPeople_118 : decode cX5_readPeople 118 = .ok (.invokevirtual 153, 3) := by decide +kernel
theorem dX5_readPeople_121 : decode cX5_readPeople 121 = .ok (.aload_n 0, 1) := by decide +kernel
theorem dX5_readPeople_122 : decode cX5_readPeople 122 = .ok (.getfield 142, 3) := by decide +kernel
theorem dX5_readPeople_125 : decode cX5_readPeople 125 = .ok (.ifCond .ne 25, 3) := by decide +kernel
theorem dX5_readPeople_128 : decode cX5_readPeople 128 = .ok (.aload_n 0, 1) := by decide +kernel
theorem dX5_readPeople_129 : decode cX5_readPeople 129 = .ok (.getfield 16, 3) := by decide +kernel
theorem dX5_readPeople_132 : decode cX5_readPeople 132 = .ok (.iconst 5, 1) := by decide +kernel
theorem dX5_readPeople_133 : decode cX5_readPeople 133 = .ok (.iload_n 1, 1) := by decide +kernel
theorem dX5_readPeople_134 : decode cX5_readPeople 134 = .ok (.imul, 1) := by decide +kernel
theorem dX5_readPeople_135 : decode cX5_readPeople 135 = .ok (.iload_n 3, 1) := by decide +kernel
theorem dX5_readPeople_136 : decode cX5_readPeople 136 = .ok (.iastore, 1) := by decide +kernel
theorem dX5_readPeople_137 : decode cX5_readPeople 137 = .ok (.aload_n 0, 1) := by decide +kernel
theorem dX5_readPeople_138 : decode cX5_readPeople 138 = .ok (.iconst 5, 1) := by decide +kernel
theorem dX5_readPeople_139 : decode cX5_readPeople 139 = .ok (.iload_n 1, 1) := by decide +kernel
theorem dX5_readPeople_140 : decode cX5_readPeople 140 = .ok (.imul, 1) := by decide +kernel
theorem dX5_readPeople_141 : decode cX5_readPeople 141 = .ok (.iconst 1, 1) := by decide +kernel
theorem dX5_readPeople_142 : decode cX5_readPeople 142 = .ok (.iadd, 1) := by decide +kernel
theorem dX5_readPeople_143 : decode cX5_readPeople 143 = .ok (.bipush 10, 2) := by decide +kernel
theorem dX5_readPeople_145 : decode cX5_readPeople 145 = .ok (.bipush 99, 2) := by decide +kernel
theorem dX5_readPeople_147 : decode cX5_readPeople 147 = .ok (.invokevirtual 160, 3) := by decide +kernel
theorem dX5_readPeople_150 : decode cX5_readPeople 150 = .ok (.iinc 1 1, 3) := by decide +kernel
theorem dX5_readPeople_153 : decode cX5_readPeople 153 = .ok (.goto (-151), 3) := by decide +kernel
theorem dX5_readPeople_156 : decode cX5_readPeople 156 = .ok (.iload_n 1, 1) := by decide +kernel
theorem dX5_readPeople_157 : decode cX5_readPeople 157 = .ok (.ireturn, 1) := by decide +kernel
theorem dX5_readSuits_0 : decode cX5_readSuits 0 = .ok (.iconst 0, 1) := by decide +kernel
theorem dX5_readSuits_1 : decode cX5_readSuits 1 = .ok (.istore_n 1, 1) := by decide +kernel
theorem dX5_readSuits_2 : decode cX5_readSuits 2 = .ok (.aload_n 0, 1) := by decide +kernel
theorem dX5_readSuits_3 : decode cX5_readSuits 3 = .ok (.getfield 142, 3) := by decide +kernel
theorem dX5_readSuits_6 : decode cX5_readSuits 6 = .ok (.ifCond .ne 61, 3) := by decide +kernel
theorem dX5_readSuits_9 : decode cX5_readSuits 9 = .ok (.iload_n 1, 1) := by decide +kernel
theorem dX5_readSuits_10 : decode cX5_readSuits 10 = .ok (.ifCond .eq 12, 3) := by decide +kernel
theorem dX5_readSuits_13 : decode cX5_readSuits 13 = .ok (.aload_n 0, 1) := by decide +kernel
theorem dX5_readSuits_14 : decode cX5_readSuits 14 = .ok (.invokevirtual 146, 3) := by decide +kernel
theorem dX5_readSuits_17 : decode cX5_readSuits 17 = .ok (.bipush 44, 2) := by decide +kernel
theorem dX5_readSuits_19 : decode cX5_readSuits 19 = .ok (.if_icmp .ne 48, 3) := by decide +kernel
theorem dX5_readSuits_22 : decode cX5_readSuits 22 = .ok (.iload_n 1, 1) := by decide +kernel
theorem dX5_readSuits_23 : decode cX5_readSuits 23 = .ok (.ifCond .le 17, 3) := by decide +kernel
theorem dX5_readSuits_26 : decode cX5_readSuits 26 = .ok (.aload_n 0, 1) := by decide +kernel
theorem dX5_readSuits_27 : decode cX5_readSuits 27 = .ok (.iload_n 1, 1) := by decide +kernel
theorem dX5_readSuits_28 : decode cX5_readSuits 28 = .ok (.iconst 4, 1) := by decide +kernel
theorem dX5_readSuits_29 : decode cX5_readSuits 29 = .ok (.if_icmp .ge 7, 3) := by decide +kernel
theorem dX5_readSuits_32 : decode cX5_readSuits 32 = .ok (.iconst 1, 1) := by decide +kernel
theorem dX5_readSuits_33 : decode cX5_readSuits 33 = .ok (.goto 4, 3) := by decide +kernel
theorem dX5_readSuits_36 : decode cX5_readSuits 36 = .ok (.iconst 0, 1) := by decide +kernel
theorem dX5_readSuits_37 : decode cX5_readSuits 37 = .ok (.invokevirtual 153, 3) := by decide +kernel
theorem dX5_readSuits_40 : decode cX5_readSuits 40 = .ok (.aload_n 0, 1) := by decide +kernel
theorem dX5_readSuits_41 : decode cX5_readSuits 41 = .ok (.getfield 142, 3) := by decide +kernel
theorem dX5_readSuits_44 : decode cX5_readSuits 44 = .ok (.ifCond .ne 17, 3) := by decide +kernel
theorem dX5_readSuits_47 : decode cX5_readSuits 47 = .ok (.aload_n 0, 1) := by decide +kernel
theorem dX5_readSuits_48 : decode cX5_readSuits 48 = .ok (.bipush 25, 2) := by decide +kernel
theorem dX5_readSuits_50 : decode cX5_readSuits 50 = .ok (.iconst 4, 1) := by decide +kernel
theorem dX5_readSuits_51 : decode cX5_readSuits 51 = .ok (.iload_n 1, 1) := by decide +kernel
theorem dX5_readSuits_52 : decode cX5_readSuits 52 = .ok (.imul, 1) := by decide +kernel
theorem dX5_readSuits_53 : decode cX5_readSuits 53 = .ok (.iadd, 1) := by decide +kernel
theorem dX5_readSuits_54 : decode cX5_readSuits 54 = .ok (.iconst 0, 1) := by decide +kernel
theorem dX5_readSuits_55 : decode cX5_readSuits 55 = .ok (.sipush 199, 3) := by decide +kernel
theorem dX5_readSuits_58 : decode cX5_readSuits 58 = .ok (.invokevirtual 160, 3) := by decide +kernel
theorem dX5_readSuits_61 : decode cX5_readSuits 61 = .ok (.iinc 1 1, 3) := by decide +kernel
theorem dX5_readSuits_64 : decode cX5_readSuits 64 = .ok (.goto (-62), 3) := by decide +kernel
theorem dX5_readSuits_67 : decode cX5_readSuits 67 = .ok (.iload_n 1, 1) := by decide +kernel
theorem dX5_readSuits_68 : decode cX5_readSuits 68 = .ok (.ireturn, 1) := by decide +kernel
theorem dX5_wardrobe_0 : decode cX5_wardrobe 0 = .ok (.aload_n 0, 1) := by decide +kernel
theorem dX5_wardrobe_1 : decode cX5_wardrobe 1 = .ok (.iconst 0, 1) := by decide +kernel
theorem dX5_wardrobe_2 : decode cX5_wardrobe 2 = .ok (.putfield 139, 3) := by decide +kernel
theorem dX5_wardrobe_5 : decode cX5_wardrobe 5 = .ok (.aload_n 0, 1) := by decide +kernel
theorem dX5_wardrobe_6 : decode cX5_wardrobe 6 = .ok (.iconst 0, 1) := by decide +kernel
theorem dX5_wardrobe_7 : decode cX5_wardrobe 7 = .ok (.putfield 142, 3) := by decide +kernel
theorem dX5_wardrobe_10 : decode cX5_wardrobe 10 = .ok (.aload_n 0, 1) := by decide +kernel
theorem dX5_wardrobe_11 : decode cX5_wardrobe 11 = .ok (.iconst 1, 1) := by decide +kernel
theorem dX5_wardrobe_12 : decode cX5_wardrobe 12 = .ok (.bipush 30, 2) := by decide +kernel
theorem dX5_wardrobe_14 : decode cX5_wardrobe 14 = .ok (.invokevirtual 157, 3) := by decide +kernel
theorem dX5_wardrobe_17 : decode cX5_wardrobe 17 = .ok (.istore_n 1, 1) := by decide +kernel
theorem dX5_wardrobe_18 : decode cX5_wardrobe 18 = .ok (.aload_n 0, 1) := by decide +kernel
theorem dX5_wardrobe_19 : decode cX5_wardrobe 19 = .ok (.aload_n 0, 1) := by decide +kernel
theorem dX5_wardrobe_20 : decode cX5_wardrobe 20 = .ok (.getfield 142, 3) := by decide +kernel
theorem dX5_wardrobe_23 : decode cX5_wardrobe 23 = .ok (.ifCond .ne 16, 3) := by decide +kernel
theorem dX5_wardrobe_26 : decode cX5_wardrobe 26 = .ok (.aload_n 0, 1) := by decide +kernel
theorem dX5_wardrobe_27 : decode cX5_wardrobe 27 = .ok (.invokevirtual 146, 3) := by decide +kernel
theorem dX5_wardrobe_30 : decode cX5_wardrobe 30 = .ok (.bipush 59, 2) := by decide +kernel
theorem dX5_wardrobe_32 : decode cX5_wardrobe 32 = .ok (.if_icmp .ne 7, 3) := by decide +kernel
theorem dX5_wardrobe_35 : decode cX5_wardrobe 35 = .ok (.iconst 1, 1) := by decide +kernel
theorem dX5_wardrobe_36 : decode cX5_wardrobe 36 = .ok (.goto 4, 3) := by decide +kernel
theorem dX5_wardrobe_39 : decode cX5_wardrobe 39 = .ok (.iconst 0, 1) := by decide +kernel
theorem dX5_wardrobe_40 : decode cX5_wardrobe 40 = .ok (.invokevirtual 153, 3) := by decide +kernel
theorem dX5_wardrobe_43 : decode cX5_wardrobe 43 = .ok (.aload_n 0, 1) := by decide +kernel
theorem dX5_wardrobe_44 : decode cX5_wardrobe 44 = .ok (.invokevirtual 164, 3) := by decide +kernel
theorem dX5_wardrobe_47 : decode cX5_wardrobe 47 = .ok (.istore_n 2, 1) := by decide +kernel
theorem dX5_wardrobe_48 : decode cX5_wardrobe 48 = .ok (.iconst 0, 1) := by decide +kernel
theorem dX5_wardrobe_49 : decode cX5_wardrobe 49 = .ok (.istore_n 3, 1) := by decide +kernel
theorem dX5_wardrobe_50 : decode cX5_wardrobe 50 = .ok (.aload_n 0, 1) := by decide +kernel
theorem dX5_wardrobe_51 : decode cX5_wardrobe 51 = .ok (.getfield 142, 3) := by decide +kernel
theorem dX5_wardrobe_54 : decode cX5_wardrobe 54 = .ok (.ifCond .ne 27, 3) := by decide +kernel
theorem dX5_wardrobe_57 : decode cX5_wardrobe 57 = .ok (.aload_n 0, 1) := by decide +kernel
theorem dX5_wardrobe_58 : decode cX5_wardrobe 58 = .ok (.invokevirtual 146, 3) := by decide +kernel
theorem dX5_wardrobe_61 : decode cX5_wardrobe 61 = .ok (.bipush 59, 2) := by decide +kernel
theorem dX5_wardrobe_63 : decode cX5_wardrobe 63 = .ok (.if_icmp .ne 18, 3) := by decide +kernel
theorem dX5_wardrobe_66 : decode cX5_wardrobe 66 = .ok (.aload_n 0, 1) := by decide +kernel
theorem dX5_wardrobe_67 : decode cX5_wardrobe 67 = .ok (.dup, 1) := by decide +kernel
theorem dX5_wardrobe_68 : decode cX5_wardrobe 68 = .ok (.getfield 139, 3) := by decide +kernel
theorem dX5_wardrobe_71 : decode cX5_wardrobe 71 = .ok (.iconst 1, 1) := by decide +kernel
theorem dX5_wardrobe_72 : decode cX5_wardrobe 72 = .ok (.iadd, 1) := by decide +kernel
theorem dX5_wardrobe_73 : decode cX5_wardrobe 73 = .ok (.putfield 139, 3) := by decide +kernel
theorem dX5_wardrobe_76 : decode cX5_wardrobe 76 = .ok (.aload_n 0, 1) := by decide +kernel
theorem dX5_wardrobe_77 : decode cX5_wardrobe 77 = .ok (.invokevirtual 167, 3) := by decide +kernel
theorem dX5_wardrobe_80 : decode cX5_wardrobe 80 = .ok (.istore_n 3, 1) := by decide +kernel
theorem dX5_wardrobe_81 : decode cX5_wardrobe 81 = .ok (.aload_n 0, 1) := by decide +kernel
theorem dX5_wardrobe_82 : decode cX5_wardrobe 82 = .ok (.aload_n 0, 1) := by decide +kernel
theorem dX5_wardrobe_83 : decode cX5_wardrobe 83 = .ok (.getfield 142, 3) := by decide +kernel
theorem dX5_wardrobe_86 : decode cX5_wardrobe 86 = .ok (.ifCond .ne 10, 3) := by decide +kernel
theorem dX5_wardrobe_89 : decode cX5_wardrobe 89 = .ok (.aload_n 0, 1) := by decide +kernel
theorem dX5_wardrobe_90 : decode cX5_wardrobe 90 = .ok (.invokevirtual 146, 3) := by decide +kernel
theorem dX5_wardrobe_93 : decode cX5_wardrobe 93 = .ok (.ifCond .eq 7, 3) := by decide +kernel
theorem dX5_wardrobe_96 : decode cX5_wardrobe 96 = .ok (.iconst 1, 1) := by decide +kernel
theorem dX5_wardrobe_97 : decode cX5_wardrobe 97 = .ok (.goto 4, 3) := by decide +kernel
theorem dX5_wardrobe_100 : decode cX5_wardrobe 100 = .ok (.iconst 0, 1) := by decide +kernel
theorem dX5_wardrobe_101 : decode cX5_wardrobe 101 = .ok (.putfield 142, 3) := by decide +kernel
theorem dX5_wardrobe_104 : decode cX5_wardrobe 104 = .ok (.aload_n 0, 1) := by decide +kernel
theorem dX5_wardrobe_105 : decode cX5_wardrobe 105 = .ok (.iconst 0, 1) := by decide +kernel
theorem dX5_wardrobe_106 : decode cX5_wardrobe 106 = .ok (.putfield 136, 3) := by decide +kernel
theorem dX5_wardrobe_109 : decode cX5_wardrobe 109 = .ok (.aload_n 0, 1) := by decide +kernel
theorem dX5_wardrobe_110 : decode cX5_wardrobe 110 = .ok (.getfield 142, 3) := by decide +kernel
theorem dX5_wardrobe_113 : decode cX5_wardrobe 113 = .ok (.ifCond .eq 11, 3) := by decide +kernel
theorem dX5_wardrobe_116 : decode cX5_wardrobe 116 = .ok (.bipush (-20), 2) := by decide +kernel
theorem dX5_wardrobe_118 : decode cX5_wardrobe 118 = .ok (.aload_n 0, 1) := by decide +kernel
theorem dX5_wardrobe_119 : decode cX5_wardrobe 119 = .ok (.getfield 139, 3) := by decide +kernel
theorem dX5_wardrobe_122 : decode cX5_wardrobe 122 = .ok (.isub, 1) := by decide +kernel
theorem dX5_wardrobe_123 : decode cX5_wardrobe 123 = .ok (.ireturn, 1) := by decide +kernel
theorem dX5_wardrobe_124 : decode cX5_wardrobe 124 = .ok (.iconst 0, 1) := by decide +kernel
theorem dX5_wardrobe_125 : decode cX5_wardrobe 125 = .ok (.istore 4, 2) := by decide +kernel
theorem dX5_wardrobe_127 : decode cX5_wardrobe 127 = .ok (.iload 4, 2) := by decide +kernel
theorem dX5_wardrobe_129 : decode cX5_wardrobe 129 = .ok (.bipush 41, 2) := by decide +kernel
theorem dX5_wardrobe_131 : decode cX5_wardrobe 131 = .ok (.if_icmp .ge 26, 3) := by decide +kernel
theorem dX5_wardrobe_134 : decode cX5_wardrobe 134 = .ok (.aload_n 0, 1) := by decide +kernel
theorem dX5_wardrobe_135 : decode cX5_wardrobe 135 = .ok (.getfield 7, 3) := by decide +kernel
theorem dX5_wardrobe_138 : decode cX5_wardrobe 138 = .ok (.bipush 8, 2) := by decide +kernel
theorem dX5_wardrobe_140 : decode cX5_wardrobe 140 = .ok (.iload 4, 2) := by decide +kernel
theorem dX5_wardrobe_142 : decode cX5_wardrobe 142 = .ok (.iadd, 1) := by decide +kernel
theorem dX5_wardrobe_143 : decode cX5_wardrobe 143 = .ok (.aload_n 0, 1) := by decide +kernel
theorem dX5_wardrobe_144 : decode cX5_wardrobe 144 = .ok (.getfield 16, 3) := by decide +kernel
theorem dX5_wardrobe_147 : decode cX5_wardrobe 147 = .ok (.iload 4, 2) := by decide +kernel
theorem dX5_wardrobe_149 : decode cX5_wardrobe 149 = .ok (.iaload, 1) := by decide +kernel
theorem dX5_wardrobe_150 : decode cX5_wardrobe 150 = .ok (.iastore, 1) := by decide +kernel
theorem dX5_wardrobe_151 : decode cX5_wardrobe 151 = .ok (.iinc 4 1, 3) := by decide +kernel
theorem dX5_wardrobe_154 : decode cX5_wardrobe 154 = .ok (.goto (-27), 3) := by decide +kernel
theorem dX5_wardrobe_157 : decode cX5_wardrobe 157 = .ok (.aload_n 0, 1) := by decide +kernel
theorem dX5_wardrobe_158 : decode cX5_wardrobe 158 = .ok (.getfield 7, 3) := by decide +kernel
theorem dX5_wardrobe_161 : decode cX5_wardrobe 161 = .ok (.iconst 0, 1) := by decide +kernel
theorem dX5_wardrobe_162 : decode cX5_wardrobe 162 = .ok (.iload_n 2, 1) := by decide +kernel
theorem dX5_wardrobe_163 : decode cX5_wardrobe 163 = .ok (.iastore, 1) := by decide +kernel
theorem dX5_wardrobe_164 : decode cX5_wardrobe 164 = .ok (.aload_n 0, 1) := by decide +kernel
theorem dX5_wardrobe_165 : decode cX5_wardrobe 165 = .ok (.getfield 7, 3) := by decide +kernel
theorem dX5_wardrobe_168 : decode cX5_wardrobe 168 = .ok (.iconst 1, 1) := by decide +kernel
theorem dX5_wardrobe_169 : decode cX5_wardrobe 169 = .ok (.iload_n 3, 1) := by decide +kernel
theorem dX5_wardrobe_170 : decode cX5_wardrobe 170 = .ok (.iastore, 1) := by decide +kernel
theorem dX5_wardrobe_171 : decode cX5_wardrobe 171 = .ok (.aload_n 0, 1) := by decide +kernel
theorem dX5_wardrobe_172 : decode cX5_wardrobe 172 = .ok (.getfield 7, 3) := by decide +kernel
theorem dX5_wardrobe_175 : decode cX5_wardrobe 175 = .ok (.iconst 2, 1) := by decide +kernel
theorem dX5_wardrobe_176 : decode cX5_wardrobe 176 = .ok (.iconst 0, 1) := by decide +kernel
theorem dX5_wardrobe_177 : decode cX5_wardrobe 177 = .ok (.iastore, 1) := by decide +kernel
theorem dX5_wardrobe_178 : decode cX5_wardrobe 178 = .ok (.aload_n 0, 1) := by decide +kernel
theorem dX5_wardrobe_179 : decode cX5_wardrobe 179 = .ok (.getfield 7, 3) := by decide +kernel
theorem dX5_wardrobe_182 : decode cX5_wardrobe 182 = .ok (.iconst 3, 1) := by decide +kernel
theorem dX5_wardrobe_183 : decode cX5_wardrobe 183 = .ok (.iconst 0, 1) := by decide +kernel
theorem dX5_wardrobe_184 : decode cX5_wardrobe 184 = .ok (.iastore, 1) := by decide +kernel
theorem dX5_wardrobe_185 : decode cX5_wardrobe 185 = .ok (.aload_n 0, 1) := by decide +kernel
theorem dX5_wardrobe_186 : decode cX5_wardrobe 186 = .ok (.getfield 7, 3) := by decide +kernel
theorem dX5_wardrobe_189 : decode cX5_wardrobe 189 = .ok (.iconst 4, 1) := by decide +kernel
theorem dX5_wardrobe_190 : decode cX5_wardrobe 190 = .ok (.iload_n 1, 1) := by decide +kernel
theorem dX5_wardrobe_191 : decode cX5_wardrobe 191 = .ok (.iastore, 1) := by decide +kernel
theorem dX5_wardrobe_192 : decode cX5_wardrobe 192 = .ok (.aload_n 0, 1) := by decide +kernel
theorem dX5_wardrobe_193 : decode cX5_wardrobe 193 = .ok (.getfield 7, 3) := by decide +kernel
theorem dX5_wardrobe_196 : decode cX5_wardrobe 196 = .ok (.bipush 6, 2) := by decide +kernel
theorem dX5_wardrobe_198 : decode cX5_wardrobe 198 = .ok (.iconst 0, 1) := by decide +kernel
theorem dX5_wardrobe_199 : decode cX5_wardrobe 199 = .ok (.iastore, 1) := by decide +kernel
theorem dX5_wardrobe_200 : decode cX5_wardrobe 200 = .ok (.aload_n 0, 1) := by decide +kernel
theorem dX5_wardrobe_201 : decode cX5_wardrobe 201 = .ok (.iconst 0, 1) := by decide +kernel
theorem dX5_wardrobe_202 : decode cX5_wardrobe 202 = .ok (.putfield 89, 3) := by decide +kernel
theorem dX5_wardrobe_205 : decode cX5_wardrobe 205 = .ok (.iload_n 2, 1) := by decide +kernel
theorem dX5_wardrobe_206 : decode cX5_wardrobe 206 = .ok (.ireturn, 1) := by decide +kernel
theorem dX5_notes_0 : decode cX5_notes 0 = .ok (.aload_n 0, 1) := by decide +kernel
theorem dX5_notes_1 : decode cX5_notes 1 = .ok (.getfield 89, 3) := by decide +kernel
theorem dX5_notes_4 : decode cX5_notes 4 = .ok (.bipush 8, 2) := by decide +kernel
theorem dX5_notes_6 : decode cX5_notes 6 = .ok (.if_icmp .ne 40, 3) := by decide +kernel
theorem dX5_notes_9 : decode cX5_notes 9 = .ok (.bipush 44, 2) := by decide +kernel
theorem dX5_notes_11 : decode cX5_notes 11 = .ok (.istore_n 1, 1) := by decide +kernel
theorem dX5_notes_12 : decode cX5_notes 12 = .ok (.iload_n 1, 1) := by decide +kernel
theorem dX5_notes_13 : decode cX5_notes 13 = .ok (.sipush 352, 3) := by decide +kernel
theorem dX5_notes_16 : decode cX5_notes 16 = .ok (.if_icmp .ge 24, 3) := by decide +kernel
theorem dX5_notes_19 : decode cX5_notes 19 = .ok (.aload_n 0, 1) := by decide +kernel
theorem dX5_notes_20 : decode cX5_notes 20 = .ok (.getfield 19, 3) := by decide +kernel
theorem dX5_notes_23 : decode cX5_notes 23 = .ok (.iload_n 1, 1) := by decide +kernel
theorem dX5_notes_24 : decode cX5_notes 24 = .ok (.bipush 44, 2) := by decide +kernel
theorem dX5_notes_26 : decode cX5_notes 26 = .ok (.isub, 1) := by decide +kernel
theorem dX5_notes_27 : decode cX5_notes 27 = .ok (.aload_n 0, 1) := by decide +kernel
theorem dX5_notes_28 : decode cX5_notes 28 = .ok (.getfield 19, 3) := by decide +kernel
theorem dX5_notes_31 : decode cX5_notes 31 = .ok (.iload_n 1, 1) := by decide +kernel
theorem dX5_notes_32 : decode cX5_notes 32 = .ok (.iaload, 1) := by decide +kernel
theorem dX5_notes_33 : decode cX5_notes 33 = .ok (.iastore, 1) := by decide +kernel
theorem dX5_notes_34 : decode cX5_notes 34 = .ok (.iinc 1 1, 3) := by decide +kernel
theorem dX5_notes_37 : decode cX5_notes 37 = .ok (.goto (-25), 3) := by decide +kernel
theorem dX5_notes_40 : decode cX5_notes 40 = .ok (.aload_n 0, 1) := by decide +kernel
theorem dX5_notes_41 : decode cX5_notes 41 = .ok (.bipush 7, 2) := by decide +kernel
theorem dX5_notes_43 : decode cX5_notes 43 = .ok (.putfield 89, 3) := by decide +kernel
theorem dX5_notes_46 : decode cX5_notes 46 = .ok (.bipush 44, 2) := by decide +kernel
theorem dX5_notes_48 : decode cX5_notes 48 = .ok (.aload_n 0, 1) := by decide +kernel
theorem dX5_notes_49 : decode cX5_notes 49 = .ok (.getfield 89, 3) := by decide +kernel
theorem dX5_notes_52 : decode cX5_notes 52 = .ok (.imul, 1) := by decide +kernel
theorem dX5_notes_53 : decode cX5_notes 53 = .ok (.istore_n 1, 1) := by decide +kernel
theorem dX5_notes_54 : decode cX5_notes 54 = .ok (.aload_n 0, 1) := by decide +kernel
theorem dX5_notes_55 : decode cX5_notes 55 = .ok (.getfield 19, 3) := by decide +kernel
theorem dX5_notes_58 : decode cX5_notes 58 = .ok (.iload_n 1, 1) := by decide +kernel
theorem dX5_notes_59 : decode cX5_notes 59 = .ok (.aload_n 0, 1) := by decide +kernel
theorem dX5_notes_60 : decode cX5_notes 60 = .ok (.getfield 7, 3) := by decide +kernel
theorem dX5_notes_63 : decode cX5_notes 63 = .ok (.iconst 2, 1) := by decide +kernel
theorem dX5_notes_64 : decode cX5_notes 64 = .ok (.iaload, 1) := by decide +kernel
theorem dX5_notes_65 : decode cX5_notes 65 = .ok (.iastore, 1) := by decide +kernel
theorem dX5_notes_66 : decode cX5_notes 66 = .ok (.aload_n 0, 1) := by decide +kernel
theorem dX5_notes_67 : decode cX5_notes 67 = .ok (.getfield 19, 3) := by decide +kernel
theorem dX5_notes_70 : decode cX5_notes 70 = .ok (.iload_n 1, 1) := by decide +kernel
theorem dX5_notes_71 : decode cX5_notes 71 = .ok (.iconst 1, 1) := by decide +kernel
theorem dX5_notes_72 : decode cX5_notes 72 = .ok (.iadd, 1) := by decide +kernel
theorem dX5_notes_73 : decode cX5_notes 73 = .ok (.aload_n 0, 1) := by decide +kernel
theorem dX5_notes_74 : decode cX5_notes 74 = .ok (.getfield 7, 3) := by decide +kernel
theorem dX5_notes_77 : decode cX5_notes 77 = .ok (.iconst 3, 1) := by decide +kernel
theorem dX5_notes_78 : decode cX5_notes 78 = .ok (.iaload, 1) := by decide +kernel
theorem dX5_notes_79 : decode cX5_notes 79 = .ok (.iastore, 1) := by decide +kernel
theorem dX5_notes_80 : decode cX5_notes 80 = .ok (.aload_n 0, 1) := by decide +kernel
theorem dX5_notes_81 : decode cX5_notes 81 = .ok (.getfield 19, 3) := by decide +kernel
theorem dX5_notes_84 : decode cX5_notes 84 = .ok (.iload_n 1, 1) := by decide +kernel
theorem dX5_notes_85 : decode cX5_notes 85 = .ok (.iconst 2, 1) := by decide +kernel
theorem dX5_notes_86 : decode cX5_notes 86 = .ok (.iadd, 1) := by decide +kernel
theorem dX5_notes_87 : decode cX5_notes 87 = .ok (.aload_n 0, 1) := by decide +kernel
theorem dX5_notes_88 : decode cX5_notes 88 = .ok (.getfield 7, 3) := by decide +kernel
theorem dX5_notes_91 : decode cX5_notes 91 = .ok (.bipush 6, 2) := by decide +kernel
theorem dX5_notes_93 : decode cX5_notes 93 = .ok (.iaload, 1) := by decide +kernel
theorem dX5_notes_94 : decode cX5_notes 94 = .ok (.iastore, 1) := by decide +kernel
theorem dX5_notes_95 : decode cX5_notes 95 = .ok (.aload_n 0, 1) := by decide +kernel
theorem dX5_notes_96 : decode cX5_notes 96 = .ok (.getfield 19, 3) := by decide +kernel
theorem dX5_notes_99 : decode cX5_notes 99 = .ok (.iload_n 1, 1) := by decide +kernel
theorem dX5_notes_100 : decode cX5_notes 100 = .ok (.iconst 3, 1) := by decide +kernel
theorem dX5_notes_101 : decode cX5_notes 101 = .ok (.iadd, 1) := by decide +kernel
theorem dX5_notes_102 : decode cX5_notes 102 = .ok (.aload_n 0, 1) := by decide +kernel
theorem dX5_notes_103 : decode cX5_notes 103 = .ok (.getfield 7, 3) := by decide +kernel
theorem dX5_notes_106 : decode cX5_notes 106 = .ok (.bipush 7, 2) := by decide +kernel
theorem dX5_notes_108 : decode cX5_notes 108 = .ok (.iaload, 1) := by decide +kernel
theorem dX5_notes_109 : decode cX5_notes 109 = .ok (.iastore, 1) := by decide +kernel
theorem dX5_notes_110 : decode cX5_notes 110 = .ok (.iconst 0, 1) := by decide +kernel
theorem dX5_notes_111 : decode cX5_notes 111 = .ok (.istore_n 2, 1) := by decide +kernel
theorem dX5_notes_112 : decode cX5_notes 112 = .ok (.iload_n 2, 1) := by decide +kernel
theorem dX5_notes_113 : decode cX5_notes 113 = .ok (.bipush 40, 2) := by decide +kernel
theorem dX5_notes_115 : decode cX5_notes 115 = .ok (.if_icmp .ge 28, 3) := by decide +kernel
theorem dX5_notes_118 : decode cX5_notes 118 = .ok (.aload_n 0, 1) := by decide +kernel
theorem dX5_notes_119 : decode cX5_notes 119 = .ok (.getfield 19, 3) := by decide +kernel
theorem dX5_notes_122 : decode cX5_notes 122 = .ok (.iload_n 1, 1) := by decide +kernel
theorem dX5_notes_123 : decode cX5_notes 123 = .ok (.iconst 4, 1) := by decide +kernel
theorem dX5_notes_124 : decode cX5_notes 124 = .ok (.iadd, 1) := by decide +kernel
theorem dX5_notes_125 : decode cX5_notes 125 = .ok (.iload_n 2, 1) := by decide +kernel
theorem dX5_notes_126 : decode cX5_notes 126 = .ok (.iadd, 1) := by decide +kernel
theorem dX5_notes_127 : decode cX5_notes 127 = .ok (.aload_n 0, 1) := by decide +kernel
theorem dX5_notes_128 : decode cX5_notes 128 = .ok (.getfield 7, 3) := by decide +kernel
theorem dX5_notes_131 : decode cX5_notes 131 = .ok (.bipush 49, 2) := by decide +kernel
theorem dX5_notes_133 : decode cX5_notes 133 = .ok (.iload_n 2, 1) := by decide +kernel
theorem dX5_notes_134 : decode cX5_notes 134 = .ok (.iadd, 1) := by decide +kernel
theorem dX5_notes_135 : decode cX5_notes 135 = .ok (.iaload, 1) := by decide +kernel
theorem dX5_notes_136 : decode cX5_notes 136 = .ok (.iastore, 1) := by decide +kernel
theorem dX5_notes_137 : decode cX5_notes 137 = .ok (.iinc 2 1, 3) := by decide +kernel
theorem dX5_notes_140 : decode cX5_notes 140 = .ok (.goto (-28), 3) := by decide +kernel
theorem dX5_notes_143 : decode cX5_notes 143 = .ok (.aload_n 0, 1) := by decide +kernel
theorem dX5_notes_144 : decode cX5_notes 144 = .ok (.dup, 1) := by decide +kernel
theorem dX5_notes_145 : decode cX5_notes 145 = .ok (.getfield 89, 3) := by decide +kernel
theorem dX5_notes_148 : decode cX5_notes 148 = .ok (.iconst 1, 1) := by decide +kernel
theorem dX5_notes_149 : decode cX5_notes 149 = .ok (.iadd, 1) := by decide +kernel
theorem dX5_notes_150 : decode cX5_notes 150 = .ok (.putfield 89, 3) := by decide +kernel
theorem dX5_notes_153 : decode cX5_notes 153 = .ok (.return_, 1) := by decide +kernel
theorem dX5_isDone_0 : decode cX5_isDone 0 = .ok (.bipush 49, 2) := by decide +kernel
theorem dX5_isDone_2 : decode cX5_isDone 2 = .ok (.iconst 4, 1) := by decide +kernel
theorem dX5_isDone_3 : decode cX5_isDone 3 = .ok (.aload_n 0, 1) := by decide +kernel
theorem dX5_isDone_4 : decode cX5_isDone 4 = .ok (.getfield 7, 3) := by decide +kernel
theorem dX5_isDone_7 : decode cX5_isDone 7 = .ok (.iconst 2, 1) := by decide +kernel
theorem dX5_isDone_8 : decode cX5_isDone 8 = .ok (.iaload, 1) := by decide +kernel
theorem dX5_isDone_9 : decode cX5_isDone 9 = .ok (.imul, 1) := by decide +kernel
theorem dX5_isDone_10 : decode cX5_isDone 10 = .ok (.iadd, 1) := by decide +kernel
theorem dX5_isDone_11 : decode cX5_isDone 11 = .ok (.istore 4, 2) := by decide +kernel
theorem dX5_isDone_13 : decode cX5_isDone 13 = .ok (.aload_n 0, 1) := by decide +kernel
theorem dX5_isDone_14 : decode cX5_isDone 14 = .ok (.getfield 7, 3) := by decide +kernel
theorem dX5_isDone_17 : decode cX5_isDone 17 = .ok (.iload 4, 2) := by decide +kernel
theorem dX5_isDone_19 : decode cX5_isDone 19 = .ok (.iload_n 1, 1) := by decide +kernel
theorem dX5_isDone_20 : decode cX5_isDone 20 = .ok (.iastore, 1) := by decide +kernel
theorem dX5_isDone_21 : decode cX5_isDone 21 = .ok (.aload_n 0, 1) := by decide +kernel
theorem dX5_isDone_22 : decode cX5_isDone 22 = .ok (.getfield 7, 3) := by decide +kernel
theorem dX5_isDone_25 : decode cX5_isDone 25 = .ok (.iload 4, 2) := by decide +kernel
theorem dX5_isDone_27 : decode cX5_isDone 27 = .ok (.iconst 1, 1) := by decide +kernel
theorem dX5_isDone_28 : decode cX5_isDone 28 = .ok (.iadd, 1) := by decide +kernel
theorem dX5_isDone_29 : decode cX5_isDone 29 = .ok (.iload_n 2, 1) := by decide +kernel
theorem dX5_isDone_30 : decode cX5_isDone 30 = .ok (.iastore, 1) := by decide +kernel
theorem dX5_isDone_31 : decode cX5_isDone 31 = .ok (.aload_n 0, 1) := by decide +kernel
theorem dX5_isDone_32 : decode cX5_isDone 32 = .ok (.getfield 7, 3) := by decide +kernel
theorem dX5_isDone_35 : decode cX5_isDone 35 = .ok (.iload 4, 2) := by decide +kernel
theorem dX5_isDone_37 : decode cX5_isDone 37 = .ok (.iconst 2, 1) := by decide +kernel
theorem dX5_isDone_38 : decode cX5_isDone 38 = .ok (.iadd, 1) := by decide +kernel
theorem dX5_isDone_39 : decode cX5_isDone 39 = .ok (.iload_n 3, 1) := by decide +kernel
theorem dX5_isDone_40 : decode cX5_isDone 40 = .ok (.iastore, 1) := by decide +kernel
theorem dX5_isDone_41 : decode cX5_isDone 41 = .ok (.aload_n 0, 1) := by decide +kernel
theorem dX5_isDone_42 : decode cX5_isDone 42 = .ok (.getfield 7, 3) := by decide +kernel
theorem dX5_isDone_45 : decode cX5_isDone 45 = .ok (.iload 4, 2) := by decide +kernel
theorem dX5_isDone_47 : decode cX5_isDone 47 = .ok (.iconst 3, 1) := by decide +kernel
theorem dX5_isDone_48 : decode cX5_isDone 48 = .ok (.iadd, 1) := by decide +kernel
theorem dX5_isDone_49 : decode cX5_isDone 49 = .ok (.aload_n 0, 1) := by decide +kernel
theorem dX5_isDone_50 : decode cX5_isDone 50 = .ok (.getfield 7, 3) := by decide +kernel
theorem dX5_isDone_53 : decode cX5_isDone 53 = .ok (.iconst 3, 1) := by decide +kernel
theorem dX5_isDone_54 : decode cX5_isDone 54 = .ok (.iaload, 1) := by decide +kernel
theorem dX5_isDone_55 : decode cX5_isDone 55 = .ok (.iastore, 1) := by decide +kernel
theorem dX5_isDone_56 : decode cX5_isDone 56 = .ok (.aload_n 0, 1) := by decide +kernel
theorem dX5_isDone_57 : decode cX5_isDone 57 = .ok (.getfield 7, 3) := by decide +kernel
theorem dX5_isDone_60 : decode cX5_isDone 60 = .ok (.iconst 2, 1) := by decide +kernel
theorem dX5_isDone_61 : decode cX5_isDone 61 = .ok (.dup2, 1) := by decide +kernel
theorem dX5_isDone_62 : decode cX5_isDone 62 = .ok (.iaload, 1) := by decide +kernel
theorem dX5_isDone_63 : decode cX5_isDone 63 = .ok (.iconst 1, 1) := by decide +kernel
theorem dX5_isDone_64 : decode cX5_isDone 64 = .ok (.iadd, 1) := by decide +kernel
theorem dX5_isDone_65 : decode cX5_isDone 65 = .ok (.iastore, 1) := by decide +kernel
theorem dX5_isDone_66 : decode cX5_isDone 66 = .ok (.return_, 1) := by decide +kernel
theorem dX5_does_0 : decode cX5_does 0 = .ok (.aload_n 0, 1) := by decide +kernel
theorem dX5_does_1 : decode cX5_does 1 = .ok (.iload_n 1, 1) := by decide +kernel
theorem dX5_does_2 : decode cX5_does 2 = .ok (.invokevirtual 93, 3) := by decide +kernel
theorem dX5_does_5 : decode cX5_does 5 = .ok (.ifCond .eq 27, 3) := by decide +kernel
theorem dX5_does_8 : decode cX5_does 8 = .ok (.iload_n 2, 1) := by decide +kernel
theorem dX5_does_9 : decode cX5_does 9 = .ok (.i2l, 1) := by decide +kernel
theorem dX5_does_10 : decode cX5_does 10 = .ok (.lconst 0, 1) := by decide +kernel
theorem dX5_does_11 : decode cX5_does 11 = .ok (.ldc2_w 116, 3) := by decide +kernel
theorem dX5_does_14 : decode cX5_does 14 = .ok (.invokestatic 41, 3) := by decide +kernel
theorem dX5_does_17 : decode cX5_does 17 = .ok (.ifCond .eq 15, 3) := by decide +kernel
theorem dX5_does_20 : decode cX5_does 20 = .ok (.iload_n 3, 1) := by decide +kernel
theorem dX5_does_21 : decode cX5_does 21 = .ok (.i2l, 1) := by decide +kernel
theorem dX5_does_22 : decode cX5_does 22 = .ok (.lconst 1, 1) := by decide +kernel
theorem dX5_does_23 : decode cX5_does 23 = .ok (.ldc2_w 105, 3) := by decide +kernel
theorem dX5_does_26 : decode cX5_does 26 = .ok (.invokestatic 41, 3) := by decide +kernel
theorem dX5_does_29 : decode cX5_does 29 = .ok (.ifCond .ne 5, 3) := by decide +kernel
theorem dX5_does_32 : decode cX5_does 32 = .ok (.iconst (-1), 1) := by decide +kernel
theorem dX5_does_33 : decode cX5_does 33 = .ok (.ireturn, 1) := by decide +kernel
theorem dX5_does_34 : decode cX5_does 34 = .ok (.aload_n 0, 1) := by decide +kernel
theorem dX5_does_35 : decode cX5_does 35 = .ok (.getfield 7, 3) := by decide +kernel
theorem dX5_does_38 : decode cX5_does 38 = .ok (.iconst 2, 1) := by decide +kernel
theorem dX5_does_39 : decode cX5_does 39 = .ok (.iaload, 1) := by decide +kernel
theorem dX5_does_40 : decode cX5_does 40 = .ok (.bipush 10, 2) := by decide +kernel
theorem dX5_does_42 : decode cX5_does 42 = .ok (.if_icmp .ne 6, 3) := by decide +kernel
theorem dX5_does_45 : decode cX5_does 45 = .ok (.bipush (-3), 2) := by decide +kernel
theorem dX5_does_47 : decode cX5_does 47 = .ok (.ireturn, 1) := by decide +kernel
theorem dX5_does_48 : decode cX5_does 48 = .ok (.aload_n 0, 1) := by decide +kernel
theorem dX5_does_49 : decode cX5_does 49 = .ok (.invokevirtual 170, 3) := by decide +kernel
theorem dX5_does_52 : decode cX5_does 52 = .ok (.aload_n 0, 1) := by decide +kernel
theorem dX5_does_53 : decode cX5_does 53 = .ok (.iload_n 1, 1) := by decide +kernel
theorem dX5_does_54 : decode cX5_does 54 = .ok (.iload_n 2, 1) := by decide +kernel
theorem dX5_does_55 : decode cX5_does 55 = .ok (.iload_n 3, 1) := by decide +kernel
theorem dX5_does_56 : decode cX5_does 56 = .ok (.invokevirtual 173, 3) := by decide +kernel
theorem dX5_does_59 : decode cX5_does 59 = .ok (.aload_n 0, 1) := by decide +kernel
theorem dX5_does_60 : decode cX5_does 60 = .ok (.getfield 7, 3) := by decide +kernel
theorem dX5_does_63 : decode cX5_does 63 = .ok (.iconst 2, 1) := by decide +kernel
theorem dX5_does_64 : decode cX5_does 64 = .ok (.iaload, 1) := by decide +kernel
theorem dX5_does_65 : decode cX5_does 65 = .ok (.iconst 1, 1) := by decide +kernel
theorem dX5_does_66 : decode cX5_does 66 = .ok (.isub, 1) := by decide +kernel
theorem dX5_does_67 : decode cX5_does 67 = .ok (.ireturn, 1) := by decide +kernel
theorem dX5_mend_0 : decode cX5_mend 0 = .ok (.aload_n 0, 1) := by decide +kernel
theorem dX5_mend_1 : decode cX5_mend 1 = .ok (.iload_n 1, 1) := by decide +kernel
theorem dX5_mend_2 : decode cX5_mend 2 = .ok (.invokevirtual 113, 3) := by decide +kernel
theorem dX5_mend_5 : decode cX5_mend 5 = .ok (.ifCond .ne 5, 3) := by decide +kernel
theorem dX5_mend_8 : decode cX5_mend 8 = .ok (.iconst (-1), 1) := by decide +kernel
theorem dX5_mend_9 : decode cX5_mend 9 = .ok (.ireturn, 1) := by decide +kernel
theorem dX5_mend_10 : decode cX5_mend 10 = .ok (.aload_n 0, 1) := by decide +kernel
theorem dX5_mend_11 : decode cX5_mend 11 = .ok (.getfield 7, 3) := by decide +kernel
theorem dX5_mend_14 : decode cX5_mend 14 = .ok (.bipush 6, 2) := by decide +kernel
theorem dX5_mend_16 : decode cX5_mend 16 = .ok (.iaload, 1) := by decide +kernel
theorem dX5_mend_17 : decode cX5_mend 17 = .ok (.iload_n 1, 1) := by decide +kernel
theorem dX5_mend_18 : decode cX5_mend 18 = .ok (.ishr, 1) := by decide +kernel
theorem dX5_mend_19 : decode cX5_mend 19 = .ok (.iconst 1, 1) := by decide +kernel
theorem dX5_mend_20 : decode cX5_mend 20 = .ok (.iand, 1) := by decide +kernel
theorem dX5_mend_21 : decode cX5_mend 21 = .ok (.iconst 1, 1) := by decide +kernel
theorem dX5_mend_22 : decode cX5_mend 22 = .ok (.if_icmp .ne 6, 3) := by decide +kernel
theorem dX5_mend_25 : decode cX5_mend 25 = .ok (.bipush (-2), 2) := by decide +kernel
theorem dX5_mend_27 : decode cX5_mend 27 = .ok (.ireturn, 1) := by decide +kernel
theorem dX5_mend_28 : decode cX5_mend 28 = .ok (.aload_n 0, 1) := by decide +kernel
theorem dX5_mend_29 : decode cX5_mend 29 = .ok (.invokevirtual 170, 3) := by decide +kernel
theorem dX5_mend_32 : decode cX5_mend 32 = .ok (.aload_n 0, 1) := by decide +kernel
theorem dX5_mend_33 : decode cX5_mend 33 = .ok (.getfield 7, 3) := by decide +kernel
theorem dX5_mend_36 : decode cX5_mend 36 = .ok (.bipush 6, 2) := by decide +kernel
theorem dX5_mend_38 : decode cX5_mend 38 = .ok (.dup2, 1) := by decide +kernel
theorem dX5_mend_39 : decode cX5_mend 39 = .ok (.iaload, 1) := by decide +kernel
theorem dX5_mend_40 : decode cX5_mend 40 = .ok (.iconst 1, 1) := by decide +kernel
theorem dX5_mend_41 : decode cX5_mend 41 = .ok (.iload_n 1, 1) := by decide +kernel
theorem dX5_mend_42 : decode cX5_mend 42 = .ok (.ishl, 1) := by decide +kernel
theorem dX5_mend_43 : decode cX5_mend 43 = .ok (.ior, 1) := by decide +kernel
theorem dX5_mend_44 : decode cX5_mend 44 = .ok (.iastore, 1) := by decide +kernel
theorem dX5_mend_45 : decode cX5_mend 45 = .ok (.aload_n 0, 1) := by decide +kernel
theorem dX5_mend_46 : decode cX5_mend 46 = .ok (.iload_n 1, 1) := by decide +kernel
theorem dX5_mend_47 : decode cX5_mend 47 = .ok (.aload_n 0, 1) := by decide +kernel
theorem dX5_mend_48 : decode cX5_mend 48 = .ok (.getfield 7, 3) := by decide +kernel
theorem dX5_mend_51 : decode cX5_mend 51 = .ok (.iconst 3, 1) := by decide +kernel
theorem dX5_mend_52 : decode cX5_mend 52 = .ok (.iaload, 1) := by decide +kernel
theorem dX5_mend_53 : decode cX5_mend 53 = .ok (.aload_n 0, 1) := by decide +kernel
theorem dX5_mend_54 : decode cX5_mend 54 = .ok (.getfield 7, 3) := by decide +kernel
theorem dX5_mend_57 : decode cX5_mend 57 = .ok (.bipush 6, 2) := by decide +kernel
theorem dX5_mend_59 : decode cX5_mend 59 = .ok (.iaload, 1) := by decide +kernel
theorem dX5_mend_60 : decode cX5_mend 60 = .ok (.invokevirtual 62, 3) := by decide +kernel
theorem dX5_mend_63 : decode cX5_mend 63 = .ok (.ireturn, 1) := by decide +kernel
theorem dX5_days_0 : decode cX5_days 0 = .ok (.iload_n 1, 1) := by decide +kernel
theorem dX5_days_1 : decode cX5_days 1 = .ok (.i2l, 1) := by decide +kernel
theorem dX5_days_2 : decode cX5_days 2 = .ok (.lconst 1, 1) := by decide +kernel
theorem dX5_days_3 : decode cX5_days 3 = .ok (.ldc2_w 87, 3) := by decide +kernel
theorem dX5_days_6 : decode cX5_days 6 = .ok (.invokestatic 41, 3) := by decide +kernel
theorem dX5_days_9 : decode cX5_days 9 = .ok (.ifCond .ne 5, 3) := by decide +kernel
theorem dX5_days_12 : decode cX5_days 12 = .ok (.iconst (-1), 1) := by decide +kernel
theorem dX5_days_13 : decode cX5_days 13 = .ok (.ireturn, 1) := by decide +kernel
theorem dX5_days_14 : decode cX5_days 14 = .ok (.aload_n 0, 1) := by decide +kernel
theorem dX5_days_15 : decode cX5_days 15 = .ok (.getfield 7, 3) := by decide +kernel
theorem dX5_days_18 : decode cX5_days 18 = .ok (.iconst 3, 1) := by decide +kernel
theorem dX5_days_19 : decode cX5_days 19 = .ok (.iaload, 1) := by decide +kernel
theorem dX5_days_20 : decode cX5_days 20 = .ok (.iload_n 1, 1) := by decide +kernel
theorem dX5_days_21 : decode cX5_days 21 = .ok (.iadd, 1) := by decide +kernel
theorem dX5_days_22 : decode cX5_days 22 = .ok (.sipush 9999, 3) := by decide +kernel
theorem dX5_days_25 : decode cX5_days 25 = .ok (.if_icmp .le 6, 3) := by decide +kernel
theorem dX5_days_28 : decode cX5_days 28 = .ok (.bipush (-3), 2) := by decide +kernel
theorem dX5_days_30 : decode cX5_days 30 = .ok (.ireturn, 1) := by decide +kernel
theorem dX5_days_31 : decode cX5_days 31 = .ok (.iconst 0, 1) := by decide +kernel
theorem dX5_days_32 : decode cX5_days 32 = .ok (.istore_n 2, 1) := by decide +kernel
theorem dX5_days_33 : decode cX5_days 33 = .ok (.iload_n 2, 1) := by decide +kernel
theorem dX5_days_34 : decode cX5_days 34 = .ok (.iload_n 1, 1) := by decide +kernel
theorem dX5_days_35 : decode cX5_days 35 = .ok (.if_icmp .ge 23, 3) := by decide +kernel
theorem dX5_days_38 : decode cX5_days 38 = .ok (.aload_n 0, 1) := by decide +kernel
theorem dX5_days_39 : decode cX5_days 39 = .ok (.invokevirtual 170, 3) := by decide +kernel
theorem dX5_days_42 : decode cX5_days 42 = .ok (.aload_n 0, 1) := by decide +kernel
theorem dX5_days_43 : decode cX5_days 43 = .ok (.getfield 7, 3) := by decide +kernel
theorem dX5_days_46 : decode cX5_days 46 = .ok (.iconst 3, 1) := by decide +kernel
theorem dX5_days_47 : decode cX5_days 47 = .ok (.dup2, 1) := by decide +kernel
theorem dX5_days_48 : decode cX5_days 48 = .ok (.iaload, 1) := by decide +kernel
theorem dX5_days_49 : decode cX5_days 49 = .ok (.iconst 1, 1) := by decide +kernel
theorem dX5_days_50 : decode cX5_days 50 = .ok (.iadd, 1) := by decide +kernel
theorem dX5_days_51 : decode cX5_days 51 = .ok (.iastore, 1) := by decide +kernel
theorem dX5_days_52 : decode cX5_days 52 = .ok (.iinc 2 1, 3) := by decide +kernel
theorem dX5_days_55 : decode cX5_days 55 = .ok (.goto (-22), 3) := by decide +kernel
theorem dX5_days_58 : decode cX5_days 58 = .ok (.aload_n 0, 1) := by decide +kernel
theorem dX5_days_59 : decode cX5_days 59 = .ok (.invokevirtual 128, 3) := by decide +kernel
theorem dX5_days_62 : decode cX5_days 62 = .ok (.ireturn, 1) := by decide +kernel
theorem dX5_drift_0 : decode cX5_drift 0 = .ok (.iload_n 1, 1) := by decide +kernel
theorem dX5_drift_1 : decode cX5_drift 1 = .ok (.i2l, 1) := by decide +kernel
theorem dX5_drift_2 : decode cX5_drift 2 = .ok (.lconst 1, 1) := by decide +kernel
theorem dX5_drift_3 : decode cX5_drift 3 = .ok (.ldc2_w 87, 3) := by decide +kernel
theorem dX5_drift_6 : decode cX5_drift 6 = .ok (.invokestatic 41, 3) := by decide +kernel
theorem dX5_drift_9 : decode cX5_drift 9 = .ok (.ifCond .ne 5, 3) := by decide +kernel
theorem dX5_drift_12 : decode cX5_drift 12 = .ok (.iconst (-1), 1) := by decide +kernel
theorem dX5_drift_13 : decode cX5_drift 13 = .ok (.ireturn, 1) := by decide +kernel
theorem dX5_drift_14 : decode cX5_drift 14 = .ok (.aload_n 0, 1) := by decide +kernel
theorem dX5_drift_15 : decode cX5_drift 15 = .ok (.getfield 7, 3) := by decide +kernel
theorem dX5_drift_18 : decode cX5_drift 18 = .ok (.iconst 3, 1) := by decide +kernel
theorem dX5_drift_19 : decode cX5_drift 19 = .ok (.iaload, 1) := by decide +kernel
theorem dX5_drift_20 : decode cX5_drift 20 = .ok (.iload_n 1, 1) := by decide +kernel
theorem dX5_drift_21 : decode cX5_drift 21 = .ok (.iadd, 1) := by decide +kernel
theorem dX5_drift_22 : decode cX5_drift 22 = .ok (.sipush 9999, 3) := by decide +kernel
theorem dX5_drift_25 : decode cX5_drift 25 = .ok (.if_icmp .le 6, 3) := by decide +kernel
theorem dX5_drift_28 : decode cX5_drift 28 = .ok (.bipush (-3), 2) := by decide +kernel
theorem dX5_drift_30 : decode cX5_drift 30 = .ok (.ireturn, 1) := by decide +kernel
theorem dX5_drift_31 : decode cX5_drift 31 = .ok (.iconst 0, 1) := by decide +kernel
theorem dX5_drift_32 : decode cX5_drift 32 = .ok (.istore_n 2, 1) := by decide +kernel
theorem dX5_drift_33 : decode cX5_drift 33 = .ok (.iconst 0, 1) := by decide +kernel
theorem dX5_drift_34 : decode cX5_drift 34 = .ok (.istore_n 3, 1) := by decide +kernel
theorem dX5_drift_35 : decode cX5_drift 35 = .ok (.iload_n 3, 1) := by decide +kernel
theorem dX5_drift_36 : decode cX5_drift 36 = .ok (.iload_n 1, 1) := by decide +kernel
theorem dX5_drift_37 : decode cX5_drift 37 = .ok (.if_icmp .ge 136, 3) := by decide +kernel
theorem dX5_drift_40 : decode cX5_drift 40 = .ok (.aload_n 0, 1) := by decide +kernel
theorem dX5_drift_41 : decode cX5_drift 41 = .ok (.invokevirtual 170, 3) := by decide +kernel
theorem dX5_drift_44 : decode cX5_drift 44 = .ok (.aload_n 0, 1) := by decide +kernel
theorem dX5_drift_45 : decode cX5_drift 45 = .ok (.getfield 7, 3) := by decide +kernel
theorem dX5_drift_48 : decode cX5_drift 48 = .ok (.bipush 7, 2) := by decide +kernel
theorem dX5_drift_50 : decode cX5_drift 50 = .ok (.aload_n 0, 1) := by decide +kernel
theorem dX5_drift_51 : decode cX5_drift 51 = .ok (.getfield 7, 3) := by decide +kernel
theorem dX5_drift_54 : decode cX5_drift 54 = .ok (.bipush 7, 2) := by decide +kernel
theorem dX5_drift_56 : decode cX5_drift 56 = .ok (.iaload, 1) := by decide +kernel
theorem dX5_drift_57 : decode cX5_drift 57 = .ok (.i2l, 1) := by decide +kernel
theorem dX5_drift_58 : decode cX5_drift 58 = .ok (.ldc2_w 176, 3) := by decide +kernel
theorem dX5_drift_61 : decode cX5_drift 61 = .ok (.lmul, 1) := by decide +kernel
theorem dX5_drift_62 : decode cX5_drift 62 = .ok (.ldc2_w 178, 3) := by decide +kernel
theorem dX5_drift_65 : decode cX5_drift 65 = .ok (.ladd, 1) := by decide +kernel
theorem dX5_drift_66 : decode cX5_drift 66 = .ok (.ldc2_w 180, 3) := by decide +kernel
theorem dX5_drift_69 : decode cX5_drift 69 = .ok (.land, 1) := by decide +kernel
theorem dX5_drift_70 : decode cX5_drift 70 = .ok (.l2i, 1) := by decide +kernel
theorem dX5_drift_71 : decode cX5_drift 71 = .ok (.iastore, 1) := by decide +kernel
theorem dX5_drift_72 : decode cX5_drift 72 = .ok (.aload_n 0, 1) := by decide +kernel
theorem dX5_drift_73 : decode cX5_drift 73 = .ok (.getfield 7, 3) := by decide +kernel
theorem dX5_drift_76 : decode cX5_drift 76 = .ok (.bipush 7, 2) := by decide +kernel
theorem dX5_drift_78 : decode cX5_drift 78 = .ok (.iaload, 1) := by decide +kernel
theorem dX5_drift_79 : decode cX5_drift 79 = .ok (.ldc 182, 2) := by decide +kernel
theorem dX5_drift_81 : decode cX5_drift 81 = .ok (.idiv, 1) := by decide +kernel
theorem dX5_drift_82 : decode cX5_drift 82 = .ok (.istore 4, 2) := by decide +kernel
theorem dX5_drift_84 : decode cX5_drift 84 = .ok (.iload 4, 2) := by decide +kernel
theorem dX5_drift_86 : decode cX5_drift 86 = .ok (.iconst 3, 1) := by decide +kernel
theorem dX5_drift_87 : decode cX5_drift 87 = .ok (.irem, 1) := by decide +kernel
theorem dX5_drift_88 : decode cX5_drift 88 = .ok (.ifCond .ne 69, 3) := by decide +kernel
theorem dX5_drift_91 : decode cX5_drift 91 = .ok (.aload_n 0, 1) := by decide +kernel
theorem dX5_drift_92 : decode cX5_drift 92 = .ok (.getfield 7, 3) := by decide +kernel
theorem dX5_drift_95 : decode cX5_drift 95 = .ok (.iconst 2, 1) := by decide +kernel
theorem dX5_drift_96 : decode cX5_drift 96 = .ok (.iaload, 1) := by decide +kernel
theorem dX5_drift_97 : decode cX5_drift 97 = .ok (.bipush 10, 2) := by decide +kernel
theorem dX5_drift_99 : decode cX5_drift 99 = .ok (.if_icmp .ge 58, 3) := by decide +kernel
theorem dX5_drift_102 : decode cX5_drift 102 = .ok (.aload_n 0, 1) := by decide +kernel
theorem dX5_drift_103 : decode cX5_drift 103 = .ok (.getfield 7, 3) := by decide +kernel
theorem dX5_drift_106 : decode cX5_drift 106 = .ok (.iconst 0, 1) := by decide +kernel
theorem dX5_drift_107 : decode cX5_drift 107 = .ok (.iaload, 1) := by decide +kernel
theorem dX5_drift_108 : decode cX5_drift 108 = .ok (.ifCond .le 49, 3) := by decide +kernel
theorem dX5_drift_111 : decode cX5_drift 111 = .ok (.aload_n 0, 1) := by decide +kernel
theorem dX5_drift_112 : decode cX5_drift 112 = .ok (.iload 4, 2) := by decide +kernel
theorem dX5_drift_114 : decode cX5_drift 114 = .ok (.aload_n 0, 1) := by decide +kernel
theorem dX5_drift_115 : decode cX5_drift 115 = .ok (.getfield 7, 3) := by decide +kernel
theorem dX5_drift_118 : decode cX5_drift 118 = .ok (.iconst 0, 1) := by decide +kernel
theorem dX5_drift_119 : decode cX5_drift 119 = .ok (.iaload, 1) := by decide +kernel
theorem dX5_drift_120 : decode cX5_drift 120 = .ok (.irem, 1) := by decide +kernel
theorem dX5_drift_121 : decode cX5_drift 121 = .ok (.aload_n 0, 1) := by decide +kernel
theorem dX5_drift_122 : decode cX5_drift 122 = .ok (.getfield 7, 3) := by decide +kernel
theorem dX5_drift_125 : decode cX5_drift 125 = .ok (.bipush 7, 2) := by decide +kernel
theorem dX5_drift_127 : decode cX5_drift 127 = .ok (.iaload, 1) := by decide +kernel
theorem dX5_drift_128 : decode cX5_drift 128 = .ok (.sipush 128, 3) := by decide +kernel
theorem dX5_drift_131 : decode cX5_drift 131 = .ok (.idiv, 1) := by decide +kernel
theorem dX5_drift_132 : decode cX5_drift 132 = .ok (.bipush 6, 2) := by decide +kernel
theorem dX5_drift_134 : decode cX5_drift 134 = .ok (.irem, 1) := by decide +kernel
theorem dX5_drift_135 : decode cX5_drift 135 = .ok (.iconst 1, 1) := by decide +kernel
theorem dX5_drift_136 : decode cX5_drift 136 = .ok (.aload_n 0, 1) := by decide +kernel
theorem dX5_drift_137 : decode cX5_drift 137 = .ok (.getfield 7, 3) := by decide +kernel
theorem dX5_drift_140 : decode cX5_drift 140 = .ok (.bipush 7, 2) := by decide +kernel
theorem dX5_drift_142 : decode cX5_drift 142 = .ok (.iaload, 1) := by decide +kernel
theorem dX5_drift_143 : decode cX5_drift 143 = .ok (.sipush 1024, 3) := by decide +kernel
theorem dX5_drift_146 : decode cX5_drift 146 = .ok (.idiv, 1) := by decide +kernel
theorem dX5_drift_147 : decode cX5_drift 147 = .ok (.bipush 9, 2) := by decide +kernel
theorem dX5_drift_149 : decode cX5_drift 149 = .ok (.irem, 1) := by decide +kernel
theorem dX5_drift_150 : decode cX5_drift 150 = .ok (.iadd, 1) := by decide +kernel
theorem dX5_drift_151 : decode cX5_drift 151 = .ok (.invokevirtual 173, 3) := by decide +kernel
theorem dX5_drift_154 : decode cX5_drift 154 = .ok (.iinc 2 1, 3) := by decide +kernel
theorem dX5_drift_157 : decode cX5_drift 157 = .ok (.aload_n 0, 1) := by decide +kernel
theorem dX5_drift_158 : decode cX5_drift 158 = .ok (.getfield 7, 3) := by decide +kernel
theorem dX5_drift_161 : decode cX5_drift 161 = .ok (.iconst 3, 1) := by decide +kernel
theorem dX5_drift_162 : decode cX5_drift 162 = .ok (.dup2, 1) := by decide +kernel
theorem dX5_drift_163 : decode cX5_drift 163 = .ok (.iaload, 1) := by decide +kernel
theorem dX5_drift_164 : decode cX5_drift 164 = .ok (.iconst 1, 1) := by decide +kernel
theorem dX5_drift_165 : decode cX5_drift 165 = .ok (.iadd, 1) := by decide +kernel
theorem dX5_drift_166 : decode cX5_drift 166 = .ok (.iastore, 1) := by decide +kernel
theorem dX5_drift_167 : decode cX5_drift 167 = .ok (.iinc 3 1, 3) := by decide +kernel
theorem dX5_drift_170 : decode cX5_drift 170 = .ok (.goto (-135), 3) := by decide +kernel
theorem dX5_drift_173 : decode cX5_drift 173 = .ok (.iload_n 2, 1) := by decide +kernel
theorem dX5_drift_174 : decode cX5_drift 174 = .ok (.ireturn, 1) := by decide +kernel
theorem dX5_undo_0 : decode cX5_undo 0 = .ok (.aload_n 0, 1) := by decide +kernel
theorem dX5_undo_1 : decode cX5_undo 1 = .ok (.getfield 89, 3) := by decide +kernel
theorem dX5_undo_4 : decode cX5_undo 4 = .ok (.ifCond .ne 6, 3) := by decide +kernel
theorem dX5_undo_7 : decode cX5_undo 7 = .ok (.bipush (-4), 2) := by decide +kernel
theorem dX5_undo_9 : decode cX5_undo 9 = .ok (.ireturn, 1) := by decide +kernel
theorem dX5_undo_10 : decode cX5_undo 10 = .ok (.aload_n 0, 1) := by decide +kernel
theorem dX5_undo_11 : decode cX5_undo 11 = .ok (.dup, 1) := by decide +kernel
theorem dX5_undo_12 : decode cX5_undo 12 = .ok (.getfield 89, 3) := by decide +kernel
theorem dX5_undo_15 : decode cX5_undo 15 = .ok (.iconst 1, 1) := by decide +kernel
theorem dX5_undo_16 : decode cX5_undo 16 = .ok (.isub, 1) := by decide +kernel
theorem dX5_undo_17 : decode cX5_undo 17 = .ok (.putfield 89, 3) := by decide +kernel
theorem dX5_undo_20 : decode cX5_undo 20 = .ok (.bipush 44, 2) := by decide +kernel
theorem dX5_undo_22 : decode cX5_undo 22 = .ok (.aload_n 0, 1) := by decide +kernel
theorem dX5_undo_23 : decode cX5_undo 23 = .ok (.getfield 89, 3) := by decide +kernel
theorem dX5_undo_26 : decode cX5_undo 26 = .ok (.imul, 1) := by decide +kernel
theorem dX5_undo_27 : decode cX5_undo 27 = .ok (.istore_n 1, 1) := by decide +kernel
theorem dX5_undo_28 : decode cX5_undo 28 = .ok (.aload_n 0, 1) := by decide +kernel
theorem dX5_undo_29 : decode cX5_undo 29 = .ok (.getfield 7, 3) := by decide +kernel
theorem dX5_undo_32 : decode cX5_undo 32 = .ok (.iconst 2, 1) := by decide +kernel
theorem dX5_undo_33 : decode cX5_undo 33 = .ok (.aload_n 0, 1) := by decide +kernel
theorem dX5_undo_34 : decode cX5_undo 34 = .ok (.getfield 19, 3) := by decide +kernel
theorem dX5_undo_37 : decode cX5_undo 37 = .ok (.iload_n 1, 1) := by decide +kernel
theorem dX5_undo_38 : decode cX5_undo 38 = .ok (.iaload, 1) := by decide +kernel
theorem dX5_undo_39 : decode cX5_undo 39 = .ok (.iastore, 1) := by decide +kernel
theorem dX5_undo_40 : decode cX5_undo 40 = .ok (.aload_n 0, 1) := by decide +kernel
theorem dX5_undo_41 : decode cX5_undo 41 = .ok (.getfield 7, 3) := by decide +kernel
theorem dX5_undo_44 : decode cX5_undo 44 = .ok (.iconst 3, 1) := by decide +kernel
theorem dX5_undo_45 : decode cX5_undo 45 = .ok (.aload_n 0, 1) := by decide +kernel
theorem dX5_undo_46 : decode cX5_undo 46 = .ok (.getfield 19, 3) := by decide +kernel
theorem dX5_undo_49 : decode cX5_undo 49 = .ok (.iload_n 1, 1) := by decide +kernel
theorem dX5_undo_50 : decode cX5_undo 50 = .ok (.iconst 1, 1) := by decide +kernel
theorem dX5_undo_51 : decode cX5_undo 51 = .ok (.iadd, 1) := by decide +kernel
theorem dX5_undo_52 : decode cX5_undo 52 = .ok (.iaload, 1) := by decide +kernel
theorem dX5_undo_53 : decode cX5_undo 53 = .ok (.iastore, 1) := by decide +kernel
theorem dX5_undo_54 : decode cX5_undo 54 = .ok (.aload_n 0, 1) := by decide +kernel
theorem dX5_undo_55 : decode cX5_undo 55 = .ok (.getfield 7, 3) := by decide +kernel
theorem dX5_undo_58 : decode cX5_undo 58 = .ok (.bipush 6, 2) := by decide +kernel
theorem dX5_undo_60 : decode cX5_undo 60 = .ok (.aload_n 0, 1) := by decide +kernel
theorem dX5_undo_61 : decode cX5_undo 61 = .ok (.getfield 19, 3) := by decide +kernel
theorem dX5_undo_64 : decode cX5_undo 64 = .ok (.iload_n 1, 1) := by decide +kernel
theorem dX5_undo_65 : decode cX5_undo 65 = .ok (.iconst 2, 1) := by decide +kernel
theorem dX5_undo_66 : decode cX5_undo 66 = .ok (.iadd, 1) := by decide +kernel
theorem dX5_undo_67 : decode cX5_undo 67 = .ok (.iaload, 1) := by decide +kernel
theorem dX5_undo_68 : decode cX5_undo 68 = .ok (.iastore, 1) := by decide +kernel
theorem dX5_undo_69 : decode cX5_undo 69 = .ok (.aload_n 0, 1) := by decide +kernel
theorem dX5_undo_70 : decode cX5_undo 70 = .ok (.getfield 7, 3) := by decide +kernel
theorem dX5_undo_73 : decode cX5_undo 73 = .ok (.bipush 7, 2) := by decide +kernel
theorem dX5_undo_75 : decode cX5_undo 75 = .ok (.aload_n 0, 1) := by decide +kernel
theorem dX5_undo_76 : decode cX5_undo 76 = .ok (.getfield 19, 3) := by decide +kernel
theorem dX5_undo_79 : decode cX5_undo 79 = .ok (.iload_n 1, 1) := by decide +kernel
theorem dX5_undo_80 : decode cX5_undo 80 = .ok (.iconst 3, 1) := by decide +kernel
theorem dX5_undo_81 : decode cX5_undo 81 = .ok (.iadd, 1) := by decide +kernel
theorem dX5_undo_82 : decode cX5_undo 82 = .ok (.iaload, 1) := by decide +kernel
theorem dX5_undo_83 : decode cX5_undo 83 = .ok (.iastore, 1) := by decide +kernel
theorem dX5_undo_84 : decode cX5_undo 84 = .ok (.iconst 0, 1) := by decide +kernel
theorem dX5_undo_85 : decode cX5_undo 85 = .ok (.istore_n 2, 1) := by decide +kernel
theorem dX5_undo_86 : decode cX5_undo 86 = .ok (.iload_n 2, 1) := by decide +kernel
theorem dX5_undo_87 : decode cX5_undo 87 = .ok (.bipush 40, 2) := by decide +kernel
theorem dX5_undo_89 : decode cX5_undo 89 = .ok (.if_icmp .ge 28, 3) := by decide +kernel
theorem dX5_undo_92 : decode cX5_undo 92 = .ok (.aload_n 0, 1) := by decide +kernel
theorem dX5_undo_93 : decode cX5_undo 93 = .ok (.getfield 7, 3) := by decide +kernel
theorem dX5_undo_96 : decode cX5_undo 96 = .ok (.bipush 49, 2) := by decide +kernel
theorem dX5_undo_98 : decode cX5_undo 98 = .ok (.iload_n 2, 1) := by decide +kernel
theorem dX5_undo_99 : decode cX5_undo 99 = .ok (.iadd, 1) := by decide +kernel
theorem dX5_undo_100 : decode cX5_undo 100 = .ok (.aload_n 0, 1) := by decide +kernel
theorem dX5_undo_101 : decode cX5_undo 101 = .ok (.getfield 19, 3) := by decide +kernel
theorem dX5_undo_104 : decode cX5_undo 104 = .ok (.iload_n 1, 1) := by decide +kernel
theorem dX5_undo_105 : decode cX5_undo 105 = .ok (.iconst 4, 1) := by decide +kernel
theorem dX5_undo_106 : decode cX5_undo 106 = .ok (.iadd, 1) := by decide +kernel
theorem dX5_undo_107 : decode cX5_undo 107 = .ok (.iload_n 2, 1) := by decide +kernel
theorem dX5_undo_108 : decode cX5_undo 108 = .ok (.iadd, 1) := by decide +kernel
theorem dX5_undo_109 : decode cX5_undo 109 = .ok (.iaload, 1) := by decide +kernel
theorem dX5_undo_110 : decode cX5_undo 110 = .ok (.iastore, 1) := by decide +kernel
theorem dX5_undo_111 : decode cX5_undo 111 = .ok (.iinc 2 1, 3) := by decide +kernel
theorem dX5_undo_114 : decode cX5_undo 114 = .ok (.goto (-28), 3) := by decide +kernel
theorem dX5_undo_117 : decode cX5_undo 117 = .ok (.aload_n 0, 1) := by decide +kernel
theorem dX5_undo_118 : decode cX5_undo 118 = .ok (.getfield 89, 3) := by decide +kernel
theorem dX5_undo_121 : decode cX5_undo 121 = .ok (.ireturn, 1) := by decide +kernel
theorem dX5_seed_0 : decode cX5_seed 0 = .ok (.iload_n 1, 1) := by decide +kernel
theorem dX5_seed_1 : decode cX5_seed 1 = .ok (.ifCond .ge 5, 3) := by decide +kernel
theorem dX5_seed_4 : decode cX5_seed 4 = .ok (.iconst (-1), 1) := by decide +kernel
theorem dX5_seed_5 : decode cX5_seed 5 = .ok (.ireturn, 1) := by decide +kernel
theorem dX5_seed_6 : decode cX5_seed 6 = .ok (.aload_n 0, 1) := by decide +kernel
theorem dX5_seed_7 : decode cX5_seed 7 = .ok (.getfield 7, 3) := by decide +kernel
theorem dX5_seed_10 : decode cX5_seed 10 = .ok (.bipush 7, 2) := by decide +kernel
theorem dX5_seed_12 : decode cX5_seed 12 = .ok (.iaload, 1) := by decide +kernel
theorem dX5_seed_13 : decode cX5_seed 13 = .ok (.istore_n 2, 1) := by decide +kernel
theorem dX5_seed_14 : decode cX5_seed 14 = .ok (.aload_n 0, 1) := by decide +kernel
theorem dX5_seed_15 : decode cX5_seed 15 = .ok (.getfield 7, 3) := by decide +kernel
theorem dX5_seed_18 : decode cX5_seed 18 = .ok (.bipush 7, 2) := by decide +kernel
theorem dX5_seed_20 : decode cX5_seed 20 = .ok (.iload_n 1, 1) := by decide +kernel
theorem dX5_seed_21 : decode cX5_seed 21 = .ok (.iastore, 1) := by decide +kernel
theorem dX5_seed_22 : decode cX5_seed 22 = .ok (.iload_n 2, 1) := by decide +kernel
theorem dX5_seed_23 : decode cX5_seed 23 = .ok (.ireturn, 1) := by decide +kernel
theorem dX5_ahead_0 : decode cX5_ahead 0 = .ok (.aload_n 0, 1) := by decide +kernel
theorem dX5_ahead_1 : decode cX5_ahead 1 = .ok (.iload_n 1, 1) := by decide +kernel
theorem dX5_ahead_2 : decode cX5_ahead 2 = .ok (.invokevirtual 93, 3) := by decide +kernel
theorem dX5_ahead_5 : decode cX5_ahead 5 = .ok (.ifCond .eq 46, 3) := by decide +kernel
theorem dX5_ahead_8 : decode cX5_ahead 8 = .ok (.iload_n 2, 1) := by decide +kernel
theorem dX5_ahead_9 : decode cX5_ahead 9 = .ok (.invokestatic 97, 3) := by decide +kernel
theorem dX5_ahead_12 : decode cX5_ahead 12 = .ok (.ifCond .eq 39, 3) := by decide +kernel
theorem dX5_ahead_15 : decode cX5_ahead 15 = .ok (.iload_n 3, 1) := by decide +kernel
theorem dX5_ahead_16 : decode cX5_ahead 16 = .ok (.i2l, 1) := by decide +kernel
theorem dX5_ahead_17 : decode cX5_ahead 17 = .ok (.lconst 0, 1) := by decide +kernel
theorem dX5_ahead_18 : decode cX5_ahead 18 = .ok (.ldc2_w 87, 3) := by decide +kernel
theorem dX5_ahead_21 : decode cX5_ahead 21 = .ok (.invokestatic 41, 3) := by decide +kernel
theorem dX5_ahead_24 : decode cX5_ahead 24 = .ok (.ifCond .eq 27, 3) := by decide +kernel
theorem dX5_ahead_27 : decode cX5_ahead 27 = .ok (.aload_n 0, 1) := by decide +kernel
theorem dX5_ahead_28 : decode cX5_ahead 28 = .ok (.iload_n 1, 1) := by decide +kernel
theorem dX5_ahead_29 : decode cX5_ahead 29 = .ok (.iload_n 2, 1) := by decide +kernel
theorem dX5_ahead_30 : decode cX5_ahead 30 = .ok (.aload_n 0, 1) := by decide +kernel
theorem dX5_ahead_31 : decode cX5_ahead 31 = .ok (.getfield 7, 3) := by decide +kernel
theorem dX5_ahead_34 : decode cX5_ahead 34 = .ok (.iconst 3, 1) := by decide +kernel
theorem dX5_ahead_35 : decode cX5_ahead 35 = .ok (.iaload, 1) := by decide +kernel
theorem dX5_ahead_36 : decode cX5_ahead 36 = .ok (.iload_n 3, 1) := by decide +kernel
theorem dX5_ahead_37 : decode cX5_ahead 37 = .ok (.iadd, 1) := by decide +kernel
theorem dX5_ahead_38 : decode cX5_ahead 38 = .ok (.aload_n 0, 1) := by decide +kernel
theorem dX5_ahead_39 : decode cX5_ahead 39 = .ok (.getfield 7, 3) := by decide +kernel
theorem dX5_ahead_42 : decode cX5_ahead 42 = .ok (.bipush 6, 2) := by decide +kernel
theorem dX5_ahead_44 : decode cX5_ahead 44 = .ok (.iaload, 1) := by decide +kernel
theorem dX5_ahead_45 : decode cX5_ahead 45 = .ok (.invokevirtual 70, 3) := by decide +kernel
theorem dX5_ahead_48 : decode cX5_ahead 48 = .ok (.goto 4, 3) := by decide +kernel
theorem dX5_ahead_51 : decode cX5_ahead 51 = .ok (.iconst (-1), 1) := by decide +kernel
theorem dX5_ahead_52 : decode cX5_ahead 52 = .ok (.ireturn, 1) := by decide +kernel
theorem dX5_showsAhead_0 : decode cX5_showsAhead 0 = .ok (.aload_n 0, 1) := by decide +kernel
theorem dX5_showsAhead_1 : decode cX5_showsAhead 1 = .ok (.iload_n 1, 1) := by decide +kernel
theorem dX5_showsAhead_2 : decode cX5_showsAhead 2 = .ok (.invokevirtual 93, 3) := by decide +kernel
theorem dX5_showsAhead_5 : decode cX5_showsAhead 5 = .ok (.ifCond .eq 40, 3) := by decide +kernel
theorem dX5_showsAhead_8 : decode cX5_showsAhead 8 = .ok (.aload_n 0, 1) := by decide +kernel
theorem dX5_showsAhead_9 : decode cX5_showsAhead 9 = .ok (.iload_n 2, 1) := by decide +kernel
theorem dX5_showsAhead_10 : decode cX5_showsAhead 10 = .ok (.invokevirtual 102, 3) := by decide +kernel
theorem dX5_showsAhead_13 : decode cX5_showsAhead 13 = .ok (.ifCond .eq 32, 3) := by decide +kernel
theorem dX5_showsAhead_16 : decode cX5_showsAhead 16 = .ok (.iload_n 3, 1) := by decide +kernel
theorem dX5_showsAhead_17 : decode cX5_showsAhead 17 = .ok (.i2l, 1) := by decide +kernel
theorem dX5_showsAhead_18 : decode cX5_showsAhead 18 = .ok (.lconst 0, 1) := by decide +kernel
theorem dX5_showsAhead_19 : decode cX5_showsAhead 19 = .ok (.ldc2_w 87, 3) := by decide +kernel
theorem dX5_showsAhead_22 : decode cX5_showsAhead 22 = .ok (.invokestatic 41, 3) := by decide +kernel
theorem dX5_showsAhead_25 : decode cX5_showsAhead 25 = .ok (.ifCond .eq 20, 3) := by decide +kernel
theorem dX5_showsAhead_28 : decode cX5_showsAhead 28 = .ok (.aload_n 0, 1) := by decide +kernel
theorem dX5_showsAhead_29 : decode cX5_showsAhead 29 = .ok (.iload_n 1, 1) := by decide +kernel
theorem dX5_showsAhead_30 : decode cX5_showsAhead 30 = .ok (.iload_n 2, 1) := by decide +kernel
theorem dX5_showsAhead_31 : decode cX5_showsAhead 31 = .ok (.aload_n 0, 1) := by decide +kernel
theorem dX5_showsAhead_32 : decode cX5_showsAhead 32 = .ok (.getfield 7, 3) := by decide +kernel
theorem dX5_showsAhead_35 : decode cX5_showsAhead 35 = .ok (.iconst 3, 1) := by decide +kernel
theorem dX5_showsAhead_36 : decode cX5_showsAhead 36 = .ok (.iaload, 1) := by decide +kernel
theorem dX5_showsAhead_37 : decode cX5_showsAhead 37 = .ok (.iload_n 3, 1) := by decide +kernel
theorem dX5_showsAhead_38 : decode cX5_showsAhead 38 = .ok (.iadd, 1) := by decide +kernel
theorem dX5_showsAhead_39 : decode cX5_showsAhead 39 = .ok (.invokevirtual 118, 3) := by decide +kernel
theorem dX5_showsAhead_42 : decode cX5_showsAhead 42 = .ok (.goto 4, 3) := by decide +kernel
theorem dX5_showsAhead_45 : decode cX5_showsAhead 45 = .ok (.iconst (-1), 1) := by decide +kernel
theorem dX5_showsAhead_46 : decode cX5_showsAhead 46 = .ok (.ireturn, 1) := by decide +kernel
theorem dX5_again_0 : decode cX5_again 0 = .ok (.aload_n 0, 1) := by decide +kernel
theorem dX5_again_1 : decode cX5_again 1 = .ok (.iload_n 1, 1) := by decide +kernel
theorem dX5_again_2 : decode cX5_again 2 = .ok (.invokevirtual 93, 3) := by decide +kernel
theorem dX5_again_5 : decode cX5_again 5 = .ok (.ifCond .eq 11, 3) := by decide +kernel
theorem dX5_again_8 : decode cX5_again 8 = .ok (.aload_n 0, 1) := by decide +kernel
theorem dX5_again_9 : decode cX5_again 9 = .ok (.iload_n 2, 1) := by decide +kernel
theorem dX5_again_10 : decode cX5_again 10 = .ok (.invokevirtual 102, 3) := by decide +kernel
theorem dX5_again_13 : decode cX5_again 13 = .ok (.ifCond .ne 5, 3) := by decide +kernel
theorem dX5_again_16 : decode cX5_again 16 = .ok (.iconst (-1), 1) := by decide +kernel
theorem dX5_again_17 : decode cX5_again 17 = .ok (.ireturn, 1) := by decide +kernel
theorem dX5_again_18 : decode cX5_again 18 = .ok (.iconst 0, 1) := by decide +kernel
theorem dX5_again_19 : decode cX5_again 19 = .ok (.istore_n 3, 1) := by decide +kernel
theorem dX5_again_20 : decode cX5_again 20 = .ok (.iload_n 3, 1) := by decide +kernel
theorem dX5_again_21 : decode cX5_again 21 = .ok (.bipush 100, 2) := by decide +kernel
theorem dX5_again_23 : decode cX5_again 23 = .ok (.if_icmp .ge 35, 3) := by decide +kernel
theorem dX5_again_26 : decode cX5_again 26 = .ok (.aload_n 0, 1) := by decide +kernel
theorem dX5_again_27 : decode cX5_again 27 = .ok (.iload_n 1, 1) := by decide +kernel
theorem dX5_again_28 : decode cX5_again 28 = .ok (.iload_n 2, 1) := by decide +kernel
theorem dX5_again_29 : decode cX5_again 29 = .ok (.aload_n 0, 1) := by decide +kernel
theorem dX5_again_30 : decode cX5_again 30 = .ok (.getfield 7, 3) := by decide +kernel
theorem dX5_again_33 : decode cX5_again 33 = .ok (.iconst 3, 1) := by decide +kernel
theorem dX5_again_34 : decode cX5_again 34 = .ok (.iaload, 1) := by decide +kernel
theorem dX5_again_35 : decode cX5_again 35 = .ok (.iload_n 3, 1) := by decide +kernel
theorem dX5_again_36 : decode cX5_again 36 = .ok (.iadd, 1) := by decide +kernel
theorem dX5_again_37 : decode cX5_again 37 = .ok (.aload_n 0, 1) := by decide +kernel
theorem dX5_again_38 : decode cX5_again 38 = .ok (.getfield 7, 3) := by decide +kernel
theorem dX5_again_41 : decode cX5_again 41 = .ok (.bipush 6, 2) := by decide +kernel
theorem dX5_again_43 : decode cX5_again 43 = .ok (.iaload, 1) := by decide +kernel
theorem dX5_again_44 : decode cX5_again 44 = .ok (.invokevirtual 79, 3) := by decide +kernel
theorem dX5_again_47 : decode cX5_again 47 = .ok (.ifCond .eq 5, 3) := by decide +kernel
theorem dX5_again_50 : decode cX5_again 50 = .ok (.iload_n 3, 1) := by decide +kernel
theorem dX5_again_51 : decode cX5_again 51 = .ok (.ireturn, 1) := by decide +kernel
theorem dX5_again_52 : decode cX5_again 52 = .ok (.iinc 3 1, 3) := by decide +kernel
theorem dX5_again_55 : decode cX5_again 55 = .ok (.goto (-35), 3) := by decide +kernel
theorem dX5_again_58 : decode cX5_again 58 = .ok (.bipush (-4), 2) := by decide +kernel
theorem dX5_again_60 : decode cX5_again 60 = .ok (.ireturn, 1) := by decide +kernel
theorem dX5_many_0 : decode cX5_many 0 = .ok (.iconst 0, 1) := by decide +kernel
theorem dX5_many_1 : decode cX5_many 1 = .ok (.istore_n 1, 1) := by decide +kernel
theorem dX5_many_2 : decode cX5_many 2 = .ok (.iload_n 0, 1) := by decide +kernel
theorem dX5_many_3 : decode cX5_many 3 = .ok (.istore_n 2, 1) := by decide +kernel
theorem dX5_many_4 : decode cX5_many 4 = .ok (.iload_n 2, 1) := by decide +kernel
theorem dX5_many_5 : decode cX5_many 5 = .ok (.ifCond .eq 15, 3) := by decide +kernel
theorem dX5_many_8 : decode cX5_many 8 = .ok (.iinc 1 1, 3) := by decide +kernel
theorem dX5_many_11 : decode cX5_many 11 = .ok (.iload_n 2, 1) := by decide +kernel
theorem dX5_many_12 : decode cX5_many 12 = .ok (.iload_n 2, 1) := by decide +kernel
theorem dX5_many_13 : decode cX5_many 13 = .ok (.iconst 1, 1) := by decide +kernel
theorem dX5_many_14 : decode cX5_many 14 = .ok (.isub, 1) := by decide +kernel
theorem dX5_many_15 : decode cX5_many 15 = .ok (.iand, 1) := by decide +kernel
theorem dX5_many_16 : decode cX5_many 16 = .ok (.istore_n 2, 1) := by decide +kernel
theorem dX5_many_17 : decode cX5_many 17 = .ok (.goto (-13), 3) := by decide +kernel
theorem dX5_many_20 : decode cX5_many 20 = .ok (.iload_n 1, 1) := by decide +kernel
theorem dX5_many_21 : decode cX5_many 21 = .ok (.ireturn, 1) := by decide +kernel
theorem dX5_wedding_0 : decode cX5_wedding 0 = .ok (.aload_n 0, 1) := by decide +kernel
theorem dX5_wedding_1 : decode cX5_wedding 1 = .ok (.iload_n 1, 1) := by decide +kernel
theorem dX5_wedding_2 : decode cX5_wedding 2 = .ok (.invokevirtual 93, 3) := by decide +kernel
theorem dX5_wedding_5 : decode cX5_wedding 5 = .ok (.ifCond .eq 34, 3) := by decide +kernel
theorem dX5_wedding_8 : decode cX5_wedding 8 = .ok (.aload_n 0, 1) := by decide +kernel
theorem dX5_wedding_9 : decode cX5_wedding 9 = .ok (.iload_n 2, 1) := by decide +kernel
theorem dX5_wedding_10 : decode cX5_wedding 10 = .ok (.invokevirtual 102, 3) := by decide +kernel
theorem dX5_wedding_13 : decode cX5_wedding 13 = .ok (.ifCond .eq 26, 3) := by decide +kernel
theorem dX5_wedding_16 : decode cX5_wedding 16 = .ok (.iload_n 3, 1) := by decide +kernel
theorem dX5_wedding_17 : decode cX5_wedding 17 = .ok (.i2l, 1) := by decide +kernel
theorem dX5_wedding_18 : decode cX5_wedding 18 = .ok (.lconst 0, 1) := by decide +kernel
theorem dX5_wedding_19 : decode cX5_wedding 19 = .ok (.ldc2_w 87, 3) := by decide +kernel
theorem dX5_wedding_22 : decode cX5_wedding 22 = .ok (.invokestatic 41, 3) := by decide +kernel
theorem dX5_wedding_25 : decode cX5_wedding 25 = .ok (.ifCond .eq 14, 3) := by decide +kernel
theorem dX5_wedding_28 : decode cX5_wedding 28 = .ok (.iload 4, 2) := by decide +kernel
theorem dX5_wedding_30 : decode cX5_wedding 30 = .ok (.i2l, 1) := by decide +kernel
theorem dX5_wedding_31 : decode cX5_wedding 31 = .ok (.lconst 0, 1) := by decide +kernel
theorem dX5_wedding_32 : decode cX5_wedding 32 = .ok (.lconst 1, 1) := by decide +kernel
theorem dX5_wedding_33 : decode cX5_wedding 33 = .ok (.invokestatic 41, 3) := by decide +kernel
theorem dX5_wedding_36 : decode cX5_wedding 36 = .ok (.ifCond .ne 5, 3) := by decide +kernel
theorem dX5_wedding_39 : decode cX5_wedding 39 = .ok (.iconst (-1), 1) := by decide +kernel
theorem dX5_wedding_40 : decode cX5_wedding 40 = .ok (.ireturn, 1) := by decide +kernel
theorem dX5_wedding_41 : decode cX5_wedding 41 = .ok (.aload_n 0, 1) := by decide +kernel
theorem dX5_wedding_42 : decode cX5_wedding 42 = .ok (.iload_n 1, 1) := by decide +kernel
theorem dX5_wedding_43 : decode cX5_wedding 43 = .ok (.invokevirtual 110, 3) := by decide +kernel
theorem dX5_wedding_46 : decode cX5_wedding 46 = .ok (.aload_n 0, 1) := by decide +kernel
theorem dX5_wedding_47 : decode cX5_wedding 47 = .ok (.getfield 7, 3) := by decide +kernel
theorem dX5_wedding_50 : decode cX5_wedding 50 = .ok (.bipush 6, 2) := by decide +kernel
theorem dX5_wedding_52 : decode cX5_wedding 52 = .ok (.iaload, 1) := by decide +kernel
theorem dX5_wedding_53 : decode cX5_wedding 53 = .ok (.iconst (-1), 1) := by decide +kernel
theorem dX5_wedding_54 : decode cX5_wedding 54 = .ok (.ixor, 1) := by decide +kernel
theorem dX5_wedding_55 : decode cX5_wedding 55 = .ok (.iand, 1) := by decide +kernel
theorem dX5_wedding_56 : decode cX5_wedding 56 = .ok (.istore 5, 2) := by decide +kernel
theorem dX5_wedding_58 : decode cX5_wedding 58 = .ok (.bipush (-4), 2) := by decide +kernel
theorem dX5_wedding_60 : decode cX5_wedding 60 = .ok (.istore 6, 2) := by decide +kernel
theorem dX5_wedding_62 : decode cX5_wedding 62 = .ok (.iconst 0, 1) := by decide +kernel
theorem dX5_wedding_63 : decode cX5_wedding 63 = .ok (.istore 7, 2) := by decide +kernel
theorem dX5_wedding_65 : decode cX5_wedding 65 = .ok (.iload 7, 2) := by decide +kernel
theorem dX5_wedding_67 : decode cX5_wedding 67 = .ok (.iload 5, 2) := by decide +kernel
theorem dX5_wedding_69 : decode cX5_wedding 69 = .ok (.if_icmp .gt 87, 3) := by decide +kernel
theorem dX5_wedding_72 : decode cX5_wedding 72 = .ok (.iload 7, 2) := by decide +kernel
theorem dX5_wedding_74 : decode cX5_wedding 74 = .ok (.iload 5, 2) := by decide +kernel
theorem dX5_wedding_76 : decode cX5_wedding 76 = .ok (.iconst (-1), 1) := by decide +kernel
theorem dX5_wedding_77 : decode cX5_wedding 77 = .ok (.ixor, 1) := by decide +kernel
theorem dX5_wedding_78 : decode cX5_wedding 78 = .ok (.iand, 1) := by decide +kernel
theorem dX5_wedding_79 : decode cX5_wedding 79 = .ok (.ifCond .ne 54, 3) := by decide +kernel
theorem dX5_wedding_82 : decode cX5_wedding 82 = .ok (.iload 6, 2) := by decide +kernel
theorem dX5_wedding_84 : decode cX5_wedding 84 = .ok (.bipush (-4), 2) := by decide +kernel
theorem dX5_wedding_86 : decode cX5_wedding 86 = .ok (.if_icmp .eq 16, 3) := by decide +kernel
theorem dX5_wedding_89 : decode cX5_wedding 89 = .ok (.iload 7, 2) := by decide +kernel
theorem dX5_wedding_91 : decode cX5_wedding 91 = .ok (.invokestatic 183, 3) := by decide +kernel
theorem dX5_wedding_94 : decode cX5_wedding 94 = .ok (.iload 6, 2) := by decide +kernel
theorem dX5_wedding_96 : decode cX5_wedding 96 = .ok (.invokestatic 183, 3) := by decide +kernel
theorem dX5_wedding_99 : decode cX5_wedding 99 = .ok (.if_icmp .ge 34, 3) := by decide +kernel
theorem dX5_wedding_102 : decode cX5_wedding 102 = .ok (.aload_n 0, 1) := by decide +kernel
theorem dX5_wedding_103 : decode cX5_wedding 103 = .ok (.iload_n 1, 1) := by decide +kernel
theorem dX5_wedding_104 : decode cX5_wedding 104 = .ok (.iload_n 2, 1) := by decide +kernel
theorem dX5_wedding_105 : decode cX5_wedding 105 = .ok (.aload_n 0, 1) := by decide +kernel
theorem dX5_wedding_106 : decode cX5_wedding 106 = .ok (.getfield 7, 3) := by decide +kernel
theorem dX5_wedding_109 : decode cX5_wedding 109 = .ok (.iconst 3, 1) := by decide +kernel
theorem dX5_wedding_110 : decode cX5_wedding 110 = .ok (.iaload, 1) := by decide +kernel
theorem dX5_wedding_111 : decode cX5_wedding 111 = .ok (.iload_n 3, 1) := by decide +kernel
theorem dX5_wedding_112 : decode cX5_wedding 112 = .ok (.iadd, 1) := by decide +kernel
theorem dX5_wedding_113 : decode cX5_wedding 113 = .ok (.aload_n 0, 1) := by decide +kernel
theorem dX5_wedding_114 : decode cX5_wedding 114 = .ok (.getfield 7, 3) := by decide +kernel
theorem dX5_wedding_117 : decode cX5_wedding 117 = .ok (.bipush 6, 2) := by decide +kernel
theorem dX5_wedding_119 : decode cX5_wedding 119 = .ok (.iaload, 1) := by decide +kernel
theorem dX5_wedding_120 : decode cX5_wedding 120 = .ok (.iload 7, 2) := by decide +kernel
theorem dX5_wedding_122 : decode cX5_wedding 122 = .ok (.ior, 1) := by decide +kernel
theorem dX5_wedding_123 : decode cX5_wedding 123 = .ok (.invokevirtual 79, 3) := by decide +kernel
theorem dX5_wedding_126 : decode cX5_wedding 126 = .ok (.ifCond .eq 7, 3) := by decide +kernel
theorem dX5_wedding_129 : decode cX5_wedding 129 = .ok (.iconst 1, 1) := by decide +kernel
theorem dX5_wedding_130 : decode cX5_wedding 130 = .ok (.goto 4, 3) := by decide +kernel
theorem dX5_wedding_133 : decode cX5_wedding 133 = .ok (.iconst 0, 1) := by decide +kernel
theorem dX5_wedding_134 : decode cX5_wedding 134 = .ok (.istore 8, 2) := by decide +kernel
theorem dX5_wedding_136 : decode cX5_wedding 136 = .ok (.iload 8, 2) := by decide +kernel
theorem dX5_wedding_138 : decode cX5_wedding 138 = .ok (.ifCond .eq 8, 3) := by decide +kernel
theorem dX5_wedding_141 : decode cX5_wedding 141 = .ok (.iload 7, 2) := by decide +kernel
theorem dX5_wedding_143 : decode cX5_wedding 143 = .ok (.goto 5, 3) := by decide +kernel
theorem dX5_wedding_146 : decode cX5_wedding 146 = .ok (.iload 6, 2) := by decide +kernel
theorem dX5_wedding_148 : decode cX5_wedding 148 = .ok (.istore 6, 2) := by decide +kernel
theorem dX5_wedding_150 : decode cX5_wedding 150 = .ok (.iinc 7 1, 3) := by decide +kernel
theorem dX5_wedding_153 : decode cX5_wedding 153 = .ok (.goto (-88), 3) := by decide +kernel
theorem dX5_wedding_156 : decode cX5_wedding 156 = .ok (.iload 4, 2) := by decide +kernel
theorem dX5_wedding_158 : decode cX5_wedding 158 = .ok (.iconst 1, 1) := by decide +kernel
theorem dX5_wedding_159 : decode cX5_wedding 159 = .ok (.if_icmp .eq 10, 3) := by decide +kernel
theorem dX5_wedding_162 : decode cX5_wedding 162 = .ok (.iload 6, 2) := by decide +kernel
theorem dX5_wedding_164 : decode cX5_wedding 164 = .ok (.bipush (-4), 2) := by decide +kernel
theorem dX5_wedding_166 : decode cX5_wedding 166 = .ok (.if_icmp .ne 8, 3) := by decide +kernel
theorem dX5_wedding_169 : decode cX5_wedding 169 = .ok (.iload 6, 2) := by decide +kernel
theorem dX5_wedding_171 : decode cX5_wedding 171 = .ok (.goto 8, 3) := by decide +kernel
theorem dX5_wedding_174 : decode cX5_wedding 174 = .ok (.iload 6, 2) := by decide +kernel
theorem dX5_wedding_176 : decode cX5_wedding 176 = .ok (.invokestatic 183, 3) := by decide +kernel
theorem dX5_wedding_179 : decode cX5_wedding 179 = .ok (.ireturn, 1) := by decide +kernel
theorem dX5_bestCut_0 : decode cX5_bestCut 0 = .ok (.aload_n 0, 1) := by decide +kernel
theorem dX5_bestCut_1 : decode cX5_bestCut 1 = .ok (.iload_n 1, 1) := by decide +kernel
theorem dX5_bestCut_2 : decode cX5_bestCut 2 = .ok (.invokevirtual 93, 3) := by decide +kernel
theorem dX5_bestCut_5 : decode cX5_bestCut 5 = .ok (.ifCond .eq 33, 3) := by decide +kernel
theorem dX5_bestCut_8 : decode cX5_bestCut 8 = .ok (.iload_n 2, 1) := by decide +kernel
theorem dX5_bestCut_9 : decode cX5_bestCut 9 = .ok (.invokestatic 97, 3) := by decide +kernel
theorem dX5_bestCut_12 : decode cX5_bestCut 12 = .ok (.ifCond .eq 26, 3) := by decide +kernel
theorem dX5_bestCut_15 : decode cX5_bestCut 15 = .ok (.iload_n 3, 1) := by decide +kernel
theorem dX5_bestCut_16 : decode cX5_bestCut 16 = .ok (.i2l, 1) := by decide +kernel
theorem dX5_bestCut_17 : decode cX5_bestCut 17 = .ok (.lconst 0, 1) := by decide +kernel
theorem dX5_bestCut_18 : decode cX5_bestCut 18 = .ok (.ldc2_w 186, 3) := by decide +kernel
theorem dX5_bestCut_21 : decode cX5_bestCut 21 = .ok (.invokestatic 41, 3) := by decide +kernel
theorem dX5_bestCut_24 : decode cX5_bestCut 24 = .ok (.ifCond .eq 14, 3) := by decide +kernel
theorem dX5_bestCut_27 : decode cX5_bestCut 27 = .ok (.iload 4, 2) := by decide +kernel
theorem dX5_bestCut_29 : decode cX5_bestCut 29 = .ok (.i2l, 1) := by decide +kernel
theorem dX5_bestCut_30 : decode cX5_bestCut 30 = .ok (.lconst 0, 1) := by decide +kernel
theorem dX5_bestCut_31 : decode cX5_bestCut 31 = .ok (.lconst 1, 1) := by decide +kernel
theorem dX5_bestCut_32 : decode cX5_bestCut 32 = .ok (.invokestatic 41, 3) := by decide +kernel
theorem dX5_bestCut_35 : decode cX5_bestCut 35 = .ok (.ifCond .ne 5, 3) := by decide +kernel
theorem dX5_bestCut_38 : decode cX5_bestCut 38 = .ok (.iconst (-1), 1) := by decide +kernel
theorem dX5_bestCut_39 : decode cX5_bestCut 39 = .ok (.ireturn, 1) := by decide +kernel
theorem dX5_bestCut_40 : decode cX5_bestCut 40 = .ok (.iconst 0, 1) := by decide +kernel
theorem dX5_bestCut_41 : decode cX5_bestCut 41 = .ok (.istore 5, 2) := by decide +kernel
theorem dX5_bestCut_43 : decode cX5_bestCut 43 = .ok (.iload 5, 2) := by decide +kernel
theorem dX5_bestCut_45 : decode cX5_bestCut 45 = .ok (.iload_n 3, 1) := by decide +kernel
theorem dX5_bestCut_46 : decode cX5_bestCut 46 = .ok (.if_icmp .gt 38, 3) := by decide +kernel
theorem dX5_bestCut_49 : decode cX5_bestCut 49 = .ok (.aload_n 0, 1) := by decide +kernel
theorem dX5_bestCut_50 : decode cX5_bestCut 50 = .ok (.getfield 22, 3) := by decide +kernel
theorem dX5_bestCut_53 : decode cX5_bestCut 53 = .ok (.iload 5, 2) := by decide +kernel
theorem dX5_bestCut_55 : decode cX5_bestCut 55 = .ok (.aload_n 0, 1) := by decide +kernel
theorem dX5_bestCut_56 : decode cX5_bestCut 56 = .ok (.iload_n 1, 1) := by decide +kernel
theorem dX5_bestCut_57 : decode cX5_bestCut 57 = .ok (.iload_n 2, 1) := by decide +kernel
theorem dX5_bestCut_58 : decode cX5_bestCut 58 = .ok (.aload_n 0, 1) := by decide +kernel
theorem dX5_bestCut_59 : decode cX5_bestCut 59 = .ok (.getfield 7, 3) := by decide +kernel
theorem dX5_bestCut_62 : decode cX5_bestCut 62 = .ok (.iconst 3, 1) := by decide +kernel
theorem dX5_bestCut_63 : decode cX5_bestCut 63 = .ok (.iaload, 1) := by decide +kernel
theorem dX5_bestCut_64 : decode cX5_bestCut 64 = .ok (.iload 5, 2) := by decide +kernel
theorem dX5_bestCut_66 : decode cX5_bestCut 66 = .ok (.iadd, 1) := by decide +kernel
theorem dX5_bestCut_67 : decode cX5_bestCut 67 = .ok (.aload_n 0, 1) := by decide +kernel
theorem dX5_bestCut_68 : decode cX5_bestCut 68 = .ok (.getfield 7, 3) := by decide +kernel
theorem dX5_bestCut_71 : decode cX5_bestCut 71 = .ok (.bipush 6, 2) := by decide +kernel
theorem dX5_bestCut_73 : decode cX5_bestCut 73 = .ok (.iaload, 1) := by decide +kernel
theorem dX5_bestCut_74 : decode cX5_bestCut 74 = .ok (.invokevirtual 70, 3) := by decide +kernel
theorem dX5_bestCut_77 : decode cX5_bestCut 77 = .ok (.iastore, 1) := by decide +kernel
theorem dX5_bestCut_78 : decode cX5_bestCut 78 = .ok (.iinc 5 1, 3) := by decide +kernel
theorem dX5_bestCut_81 : decode cX5_bestCut 81 = .ok (.goto (-38), 3) := by decide +kernel
theorem dX5_bestCut_84 : decode cX5_bestCut 84 = .ok (.iconst 0, 1) := by decide +kernel
theorem dX5_bestCut_85 : decode cX5_bestCut 85 = .ok (.istore 5, 2) := by decide +kernel
theorem dX5_bestCut_87 : decode cX5_bestCut 87 = .ok (.iconst (-1), 1) := by decide +kernel
theorem dX5_bestCut_88 : decode cX5_bestCut 88 = .ok (.istore 6, 2) := by decide +kernel
theorem dX5_bestCut_90 : decode cX5_bestCut 90 = .ok (.iconst 0, 1) := by decide +kernel
theorem dX5_bestCut_91 : decode cX5_bestCut 91 = .ok (.istore 7, 2) := by decide +kernel
theorem dX5_bestCut_93 : decode cX5_bestCut 93 = .ok (.iload 7, 2) := by decide +kernel
theorem dX5_bestCut_95 : decode cX5_bestCut 95 = .ok (.sipush 200, 3) := by decide +kernel
theorem dX5_bestCut_98 : decode cX5_bestCut 98 = .ok (.if_icmp .ge 86, 3) := by decide +kernel
theorem dX5_bestCut_101 : decode cX5_bestCut 101 = .ok (.iconst 0, 1) := by decide +kernel
theorem dX5_bestCut_102 : decode cX5_bestCut 102 = .ok (.istore 8, 2) := by decide +kernel
theorem dX5_bestCut_104 : decode cX5_bestCut 104 = .ok (.iconst 0, 1) := by decide +kernel
theorem dX5_bestCut_105 : decode cX5_bestCut 105 = .ok (.istore 9, 2) := by decide +kernel
theorem dX5_bestCut_107 : decode cX5_bestCut 107 = .ok (.iload 9, 2) := by decide +kernel
theorem dX5_bestCut_109 : decode cX5_bestCut 109 = .ok (.iload_n 3, 1) := by decide +kernel
theorem dX5_bestCut_110 : decode cX5_bestCut 110 = .ok (.if_icmp .gt 26, 3) := by decide +kernel
theorem dX5_bestCut_113 : decode cX5_bestCut 113 = .ok (.iload 8, 2) := by decide +kernel
theorem dX5_bestCut_115 : decode cX5_bestCut 115 = .ok (.aload_n 0, 1) := by decide +kernel
theorem dX5_bestCut_116 : decode cX5_bestCut 116 = .ok (.getfield 22, 3) := by decide +kernel
theorem dX5_bestCut_119 : decode cX5_bestCut 119 = .ok (.iload 9, 2) := by decide +kernel
theorem dX5_bestCut_121 : decode cX5_bestCut 121 = .ok (.iaload, 1) := by decide +kernel
theorem dX5_bestCut_122 : decode cX5_bestCut 122 = .ok (.iload 7, 2) := by decide +kernel
theorem dX5_bestCut_124 : decode cX5_bestCut 124 = .ok (.invokestatic 76, 3) := by decide +kernel
theorem dX5_bestCut_127 : decode cX5_bestCut 127 = .ok (.iadd, 1) := by decide +kernel
theorem dX5_bestCut_128 : decode cX5_bestCut 128 = .ok (.istore 8, 2) := by decide +kernel
theorem dX5_bestCut_130 : decode cX5_bestCut 130 = .ok (.iinc 9 1, 3) := by decide +kernel
theorem dX5_bestCut_133 : decode cX5_bestCut 133 = .ok (.goto (-26), 3) := by decide +kernel
theorem dX5_bestCut_136 : decode cX5_bestCut 136 = .ok (.iload 6, 2) := by decide +kernel
theorem dX5_bestCut_138 : decode cX5_bestCut 138 = .ok (.ifCond .lt 10, 3) := by decide +kernel
theorem dX5_bestCut_141 : decode cX5_bestCut 141 = .ok (.iload 8, 2) := by decide +kernel
theorem dX5_bestCut_143 : decode cX5_bestCut 143 = .ok (.iload 6, 2) := by decide +kernel
theorem dX5_bestCut_145 : decode cX5_bestCut 145 = .ok (.if_icmp .ge 8, 3) := by decide +kernel
theorem dX5_bestCut_148 : decode cX5_bestCut 148 = .ok (.iload 7, 2) := by decide +kernel
theorem dX5_bestCut_150 : decode cX5_bestCut 150 = .ok (.goto 5, 3) := by decide +kernel
theorem dX5_bestCut_153 : decode cX5_bestCut 153 = .ok (.iload 5, 2) := by decide +kernel
theorem dX5_bestCut_155 : decode cX5_bestCut 155 = .ok (.istore 5, 2) := by decide +kernel
theorem dX5_bestCut_157 : decode cX5_bestCut 157 = .ok (.iload 6, 2) := by decide +kernel
theorem dX5_bestCut_159 : decode cX5_bestCut 159 = .ok (.ifCond .lt 10, 3) := by decide +kernel
theorem dX5_bestCut_162 : decode cX5_bestCut 162 = .ok (.iload 8, 2) := by decide +kernel
theorem dX5_bestCut_164 : decode cX5_bestCut 164 = .ok (.iload 6, 2) := by decide +kernel
theorem dX5_bestCut_166 : decode cX5_bestCut 166 = .ok (.if_icmp .ge 8, 3) := by decide +kernel
theorem dX5_bestCut_169 : decode cX5_bestCut 169 = .ok (.iload 8, 2) := by decide +kernel
theorem dX5_bestCut_171 : decode cX5_bestCut 171 = .ok (.goto 5, 3) := by decide +kernel
theorem dX5_bestCut_174 : decode cX5_bestCut 174 = .ok (.iload 6, 2) := by decide +kernel
theorem dX5_bestCut_176 : decode cX5_bestCut 176 = .ok (.istore 6, 2) := by decide +kernel
theorem dX5_bestCut_178 : decode cX5_bestCut 178 = .ok (.iinc 7 1, 3) := by decide +kernel
theorem dX5_bestCut_181 : decode cX5_bestCut 181 = .ok (.goto (-88), 3) := by decide +kernel
theorem dX5_bestCut_184 : decode cX5_bestCut 184 = .ok (.iload 4, 2) := by decide +kernel
theorem dX5_bestCut_186 : decode cX5_bestCut 186 = .ok (.ifCond .ne 8, 3) := by decide +kernel
theorem dX5_bestCut_189 : decode cX5_bestCut 189 = .ok (.iload 5, 2) := by decide +kernel
theorem dX5_bestCut_191 : decode cX5_bestCut 191 = .ok (.goto 5, 3) := by decide +kernel
theorem dX5_bestCut_194 : decode cX5_bestCut 194 = .ok (.iload 6, 2) := by decide +kernel
theorem dX5_bestCut_196 : decode cX5_bestCut 196 = .ok (.ireturn, 1) := by decide +kernel
theorem dX5_wear_0 : decode cX5_wear 0 = .ok (.iload_n 1, 1) := by decide +kernel
theorem dX5_wear_1 : decode cX5_wear 1 = .ok (.bipush (-4), 2) := by decide +kernel
theorem dX5_wear_3 : decode cX5_wear 3 = .ok (.if_icmp .eq 13, 3) := by decide +kernel
theorem dX5_wear_6 : decode cX5_wear 6 = .ok (.aload_n 0, 1) := by decide +kernel
theorem dX5_wear_7 : decode cX5_wear 7 = .ok (.iload_n 1, 1) := by decide +kernel
theorem dX5_wear_8 : decode cX5_wear 8 = .ok (.invokevirtual 93, 3) := by decide +kernel
theorem dX5_wear_11 : decode cX5_wear 11 = .ok (.ifCond .ne 5, 3) := by decide +kernel
theorem dX5_wear_14 : decode cX5_wear 14 = .ok (.iconst (-1), 1) := by decide +kernel
theorem dX5_wear_15 : decode cX5_wear 15 = .ok (.ireturn, 1) := by decide +kernel
theorem dX5_wear_16 : decode cX5_wear 16 = .ok (.aload_n 0, 1) := by decide +kernel
theorem dX5_wear_17 : decode cX5_wear 17 = .ok (.getfield 7, 3) := by decide +kernel
theorem dX5_wear_20 : decode cX5_wear 20 = .ok (.iconst 1, 1) := by decide +kernel
theorem dX5_wear_21 : decode cX5_wear 21 = .ok (.iaload, 1) := by decide +kernel
theorem dX5_wear_22 : decode cX5_wear 22 = .ok (.istore_n 2, 1) := by decide +kernel
theorem dX5_wear_23 : decode cX5_wear 23 = .ok (.iconst 1, 1) := by decide +kernel
theorem dX5_wear_24 : decode cX5_wear 24 = .ok (.istore_n 3, 1) := by decide +kernel
theorem dX5_wear_25 : decode cX5_wear 25 = .ok (.iconst 0, 1) := by decide +kernel
theorem dX5_wear_26 : decode cX5_wear 26 = .ok (.istore 4, 2) := by decide +kernel
theorem dX5_wear_28 : decode cX5_wear 28 = .ok (.iload 4, 2) := by decide +kernel
theorem dX5_wear_30 : decode cX5_wear 30 = .ok (.aload_n 0, 1) := by decide +kernel
theorem dX5_wear_31 : decode cX5_wear 31 = .ok (.getfield 7, 3) := by decide +kernel
theorem dX5_wear_34 : decode cX5_wear 34 = .ok (.iconst 0, 1) := by decide +kernel
theorem dX5_wear_35 : decode cX5_wear 35 = .ok (.iaload, 1) := by decide +kernel
theorem dX5_wear_36 : decode cX5_wear 36 = .ok (.if_icmp .ge 15, 3) := by decide +kernel
theorem dX5_wear_39 : decode cX5_wear 39 = .ok (.iload_n 3, 1) := by decide +kernel
theorem dX5_wear_40 : decode cX5_wear 40 = .ok (.iload_n 2, 1) := by decide +kernel
theorem dX5_wear_41 : decode cX5_wear 41 = .ok (.iconst 1, 1) := by decide +kernel
theorem dX5_wear_42 : decode cX5_wear 42 = .ok (.iadd, 1) := by decide +kernel
theorem dX5_wear_43 : decode cX5_wear 43 = .ok (.imul, 1) := by decide +kernel
theorem dX5_wear_44 : decode cX5_wear 44 = .ok (.istore_n 3, 1) := by decide +kernel
theorem dX5_wear_45 : decode cX5_wear 45 = .ok (.iinc 4 1, 3) := by decide +kernel
theorem dX5_wear_48 : decode cX5_wear 48 = .ok (.goto (-20), 3) := by decide +kernel
theorem dX5_wear_51 : decode cX5_wear 51 = .ok (.iconst 0, 1) := by decide +kernel
theorem dX5_wear_52 : decode cX5_wear 52 = .ok (.istore 4, 2) := by decide +kernel
theorem dX5_wear_54 : decode cX5_wear 54 = .ok (.iconst (-1), 1) := by decide +kernel
theorem dX5_wear_55 : decode cX5_wear 55 = .ok (.istore 5, 2) := by decide +kernel
theorem dX5_wear_57 : decode cX5_wear 57 = .ok (.iconst 0, 1) := by decide +kernel
theorem dX5_wear_58 : decode cX5_wear 58 = .ok (.istore 6, 2) := by decide +kernel
theorem dX5_wear_60 : decode cX5_wear 60 = .ok (.iload 6, 2) := by decide +kernel
theorem dX5_wear_62 : decode cX5_wear 62 = .ok (.iload_n 3, 1) := by decide +kernel
theorem dX5_wear_63 : decode cX5_wear 63 = .ok (.if_icmp .ge 153, 3) := by decide +kernel
theorem dX5_wear_66 : decode cX5_wear 66 = .ok (.iload_n 3, 1) := by decide +kernel
theorem dX5_wear_67 : decode cX5_wear 67 = .ok (.istore 7, 2) := by decide +kernel
theorem dX5_wear_69 : decode cX5_wear 69 = .ok (.iconst 0, 1) := by decide +kernel
theorem dX5_wear_70 : decode cX5_wear 70 = .ok (.istore 8, 2) := by decide +kernel
theorem dX5_wear_72 : decode cX5_wear 72 = .ok (.iconst 0, 1) := by decide +kernel
theorem dX5_wear_73 : decode cX5_wear 73 = .ok (.istore 9, 2) := by decide +kernel
theorem dX5_wear_75 : decode cX5_wear 75 = .ok (.iconst 1, 1) := by decide +kernel
theorem dX5_wear_76 : decode cX5_wear 76 = .ok (.istore 10, 2) := by decide +kernel
theorem dX5_wear_78 : decode cX5_wear 78 = .ok (.iconst 0, 1) := by decide +kernel
theorem dX5_wear_79 : decode cX5_wear 79 = .ok (.istore 11, 2) := by decide +kernel
theorem dX5_wear_81 : decode cX5_wear 81 = .ok (.iload 11, 2) := by decide +kernel
theorem dX5_wear_83 : decode cX5_wear 83 = .ok (.aload_n 0, 1) := by decide +kernel
theorem dX5_wear_84 : decode cX5_wear 84 = .ok (.getfield 7, 3) := by decide +kernel
theorem dX5_wear_87 : decode cX5_wear 87 = .ok (.iconst 0, 1) := by decide +kernel
theorem dX5_wear_88 : decode cX5_wear 88 = .ok (.iaload, 1) := by decide +kernel
theorem dX5_wear_89 : decode cX5_wear 89 = .ok (.if_icmp .ge 79, 3) := by decide +kernel
theorem dX5_wear_92 : decode cX5_wear 92 = .ok (.iload 10, 2) := by decide +kernel
theorem dX5_wear_94 : decode cX5_wear 94 = .ok (.ifCond .eq 74, 3) := by decide +kernel
theorem dX5_wear_97 : decode cX5_wear 97 = .ok (.iload 7, 2) := by decide +kernel
theorem dX5_wear_99 : decode cX5_wear 99 = .ok (.iload_n 2, 1) := by decide +kernel
theorem dX5_wear_100 : decode cX5_wear 100 = .ok (.iconst 1, 1) := by decide +kernel
theorem dX5_wear_101 : decode cX5_wear 101 = .ok (.iadd, 1) := by decide +kernel
theorem dX5_wear_102 : decode cX5_wear 102 = .ok (.idiv, 1) := by decide +kernel
theorem dX5_wear_103 : decode cX5_wear 103 = .ok (.istore 7, 2) := by decide +kernel
theorem dX5_wear_105 : decode cX5_wear 105 = .ok (.iload 6, 2) := by decide +kernel
theorem dX5_wear_107 : decode cX5_wear 107 = .ok (.iload 7, 2) := by decide +kernel
theorem dX5_wear_109 : decode cX5_wear 109 = .ok (.idiv, 1) := by decide +kernel
theorem dX5_wear_110 : decode cX5_wear 110 = .ok (.iload_n 2, 1) := by decide +kernel
theorem dX5_wear_111 : decode cX5_wear 111 = .ok (.iconst 1, 1) := by decide +kernel
theorem dX5_wear_112 : decode cX5_wear 112 = .ok (.iadd, 1) := by decide +kernel
theorem dX5_wear_113 : decode cX5_wear 113 = .ok (.irem, 1) := by decide +kernel
theorem dX5_wear_114 : decode cX5_wear 114 = .ok (.istore 12, 2) := by decide +kernel
theorem dX5_wear_116 : decode cX5_wear 116 = .ok (.iload 12, 2) := by decide +kernel
theorem dX5_wear_118 : decode cX5_wear 118 = .ok (.iload_n 2, 1) := by decide +kernel
theorem dX5_wear_119 : decode cX5_wear 119 = .ok (.if_icmp .ge 43, 3) := by decide +kernel
theorem dX5_wear_122 : decode cX5_wear 122 = .ok (.iload 8, 2) := by decide +kernel
theorem dX5_wear_124 : decode cX5_wear 124 = .ok (.iload 12, 2) := by decide +kernel
theorem dX5_wear_126 : decode cX5_wear 126 = .ok (.ishr, 1) := by decide +kernel
theorem dX5_wear_127 : decode cX5_wear 127 = .ok (.iconst 1, 1) := by decide +kernel
theorem dX5_wear_128 : decode cX5_wear 128 = .ok (.iand, 1) := by decide +kernel
theorem dX5_wear_129 : decode cX5_wear 129 = .ok (.ifCond .ne 18, 3) := by decide +kernel
theorem dX5_wear_132 : decode cX5_wear 132 = .ok (.aload_n 0, 1) := by decide +kernel
theorem dX5_wear_133 : decode cX5_wear 133 = .ok (.iload 11, 2) := by decide +kernel
theorem dX5_wear_135 : decode cX5_wear 135 = .ok (.iload 12, 2) := by decide +kernel
theorem dX5_wear_137 : decode cX5_wear 137 = .ok (.invokevirtual 121, 3) := by decide +kernel
theorem dX5_wear_140 : decode cX5_wear 140 = .ok (.ifCond .eq 7, 3) := by decide +kernel
theorem dX5_wear_143 : decode cX5_wear 143 = .ok (.iconst 1, 1) := by decide +kernel
theorem dX5_wear_144 : decode cX5_wear 144 = .ok (.goto 4, 3) := by decide +kernel
theorem dX5_wear_147 : decode cX5_wear 147 = .ok (.iconst 0, 1) := by decide +kernel
theorem dX5_wear_148 : decode cX5_wear 148 = .ok (.istore 10, 2) := by decide +kernel
theorem dX5_wear_150 : decode cX5_wear 150 = .ok (.iload 8, 2) := by decide +kernel
theorem dX5_wear_152 : decode cX5_wear 152 = .ok (.iconst 1, 1) := by decide +kernel
theorem dX5_wear_153 : decode cX5_wear 153 = .ok (.iload 12, 2) := by decide +kernel
theorem dX5_wear_155 : decode cX5_wear 155 = .ok (.ishl, 1) := by decide +kernel
theorem dX5_wear_156 : decode cX5_wear 156 = .ok (.ior, 1) := by decide +kernel
theorem dX5_wear_157 : decode cX5_wear 157 = .ok (.istore 8, 2) := by decide +kernel
theorem dX5_wear_159 : decode cX5_wear 159 = .ok (.iinc 9 1, 3) := by decide +kernel
theorem dX5_wear_162 : decode cX5_wear 162 = .ok (.iinc 11 1, 3) := by decide +kernel
theorem dX5_wear_165 : decode cX5_wear 165 = .ok (.goto (-84), 3) := by decide +kernel
theorem dX5_wear_168 : decode cX5_wear 168 = .ok (.iload 10, 2) := by decide +kernel
theorem dX5_wear_170 : decode cX5_wear 170 = .ok (.ifCond .eq 15, 3) := by decide +kernel
theorem dX5_wear_173 : decode cX5_wear 173 = .ok (.iload 9, 2) := by decide +kernel
theorem dX5_wear_175 : decode cX5_wear 175 = .ok (.iload 5, 2) := by decide +kernel
theorem dX5_wear_177 : decode cX5_wear 177 = .ok (.if_icmp .le 8, 3) := by decide +kernel
theorem dX5_wear_180 : decode cX5_wear 180 = .ok (.iload 6, 2) := by decide +kernel
theorem dX5_wear_182 : decode cX5_wear 182 = .ok (.goto 5, 3) := by decide +kernel
theorem dX5_wear_185 : decode cX5_wear 185 = .ok (.iload 4, 2) := by decide +kernel
theorem dX5_wear_187 : decode cX5_wear 187 = .ok (.istore 4, 2) := by decide +kernel
theorem dX5_wear_189 : decode cX5_wear 189 = .ok (.iload 10, 2) := by decide +kernel
theorem dX5_wear_191 : decode cX5_wear 191 = .ok (.ifCond .eq 15, 3) := by decide +kernel
theorem dX5_wear_194 : decode cX5_wear 194 = .ok (.iload 9, 2) := by decide +kernel
theorem dX5_wear_196 : decode cX5_wear 196 = .ok (.iload 5, 2) := by decide +kernel
theorem dX5_wear_198 : decode cX5_wear 198 = .ok (.if_icmp .le 8, 3) := by decide +kernel
theorem dX5_wear_201 : decode cX5_wear 201 = .ok (.iload 9, 2) := by decide +kernel
theorem dX5_wear_203 : decode cX5_wear 203 = .ok (.goto 5, 3) := by decide +kernel
theorem dX5_wear_206 : decode cX5_wear 206 = .ok (.iload 5, 2) := by decide +kernel
theorem dX5_wear_208 : decode cX5_wear 208 = .ok (.istore 5, 2) := by decide +kernel
theorem dX5_wear_210 : decode cX5_wear 210 = .ok (.iinc 6 1, 3) := by decide +kernel
theorem dX5_wear_213 : decode cX5_wear 213 = .ok (.goto (-153), 3) := by decide +kernel
theorem dX5_wear_216 : decode cX5_wear 216 = .ok (.iload_n 1, 1) := by decide +kernel
theorem dX5_wear_217 : decode cX5_wear 217 = .ok (.bipush (-4), 2) := by decide +kernel
theorem dX5_wear_219 : decode cX5_wear 219 = .ok (.if_icmp .ne 6, 3) := by decide +kernel
theorem dX5_wear_222 : decode cX5_wear 222 = .ok (.iload 5, 2) := by decide +kernel
theorem dX5_wear_224 : decode cX5_wear 224 = .ok (.ireturn, 1) := by decide +kernel
theorem dX5_wear_225 : decode cX5_wear 225 = .ok (.iload_n 3, 1) := by decide +kernel
theorem dX5_wear_226 : decode cX5_wear 226 = .ok (.istore 6, 2) := by decide +kernel
theorem dX5_wear_228 : decode cX5_wear 228 = .ok (.iconst 0, 1) := by decide +kernel
theorem dX5_wear_229 : decode cX5_wear 229 = .ok (.istore 7, 2) := by decide +kernel
theorem dX5_wear_231 : decode cX5_wear 231 = .ok (.iload 7, 2) := by decide +kernel
theorem dX5_wear_233 : decode cX5_wear 233 = .ok (.iload_n 1, 1) := by decide +kernel
theorem dX5_wear_234 : decode cX5_wear 234 = .ok (.if_icmp .gt 17, 3) := by decide +kernel
theorem dX5_wear_237 : decode cX5_wear 237 = .ok (.iload 6, 2) := by decide +kernel
theorem dX5_wear_239 : decode cX5_wear 239 = .ok (.iload_n 2, 1) := by decide +kernel
theorem dX5_wear_240 : decode cX5_wear 240 = .ok (.iconst 1, 1) := by decide +kernel
theorem dX5_wear_241 : decode cX5_wear 241 = .ok (.iadd, 1) := by decide +kernel
theorem dX5_wear_242 : decode cX5_wear 242 = .ok (.idiv, 1) := by decide +kernel
theorem dX5_wear_243 : decode cX5_wear 243 = .ok (.istore 6, 2) := by decide +kernel
theorem dX5_wear_245 : decode cX5_wear 245 = .ok (.iinc 7 1, 3) := by decide +kernel
theorem dX5_wear_248 : decode cX5_wear 248 = .ok (.goto (-17), 3) := by decide +kernel
theorem dX5_wear_251 : decode cX5_wear 251 = .ok (.iload 4, 2) := by decide +kernel
theorem dX5_wear_253 : decode cX5_wear 253 = .ok (.iload 6, 2) := by decide +kernel
theorem dX5_wear_255 : decode cX5_wear 255 = .ok (.idiv, 1) := by decide +kernel
theorem dX5_wear_256 : decode cX5_wear 256 = .ok (.iload_n 2, 1) := by decide +kernel
theorem dX5_wear_257 : decode cX5_wear 257 = .ok (.iconst 1, 1) := by decide +kernel
theorem dX5_wear_258 : decode cX5_wear 258 = .ok (.iadd, 1) := by decide +kernel
theorem dX5_wear_259 : decode cX5_wear 259 = .ok (.irem, 1) := by decide +kernel
theorem dX5_wear_260 : decode cX5_wear 260 = .ok (.istore 7, 2) := by decide +kernel
theorem dX5_wear_262 : decode cX5_wear 262 = .ok (.iload 7, 2) := by decide +kernel
theorem dX5_wear_264 : decode cX5_wear 264 = .ok (.iload_n 2, 1) := by decide +kernel
theorem dX5_wear_265 : decode cX5_wear 265 = .ok (.if_icmp .ne 8, 3) := by decide +kernel
theorem dX5_wear_268 : decode cX5_wear 268 = .ok (.bipush (-4), 2) := by decide +kernel
theorem dX5_wear_270 : decode cX5_wear 270 = .ok (.goto 5, 3) := by decide +kernel
theorem dX5_wear_273 : decode cX5_wear 273 = .ok (.iload 7, 2) := by decide +kernel
theorem dX5_wear_275 : decode cX5_wear 275 = .ok (.ireturn, 1) := by decide +kernel
theorem dX5_luck_0 : decode cX5_luck 0 = .ok (.aload_n 0, 1) := by decide +kernel
theorem dX5_luck_1 : decode cX5_luck 1 = .ok (.iload_n 1, 1) := by decide +kernel
theorem dX5_luck_2 : decode cX5_luck 2 = .ok (.invokevirtual 93, 3) := by decide +kernel
theorem dX5_luck_5 : decode cX5_luck 5 = .ok (.ifCond .eq 21, 3) := by decide +kernel
theorem dX5_luck_8 : decode cX5_luck 8 = .ok (.aload_n 0, 1) := by decide +kernel
theorem dX5_luck_9 : decode cX5_luck 9 = .ok (.iload_n 2, 1) := by decide +kernel
theorem dX5_luck_10 : decode cX5_luck 10 = .ok (.invokevirtual 102, 3) := by decide +kernel
theorem dX5_luck_13 : decode cX5_luck 13 = .ok (.ifCond .eq 13, 3) := by decide +kernel
theorem dX5_luck_16 : decode cX5_luck 16 = .ok (.iload_n 3, 1) := by decide +kernel
theorem dX5_luck_17 : decode cX5_luck 17 = .ok (.i2l, 1) := by decide +kernel
theorem dX5_luck_18 : decode cX5_luck 18 = .ok (.lconst 0, 1) := by decide +kernel
theorem dX5_luck_19 : decode cX5_luck 19 = .ok (.lconst 1, 1) := by decide +kernel
theorem dX5_luck_20 : decode cX5_luck 20 = .ok (.invokestatic 41, 3) := by decide +kernel
theorem dX5_luck_23 : decode cX5_luck 23 = .ok (.ifCond .ne 5, 3) := by decide +kernel
theorem dX5_luck_26 : decode cX5_luck 26 = .ok (.iconst (-1), 1) := by decide +kernel
theorem dX5_luck_27 : decode cX5_luck 27 = .ok (.ireturn, 1) := by decide +kernel
theorem dX5_luck_28 : decode cX5_luck 28 = .ok (.iconst 1, 1) := by decide +kernel
theorem dX5_luck_29 : decode cX5_luck 29 = .ok (.istore 4, 2) := by decide +kernel
theorem dX5_luck_31 : decode cX5_luck 31 = .ok (.bipush 81, 2) := by decide +kernel
theorem dX5_luck_33 : decode cX5_luck 33 = .ok (.istore 5, 2) := by decide +kernel
theorem dX5_luck_35 : decode cX5_luck 35 = .ok (.iconst 0, 1) := by decide +kernel
theorem dX5_luck_36 : decode cX5_luck 36 = .ok (.istore 6, 2) := by decide +kernel
theorem dX5_luck_38 : decode cX5_luck 38 = .ok (.iload 6, 2) := by decide +kernel
theorem dX5_luck_40 : decode cX5_luck 40 = .ok (.iconst 4, 1) := by decide +kernel
theorem dX5_luck_41 : decode cX5_luck 41 = .ok (.if_icmp .ge 73, 3) := by decide +kernel
theorem dX5_luck_44 : decode cX5_luck 44 = .ok (.iconst 0, 1) := by decide +kernel
theorem dX5_luck_45 : decode cX5_luck 45 = .ok (.istore 7, 2) := by decide +kernel
theorem dX5_luck_47 : decode cX5_luck 47 = .ok (.iconst (-1), 1) := by decide +kernel
theorem dX5_luck_48 : decode cX5_luck 48 = .ok (.istore 8, 2) := by decide +kernel
theorem dX5_luck_50 : decode cX5_luck 50 = .ok (.iload 8, 2) := by decide +kernel
theorem dX5_luck_52 : decode cX5_luck 52 = .ok (.iconst 2, 1) := by decide +kernel
theorem dX5_luck_53 : decode cX5_luck 53 = .ok (.if_icmp .ge 48, 3) := by decide +kernel
theorem dX5_luck_56 : decode cX5_luck 56 = .ok (.iload 7, 2) := by decide +kernel
theorem dX5_luck_58 : decode cX5_luck 58 = .ok (.aload_n 0, 1) := by decide +kernel
theorem dX5_luck_59 : decode cX5_luck 59 = .ok (.iload_n 1, 1) := by decide +kernel
theorem dX5_luck_60 : decode cX5_luck 60 = .ok (.iload 6, 2) := by decide +kernel
theorem dX5_luck_62 : decode cX5_luck 62 = .ok (.invokevirtual 107, 3) := by decide +kernel
theorem dX5_luck_65 : decode cX5_luck 65 = .ok (.iload 8, 2) := by decide +kernel
theorem dX5_luck_67 : decode cX5_luck 67 = .ok (.iadd, 1) := by decide +kernel
theorem dX5_luck_68 : decode cX5_luck 68 = .ok (.aload_n 0, 1) := by decide +kernel
theorem dX5_luck_69 : decode cX5_luck 69 = .ok (.iload_n 2, 1) := by decide +kernel
theorem dX5_luck_70 : decode cX5_luck 70 = .ok (.iload 6, 2) := by decide +kernel
theorem dX5_luck_72 : decode cX5_luck 72 = .ok (.invokevirtual 73, 3) := by decide +kernel
theorem dX5_luck_75 : decode cX5_luck 75 = .ok (.invokestatic 76, 3) := by decide +kernel
theorem dX5_luck_78 : decode cX5_luck 78 = .ok (.aload_n 0, 1) := by decide +kernel
theorem dX5_luck_79 : decode cX5_luck 79 = .ok (.getfield 7, 3) := by decide +kernel
theorem dX5_luck_82 : decode cX5_luck 82 = .ok (.iconst 5, 1) := by decide +kernel
theorem dX5_luck_83 : decode cX5_luck 83 = .ok (.iaload, 1) := by decide +kernel
theorem dX5_luck_84 : decode cX5_luck 84 = .ok (.if_icmp .gt 7, 3) := by decide +kernel
theorem dX5_luck_87 : decode cX5_luck 87 = .ok (.iconst 1, 1) := by decide +kernel
theorem dX5_luck_88 : decode cX5_luck 88 = .ok (.goto 4, 3) := by decide +kernel
theorem dX5_luck_91 : decode cX5_luck 91 = .ok (.iconst 0, 1) := by decide +kernel
theorem dX5_luck_92 : decode cX5_luck 92 = .ok (.iadd, 1) := by decide +kernel
theorem dX5_luck_93 : decode cX5_luck 93 = .ok (.istore 7, 2) := by decide +kernel
theorem dX5_luck_95 : decode cX5_luck 95 = .ok (.iinc 8 1, 3) := by decide +kernel
theorem dX5_luck_98 : decode cX5_luck 98 = .ok (.goto (-48), 3) := by decide +kernel
theorem dX5_luck_101 : decode cX5_luck 101 = .ok (.iload 4, 2) := by decide +kernel
theorem dX5_luck_103 : decode cX5_luck 103 = .ok (.iload 7, 2) := by decide +kernel
theorem dX5_luck_105 : decode cX5_luck 105 = .ok (.imul, 1) := by decide +kernel
theorem dX5_luck_106 : decode cX5_luck 106 = .ok (.istore 4, 2) := by decide +kernel
theorem dX5_luck_108 : decode cX5_luck 108 = .ok (.iinc 6 1, 3) := by decide +kernel
theorem dX5_luck_111 : decode cX5_luck 111 = .ok (.goto (-73), 3) := by decide +kernel
theorem dX5_luck_114 : decode cX5_luck 114 = .ok (.iload 4, 2) := by decide +kernel
theorem dX5_luck_116 : decode cX5_luck 116 = .ok (.iconst 3, 1) := by decide +kernel
theorem dX5_luck_117 : decode cX5_luck 117 = .ok (.irem, 1) := by decide +kernel
theorem dX5_luck_118 : decode cX5_luck 118 = .ok (.ifCond .ne 24, 3) := by decide +kernel
theorem dX5_luck_121 : decode cX5_luck 121 = .ok (.iload 5, 2) := by decide +kernel
theorem dX5_luck_123 : decode cX5_luck 123 = .ok (.iconst 1, 1) := by decide +kernel
theorem dX5_luck_124 : decode cX5_luck 124 = .ok (.if_icmp .le 18, 3) := by decide +kernel
theorem dX5_luck_127 : decode cX5_luck 127 = .ok (.iload 4, 2) := by decide +kernel
theorem dX5_luck_129 : decode cX5_luck 129 = .ok (.iconst 3, 1) := by decide +kernel
theorem dX5_luck_130 : decode cX5_luck 130 = .ok (.idiv, 1) := by decide +kernel
theorem dX5_luck_131 : decode cX5_luck 131 = .ok (.istore 4, 2) := by decide +kernel
theorem dX5_luck_133 : decode cX5_luck 133 = .ok (.iload 5, 2) := by decide +kernel
theorem dX5_luck_135 : decode cX5_luck 135 = .ok (.iconst 3, 1) := by decide +kernel
theorem dX5_luck_136 : decode cX5_luck 136 = .ok (.idiv, 1) := by decide +kernel
theorem dX5_luck_137 : decode cX5_luck 137 = .ok (.istore 5, 2) := by decide +kernel
theorem dX5_luck_139 : decode cX5_luck 139 = .ok (.goto (-25), 3) := by decide +kernel
theorem dX5_luck_142 : decode cX5_luck 142 = .ok (.iload_n 3, 1) := by decide +kernel
theorem dX5_luck_143 : decode cX5_luck 143 = .ok (.ifCond .ne 8, 3) := by decide +kernel
theorem dX5_luck_146 : decode cX5_luck 146 = .ok (.iload 4, 2) := by decide +kernel
theorem dX5_luck_148 : decode cX5_luck 148 = .ok (.goto 5, 3) := by decide +kernel
theorem dX5_luck_151 : decode cX5_luck 151 = .ok (.iload 5, 2) := by decide +kernel
theorem dX5_luck_153 : decode cX5_luck 153 = .ok (.ireturn, 1) := by decide +kernel
theorem dX5_warrant_0 : decode cX5_warrant 0 = .ok (.iload_n 1, 1) := by decide +kernel
theorem dX5_warrant_1 : decode cX5_warrant 1 = .ok (.i2l, 1) := by decide +kernel
theorem dX5_warrant_2 : decode cX5_warrant 2 = .ok (.lconst 1, 1) := by decide +kernel
theorem dX5_warrant_3 : decode cX5_warrant 3 = .ok (.ldc2_w 87, 3) := by decide +kernel
theorem dX5_warrant_6 : decode cX5_warrant 6 = .ok (.invokestatic 41, 3) := by decide +kernel
theorem dX5_warrant_9 : decode cX5_warrant 9 = .ok (.ifCond .ne 5, 3) := by decide +kernel
theorem dX5_warrant_12 : decode cX5_warrant 12 = .ok (.iconst (-1), 1) := by decide +kernel
theorem dX5_warrant_13 : decode cX5_warrant 13 = .ok (.ireturn, 1) := by decide +kernel
theorem dX5_warrant_14 : decode cX5_warrant 14 = .ok (.iconst 0, 1) := by decide +kernel
theorem dX5_warrant_15 : decode cX5_warrant 15 = .ok (.istore_n 2, 1) := by decide +kernel
theorem dX5_warrant_16 : decode cX5_warrant 16 = .ok (.iconst 0, 1) := by decide +kernel
theorem dX5_warrant_17 : decode cX5_warrant 17 = .ok (.istore_n 3, 1) := by decide +kernel
theorem dX5_warrant_18 : decode cX5_warrant 18 = .ok (.iload_n 3, 1) := by decide +kernel
theorem dX5_warrant_19 : decode cX5_warrant 19 = .ok (.aload_n 0, 1) := by decide +kernel
theorem dX5_warrant_20 : decode cX5_warrant 20 = .ok (.getfield 7, 3) := by decide +kernel
theorem dX5_warrant_23 : decode cX5_warrant 23 = .ok (.iconst 0, 1) := by decide +kernel
theorem dX5_warrant_24 : decode cX5_warrant 24 = .ok (.iaload, 1) := by decide +kernel
theorem dX5_warrant_25 : decode cX5_warrant 25 = .ok (.if_icmp .ge 53, 3) := by decide +kernel
theorem dX5_warrant_28 : decode cX5_warrant 28 = .ok (.iconst 0, 1) := by decide +kernel
theorem dX5_warrant_29 : decode cX5_warrant 29 = .ok (.istore 4, 2) := by decide +kernel
theorem dX5_warrant_31 : decode cX5_warrant 31 = .ok (.iload 4, 2) := by decide +kernel
theorem dX5_warrant_33 : decode cX5_warrant 33 = .ok (.iconst 4, 1) := by decide +kernel
theorem dX5_warrant_34 : decode cX5_warrant 34 = .ok (.if_icmp .ge 38, 3) := by decide +kernel
theorem dX5_warrant_37 : decode cX5_warrant 37 = .ok (.iload_n 2, 1) := by decide +kernel
theorem dX5_warrant_38 : decode cX5_warrant 38 = .ok (.aload_n 0, 1) := by decide +kernel
theorem dX5_warrant_39 : decode cX5_warrant 39 = .ok (.iload_n 3, 1) := by decide +kernel
theorem dX5_warrant_40 : decode cX5_warrant 40 = .ok (.iload 4, 2) := by decide +kernel
theorem dX5_warrant_42 : decode cX5_warrant 42 = .ok (.invokevirtual 107, 3) := by decide +kernel
theorem dX5_warrant_45 : decode cX5_warrant 45 = .ok (.aload_n 0, 1) := by decide +kernel
theorem dX5_warrant_46 : decode cX5_warrant 46 = .ok (.iload_n 3, 1) := by decide +kernel
theorem dX5_warrant_47 : decode cX5_warrant 47 = .ok (.iload 4, 2) := by decide +kernel
theorem dX5_warrant_49 : decode cX5_warrant 49 = .ok (.invokevirtual 55, 3) := by decide +kernel
theorem dX5_warrant_52 : decode cX5_warrant 52 = .ok (.isub, 1) := by decide +kernel
theorem dX5_warrant_53 : decode cX5_warrant 53 = .ok (.iload_n 1, 1) := by decide +kernel
theorem dX5_warrant_54 : decode cX5_warrant 54 = .ok (.if_icmp .lt 9, 3) := by decide +kernel
theorem dX5_warrant_57 : decode cX5_warrant 57 = .ok (.iconst 1, 1) := by decide +kernel
theorem dX5_warrant_58 : decode cX5_warrant 58 = .ok (.iload_n 3, 1) := by decide +kernel
theorem dX5_warrant_59 : decode cX5_warrant 59 = .ok (.ishl, 1) := by decide +kernel
theorem dX5_warrant_60 : decode cX5_warrant 60 = .ok (.goto 4, 3) := by decide +kernel
theorem dX5_warrant_63 : decode cX5_warrant 63 = .ok (.iconst 0, 1) := by decide +kernel
theorem dX5_warrant_64 : decode cX5_warrant 64 = .ok (.ior, 1) := by decide +kernel
theorem dX5_warrant_65 : decode cX5_warrant 65 = .ok (.istore_n 2, 1) := by decide +kernel
theorem dX5_warrant_66 : decode cX5_warrant 66 = .ok (.iinc 4 1, 3) := by decide +kernel
theorem dX5_warrant_69 : decode cX5_warrant 69 = .ok (.goto (-38), 3) := by decide +kernel
theorem dX5_warrant_72 : decode cX5_warrant 72 = .ok (.iinc 3 1, 3) := by decide +kernel
theorem dX5_warrant_75 : decode cX5_warrant 75 = .ok (.goto (-57), 3) := by decide +kernel
theorem dX5_warrant_78 : decode cX5_warrant 78 = .ok (.iload_n 2, 1) := by decide +kernel
theorem dX5_warrant_79 : decode cX5_warrant 79 = .ok (.ireturn, 1) := by decide +kernel
theorem dX5_image_0 : decode cX5_image 0 = .ok (.iconst 0, 1) := by decide +kernel
theorem dX5_image_1 : decode cX5_image 1 = .ok (.istore_n 1, 1) := by decide +kernel
theorem dX5_image_2 : decode cX5_image 2 = .ok (.iload_n 1, 1) := by decide +kernel
theorem dX5_image_3 : decode cX5_image 3 = .ok (.bipush 89, 2) := by decide +kernel
theorem dX5_image_5 : decode cX5_image 5 = .ok (.if_icmp .ge 21, 3) := by decide +kernel
theorem dX5_image_8 : decode cX5_image 8 = .ok (.aload_n 0, 1) := by decide +kernel
theorem dX5_image_9 : decode cX5_image 9 = .ok (.getfield 25, 3) := by decide +kernel
theorem dX5_image_12 : decode cX5_image 12 = .ok (.iload_n 1, 1) := by decide +kernel
theorem dX5_image_13 : decode cX5_image 13 = .ok (.aload_n 0, 1) := by decide +kernel
theorem dX5_image_14 : decode cX5_image 14 = .ok (.getfield 7, 3) := by decide +kernel
theorem dX5_image_17 : decode cX5_image 17 = .ok (.iload_n 1, 1) := by decide +kernel
theorem dX5_image_18 : decode cX5_image 18 = .ok (.iaload, 1) := by decide +kernel
theorem dX5_image_19 : decode cX5_image 19 = .ok (.iastore, 1) := by decide +kernel
theorem dX5_image_20 : decode cX5_image 20 = .ok (.iinc 1 1, 3) := by decide +kernel
theorem dX5_image_23 : decode cX5_image 23 = .ok (.goto (-21), 3) := by decide +kernel
theorem dX5_image_26 : decode cX5_image 26 = .ok (.iconst 0, 1) := by decide +kernel
theorem dX5_image_27 : decode cX5_image 27 = .ok (.istore_n 1, 1) := by decide +kernel
theorem dX5_image_28 : decode cX5_image 28 = .ok (.iload_n 1, 1) := by decide +kernel
theorem dX5_image_29 : decode cX5_image 29 = .ok (.sipush 352, 3) := by decide +kernel
theorem dX5_image_32 : decode cX5_image 32 = .ok (.if_icmp .ge 24, 3) := by decide +kernel
theorem dX5_image_35 : decode cX5_image 35 = .ok (.aload_n 0, 1) := by decide +kernel
theorem dX5_image_36 : decode cX5_image 36 = .ok (.getfield 25, 3) := by decide +kernel
theorem dX5_image_39 : decode cX5_image 39 = .ok (.bipush 89, 2) := by decide +kernel
theorem dX5_image_41 : decode cX5_image 41 = .ok (.iload_n 1, 1) := by decide +kernel
theorem dX5_image_42 : decode cX5_image 42 = .ok (.iadd, 1) := by decide +kernel
theorem dX5_image_43 : decode cX5_image 43 = .ok (.aload_n 0, 1) := by decide +kernel
theorem dX5_image_44 : decode cX5_image 44 = .ok (.getfield 19, 3) := by decide +kernel
theorem dX5_image_47 : decode cX5_image 47 = .ok (.iload_n 1, 1) := by decide +kernel
theorem dX5_image_48 : decode cX5_image 48 = .ok (.iaload, 1) := by decide +kernel
theorem dX5_image_49 : decode cX5_image 49 = .ok (.iastore, 1) := by decide +kernel
theorem dX5_image_50 : decode cX5_image 50 = .ok (.iinc 1 1, 3) := by decide +kernel
theorem dX5_image_53 : decode cX5_image 53 = .ok (.goto (-25), 3) := by decide +kernel
theorem dX5_image_56 : decode cX5_image 56 = .ok (.aload_n 0, 1) := by decide +kernel
theorem dX5_image_57 : decode cX5_image 57 = .ok (.aload_n 0, 1) := by decide +kernel
theorem dX5_image_58 : decode cX5_image 58 = .ok (.getfield 89, 3) := by decide +kernel
theorem dX5_image_61 : decode cX5_image 61 = .ok (.putfield 188, 3) := by decide +kernel
theorem dX5_image_64 : decode cX5_image 64 = .ok (.aload_n 0, 1) := by decide +kernel
theorem dX5_image_65 : decode cX5_image 65 = .ok (.iconst 1, 1) := by decide +kernel
theorem dX5_image_66 : decode cX5_image 66 = .ok (.putfield 191, 3) := by decide +kernel
theorem dX5_image_69 : decode cX5_image 69 = .ok (.iconst 1, 1) := by decide +kernel
theorem dX5_image_70 : decode cX5_image 70 = .ok (.ireturn, 1) := by decide +kernel
theorem dX5_restore_0 : decode cX5_restore 0 = .ok (.aload_n 0, 1) := by decide +kernel
theorem dX5_restore_1 : decode cX5_restore 1 = .ok (.getfield 191, 3) := by decide +kernel
theorem dX5_restore_4 : decode cX5_restore 4 = .ok (.ifCond .ne 6, 3) := by decide +kernel
theorem dX5_restore_7 : decode cX5_restore 7 = .ok (.bipush (-4), 2) := by decide +kernel
theorem dX5_restore_9 : decode cX5_restore 9 = .ok (.ireturn, 1) := by decide +kernel
theorem dX5_restore_10 : decode cX5_restore 10 = .ok (.iconst 0, 1) := by decide +kernel
theorem dX5_restore_11 : decode cX5_restore 11 = .ok (.istore_n 1, 1) := by decide +kernel
theorem dX5_restore_12 : decode cX5_restore 12 = .ok (.iload_n 1, 1) := by decide +kernel
theorem dX5_restore_13 : decode cX5_restore 13 = .ok (.bipush 89, 2) := by decide +kernel
theorem dX5_restore_15 : decode cX5_restore 15 = .ok (.if_icmp .ge 21, 3) := by decide +kernel
theorem dX5_restore_18 : decode cX5_restore 18 = .ok (.aload_n 0, 1) := by decide +kernel
theorem dX5_restore_19 : decode cX5_restore 19 = .ok (.getfield 7, 3) := by decide +kernel
theorem dX5_restore_22 : decode cX5_restore 22 = .ok (.iload_n 1, 1) := by decide +kernel
theorem dX5_restore_23 : decode cX5_restore 23 = .ok (.aload_n 0, 1) := by decide +kernel
theorem dX5_restore_24 : decode cX5_restore 24 = .ok (.getfield 25, 3) := by decide +kernel
theorem dX5_restore_27 : decode cX5_restore 27 = .ok (.iload_n 1, 1) := by decide +kernel
theorem dX5_restore_28 : decode cX5_restore 28 = .ok (.iaload, 1) := by decide +kernel
theorem dX5_restore_29 : decode cX5_restore 29 = .ok (.iastore, 1) := by decide +kernel
theorem dX5_restore_30 : decode cX5_restore 30 = .ok (.iinc 1 1, 3) := by decide +kernel
theorem dX5_restore_33 : decode cX5_restore 33 = .ok (.goto (-21), 3) := by decide +kernel
theorem dX5_restore_36 : decode cX5_restore 36 = .ok (.iconst 0, 1) := by decide +kernel
theorem dX5_restore_37 : decode cX5_restore 37 = .ok (.istore_n 1, 1) := by decide +kernel
theorem dX5_restore_38 : decode cX5_restore 38 = .ok (.iload_n 1, 1) := by decide +kernel
theorem dX5_restore_39 : decode cX5_restore 39 = .ok (.sipush 352, 3) := by decide +kernel
theorem dX5_restore_42 : decode cX5_restore 42 = .ok (.if_icmp .ge 24, 3) := by decide +kernel
theorem dX5_restore_45 : decode cX5_restore 45 = .ok (.aload_n 0, 1) := by decide +kernel
theorem dX5_restore_46 : decode cX5_restore 46 = .ok (.getfield 19, 3) := by decide +kernel
theorem dX5_restore_49 : decode cX5_restore 49 = .ok (.iload_n 1, 1) := by decide +kernel
theorem dX5_restore_50 : decode cX5_restore 50 = .ok (.aload_n 0, 1) := by decide +kernel
theorem dX5_restore_51 : decode cX5_restore 51 = .ok (.getfield 25, 3) := by decide +kernel
theorem dX5_restore_54 : decode cX5_restore 54 = .ok (.bipush 89, 2) := by decide +kernel
theorem dX5_restore_56 : decode cX5_restore 56 = .ok (.iload_n 1, 1) := by decide +kernel
theorem dX5_restore_57 : decode cX5_restore 57 = .ok (.iadd, 1) := by decide +kernel
theorem dX5_restore_58 : decode cX5_restore 58 = .ok (.iaload, 1) := by decide +kernel
theorem dX5_restore_59 : decode cX5_restore 59 = .ok (.iastore, 1) := by decide +kernel
theorem dX5_restore_60 : decode cX5_restore 60 = .ok (.iinc 1 1, 3) := by decide +kernel
theorem dX5_restore_63 : decode cX5_restore 63 = .ok (.goto (-25), 3) := by decide +kernel
theorem dX5_restore_66 : decode cX5_restore 66 = .ok (.aload_n 0, 1) := by decide +kernel
theorem dX5_restore_67 : decode cX5_restore 67 = .ok (.aload_n 0, 1) := by decide +kernel
theorem dX5_restore_68 : decode cX5_restore 68 = .ok (.getfield 188, 3) := by decide +kernel
theorem dX5_restore_71 : decode cX5_restore 71 = .ok (.putfield 89, 3) := by decide +kernel
theorem dX5_restore_74 : decode cX5_restore 74 = .ok (.iconst 1, 1) := by decide +kernel
theorem dX5_restore_75 : decode cX5_restore 75 = .ok (.ireturn, 1) := by decide +kernel
theorem dX5_isSheet_0 : decode cX5_isSheet 0 = .ok (.iload_n 0, 1) := by decide +kernel
theorem dX5_isSheet_1 : decode cX5_isSheet 1 = .ok (.i2l, 1) := by decide +kernel
theorem dX5_isSheet_2 : decode cX5_isSheet 2 = .ok (.lconst 0, 1) := by decide +kernel
theorem dX5_isSheet_3 : decode cX5_isSheet 3 = .ok (.ldc2_w 45, 3) := by decide +kernel
theorem dX5_isSheet_6 : decode cX5_isSheet 6 = .ok (.invokestatic 41, 3) := by decide +kernel
theorem dX5_isSheet_9 : decode cX5_isSheet 9 = .ok (.ireturn, 1) := by decide +kernel
theorem dX5_isLane_0 : decode cX5_isLane 0 = .ok (.iload_n 0, 1) := by decide +kernel
theorem dX5_isLane_1 : decode cX5_isLane 1 = .ok (.i2l, 1) := by decide +kernel
theorem dX5_isLane_2 : decode cX5_isLane 2 = .ok (.lconst 0, 1) := by decide +kernel
theorem dX5_isLane_3 : decode cX5_isLane 3 = .ok (.ldc2_w 45, 3) := by decide +kernel
theorem dX5_isLane_6 : decode cX5_isLane 6 = .ok (.invokestatic 41, 3) := by decide +kernel
theorem dX5_isLane_9 : decode cX5_isLane 9 = .ok (.ireturn, 1) := by decide +kernel
theorem dX5_why_0 : decode cX5_why 0 = .ok (.aload_n 0, 1) := by decide +kernel
theorem dX5_why_1 : decode cX5_why 1 = .ok (.getfield 28, 3) := by decide +kernel
theorem dX5_why_4 : decode cX5_why 4 = .ok (.iload_n 1, 1) := by decide +kernel
theorem dX5_why_5 : decode cX5_why 5 = .ok (.iaload, 1) := by decide +kernel
theorem dX5_why_6 : decode cX5_why 6 = .ok (.ifCond .ge 6, 3) := by decide +kernel
theorem dX5_why_9 : decode cX5_why 9 = .ok (.bipush (-11), 2) := by decide +kernel
theorem dX5_why_11 : decode cX5_why 11 = .ok (.ireturn, 1) := by decide +kernel
theorem dX5_why_12 : decode cX5_why 12 = .ok (.aload_n 0, 1) := by decide +kernel
theorem dX5_why_13 : decode cX5_why 13 = .ok (.getfield 28, 3) := by decide +kernel
theorem dX5_why_16 : decode cX5_why 16 = .ok (.iload_n 1, 1) := by decide +kernel
theorem dX5_why_17 : decode cX5_why 17 = .ok (.iaload, 1) := by decide +kernel
theorem dX5_why_18 : decode cX5_why 18 = .ok (.iload_n 2, 1) := by decide +kernel
theorem dX5_why_19 : decode cX5_why 19 = .ok (.if_icmp .eq 6, 3) := by decide +kernel
theorem dX5_why_22 : decode cX5_why 22 = .ok (.bipush (-12), 2) := by decide +kernel
theorem dX5_why_24 : decode cX5_why 24 = .ok (.ireturn, 1) := by decide +kernel
theorem dX5_why_25 : decode cX5_why 25 = .ok (.iload_n 3, 1) := by decide +kernel
theorem dX5_why_26 : decode cX5_why 26 = .ok (.ifCond .lt 25, 3) := by decide +kernel
theorem dX5_why_29 : decode cX5_why 29 = .ok (.iload 4, 2) := by decide +kernel
theorem dX5_why_31 : decode cX5_why 31 = .ok (.ifCond .lt 20, 3) := by decide +kernel
theorem dX5_why_34 : decode cX5_why 34 = .ok (.iload_n 3, 1) := by decide +kernel
theorem dX5_why_35 : decode cX5_why 35 = .ok (.i2l, 1) := by decide +kernel
theorem dX5_why_36 : decode cX5_why 36 = .ok (.iload 4, 2) := by decide +kernel
theorem dX5_why_38 : decode cX5_why 38 = .ok (.i2l, 1) := by decide +kernel
theorem dX5_why_39 : decode cX5_why 39 = .ok (.ladd, 1) := by decide +kernel
theorem dX5_why_40 : decode cX5_why 40 = .ok (.aload_n 0, 1) := by decide +kernel
theorem dX5_why_41 : decode cX5_why 41 = .ok (.getfield 31, 3) := by decide +kernel
theorem dX5_why_44 : decode cX5_why 44 = .ok (.iload_n 1, 1) := by decide +kernel
theorem dX5_why_45 : decode cX5_why 45 = .ok (.iaload, 1) := by decide +kernel
theorem dX5_why_46 : decode cX5_why 46 = .ok (.i2l, 1) := by decide +kernel
theorem dX5_why_47 : decode cX5_why 47 = .ok (.lcmp, 1) := by decide +kernel
theorem dX5_why_48 : decode cX5_why 48 = .ok (.ifCond .le 8, 3) := by decide +kernel
theorem dX5_why_51 : decode cX5_why 51 = .ok (.bipush (-13), 2) := by decide +kernel
theorem dX5_why_53 : decode cX5_why 53 = .ok (.goto 4, 3) := by decide +kernel
theorem dX5_why_56 : decode cX5_why 56 = .ok (.iconst 0, 1) := by decide +kernel
theorem dX5_why_57 : decode cX5_why 57 = .ok (.ireturn, 1) := by decide +kernel
theorem dX5_lowest_0 : decode cX5_lowest 0 = .ok (.iload_n 0, 1) := by decide +kernel
theorem dX5_lowest_1 : decode cX5_lowest 1 = .ok (.ifCond .ne 10, 3) := by decide +kernel
theorem dX5_lowest_4 : decode cX5_lowest 4 = .ok (.lload_n 1, 1) := by decide +kernel
theorem dX5_lowest_5 : decode cX5_lowest 5 = .ok (.l2i, 1) := by decide +kernel
theorem dX5_lowest_6 : decode cX5_lowest 6 = .ok (.i2b, 1) := by decide +kernel
theorem dX5_lowest_7 : decode cX5_lowest 7 = .ok (.i2l, 1) := by decide +kernel
theorem dX5_lowest_8 : decode cX5_lowest 8 = .ok (.goto 27, 3) := by decide +kernel
theorem dX5_lowest_11 : decode cX5_lowest 11 = .ok (.iload_n 0, 1) := by decide +kernel
theorem dX5_lowest_12 : decode cX5_lowest 12 = .ok (.iconst 1, 1) := by decide +kernel
theorem dX5_lowest_13 : decode cX5_lowest 13 = .ok (.if_icmp .ne 10, 3) := by decide +kernel
theorem dX5_lowest_16 : decode cX5_lowest 16 = .ok (.lload_n 1, 1) := by decide +kernel
theorem dX5_lowest_17 : decode cX5_lowest 17 = .ok (.l2i, 1) := by decide +kernel
theorem dX5_lowest_18 : decode cX5_lowest 18 = .ok (.i2s, 1) := by decide +kernel
theorem dX5_lowest_19 : decode cX5_lowest 19 = .ok (.i2l, 1) := by decide +kernel
theorem dX5_lowest_20 : decode cX5_lowest 20 = .ok (.goto 15, 3) := by decide +kernel
theorem dX5_lowest_23 : decode cX5_lowest 23 = .ok (.iload_n 0, 1) := by decide +kernel
theorem dX5_lowest_24 : decode cX5_lowest 24 = .ok (.iconst 2, 1) := by decide +kernel
theorem dX5_lowest_25 : decode cX5_lowest 25 = .ok (.if_icmp .ne 9, 3) := by decide +kernel
theorem dX5_lowest_28 : decode cX5_lowest 28 = .ok (.lload_n 1, 1) := by decide +kernel
theorem dX5_lowest_29 : decode cX5_lowest 29 = .ok (.l2i, 1) := by decide +kernel
theorem dX5_lowest_30 : decode cX5_lowest 30 = .ok (.i2l, 1) := by decide +kernel
theorem dX5_lowest_31 : decode cX5_lowest 31 = .ok (.goto 4, 3) := by decide +kernel
theorem dX5_lowest_34 : decode cX5_lowest 34 = .ok (.lload_n 1, 1) := by decide +kernel
theorem dX5_lowest_35 : decode cX5_lowest 35 = .ok (.lreturn, 1) := by decide +kernel
theorem dX5_done_0 : decode cX5_done 0 = .ok (.aload_n 0, 1) := by decide +kernel
theorem dX5_done_1 : decode cX5_done 1 = .ok (.iload_n 1, 1) := by decide +kernel
theorem dX5_done_2 : decode cX5_done 2 = .ok (.invokevirtual 93, 3) := by decide +kernel
theorem dX5_done_5 : decode cX5_done 5 = .ok (.ifCond .eq 28, 3) := by decide +kernel
theorem dX5_done_8 : decode cX5_done 8 = .ok (.iload_n 2, 1) := by decide +kernel
theorem dX5_done_9 : decode cX5_done 9 = .ok (.invokestatic 194, 3) := by decide +kernel
theorem dX5_done_12 : decode cX5_done 12 = .ok (.ifCond .eq 21, 3) := by decide +kernel
theorem dX5_done_15 : decode cX5_done 15 = .ok (.iload_n 3, 1) := by decide +kernel
theorem dX5_done_16 : decode cX5_done 16 = .ok (.invokestatic 197, 3) := by decide +kernel
theorem dX5_done_19 : decode cX5_done 19 = .ok (.ifCond .eq 14, 3) := by decide +kernel
theorem dX5_done_22 : decode cX5_done 22 = .ok (.iload 5, 2) := by decide +kernel
theorem dX5_done_24 : decode cX5_done 24 = .ok (.i2l, 1) := by decide +kernel
theorem dX5_done_25 : decode cX5_done 25 = .ok (.lconst 0, 1) := by decide +kernel
theorem dX5_done_26 : decode cX5_done 26 = .ok (.lconst 1, 1) := by decide +kernel
theorem dX5_done_27 : decode cX5_done 27 = .ok (.invokestatic 41, 3) := by decide +kernel
theorem dX5_done_30 : decode cX5_done 30 = .ok (.ifCond .ne 5, 3) := by decide +kernel
theorem dX5_done_33 : decode cX5_done 33 = .ok (.iconst (-1), 1) := by decide +kernel
theorem dX5_done_34 : decode cX5_done 34 = .ok (.ireturn, 1) := by decide +kernel
theorem dX5_done_35 : decode cX5_done 35 = .ok (.aload_n 0, 1) := by decide +kernel
theorem dX5_done_36 : decode cX5_done 36 = .ok (.iload_n 2, 1) := by decide +kernel
theorem dX5_done_37 : decode cX5_done 37 = .ok (.iload_n 3, 1) := by decide +kernel
theorem dX5_done_38 : decode cX5_done 38 = .ok (.iload 4, 2) := by decide +kernel
theorem dX5_done_40 : decode cX5_done 40 = .ok (.iconst 4, 1) := by decide +kernel
theorem dX5_done_41 : decode cX5_done 41 = .ok (.invokevirtual 200, 3) := by decide +kernel
theorem dX5_done_44 : decode cX5_done 44 = .ok (.istore 6, 2) := by decide +kernel
theorem dX5_done_46 : decode cX5_done 46 = .ok (.iload 6, 2) := by decide +kernel
theorem dX5_done_48 : decode cX5_done 48 = .ok (.ifCond .ge 6, 3) := by decide +kernel
theorem dX5_done_51 : decode cX5_done 51 = .ok (.iload 6, 2) := by decide +kernel
theorem dX5_done_53 : decode cX5_done 53 = .ok (.ireturn, 1) := by decide +kernel
theorem dX5_done_54 : decode cX5_done 54 = .ok (.iconst 0, 1) := by decide +kernel
theorem dX5_done_55 : decode cX5_done 55 = .ok (.istore 7, 2) := by decide +kernel
theorem dX5_done_57 : decode cX5_done 57 = .ok (.bipush (-4), 2) := by decide +kernel
theorem dX5_done_59 : decode cX5_done 59 = .ok (.istore 8, 2) := by decide +kernel
theorem dX5_done_61 : decode cX5_done 61 = .ok (.iconst 1, 1) := by decide +kernel
theorem dX5_done_62 : decode cX5_done 62 = .ok (.istore 9, 2) := by decide +kernel
theorem dX5_done_64 : decode cX5_done 64 = .ok (.iload 9, 2) := by decide +kernel
theorem dX5_done_66 : decode cX5_done 66 = .ok (.bipush 10, 2) := by decide +kernel
theorem dX5_done_68 : decode cX5_done 68 = .ok (.if_icmp .ge 170, 3) := by decide +kernel
theorem dX5_done_71 : decode cX5_done 71 = .ok (.iconst 1, 1) := by decide +kernel
theorem dX5_done_72 : decode cX5_done 72 = .ok (.istore 10, 2) := by decide +kernel
theorem dX5_done_74 : decode cX5_done 74 = .ok (.iload 10, 2) := by decide +kernel
theorem dX5_done_76 : decode cX5_done 76 = .ok (.bipush 64, 2) := by decide +kernel
theorem dX5_done_78 : decode cX5_done 78 = .ok (.if_icmp .ge 154, 3) := by decide +kernel
theorem dX5_done_81 : decode cX5_done 81 = .ok (.iconst 1, 1) := by decide +kernel
theorem dX5_done_82 : decode cX5_done 82 = .ok (.istore 11, 2) := by decide +kernel
theorem dX5_done_84 : decode cX5_done 84 = .ok (.iconst 0, 1) := by decide +kernel
theorem dX5_done_85 : decode cX5_done 85 = .ok (.istore 12, 2) := by decide +kernel
theorem dX5_done_87 : decode cX5_done 87 = .ok (.iload 12, 2) := by decide +kernel
theorem dX5_done_89 : decode cX5_done 89 = .ok (.iconst 4, 1) := by decide +kernel
theorem dX5_done_90 : decode cX5_done 90 = .ok (.if_icmp .ge 96, 3) := by decide +kernel
theorem dX5_done_93 : decode cX5_done 93 = .ok (.iconst 0, 1) := by decide +kernel
theorem dX5_done_94 : decode cX5_done 94 = .ok (.istore 13, 2) := by decide +kernel
theorem dX5_done_96 : decode cX5_done 96 = .ok (.iconst 0, 1) := by decide +kernel
theorem dX5_done_97 : decode cX5_done 97 = .ok (.istore 14, 2) := by decide +kernel
theorem dX5_done_99 : decode cX5_done 99 = .ok (.iload 14, 2) := by decide +kernel
theorem dX5_done_101 : decode cX5_done 101 = .ok (.bipush 6, 2) := by decide +kernel
theorem dX5_done_103 : decode cX5_done 103 = .ok (.if_icmp .ge 43, 3) := by decide +kernel
theorem dX5_done_106 : decode cX5_done 106 = .ok (.iload 13, 2) := by decide +kernel
theorem dX5_done_108 : decode cX5_done 108 = .ok (.iload 10, 2) := by decide +kernel
theorem dX5_done_110 : decode cX5_done 110 = .ok (.iload 14, 2) := by decide +kernel
theorem dX5_done_112 : decode cX5_done 112 = .ok (.ishr, 1) := by decide +kernel
theorem dX5_done_113 : decode cX5_done 113 = .ok (.iconst 1, 1) := by decide +kernel
theorem dX5_done_114 : decode cX5_done 114 = .ok (.iand, 1) := by decide +kernel
theorem dX5_done_115 : decode cX5_done 115 = .ok (.iconst 1, 1) := by decide +kernel
theorem dX5_done_116 : decode cX5_done 116 = .ok (.if_icmp .ne 20, 3) := by decide +kernel
theorem dX5_done_119 : decode cX5_done 119 = .ok (.aload_n 0, 1) := by decide +kernel
theorem dX5_done_120 : decode cX5_done 120 = .ok (.iload_n 1, 1) := by decide +kernel
theorem dX5_done_121 : decode cX5_done 121 = .ok (.invokevirtual 58, 3) := by decide +kernel
theorem dX5_done_124 : decode cX5_done 124 = .ok (.iload 14, 2) := by decide +kernel
theorem dX5_done_126 : decode cX5_done 126 = .ok (.iload 12, 2) := by decide +kernel
theorem dX5_done_128 : decode cX5_done 128 = .ok (.iload 9, 2) := by decide +kernel
theorem dX5_done_130 : decode cX5_done 130 = .ok (.invokestatic 66, 3) := by decide +kernel
theorem dX5_done_133 : decode cX5_done 133 = .ok (.goto 4, 3) := by decide +kernel
theorem dX5_done_136 : decode cX5_done 136 = .ok (.iconst 0, 1) := by decide +kernel
theorem dX5_done_137 : decode cX5_done 137 = .ok (.iadd, 1) := by decide +kernel
theorem dX5_done_138 : decode cX5_done 138 = .ok (.istore 13, 2) := by decide +kernel
theorem dX5_done_140 : decode cX5_done 140 = .ok (.iinc 14 1, 3) := by decide +kernel
theorem dX5_done_143 : decode cX5_done 143 = .ok (.goto (-44), 3) := by decide +kernel
theorem dX5_done_146 : decode cX5_done 146 = .ok (.iload 11, 2) := by decide +kernel
theorem dX5_done_148 : decode cX5_done 148 = .ok (.ifCond .eq 29, 3) := by decide +kernel
theorem dX5_done_151 : decode cX5_done 151 = .ok (.iload 13, 2) := by decide +kernel
theorem dX5_done_153 : decode cX5_done 153 = .ok (.i2l, 1) := by decide +kernel
theorem dX5_done_154 : decode cX5_done 154 = .ok (.aload_n 0, 1) := by decide +kernel
theorem dX5_done_155 : decode cX5_done 155 = .ok (.getfield 34, 3) := by decide +kernel
theorem dX5_done_158 : decode cX5_done 158 = .ok (.bipush 24, 2) := by decide +kernel
theorem dX5_done_160 : decode cX5_done 160 = .ok (.iload_n 2, 1) := by decide +kernel
theorem dX5_done_161 : decode cX5_done 161 = .ok (.imul, 1) := by decide +kernel
theorem dX5_done_162 : decode cX5_done 162 = .ok (.iload 4, 2) := by decide +kernel
theorem dX5_done_164 : decode cX5_done 164 = .ok (.iadd, 1) := by decide +kernel
theorem dX5_done_165 : decode cX5_done 165 = .ok (.iload 12, 2) := by decide +kernel
theorem dX5_done_167 : decode cX5_done 167 = .ok (.iadd, 1) := by decide +kernel
theorem dX5_done_168 : decode cX5_done 168 = .ok (.laload, 1) := by decide +kernel
theorem dX5_done_169 : decode cX5_done 169 = .ok (.lcmp, 1) := by decide +kernel
theorem dX5_done_170 : decode cX5_done 170 = .ok (.ifCond .ne 7, 3) := by decide +kernel
theorem dX5_done_173 : decode cX5_done 173 = .ok (.iconst 1, 1) := by decide +kernel
theorem dX5_done_174 : decode cX5_done 174 = .ok (.goto 4, 3) := by decide +kernel
theorem dX5_done_177 : decode cX5_done 177 = .ok (.iconst 0, 1) := by decide +kernel
theorem dX5_done_178 : decode cX5_done 178 = .ok (.istore 11, 2) := by decide +kernel
theorem dX5_done_180 : decode cX5_done 180 = .ok (.iinc 12 1, 3) := by decide +kernel
theorem dX5_done_183 : decode cX5_done 183 = .ok (.goto (-96), 3) := by decide +kernel
theorem dX5_done_186 : decode cX5_done 186 = .ok (.iload 11, 2) := by decide +kernel
theorem dX5_done_188 : decode cX5_done 188 = .ok (.ifCond .eq 19, 3) := by decide +kernel
theorem dX5_done_191 : decode cX5_done 191 = .ok (.iload 7, 2) := by decide +kernel
theorem dX5_done_193 : decode cX5_done 193 = .ok (.ifCond .ne 14, 3) := by decide +kernel
theorem dX5_done_196 : decode cX5_done 196 = .ok (.bipush 100, 2) := by decide +kernel
theorem dX5_done_198 : decode cX5_done 198 = .ok (.iload 9, 2) := by decide +kernel
theorem dX5_done_200 : decode cX5_done 200 = .ok (.imul, 1) := by decide +kernel
theorem dX5_done_201 : decode cX5_done 201 = .ok (.iload 10, 2) := by decide +kernel
theorem dX5_done_203 : decode cX5_done 203 = .ok (.iadd, 1) := by decide +kernel
theorem dX5_done_204 : decode cX5_done 204 = .ok (.goto 5, 3) := by decide +kernel
theorem dX5_done_207 : decode cX5_done 207 = .ok (.iload 8, 2) := by decide +kernel
theorem dX5_done_209 : decode cX5_done 209 = .ok (.istore 8, 2) := by decide +kernel
theorem dX5_done_211 : decode cX5_done 211 = .ok (.iload 7, 2) := by decide +kernel
theorem dX5_done_213 : decode cX5_done 213 = .ok (.iload 11, 2) := by decide +kernel
theorem dX5_done_215 : decode cX5_done 215 = .ok (.ifCond .eq 7, 3) := by decide +kernel
theorem dX5_done_218 : decode cX5_done 218 = .ok (.iconst 1, 1) := by decide +kernel
theorem dX5_done_219 : decode cX5_done 219 = .ok (.goto 4, 3) := by decide +kernel
theorem dX5_done_222 : decode cX5_done 222 = .ok (.iconst 0, 1) := by decide +kernel
theorem dX5_done_223 : decode cX5_done 223 = .ok (.iadd, 1) := by decide +kernel
theorem dX5_done_224 : decode cX5_done 224 = .ok (.istore 7, 2) := by decide +kernel
theorem dX5_done_226 : decode cX5_done 226 = .ok (.iinc 10 1, 3) := by decide +kernel
theorem dX5_done_229 : decode cX5_done 229 = .ok (.goto (-155), 3) := by decide +kernel
theorem dX5_done_232 : decode cX5_done 232 = .ok (.iinc 9 1, 3) := by decide +kernel
theorem dX5_done_235 : decode cX5_done 235 = .ok (.goto (-171), 3) := by decide +kernel
theorem dX5_done_238 : decode cX5_done 238 = .ok (.iload 5, 2) := by decide +kernel
theorem dX5_done_240 : decode cX5_done 240 = .ok (.ifCond .ne 8, 3) := by decide +kernel
theorem dX5_done_243 : decode cX5_done 243 = .ok (.iload 7, 2) := by decide +kernel
theorem dX5_done_245 : decode cX5_done 245 = .ok (.goto 5, 3) := by decide +kernel
theorem dX5_done_248 : decode cX5_done 248 = .ok (.iload 8, 2) := by decide +kernel
theorem dX5_done_250 : decode cX5_done 250 = .ok (.ireturn, 1) := by decide +kernel
theorem dX5_film_0 : decode cX5_film 0 = .ok (.aload_n 0, 1) := by decide +kernel
theorem dX5_film_1 : decode cX5_film 1 = .ok (.iload_n 1, 1) := by decide +kernel
theorem dX5_film_2 : decode cX5_film 2 = .ok (.invokevirtual 93, 3) := by decide +kernel
theorem dX5_film_5 : decode cX5_film 5 = .ok (.ifCond .eq 38, 3) := by decide +kernel
theorem dX5_film_8 : decode cX5_film 8 = .ok (.iload_n 2, 1) := by decide +kernel
theorem dX5_film_9 : decode cX5_film 9 = .ok (.invokestatic 97, 3) := by decide +kernel
theorem dX5_film_12 : decode cX5_film 12 = .ok (.ifCond .eq 31, 3) := by decide +kernel
theorem dX5_film_15 : decode cX5_film 15 = .ok (.iload_n 3, 1) := by decide +kernel
theorem dX5_film_16 : decode cX5_film 16 = .ok (.i2l, 1) := by decide +kernel
theorem dX5_film_17 : decode cX5_film 17 = .ok (.lconst 1, 1) := by decide +kernel
theorem dX5_film_18 : decode cX5_film 18 = .ok (.ldc2_w 203, 3) := by decide +kernel
theorem dX5_film_21 : decode cX5_film 21 = .ok (.invokestatic 41, 3) := by decide +kernel
theorem dX5_film_24 : decode cX5_film 24 = .ok (.ifCond .eq 19, 3) := by decide +kernel
theorem dX5_film_27 : decode cX5_film 27 = .ok (.iload 4, 2) := by decide +kernel
theorem dX5_film_29 : decode cX5_film 29 = .ok (.invokestatic 194, 3) := by decide +kernel
theorem dX5_film_32 : decode cX5_film 32 = .ok (.ifCond .eq 11, 3) := by decide +kernel
theorem dX5_film_35 : decode cX5_film 35 = .ok (.iload 5, 2) := by decide +kernel
theorem dX5_film_37 : decode cX5_film 37 = .ok (.invokestatic 197, 3) := by decide +kernel
theorem dX5_film_40 : decode cX5_film 40 = .ok (.ifCond .ne 5, 3) := by decide +kernel
theorem dX5_film_43 : decode cX5_film 43 = .ok (.iconst (-1), 1) := by decide +kernel
theorem dX5_film_44 : decode cX5_film 44 = .ok (.ireturn, 1) := by decide +kernel
theorem dX5_film_45 : decode cX5_film 45 = .ok (.aload_n 0, 1) := by decide +kernel
theorem dX5_film_46 : decode cX5_film 46 = .ok (.iload 4, 2) := by decide +kernel
theorem dX5_film_48 : decode cX5_film 48 = .ok (.iload 5, 2) := by decide +kernel
theorem dX5_film_50 : decode cX5_film 50 = .ok (.iload 6, 2) := by decide +kernel
theorem dX5_film_52 : decode cX5_film 52 = .ok (.iload_n 3, 1) := by decide +kernel
theorem dX5_film_53 : decode cX5_film 53 = .ok (.invokevirtual 200, 3) := by decide +kernel
theorem dX5_film_56 : decode cX5_film 56 = .ok (.istore 7, 2) := by decide +kernel
theorem dX5_film_58 : decode cX5_film 58 = .ok (.iload 7, 2) := by decide +kernel
theorem dX5_film_60 : decode cX5_film 60 = .ok (.ifCond .ge 6, 3) := by decide +kernel
theorem dX5_film_63 : decode cX5_film 63 = .ok (.iload 7, 2) := by decide +kernel
theorem dX5_film_65 : decode cX5_film 65 = .ok (.ireturn, 1) := by decide +kernel
theorem dX5_film_66 : decode cX5_film 66 = .ok (.iconst 0, 1) := by decide +kernel
theorem dX5_film_67 : decode cX5_film 67 = .ok (.istore 8, 2) := by decide +kernel
theorem dX5_film_69 : decode cX5_film 69 = .ok (.iload 8, 2) := by decide +kernel
theorem dX5_film_71 : decode cX5_film 71 = .ok (.iload_n 3, 1) := by decide +kernel
theorem dX5_film_72 : decode cX5_film 72 = .ok (.if_icmp .ge 55, 3) := by decide +kernel
theorem dX5_film_75 : decode cX5_film 75 = .ok (.aload_n 0, 1) := by decide +kernel
theorem dX5_film_76 : decode cX5_film 76 = .ok (.getfield 34, 3) := by decide +kernel
theorem dX5_film_79 : decode cX5_film 79 = .ok (.bipush 24, 2) := by decide +kernel
theorem dX5_film_81 : decode cX5_film 81 = .ok (.iload 4, 2) := by decide +kernel
theorem dX5_film_83 : decode cX5_film 83 = .ok (.imul, 1) := by decide +kernel
theorem dX5_film_84 : decode cX5_film 84 = .ok (.iload 6, 2) := by decide +kernel
theorem dX5_film_86 : decode cX5_film 86 = .ok (.iadd, 1) := by decide +kernel
theorem dX5_film_87 : decode cX5_film 87 = .ok (.iload 8, 2) := by decide +kernel
theorem dX5_film_89 : decode cX5_film 89 = .ok (.iadd, 1) := by decide +kernel
theorem dX5_film_90 : decode cX5_film 90 = .ok (.iload 5, 2) := by decide +kernel
theorem dX5_film_92 : decode cX5_film 92 = .ok (.aload_n 0, 1) := by decide +kernel
theorem dX5_film_93 : decode cX5_film 93 = .ok (.iload_n 1, 1) := by decide +kernel
theorem dX5_film_94 : decode cX5_film 94 = .ok (.iload_n 2, 1) := by decide +kernel
theorem dX5_film_95 : decode cX5_film 95 = .ok (.aload_n 0, 1) := by decide +kernel
theorem dX5_film_96 : decode cX5_film 96 = .ok (.getfield 7, 3) := by decide +kernel
theorem dX5_film_99 : decode cX5_film 99 = .ok (.iconst 3, 1) := by decide +kernel
theorem dX5_film_100 : decode cX5_film 100 = .ok (.iaload, 1) := by decide +kernel
theorem dX5_film_101 : decode cX5_film 101 = .ok (.iload 8, 2) := by decide +kernel
theorem dX5_film_103 : decode cX5_film 103 = .ok (.iadd, 1) := by decide +kernel
theorem dX5_film_104 : decode cX5_film 104 = .ok (.iconst 1, 1) := by decide +kernel
theorem dX5_film_105 : decode cX5_film 105 = .ok (.iadd, 1) := by decide +kernel
theorem dX5_film_106 : decode cX5_film 106 = .ok (.aload_n 0, 1) := by decide +kernel
theorem dX5_film_107 : decode cX5_film 107 = .ok (.getfield 7, 3) := by decide +kernel
theorem dX5_film_110 : decode cX5_film 110 = .ok (.bipush 6, 2) := by decide +kernel
theorem dX5_film_112 : decode cX5_film 112 = .ok (.iaload, 1) := by decide +kernel
theorem dX5_film_113 : decode cX5_film 113 = .ok (.invokevirtual 70, 3) := by decide +kernel
theorem dX5_film_116 : decode cX5_film 116 = .ok (.i2l, 1) := by decide +kernel
theorem dX5_film_117 : decode cX5_film 117 = .ok (.invokestatic 205, 3) := by decide +kernel
theorem dX5_film_120 : decode cX5_film 120 = .ok (.lastore, 1) := by decide +kernel
theorem dX5_film_121 : decode cX5_film 121 = .ok (.iinc 8 1, 3) := by decide +kernel
theorem dX5_film_124 : decode cX5_film 124 = .ok (.goto (-55), 3) := by decide +kernel
theorem dX5_film_127 : decode cX5_film 127 = .ok (.iload_n 3, 1) := by decide +kernel
theorem dX5_film_128 : decode cX5_film 128 = .ok (.ireturn, 1) := by decide +kernel
theorem dX5_sheet_0 : decode cX5_sheet 0 = .ok (.iload_n 1, 1) := by decide +kernel
theorem dX5_sheet_1 : decode cX5_sheet 1 = .ok (.invokestatic 194, 3) := by decide +kernel
theorem dX5_sheet_4 : decode cX5_sheet 4 = .ok (.ifCond .eq 16, 3) := by decide +kernel
theorem dX5_sheet_7 : decode cX5_sheet 7 = .ok (.iload_n 2, 1) := by decide +kernel
theorem dX5_sheet_8 : decode cX5_sheet 8 = .ok (.invokestatic 197, 3) := by decide +kernel
theorem dX5_sheet_11 : decode cX5_sheet 11 = .ok (.ifCond .eq 9, 3) := by decide +kernel
theorem dX5_sheet_14 : decode cX5_sheet 14 = .ok (.iload_n 3, 1) := by decide +kernel
theorem dX5_sheet_15 : decode cX5_sheet 15 = .ok (.bipush 24, 2) := by decide +kernel
theorem dX5_sheet_17 : decode cX5_sheet 17 = .ok (.if_icmp .le 5, 3) := by decide +kernel
theorem dX5_sheet_20 : decode cX5_sheet 20 = .ok (.iconst (-1), 1) := by decide +kernel
theorem dX5_sheet_21 : decode cX5_sheet 21 = .ok (.ireturn, 1) := by decide +kernel
theorem dX5_sheet_22 : decode cX5_sheet 22 = .ok (.iload_n 3, 1) := by decide +kernel
theorem dX5_sheet_23 : decode cX5_sheet 23 = .ok (.ifCond .ge 6, 3) := by decide +kernel
theorem dX5_sheet_26 : decode cX5_sheet 26 = .ok (.bipush (-14), 2) := by decide +kernel
theorem dX5_sheet_28 : decode cX5_sheet 28 = .ok (.ireturn, 1) := by decide +kernel
theorem dX5_sheet_29 : decode cX5_sheet 29 = .ok (.aload_n 0, 1) := by decide +kernel
theorem dX5_sheet_30 : decode cX5_sheet 30 = .ok (.getfield 28, 3) := by decide +kernel
theorem dX5_sheet_33 : decode cX5_sheet 33 = .ok (.iload_n 1, 1) := by decide +kernel
theorem dX5_sheet_34 : decode cX5_sheet 34 = .ok (.iload_n 2, 1) := by decide +kernel
theorem dX5_sheet_35 : decode cX5_sheet 35 = .ok (.iastore, 1) := by decide +kernel
theorem dX5_sheet_36 : decode cX5_sheet 36 = .ok (.aload_n 0, 1) := by decide +kernel
theorem dX5_sheet_37 : decode cX5_sheet 37 = .ok (.getfield 31, 3) := by decide +kernel
theorem dX5_sheet_40 : decode cX5_sheet 40 = .ok (.iload_n 1, 1) := by decide +kernel
theorem dX5_sheet_41 : decode cX5_sheet 41 = .ok (.iload_n 3, 1) := by decide +kernel
theorem dX5_sheet_42 : decode cX5_sheet 42 = .ok (.iastore, 1) := by decide +kernel
theorem dX5_sheet_43 : decode cX5_sheet 43 = .ok (.iconst 0, 1) := by decide +kernel
theorem dX5_sheet_44 : decode cX5_sheet 44 = .ok (.istore 4, 2) := by decide +kernel
theorem dX5_sheet_46 : decode cX5_sheet 46 = .ok (.iload 4, 2) := by decide +kernel
theorem dX5_sheet_48 : decode cX5_sheet 48 = .ok (.bipush 24, 2) := by decide +kernel
theorem dX5_sheet_50 : decode cX5_sheet 50 = .ok (.if_icmp .ge 22, 3) := by decide +kernel
theorem dX5_sheet_53 : decode cX5_sheet 53 = .ok (.aload_n 0, 1) := by decide +kernel
theorem dX5_sheet_54 : decode cX5_sheet 54 = .ok (.getfield 34, 3) := by decide +kernel
theorem dX5_sheet_57 : decode cX5_sheet 57 = .ok (.bipush 24, 2) := by decide +kernel
theorem dX5_sheet_59 : decode cX5_sheet 59 = .ok (.iload_n 1, 1) := by decide +kernel
theorem dX5_sheet_60 : decode cX5_sheet 60 = .ok (.imul, 1) := by decide +kernel
theorem dX5_sheet_61 : decode cX5_sheet 61 = .ok (.iload 4, 2) := by decide +kernel
theorem dX5_sheet_63 : decode cX5_sheet 63 = .ok (.iadd, 1) := by decide +kernel
theorem dX5_sheet_64 : decode cX5_sheet 64 = .ok (.lconst 0, 1) := by decide +kernel
theorem dX5_sheet_65 : decode cX5_sheet 65 = .ok (.lastore, 1) := by decide +kernel
theorem dX5_sheet_66 : decode cX5_sheet 66 = .ok (.iinc 4 1, 3) := by decide +kernel
theorem dX5_sheet_69 : decode cX5_sheet 69 = .ok (.goto (-23), 3) := by decide +kernel
theorem dX5_sheet_72 : decode cX5_sheet 72 = .ok (.iload_n 3, 1) := by decide +kernel
theorem dX5_sheet_73 : decode cX5_sheet 73 = .ok (.ireturn, 1) := by decide +kernel
theorem dX5_drop_0 : decode cX5_drop 0 = .ok (.iload_n 1, 1) := by decide +kernel
theorem dX5_drop_1 : decode cX5_drop 1 = .ok (.invokestatic 194, 3) := by decide +kernel
theorem dX5_drop_4 : decode cX5_drop 4 = .ok (.ifCond .ne 5, 3) := by decide +kernel
theorem dX5_drop_7 : decode cX5_drop 7 = .ok (.iconst (-1), 1) := by decide +kernel
theorem dX5_drop_8 : decode cX5_drop 8 = .ok (.ireturn, 1) := by decide +kernel
theorem dX5_drop_9 : decode cX5_drop 9 = .ok (.aload_n 0, 1) := by decide +kernel
theorem dX5_drop_10 : decode cX5_drop 10 = .ok (.getfield 28, 3) := by decide +kernel
theorem dX5_drop_13 : decode cX5_drop 13 = .ok (.iload_n 1, 1) := by decide +kernel
theorem dX5_drop_14 : decode cX5_drop 14 = .ok (.iaload, 1) := by decide +kernel
theorem dX5_drop_15 : decode cX5_drop 15 = .ok (.ifCond .ge 6, 3) := by decide +kernel
theorem dX5_drop_18 : decode cX5_drop 18 = .ok (.bipush (-11), 2) := by decide +kernel
theorem dX5_drop_20 : decode cX5_drop 20 = .ok (.ireturn, 1) := by decide +kernel
theorem dX5_drop_21 : decode cX5_drop 21 = .ok (.aload_n 0, 1) := by decide +kernel
theorem dX5_drop_22 : decode cX5_drop 22 = .ok (.getfield 28, 3) := by decide +kernel
theorem dX5_drop_25 : decode cX5_drop 25 = .ok (.iload_n 1, 1) := by decide +kernel
theorem dX5_drop_26 : decode cX5_drop 26 = .ok (.iconst (-1), 1) := by decide +kernel
theorem dX5_drop_27 : decode cX5_drop 27 = .ok (.iastore, 1) := by decide +kernel
theorem dX5_drop_28 : decode cX5_drop 28 = .ok (.aload_n 0, 1) := by decide +kernel
theorem dX5_drop_29 : decode cX5_drop 29 = .ok (.getfield 31, 3) := by decide +kernel
theorem dX5_drop_32 : decode cX5_drop 32 = .ok (.iload_n 1, 1) := by decide +kernel
theorem dX5_drop_33 : decode cX5_drop 33 = .ok (.iaload, 1) := by decide +kernel
theorem dX5_drop_34 : decode cX5_drop 34 = .ok (.ireturn, 1) := by decide +kernel
theorem dX5_item_0 : decode cX5_item 0 = .ok (.iload_n 1, 1) := by decide +kernel
theorem dX5_item_1 : decode cX5_item 1 = .ok (.invokestatic 194, 3) := by decide +kernel
theorem dX5_item_4 : decode cX5_item 4 = .ok (.ifCond .eq 10, 3) := by decide +kernel
theorem dX5_item_7 : decode cX5_item 7 = .ok (.iload_n 2, 1) := by decide +kernel
theorem dX5_item_8 : decode cX5_item 8 = .ok (.invokestatic 197, 3) := by decide +kernel
theorem dX5_item_11 : decode cX5_item 11 = .ok (.ifCond .ne 5, 3) := by decide +kernel
theorem dX5_item_14 : decode cX5_item 14 = .ok (.iconst (-1), 1) := by decide +kernel
theorem dX5_item_15 : decode cX5_item 15 = .ok (.ireturn, 1) := by decide +kernel
theorem dX5_item_16 : decode cX5_item 16 = .ok (.aload_n 0, 1) := by decide +kernel
theorem dX5_item_17 : decode cX5_item 17 = .ok (.iload_n 1, 1) := by decide +kernel
theorem dX5_item_18 : decode cX5_item 18 = .ok (.iload_n 2, 1) := by decide +kernel
theorem dX5_item_19 : decode cX5_item 19 = .ok (.iload_n 3, 1) := by decide +kernel
theorem dX5_item_20 : decode cX5_item 20 = .ok (.iconst 1, 1) := by decide +kernel
theorem dX5_item_21 : decode cX5_item 21 = .ok (.invokevirtual 200, 3) := by decide +kernel
theorem dX5_item_24 : decode cX5_item 24 = .ok (.istore 6, 2) := by decide +kernel
theorem dX5_item_26 : decode cX5_item 26 = .ok (.iload 6, 2) := by decide +kernel
theorem dX5_item_28 : decode cX5_item 28 = .ok (.ifCond .ge 6, 3) := by decide +kernel
theorem dX5_item_31 : decode cX5_item 31 = .ok (.iload 6, 2) := by decide +kernel
theorem dX5_item_33 : decode cX5_item 33 = .ok (.ireturn, 1) := by decide +kernel
theorem dX5_item_34 : decode cX5_item 34 = .ok (.aload_n 0, 1) := by decide +kernel
theorem dX5_item_35 : decode cX5_item 35 = .ok (.getfield 34, 3) := by decide +kernel
theorem dX5_item_38 : decode cX5_item 38 = .ok (.bipush 24, 2) := by decide +kernel
theorem dX5_item_40 : decode cX5_item 40 = .ok (.iload_n 1, 1) := by decide +kernel
theorem dX5_item_41 : decode cX5_item 41 = .ok (.imul, 1) := by decide +kernel
theorem dX5_item_42 : decode cX5_item 42 = .ok (.iload_n 3, 1) := by decide +kernel
theorem dX5_item_43 : decode cX5_item 43 = .ok (.iadd, 1) := by decide +kernel
theorem dX5_item_44 : decode cX5_item 44 = .ok (.iload_n 2, 1) := by decide +kernel
theorem dX5_item_45 : decode cX5_item 45 = .ok (.lload 4, 2) := by decide +kernel
theorem dX5_item_47 : decode cX5_item 47 = .ok (.invokestatic 205, 3) := by decide +kernel
theorem dX5_item_50 : decode cX5_item 50 = .ok (.lastore, 1) := by decide +kernel
theorem dX5_item_51 : decode cX5_item 51 = .ok (.iconst 1, 1) := by decide +kernel
theorem dX5_item_52 : decode cX5_item 52 = .ok (.ireturn, 1) := by decide +kernel
theorem dX5_copy_0 : decode cX5_copy 0 = .ok (.iload_n 1, 1) := by decide +kernel
theorem dX5_copy_1 : decode cX5_copy 1 = .ok (.invokestatic 194, 3) := by decide +kernel
theorem dX5_copy_4 : decode cX5_copy 4 = .ok (.ifCond .eq 10, 3) := by decide +kernel
theorem dX5_copy_7 : decode cX5_copy 7 = .ok (.iload_n 3, 1) := by decide +kernel
theorem dX5_copy_8 : decode cX5_copy 8 = .ok (.invokestatic 194, 3) := by decide +kernel
theorem dX5_copy_11 : decode cX5_copy 11 = .ok (.ifCond .ne 5, 3) := by decide +kernel
theorem dX5_copy_14 : decode cX5_copy 14 = .ok (.iconst (-1), 1) := by decide +kernel
theorem dX5_copy_15 : decode cX5_copy 15 = .ok (.ireturn, 1) := by decide +kernel
theorem dX5_copy_16 : decode cX5_copy 16 = .ok (.aload_n 0, 1) := by decide +kernel
theorem dX5_copy_17 : decode cX5_copy 17 = .ok (.getfield 28, 3) := by decide +kernel
theorem dX5_copy_20 : decode cX5_copy 20 = .ok (.iload_n 1, 1) := by decide +kernel
theorem dX5_copy_21 : decode cX5_copy 21 = .ok (.iaload, 1) := by decide +kernel
theorem dX5_copy_22 : decode cX5_copy 22 = .ok (.ifCond .lt 12, 3) := by decide +kernel
theorem dX5_copy_25 : decode cX5_copy 25 = .ok (.aload_n 0, 1) := by decide +kernel
theorem dX5_copy_26 : decode cX5_copy 26 = .ok (.getfield 28, 3) := by decide +kernel
theorem dX5_copy_29 : decode cX5_copy 29 = .ok (.iload_n 3, 1) := by decide +kernel
theorem dX5_copy_30 : decode cX5_copy 30 = .ok (.iaload, 1) := by decide +kernel
theorem dX5_copy_31 : decode cX5_copy 31 = .ok (.ifCond .ge 6, 3) := by decide +kernel
theorem dX5_copy_34 : decode cX5_copy 34 = .ok (.bipush (-11), 2) := by decide +kernel
theorem dX5_copy_36 : decode cX5_copy 36 = .ok (.ireturn, 1) := by decide +kernel
theorem dX5_copy_37 : decode cX5_copy 37 = .ok (.aload_n 0, 1) := by decide +kernel
theorem dX5_copy_38 : decode cX5_copy 38 = .ok (.iload_n 3, 1) := by decide +kernel
theorem dX5_copy_39 : decode cX5_copy 39 = .ok (.aload_n 0, 1) := by decide +kernel
theorem dX5_copy_40 : decode cX5_copy 40 = .ok (.getfield 28, 3) := by decide +kernel
theorem dX5_copy_43 : decode cX5_copy 43 = .ok (.iload_n 1, 1) := by decide +kernel
theorem dX5_copy_44 : decode cX5_copy 44 = .ok (.iaload, 1) := by decide +kernel
theorem dX5_copy_45 : decode cX5_copy 45 = .ok (.iload 4, 2) := by decide +kernel
theorem dX5_copy_47 : decode cX5_copy 47 = .ok (.iload 5, 2) := by decide +kernel
theorem dX5_copy_49 : decode cX5_copy 49 = .ok (.invokevirtual 200, 3) := by decide +kernel
theorem dX5_copy_52 : decode cX5_copy 52 = .ok (.istore 6, 2) := by decide +kernel
theorem dX5_copy_54 : decode cX5_copy 54 = .ok (.iload 6, 2) := by decide +kernel
theorem dX5_copy_56 : decode cX5_copy 56 = .ok (.ifCond .ne 20, 3) := by decide +kernel
theorem dX5_copy_59 : decode cX5_copy 59 = .ok (.aload_n 0, 1) := by decide +kernel
theorem dX5_copy_60 : decode cX5_copy 60 = .ok (.iload_n 1, 1) := by decide +kernel
theorem dX5_copy_61 : decode cX5_copy 61 = .ok (.aload_n 0, 1) := by decide +kernel
theorem dX5_copy_62 : decode cX5_copy 62 = .ok (.getfield 28, 3) := by decide +kernel
theorem dX5_copy_65 : decode cX5_copy 65 = .ok (.iload_n 1, 1) := by decide +kernel
theorem dX5_copy_66 : decode cX5_copy 66 = .ok (.iaload, 1) := by decide +kernel
theorem dX5_copy_67 : decode cX5_copy 67 = .ok (.iload_n 2, 1) := by decide +kernel
theorem dX5_copy_68 : decode cX5_copy 68 = .ok (.iload 5, 2) := by decide +kernel
theorem dX5_copy_70 : decode cX5_copy 70 = .ok (.invokevirtual 200, 3) := by decide +kernel
theorem dX5_copy_73 : decode cX5_copy 73 = .ok (.goto 5, 3) := by decide +kernel
theorem dX5_copy_76 : decode cX5_copy 76 = .ok (.iload 6, 2) := by decide +kernel
theorem dX5_copy_78 : decode cX5_copy 78 = .ok (.istore 6, 2) := by decide +kernel
theorem dX5_copy_80 : decode cX5_copy 80 = .ok (.iload 6, 2) := by decide +kernel
theorem dX5_copy_82 : decode cX5_copy 82 = .ok (.ifCond .ge 6, 3) := by decide +kernel
theorem dX5_copy_85 : decode cX5_copy 85 = .ok (.iload 6, 2) := by decide +kernel
theorem dX5_copy_87 : decode cX5_copy 87 = .ok (.ireturn, 1) := by decide +kernel
theorem dX5_copy_88 : decode cX5_copy 88 = .ok (.iconst 0, 1) := by decide +kernel
theorem dX5_copy_89 : decode cX5_copy 89 = .ok (.istore 7, 2) := by decide +kernel
theorem dX5_copy_91 : decode cX5_copy 91 = .ok (.iload 7, 2) := by decide +kernel
theorem dX5_copy_93 : decode cX5_copy 93 = .ok (.iload 5, 2) := by decide +kernel
theorem dX5_copy_95 : decode cX5_copy 95 = .ok (.if_icmp .ge 30, 3) := by decide +kernel
theorem dX5_copy_98 : decode cX5_copy 98 = .ok (.aload_n 0, 1) := by decide +kernel
theorem dX5_copy_99 : decode cX5_copy 99 = .ok (.getfield 38, 3) := by decide +kernel
theorem dX5_copy_102 : decode cX5_copy 102 = .ok (.iload 7, 2) := by decide +kernel
theorem dX5_copy_104 : decode cX5_copy 104 = .ok (.aload_n 0, 1) := by decide +kernel
theorem dX5_copy_105 : decode cX5_copy 105 = .ok (.getfield 34, 3) := by decide +kernel
theorem dX5_copy_108 : decode cX5_copy 108 = .ok (.bipush 24, 2) := by decide +kernel
theorem dX5_copy_110 : decode cX5_copy 110 = .ok (.iload_n 1, 1) := by decide +kernel
theorem dX5_copy_111 : decode cX5_copy 111 = .ok (.imul, 1) := by decide +kernel
theorem dX5_copy_112 : decode cX5_copy 112 = .ok (.iload_n 2, 1) := by decide +kernel
theorem dX5_copy_113 : decode cX5_copy 113 = .ok (.iadd, 1) := by decide +kernel
theorem dX5_copy_114 : decode cX5_copy 114 = .ok (.iload 7, 2) := by decide +kernel
theorem dX5_copy_116 : decode cX5_copy 116 = .ok (.iadd, 1) := by decide +kernel
theorem dX5_copy_117 : decode cX5_copy 117 = .ok (.laload, 1) := by decide +kernel
theorem dX5_copy_118 : decode cX5_copy 118 = .ok (.lastore, 1) := by decide +kernel
theorem dX5_copy_119 : decode cX5_copy 119 = .ok (.iinc 7 1, 3) := by decide +kernel
theorem dX5_copy_122 : decode cX5_copy 122 = .ok (.goto (-31), 3) := by decide +kernel
theorem dX5_copy_125 : decode cX5_copy 125 = .ok (.iconst 0, 1) := by decide +kernel
theorem dX5_copy_126 : decode cX5_copy 126 = .ok (.istore 7, 2) := by decide +kernel
theorem dX5_copy_128 : decode cX5_copy 128 = .ok (.iload 7, 2) := by decide +kernel
theorem dX5_copy_130 : decode cX5_copy 130 = .ok (.iload 5, 2) := by decide +kernel
theorem dX5_copy_132 : decode cX5_copy 132 = .ok (.if_icmp .ge 31, 3) := by decide +kernel
theorem dX5_copy_135 : decode cX5_copy 135 = .ok (.aload_n 0, 1) := by decide +kernel
theorem dX5_copy_136 : decode cX5_copy 136 = .ok (.getfield 34, 3) := by decide +kernel
theorem dX5_copy_139 : decode cX5_copy 139 = .ok (.bipush 24, 2) := by decide +kernel
theorem dX5_copy_141 : decode cX5_copy 141 = .ok (.iload_n 3, 1) := by decide +kernel
theorem dX5_copy_142 : decode cX5_copy 142 = .ok (.imul, 1) := by decide +kernel
theorem dX5_copy_143 : decode cX5_copy 143 = .ok (.iload 4, 2) := by decide +kernel
theorem dX5_copy_145 : decode cX5_copy 145 = .ok (.iadd, 1) := by decide +kernel
theorem dX5_copy_146 : decode cX5_copy 146 = .ok (.iload 7, 2) := by decide +kernel
theorem dX5_copy_148 : decode cX5_copy 148 = .ok (.iadd, 1) := by decide +kernel
theorem dX5_copy_149 : decode cX5_copy 149 = .ok (.aload_n 0, 1) := by decide +kernel
theorem dX5_copy_150 : decode cX5_copy 150 = .ok (.getfield 38, 3) := by decide +kernel
theorem dX5_copy_153 : decode cX5_copy 153 = .ok (.iload 7, 2) := by decide +kernel
theorem dX5_copy_155 : decode cX5_copy 155 = .ok (.laload, 1) := by decide +kernel
theorem dX5_copy_156 : decode cX5_copy 156 = .ok (.lastore, 1) := by decide +kernel
theorem dX5_copy_157 : decode cX5_copy 157 = .ok (.iinc 7 1, 3) := by decide +kernel
theorem dX5_copy_160 : decode cX5_copy 160 = .ok (.goto (-32), 3) := by decide +kernel
theorem dX5_copy_163 : decode cX5_copy 163 = .ok (.iload 5, 2) := by decide +kernel
theorem dX5_copy_165 : decode cX5_copy 165 = .ok (.ireturn, 1) := by decide +kernel
