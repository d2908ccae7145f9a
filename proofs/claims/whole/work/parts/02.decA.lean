theorem dX0_init_0 : decode cX0_init 0 = .ok (.aload_n 0, 1) := by decide +kernel
theorem dX0_init_1 : decode cX0_init 1 = .ok (.invokespecial 3, 3) := by decide +kernel
theorem dX0_init_4 : decode cX0_init 4 = .ok (.aload_n 0, 1) := by decide +kernel
theorem dX0_init_5 : decode cX0_init 5 = .ok (.bipush 41, 2) := by decide +kernel
theorem dX0_init_7 : decode cX0_init 7 = .ok (.newarray .int, 2) := by decide +kernel
theorem dX0_init_9 : decode cX0_init 9 = .ok (.putfield 9, 3) := by decide +kernel
theorem dX0_init_12 : decode cX0_init 12 = .ok (.aload_n 0, 1) := by decide +kernel
theorem dX0_init_13 : decode cX0_init 13 = .ok (.iconst 4, 1) := by decide +kernel
theorem dX0_init_14 : decode cX0_init 14 = .ok (.newarray .int, 2) := by decide +kernel
theorem dX0_init_16 : decode cX0_init 16 = .ok (.putfield 15, 3) := by decide +kernel
theorem dX0_init_19 : decode cX0_init 19 = .ok (.aload_n 0, 1) := by decide +kernel
theorem dX0_init_20 : decode cX0_init 20 = .ok (.bipush 10, 2) := by decide +kernel
theorem dX0_init_22 : decode cX0_init 22 = .ok (.newarray .int, 2) := by decide +kernel
theorem dX0_init_24 : decode cX0_init 24 = .ok (.putfield 18, 3) := by decide +kernel
theorem dX0_init_27 : decode cX0_init 27 = .ok (.aload_n 0, 1) := by decide +kernel
theorem dX0_init_28 : decode cX0_init 28 = .ok (.bipush 40, 2) := by decide +kernel
theorem dX0_init_30 : decode cX0_init 30 = .ok (.newarray .int, 2) := by decide +kernel
theorem dX0_init_32 : decode cX0_init 32 = .ok (.putfield 21, 3) := by decide +kernel
theorem dX0_init_35 : decode cX0_init 35 = .ok (.aload_n 0, 1) := by decide +kernel
theorem dX0_init_36 : decode cX0_init 36 = .ok (.iconst 5, 1) := by decide +kernel
theorem dX0_init_37 : decode cX0_init 37 = .ok (.newarray .int, 2) := by decide +kernel
theorem dX0_init_39 : decode cX0_init 39 = .ok (.putfield 24, 3) := by decide +kernel
theorem dX0_init_42 : decode cX0_init 42 = .ok (.aload_n 0, 1) := by decide +kernel
theorem dX0_init_43 : decode cX0_init 43 = .ok (.bipush 96, 2) := by decide +kernel
theorem dX0_init_45 : decode cX0_init 45 = .ok (.newarray .int, 2) := by decide +kernel
theorem dX0_init_47 : decode cX0_init 47 = .ok (.putfield 27, 3) := by decide +kernel
theorem dX0_init_50 : decode cX0_init 50 = .ok (.aload_n 0, 1) := by decide +kernel
theorem dX0_init_51 : decode cX0_init 51 = .ok (.sipush 256, 3) := by decide +kernel
theorem dX0_init_54 : decode cX0_init 54 = .ok (.newarray .int, 2) := by decide +kernel
theorem dX0_init_56 : decode cX0_init 56 = .ok (.putfield 30, 3) := by decide +kernel
theorem dX0_init_59 : decode cX0_init 59 = .ok (.aload_n 0, 1) := by decide +kernel
theorem dX0_init_60 : decode cX0_init 60 = .ok (.iconst 4, 1) := by decide +kernel
theorem dX0_init_61 : decode cX0_init 61 = .ok (.newarray .long, 2) := by decide +kernel
theorem dX0_init_63 : decode cX0_init 63 = .ok (.putfield 33, 3) := by decide +kernel
theorem dX0_init_66 : decode cX0_init 66 = .ok (.aload_n 0, 1) := by decide +kernel
theorem dX0_init_67 : decode cX0_init 67 = .ok (.aload_n 1, 1) := by decide +kernel
theorem dX0_init_68 : decode cX0_init 68 = .ok (.putfield 37, 3) := by decide +kernel
theorem dX0_init_71 : decode cX0_init 71 = .ok (.return_, 1) := by decide +kernel
theorem dX0_firstFit_0 : decode cX0_firstFit 0 = .ok (.iconst 0, 1) := by decide +kernel
theorem dX0_firstFit_1 : decode cX0_firstFit 1 = .ok (.istore_n 3, 1) := by decide +kernel
theorem dX0_firstFit_2 : decode cX0_firstFit 2 = .ok (.iload_n 3, 1) := by decide +kernel
theorem dX0_firstFit_3 : decode cX0_firstFit 3 = .ok (.bipush 99, 2) := by decide +kernel
theorem dX0_firstFit_5 : decode cX0_firstFit 5 = .ok (.if_icmp .gt 24, 3) := by decide +kernel
theorem dX0_firstFit_8 : decode cX0_firstFit 8 = .ok (.aload_n 0, 1) := by decide +kernel
theorem dX0_firstFit_9 : decode cX0_firstFit 9 = .ok (.getfield 37, 3) := by decide +kernel
theorem dX0_firstFit_12 : decode cX0_firstFit 12 = .ok (.iload_n 1, 1) := by decide +kernel
theorem dX0_firstFit_13 : decode cX0_firstFit 13 = .ok (.iload_n 2, 1) := by decide +kernel
theorem dX0_firstFit_14 : decode cX0_firstFit 14 = .ok (.iload_n 3, 1) := by decide +kernel
theorem dX0_firstFit_15 : decode cX0_firstFit 15 = .ok (.invokevirtual 41, 3) := by decide +kernel
theorem dX0_firstFit_18 : decode cX0_firstFit 18 = .ok (.ifCond .eq 5, 3) := by decide +kernel
theorem dX0_firstFit_21 : decode cX0_firstFit 21 = .ok (.iload_n 3, 1) := by decide +kernel
theorem dX0_firstFit_22 : decode cX0_firstFit 22 = .ok (.ireturn, 1) := by decide +kernel
theorem dX0_firstFit_23 : decode cX0_firstFit 23 = .ok (.iinc 3 1, 3) := by decide +kernel
theorem dX0_firstFit_26 : decode cX0_firstFit 26 = .ok (.goto (-24), 3) := by decide +kernel
theorem dX0_firstFit_29 : decode cX0_firstFit 29 = .ok (.bipush (-4), 2) := by decide +kernel
theorem dX0_firstFit_31 : decode cX0_firstFit 31 = .ok (.ireturn, 1) := by decide +kernel
theorem dX0_fewestToMend_0 : decode cX0_fewestToMend 0 = .ok (.iconst 0, 1) := by decide +kernel
theorem dX0_fewestToMend_1 : decode cX0_fewestToMend 1 = .ok (.istore 4, 2) := by decide +kernel
theorem dX0_fewestToMend_3 : decode cX0_fewestToMend 3 = .ok (.iload 4, 2) := by decide +kernel
theorem dX0_fewestToMend_5 : decode cX0_fewestToMend 5 = .ok (.iconst 4, 1) := by decide +kernel
theorem dX0_fewestToMend_6 : decode cX0_fewestToMend 6 = .ok (.if_icmp .ge 28, 3) := by decide +kernel
theorem dX0_fewestToMend_9 : decode cX0_fewestToMend 9 = .ok (.aload_n 0, 1) := by decide +kernel
theorem dX0_fewestToMend_10 : decode cX0_fewestToMend 10 = .ok (.getfield 15, 3) := by decide +kernel
theorem dX0_fewestToMend_13 : decode cX0_fewestToMend 13 = .ok (.iload 4, 2) := by decide +kernel
theorem dX0_fewestToMend_15 : decode cX0_fewestToMend 15 = .ok (.aload_n 0, 1) := by decide +kernel
theorem dX0_fewestToMend_16 : decode cX0_fewestToMend 16 = .ok (.getfield 37, 3) := by decide +kernel
theorem dX0_fewestToMend_19 : decode cX0_fewestToMend 19 = .ok (.iload_n 1, 1) := by decide +kernel
theorem dX0_fewestToMend_20 : decode cX0_fewestToMend 20 = .ok (.iload_n 2, 1) := by decide +kernel
theorem dX0_fewestToMend_21 : decode cX0_fewestToMend 21 = .ok (.iload 4, 2) := by decide +kernel
theorem dX0_fewestToMend_23 : decode cX0_fewestToMend 23 = .ok (.iload_n 3, 1) := by decide +kernel
theorem dX0_fewestToMend_24 : decode cX0_fewestToMend 24 = .ok (.invokevirtual 47, 3) := by decide +kernel
theorem dX0_fewestToMend_27 : decode cX0_fewestToMend 27 = .ok (.iastore, 1) := by decide +kernel
theorem dX0_fewestToMend_28 : decode cX0_fewestToMend 28 = .ok (.iinc 4 1, 3) := by decide +kernel
theorem dX0_fewestToMend_31 : decode cX0_fewestToMend 31 = .ok (.goto (-28), 3) := by decide +kernel
theorem dX0_fewestToMend_34 : decode cX0_fewestToMend 34 = .ok (.aload_n 0, 1) := by decide +kernel
theorem dX0_fewestToMend_35 : decode cX0_fewestToMend 35 = .ok (.iload_n 1, 1) := by decide +kernel
theorem dX0_fewestToMend_36 : decode cX0_fewestToMend 36 = .ok (.iload_n 3, 1) := by decide +kernel
theorem dX0_fewestToMend_37 : decode cX0_fewestToMend 37 = .ok (.invokevirtual 51, 3) := by decide +kernel
theorem dX0_fewestToMend_40 : decode cX0_fewestToMend 40 = .ok (.istore 4, 2) := by decide +kernel
theorem dX0_fewestToMend_42 : decode cX0_fewestToMend 42 = .ok (.bipush (-4), 2) := by decide +kernel
theorem dX0_fewestToMend_44 : decode cX0_fewestToMend 44 = .ok (.istore 5, 2) := by decide +kernel
theorem dX0_fewestToMend_46 : decode cX0_fewestToMend 46 = .ok (.iload 4, 2) := by decide +kernel
theorem dX0_fewestToMend_48 : decode cX0_fewestToMend 48 = .ok (.iconst 1, 1) := by decide +kernel
theorem dX0_fewestToMend_49 : decode cX0_fewestToMend 49 = .ok (.iadd, 1) := by decide +kernel
theorem dX0_fewestToMend_50 : decode cX0_fewestToMend 50 = .ok (.istore 6, 2) := by decide +kernel
theorem dX0_fewestToMend_52 : decode cX0_fewestToMend 52 = .ok (.iconst 0, 1) := by decide +kernel
theorem dX0_fewestToMend_53 : decode cX0_fewestToMend 53 = .ok (.istore 7, 2) := by decide +kernel
theorem dX0_fewestToMend_55 : decode cX0_fewestToMend 55 = .ok (.iload 7, 2) := by decide +kernel
theorem dX0_fewestToMend_57 : decode cX0_fewestToMend 57 = .ok (.iconst 1, 1) := by decide +kernel
theorem dX0_fewestToMend_58 : decode cX0_fewestToMend 58 = .ok (.iload 4, 2) := by decide +kernel
theorem dX0_fewestToMend_60 : decode cX0_fewestToMend 60 = .ok (.ishl, 1) := by decide +kernel
theorem dX0_fewestToMend_61 : decode cX0_fewestToMend 61 = .ok (.if_icmp .ge 49, 3) := by decide +kernel
theorem dX0_fewestToMend_64 : decode cX0_fewestToMend 64 = .ok (.iload 7, 2) := by decide +kernel
theorem dX0_fewestToMend_66 : decode cX0_fewestToMend 66 = .ok (.ifCond .le 9, 3) := by decide +kernel
theorem dX0_fewestToMend_69 : decode cX0_fewestToMend 69 = .ok (.aload_n 0, 1) := by decide +kernel
theorem dX0_fewestToMend_70 : decode cX0_fewestToMend 70 = .ok (.iload 7, 2) := by decide +kernel
theorem dX0_fewestToMend_72 : decode cX0_fewestToMend 72 = .ok (.invokevirtual 55, 3) := by decide +kernel
theorem dX0_fewestToMend_75 : decode cX0_fewestToMend 75 = .ok (.iload 7, 2) := by decide +kernel
theorem dX0_fewestToMend_77 : decode cX0_fewestToMend 77 = .ok (.invokestatic 59, 3) := by decide +kernel
theorem dX0_fewestToMend_80 : decode cX0_fewestToMend 80 = .ok (.istore 8, 2) := by decide +kernel
theorem dX0_fewestToMend_82 : decode cX0_fewestToMend 82 = .ok (.iload 8, 2) := by decide +kernel
theorem dX0_fewestToMend_84 : decode cX0_fewestToMend 84 = .ok (.iload 6, 2) := by decide +kernel
theorem dX0_fewestToMend_86 : decode cX0_fewestToMend 86 = .ok (.if_icmp .ge 18, 3) := by decide +kernel
theorem dX0_fewestToMend_89 : decode cX0_fewestToMend 89 = .ok (.aload_n 0, 1) := by decide +kernel
theorem dX0_fewestToMend_90 : decode cX0_fewestToMend 90 = .ok (.invokevirtual 65, 3) := by decide +kernel
theorem dX0_fewestToMend_93 : decode cX0_fewestToMend 93 = .ok (.ifCond .eq 11, 3) := by decide +kernel
theorem dX0_fewestToMend_96 : decode cX0_fewestToMend 96 = .ok (.iload 8, 2) := by decide +kernel
theorem dX0_fewestToMend_98 : decode cX0_fewestToMend 98 = .ok (.istore 6, 2) := by decide +kernel
theorem dX0_fewestToMend_100 : decode cX0_fewestToMend 100 = .ok (.iload 7, 2) := by decide +kernel
theorem dX0_fewestToMend_102 : decode cX0_fewestToMend 102 = .ok (.istore 5, 2) := by decide +kernel
theorem dX0_fewestToMend_104 : decode cX0_fewestToMend 104 = .ok (.iinc 7 1, 3) := by decide +kernel
theorem dX0_fewestToMend_107 : decode cX0_fewestToMend 107 = .ok (.goto (-52), 3) := by decide +kernel
theorem dX0_fewestToMend_110 : decode cX0_fewestToMend 110 = .ok (.iload 5, 2) := by decide +kernel
theorem dX0_fewestToMend_112 : decode cX0_fewestToMend 112 = .ok (.ifCond .ge 8, 3) := by decide +kernel
theorem dX0_fewestToMend_115 : decode cX0_fewestToMend 115 = .ok (.bipush (-4), 2) := by decide +kernel
theorem dX0_fewestToMend_117 : decode cX0_fewestToMend 117 = .ok (.goto 11, 3) := by decide +kernel
theorem dX0_fewestToMend_120 : decode cX0_fewestToMend 120 = .ok (.aload_n 0, 1) := by decide +kernel
theorem dX0_fewestToMend_121 : decode cX0_fewestToMend 121 = .ok (.iload 5, 2) := by decide +kernel
theorem dX0_fewestToMend_123 : decode cX0_fewestToMend 123 = .ok (.iload 4, 2) := by decide +kernel
theorem dX0_fewestToMend_125 : decode cX0_fewestToMend 125 = .ok (.invokevirtual 69, 3) := by decide +kernel
theorem dX0_fewestToMend_128 : decode cX0_fewestToMend 128 = .ok (.ireturn, 1) := by decide +kernel
theorem dX0_findOpenDeeds_0 : decode cX0_findOpenDeeds 0 = .ok (.iconst 0, 1) := by decide +kernel
theorem dX0_findOpenDeeds_1 : decode cX0_findOpenDeeds 1 = .ok (.istore_n 3, 1) := by decide +kernel
theorem dX0_findOpenDeeds_2 : decode cX0_findOpenDeeds 2 = .ok (.iconst 0, 1) := by decide +kernel
theorem dX0_findOpenDeeds_3 : decode cX0_findOpenDeeds 3 = .ok (.istore 4, 2) := by decide +kernel
theorem dX0_findOpenDeeds_5 : decode cX0_findOpenDeeds 5 = .ok (.iload 4, 2) := by decide +kernel
theorem dX0_findOpenDeeds_7 : decode cX0_findOpenDeeds 7 = .ok (.aload_n 0, 1) := by decide +kernel
theorem dX0_findOpenDeeds_8 : decode cX0_findOpenDeeds 8 = .ok (.getfield 37, 3) := by decide +kernel
theorem dX0_findOpenDeeds_11 : decode cX0_findOpenDeeds 11 = .ok (.getfield 72, 3) := by decide +kernel
theorem dX0_findOpenDeeds_14 : decode cX0_findOpenDeeds 14 = .ok (.if_icmp .ge 52, 3) := by decide +kernel
theorem dX0_findOpenDeeds_17 : decode cX0_findOpenDeeds 17 = .ok (.aload_n 0, 1) := by decide +kernel
theorem dX0_findOpenDeeds_18 : decode cX0_findOpenDeeds 18 = .ok (.getfield 37, 3) := by decide +kernel
theorem dX0_findOpenDeeds_21 : decode cX0_findOpenDeeds 21 = .ok (.getfield 76, 3) := by decide +kernel
theorem dX0_findOpenDeeds_24 : decode cX0_findOpenDeeds 24 = .ok (.iload 4, 2) := by decide +kernel
theorem dX0_findOpenDeeds_26 : decode cX0_findOpenDeeds 26 = .ok (.iaload, 1) := by decide +kernel
theorem dX0_findOpenDeeds_27 : decode cX0_findOpenDeeds 27 = .ok (.iload_n 1, 1) := by decide +kernel
theorem dX0_findOpenDeeds_28 : decode cX0_findOpenDeeds 28 = .ok (.if_icmp .ne 32, 3) := by decide +kernel
theorem dX0_findOpenDeeds_31 : decode cX0_findOpenDeeds 31 = .ok (.aload_n 0, 1) := by decide +kernel
theorem dX0_findOpenDeeds_32 : decode cX0_findOpenDeeds 32 = .ok (.getfield 37, 3) := by decide +kernel
theorem dX0_findOpenDeeds_35 : decode cX0_findOpenDeeds 35 = .ok (.iload 4, 2) := by decide +kernel
theorem dX0_findOpenDeeds_37 : decode cX0_findOpenDeeds 37 = .ok (.invokevirtual 79, 3) := by decide +kernel
theorem dX0_findOpenDeeds_40 : decode cX0_findOpenDeeds 40 = .ok (.ifCond .ne 20, 3) := by decide +kernel
theorem dX0_findOpenDeeds_43 : decode cX0_findOpenDeeds 43 = .ok (.aload_n 0, 1) := by decide +kernel
theorem dX0_findOpenDeeds_44 : decode cX0_findOpenDeeds 44 = .ok (.getfield 18, 3) := by decide +kernel
theorem dX0_findOpenDeeds_47 : decode cX0_findOpenDeeds 47 = .ok (.iload_n 3, 1) := by decide +kernel
theorem dX0_findOpenDeeds_48 : decode cX0_findOpenDeeds 48 = .ok (.iload 4, 2) := by decide +kernel
theorem dX0_findOpenDeeds_50 : decode cX0_findOpenDeeds 50 = .ok (.iastore, 1) := by decide +kernel
theorem dX0_findOpenDeeds_51 : decode cX0_findOpenDeeds 51 = .ok (.aload_n 0, 1) := by decide +kernel
theorem dX0_findOpenDeeds_52 : decode cX0_findOpenDeeds 52 = .ok (.iload_n 3, 1) := by decide +kernel
theorem dX0_findOpenDeeds_53 : decode cX0_findOpenDeeds 53 = .ok (.iload_n 2, 1) := by decide +kernel
theorem dX0_findOpenDeeds_54 : decode cX0_findOpenDeeds 54 = .ok (.invokevirtual 83, 3) := by decide +kernel
theorem dX0_findOpenDeeds_57 : decode cX0_findOpenDeeds 57 = .ok (.iinc 3 1, 3) := by decide +kernel
theorem dX0_findOpenDeeds_60 : decode cX0_findOpenDeeds 60 = .ok (.iinc 4 1, 3) := by decide +kernel
theorem dX0_findOpenDeeds_63 : decode cX0_findOpenDeeds 63 = .ok (.goto (-58), 3) := by decide +kernel
theorem dX0_findOpenDeeds_66 : decode cX0_findOpenDeeds 66 = .ok (.iload_n 3, 1) := by decide +kernel
theorem dX0_findOpenDeeds_67 : decode cX0_findOpenDeeds 67 = .ok (.ireturn, 1) := by decide +kernel
theorem dX0_findGains_0 : decode cX0_findGains 0 = .ok (.aload_n 0, 1) := by decide +kernel
theorem dX0_findGains_1 : decode cX0_findGains 1 = .ok (.getfield 18, 3) := by decide +kernel
theorem dX0_findGains_4 : decode cX0_findGains 4 = .ok (.iload_n 1, 1) := by decide +kernel
theorem dX0_findGains_5 : decode cX0_findGains 5 = .ok (.iaload, 1) := by decide +kernel
theorem dX0_findGains_6 : decode cX0_findGains 6 = .ok (.istore_n 3, 1) := by decide +kernel
theorem dX0_findGains_7 : decode cX0_findGains 7 = .ok (.aload_n 0, 1) := by decide +kernel
theorem dX0_findGains_8 : decode cX0_findGains 8 = .ok (.getfield 37, 3) := by decide +kernel
theorem dX0_findGains_11 : decode cX0_findGains 11 = .ok (.getfield 87, 3) := by decide +kernel
theorem dX0_findGains_14 : decode cX0_findGains 14 = .ok (.aload_n 0, 1) := by decide +kernel
theorem dX0_findGains_15 : decode cX0_findGains 15 = .ok (.getfield 37, 3) := by decide +kernel
theorem dX0_findGains_18 : decode cX0_findGains 18 = .ok (.getfield 76, 3) := by decide +kernel
theorem dX0_findGains_21 : decode cX0_findGains 21 = .ok (.iload_n 3, 1) := by decide +kernel
theorem dX0_findGains_22 : decode cX0_findGains 22 = .ok (.iaload, 1) := by decide +kernel
theorem dX0_findGains_23 : decode cX0_findGains 23 = .ok (.iaload, 1) := by decide +kernel
theorem dX0_findGains_24 : decode cX0_findGains 24 = .ok (.istore 4, 2) := by decide +kernel
theorem dX0_findGains_26 : decode cX0_findGains 26 = .ok (.aload_n 0, 1) := by decide +kernel
theorem dX0_findGains_27 : decode cX0_findGains 27 = .ok (.getfield 37, 3) := by decide +kernel
theorem dX0_findGains_30 : decode cX0_findGains 30 = .ok (.getfield 90, 3) := by decide +kernel
theorem dX0_findGains_33 : decode cX0_findGains 33 = .ok (.iload_n 3, 1) := by decide +kernel
theorem dX0_findGains_34 : decode cX0_findGains 34 = .ok (.iaload, 1) := by decide +kernel
theorem dX0_findGains_35 : decode cX0_findGains 35 = .ok (.istore 5, 2) := by decide +kernel
theorem dX0_findGains_37 : decode cX0_findGains 37 = .ok (.aload_n 0, 1) := by decide +kernel
theorem dX0_findGains_38 : decode cX0_findGains 38 = .ok (.getfield 37, 3) := by decide +kernel
theorem dX0_findGains_41 : decode cX0_findGains 41 = .ok (.iload_n 3, 1) := by decide +kernel
theorem dX0_findGains_42 : decode cX0_findGains 42 = .ok (.iload_n 2, 1) := by decide +kernel
theorem dX0_findGains_43 : decode cX0_findGains 43 = .ok (.iconst 0, 1) := by decide +kernel
theorem dX0_findGains_44 : decode cX0_findGains 44 = .ok (.invokevirtual 93, 3) := by decide +kernel
theorem dX0_findGains_47 : decode cX0_findGains 47 = .ok (.istore 6, 2) := by decide +kernel
theorem dX0_findGains_49 : decode cX0_findGains 49 = .ok (.aload_n 0, 1) := by decide +kernel
theorem dX0_findGains_50 : decode cX0_findGains 50 = .ok (.getfield 37, 3) := by decide +kernel
theorem dX0_findGains_53 : decode cX0_findGains 53 = .ok (.iload_n 3, 1) := by decide +kernel
theorem dX0_findGains_54 : decode cX0_findGains 54 = .ok (.iload_n 2, 1) := by decide +kernel
theorem dX0_findGains_55 : decode cX0_findGains 55 = .ok (.iconst 1, 1) := by decide +kernel
theorem dX0_findGains_56 : decode cX0_findGains 56 = .ok (.invokevirtual 93, 3) := by decide +kernel
theorem dX0_findGains_59 : decode cX0_findGains 59 = .ok (.istore 7, 2) := by decide +kernel
theorem dX0_findGains_61 : decode cX0_findGains 61 = .ok (.iconst 0, 1) := by decide +kernel
theorem dX0_findGains_62 : decode cX0_findGains 62 = .ok (.istore 8, 2) := by decide +kernel
theorem dX0_findGains_64 : decode cX0_findGains 64 = .ok (.iload 8, 2) := by decide +kernel
theorem dX0_findGains_66 : decode cX0_findGains 66 = .ok (.iconst 4, 1) := by decide +kernel
theorem dX0_findGains_67 : decode cX0_findGains 67 = .ok (.if_icmp .ge 43, 3) := by decide +kernel
theorem dX0_findGains_70 : decode cX0_findGains 70 = .ok (.aload_n 0, 1) := by decide +kernel
theorem dX0_findGains_71 : decode cX0_findGains 71 = .ok (.getfield 21, 3) := by decide +kernel
theorem dX0_findGains_74 : decode cX0_findGains 74 = .ok (.iload_n 1, 1) := by decide +kernel
theorem dX0_findGains_75 : decode cX0_findGains 75 = .ok (.iconst 4, 1) := by decide +kernel
theorem dX0_findGains_76 : decode cX0_findGains 76 = .ok (.imul, 1) := by decide +kernel
theorem dX0_findGains_77 : decode cX0_findGains 77 = .ok (.iload 8, 2) := by decide +kernel
theorem dX0_findGains_79 : decode cX0_findGains 79 = .ok (.iadd, 1) := by decide +kernel
theorem dX0_findGains_80 : decode cX0_findGains 80 = .ok (.iload 4, 2) := by decide +kernel
theorem dX0_findGains_82 : decode cX0_findGains 82 = .ok (.iload 5, 2) := by decide +kernel
theorem dX0_findGains_84 : decode cX0_findGains 84 = .ok (.iload 8, 2) := by decide +kernel
theorem dX0_findGains_86 : decode cX0_findGains 86 = .ok (.iload 6, 2) := by decide +kernel
theorem dX0_findGains_88 : decode cX0_findGains 88 = .ok (.invokestatic 97, 3) := by decide +kernel
theorem dX0_findGains_91 : decode cX0_findGains 91 = .ok (.iload 4, 2) := by decide +kernel
theorem dX0_findGains_93 : decode cX0_findGains 93 = .ok (.iload 5, 2) := by decide +kernel
theorem dX0_findGains_95 : decode cX0_findGains 95 = .ok (.iload 8, 2) := by decide +kernel
theorem dX0_findGains_97 : decode cX0_findGains 97 = .ok (.iload 7, 2) := by decide +kernel
theorem dX0_findGains_99 : decode cX0_findGains 99 = .ok (.invokestatic 97, 3) := by decide +kernel
theorem dX0_findGains_102 : decode cX0_findGains 102 = .ok (.isub, 1) := by decide +kernel
theorem dX0_findGains_103 : decode cX0_findGains 103 = .ok (.iastore, 1) := by decide +kernel
theorem dX0_findGains_104 : decode cX0_findGains 104 = .ok (.iinc 8 1, 3) := by decide +kernel
theorem dX0_findGains_107 : decode cX0_findGains 107 = .ok (.goto (-43), 3) := by decide +kernel
theorem dX0_findGains_110 : decode cX0_findGains 110 = .ok (.return_, 1) := by decide +kernel
theorem dX0_stepTo_0 : decode cX0_stepTo 0 = .ok (.iload_n 1, 1) := by decide +kernel
theorem dX0_stepTo_1 : decode cX0_stepTo 1 = .ok (.invokestatic 100, 3) := by decide +kernel
theorem dX0_stepTo_4 : decode cX0_stepTo 4 = .ok (.istore_n 2, 1) := by decide +kernel
theorem dX0_stepTo_5 : decode cX0_stepTo 5 = .ok (.iconst 0, 1) := by decide +kernel
theorem dX0_stepTo_6 : decode cX0_stepTo 6 = .ok (.istore_n 3, 1) := by decide +kernel
theorem dX0_stepTo_7 : decode cX0_stepTo 7 = .ok (.iload_n 3, 1) := by decide +kernel
theorem dX0_stepTo_8 : decode cX0_stepTo 8 = .ok (.iload_n 2, 1) := by decide +kernel
theorem dX0_stepTo_9 : decode cX0_stepTo 9 = .ok (.if_icmp .gt 66, 3) := by decide +kernel
theorem dX0_stepTo_12 : decode cX0_stepTo 12 = .ok (.iload_n 3, 1) := by decide +kernel
theorem dX0_stepTo_13 : decode cX0_stepTo 13 = .ok (.bipush 10, 2) := by decide +kernel
theorem dX0_stepTo_15 : decode cX0_stepTo 15 = .ok (.if_icmp .ge 60, 3) := by decide +kernel
theorem dX0_stepTo_18 : decode cX0_stepTo 18 = .ok (.iload_n 3, 1) := by decide +kernel
theorem dX0_stepTo_19 : decode cX0_stepTo 19 = .ok (.iload_n 2, 1) := by decide +kernel
theorem dX0_stepTo_20 : decode cX0_stepTo 20 = .ok (.if_icmp .ne 7, 3) := by decide +kernel
theorem dX0_stepTo_23 : decode cX0_stepTo 23 = .ok (.iconst (-1), 1) := by decide +kernel
theorem dX0_stepTo_24 : decode cX0_stepTo 24 = .ok (.goto 4, 3) := by decide +kernel
theorem dX0_stepTo_27 : decode cX0_stepTo 27 = .ok (.iconst 1, 1) := by decide +kernel
theorem dX0_stepTo_28 : decode cX0_stepTo 28 = .ok (.istore 4, 2) := by decide +kernel
theorem dX0_stepTo_30 : decode cX0_stepTo 30 = .ok (.iconst 0, 1) := by decide +kernel
theorem dX0_stepTo_31 : decode cX0_stepTo 31 = .ok (.istore 5, 2) := by decide +kernel
theorem dX0_stepTo_33 : decode cX0_stepTo 33 = .ok (.iload 5, 2) := by decide +kernel
theorem dX0_stepTo_35 : decode cX0_stepTo 35 = .ok (.iconst 4, 1) := by decide +kernel
theorem dX0_stepTo_36 : decode cX0_stepTo 36 = .ok (.if_icmp .ge 33, 3) := by decide +kernel
theorem dX0_stepTo_39 : decode cX0_stepTo 39 = .ok (.aload_n 0, 1) := by decide +kernel
theorem dX0_stepTo_40 : decode cX0_stepTo 40 = .ok (.getfield 15, 3) := by decide +kernel
theorem dX0_stepTo_43 : decode cX0_stepTo 43 = .ok (.iload 5, 2) := by decide +kernel
theorem dX0_stepTo_45 : decode cX0_stepTo 45 = .ok (.dup2, 1) := by decide +kernel
theorem dX0_stepTo_46 : decode cX0_stepTo 46 = .ok (.iaload, 1) := by decide +kernel
theorem dX0_stepTo_47 : decode cX0_stepTo 47 = .ok (.iload 4, 2) := by decide +kernel
theorem dX0_stepTo_49 : decode cX0_stepTo 49 = .ok (.aload_n 0, 1) := by decide +kernel
theorem dX0_stepTo_50 : decode cX0_stepTo 50 = .ok (.getfield 21, 3) := by decide +kernel
theorem dX0_stepTo_53 : decode cX0_stepTo 53 = .ok (.iload_n 3, 1) := by decide +kernel
theorem dX0_stepTo_54 : decode cX0_stepTo 54 = .ok (.iconst 4, 1) := by decide +kernel
theorem dX0_stepTo_55 : decode cX0_stepTo 55 = .ok (.imul, 1) := by decide +kernel
theorem dX0_stepTo_56 : decode cX0_stepTo 56 = .ok (.iload 5, 2) := by decide +kernel
theorem dX0_stepTo_58 : decode cX0_stepTo 58 = .ok (.iadd, 1) := by decide +kernel
theorem dX0_stepTo_59 : decode cX0_stepTo 59 = .ok (.iaload, 1) := by decide +kernel
theorem dX0_stepTo_60 : decode cX0_stepTo 60 = .ok (.imul, 1) := by decide +kernel
theorem dX0_stepTo_61 : decode cX0_stepTo 61 = .ok (.iadd, 1) := by decide +kernel
theorem dX0_stepTo_62 : decode cX0_stepTo 62 = .ok (.iastore, 1) := by decide +kernel
theorem dX0_stepTo_63 : decode cX0_stepTo 63 = .ok (.iinc 5 1, 3) := by decide +kernel
theorem dX0_stepTo_66 : decode cX0_stepTo 66 = .ok (.goto (-33), 3) := by decide +kernel
theorem dX0_stepTo_69 : decode cX0_stepTo 69 = .ok (.iinc 3 1, 3) := by decide +kernel
theorem dX0_stepTo_72 : decode cX0_stepTo 72 = .ok (.goto (-65), 3) := by decide +kernel
theorem dX0_stepTo_75 : decode cX0_stepTo 75 = .ok (.return_, 1) := by decide +kernel
theorem dX0_gapsAreEasy_0 : decode cX0_gapsAreEasy 0 = .ok (.iconst 0, 1) := by decide +kernel
theorem dX0_gapsAreEasy_1 : decode cX0_gapsAreEasy 1 = .ok (.istore_n 1, 1) := by decide +kernel
theorem dX0_gapsAreEasy_2 : decode cX0_gapsAreEasy 2 = .ok (.iload_n 1, 1) := by decide +kernel
theorem dX0_gapsAreEasy_3 : decode cX0_gapsAreEasy 3 = .ok (.iconst 4, 1) := by decide +kernel
theorem dX0_gapsAreEasy_4 : decode cX0_gapsAreEasy 4 = .ok (.if_icmp .ge 30, 3) := by decide +kernel
theorem dX0_gapsAreEasy_7 : decode cX0_gapsAreEasy 7 = .ok (.aload_n 0, 1) := by decide +kernel
theorem dX0_gapsAreEasy_8 : decode cX0_gapsAreEasy 8 = .ok (.getfield 15, 3) := by decide +kernel
theorem dX0_gapsAreEasy_11 : decode cX0_gapsAreEasy 11 = .ok (.iload_n 1, 1) := by decide +kernel
theorem dX0_gapsAreEasy_12 : decode cX0_gapsAreEasy 12 = .ok (.iaload, 1) := by decide +kernel
theorem dX0_gapsAreEasy_13 : decode cX0_gapsAreEasy 13 = .ok (.invokestatic 103, 3) := by decide +kernel
theorem dX0_gapsAreEasy_16 : decode cX0_gapsAreEasy 16 = .ok (.aload_n 0, 1) := by decide +kernel
theorem dX0_gapsAreEasy_17 : decode cX0_gapsAreEasy 17 = .ok (.getfield 37, 3) := by decide +kernel
theorem dX0_gapsAreEasy_20 : decode cX0_gapsAreEasy 20 = .ok (.getfield 108, 3) := by decide +kernel
theorem dX0_gapsAreEasy_23 : decode cX0_gapsAreEasy 23 = .ok (.if_icmp .le 5, 3) := by decide +kernel
theorem dX0_gapsAreEasy_26 : decode cX0_gapsAreEasy 26 = .ok (.iconst 0, 1) := by decide +kernel
theorem dX0_gapsAreEasy_27 : decode cX0_gapsAreEasy 27 = .ok (.ireturn, 1) := by decide +kernel
theorem dX0_gapsAreEasy_28 : decode cX0_gapsAreEasy 28 = .ok (.iinc 1 1, 3) := by decide +kernel
theorem dX0_gapsAreEasy_31 : decode cX0_gapsAreEasy 31 = .ok (.goto (-29), 3) := by decide +kernel
theorem dX0_gapsAreEasy_34 : decode cX0_gapsAreEasy 34 = .ok (.iconst 1, 1) := by decide +kernel
theorem dX0_gapsAreEasy_35 : decode cX0_gapsAreEasy 35 = .ok (.ireturn, 1) := by decide +kernel
theorem dX0_asDeeds_0 : decode cX0_asDeeds 0 = .ok (.iconst 0, 1) := by decide +kernel
theorem dX0_asDeeds_1 : decode cX0_asDeeds 1 = .ok (.istore_n 3, 1) := by decide +kernel
theorem dX0_asDeeds_2 : decode cX0_asDeeds 2 = .ok (.iconst 0, 1) := by decide +kernel
theorem dX0_asDeeds_3 : decode cX0_asDeeds 3 = .ok (.istore 4, 2) := by decide +kernel
theorem dX0_asDeeds_5 : decode cX0_asDeeds 5 = .ok (.iload 4, 2) := by decide +kernel
theorem dX0_asDeeds_7 : decode cX0_asDeeds 7 = .ok (.iload_n 2, 1) := by decide +kernel
theorem dX0_asDeeds_8 : decode cX0_asDeeds 8 = .ok (.if_icmp .ge 31, 3) := by decide +kernel
theorem dX0_asDeeds_11 : decode cX0_asDeeds 11 = .ok (.iload_n 1, 1) := by decide +kernel
theorem dX0_asDeeds_12 : decode cX0_asDeeds 12 = .ok (.iload 4, 2) := by decide +kernel
theorem dX0_asDeeds_14 : decode cX0_asDeeds 14 = .ok (.ishr, 1) := by decide +kernel
theorem dX0_asDeeds_15 : decode cX0_asDeeds 15 = .ok (.iconst 1, 1) := by decide +kernel
theorem dX0_asDeeds_16 : decode cX0_asDeeds 16 = .ok (.iand, 1) := by decide +kernel
theorem dX0_asDeeds_17 : decode cX0_asDeeds 17 = .ok (.iconst 1, 1) := by decide +kernel
theorem dX0_asDeeds_18 : decode cX0_asDeeds 18 = .ok (.if_icmp .ne 15, 3) := by decide +kernel
theorem dX0_asDeeds_21 : decode cX0_asDeeds 21 = .ok (.iload_n 3, 1) := by decide +kernel
theorem dX0_asDeeds_22 : decode cX0_asDeeds 22 = .ok (.iconst 1, 1) := by decide +kernel
theorem dX0_asDeeds_23 : decode cX0_asDeeds 23 = .ok (.aload_n 0, 1) := by decide +kernel
theorem dX0_asDeeds_24 : decode cX0_asDeeds 24 = .ok (.getfield 18, 3) := by decide +kernel
theorem dX0_asDeeds_27 : decode cX0_asDeeds 27 = .ok (.iload 4, 2) := by decide +kernel
theorem dX0_asDeeds_29 : decode cX0_asDeeds 29 = .ok (.iaload, 1) := by decide +kernel
theorem dX0_asDeeds_30 : decode cX0_asDeeds 30 = .ok (.ishl, 1) := by decide +kernel
theorem dX0_asDeeds_31 : decode cX0_asDeeds 31 = .ok (.ior, 1) := by decide +kernel
theorem dX0_asDeeds_32 : decode cX0_asDeeds 32 = .ok (.istore_n 3, 1) := by decide +kernel
theorem dX0_asDeeds_33 : decode cX0_asDeeds 33 = .ok (.iinc 4 1, 3) := by decide +kernel
theorem dX0_asDeeds_36 : decode cX0_asDeeds 36 = .ok (.goto (-31), 3) := by decide +kernel
theorem dX0_asDeeds_39 : decode cX0_asDeeds 39 = .ok (.iload_n 3, 1) := by decide +kernel
theorem dX0_asDeeds_40 : decode cX0_asDeeds 40 = .ok (.ireturn, 1) := by decide +kernel
theorem dX0_leastShowingCut_0 : decode cX0_leastShowingCut 0 = .ok (.iconst 0, 1) := by decide +kernel
theorem dX0_leastShowingCut_1 : decode cX0_leastShowingCut 1 = .ok (.istore 4, 2) := by decide +kernel
theorem dX0_leastShowingCut_3 : decode cX0_leastShowingCut 3 = .ok (.iload 4, 2) := by decide +kernel
theorem dX0_leastShowingCut_5 : decode cX0_leastShowingCut 5 = .ok (.iload_n 3, 1) := by decide +kernel
theorem dX0_leastShowingCut_6 : decode cX0_leastShowingCut 6 = .ok (.if_icmp .gt 27, 3) := by decide +kernel
theorem dX0_leastShowingCut_9 : decode cX0_leastShowingCut 9 = .ok (.aload_n 0, 1) := by decide +kernel
theorem dX0_leastShowingCut_10 : decode cX0_leastShowingCut 10 = .ok (.getfield 9, 3) := by decide +kernel
theorem dX0_leastShowingCut_13 : decode cX0_leastShowingCut 13 = .ok (.iload 4, 2) := by decide +kernel
theorem dX0_leastShowingCut_15 : decode cX0_leastShowingCut 15 = .ok (.aload_n 0, 1) := by decide +kernel
theorem dX0_leastShowingCut_16 : decode cX0_leastShowingCut 16 = .ok (.getfield 37, 3) := by decide +kernel
theorem dX0_leastShowingCut_19 : decode cX0_leastShowingCut 19 = .ok (.iload_n 1, 1) := by decide +kernel
theorem dX0_leastShowingCut_20 : decode cX0_leastShowingCut 20 = .ok (.iload_n 2, 1) := by decide +kernel
theorem dX0_leastShowingCut_21 : decode cX0_leastShowingCut 21 = .ok (.iload 4, 2) := by decide +kernel
theorem dX0_leastShowingCut_23 : decode cX0_leastShowingCut 23 = .ok (.invokevirtual 111, 3) := by decide +kernel
theorem dX0_leastShowingCut_26 : decode cX0_leastShowingCut 26 = .ok (.iastore, 1) := by decide +kernel
theorem dX0_leastShowingCut_27 : decode cX0_leastShowingCut 27 = .ok (.iinc 4 1, 3) := by decide +kernel
theorem dX0_leastShowingCut_30 : decode cX0_leastShowingCut 30 = .ok (.goto (-27), 3) := by decide +kernel
theorem dX0_leastShowingCut_33 : decode cX0_leastShowingCut 33 = .ok (.iconst 0, 1) := by decide +kernel
theorem dX0_leastShowingCut_34 : decode cX0_leastShowingCut 34 = .ok (.istore 4, 2) := by decide +kernel
theorem dX0_leastShowingCut_36 : decode cX0_leastShowingCut 36 = .ok (.aload_n 0, 1) := by decide +kernel
theorem dX0_leastShowingCut_37 : decode cX0_leastShowingCut 37 = .ok (.iconst 0, 1) := by decide +kernel
theorem dX0_leastShowingCut_38 : decode cX0_leastShowingCut 38 = .ok (.iload_n 3, 1) := by decide +kernel
theorem dX0_leastShowingCut_39 : decode cX0_leastShowingCut 39 = .ok (.invokevirtual 115, 3) := by decide +kernel
theorem dX0_leastShowingCut_42 : decode cX0_leastShowingCut 42 = .ok (.istore 5, 2) := by decide +kernel
theorem dX0_leastShowingCut_44 : decode cX0_leastShowingCut 44 = .ok (.iconst 1, 1) := by decide +kernel
theorem dX0_leastShowingCut_45 : decode cX0_leastShowingCut 45 = .ok (.istore 6, 2) := by decide +kernel
theorem dX0_leastShowingCut_47 : decode cX0_leastShowingCut 47 = .ok (.iload 6, 2) := by decide +kernel
theorem dX0_leastShowingCut_49 : decode cX0_leastShowingCut 49 = .ok (.sipush 199, 3) := by decide +kernel
theorem dX0_leastShowingCut_52 : decode cX0_leastShowingCut 52 = .ok (.if_icmp .gt 36, 3) := by decide +kernel
theorem dX0_leastShowingCut_55 : decode cX0_leastShowingCut 55 = .ok (.aload_n 0, 1) := by decide +kernel
theorem dX0_leastShowingCut_56 : decode cX0_leastShowingCut 56 = .ok (.iload 6, 2) := by decide +kernel
theorem dX0_leastShowingCut_58 : decode cX0_leastShowingCut 58 = .ok (.iload_n 3, 1) := by decide +kernel
theorem dX0_leastShowingCut_59 : decode cX0_leastShowingCut 59 = .ok (.invokevirtual 115, 3) := by decide +kernel
theorem dX0_leastShowingCut_62 : decode cX0_leastShowingCut 62 = .ok (.istore 7, 2) := by decide +kernel
theorem dX0_leastShowingCut_64 : decode cX0_leastShowingCut 64 = .ok (.iload 7, 2) := by decide +kernel
theorem dX0_leastShowingCut_66 : decode cX0_leastShowingCut 66 = .ok (.iload 5, 2) := by decide +kernel
theorem dX0_leastShowingCut_68 : decode cX0_leastShowingCut 68 = .ok (.if_icmp .lt 6, 3) := by decide +kernel
theorem dX0_leastShowingCut_71 : decode cX0_leastShowingCut 71 = .ok (.goto 17, 3) := by decide +kernel
theorem dX0_leastShowingCut_74 : decode cX0_leastShowingCut 74 = .ok (.iload 6, 2) := by decide +kernel
theorem dX0_leastShowingCut_76 : decode cX0_leastShowingCut 76 = .ok (.istore 4, 2) := by decide +kernel
theorem dX0_leastShowingCut_78 : decode cX0_leastShowingCut 78 = .ok (.iload 7, 2) := by decide +kernel
theorem dX0_leastShowingCut_80 : decode cX0_leastShowingCut 80 = .ok (.istore 5, 2) := by decide +kernel
theorem dX0_leastShowingCut_82 : decode cX0_leastShowingCut 82 = .ok (.iinc 6 1, 3) := by decide +kernel
theorem dX0_leastShowingCut_85 : decode cX0_leastShowingCut 85 = .ok (.goto (-38), 3) := by decide +kernel
theorem dX0_leastShowingCut_88 : decode cX0_leastShowingCut 88 = .ok (.iload 4, 2) := by decide +kernel
theorem dX0_leastShowingCut_90 : decode cX0_leastShowingCut 90 = .ok (.ireturn, 1) := by decide +kernel
theorem dX0_farInAll_0 : decode cX0_farInAll 0 = .ok (.iconst 0, 1) := by decide +kernel
theorem dX0_farInAll_1 : decode cX0_farInAll 1 = .ok (.istore_n 3, 1) := by decide +kernel
theorem dX0_farInAll_2 : decode cX0_farInAll 2 = .ok (.iconst 0, 1) := by decide +kernel
theorem dX0_farInAll_3 : decode cX0_farInAll 3 = .ok (.istore 4, 2) := by decide +kernel
theorem dX0_farInAll_5 : decode cX0_farInAll 5 = .ok (.iload 4, 2) := by decide +kernel
theorem dX0_farInAll_7 : decode cX0_farInAll 7 = .ok (.iload_n 2, 1) := by decide +kernel
theorem dX0_farInAll_8 : decode cX0_farInAll 8 = .ok (.if_icmp .gt 24, 3) := by decide +kernel
theorem dX0_farInAll_11 : decode cX0_farInAll 11 = .ok (.iload_n 3, 1) := by decide +kernel
theorem dX0_farInAll_12 : decode cX0_farInAll 12 = .ok (.aload_n 0, 1) := by decide +kernel
theorem dX0_farInAll_13 : decode cX0_farInAll 13 = .ok (.getfield 9, 3) := by decide +kernel
theorem dX0_farInAll_16 : decode cX0_farInAll 16 = .ok (.iload 4, 2) := by decide +kernel
theorem dX0_farInAll_18 : decode cX0_farInAll 18 = .ok (.iaload, 1) := by decide +kernel
theorem dX0_farInAll_19 : decode cX0_farInAll 19 = .ok (.iload_n 1, 1) := by decide +kernel
theorem dX0_farInAll_20 : decode cX0_farInAll 20 = .ok (.isub, 1) := by decide +kernel
theorem dX0_farInAll_21 : decode cX0_farInAll 21 = .ok (.invokestatic 103, 3) := by decide +kernel
theorem dX0_farInAll_24 : decode cX0_farInAll 24 = .ok (.iadd, 1) := by decide +kernel
theorem dX0_farInAll_25 : decode cX0_farInAll 25 = .ok (.istore_n 3, 1) := by decide +kernel
theorem dX0_farInAll_26 : decode cX0_farInAll 26 = .ok (.iinc 4 1, 3) := by decide +kernel
theorem dX0_farInAll_29 : decode cX0_farInAll 29 = .ok (.goto (-24), 3) := by decide +kernel
theorem dX0_farInAll_32 : decode cX0_farInAll 32 = .ok (.iload_n 3, 1) := by decide +kernel
theorem dX0_farInAll_33 : decode cX0_farInAll 33 = .ok (.ireturn, 1) := by decide +kernel
theorem dX0_findFitting_0 : decode cX0_findFitting 0 = .ok (.iconst 0, 1) := by decide +kernel
theorem dX0_findFitting_1 : decode cX0_findFitting 1 = .ok (.istore_n 1, 1) := by decide +kernel
theorem dX0_findFitting_2 : decode cX0_findFitting 2 = .ok (.iload_n 1, 1) := by decide +kernel
theorem dX0_findFitting_3 : decode cX0_findFitting 3 = .ok (.aload_n 0, 1) := by decide +kernel
theorem dX0_findFitting_4 : decode cX0_findFitting 4 = .ok (.getfield 37, 3) := by decide +kernel
theorem dX0_findFitting_7 : decode cX0_findFitting 7 = .ok (.getfield 118, 3) := by decide +kernel
theorem dX0_findFitting_10 : decode cX0_findFitting 10 = .ok (.if_icmp .ge 60, 3) := by decide +kernel
theorem dX0_findFitting_13 : decode cX0_findFitting 13 = .ok (.aload_n 0, 1) := by decide +kernel
theorem dX0_findFitting_14 : decode cX0_findFitting 14 = .ok (.getfield 24, 3) := by decide +kernel
theorem dX0_findFitting_17 : decode cX0_findFitting 17 = .ok (.iload_n 1, 1) := by decide +kernel
theorem dX0_findFitting_18 : decode cX0_findFitting 18 = .ok (.iconst 0, 1) := by decide +kernel
theorem dX0_findFitting_19 : decode cX0_findFitting 19 = .ok (.iastore, 1) := by decide +kernel
theorem dX0_findFitting_20 : decode cX0_findFitting 20 = .ok (.iconst 0, 1) := by decide +kernel
theorem dX0_findFitting_21 : decode cX0_findFitting 21 = .ok (.istore_n 2, 1) := by decide +kernel
theorem dX0_findFitting_22 : decode cX0_findFitting 22 = .ok (.iload_n 2, 1) := by decide +kernel
theorem dX0_findFitting_23 : decode cX0_findFitting 23 = .ok (.aload_n 0, 1) := by decide +kernel
theorem dX0_findFitting_24 : decode cX0_findFitting 24 = .ok (.getfield 37, 3) := by decide +kernel
theorem dX0_findFitting_27 : decode cX0_findFitting 27 = .ok (.getfield 121, 3) := by decide +kernel
theorem dX0_findFitting_30 : decode cX0_findFitting 30 = .ok (.if_icmp .ge 34, 3) := by decide +kernel
theorem dX0_findFitting_33 : decode cX0_findFitting 33 = .ok (.aload_n 0, 1) := by decide +kernel
theorem dX0_findFitting_34 : decode cX0_findFitting 34 = .ok (.getfield 37, 3) := by decide +kernel
theorem dX0_findFitting_37 : decode cX0_findFitting 37 = .ok (.iload_n 1, 1) := by decide +kernel
theorem dX0_findFitting_38 : decode cX0_findFitting 38 = .ok (.iload_n 2, 1) := by decide +kernel
theorem dX0_findFitting_39 : decode cX0_findFitting 39 = .ok (.iconst 0, 1) := by decide +kernel
theorem dX0_findFitting_40 : decode cX0_findFitting 40 = .ok (.invokevirtual 41, 3) := by decide +kernel
theorem dX0_findFitting_43 : decode cX0_findFitting 43 = .ok (.ifCond .eq 15, 3) := by decide +kernel
theorem dX0_findFitting_46 : decode cX0_findFitting 46 = .ok (.aload_n 0, 1) := by decide +kernel
theorem dX0_findFitting_47 : decode cX0_findFitting 47 = .ok (.getfield 24, 3) := by decide +kernel
theorem dX0_findFitting_50 : decode cX0_findFitting 50 = .ok (.iload_n 1, 1) := by decide +kernel
theorem dX0_findFitting_51 : decode cX0_findFitting 51 = .ok (.dup2, 1) := by decide +kernel
theorem dX0_findFitting_52 : decode cX0_findFitting 52 = .ok (.iaload, 1) := by decide +kernel
theorem dX0_findFitting_53 : decode cX0_findFitting 53 = .ok (.iconst 1, 1) := by decide +kernel
theorem dX0_findFitting_54 : decode cX0_findFitting 54 = .ok (.iload_n 2, 1) := by decide +kernel
theorem dX0_findFitting_55 : decode cX0_findFitting 55 = .ok (.ishl, 1) := by decide +kernel
theorem dX0_findFitting_56 : decode cX0_findFitting 56 = .ok (.ior, 1) := by decide +kernel
theorem dX0_findFitting_57 : decode cX0_findFitting 57 = .ok (.iastore, 1) := by decide +kernel
theorem dX0_findFitting_58 : decode cX0_findFitting 58 = .ok (.iinc 2 1, 3) := by decide +kernel
theorem dX0_findFitting_61 : decode cX0_findFitting 61 = .ok (.goto (-39), 3) := by decide +kernel
theorem dX0_findFitting_64 : decode cX0_findFitting 64 = .ok (.iinc 1 1, 3) := by decide +kernel
theorem dX0_findFitting_67 : decode cX0_findFitting 67 = .ok (.goto (-65), 3) := by decide +kernel
theorem dX0_findFitting_70 : decode cX0_findFitting 70 = .ok (.return_, 1) := by decide +kernel
theorem dX0_matchSuits_0 : decode cX0_matchSuits 0 = .ok (.iconst 0, 1) := by decide +kernel
theorem dX0_matchSuits_1 : decode cX0_matchSuits 1 = .ok (.istore_n 1, 1) := by decide +kernel
theorem dX0_matchSuits_2 : decode cX0_matchSuits 2 = .ok (.iload_n 1, 1) := by decide +kernel
theorem dX0_matchSuits_3 : decode cX0_matchSuits 3 = .ok (.bipush 16, 2) := by decide +kernel
theorem dX0_matchSuits_5 : decode cX0_matchSuits 5 = .ok (.if_icmp .ge 27, 3) := by decide +kernel
theorem dX0_matchSuits_8 : decode cX0_matchSuits 8 = .ok (.aload_n 0, 1) := by decide +kernel
theorem dX0_matchSuits_9 : decode cX0_matchSuits 9 = .ok (.getfield 27, 3) := by decide +kernel
theorem dX0_matchSuits_12 : decode cX0_matchSuits 12 = .ok (.aload_n 0, 1) := by decide +kernel
theorem dX0_matchSuits_13 : decode cX0_matchSuits 13 = .ok (.getfield 37, 3) := by decide +kernel
theorem dX0_matchSuits_16 : decode cX0_matchSuits 16 = .ok (.getfield 118, 3) := by decide +kernel
theorem dX0_matchSuits_19 : decode cX0_matchSuits 19 = .ok (.bipush 16, 2) := by decide +kernel
theorem dX0_matchSuits_21 : decode cX0_matchSuits 21 = .ok (.imul, 1) := by decide +kernel
theorem dX0_matchSuits_22 : decode cX0_matchSuits 22 = .ok (.iload_n 1, 1) := by decide +kernel
theorem dX0_matchSuits_23 : decode cX0_matchSuits 23 = .ok (.iadd, 1) := by decide +kernel
theorem dX0_matchSuits_24 : decode cX0_matchSuits 24 = .ok (.iconst 0, 1) := by decide +kernel
theorem dX0_matchSuits_25 : decode cX0_matchSuits 25 = .ok (.iastore, 1) := by decide +kernel
theorem dX0_matchSuits_26 : decode cX0_matchSuits 26 = .ok (.iinc 1 1, 3) := by decide +kernel
theorem dX0_matchSuits_29 : decode cX0_matchSuits 29 = .ok (.goto (-27), 3) := by decide +kernel
theorem dX0_matchSuits_32 : decode cX0_matchSuits 32 = .ok (.aload_n 0, 1) := by decide +kernel
theorem dX0_matchSuits_33 : decode cX0_matchSuits 33 = .ok (.getfield 37, 3) := by decide +kernel
theorem dX0_matchSuits_36 : decode cX0_matchSuits 36 = .ok (.getfield 118, 3) := by decide +kernel
theorem dX0_matchSuits_39 : decode cX0_matchSuits 39 = .ok (.iconst 1, 1) := by decide +kernel
theorem dX0_matchSuits_40 : decode cX0_matchSuits 40 = .ok (.isub, 1) := by decide +kernel
theorem dX0_matchSuits_41 : decode cX0_matchSuits 41 = .ok (.istore_n 1, 1) := by decide +kernel
theorem dX0_matchSuits_42 : decode cX0_matchSuits 42 = .ok (.iload_n 1, 1) := by decide +kernel
theorem dX0_matchSuits_43 : decode cX0_matchSuits 43 = .ok (.ifCond .lt 40, 3) := by decide +kernel
theorem dX0_matchSuits_46 : decode cX0_matchSuits 46 = .ok (.iconst 0, 1) := by decide +kernel
theorem dX0_matchSuits_47 : decode cX0_matchSuits 47 = .ok (.istore_n 2, 1) := by decide +kernel
theorem dX0_matchSuits_48 : decode cX0_matchSuits 48 = .ok (.iload_n 2, 1) := by decide +kernel
theorem dX0_matchSuits_49 : decode cX0_matchSuits 49 = .ok (.bipush 16, 2) := by decide +kernel
theorem dX0_matchSuits_51 : decode cX0_matchSuits 51 = .ok (.if_icmp .ge 26, 3) := by decide +kernel
theorem dX0_matchSuits_54 : decode cX0_matchSuits 54 = .ok (.aload_n 0, 1) := by decide +kernel
theorem dX0_matchSuits_55 : decode cX0_matchSuits 55 = .ok (.getfield 27, 3) := by decide +kernel
theorem dX0_matchSuits_58 : decode cX0_matchSuits 58 = .ok (.iload_n 1, 1) := by decide +kernel
theorem dX0_matchSuits_59 : decode cX0_matchSuits 59 = .ok (.bipush 16, 2) := by decide +kernel
theorem dX0_matchSuits_61 : decode cX0_matchSuits 61 = .ok (.imul, 1) := by decide +kernel
theorem dX0_matchSuits_62 : decode cX0_matchSuits 62 = .ok (.iload_n 2, 1) := by decide +kernel
theorem dX0_matchSuits_63 : decode cX0_matchSuits 63 = .ok (.iadd, 1) := by decide +kernel
theorem dX0_matchSuits_64 : decode cX0_matchSuits 64 = .ok (.aload_n 0, 1) := by decide +kernel
theorem dX0_matchSuits_65 : decode cX0_matchSuits 65 = .ok (.iload_n 1, 1) := by decide +kernel
theorem dX0_matchSuits_66 : decode cX0_matchSuits 66 = .ok (.iload_n 2, 1) := by decide +kernel
theorem dX0_matchSuits_67 : decode cX0_matchSuits 67 = .ok (.invokevirtual 124, 3) := by decide +kernel
theorem dX0_matchSuits_70 : decode cX0_matchSuits 70 = .ok (.iastore, 1) := by decide +kernel
theorem dX0_matchSuits_71 : decode cX0_matchSuits 71 = .ok (.iinc 2 1, 3) := by decide +kernel
theorem dX0_matchSuits_74 : decode cX0_matchSuits 74 = .ok (.goto (-26), 3) := by decide +kernel
theorem dX0_matchSuits_77 : decode cX0_matchSuits 77 = .ok (.iinc 1 (-1), 3) := by decide +kernel
theorem dX0_matchSuits_80 : decode cX0_matchSuits 80 = .ok (.goto (-38), 3) := by decide +kernel
theorem dX0_matchSuits_83 : decode cX0_matchSuits 83 = .ok (.return_, 1) := by decide +kernel
theorem dX0_mostFrom_0 : decode cX0_mostFrom 0 = .ok (.aload_n 0, 1) := by decide +kernel
theorem dX0_mostFrom_1 : decode cX0_mostFrom 1 = .ok (.getfield 27, 3) := by decide +kernel
theorem dX0_mostFrom_4 : decode cX0_mostFrom 4 = .ok (.iload_n 1, 1) := by decide +kernel
theorem dX0_mostFrom_5 : decode cX0_mostFrom 5 = .ok (.iconst 1, 1) := by decide +kernel
theorem dX0_mostFrom_6 : decode cX0_mostFrom 6 = .ok (.iadd, 1) := by decide +kernel
theorem dX0_mostFrom_7 : decode cX0_mostFrom 7 = .ok (.bipush 16, 2) := by decide +kernel
theorem dX0_mostFrom_9 : decode cX0_mostFrom 9 = .ok (.imul, 1) := by decide +kernel
theorem dX0_mostFrom_10 : decode cX0_mostFrom 10 = .ok (.iload_n 2, 1) := by decide +kernel
theorem dX0_mostFrom_11 : decode cX0_mostFrom 11 = .ok (.iadd, 1) := by decide +kernel
theorem dX0_mostFrom_12 : decode cX0_mostFrom 12 = .ok (.iaload, 1) := by decide +kernel
theorem dX0_mostFrom_13 : decode cX0_mostFrom 13 = .ok (.istore_n 3, 1) := by decide +kernel
theorem dX0_mostFrom_14 : decode cX0_mostFrom 14 = .ok (.iconst 0, 1) := by decide +kernel
theorem dX0_mostFrom_15 : decode cX0_mostFrom 15 = .ok (.istore 4, 2) := by decide +kernel
theorem dX0_mostFrom_17 : decode cX0_mostFrom 17 = .ok (.iload 4, 2) := by decide +kernel
theorem dX0_mostFrom_19 : decode cX0_mostFrom 19 = .ok (.aload_n 0, 1) := by decide +kernel
theorem dX0_mostFrom_20 : decode cX0_mostFrom 20 = .ok (.getfield 37, 3) := by decide +kernel
theorem dX0_mostFrom_23 : decode cX0_mostFrom 23 = .ok (.getfield 121, 3) := by decide +kernel
theorem dX0_mostFrom_26 : decode cX0_mostFrom 26 = .ok (.if_icmp .ge 33, 3) := by decide +kernel
theorem dX0_mostFrom_29 : decode cX0_mostFrom 29 = .ok (.aload_n 0, 1) := by decide +kernel
theorem dX0_mostFrom_30 : decode cX0_mostFrom 30 = .ok (.iload_n 1, 1) := by decide +kernel
theorem dX0_mostFrom_31 : decode cX0_mostFrom 31 = .ok (.iload 4, 2) := by decide +kernel
theorem dX0_mostFrom_33 : decode cX0_mostFrom 33 = .ok (.iload_n 2, 1) := by decide +kernel
theorem dX0_mostFrom_34 : decode cX0_mostFrom 34 = .ok (.invokevirtual 127, 3) := by decide +kernel
theorem dX0_mostFrom_37 : decode cX0_mostFrom 37 = .ok (.ifCond .eq 16, 3) := by decide +kernel
theorem dX0_mostFrom_40 : decode cX0_mostFrom 40 = .ok (.iload_n 3, 1) := by decide +kernel
theorem dX0_mostFrom_41 : decode cX0_mostFrom 41 = .ok (.aload_n 0, 1) := by decide +kernel
theorem dX0_mostFrom_42 : decode cX0_mostFrom 42 = .ok (.iload_n 1, 1) := by decide +kernel
theorem dX0_mostFrom_43 : decode cX0_mostFrom 43 = .ok (.iload 4, 2) := by decide +kernel
theorem dX0_mostFrom_45 : decode cX0_mostFrom 45 = .ok (.iload_n 2, 1) := by decide +kernel
theorem dX0_mostFrom_46 : decode cX0_mostFrom 46 = .ok (.invokevirtual 130, 3) := by decide +kernel
theorem dX0_mostFrom_49 : decode cX0_mostFrom 49 = .ok (.invokestatic 133, 3) := by decide +kernel
theorem dX0_mostFrom_52 : decode cX0_mostFrom 52 = .ok (.istore_n 3, 1) := by decide +kernel
theorem dX0_mostFrom_53 : decode cX0_mostFrom 53 = .ok (.iinc 4 1, 3) := by decide +kernel
theorem dX0_mostFrom_56 : decode cX0_mostFrom 56 = .ok (.goto (-39), 3) := by decide +kernel
theorem dX0_mostFrom_59 : decode cX0_mostFrom 59 = .ok (.iload_n 3, 1) := by decide +kernel
theorem dX0_mostFrom_60 : decode cX0_mostFrom 60 = .ok (.ireturn, 1) := by decide +kernel
theorem dX0_isFree_0 : decode cX0_isFree 0 = .ok (.aload_n 0, 1) := by decide +kernel
theorem dX0_isFree_1 : decode cX0_isFree 1 = .ok (.getfield 24, 3) := by decide +kernel
theorem dX0_isFree_4 : decode cX0_isFree 4 = .ok (.iload_n 1, 1) := by decide +kernel
theorem dX0_isFree_5 : decode cX0_isFree 5 = .ok (.iaload, 1) := by decide +kernel
theorem dX0_isFree_6 : decode cX0_isFree 6 = .ok (.iload_n 3, 1) := by decide +kernel
theorem dX0_isFree_7 : decode cX0_isFree 7 = .ok (.iconst (-1), 1) := by decide +kernel
theorem dX0_isFree_8 : decode cX0_isFree 8 = .ok (.ixor, 1) := by decide +kernel
theorem dX0_isFree_9 : decode cX0_isFree 9 = .ok (.iand, 1) := by decide +kernel
theorem dX0_isFree_10 : decode cX0_isFree 10 = .ok (.iload_n 2, 1) := by decide +kernel
theorem dX0_isFree_11 : decode cX0_isFree 11 = .ok (.ishr, 1) := by decide +kernel
theorem dX0_isFree_12 : decode cX0_isFree 12 = .ok (.iconst 1, 1) := by decide +kernel
theorem dX0_isFree_13 : decode cX0_isFree 13 = .ok (.iand, 1) := by decide +kernel
theorem dX0_isFree_14 : decode cX0_isFree 14 = .ok (.iconst 1, 1) := by decide +kernel
theorem dX0_isFree_15 : decode cX0_isFree 15 = .ok (.if_icmp .ne 7, 3) := by decide +kernel
theorem dX0_isFree_18 : decode cX0_isFree 18 = .ok (.iconst 1, 1) := by decide +kernel
theorem dX0_isFree_19 : decode cX0_isFree 19 = .ok (.goto 4, 3) := by decide +kernel
theorem dX0_isFree_22 : decode cX0_isFree 22 = .ok (.iconst 0, 1) := by decide +kernel
theorem dX0_isFree_23 : decode cX0_isFree 23 = .ok (.ireturn, 1) := by decide +kernel
theorem dX0_mostWith_0 : decode cX0_mostWith 0 = .ok (.iconst 1, 1) := by decide +kernel
theorem dX0_mostWith_1 : decode cX0_mostWith 1 = .ok (.aload_n 0, 1) := by decide +kernel
theorem dX0_mostWith_2 : decode cX0_mostWith 2 = .ok (.getfield 27, 3) := by decide +kernel
theorem dX0_mostWith_5 : decode cX0_mostWith 5 = .ok (.iload_n 1, 1) := by decide +kernel
theorem dX0_mostWith_6 : decode cX0_mostWith 6 = .ok (.iconst 1, 1) := by decide +kernel
theorem dX0_mostWith_7 : decode cX0_mostWith 7 = .ok (.iadd, 1) := by decide +kernel
theorem dX0_mostWith_8 : decode cX0_mostWith 8 = .ok (.bipush 16, 2) := by decide +kernel
theorem dX0_mostWith_10 : decode cX0_mostWith 10 = .ok (.imul, 1) := by decide +kernel
theorem dX0_mostWith_11 : decode cX0_mostWith 11 = .ok (.iload_n 3, 1) := by decide +kernel
theorem dX0_mostWith_12 : decode cX0_mostWith 12 = .ok (.iconst 1, 1) := by decide +kernel
theorem dX0_mostWith_13 : decode cX0_mostWith 13 = .ok (.iload_n 2, 1) := by decide +kernel
theorem dX0_mostWith_14 : decode cX0_mostWith 14 = .ok (.ishl, 1) := by decide +kernel
theorem dX0_mostWith_15 : decode cX0_mostWith 15 = .ok (.ior, 1) := by decide +kernel
theorem dX0_mostWith_16 : decode cX0_mostWith 16 = .ok (.iadd, 1) := by decide +kernel
theorem dX0_mostWith_17 : decode cX0_mostWith 17 = .ok (.iaload, 1) := by decide +kernel
theorem dX0_mostWith_18 : decode cX0_mostWith 18 = .ok (.iadd, 1) := by decide +kernel
theorem dX0_mostWith_19 : decode cX0_mostWith 19 = .ok (.ireturn, 1) := by decide +kernel
theorem dX0_mostDressed_0 : decode cX0_mostDressed 0 = .ok (.aload_n 0, 1) := by decide +kernel
theorem dX0_mostDressed_1 : decode cX0_mostDressed 1 = .ok (.getfield 27, 3) := by decide +kernel
theorem dX0_mostDressed_4 : decode cX0_mostDressed 4 = .ok (.iconst 0, 1) := by decide +kernel
theorem dX0_mostDressed_5 : decode cX0_mostDressed 5 = .ok (.iaload, 1) := by decide +kernel
theorem dX0_mostDressed_6 : decode cX0_mostDressed 6 = .ok (.ireturn, 1) := by decide +kernel
theorem dX0_suitOf_0 : decode cX0_suitOf 0 = .ok (.iconst 0, 1) := by decide +kernel
theorem dX0_suitOf_1 : decode cX0_suitOf 1 = .ok (.istore_n 2, 1) := by decide +kernel
theorem dX0_suitOf_2 : decode cX0_suitOf 2 = .ok (.bipush (-4), 2) := by decide +kernel
theorem dX0_suitOf_4 : decode cX0_suitOf 4 = .ok (.istore_n 3, 1) := by decide +kernel
theorem dX0_suitOf_5 : decode cX0_suitOf 5 = .ok (.iconst 0, 1) := by decide +kernel
theorem dX0_suitOf_6 : decode cX0_suitOf 6 = .ok (.istore 4, 2) := by decide +kernel
theorem dX0_suitOf_8 : decode cX0_suitOf 8 = .ok (.iload 4, 2) := by decide +kernel
theorem dX0_suitOf_10 : decode cX0_suitOf 10 = .ok (.iload_n 1, 1) := by decide +kernel
theorem dX0_suitOf_11 : decode cX0_suitOf 11 = .ok (.if_icmp .gt 29, 3) := by decide +kernel
theorem dX0_suitOf_14 : decode cX0_suitOf 14 = .ok (.aload_n 0, 1) := by decide +kernel
theorem dX0_suitOf_15 : decode cX0_suitOf 15 = .ok (.iload 4, 2) := by decide +kernel
theorem dX0_suitOf_17 : decode cX0_suitOf 17 = .ok (.iload_n 2, 1) := by decide +kernel
theorem dX0_suitOf_18 : decode cX0_suitOf 18 = .ok (.invokevirtual 136, 3) := by decide +kernel
theorem dX0_suitOf_21 : decode cX0_suitOf 21 = .ok (.istore_n 3, 1) := by decide +kernel
theorem dX0_suitOf_22 : decode cX0_suitOf 22 = .ok (.iload_n 3, 1) := by decide +kernel
theorem dX0_suitOf_23 : decode cX0_suitOf 23 = .ok (.bipush (-4), 2) := by decide +kernel
theorem dX0_suitOf_25 : decode cX0_suitOf 25 = .ok (.if_icmp .eq 9, 3) := by decide +kernel
theorem dX0_suitOf_28 : decode cX0_suitOf 28 = .ok (.iload_n 2, 1) := by decide +kernel
theorem dX0_suitOf_29 : decode cX0_suitOf 29 = .ok (.iconst 1, 1) := by decide +kernel
theorem dX0_suitOf_30 : decode cX0_suitOf 30 = .ok (.iload_n 3, 1) := by decide +kernel
theorem dX0_suitOf_31 : decode cX0_suitOf 31 = .ok (.ishl, 1) := by decide +kernel
theorem dX0_suitOf_32 : decode cX0_suitOf 32 = .ok (.ior, 1) := by decide +kernel
theorem dX0_suitOf_33 : decode cX0_suitOf 33 = .ok (.istore_n 2, 1) := by decide +kernel
theorem dX0_suitOf_34 : decode cX0_suitOf 34 = .ok (.iinc 4 1, 3) := by decide +kernel
theorem dX0_suitOf_37 : decode cX0_suitOf 37 = .ok (.goto (-29), 3) := by decide +kernel
theorem dX0_suitOf_40 : decode cX0_suitOf 40 = .ok (.iload_n 3, 1) := by decide +kernel
theorem dX0_suitOf_41 : decode cX0_suitOf 41 = .ok (.ireturn, 1) := by decide +kernel
theorem dX0_firstChoice_0 : decode cX0_firstChoice 0 = .ok (.iconst 0, 1) := by decide +kernel
theorem dX0_firstChoice_1 : decode cX0_firstChoice 1 = .ok (.istore_n 3, 1) := by decide +kernel
theorem dX0_firstChoice_2 : decode cX0_firstChoice 2 = .ok (.iload_n 3, 1) := by decide +kernel
theorem dX0_firstChoice_3 : decode cX0_firstChoice 3 = .ok (.aload_n 0, 1) := by decide +kernel
theorem dX0_firstChoice_4 : decode cX0_firstChoice 4 = .ok (.getfield 37, 3) := by decide +kernel
theorem dX0_firstChoice_7 : decode cX0_firstChoice 7 = .ok (.getfield 121, 3) := by decide +kernel
theorem dX0_firstChoice_10 : decode cX0_firstChoice 10 = .ok (.if_icmp .ge 42, 3) := by decide +kernel
theorem dX0_firstChoice_13 : decode cX0_firstChoice 13 = .ok (.aload_n 0, 1) := by decide +kernel
theorem dX0_firstChoice_14 : decode cX0_firstChoice 14 = .ok (.iload_n 1, 1) := by decide +kernel
theorem dX0_firstChoice_15 : decode cX0_firstChoice 15 = .ok (.iload_n 3, 1) := by decide +kernel
theorem dX0_firstChoice_16 : decode cX0_firstChoice 16 = .ok (.iload_n 2, 1) := by decide +kernel
theorem dX0_firstChoice_17 : decode cX0_firstChoice 17 = .ok (.invokevirtual 127, 3) := by decide +kernel
theorem dX0_firstChoice_20 : decode cX0_firstChoice 20 = .ok (.ifCond .eq 26, 3) := by decide +kernel
theorem dX0_firstChoice_23 : decode cX0_firstChoice 23 = .ok (.aload_n 0, 1) := by decide +kernel
theorem dX0_firstChoice_24 : decode cX0_firstChoice 24 = .ok (.iload_n 1, 1) := by decide +kernel
theorem dX0_firstChoice_25 : decode cX0_firstChoice 25 = .ok (.iload_n 3, 1) := by decide +kernel
theorem dX0_firstChoice_26 : decode cX0_firstChoice 26 = .ok (.iload_n 2, 1) := by decide +kernel
theorem dX0_firstChoice_27 : decode cX0_firstChoice 27 = .ok (.invokevirtual 130, 3) := by decide +kernel
theorem dX0_firstChoice_30 : decode cX0_firstChoice 30 = .ok (.aload_n 0, 1) := by decide +kernel
theorem dX0_firstChoice_31 : decode cX0_firstChoice 31 = .ok (.getfield 27, 3) := by decide +kernel
theorem dX0_firstChoice_34 : decode cX0_firstChoice 34 = .ok (.iload_n 1, 1) := by decide +kernel
theorem dX0_firstChoice_35 : decode cX0_firstChoice 35 = .ok (.bipush 16, 2) := by decide +kernel
theorem dX0_firstChoice_37 : decode cX0_firstChoice 37 = .ok (.imul, 1) := by decide +kernel
theorem dX0_firstChoice_38 : decode cX0_firstChoice 38 = .ok (.iload_n 2, 1) := by decide +kernel
theorem dX0_firstChoice_39 : decode cX0_firstChoice 39 = .ok (.iadd, 1) := by decide +kernel
theorem dX0_firstChoice_40 : decode cX0_firstChoice 40 = .ok (.iaload, 1) := by decide +kernel
theorem dX0_firstChoice_41 : decode cX0_firstChoice 41 = .ok (.if_icmp .ne 5, 3) := by decide +kernel
theorem dX0_firstChoice_44 : decode cX0_firstChoice 44 = .ok (.iload_n 3, 1) := by decide +kernel
theorem dX0_firstChoice_45 : decode cX0_firstChoice 45 = .ok (.ireturn, 1) := by decide +kernel
theorem dX0_firstChoice_46 : decode cX0_firstChoice 46 = .ok (.iinc 3 1, 3) := by decide +kernel
theorem dX0_firstChoice_49 : decode cX0_firstChoice 49 = .ok (.goto (-47), 3) := by decide +kernel
theorem dX0_firstChoice_52 : decode cX0_firstChoice 52 = .ok (.bipush (-4), 2) := by decide +kernel
theorem dX0_firstChoice_54 : decode cX0_firstChoice 54 = .ok (.ireturn, 1) := by decide +kernel
theorem dX0_likelihood_0 : decode cX0_likelihood 0 = .ok (.iconst 1, 1) := by decide +kernel
theorem dX0_likelihood_1 : decode cX0_likelihood 1 = .ok (.istore 4, 2) := by decide +kernel
theorem dX0_likelihood_3 : decode cX0_likelihood 3 = .ok (.iconst 1, 1) := by decide +kernel
theorem dX0_likelihood_4 : decode cX0_likelihood 4 = .ok (.istore 5, 2) := by decide +kernel
theorem dX0_likelihood_6 : decode cX0_likelihood 6 = .ok (.iconst 0, 1) := by decide +kernel
theorem dX0_likelihood_7 : decode cX0_likelihood 7 = .ok (.istore 6, 2) := by decide +kernel
theorem dX0_likelihood_9 : decode cX0_likelihood 9 = .ok (.iload 6, 2) := by decide +kernel
theorem dX0_likelihood_11 : decode cX0_likelihood 11 = .ok (.iconst 4, 1) := by decide +kernel
theorem dX0_likelihood_12 : decode cX0_likelihood 12 = .ok (.if_icmp .ge 61, 3) := by decide +kernel
theorem dX0_likelihood_15 : decode cX0_likelihood 15 = .ok (.aload_n 0, 1) := by decide +kernel
theorem dX0_likelihood_16 : decode cX0_likelihood 16 = .ok (.aload_n 0, 1) := by decide +kernel
theorem dX0_likelihood_17 : decode cX0_likelihood 17 = .ok (.getfield 37, 3) := by decide +kernel
theorem dX0_likelihood_20 : decode cX0_likelihood 20 = .ok (.iload_n 1, 1) := by decide +kernel
theorem dX0_likelihood_21 : decode cX0_likelihood 21 = .ok (.iload_n 2, 1) := by decide +kernel
theorem dX0_likelihood_22 : decode cX0_likelihood 22 = .ok (.iload 6, 2) := by decide +kernel
theorem dX0_likelihood_24 : decode cX0_likelihood 24 = .ok (.iconst 0, 1) := by decide +kernel
theorem dX0_likelihood_25 : decode cX0_likelihood 25 = .ok (.invokevirtual 47, 3) := by decide +kernel
theorem dX0_likelihood_28 : decode cX0_likelihood 28 = .ok (.invokevirtual 139, 3) := by decide +kernel
theorem dX0_likelihood_31 : decode cX0_likelihood 31 = .ok (.istore 7, 2) := by decide +kernel
theorem dX0_likelihood_33 : decode cX0_likelihood 33 = .ok (.iload 7, 2) := by decide +kernel
theorem dX0_likelihood_35 : decode cX0_likelihood 35 = .ok (.ifCond .ne 13, 3) := by decide +kernel
theorem dX0_likelihood_38 : decode cX0_likelihood 38 = .ok (.iload_n 3, 1) := by decide +kernel
theorem dX0_likelihood_39 : decode cX0_likelihood 39 = .ok (.ifCond .eq 7, 3) := by decide +kernel
theorem dX0_likelihood_42 : decode cX0_likelihood 42 = .ok (.iconst 0, 1) := by decide +kernel
theorem dX0_likelihood_43 : decode cX0_likelihood 43 = .ok (.goto 4, 3) := by decide +kernel
theorem dX0_likelihood_46 : decode cX0_likelihood 46 = .ok (.iconst 1, 1) := by decide +kernel
theorem dX0_likelihood_47 : decode cX0_likelihood 47 = .ok (.ireturn, 1) := by decide +kernel
theorem dX0_likelihood_48 : decode cX0_likelihood 48 = .ok (.iload 7, 2) := by decide +kernel
theorem dX0_likelihood_50 : decode cX0_likelihood 50 = .ok (.iconst 3, 1) := by decide +kernel
theorem dX0_likelihood_51 : decode cX0_likelihood 51 = .ok (.if_icmp .ge 16, 3) := by decide +kernel
theorem dX0_likelihood_54 : decode cX0_likelihood 54 = .ok (.iload 4, 2) := by decide +kernel
theorem dX0_likelihood_56 : decode cX0_likelihood 56 = .ok (.iload 7, 2) := by decide +kernel
theorem dX0_likelihood_58 : decode cX0_likelihood 58 = .ok (.imul, 1) := by decide +kernel
theorem dX0_likelihood_59 : decode cX0_likelihood 59 = .ok (.istore 4, 2) := by decide +kernel
theorem dX0_likelihood_61 : decode cX0_likelihood 61 = .ok (.iload 5, 2) := by decide +kernel
theorem dX0_likelihood_63 : decode cX0_likelihood 63 = .ok (.iconst 3, 1) := by decide +kernel
theorem dX0_likelihood_64 : decode cX0_likelihood 64 = .ok (.imul, 1) := by decide +kernel
theorem dX0_likelihood_65 : decode cX0_likelihood 65 = .ok (.istore 5, 2) := by decide +kernel
theorem dX0_likelihood_67 : decode cX0_likelihood 67 = .ok (.iinc 6 1, 3) := by decide +kernel
theorem dX0_likelihood_70 : decode cX0_likelihood 70 = .ok (.goto (-61), 3) := by decide +kernel
theorem dX0_likelihood_73 : decode cX0_likelihood 73 = .ok (.iload_n 3, 1) := by decide +kernel
theorem dX0_likelihood_74 : decode cX0_likelihood 74 = .ok (.ifCond .eq 8, 3) := by decide +kernel
theorem dX0_likelihood_77 : decode cX0_likelihood 77 = .ok (.iload 4, 2) := by decide +kernel
theorem dX0_likelihood_79 : decode cX0_likelihood 79 = .ok (.goto 5, 3) := by decide +kernel
theorem dX0_likelihood_82 : decode cX0_likelihood 82 = .ok (.iload 5, 2) := by decide +kernel
theorem dX0_likelihood_84 : decode cX0_likelihood 84 = .ok (.ireturn, 1) := by decide +kernel
theorem dX0_easyReadings_0 : decode cX0_easyReadings 0 = .ok (.iconst 0, 1) := by decide +kernel
theorem dX0_easyReadings_1 : decode cX0_easyReadings 1 = .ok (.istore_n 2, 1) := by decide +kernel
theorem dX0_easyReadings_2 : decode cX0_easyReadings 2 = .ok (.iconst (-1), 1) := by decide +kernel
theorem dX0_easyReadings_3 : decode cX0_easyReadings 3 = .ok (.istore_n 3, 1) := by decide +kernel
theorem dX0_easyReadings_4 : decode cX0_easyReadings 4 = .ok (.iload_n 3, 1) := by decide +kernel
theorem dX0_easyReadings_5 : decode cX0_easyReadings 5 = .ok (.iconst 1, 1) := by decide +kernel
theorem dX0_easyReadings_6 : decode cX0_easyReadings 6 = .ok (.if_icmp .gt 28, 3) := by decide +kernel
theorem dX0_easyReadings_9 : decode cX0_easyReadings 9 = .ok (.iload_n 1, 1) := by decide +kernel
theorem dX0_easyReadings_10 : decode cX0_easyReadings 10 = .ok (.iload_n 3, 1) := by decide +kernel
theorem dX0_easyReadings_11 : decode cX0_easyReadings 11 = .ok (.iadd, 1) := by decide +kernel
theorem dX0_easyReadings_12 : decode cX0_easyReadings 12 = .ok (.invokestatic 103, 3) := by decide +kernel
theorem dX0_easyReadings_15 : decode cX0_easyReadings 15 = .ok (.aload_n 0, 1) := by decide +kernel
theorem dX0_easyReadings_16 : decode cX0_easyReadings 16 = .ok (.getfield 37, 3) := by decide +kernel
theorem dX0_easyReadings_19 : decode cX0_easyReadings 19 = .ok (.getfield 108, 3) := by decide +kernel
theorem dX0_easyReadings_22 : decode cX0_easyReadings 22 = .ok (.if_icmp .gt 6, 3) := by decide +kernel
theorem dX0_easyReadings_25 : decode cX0_easyReadings 25 = .ok (.iinc 2 1, 3) := by decide +kernel
theorem dX0_easyReadings_28 : decode cX0_easyReadings 28 = .ok (.iinc 3 1, 3) := by decide +kernel
theorem dX0_easyReadings_31 : decode cX0_easyReadings 31 = .ok (.goto (-27), 3) := by decide +kernel
theorem dX0_easyReadings_34 : decode cX0_easyReadings 34 = .ok (.iload_n 2, 1) := by decide +kernel
theorem dX0_easyReadings_35 : decode cX0_easyReadings 35 = .ok (.ireturn, 1) := by decide +kernel
theorem dX0_longerByAtLeast_0 : decode cX0_longerByAtLeast 0 = .ok (.iconst 0, 1) := by decide +kernel
theorem dX0_longerByAtLeast_1 : decode cX0_longerByAtLeast 1 = .ok (.istore_n 2, 1) := by decide +kernel
theorem dX0_longerByAtLeast_2 : decode cX0_longerByAtLeast 2 = .ok (.iconst 0, 1) := by decide +kernel
theorem dX0_longerByAtLeast_3 : decode cX0_longerByAtLeast 3 = .ok (.istore_n 3, 1) := by decide +kernel
theorem dX0_longerByAtLeast_4 : decode cX0_longerByAtLeast 4 = .ok (.iload_n 3, 1) := by decide +kernel
theorem dX0_longerByAtLeast_5 : decode cX0_longerByAtLeast 5 = .ok (.aload_n 0, 1) := by decide +kernel
theorem dX0_longerByAtLeast_6 : decode cX0_longerByAtLeast 6 = .ok (.getfield 37, 3) := by decide +kernel
theorem dX0_longerByAtLeast_9 : decode cX0_longerByAtLeast 9 = .ok (.getfield 118, 3) := by decide +kernel
theorem dX0_longerByAtLeast_12 : decode cX0_longerByAtLeast 12 = .ok (.if_icmp .ge 45, 3) := by decide +kernel
theorem dX0_longerByAtLeast_15 : decode cX0_longerByAtLeast 15 = .ok (.iconst 0, 1) := by decide +kernel
theorem dX0_longerByAtLeast_16 : decode cX0_longerByAtLeast 16 = .ok (.istore 4, 2) := by decide +kernel
theorem dX0_longerByAtLeast_18 : decode cX0_longerByAtLeast 18 = .ok (.iload 4, 2) := by decide +kernel
theorem dX0_longerByAtLeast_20 : decode cX0_longerByAtLeast 20 = .ok (.iconst 4, 1) := by decide +kernel
theorem dX0_longerByAtLeast_21 : decode cX0_longerByAtLeast 21 = .ok (.if_icmp .ge 30, 3) := by decide +kernel
theorem dX0_longerByAtLeast_24 : decode cX0_longerByAtLeast 24 = .ok (.aload_n 0, 1) := by decide +kernel
theorem dX0_longerByAtLeast_25 : decode cX0_longerByAtLeast 25 = .ok (.getfield 37, 3) := by decide +kernel
theorem dX0_longerByAtLeast_28 : decode cX0_longerByAtLeast 28 = .ok (.iload_n 3, 1) := by decide +kernel
theorem dX0_longerByAtLeast_29 : decode cX0_longerByAtLeast 29 = .ok (.iload 4, 2) := by decide +kernel
theorem dX0_longerByAtLeast_31 : decode cX0_longerByAtLeast 31 = .ok (.iconst 0, 1) := by decide +kernel
theorem dX0_longerByAtLeast_32 : decode cX0_longerByAtLeast 32 = .ok (.invokevirtual 142, 3) := by decide +kernel
theorem dX0_longerByAtLeast_35 : decode cX0_longerByAtLeast 35 = .ok (.iload_n 1, 1) := by decide +kernel
theorem dX0_longerByAtLeast_36 : decode cX0_longerByAtLeast 36 = .ok (.if_icmp .lt 9, 3) := by decide +kernel
theorem dX0_longerByAtLeast_39 : decode cX0_longerByAtLeast 39 = .ok (.iload_n 2, 1) := by decide +kernel
theorem dX0_longerByAtLeast_40 : decode cX0_longerByAtLeast 40 = .ok (.iconst 1, 1) := by decide +kernel
theorem dX0_longerByAtLeast_41 : decode cX0_longerByAtLeast 41 = .ok (.iload_n 3, 1) := by decide +kernel
theorem dX0_longerByAtLeast_42 : decode cX0_longerByAtLeast 42 = .ok (.ishl, 1) := by decide +kernel
theorem dX0_longerByAtLeast_43 : decode cX0_longerByAtLeast 43 = .ok (.ior, 1) := by decide +kernel
theorem dX0_longerByAtLeast_44 : decode cX0_longerByAtLeast 44 = .ok (.istore_n 2, 1) := by decide +kernel
theorem dX0_longerByAtLeast_45 : decode cX0_longerByAtLeast 45 = .ok (.iinc 4 1, 3) := by decide +kernel
theorem dX0_longerByAtLeast_48 : decode cX0_longerByAtLeast 48 = .ok (.goto (-30), 3) := by decide +kernel
theorem dX0_longerByAtLeast_51 : decode cX0_longerByAtLeast 51 = .ok (.iinc 3 1, 3) := by decide +kernel
theorem dX0_longerByAtLeast_54 : decode cX0_longerByAtLeast 54 = .ok (.goto (-50), 3) := by decide +kernel
theorem dX0_longerByAtLeast_57 : decode cX0_longerByAtLeast 57 = .ok (.iload_n 2, 1) := by decide +kernel
theorem dX0_longerByAtLeast_58 : decode cX0_longerByAtLeast 58 = .ok (.ireturn, 1) := by decide +kernel
theorem dX0_explain_0 : decode cX0_explain 0 = .ok (.iconst 0, 1) := by decide +kernel
theorem dX0_explain_1 : decode cX0_explain 1 = .ok (.istore 4, 2) := by decide +kernel
theorem dX0_explain_3 : decode cX0_explain 3 = .ok (.iload 4, 2) := by decide +kernel
theorem dX0_explain_5 : decode cX0_explain 5 = .ok (.iconst 4, 1) := by decide +kernel
theorem dX0_explain_6 : decode cX0_explain 6 = .ok (.if_icmp .ge 25, 3) := by decide +kernel
theorem dX0_explain_9 : decode cX0_explain 9 = .ok (.aload_n 0, 1) := by decide +kernel
theorem dX0_explain_10 : decode cX0_explain 10 = .ok (.getfield 33, 3) := by decide +kernel
theorem dX0_explain_13 : decode cX0_explain 13 = .ok (.iload 4, 2) := by decide +kernel
theorem dX0_explain_15 : decode cX0_explain 15 = .ok (.aload_n 2, 1) := by decide +kernel
theorem dX0_explain_16 : decode cX0_explain 16 = .ok (.getfield 145, 3) := by decide +kernel
theorem dX0_explain_19 : decode cX0_explain 19 = .ok (.iload_n 3, 1) := by decide +kernel
theorem dX0_explain_20 : decode cX0_explain 20 = .ok (.iload 4, 2) := by decide +kernel
theorem dX0_explain_22 : decode cX0_explain 22 = .ok (.iadd, 1) := by decide +kernel
theorem dX0_explain_23 : decode cX0_explain 23 = .ok (.laload, 1) := by decide +kernel
theorem dX0_explain_24 : decode cX0_explain 24 = .ok (.lastore, 1) := by decide +kernel
theorem dX0_explain_25 : decode cX0_explain 25 = .ok (.iinc 4 1, 3) := by decide +kernel
theorem dX0_explain_28 : decode cX0_explain 28 = .ok (.goto (-25), 3) := by decide +kernel
theorem dX0_explain_31 : decode cX0_explain 31 = .ok (.aload_n 0, 1) := by decide +kernel
theorem dX0_explain_32 : decode cX0_explain 32 = .ok (.iconst 0, 1) := by decide +kernel
theorem dX0_explain_33 : decode cX0_explain 33 = .ok (.putfield 150, 3) := by decide +kernel
theorem dX0_explain_36 : decode cX0_explain 36 = .ok (.aload_n 0, 1) := by decide +kernel
theorem dX0_explain_37 : decode cX0_explain 37 = .ok (.bipush (-4), 2) := by decide +kernel
theorem dX0_explain_39 : decode cX0_explain 39 = .ok (.putfield 153, 3) := by decide +kernel
theorem dX0_explain_42 : decode cX0_explain 42 = .ok (.iconst 1, 1) := by decide +kernel
theorem dX0_explain_43 : decode cX0_explain 43 = .ok (.istore 4, 2) := by decide +kernel
theorem dX0_explain_45 : decode cX0_explain 45 = .ok (.iload 4, 2) := by decide +kernel
theorem dX0_explain_47 : decode cX0_explain 47 = .ok (.bipush 9, 2) := by decide +kernel
theorem dX0_explain_49 : decode cX0_explain 49 = .ok (.if_icmp .gt 75, 3) := by decide +kernel
theorem dX0_explain_52 : decode cX0_explain 52 = .ok (.iconst 1, 1) := by decide +kernel
theorem dX0_explain_53 : decode cX0_explain 53 = .ok (.istore 5, 2) := by decide +kernel
theorem dX0_explain_55 : decode cX0_explain 55 = .ok (.iload 5, 2) := by decide +kernel
theorem dX0_explain_57 : decode cX0_explain 57 = .ok (.bipush 64, 2) := by decide +kernel
theorem dX0_explain_59 : decode cX0_explain 59 = .ok (.if_icmp .ge 59, 3) := by decide +kernel
theorem dX0_explain_62 : decode cX0_explain 62 = .ok (.aload_n 0, 1) := by decide +kernel
theorem dX0_explain_63 : decode cX0_explain 63 = .ok (.iload_n 1, 1) := by decide +kernel
theorem dX0_explain_64 : decode cX0_explain 64 = .ok (.iload 4, 2) := by decide +kernel
theorem dX0_explain_66 : decode cX0_explain 66 = .ok (.iload 5, 2) := by decide +kernel
theorem dX0_explain_68 : decode cX0_explain 68 = .ok (.invokevirtual 156, 3) := by decide +kernel
theorem dX0_explain_71 : decode cX0_explain 71 = .ok (.ifCond .eq 41, 3) := by decide +kernel
theorem dX0_explain_74 : decode cX0_explain 74 = .ok (.aload_n 0, 1) := by decide +kernel
theorem dX0_explain_75 : decode cX0_explain 75 = .ok (.dup, 1) := by decide +kernel
theorem dX0_explain_76 : decode cX0_explain 76 = .ok (.getfield 150, 3) := by decide +kernel
theorem dX0_explain_79 : decode cX0_explain 79 = .ok (.iconst 1, 1) := by decide +kernel
theorem dX0_explain_80 : decode cX0_explain 80 = .ok (.iadd, 1) := by decide +kernel
theorem dX0_explain_81 : decode cX0_explain 81 = .ok (.putfield 150, 3) := by decide +kernel
theorem dX0_explain_84 : decode cX0_explain 84 = .ok (.aload_n 0, 1) := by decide +kernel
theorem dX0_explain_85 : decode cX0_explain 85 = .ok (.aload_n 0, 1) := by decide +kernel
theorem dX0_explain_86 : decode cX0_explain 86 = .ok (.getfield 153, 3) := by decide +kernel
theorem dX0_explain_89 : decode cX0_explain 89 = .ok (.bipush (-4), 2) := by decide +kernel
theorem dX0_explain_91 : decode cX0_explain 91 = .ok (.if_icmp .ne 14, 3) := by decide +kernel
theorem dX0_explain_94 : decode cX0_explain 94 = .ok (.bipush 100, 2) := by decide +kernel
theorem dX0_explain_96 : decode cX0_explain 96 = .ok (.iload 4, 2) := by decide +kernel
theorem dX0_explain_98 : decode cX0_explain 98 = .ok (.imul, 1) := by decide +kernel
theorem dX0_explain_99 : decode cX0_explain 99 = .ok (.iload 5, 2) := by decide +kernel
theorem dX0_explain_101 : decode cX0_explain 101 = .ok (.iadd, 1) := by decide +kernel
theorem dX0_explain_102 : decode cX0_explain 102 = .ok (.goto 7, 3) := by decide +kernel
theorem dX0_explain_105 : decode cX0_explain 105 = .ok (.aload_n 0, 1) := by decide +kernel
theorem dX0_explain_106 : decode cX0_explain 106 = .ok (.getfield 153, 3) := by decide +kernel
theorem dX0_explain_109 : decode cX0_explain 109 = .ok (.putfield 153, 3) := by decide +kernel
theorem dX0_explain_112 : decode cX0_explain 112 = .ok (.iinc 5 1, 3) := by decide +kernel
theorem dX0_explain_115 : decode cX0_explain 115 = .ok (.goto (-60), 3) := by decide +kernel
theorem dX0_explain_118 : decode cX0_explain 118 = .ok (.iinc 4 1, 3) := by decide +kernel
theorem dX0_explain_121 : decode cX0_explain 121 = .ok (.goto (-76), 3) := by decide +kernel
theorem dX0_explain_124 : decode cX0_explain 124 = .ok (.return_, 1) := by decide +kernel
theorem dX0_addsUpTo_0 : decode cX0_addsUpTo 0 = .ok (.iload_n 3, 1) := by decide +kernel
theorem dX0_addsUpTo_1 : decode cX0_addsUpTo 1 = .ok (.invokestatic 100, 3) := by decide +kernel
theorem dX0_addsUpTo_4 : decode cX0_addsUpTo 4 = .ok (.istore 4, 2) := by decide +kernel
theorem dX0_addsUpTo_6 : decode cX0_addsUpTo 6 = .ok (.iload_n 3, 1) := by decide +kernel
theorem dX0_addsUpTo_7 : decode cX0_addsUpTo 7 = .ok (.iload_n 3, 1) := by decide +kernel
theorem dX0_addsUpTo_8 : decode cX0_addsUpTo 8 = .ok (.iconst 1, 1) := by decide +kernel
theorem dX0_addsUpTo_9 : decode cX0_addsUpTo 9 = .ok (.isub, 1) := by decide +kernel
theorem dX0_addsUpTo_10 : decode cX0_addsUpTo 10 = .ok (.iand, 1) := by decide +kernel
theorem dX0_addsUpTo_11 : decode cX0_addsUpTo 11 = .ok (.istore 5, 2) := by decide +kernel
theorem dX0_addsUpTo_13 : decode cX0_addsUpTo 13 = .ok (.iconst 1, 1) := by decide +kernel
theorem dX0_addsUpTo_14 : decode cX0_addsUpTo 14 = .ok (.istore 6, 2) := by decide +kernel
theorem dX0_addsUpTo_16 : decode cX0_addsUpTo 16 = .ok (.iconst 0, 1) := by decide +kernel
theorem dX0_addsUpTo_17 : decode cX0_addsUpTo 17 = .ok (.istore 7, 2) := by decide +kernel
theorem dX0_addsUpTo_19 : decode cX0_addsUpTo 19 = .ok (.iload 7, 2) := by decide +kernel
theorem dX0_addsUpTo_21 : decode cX0_addsUpTo 21 = .ok (.iconst 4, 1) := by decide +kernel
theorem dX0_addsUpTo_22 : decode cX0_addsUpTo 22 = .ok (.if_icmp .ge 70, 3) := by decide +kernel
theorem dX0_addsUpTo_25 : decode cX0_addsUpTo 25 = .ok (.aload_n 0, 1) := by decide +kernel
theorem dX0_addsUpTo_26 : decode cX0_addsUpTo 26 = .ok (.getfield 30, 3) := by decide +kernel
theorem dX0_addsUpTo_29 : decode cX0_addsUpTo 29 = .ok (.iload 5, 2) := by decide +kernel
theorem dX0_addsUpTo_31 : decode cX0_addsUpTo 31 = .ok (.iconst 4, 1) := by decide +kernel
theorem dX0_addsUpTo_32 : decode cX0_addsUpTo 32 = .ok (.imul, 1) := by decide +kernel
theorem dX0_addsUpTo_33 : decode cX0_addsUpTo 33 = .ok (.iload 7, 2) := by decide +kernel
theorem dX0_addsUpTo_35 : decode cX0_addsUpTo 35 = .ok (.iadd, 1) := by decide +kernel
theorem dX0_addsUpTo_36 : decode cX0_addsUpTo 36 = .ok (.iaload, 1) := by decide +kernel
theorem dX0_addsUpTo_37 : decode cX0_addsUpTo 37 = .ok (.iload_n 1, 1) := by decide +kernel
theorem dX0_addsUpTo_38 : decode cX0_addsUpTo 38 = .ok (.iload 4, 2) := by decide +kernel
theorem dX0_addsUpTo_40 : decode cX0_addsUpTo 40 = .ok (.iload 7, 2) := by decide +kernel
theorem dX0_addsUpTo_42 : decode cX0_addsUpTo 42 = .ok (.iload_n 2, 1) := by decide +kernel
theorem dX0_addsUpTo_43 : decode cX0_addsUpTo 43 = .ok (.invokestatic 97, 3) := by decide +kernel
theorem dX0_addsUpTo_46 : decode cX0_addsUpTo 46 = .ok (.iadd, 1) := by decide +kernel
theorem dX0_addsUpTo_47 : decode cX0_addsUpTo 47 = .ok (.istore 8, 2) := by decide +kernel
theorem dX0_addsUpTo_49 : decode cX0_addsUpTo 49 = .ok (.aload_n 0, 1) := by decide +kernel
theorem dX0_addsUpTo_50 : decode cX0_addsUpTo 50 = .ok (.getfield 30, 3) := by decide +kernel
theorem dX0_addsUpTo_53 : decode cX0_addsUpTo 53 = .ok (.iload_n 3, 1) := by decide +kernel
theorem dX0_addsUpTo_54 : decode cX0_addsUpTo 54 = .ok (.iconst 4, 1) := by decide +kernel
theorem dX0_addsUpTo_55 : decode cX0_addsUpTo 55 = .ok (.imul, 1) := by decide +kernel
theorem dX0_addsUpTo_56 : decode cX0_addsUpTo 56 = .ok (.iload 7, 2) := by decide +kernel
theorem dX0_addsUpTo_58 : decode cX0_addsUpTo 58 = .ok (.iadd, 1) := by decide +kernel
theorem dX0_addsUpTo_59 : decode cX0_addsUpTo 59 = .ok (.iload 8, 2) := by decide +kernel
theorem dX0_addsUpTo_61 : decode cX0_addsUpTo 61 = .ok (.iastore, 1) := by decide +kernel
theorem dX0_addsUpTo_62 : decode cX0_addsUpTo 62 = .ok (.iload 6, 2) := by decide +kernel
theorem dX0_addsUpTo_64 : decode cX0_addsUpTo 64 = .ok (.iload 8, 2) := by decide +kernel
theorem dX0_addsUpTo_66 : decode cX0_addsUpTo 66 = .ok (.i2l, 1) := by decide +kernel
theorem dX0_addsUpTo_67 : decode cX0_addsUpTo 67 = .ok (.aload_n 0, 1) := by decide +kernel
theorem dX0_addsUpTo_68 : decode cX0_addsUpTo 68 = .ok (.getfield 33, 3) := by decide +kernel
theorem dX0_addsUpTo_71 : decode cX0_addsUpTo 71 = .ok (.iload 7, 2) := by decide +kernel
theorem dX0_addsUpTo_73 : decode cX0_addsUpTo 73 = .ok (.laload, 1) := by decide +kernel
theorem dX0_addsUpTo_74 : decode cX0_addsUpTo 74 = .ok (.lcmp, 1) := by decide +kernel
theorem dX0_addsUpTo_75 : decode cX0_addsUpTo 75 = .ok (.ifCond .ne 7, 3) := by decide +kernel
theorem dX0_addsUpTo_78 : decode cX0_addsUpTo 78 = .ok (.iconst 1, 1) := by decide +kernel
theorem dX0_addsUpTo_79 : decode cX0_addsUpTo 79 = .ok (.goto 4, 3) := by decide +kernel
theorem dX0_addsUpTo_82 : decode cX0_addsUpTo 82 = .ok (.iconst 0, 1) := by decide +kernel
theorem dX0_addsUpTo_83 : decode cX0_addsUpTo 83 = .ok (.iand, 1) := by decide +kernel
theorem dX0_addsUpTo_84 : decode cX0_addsUpTo 84 = .ok (.istore 6, 2) := by decide +kernel
theorem dX0_addsUpTo_86 : decode cX0_addsUpTo 86 = .ok (.iinc 7 1, 3) := by decide +kernel
theorem dX0_addsUpTo_89 : decode cX0_addsUpTo 89 = .ok (.goto (-70), 3) := by decide +kernel
theorem dX0_addsUpTo_92 : decode cX0_addsUpTo 92 = .ok (.iload 6, 2) := by decide +kernel
theorem dX0_addsUpTo_94 : decode cX0_addsUpTo 94 = .ok (.ireturn, 1) := by decide +kernel
theorem dX1_init_0 : decode cX1_init 0 = .ok (.aload_n 0, 1) := by decide +kernel
theorem dX1_init_1 : decode cX1_init 1 = .ok (.invokespecial 3, 3) := by decide +kernel
theorem dX1_init_4 : decode cX1_init 4 = .ok (.aload_n 0, 1) := by decide +kernel
theorem dX1_init_5 : decode cX1_init 5 = .ok (.sipush 130, 3) := by decide +kernel
theorem dX1_init_8 : decode cX1_init 8 = .ok (.newarray .int, 2) := by decide +kernel
theorem dX1_init_10 : decode cX1_init 10 = .ok (.putfield 9, 3) := by decide +kernel
theorem dX1_init_13 : decode cX1_init 13 = .ok (.aload_n 0, 1) := by decide +kernel
theorem dX1_init_14 : decode cX1_init 14 = .ok (.iconst 5, 1) := by decide +kernel
theorem dX1_init_15 : decode cX1_init 15 = .ok (.newarray .int, 2) := by decide +kernel
theorem dX1_init_17 : decode cX1_init 17 = .ok (.putfield 15, 3) := by decide +kernel
theorem dX1_init_20 : decode cX1_init 20 = .ok (.aload_n 0, 1) := by decide +kernel
theorem dX1_init_21 : decode cX1_init 21 = .ok (.bipush 20, 2) := by decide +kernel
theorem dX1_init_23 : decode cX1_init 23 = .ok (.newarray .int, 2) := by decide +kernel
theorem dX1_init_25 : decode cX1_init 25 = .ok (.putfield 18, 3) := by decide +kernel
theorem dX1_init_28 : decode cX1_init 28 = .ok (.aload_n 0, 1) := by decide +kernel
theorem dX1_init_29 : decode cX1_init 29 = .ok (.bipush 16, 2) := by decide +kernel
theorem dX1_init_31 : decode cX1_init 31 = .ok (.newarray .int, 2) := by decide +kernel
theorem dX1_init_33 : decode cX1_init 33 = .ok (.putfield 21, 3) := by decide +kernel
theorem dX1_init_36 : decode cX1_init 36 = .ok (.return_, 1) := by decide +kernel
theorem dX1_addLetter_0 : decode cX1_addLetter 0 = .ok (.aload_n 0, 1) := by decide +kernel
theorem dX1_addLetter_1 : decode cX1_addLetter 1 = .ok (.getfield 9, 3) := by decide +kernel
theorem dX1_addLetter_4 : decode cX1_addLetter 4 = .ok (.aload_n 0, 1) := by decide +kernel
theorem dX1_addLetter_5 : decode cX1_addLetter 5 = .ok (.getfield 24, 3) := by decide +kernel
theorem dX1_addLetter_8 : decode cX1_addLetter 8 = .ok (.iload_n 1, 1) := by decide +kernel
theorem dX1_addLetter_9 : decode cX1_addLetter 9 = .ok (.iastore, 1) := by decide +kernel
theorem dX1_addLetter_10 : decode cX1_addLetter 10 = .ok (.aload_n 0, 1) := by decide +kernel
theorem dX1_addLetter_11 : decode cX1_addLetter 11 = .ok (.dup, 1) := by decide +kernel
theorem dX1_addLetter_12 : decode cX1_addLetter 12 = .ok (.getfield 24, 3) := by decide +kernel
theorem dX1_addLetter_15 : decode cX1_addLetter 15 = .ok (.iconst 1, 1) := by decide +kernel
theorem dX1_addLetter_16 : decode cX1_addLetter 16 = .ok (.iadd, 1) := by decide +kernel
theorem dX1_addLetter_17 : decode cX1_addLetter 17 = .ok (.putfield 24, 3) := by decide +kernel
theorem dX1_addLetter_20 : decode cX1_addLetter 20 = .ok (.aload_n 0, 1) := by decide +kernel
theorem dX1_addLetter_21 : decode cX1_addLetter 21 = .ok (.getfield 24, 3) := by decide +kernel
theorem dX1_addLetter_24 : decode cX1_addLetter 24 = .ok (.ireturn, 1) := by decide +kernel
theorem dX1_readAll_0 : decode cX1_readAll 0 = .ok (.aload_n 0, 1) := by decide +kernel
theorem dX1_readAll_1 : decode cX1_readAll 1 = .ok (.iconst 0, 1) := by decide +kernel
theorem dX1_readAll_2 : decode cX1_readAll 2 = .ok (.putfield 28, 3) := by decide +kernel
theorem dX1_readAll_5 : decode cX1_readAll 5 = .ok (.aload_n 0, 1) := by decide +kernel
theorem dX1_readAll_6 : decode cX1_readAll 6 = .ok (.iconst (-1), 1) := by decide +kernel
theorem dX1_readAll_7 : decode cX1_readAll 7 = .ok (.putfield 31, 3) := by decide +kernel
theorem dX1_readAll_10 : decode cX1_readAll 10 = .ok (.aload_n 0, 1) := by decide +kernel
theorem dX1_readAll_11 : decode cX1_readAll 11 = .ok (.iconst 0, 1) := by decide +kernel
theorem dX1_readAll_12 : decode cX1_readAll 12 = .ok (.putfield 34, 3) := by decide +kernel
theorem dX1_readAll_15 : decode cX1_readAll 15 = .ok (.aload_n 0, 1) := by decide +kernel
theorem dX1_readAll_16 : decode cX1_readAll 16 = .ok (.aload_n 0, 1) := by decide +kernel
theorem dX1_readAll_17 : decode cX1_readAll 17 = .ok (.iconst 1, 1) := by decide +kernel
theorem dX1_readAll_18 : decode cX1_readAll 18 = .ok (.bipush 30, 2) := by decide +kernel
theorem dX1_readAll_20 : decode cX1_readAll 20 = .ok (.invokevirtual 37, 3) := by decide +kernel
theorem dX1_readAll_23 : decode cX1_readAll 23 = .ok (.putfield 41, 3) := by decide +kernel
theorem dX1_readAll_26 : decode cX1_readAll 26 = .ok (.aload_n 0, 1) := by decide +kernel
theorem dX1_readAll_27 : decode cX1_readAll 27 = .ok (.bipush 59, 2) := by decide +kernel
theorem dX1_readAll_29 : decode cX1_readAll 29 = .ok (.invokevirtual 44, 3) := by decide +kernel
theorem dX1_readAll_32 : decode cX1_readAll 32 = .ok (.aload_n 0, 1) := by decide +kernel
theorem dX1_readAll_33 : decode cX1_readAll 33 = .ok (.invokevirtual 48, 3) := by decide +kernel
theorem dX1_readAll_36 : decode cX1_readAll 36 = .ok (.aload_n 0, 1) := by decide +kernel
theorem dX1_readAll_37 : decode cX1_readAll 37 = .ok (.getfield 31, 3) := by decide +kernel
theorem dX1_readAll_40 : decode cX1_readAll 40 = .ok (.iconst (-1), 1) := by decide +kernel
theorem dX1_readAll_41 : decode cX1_readAll 41 = .ok (.if_icmp .ne 21, 3) := by decide +kernel
theorem dX1_readAll_44 : decode cX1_readAll 44 = .ok (.aload_n 0, 1) := by decide +kernel
theorem dX1_readAll_45 : decode cX1_readAll 45 = .ok (.invokevirtual 51, 3) := by decide +kernel
theorem dX1_readAll_48 : decode cX1_readAll 48 = .ok (.iconst (-1), 1) := by decide +kernel
theorem dX1_readAll_49 : decode cX1_readAll 49 = .ok (.if_icmp .eq 13, 3) := by decide +kernel
theorem dX1_readAll_52 : decode cX1_readAll 52 = .ok (.aload_n 0, 1) := by decide +kernel
theorem dX1_readAll_53 : decode cX1_readAll 53 = .ok (.bipush 59, 2) := by decide +kernel
theorem dX1_readAll_55 : decode cX1_readAll 55 = .ok (.invokevirtual 44, 3) := by decide +kernel
theorem dX1_readAll_58 : decode cX1_readAll 58 = .ok (.aload_n 0, 1) := by decide +kernel
theorem dX1_readAll_59 : decode cX1_readAll 59 = .ok (.invokevirtual 55, 3) := by decide +kernel
theorem dX1_readAll_62 : decode cX1_readAll 62 = .ok (.aload_n 0, 1) := by decide +kernel
theorem dX1_readAll_63 : decode cX1_readAll 63 = .ok (.getfield 31, 3) := by decide +kernel
theorem dX1_readAll_66 : decode cX1_readAll 66 = .ok (.iconst (-1), 1) := by decide +kernel
theorem dX1_readAll_67 : decode cX1_readAll 67 = .ok (.if_icmp .ne 19, 3) := by decide +kernel
theorem dX1_readAll_70 : decode cX1_readAll 70 = .ok (.aload_n 0, 1) := by decide +kernel
theorem dX1_readAll_71 : decode cX1_readAll 71 = .ok (.invokevirtual 51, 3) := by decide +kernel
theorem dX1_readAll_74 : decode cX1_readAll 74 = .ok (.iconst (-1), 1) := by decide +kernel
theorem dX1_readAll_75 : decode cX1_readAll 75 = .ok (.if_icmp .eq 11, 3) := by decide +kernel
theorem dX1_readAll_78 : decode cX1_readAll 78 = .ok (.aload_n 0, 1) := by decide +kernel
theorem dX1_readAll_79 : decode cX1_readAll 79 = .ok (.aload_n 0, 1) := by decide +kernel
theorem dX1_readAll_80 : decode cX1_readAll 80 = .ok (.getfield 28, 3) := by decide +kernel
theorem dX1_readAll_83 : decode cX1_readAll 83 = .ok (.putfield 31, 3) := by decide +kernel
theorem dX1_readAll_86 : decode cX1_readAll 86 = .ok (.aload_n 0, 1) := by decide +kernel
theorem dX1_readAll_87 : decode cX1_readAll 87 = .ok (.getfield 31, 3) := by decide +kernel
theorem dX1_readAll_90 : decode cX1_readAll 90 = .ok (.ireturn, 1) := by decide +kernel
theorem dX1_readPeople_0 : decode cX1_readPeople 0 = .ok (.iconst 0, 1) := by decide +kernel
theorem dX1_readPeople_1 : decode cX1_readPeople 1 = .ok (.istore_n 1, 1) := by decide +kernel
theorem dX1_readPeople_2 : decode cX1_readPeople 2 = .ok (.iload_n 1, 1) := by decide +kernel
theorem dX1_readPeople_3 : decode cX1_readPeople 3 = .ok (.iconst 5, 1) := by decide +kernel
theorem dX1_readPeople_4 : decode cX1_readPeople 4 = .ok (.if_icmp .ge 63, 3) := by decide +kernel
theorem dX1_readPeople_7 : decode cX1_readPeople 7 = .ok (.aload_n 0, 1) := by decide +kernel
theorem dX1_readPeople_8 : decode cX1_readPeople 8 = .ok (.getfield 31, 3) := by decide +kernel
theorem dX1_readPeople_11 : decode cX1_readPeople 11 = .ok (.iconst (-1), 1) := by decide +kernel
theorem dX1_readPeople_12 : decode cX1_readPeople 12 = .ok (.if_icmp .ne 55, 3) := by decide +kernel
theorem dX1_readPeople_15 : decode cX1_readPeople 15 = .ok (.iload_n 1, 1) := by decide +kernel
theorem dX1_readPeople_16 : decode cX1_readPeople 16 = .ok (.ifCond .le 15, 3) := by decide +kernel
theorem dX1_readPeople_19 : decode cX1_readPeople 19 = .ok (.aload_n 0, 1) := by decide +kernel
theorem dX1_readPeople_20 : decode cX1_readPeople 20 = .ok (.bipush 44, 2) := by decide +kernel
theorem dX1_readPeople_22 : decode cX1_readPeople 22 = .ok (.invokevirtual 58, 3) := by decide +kernel
theorem dX1_readPeople_25 : decode cX1_readPeople 25 = .ok (.ifCond .ne 6, 3) := by decide +kernel
theorem dX1_readPeople_28 : decode cX1_readPeople 28 = .ok (.goto 39, 3) := by decide +kernel
theorem dX1_readPeople_31 : decode cX1_readPeople 31 = .ok (.aload_n 0, 1) := by decide +kernel
theorem dX1_readPeople_32 : decode cX1_readPeople 32 = .ok (.getfield 15, 3) := by decide +kernel
theorem dX1_readPeople_35 : decode cX1_readPeople 35 = .ok (.iload_n 1, 1) := by decide +kernel
theorem dX1_readPeople_36 : decode cX1_readPeople 36 = .ok (.aload_n 0, 1) := by decide +kernel
theorem dX1_readPeople_37 : decode cX1_readPeople 37 = .ok (.invokevirtual 62, 3) := by decide +kernel
theorem dX1_readPeople_40 : decode cX1_readPeople 40 = .ok (.iastore, 1) := by decide +kernel
theorem dX1_readPeople_41 : decode cX1_readPeople 41 = .ok (.aload_n 0, 1) := by decide +kernel
theorem dX1_readPeople_42 : decode cX1_readPeople 42 = .ok (.aload_n 0, 1) := by decide +kernel
theorem dX1_readPeople_43 : decode cX1_readPeople 43 = .ok (.getfield 18, 3) := by decide +kernel
theorem dX1_readPeople_46 : decode cX1_readPeople 46 = .ok (.iload_n 1, 1) := by decide +kernel
theorem dX1_readPeople_47 : decode cX1_readPeople 47 = .ok (.bipush 10, 2) := by decide +kernel
theorem dX1_readPeople_49 : decode cX1_readPeople 49 = .ok (.bipush 99, 2) := by decide +kernel
theorem dX1_readPeople_51 : decode cX1_readPeople 51 = .ok (.invokevirtual 65, 3) := by decide +kernel
theorem dX1_readPeople_54 : decode cX1_readPeople 54 = .ok (.aload_n 0, 1) := by decide +kernel
theorem dX1_readPeople_55 : decode cX1_readPeople 55 = .ok (.iload_n 1, 1) := by decide +kernel
theorem dX1_readPeople_56 : decode cX1_readPeople 56 = .ok (.iconst 1, 1) := by decide +kernel
theorem dX1_readPeople_57 : decode cX1_readPeople 57 = .ok (.iadd, 1) := by decide +kernel
theorem dX1_readPeople_58 : decode cX1_readPeople 58 = .ok (.putfield 69, 3) := by decide +kernel
theorem dX1_readPeople_61 : decode cX1_readPeople 61 = .ok (.iinc 1 1, 3) := by decide +kernel
theorem dX1_readPeople_64 : decode cX1_readPeople 64 = .ok (.goto (-62), 3) := by decide +kernel
theorem dX1_readPeople_67 : decode cX1_readPeople 67 = .ok (.return_, 1) := by decide +kernel
theorem dX1_readSuits_0 : decode cX1_readSuits 0 = .ok (.iconst 0, 1) := by decide +kernel
theorem dX1_readSuits_1 : decode cX1_readSuits 1 = .ok (.istore_n 1, 1) := by decide +kernel
theorem dX1_readSuits_2 : decode cX1_readSuits 2 = .ok (.iload_n 1, 1) := by decide +kernel
theorem dX1_readSuits_3 : decode cX1_readSuits 3 = .ok (.iconst 4, 1) := by decide +kernel
theorem dX1_readSuits_4 : decode cX1_readSuits 4 = .ok (.if_icmp .ge 53, 3) := by decide +kernel
theorem dX1_readSuits_7 : decode cX1_readSuits 7 = .ok (.aload_n 0, 1) := by decide +kernel
theorem dX1_readSuits_8 : decode cX1_readSuits 8 = .ok (.getfield 31, 3) := by decide +kernel
theorem dX1_readSuits_11 : decode cX1_readSuits 11 = .ok (.iconst (-1), 1) := by decide +kernel
theorem dX1_readSuits_12 : decode cX1_readSuits 12 = .ok (.if_icmp .ne 45, 3) := by decide +kernel
theorem dX1_readSuits_15 : decode cX1_readSuits 15 = .ok (.iload_n 1, 1) := by decide +kernel
theorem dX1_readSuits_16 : decode cX1_readSuits 16 = .ok (.ifCond .le 15, 3) := by decide +kernel
theorem dX1_readSuits_19 : decode cX1_readSuits 19 = .ok (.aload_n 0, 1) := by decide +kernel
theorem dX1_readSuits_20 : decode cX1_readSuits 20 = .ok (.bipush 44, 2) := by decide +kernel
theorem dX1_readSuits_22 : decode cX1_readSuits 22 = .ok (.invokevirtual 58, 3) := by decide +kernel
theorem dX1_readSuits_25 : decode cX1_readSuits 25 = .ok (.ifCond .ne 6, 3) := by decide +kernel
theorem dX1_readSuits_28 : decode cX1_readSuits 28 = .ok (.goto 29, 3) := by decide +kernel
theorem dX1_readSuits_31 : decode cX1_readSuits 31 = .ok (.aload_n 0, 1) := by decide +kernel
theorem dX1_readSuits_32 : decode cX1_readSuits 32 = .ok (.aload_n 0, 1) := by decide +kernel
theorem dX1_readSuits_33 : decode cX1_readSuits 33 = .ok (.getfield 21, 3) := by decide +kernel
theorem dX1_readSuits_36 : decode cX1_readSuits 36 = .ok (.iload_n 1, 1) := by decide +kernel
theorem dX1_readSuits_37 : decode cX1_readSuits 37 = .ok (.iconst 0, 1) := by decide +kernel
theorem dX1_readSuits_38 : decode cX1_readSuits 38 = .ok (.sipush 199, 3) := by decide +kernel
theorem dX1_readSuits_41 : decode cX1_readSuits 41 = .ok (.invokevirtual 65, 3) := by decide +kernel
theorem dX1_readSuits_44 : decode cX1_readSuits 44 = .ok (.aload_n 0, 1) := by decide +kernel
theorem dX1_readSuits_45 : decode cX1_readSuits 45 = .ok (.iload_n 1, 1) := by decide +kernel
theorem dX1_readSuits_46 : decode cX1_readSuits 46 = .ok (.iconst 1, 1) := by decide +kernel
theorem dX1_readSuits_47 : decode cX1_readSuits 47 = .ok (.iadd, 1) := by decide +kernel
theorem dX1_readSuits_48 : decode cX1_readSuits 48 = .ok (.putfield 34, 3) := by decide +kernel
theorem dX1_readSuits_51 : decode cX1_readSuits 51 = .ok (.iinc 1 1, 3) := by decide +kernel
theorem dX1_readSuits_54 : decode cX1_readSuits 54 = .ok (.goto (-52), 3) := by decide +kernel
theorem dX1_readSuits_57 : decode cX1_readSuits 57 = .ok (.return_, 1) := by decide +kernel
theorem dX1_readFour_0 : decode cX1_readFour 0 = .ok (.iconst 0, 1) := by decide +kernel
theorem dX1_readFour_1 : decode cX1_readFour 1 = .ok (.istore 5, 2) := by decide +kernel
theorem dX1_readFour_3 : decode cX1_readFour 3 = .ok (.iload 5, 2) := by decide +kernel
theorem dX1_readFour_5 : decode cX1_readFour 5 = .ok (.iconst 4, 1) := by decide +kernel
theorem dX1_readFour_6 : decode cX1_readFour 6 = .ok (.if_icmp .ge 35, 3) := by decide +kernel
theorem dX1_readFour_9 : decode cX1_readFour 9 = .ok (.iload 5, 2) := by decide +kernel
theorem dX1_readFour_11 : decode cX1_readFour 11 = .ok (.ifCond .le 9, 3) := by decide +kernel
theorem dX1_readFour_14 : decode cX1_readFour 14 = .ok (.aload_n 0, 1) := by decide +kernel
theorem dX1_readFour_15 : decode cX1_readFour 15 = .ok (.bipush 46, 2) := by decide +kernel
theorem dX1_readFour_17 : decode cX1_readFour 17 = .ok (.invokevirtual 44, 3) := by decide +kernel
theorem dX1_readFour_20 : decode cX1_readFour 20 = .ok (.aload_n 1, 1) := by decide +kernel
theorem dX1_readFour_21 : decode cX1_readFour 21 = .ok (.iload_n 2, 1) := by decide +kernel
theorem dX1_readFour_22 : decode cX1_readFour 22 = .ok (.iconst 4, 1) := by decide +kernel
theorem dX1_readFour_23 : decode cX1_readFour 23 = .ok (.imul, 1) := by decide +kernel
theorem dX1_readFour_24 : decode cX1_readFour 24 = .ok (.iload 5, 2) := by decide +kernel
theorem dX1_readFour_26 : decode cX1_readFour 26 = .ok (.iadd, 1) := by decide +kernel
theorem dX1_readFour_27 : decode cX1_readFour 27 = .ok (.aload_n 0, 1) := by decide +kernel
theorem dX1_readFour_28 : decode cX1_readFour 28 = .ok (.iload_n 3, 1) := by decide +kernel
theorem dX1_readFour_29 : decode cX1_readFour 29 = .ok (.iload 4, 2) := by decide +kernel
theorem dX1_readFour_31 : decode cX1_readFour 31 = .ok (.invokevirtual 37, 3) := by decide +kernel
theorem dX1_readFour_34 : decode cX1_readFour 34 = .ok (.iastore, 1) := by decide +kernel
theorem dX1_readFour_35 : decode cX1_readFour 35 = .ok (.iinc 5 1, 3) := by decide +kernel
theorem dX1_readFour_38 : decode cX1_readFour 38 = .ok (.goto (-35), 3) := by decide +kernel
theorem dX1_readFour_41 : decode cX1_readFour 41 = .ok (.return_, 1) := by decide +kernel
theorem dX1_readKind_0 : decode cX1_readKind 0 = .ok (.aload_n 0, 1) := by decide +kernel
theorem dX1_readKind_1 : decode cX1_readKind 1 = .ok (.invokevirtual 51, 3) := by decide +kernel
theorem dX1_readKind_4 : decode cX1_readKind 4 = .ok (.istore_n 1, 1) := by decide +kernel
theorem dX1_readKind_5 : decode cX1_readKind 5 = .ok (.iload_n 1, 1) := by decide +kernel
theorem dX1_readKind_6 : decode cX1_readKind 6 = .ok (.iconst (-1), 1) := by decide +kernel
theorem dX1_readKind_7 : decode cX1_readKind 7 = .ok (.if_icmp .ne 7, 3) := by decide +kernel
theorem dX1_readKind_10 : decode cX1_readKind 10 = .ok (.iconst (-1), 1) := by decide +kernel
theorem dX1_readKind_11 : decode cX1_readKind 11 = .ok (.goto 10, 3) := by decide +kernel
theorem dX1_readKind_14 : decode cX1_readKind 14 = .ok (.ldc 72, 2) := by decide +kernel
theorem dX1_readKind_16 : decode cX1_readKind 16 = .ok (.iload_n 1, 1) := by decide +kernel
theorem dX1_readKind_17 : decode cX1_readKind 17 = .ok (.i2c, 1) := by decide +kernel
theorem dX1_readKind_18 : decode cX1_readKind 18 = .ok (.invokevirtual 74, 3) := by decide +kernel
theorem dX1_readKind_21 : decode cX1_readKind 21 = .ok (.istore_n 2, 1) := by decide +kernel
theorem dX1_readKind_22 : decode cX1_readKind 22 = .ok (.iload_n 2, 1) := by decide +kernel
theorem dX1_readKind_23 : decode cX1_readKind 23 = .ok (.ifCond .ge 13, 3) := by decide +kernel
theorem dX1_readKind_26 : decode cX1_readKind 26 = .ok (.aload_n 0, 1) := by decide +kernel
theorem dX1_readKind_27 : decode cX1_readKind 27 = .ok (.aload_n 0, 1) := by decide +kernel
theorem dX1_readKind_28 : decode cX1_readKind 28 = .ok (.getfield 28, 3) := by decide +kernel
theorem dX1_readKind_31 : decode cX1_readKind 31 = .ok (.invokevirtual 80, 3) := by decide +kernel
theorem dX1_readKind_34 : decode cX1_readKind 34 = .ok (.iconst 0, 1) := by decide +kernel
theorem dX1_readKind_35 : decode cX1_readKind 35 = .ok (.ireturn, 1) := by decide +kernel
theorem dX1_readKind_36 : decode cX1_readKind 36 = .ok (.aload_n 0, 1) := by decide +kernel
theorem dX1_readKind_37 : decode cX1_readKind 37 = .ok (.dup, 1) := by decide +kernel
theorem dX1_readKind_38 : decode cX1_readKind 38 = .ok (.getfield 28, 3) := by decide +kernel
theorem dX1_readKind_41 : decode cX1_readKind 41 = .ok (.iconst 1, 1) := by decide +kernel
theorem dX1_readKind_42 : decode cX1_readKind 42 = .ok (.iadd, 1) := by decide +kernel
theorem dX1_readKind_43 : decode cX1_readKind 43 = .ok (.putfield 28, 3) := by decide +kernel
theorem dX1_readKind_46 : decode cX1_readKind 46 = .ok (.iload_n 2, 1) := by decide +kernel
theorem dX1_readKind_47 : decode cX1_readKind 47 = .ok (.ireturn, 1) := by decide +kernel
theorem dX1_readNumber_0 : decode cX1_readNumber 0 = .ok (.aload_n 0, 1) := by decide +kernel
theorem dX1_readNumber_1 : decode cX1_readNumber 1 = .ok (.invokevirtual 51, 3) := by decide +kernel
theorem dX1_readNumber_4 : decode cX1_readNumber 4 = .ok (.istore_n 3, 1) := by decide +kernel
theorem dX1_readNumber_5 : decode cX1_readNumber 5 = .ok (.aload_n 0, 1) := by decide +kernel
theorem dX1_readNumber_6 : decode cX1_readNumber 6 = .ok (.getfield 28, 3) := by decide +kernel
theorem dX1_readNumber_9 : decode cX1_readNumber 9 = .ok (.istore 4, 2) := by decide +kernel
theorem dX1_readNumber_11 : decode cX1_readNumber 11 = .ok (.iconst 0, 1) := by decide +kernel
theorem dX1_readNumber_12 : decode cX1_readNumber 12 = .ok (.istore 5, 2) := by decide +kernel
theorem dX1_readNumber_14 : decode cX1_readNumber 14 = .ok (.aload_n 0, 1) := by decide +kernel
theorem dX1_readNumber_15 : decode cX1_readNumber 15 = .ok (.getfield 28, 3) := by decide +kernel
theorem dX1_readNumber_18 : decode cX1_readNumber 18 = .ok (.iload 4, 2) := by decide +kernel
theorem dX1_readNumber_20 : decode cX1_readNumber 20 = .ok (.isub, 1) := by decide +kernel
theorem dX1_readNumber_21 : decode cX1_readNumber 21 = .ok (.iconst 3, 1) := by decide +kernel
theorem dX1_readNumber_22 : decode cX1_readNumber 22 = .ok (.if_icmp .ge 65, 3) := by decide +kernel
theorem dX1_readNumber_25 : decode cX1_readNumber 25 = .ok (.iload_n 3, 1) := by decide +kernel
theorem dX1_readNumber_26 : decode cX1_readNumber 26 = .ok (.bipush 48, 2) := by decide +kernel
theorem dX1_readNumber_28 : decode cX1_readNumber 28 = .ok (.if_icmp .lt 59, 3) := by decide +kernel
theorem dX1_readNumber_31 : decode cX1_readNumber 31 = .ok (.iload_n 3, 1) := by decide +kernel
theorem dX1_readNumber_32 : decode cX1_readNumber 32 = .ok (.bipush 57, 2) := by decide +kernel
theorem dX1_readNumber_34 : decode cX1_readNumber 34 = .ok (.if_icmp .gt 53, 3) := by decide +kernel
theorem dX1_readNumber_37 : decode cX1_readNumber 37 = .ok (.iload 5, 2) := by decide +kernel
theorem dX1_readNumber_39 : decode cX1_readNumber 39 = .ok (.bipush 10, 2) := by decide +kernel
theorem dX1_readNumber_41 : decode cX1_readNumber 41 = .ok (.imul, 1) := by decide +kernel
theorem dX1_readNumber_42 : decode cX1_readNumber 42 = .ok (.iload_n 3, 1) := by decide +kernel
theorem dX1_readNumber_43 : decode cX1_readNumber 43 = .ok (.iadd, 1) := by decide +kernel
theorem dX1_readNumber_44 : decode cX1_readNumber 44 = .ok (.bipush 48, 2) := by decide +kernel
theorem dX1_readNumber_46 : decode cX1_readNumber 46 = .ok (.isub, 1) := by decide +kernel
theorem dX1_readNumber_47 : decode cX1_readNumber 47 = .ok (.istore 5, 2) := by decide +kernel
theorem dX1_readNumber_49 : decode cX1_readNumber 49 = .ok (.aload_n 0, 1) := by decide +kernel
theorem dX1_readNumber_50 : decode cX1_readNumber 50 = .ok (.dup, 1) := by decide +kernel
theorem dX1_readNumber_51 : decode cX1_readNumber 51 = .ok (.getfield 28, 3) := by decide +kernel
theorem dX1_readNumber_54 : decode cX1_readNumber 54 = .ok (.iconst 1, 1) := by decide +kernel
theorem dX1_readNumber_55 : decode cX1_readNumber 55 = .ok (.iadd, 1) := by decide +kernel
theorem dX1_readNumber_56 : decode cX1_readNumber 56 = .ok (.putfield 28, 3) := by decide +kernel
theorem dX1_readNumber_59 : decode cX1_readNumber 59 = .ok (.aload_n 0, 1) := by decide +kernel
theorem dX1_readNumber_60 : decode cX1_readNumber 60 = .ok (.getfield 28, 3) := by decide +kernel
theorem dX1_readNumber_63 : decode cX1_readNumber 63 = .ok (.aload_n 0, 1) := by decide +kernel
theorem dX1_readNumber_64 : decode cX1_readNumber 64 = .ok (.getfield 24, 3) := by decide +kernel
theorem dX1_readNumber_67 : decode cX1_readNumber 67 = .ok (.if_icmp .ge 15, 3) := by decide +kernel
theorem dX1_readNumber_70 : decode cX1_readNumber 70 = .ok (.aload_n 0, 1) := by decide +kernel
theorem dX1_readNumber_71 : decode cX1_readNumber 71 = .ok (.getfield 9, 3) := by decide +kernel
theorem dX1_readNumber_74 : decode cX1_readNumber 74 = .ok (.aload_n 0, 1) := by decide +kernel
theorem dX1_readNumber_75 : decode cX1_readNumber 75 = .ok (.getfield 28, 3) := by decide +kernel
theorem dX1_readNumber_78 : decode cX1_readNumber 78 = .ok (.iaload, 1) := by decide +kernel
theorem dX1_readNumber_79 : decode cX1_readNumber 79 = .ok (.goto 4, 3) := by decide +kernel
theorem dX1_readNumber_82 : decode cX1_readNumber 82 = .ok (.iconst (-1), 1) := by decide +kernel
theorem dX1_readNumber_83 : decode cX1_readNumber 83 = .ok (.istore_n 3, 1) := by decide +kernel
theorem dX1_readNumber_84 : decode cX1_readNumber 84 = .ok (.goto (-70), 3) := by decide +kernel
theorem dX1_readNumber_87 : decode cX1_readNumber 87 = .ok (.aload_n 0, 1) := by decide +kernel
theorem dX1_readNumber_88 : decode cX1_readNumber 88 = .ok (.getfield 28, 3) := by decide +kernel
theorem dX1_readNumber_91 : decode cX1_readNumber 91 = .ok (.iload 4, 2) := by decide +kernel
theorem dX1_readNumber_93 : decode cX1_readNumber 93 = .ok (.if_icmp .eq 15, 3) := by decide +kernel
theorem dX1_readNumber_96 : decode cX1_readNumber 96 = .ok (.iload 5, 2) := by decide +kernel
theorem dX1_readNumber_98 : decode cX1_readNumber 98 = .ok (.iload_n 1, 1) := by decide +kernel
theorem dX1_readNumber_99 : decode cX1_readNumber 99 = .ok (.if_icmp .lt 9, 3) := by decide +kernel
theorem dX1_readNumber_102 : decode cX1_readNumber 102 = .ok (.iload 5, 2) := by decide +kernel
theorem dX1_readNumber_104 : decode cX1_readNumber 104 = .ok (.iload_n 2, 1) := by decide +kernel
theorem dX1_readNumber_105 : decode cX1_readNumber 105 = .ok (.if_icmp .le 9, 3) := by decide +kernel
theorem dX1_readNumber_108 : decode cX1_readNumber 108 = .ok (.aload_n 0, 1) := by decide +kernel
theorem dX1_readNumber_109 : decode cX1_readNumber 109 = .ok (.iload 4, 2) := by decide +kernel
theorem dX1_readNumber_111 : decode cX1_readNumber 111 = .ok (.invokevirtual 80, 3) := by decide +kernel
theorem dX1_readNumber_114 : decode cX1_readNumber 114 = .ok (.iload 5, 2) := by decide +kernel
theorem dX1_readNumber_116 : decode cX1_readNumber 116 = .ok (.ireturn, 1) := by decide +kernel
theorem dX1_expect_0 : decode cX1_expect 0 = .ok (.aload_n 0, 1) := by decide +kernel
theorem dX1_expect_1 : decode cX1_expect 1 = .ok (.iload_n 1, 1) := by decide +kernel
theorem dX1_expect_2 : decode cX1_expect 2 = .ok (.invokevirtual 58, 3) := by decide +kernel
theorem dX1_expect_5 : decode cX1_expect 5 = .ok (.ifCond .ne 11, 3) := by decide +kernel
theorem dX1_expect_8 : decode cX1_expect 8 = .ok (.aload_n 0, 1) := by decide +kernel
theorem dX1_expect_9 : decode cX1_expect 9 = .ok (.aload_n 0, 1) := by decide +kernel
theorem dX1_expect_10 : decode cX1_expect 10 = .ok (.getfield 28, 3) := by decide +kernel
theorem dX1_expect_13 : decode cX1_expect 13 = .ok (.invokevirtual 80, 3) := by decide +kernel
theorem dX1_expect_16 : decode cX1_expect 16 = .ok (.return_, 1) := by decide +kernel
theorem dX1_took_0 : decode cX1_took 0 = .ok (.aload_n 0, 1) := by decide +kernel
theorem dX1_took_1 : decode cX1_took 1 = .ok (.invokevirtual 51, 3) := by decide +kernel
theorem dX1_took_4 : decode cX1_took 4 = .ok (.iload_n 1, 1) := by decide +kernel
theorem dX1_took_5 : decode cX1_took 5 = .ok (.if_icmp .eq 5, 3) := by decide +kernel
theorem dX1_took_8 : decode cX1_took 8 = .ok (.iconst 0, 1) := by decide +kernel
theorem dX1_took_9 : decode cX1_took 9 = .ok (.ireturn, 1) := by decide +kernel
theorem dX1_took_10 : decode cX1_took 10 = .ok (.aload_n 0, 1) := by decide +kernel
theorem dX1_took_11 : decode cX1_took 11 = .ok (.dup, 1) := by decide +kernel
theorem dX1_took_12 : decode cX1_took 12 = .ok (.getfield 28, 3) := by decide +kernel
theorem dX1_took_15 : decode cX1_took 15 = .ok (.iconst 1, 1) := by decide +kernel
theorem dX1_took_16 : decode cX1_took 16 = .ok (.iadd, 1) := by decide +kernel
theorem dX1_took_17 : decode cX1_took 17 = .ok (.putfield 28, 3) := by decide +kernel
theorem dX1_took_20 : decode cX1_took 20 = .ok (.iconst 1, 1) := by decide +kernel
theorem dX1_took_21 : decode cX1_took 21 = .ok (.ireturn, 1) := by decide +kernel
theorem dX1_next_0 : decode cX1_next 0 = .ok (.aload_n 0, 1) := by decide +kernel
theorem dX1_next_1 : decode cX1_next 1 = .ok (.getfield 28, 3) := by decide +kernel
theorem dX1_next_4 : decode cX1_next 4 = .ok (.aload_n 0, 1) := by decide +kernel
theorem dX1_next_5 : decode cX1_next 5 = .ok (.getfield 24, 3) := by decide +kernel
theorem dX1_next_8 : decode cX1_next 8 = .ok (.if_icmp .ge 30, 3) := by decide +kernel
theorem dX1_next_11 : decode cX1_next 11 = .ok (.aload_n 0, 1) := by decide +kernel
theorem dX1_next_12 : decode cX1_next 12 = .ok (.getfield 9, 3) := by decide +kernel
theorem dX1_next_15 : decode cX1_next 15 = .ok (.aload_n 0, 1) := by decide +kernel
theorem dX1_next_16 : decode cX1_next 16 = .ok (.getfield 28, 3) := by decide +kernel
theorem dX1_next_19 : decode cX1_next 19 = .ok (.iaload, 1) := by decide +kernel
theorem dX1_next_20 : decode cX1_next 20 = .ok (.bipush 32, 2) := by decide +kernel
theorem dX1_next_22 : decode cX1_next 22 = .ok (.if_icmp .ne 16, 3) := by decide +kernel
theorem dX1_next_25 : decode cX1_next 25 = .ok (.aload_n 0, 1) := by decide +kernel
theorem dX1_next_26 : decode cX1_next 26 = .ok (.dup, 1) := by decide +kernel
theorem dX1_next_27 : decode cX1_next 27 = .ok (.getfield 28, 3) := by decide +kernel
theorem dX1_next_30 : decode cX1_next 30 = .ok (.iconst 1, 1) := by decide +kernel
theorem dX1_next_31 : decode cX1_next 31 = .ok (.iadd, 1) := by decide +kernel
theorem dX1_next_32 : decode cX1_next 32 = .ok (.putfield 28, 3) := by decide +kernel
theorem dX1_next_35 : decode cX1_next 35 = .ok (.goto (-35), 3) := by decide +kernel
theorem dX1_next_38 : decode cX1_next 38 = .ok (.aload_n 0, 1) := by decide +kernel
theorem dX1_next_39 : decode cX1_next 39 = .ok (.getfield 28, 3) := by decide +kernel
theorem dX1_next_42 : decode cX1_next 42 = .ok (.aload_n 0, 1) := by decide +kernel
theorem dX1_next_43 : decode cX1_next 43 = .ok (.getfield 24, 3) := by decide +kernel
theorem dX1_next_46 : decode cX1_next 46 = .ok (.if_icmp .ge 15, 3) := by decide +kernel
theorem dX1_next_49 : decode cX1_next 49 = .ok (.aload_n 0, 1) := by decide +kernel
theorem dX1_next_50 : decode cX1_next 50 = .ok (.getfield 9, 3) := by decide +kernel
theorem dX1_next_53 : decode cX1_next 53 = .ok (.aload_n 0, 1) := by decide +kernel
theorem dX1_next_54 : decode cX1_next 54 = .ok (.getfield 28, 3) := by decide +kernel
theorem dX1_next_57 : decode cX1_next 57 = .ok (.iaload, 1) := by decide +kernel
theorem dX1_next_58 : decode cX1_next 58 = .ok (.goto 4, 3) := by decide +kernel
theorem dX1_next_61 : decode cX1_next 61 = .ok (.iconst (-1), 1) := by decide +kernel
theorem dX1_next_62 : decode cX1_next 62 = .ok (.ireturn, 1) := by decide +kernel
theorem dX1_faultAt_0 : decode cX1_faultAt 0 = .ok (.aload_n 0, 1) := by decide +kernel
theorem dX1_faultAt_1 : decode cX1_faultAt 1 = .ok (.getfield 31, 3) := by decide +kernel
theorem dX1_faultAt_4 : decode cX1_faultAt 4 = .ok (.iconst (-1), 1) := by decide +kernel
theorem dX1_faultAt_5 : decode cX1_faultAt 5 = .ok (.if_icmp .ne 8, 3) := by decide +kernel
theorem dX1_faultAt_8 : decode cX1_faultAt 8 = .ok (.aload_n 0, 1) := by decide +kernel
theorem dX1_faultAt_9 : decode cX1_faultAt 9 = .ok (.iload_n 1, 1) := by decide +kernel
theorem dX1_faultAt_10 : decode cX1_faultAt 10 = .ok (.putfield 31, 3) := by decide +kernel
theorem dX1_faultAt_13 : decode cX1_faultAt 13 = .ok (.return_, 1) := by decide +kernel
theorem dX2_init_0 : decode cX2_init 0 = .ok (.aload_n 0, 1) := by decide +kernel
theorem dX2_init_1 : decode cX2_init 1 = .ok (.invokespecial 3, 3) := by decide +kernel
theorem dX2_init_4 : decode cX2_init 4 = .ok (.aload_n 0, 1) := by decide +kernel
theorem dX2_init_5 : decode cX2_init 5 = .ok (.iload_n 1, 1) := by decide +kernel
theorem dX2_init_6 : decode cX2_init 6 = .ok (.putfield 9, 3) := by decide +kernel
theorem dX2_init_9 : decode cX2_init 9 = .ok (.aload_n 0, 1) := by decide +kernel
theorem dX2_init_10 : decode cX2_init 10 = .ok (.iload_n 2, 1) := by decide +kernel
theorem dX2_init_11 : decode cX2_init 11 = .ok (.newarray .long, 2) := by decide +kernel
theorem dX2_init_13 : decode cX2_init 13 = .ok (.putfield 15, 3) := by decide +kernel
theorem dX2_init_16 : decode cX2_init 16 = .ok (.return_, 1) := by decide +kernel
theorem dX2_refusal_0 : decode cX2_refusal 0 = .ok (.iload_n 1, 1) := by decide +kernel
theorem dX2_refusal_1 : decode cX2_refusal 1 = .ok (.aload_n 0, 1) := by decide +kernel
theorem dX2_refusal_2 : decode cX2_refusal 2 = .ok (.getfield 9, 3) := by decide +kernel
theorem dX2_refusal_5 : decode cX2_refusal 5 = .ok (.if_icmp .eq 6, 3) := by decide +kernel
theorem dX2_refusal_8 : decode cX2_refusal 8 = .ok (.bipush (-12), 2) := by decide +kernel
theorem dX2_refusal_10 : decode cX2_refusal 10 = .ok (.ireturn, 1) := by decide +kernel
theorem dX2_refusal_11 : decode cX2_refusal 11 = .ok (.aload_n 0, 1) := by decide +kernel
theorem dX2_refusal_12 : decode cX2_refusal 12 = .ok (.iload_n 2, 1) := by decide +kernel
theorem dX2_refusal_13 : decode cX2_refusal 13 = .ok (.iload_n 3, 1) := by decide +kernel
theorem dX2_refusal_14 : decode cX2_refusal 14 = .ok (.invokevirtual 19, 3) := by decide +kernel
theorem dX2_refusal_17 : decode cX2_refusal 17 = .ok (.ifCond .eq 7, 3) := by decide +kernel
theorem dX2_refusal_20 : decode cX2_refusal 20 = .ok (.iconst 0, 1) := by decide +kernel
theorem dX2_refusal_21 : decode cX2_refusal 21 = .ok (.goto 5, 3) := by decide +kernel
theorem dX2_refusal_24 : decode cX2_refusal 24 = .ok (.bipush (-13), 2) := by decide +kernel
theorem dX2_refusal_26 : decode cX2_refusal 26 = .ok (.ireturn, 1) := by decide +kernel
theorem dX2_holds_0 : decode cX2_holds 0 = .ok (.iload_n 1, 1) := by decide +kernel
theorem dX2_holds_1 : decode cX2_holds 1 = .ok (.ifCond .lt 31, 3) := by decide +kernel
theorem dX2_holds_4 : decode cX2_holds 4 = .ok (.iload_n 2, 1) := by decide +kernel
theorem dX2_holds_5 : decode cX2_holds 5 = .ok (.ifCond .lt 27, 3) := by decide +kernel
theorem dX2_holds_8 : decode cX2_holds 8 = .ok (.iload_n 2, 1) := by decide +kernel
theorem dX2_holds_9 : decode cX2_holds 9 = .ok (.aload_n 0, 1) := by decide +kernel
theorem dX2_holds_10 : decode cX2_holds 10 = .ok (.getfield 15, 3) := by decide +kernel
theorem dX2_holds_13 : decode cX2_holds 13 = .ok (.arraylength, 1) := by decide +kernel
theorem dX2_holds_14 : decode cX2_holds 14 = .ok (.if_icmp .gt 18, 3) := by decide +kernel
theorem dX2_holds_17 : decode cX2_holds 17 = .ok (.iload_n 1, 1) := by decide +kernel
theorem dX2_holds_18 : decode cX2_holds 18 = .ok (.aload_n 0, 1) := by decide +kernel
theorem dX2_holds_19 : decode cX2_holds 19 = .ok (.getfield 15, 3) := by decide +kernel
theorem dX2_holds_22 : decode cX2_holds 22 = .ok (.arraylength, 1) := by decide +kernel
theorem dX2_holds_23 : decode cX2_holds 23 = .ok (.iload_n 2, 1) := by decide +kernel
theorem dX2_holds_24 : decode cX2_holds 24 = .ok (.isub, 1) := by decide +kernel
theorem dX2_holds_25 : decode cX2_holds 25 = .ok (.if_icmp .gt 7, 3) := by decide +kernel
theorem dX2_holds_28 : decode cX2_holds 28 = .ok (.iconst 1, 1) := by decide +kernel
theorem dX2_holds_29 : decode cX2_holds 29 = .ok (.goto 4, 3) := by decide +kernel
theorem dX2_holds_32 : decode cX2_holds 32 = .ok (.iconst 0, 1) := by decide +kernel
theorem dX2_holds_33 : decode cX2_holds 33 = .ok (.ireturn, 1) := by decide +kernel
theorem dX2_put_0 : decode cX2_put 0 = .ok (.aload_n 0, 1) := by decide +kernel
theorem dX2_put_1 : decode cX2_put 1 = .ok (.getfield 15, 3) := by decide +kernel
theorem dX2_put_4 : decode cX2_put 4 = .ok (.iload_n 1, 1) := by decide +kernel
theorem dX2_put_5 : decode cX2_put 5 = .ok (.aload_n 0, 1) := by decide +kernel
theorem dX2_put_6 : decode cX2_put 6 = .ok (.lload_n 2, 1) := by decide +kernel
theorem dX2_put_7 : decode cX2_put 7 = .ok (.invokevirtual 23, 3) := by decide +kernel
theorem dX2_put_10 : decode cX2_put 10 = .ok (.lastore, 1) := by decide +kernel
theorem dX2_put_11 : decode cX2_put 11 = .ok (.return_, 1) := by decide +kernel
theorem dX2_lowestBits_0 : decode cX2_lowestBits 0 = .ok (.aload_n 0, 1) := by decide +kernel
theorem dX2_lowestBits_1 : decode cX2_lowestBits 1 = .ok (.getfield 9, 3) := by decide +kernel
theorem dX2_lowestBits_4 : decode cX2_lowestBits 4 = .ok (.tableswitch 42 0 2 #[28, 33, 38], 28) := by decide +kernel
theorem dX2_lowestBits_32 : decode cX2_lowestBits 32 = .ok (.lload_n 1, 1) := by decide +kernel
theorem dX2_lowestBits_33 : decode cX2_lowestBits 33 = .ok (.l2i, 1) := by decide +kernel
theorem dX2_lowestBits_34 : decode cX2_lowestBits 34 = .ok (.i2b, 1) := by decide +kernel
theorem dX2_lowestBits_35 : decode cX2_lowestBits 35 = .ok (.i2l, 1) := by decide +kernel
theorem dX2_lowestBits_36 : decode cX2_lowestBits 36 = .ok (.lreturn, 1) := by decide +kernel
theorem dX2_lowestBits_37 : decode cX2_lowestBits 37 = .ok (.lload_n 1, 1) := by decide +kernel
theorem dX2_lowestBits_38 : decode cX2_lowestBits 38 = .ok (.l2i, 1) := by decide +kernel
theorem dX2_lowestBits_39 : decode cX2_lowestBits 39 = .ok (.i2s, 1) := by decide +kernel
theorem dX2_lowestBits_40 : decode cX2_lowestBits 40 = .ok (.i2l, 1) := by decide +kernel
theorem dX2_lowestBits_41 : decode cX2_lowestBits 41 = .ok (.lreturn, 1) := by decide +kernel
theorem dX2_lowestBits_42 : decode cX2_lowestBits 42 = .ok (.lload_n 1, 1) := by decide +kernel
theorem dX2_lowestBits_43 : decode cX2_lowestBits 43 = .ok (.l2i, 1) := by decide +kernel
theorem dX2_lowestBits_44 : decode cX2_lowestBits 44 = .ok (.i2l, 1) := by decide +kernel
theorem dX2_lowestBits_45 : decode cX2_lowestBits 45 = .ok (.lreturn, 1) := by decide +kernel
theorem dX2_lowestBits_46 : decode cX2_lowestBits 46 = .ok (.lload_n 1, 1) := by decide +kernel
theorem dX2_lowestBits_47 : decode cX2_lowestBits 47 = .ok (.lreturn, 1) := by decide +kernel
theorem dX3_init_0 : decode cX3_init 0 = .ok (.aload_n 0, 1) := by decide +kernel
theorem dX3_init_1 : decode cX3_init 1 = .ok (.invokespecial 3, 3) := by decide +kernel
theorem dX3_init_4 : decode cX3_init 4 = .ok (.aload_n 0, 1) := by decide +kernel
theorem dX3_init_5 : decode cX3_init 5 = .ok (.iconst 5, 1) := by decide +kernel
theorem dX3_init_6 : decode cX3_init 6 = .ok (.putfield 9, 3) := by decide +kernel
theorem dX3_init_9 : decode cX3_init 9 = .ok (.aload_n 0, 1) := by decide +kernel
theorem dX3_init_10 : decode cX3_init 10 = .ok (.iconst 1, 1) := by decide +kernel
theorem dX3_init_11 : decode cX3_init 11 = .ok (.putfield 15, 3) := by decide +kernel
theorem dX3_init_14 : decode cX3_init 14 = .ok (.aload_n 0, 1) := by decide +kernel
theorem dX3_init_15 : decode cX3_init 15 = .ok (.iconst 1, 1) := by decide +kernel
theorem dX3_init_16 : decode cX3_init 16 = .ok (.putfield 18, 3) := by decide +kernel
theorem dX3_init_19 : decode cX3_init 19 = .ok (.aload_n 0, 1) := by decide +kernel
theorem dX3_init_20 : decode cX3_init 20 = .ok (.iconst 5, 1) := by decide +kernel
theorem dX3_init_21 : decode cX3_init 21 = .ok (.newarray .int, 2) := by decide +kernel
theorem dX3_init_23 : decode cX3_init 23 = .ok (.putfield 21, 3) := by decide +kernel
theorem dX3_init_26 : decode cX3_init 26 = .ok (.aload_n 0, 1) := by decide +kernel
theorem dX3_init_27 : decode cX3_init 27 = .ok (.bipush 20, 2) := by decide +kernel
theorem dX3_init_29 : decode cX3_init 29 = .ok (.newarray .int, 2) := by decide +kernel
theorem dX3_init_31 : decode cX3_init 31 = .ok (.putfield 25, 3) := by decide +kernel
theorem dX3_init_34 : decode cX3_init 34 = .ok (.aload_n 0, 1) := by decide +kernel
theorem dX3_init_35 : decode cX3_init 35 = .ok (.bipush 16, 2) := by decide +kernel
theorem dX3_init_37 : decode cX3_init 37 = .ok (.newarray .int, 2) := by decide +kernel
theorem dX3_init_39 : decode cX3_init 39 = .ok (.putfield 28, 3) := by decide +kernel
theorem dX3_init_42 : decode cX3_init 42 = .ok (.aload_n 0, 1) := by decide +kernel
theorem dX3_init_43 : decode cX3_init 43 = .ok (.bipush 10, 2) := by decide +kernel
theorem dX3_init_45 : decode cX3_init 45 = .ok (.newarray .int, 2) := by decide +kernel
theorem dX3_init_47 : decode cX3_init 47 = .ok (.putfield 31, 3) := by decide +kernel
theorem dX3_init_50 : decode cX3_init 50 = .ok (.aload_n 0, 1) := by decide +kernel
theorem dX3_init_51 : decode cX3_init 51 = .ok (.bipush 10, 2) := by decide +kernel
theorem dX3_init_53 : decode cX3_init 53 = .ok (.newarray .int, 2) := by decide +kernel
theorem dX3_init_55 : decode cX3_init 55 = .ok (.putfield 34, 3) := by decide +kernel
theorem dX3_init_58 : decode cX3_init 58 = .ok (.aload_n 0, 1) := by decide +kernel
theorem dX3_init_59 : decode cX3_init 59 = .ok (.bipush 10, 2) := by decide +kernel
theorem dX3_init_61 : decode cX3_init 61 = .ok (.newarray .int, 2) := by decide +kernel
theorem dX3_init_63 : decode cX3_init 63 = .ok (.putfield 37, 3) := by decide +kernel
theorem dX3_init_66 : decode cX3_init 66 = .ok (.aload_n 0, 1) := by decide +kernel
theorem dX3_init_67 : decode cX3_init 67 = .ok (.bipush 10, 2) := by decide +kernel
theorem dX3_init_69 : decode cX3_init 69 = .ok (.newarray .int, 2) := by decide +kernel
theorem dX3_init_71 : decode cX3_init 71 = .ok (.putfield 40, 3) := by decide +kernel
theorem dX3_init_74 : decode cX3_init 74 = .ok (.aload_n 0, 1) := by decide +kernel
theorem dX3_init_75 : decode cX3_init 75 = .ok (.bipush 32, 2) := by decide +kernel
theorem dX3_init_77 : decode cX3_init 77 = .ok (.newarray .int, 2) := by decide +kernel
theorem dX3_init_79 : decode cX3_init 79 = .ok (.putfield 43, 3) := by decide +kernel
theorem dX3_init_82 : decode cX3_init 82 = .ok (.return_, 1) := by decide +kernel
theorem dX3_hasPerson_0 : decode cX3_hasPerson 0 = .ok (.iload_n 1, 1) := by decide +kernel
theorem dX3_hasPerson_1 : decode cX3_hasPerson 1 = .ok (.iconst 0, 1) := by decide +kernel
theorem dX3_hasPerson_2 : decode cX3_hasPerson 2 = .ok (.aload_n 0, 1) := by decide +kernel
theorem dX3_hasPerson_3 : decode cX3_hasPerson 3 = .ok (.getfield 46, 3) := by decide +kernel
theorem dX3_hasPerson_6 : decode cX3_hasPerson 6 = .ok (.iconst 1, 1) := by decide +kernel
theorem dX3_hasPerson_7 : decode cX3_hasPerson 7 = .ok (.isub, 1) := by decide +kernel
theorem dX3_hasPerson_8 : decode cX3_hasPerson 8 = .ok (.invokestatic 49, 3) := by decide +kernel
theorem dX3_hasPerson_11 : decode cX3_hasPerson 11 = .ok (.ireturn, 1) := by decide +kernel
theorem dX3_hasSuit_0 : decode cX3_hasSuit 0 = .ok (.iload_n 1, 1) := by decide +kernel
theorem dX3_hasSuit_1 : decode cX3_hasSuit 1 = .ok (.iconst 0, 1) := by decide +kernel
theorem dX3_hasSuit_2 : decode cX3_hasSuit 2 = .ok (.aload_n 0, 1) := by decide +kernel
theorem dX3_hasSuit_3 : decode cX3_hasSuit 3 = .ok (.getfield 53, 3) := by decide +kernel
theorem dX3_hasSuit_6 : decode cX3_hasSuit 6 = .ok (.iconst 1, 1) := by decide +kernel
theorem dX3_hasSuit_7 : decode cX3_hasSuit 7 = .ok (.isub, 1) := by decide +kernel
theorem dX3_hasSuit_8 : decode cX3_hasSuit 8 = .ok (.invokestatic 49, 3) := by decide +kernel
theorem dX3_hasSuit_11 : decode cX3_hasSuit 11 = .ok (.ireturn, 1) := by decide +kernel
theorem dX3_hasDeed_0 : decode cX3_hasDeed 0 = .ok (.iload_n 1, 1) := by decide +kernel
theorem dX3_hasDeed_1 : decode cX3_hasDeed 1 = .ok (.iconst 0, 1) := by decide +kernel
theorem dX3_hasDeed_2 : decode cX3_hasDeed 2 = .ok (.aload_n 0, 1) := by decide +kernel
theorem dX3_hasDeed_3 : decode cX3_hasDeed 3 = .ok (.getfield 56, 3) := by decide +kernel
theorem dX3_hasDeed_6 : decode cX3_hasDeed 6 = .ok (.iconst 1, 1) := by decide +kernel
theorem dX3_hasDeed_7 : decode cX3_hasDeed 7 = .ok (.isub, 1) := by decide +kernel
theorem dX3_hasDeed_8 : decode cX3_hasDeed 8 = .ok (.invokestatic 49, 3) := by decide +kernel
theorem dX3_hasDeed_11 : decode cX3_hasDeed 11 = .ok (.ireturn, 1) := by decide +kernel
theorem dX3_addPerson_0 : decode cX3_addPerson 0 = .ok (.aload_n 0, 1) := by decide +kernel
theorem dX3_addPerson_1 : decode cX3_addPerson 1 = .ok (.getfield 46, 3) := by decide +kernel
theorem dX3_addPerson_4 : decode cX3_addPerson 4 = .ok (.istore_n 3, 1) := by decide +kernel
theorem dX3_addPerson_5 : decode cX3_addPerson 5 = .ok (.aload_n 0, 1) := by decide +kernel
theorem dX3_addPerson_6 : decode cX3_addPerson 6 = .ok (.getfield 21, 3) := by decide +kernel
theorem dX3_addPerson_9 : decode cX3_addPerson 9 = .ok (.iload_n 3, 1) := by decide +kernel
theorem dX3_addPerson_10 : decode cX3_addPerson 10 = .ok (.iload_n 1, 1) := by decide +kernel
theorem dX3_addPerson_11 : decode cX3_addPerson 11 = .ok (.iastore, 1) := by decide +kernel
theorem dX3_addPerson_12 : decode cX3_addPerson 12 = .ok (.iconst 0, 1) := by decide +kernel
theorem dX3_addPerson_13 : decode cX3_addPerson 13 = .ok (.istore 4, 2) := by decide +kernel
theorem dX3_addPerson_15 : decode cX3_addPerson 15 = .ok (.iload 4, 2) := by decide +kernel
theorem dX3_addPerson_17 : decode cX3_addPerson 17 = .ok (.iconst 4, 1) := by decide +kernel
theorem dX3_addPerson_18 : decode cX3_addPerson 18 = .ok (.if_icmp .ge 21, 3) := by decide +kernel
theorem dX3_addPerson_21 : decode cX3_addPerson 21 = .ok (.aload_n 0, 1) := by decide +kernel
theorem dX3_addPerson_22 : decode cX3_addPerson 22 = .ok (.getfield 25, 3) := by decide +kernel
theorem dX3_addPerson_25 : decode cX3_addPerson 25 = .ok (.iload_n 3, 1) := by decide +kernel
theorem dX3_addPerson_26 : decode cX3_addPerson 26 = .ok (.iconst 4, 1) := by decide +kernel
theorem dX3_addPerson_27 : decode cX3_addPerson 27 = .ok (.imul, 1) := by decide +kernel
theorem dX3_addPerson_28 : decode cX3_addPerson 28 = .ok (.iload 4, 2) := by decide +kernel
theorem dX3_addPerson_30 : decode cX3_addPerson 30 = .ok (.iadd, 1) := by decide +kernel
theorem dX3_addPerson_31 : decode cX3_addPerson 31 = .ok (.iload_n 2, 1) := by decide +kernel
theorem dX3_addPerson_32 : decode cX3_addPerson 32 = .ok (.iastore, 1) := by decide +kernel
theorem dX3_addPerson_33 : decode cX3_addPerson 33 = .ok (.iinc 4 1, 3) := by decide +kernel
theorem dX3_addPerson_36 : decode cX3_addPerson 36 = .ok (.goto (-21), 3) := by decide +kernel
theorem dX3_addPerson_39 : decode cX3_addPerson 39 = .ok (.aload_n 0, 1) := by decide +kernel
theorem dX3_addPerson_40 : decode cX3_addPerson 40 = .ok (.iload_n 3, 1) := by decide +kernel
theorem dX3_addPerson_41 : decode cX3_addPerson 41 = .ok (.iconst 1, 1) := by decide +kernel
theorem dX3_addPerson_42 : decode cX3_addPerson 42 = .ok (.iadd, 1) := by decide +kernel
theorem dX3_addPerson_43 : decode cX3_addPerson 43 = .ok (.putfield 46, 3) := by decide +kernel
theorem dX3_addPerson_46 : decode cX3_addPerson 46 = .ok (.aload_n 0, 1) := by decide +kernel
theorem dX3_addPerson_47 : decode cX3_addPerson 47 = .ok (.iconst 0, 1) := by decide +kernel
theorem dX3_addPerson_48 : decode cX3_addPerson 48 = .ok (.putfield 59, 3) := by decide +kernel
theorem dX3_addPerson_51 : decode cX3_addPerson 51 = .ok (.iload_n 3, 1) := by decide +kernel
theorem dX3_addPerson_52 : decode cX3_addPerson 52 = .ok (.ireturn, 1) := by decide +kernel
theorem dX3_addSuit_0 : decode cX3_addSuit 0 = .ok (.aload_n 0, 1) := by decide +kernel
theorem dX3_addSuit_1 : decode cX3_addSuit 1 = .ok (.getfield 53, 3) := by decide +kernel
theorem dX3_addSuit_4 : decode cX3_addSuit 4 = .ok (.istore_n 2, 1) := by decide +kernel
theorem dX3_addSuit_5 : decode cX3_addSuit 5 = .ok (.iconst 0, 1) := by decide +kernel
theorem dX3_addSuit_6 : decode cX3_addSuit 6 = .ok (.istore_n 3, 1) := by decide +kernel
theorem dX3_addSuit_7 : decode cX3_addSuit 7 = .ok (.iload_n 3, 1) := by decide +kernel
theorem dX3_addSuit_8 : decode cX3_addSuit 8 = .ok (.iconst 4, 1) := by decide +kernel
theorem dX3_addSuit_9 : decode cX3_addSuit 9 = .ok (.if_icmp .ge 20, 3) := by decide +kernel
theorem dX3_addSuit_12 : decode cX3_addSuit 12 = .ok (.aload_n 0, 1) := by decide +kernel
theorem dX3_addSuit_13 : decode cX3_addSuit 13 = .ok (.getfield 28, 3) := by decide +kernel
theorem dX3_addSuit_16 : decode cX3_addSuit 16 = .ok (.iload_n 2, 1) := by decide +kernel
theorem dX3_addSuit_17 : decode cX3_addSuit 17 = .ok (.iconst 4, 1) := by decide +kernel
theorem dX3_addSuit_18 : decode cX3_addSuit 18 = .ok (.imul, 1) := by decide +kernel
theorem dX3_addSuit_19 : decode cX3_addSuit 19 = .ok (.iload_n 3, 1) := by decide +kernel
theorem dX3_addSuit_20 : decode cX3_addSuit 20 = .ok (.iadd, 1) := by decide +kernel
theorem dX3_addSuit_21 : decode cX3_addSuit 21 = .ok (.iload_n 1, 1) := by decide +kernel
theorem dX3_addSuit_22 : decode cX3_addSuit 22 = .ok (.iastore, 1) := by decide +kernel
theorem dX3_addSuit_23 : decode cX3_addSuit 23 = .ok (.iinc 3 1, 3) := by decide +kernel
theorem dX3_addSuit_26 : decode cX3_addSuit 26 = .ok (.goto (-19), 3) := by decide +kernel
theorem dX3_addSuit_29 : decode cX3_addSuit 29 = .ok (.aload_n 0, 1) := by decide +kernel
theorem dX3_addSuit_30 : decode cX3_addSuit 30 = .ok (.iload_n 2, 1) := by decide +kernel
theorem dX3_addSuit_31 : decode cX3_addSuit 31 = .ok (.iconst 1, 1) := by decide +kernel
theorem dX3_addSuit_32 : decode cX3_addSuit 32 = .ok (.iadd, 1) := by decide +kernel
theorem dX3_addSuit_33 : decode cX3_addSuit 33 = .ok (.putfield 53, 3) := by decide +kernel
theorem dX3_addSuit_36 : decode cX3_addSuit 36 = .ok (.aload_n 0, 1) := by decide +kernel
theorem dX3_addSuit_37 : decode cX3_addSuit 37 = .ok (.iconst 0, 1) := by decide +kernel
theorem dX3_addSuit_38 : decode cX3_addSuit 38 = .ok (.putfield 59, 3) := by decide +kernel
theorem dX3_addSuit_41 : decode cX3_addSuit 41 = .ok (.iload_n 2, 1) := by decide +kernel
theorem dX3_addSuit_42 : decode cX3_addSuit 42 = .ok (.ireturn, 1) := by decide +kernel
theorem dX3_addDeed_0 : decode cX3_addDeed 0 = .ok (.aload_n 0, 1) := by decide +kernel
theorem dX3_addDeed_1 : decode cX3_addDeed 1 = .ok (.getfield 56, 3) := by decide +kernel
theorem dX3_addDeed_4 : decode cX3_addDeed 4 = .ok (.istore 4, 2) := by decide +kernel
theorem dX3_addDeed_6 : decode cX3_addDeed 6 = .ok (.aload_n 0, 1) := by decide +kernel
theorem dX3_addDeed_7 : decode cX3_addDeed 7 = .ok (.getfield 31, 3) := by decide +kernel
theorem dX3_addDeed_10 : decode cX3_addDeed 10 = .ok (.iload 4, 2) := by decide +kernel
theorem dX3_addDeed_12 : decode cX3_addDeed 12 = .ok (.iload_n 1, 1) := by decide +kernel
theorem dX3_addDeed_13 : decode cX3_addDeed 13 = .ok (.iastore, 1) := by decide +kernel
theorem dX3_addDeed_14 : decode cX3_addDeed 14 = .ok (.aload_n 0, 1) := by decide +kernel
theorem dX3_addDeed_15 : decode cX3_addDeed 15 = .ok (.getfield 34, 3) := by decide +kernel
theorem dX3_addDeed_18 : decode cX3_addDeed 18 = .ok (.iload 4, 2) := by decide +kernel
theorem dX3_addDeed_20 : decode cX3_addDeed 20 = .ok (.iload_n 2, 1) := by decide +kernel
theorem dX3_addDeed_21 : decode cX3_addDeed 21 = .ok (.iastore, 1) := by decide +kernel
theorem dX3_addDeed_22 : decode cX3_addDeed 22 = .ok (.aload_n 0, 1) := by decide +kernel
theorem dX3_addDeed_23 : decode cX3_addDeed 23 = .ok (.getfield 37, 3) := by decide +kernel
theorem dX3_addDeed_26 : decode cX3_addDeed 26 = .ok (.iload 4, 2) := by decide +kernel
theorem dX3_addDeed_28 : decode cX3_addDeed 28 = .ok (.iload_n 3, 1) := by decide +kernel
theorem dX3_addDeed_29 : decode cX3_addDeed 29 = .ok (.iastore, 1) := by decide +kernel
theorem dX3_addDeed_30 : decode cX3_addDeed 30 = .ok (.aload_n 0, 1) := by decide +kernel
theorem dX3_addDeed_31 : decode cX3_addDeed 31 = .ok (.getfield 40, 3) := by decide +kernel
theorem dX3_addDeed_34 : decode cX3_addDeed 34 = .ok (.iload 4, 2) := by decide +kernel
theorem dX3_addDeed_36 : decode cX3_addDeed 36 = .ok (.aload_n 0, 1) := by decide +kernel
theorem dX3_addDeed_37 : decode cX3_addDeed 37 = .ok (.getfield 62, 3) := by decide +kernel
theorem dX3_addDeed_40 : decode cX3_addDeed 40 = .ok (.iastore, 1) := by decide +kernel
theorem dX3_addDeed_41 : decode cX3_addDeed 41 = .ok (.aload_n 0, 1) := by decide +kernel
theorem dX3_addDeed_42 : decode cX3_addDeed 42 = .ok (.iload 4, 2) := by decide +kernel
theorem dX3_addDeed_44 : decode cX3_addDeed 44 = .ok (.iconst 1, 1) := by decide +kernel
theorem dX3_addDeed_45 : decode cX3_addDeed 45 = .ok (.iadd, 1) := by decide +kernel
theorem dX3_addDeed_46 : decode cX3_addDeed 46 = .ok (.putfield 56, 3) := by decide +kernel
theorem dX3_addDeed_49 : decode cX3_addDeed 49 = .ok (.iload 4, 2) := by decide +kernel
theorem dX3_addDeed_51 : decode cX3_addDeed 51 = .ok (.ireturn, 1) := by decide +kernel
theorem dX3_isMended_0 : decode cX3_isMended 0 = .ok (.aload_n 0, 1) := by decide +kernel
theorem dX3_isMended_1 : decode cX3_isMended 1 = .ok (.getfield 65, 3) := by decide +kernel
theorem dX3_isMended_4 : decode cX3_isMended 4 = .ok (.iload_n 1, 1) := by decide +kernel
theorem dX3_isMended_5 : decode cX3_isMended 5 = .ok (.ishr, 1) := by decide +kernel
theorem dX3_isMended_6 : decode cX3_isMended 6 = .ok (.iconst 1, 1) := by decide +kernel
theorem dX3_isMended_7 : decode cX3_isMended 7 = .ok (.iand, 1) := by decide +kernel
theorem dX3_isMended_8 : decode cX3_isMended 8 = .ok (.iconst 1, 1) := by decide +kernel
theorem dX3_isMended_9 : decode cX3_isMended 9 = .ok (.if_icmp .ne 7, 3) := by decide +kernel
theorem dX3_isMended_12 : decode cX3_isMended 12 = .ok (.iconst 1, 1) := by decide +kernel
theorem dX3_isMended_13 : decode cX3_isMended 13 = .ok (.goto 4, 3) := by decide +kernel
theorem dX3_isMended_16 : decode cX3_isMended 16 = .ok (.iconst 0, 1) := by decide +kernel
theorem dX3_isMended_17 : decode cX3_isMended 17 = .ok (.ireturn, 1) := by decide +kernel
theorem dX3_deedsBy_0 : decode cX3_deedsBy 0 = .ok (.iconst 0, 1) := by decide +kernel
theorem dX3_deedsBy_1 : decode cX3_deedsBy 1 = .ok (.istore_n 2, 1) := by decide +kernel
theorem dX3_deedsBy_2 : decode cX3_deedsBy 2 = .ok (.iconst 0, 1) := by decide +kernel
theorem dX3_deedsBy_3 : decode cX3_deedsBy 3 = .ok (.istore_n 3, 1) := by decide +kernel
theorem dX3_deedsBy_4 : decode cX3_deedsBy 4 = .ok (.iload_n 3, 1) := by decide +kernel
theorem dX3_deedsBy_5 : decode cX3_deedsBy 5 = .ok (.aload_n 0, 1) := by decide +kernel
theorem dX3_deedsBy_6 : decode cX3_deedsBy 6 = .ok (.getfield 56, 3) := by decide +kernel
theorem dX3_deedsBy_9 : decode cX3_deedsBy 9 = .ok (.if_icmp .ge 25, 3) := by decide +kernel
theorem dX3_deedsBy_12 : decode cX3_deedsBy 12 = .ok (.aload_n 0, 1) := by decide +kernel
theorem dX3_deedsBy_13 : decode cX3_deedsBy 13 = .ok (.getfield 31, 3) := by decide +kernel
theorem dX3_deedsBy_16 : decode cX3_deedsBy 16 = .ok (.iload_n 3, 1) := by decide +kernel
theorem dX3_deedsBy_17 : decode cX3_deedsBy 17 = .ok (.iaload, 1) := by decide +kernel
theorem dX3_deedsBy_18 : decode cX3_deedsBy 18 = .ok (.iload_n 1, 1) := by decide +kernel
theorem dX3_deedsBy_19 : decode cX3_deedsBy 19 = .ok (.if_icmp .ne 9, 3) := by decide +kernel
theorem dX3_deedsBy_22 : decode cX3_deedsBy 22 = .ok (.iload_n 2, 1) := by decide +kernel
theorem dX3_deedsBy_23 : decode cX3_deedsBy 23 = .ok (.iconst 1, 1) := by decide +kernel
theorem dX3_deedsBy_24 : decode cX3_deedsBy 24 = .ok (.iload_n 3, 1) := by decide +kernel
theorem dX3_deedsBy_25 : decode cX3_deedsBy 25 = .ok (.ishl, 1) := by decide +kernel
theorem dX3_deedsBy_26 : decode cX3_deedsBy 26 = .ok (.ior, 1) := by decide +kernel
theorem dX3_deedsBy_27 : decode cX3_deedsBy 27 = .ok (.istore_n 2, 1) := by decide +kernel
theorem dX3_deedsBy_28 : decode cX3_deedsBy 28 = .ok (.iinc 3 1, 3) := by decide +kernel
theorem dX3_deedsBy_31 : decode cX3_deedsBy 31 = .ok (.goto (-27), 3) := by decide +kernel
theorem dX3_deedsBy_34 : decode cX3_deedsBy 34 = .ok (.iload_n 2, 1) := by decide +kernel
theorem dX3_deedsBy_35 : decode cX3_deedsBy 35 = .ok (.ireturn, 1) := by decide +kernel
theorem dX3_leftBehind_0 : decode cX3_leftBehind 0 = .ok (.aload_n 0, 1) := by decide +kernel
theorem dX3_leftBehind_1 : decode cX3_leftBehind 1 = .ok (.getfield 9, 3) := by decide +kernel
theorem dX3_leftBehind_4 : decode cX3_leftBehind 4 = .ok (.iconst 1, 1) := by decide +kernel
theorem dX3_leftBehind_5 : decode cX3_leftBehind 5 = .ok (.if_icmp .ge 5, 3) := by decide +kernel
theorem dX3_leftBehind_8 : decode cX3_leftBehind 8 = .ok (.iconst 0, 1) := by decide +kernel
theorem dX3_leftBehind_9 : decode cX3_leftBehind 9 = .ok (.ireturn, 1) := by decide +kernel
theorem dX3_leftBehind_10 : decode cX3_leftBehind 10 = .ok (.iconst 0, 1) := by decide +kernel
theorem dX3_leftBehind_11 : decode cX3_leftBehind 11 = .ok (.aload_n 0, 1) := by decide +kernel
theorem dX3_leftBehind_12 : decode cX3_leftBehind 12 = .ok (.getfield 37, 3) := by decide +kernel
theorem dX3_leftBehind_15 : decode cX3_leftBehind 15 = .ok (.iload_n 1, 1) := by decide +kernel
theorem dX3_leftBehind_16 : decode cX3_leftBehind 16 = .ok (.iaload, 1) := by decide +kernel
theorem dX3_leftBehind_17 : decode cX3_leftBehind 17 = .ok (.aload_n 0, 1) := by decide +kernel
theorem dX3_leftBehind_18 : decode cX3_leftBehind 18 = .ok (.getfield 62, 3) := by decide +kernel
theorem dX3_leftBehind_21 : decode cX3_leftBehind 21 = .ok (.iload_n 2, 1) := by decide +kernel
theorem dX3_leftBehind_22 : decode cX3_leftBehind 22 = .ok (.iadd, 1) := by decide +kernel
theorem dX3_leftBehind_23 : decode cX3_leftBehind 23 = .ok (.aload_n 0, 1) := by decide +kernel
theorem dX3_leftBehind_24 : decode cX3_leftBehind 24 = .ok (.getfield 40, 3) := by decide +kernel
theorem dX3_leftBehind_27 : decode cX3_leftBehind 27 = .ok (.iload_n 1, 1) := by decide +kernel
theorem dX3_leftBehind_28 : decode cX3_leftBehind 28 = .ok (.iaload, 1) := by decide +kernel
theorem dX3_leftBehind_29 : decode cX3_leftBehind 29 = .ok (.isub, 1) := by decide +kernel
theorem dX3_leftBehind_30 : decode cX3_leftBehind 30 = .ok (.aload_n 0, 1) := by decide +kernel
theorem dX3_leftBehind_31 : decode cX3_leftBehind 31 = .ok (.getfield 9, 3) := by decide +kernel
theorem dX3_leftBehind_34 : decode cX3_leftBehind 34 = .ok (.idiv, 1) := by decide +kernel
theorem dX3_leftBehind_35 : decode cX3_leftBehind 35 = .ok (.isub, 1) := by decide +kernel
theorem dX3_leftBehind_36 : decode cX3_leftBehind 36 = .ok (.invokestatic 68, 3) := by decide +kernel
theorem dX3_leftBehind_39 : decode cX3_leftBehind 39 = .ok (.istore 4, 2) := by decide +kernel
theorem dX3_leftBehind_41 : decode cX3_leftBehind 41 = .ok (.iload_n 3, 1) := by decide +kernel
theorem dX3_leftBehind_42 : decode cX3_leftBehind 42 = .ok (.ifCond .eq 10, 3) := by decide +kernel
theorem dX3_leftBehind_45 : decode cX3_leftBehind 45 = .ok (.iload 4, 2) := by decide +kernel
theorem dX3_leftBehind_47 : decode cX3_leftBehind 47 = .ok (.iconst 2, 1) := by decide +kernel
theorem dX3_leftBehind_48 : decode cX3_leftBehind 48 = .ok (.idiv, 1) := by decide +kernel
theorem dX3_leftBehind_49 : decode cX3_leftBehind 49 = .ok (.goto 5, 3) := by decide +kernel
theorem dX3_leftBehind_52 : decode cX3_leftBehind 52 = .ok (.iload 4, 2) := by decide +kernel
theorem dX3_leftBehind_54 : decode cX3_leftBehind 54 = .ok (.ireturn, 1) := by decide +kernel
theorem dX3_leftNow_0 : decode cX3_leftNow 0 = .ok (.aload_n 0, 1) := by decide +kernel
theorem dX3_leftNow_1 : decode cX3_leftNow 1 = .ok (.iload_n 1, 1) := by decide +kernel
theorem dX3_leftNow_2 : decode cX3_leftNow 2 = .ok (.iconst 0, 1) := by decide +kernel
theorem dX3_leftNow_3 : decode cX3_leftNow 3 = .ok (.aload_n 0, 1) := by decide +kernel
theorem dX3_leftNow_4 : decode cX3_leftNow 4 = .ok (.iload_n 1, 1) := by decide +kernel
theorem dX3_leftNow_5 : decode cX3_leftNow 5 = .ok (.invokevirtual 74, 3) := by decide +kernel
theorem dX3_leftNow_8 : decode cX3_leftNow 8 = .ok (.invokevirtual 78, 3) := by decide +kernel
theorem dX3_leftNow_11 : decode cX3_leftNow 11 = .ok (.ireturn, 1) := by decide +kernel
theorem dX3_leftOfAll_0 : decode cX3_leftOfAll 0 = .ok (.iconst 0, 1) := by decide +kernel
theorem dX3_leftOfAll_1 : decode cX3_leftOfAll 1 = .ok (.istore_n 1, 1) := by decide +kernel
theorem dX3_leftOfAll_2 : decode cX3_leftOfAll 2 = .ok (.iconst 0, 1) := by decide +kernel
theorem dX3_leftOfAll_3 : decode cX3_leftOfAll 3 = .ok (.istore_n 2, 1) := by decide +kernel
theorem dX3_leftOfAll_4 : decode cX3_leftOfAll 4 = .ok (.iload_n 2, 1) := by decide +kernel
theorem dX3_leftOfAll_5 : decode cX3_leftOfAll 5 = .ok (.aload_n 0, 1) := by decide +kernel
theorem dX3_leftOfAll_6 : decode cX3_leftOfAll 6 = .ok (.getfield 56, 3) := by decide +kernel
theorem dX3_leftOfAll_9 : decode cX3_leftOfAll 9 = .ok (.if_icmp .ge 17, 3) := by decide +kernel
theorem dX3_leftOfAll_12 : decode cX3_leftOfAll 12 = .ok (.iload_n 1, 1) := by decide +kernel
theorem dX3_leftOfAll_13 : decode cX3_leftOfAll 13 = .ok (.aload_n 0, 1) := by decide +kernel
theorem dX3_leftOfAll_14 : decode cX3_leftOfAll 14 = .ok (.iload_n 2, 1) := by decide +kernel
theorem dX3_leftOfAll_15 : decode cX3_leftOfAll 15 = .ok (.invokevirtual 82, 3) := by decide +kernel
theorem dX3_leftOfAll_18 : decode cX3_leftOfAll 18 = .ok (.iadd, 1) := by decide +kernel
theorem dX3_leftOfAll_19 : decode cX3_leftOfAll 19 = .ok (.istore_n 1, 1) := by decide +kernel
theorem dX3_leftOfAll_20 : decode cX3_leftOfAll 20 = .ok (.iinc 2 1, 3) := by decide +kernel
theorem dX3_leftOfAll_23 : decode cX3_leftOfAll 23 = .ok (.goto (-19), 3) := by decide +kernel
theorem dX3_leftOfAll_26 : decode cX3_leftOfAll 26 = .ok (.iload_n 1, 1) := by decide +kernel
theorem dX3_leftOfAll_27 : decode cX3_leftOfAll 27 = .ok (.ireturn, 1) := by decide +kernel
theorem dX3_longerBehind_0 : decode cX3_longerBehind 0 = .ok (.iconst 0, 1) := by decide +kernel
theorem dX3_longerBehind_1 : decode cX3_longerBehind 1 = .ok (.istore 4, 2) := by decide +kernel
theorem dX3_longerBehind_3 : decode cX3_longerBehind 3 = .ok (.iconst 0, 1) := by decide +kernel
theorem dX3_longerBehind_4 : decode cX3_longerBehind 4 = .ok (.istore 5, 2) := by decide +kernel
theorem dX3_longerBehind_6 : decode cX3_longerBehind 6 = .ok (.iload 5, 2) := by decide +kernel
theorem dX3_longerBehind_8 : decode cX3_longerBehind 8 = .ok (.aload_n 0, 1) := by decide +kernel
theorem dX3_longerBehind_9 : decode cX3_longerBehind 9 = .ok (.getfield 56, 3) := by decide +kernel
theorem dX3_longerBehind_12 : decode cX3_longerBehind 12 = .ok (.if_icmp .ge 55, 3) := by decide +kernel
theorem dX3_longerBehind_15 : decode cX3_longerBehind 15 = .ok (.aload_n 0, 1) := by decide +kernel
theorem dX3_longerBehind_16 : decode cX3_longerBehind 16 = .ok (.getfield 31, 3) := by decide +kernel
theorem dX3_longerBehind_19 : decode cX3_longerBehind 19 = .ok (.iload 5, 2) := by decide +kernel
theorem dX3_longerBehind_21 : decode cX3_longerBehind 21 = .ok (.iaload, 1) := by decide +kernel
theorem dX3_longerBehind_22 : decode cX3_longerBehind 22 = .ok (.iload_n 1, 1) := by decide +kernel
theorem dX3_longerBehind_23 : decode cX3_longerBehind 23 = .ok (.if_icmp .ne 38, 3) := by decide +kernel
theorem dX3_longerBehind_26 : decode cX3_longerBehind 26 = .ok (.iload 4, 2) := by decide +kernel
theorem dX3_longerBehind_28 : decode cX3_longerBehind 28 = .ok (.aload_n 0, 1) := by decide +kernel
theorem dX3_longerBehind_29 : decode cX3_longerBehind 29 = .ok (.getfield 21, 3) := by decide +kernel
theorem dX3_longerBehind_32 : decode cX3_longerBehind 32 = .ok (.iload_n 1, 1) := by decide +kernel
theorem dX3_longerBehind_33 : decode cX3_longerBehind 33 = .ok (.iaload, 1) := by decide +kernel
theorem dX3_longerBehind_34 : decode cX3_longerBehind 34 = .ok (.aload_n 0, 1) := by decide +kernel
theorem dX3_longerBehind_35 : decode cX3_longerBehind 35 = .ok (.getfield 34, 3) := by decide +kernel
theorem dX3_longerBehind_38 : decode cX3_longerBehind 38 = .ok (.iload 5, 2) := by decide +kernel
theorem dX3_longerBehind_40 : decode cX3_longerBehind 40 = .ok (.iaload, 1) := by decide +kernel
theorem dX3_longerBehind_41 : decode cX3_longerBehind 41 = .ok (.iload_n 2, 1) := by decide +kernel
theorem dX3_longerBehind_42 : decode cX3_longerBehind 42 = .ok (.aload_n 0, 1) := by decide +kernel
theorem dX3_longerBehind_43 : decode cX3_longerBehind 43 = .ok (.iload 5, 2) := by decide +kernel
theorem dX3_longerBehind_45 : decode cX3_longerBehind 45 = .ok (.iload_n 3, 1) := by decide +kernel
theorem dX3_longerBehind_46 : decode cX3_longerBehind 46 = .ok (.aload_n 0, 1) := by decide +kernel
theorem dX3_longerBehind_47 : decode cX3_longerBehind 47 = .ok (.iload 5, 2) := by decide +kernel
theorem dX3_longerBehind_49 : decode cX3_longerBehind 49 = .ok (.invokevirtual 74, 3) := by decide +kernel
theorem dX3_longerBehind_52 : decode cX3_longerBehind 52 = .ok (.invokevirtual 78, 3) := by decide +kernel
theorem dX3_longerBehind_55 : decode cX3_longerBehind 55 = .ok (.invokestatic 86, 3) := by decide +kernel
theorem dX3_longerBehind_58 : decode cX3_longerBehind 58 = .ok (.iadd, 1) := by decide +kernel
theorem dX3_longerBehind_59 : decode cX3_longerBehind 59 = .ok (.istore 4, 2) := by decide +kernel
theorem dX3_longerBehind_61 : decode cX3_longerBehind 61 = .ok (.iinc 5 1, 3) := by decide +kernel
theorem dX3_longerBehind_64 : decode cX3_longerBehind 64 = .ok (.goto (-58), 3) := by decide +kernel
theorem dX3_longerBehind_67 : decode cX3_longerBehind 67 = .ok (.iload 4, 2) := by decide +kernel
theorem dX3_longerBehind_69 : decode cX3_longerBehind 69 = .ok (.ireturn, 1) := by decide +kernel
theorem dX3_measureBehind_0 : decode cX3_measureBehind 0 = .ok (.aload_n 0, 1) := by decide +kernel
theorem dX3_measureBehind_1 : decode cX3_measureBehind 1 = .ok (.getfield 25, 3) := by decide +kernel
theorem dX3_measureBehind_4 : decode cX3_measureBehind 4 = .ok (.iload_n 1, 1) := by decide +kernel
theorem dX3_measureBehind_5 : decode cX3_measureBehind 5 = .ok (.iconst 4, 1) := by decide +kernel
theorem dX3_measureBehind_6 : decode cX3_measureBehind 6 = .ok (.imul, 1) := by decide +kernel
theorem dX3_measureBehind_7 : decode cX3_measureBehind 7 = .ok (.iload_n 2, 1) := by decide +kernel
theorem dX3_measureBehind_8 : decode cX3_measureBehind 8 = .ok (.iadd, 1) := by decide +kernel
theorem dX3_measureBehind_9 : decode cX3_measureBehind 9 = .ok (.iaload, 1) := by decide +kernel
theorem dX3_measureBehind_10 : decode cX3_measureBehind 10 = .ok (.aload_n 0, 1) := by decide +kernel
theorem dX3_measureBehind_11 : decode cX3_measureBehind 11 = .ok (.iload_n 1, 1) := by decide +kernel
theorem dX3_measureBehind_12 : decode cX3_measureBehind 12 = .ok (.iload_n 2, 1) := by decide +kernel
theorem dX3_measureBehind_13 : decode cX3_measureBehind 13 = .ok (.iload_n 3, 1) := by decide +kernel
theorem dX3_measureBehind_14 : decode cX3_measureBehind 14 = .ok (.invokevirtual 90, 3) := by decide +kernel
theorem dX3_measureBehind_17 : decode cX3_measureBehind 17 = .ok (.iadd, 1) := by decide +kernel
theorem dX3_measureBehind_18 : decode cX3_measureBehind 18 = .ok (.ireturn, 1) := by decide +kernel
theorem dX3_gapBehind_0 : decode cX3_gapBehind 0 = .ok (.aload_n 0, 1) := by decide +kernel
theorem dX3_gapBehind_1 : decode cX3_gapBehind 1 = .ok (.getfield 25, 3) := by decide +kernel
theorem dX3_gapBehind_4 : decode cX3_gapBehind 4 = .ok (.iload_n 1, 1) := by decide +kernel
theorem dX3_gapBehind_5 : decode cX3_gapBehind 5 = .ok (.iconst 4, 1) := by decide +kernel
theorem dX3_gapBehind_6 : decode cX3_gapBehind 6 = .ok (.imul, 1) := by decide +kernel
theorem dX3_gapBehind_7 : decode cX3_gapBehind 7 = .ok (.iload_n 3, 1) := by decide +kernel
theorem dX3_gapBehind_8 : decode cX3_gapBehind 8 = .ok (.iadd, 1) := by decide +kernel
theorem dX3_gapBehind_9 : decode cX3_gapBehind 9 = .ok (.iaload, 1) := by decide +kernel
theorem dX3_gapBehind_10 : decode cX3_gapBehind 10 = .ok (.aload_n 0, 1) := by decide +kernel
theorem dX3_gapBehind_11 : decode cX3_gapBehind 11 = .ok (.getfield 28, 3) := by decide +kernel
theorem dX3_gapBehind_14 : decode cX3_gapBehind 14 = .ok (.iload_n 2, 1) := by decide +kernel
theorem dX3_gapBehind_15 : decode cX3_gapBehind 15 = .ok (.iconst 4, 1) := by decide +kernel
theorem dX3_gapBehind_16 : decode cX3_gapBehind 16 = .ok (.imul, 1) := by decide +kernel
theorem dX3_gapBehind_17 : decode cX3_gapBehind 17 = .ok (.iload_n 3, 1) := by decide +kernel
theorem dX3_gapBehind_18 : decode cX3_gapBehind 18 = .ok (.iadd, 1) := by decide +kernel
theorem dX3_gapBehind_19 : decode cX3_gapBehind 19 = .ok (.iaload, 1) := by decide +kernel
theorem dX3_gapBehind_20 : decode cX3_gapBehind 20 = .ok (.isub, 1) := by decide +kernel
theorem dX3_gapBehind_21 : decode cX3_gapBehind 21 = .ok (.istore 5, 2) := by decide +kernel
theorem dX3_gapBehind_23 : decode cX3_gapBehind 23 = .ok (.iload 5, 2) := by decide +kernel
theorem dX3_gapBehind_25 : decode cX3_gapBehind 25 = .ok (.aload_n 0, 1) := by decide +kernel
theorem dX3_gapBehind_26 : decode cX3_gapBehind 26 = .ok (.iload_n 1, 1) := by decide +kernel
theorem dX3_gapBehind_27 : decode cX3_gapBehind 27 = .ok (.iload_n 3, 1) := by decide +kernel
theorem dX3_gapBehind_28 : decode cX3_gapBehind 28 = .ok (.iload 4, 2) := by decide +kernel
theorem dX3_gapBehind_30 : decode cX3_gapBehind 30 = .ok (.invokevirtual 90, 3) := by decide +kernel
theorem dX3_gapBehind_33 : decode cX3_gapBehind 33 = .ok (.iadd, 1) := by decide +kernel
theorem dX3_gapBehind_34 : decode cX3_gapBehind 34 = .ok (.ireturn, 1) := by decide +kernel
theorem dX3_showsBehind_0 : decode cX3_showsBehind 0 = .ok (.iconst 0, 1) := by decide +kernel
theorem dX3_showsBehind_1 : decode cX3_showsBehind 1 = .ok (.istore 4, 2) := by decide +kernel
theorem dX3_showsBehind_3 : decode cX3_showsBehind 3 = .ok (.iconst 0, 1) := by decide +kernel
theorem dX3_showsBehind_4 : decode cX3_showsBehind 4 = .ok (.istore 5, 2) := by decide +kernel
theorem dX3_showsBehind_6 : decode cX3_showsBehind 6 = .ok (.iload 5, 2) := by decide +kernel
theorem dX3_showsBehind_8 : decode cX3_showsBehind 8 = .ok (.iconst 4, 1) := by decide +kernel
theorem dX3_showsBehind_9 : decode cX3_showsBehind 9 = .ok (.if_icmp .ge 26, 3) := by decide +kernel
theorem dX3_showsBehind_12 : decode cX3_showsBehind 12 = .ok (.iload 4, 2) := by decide +kernel
theorem dX3_showsBehind_14 : decode cX3_showsBehind 14 = .ok (.aload_n 0, 1) := by decide +kernel
theorem dX3_showsBehind_15 : decode cX3_showsBehind 15 = .ok (.iload_n 1, 1) := by decide +kernel
theorem dX3_showsBehind_16 : decode cX3_showsBehind 16 = .ok (.iload_n 2, 1) := by decide +kernel
theorem dX3_showsBehind_17 : decode cX3_showsBehind 17 = .ok (.iload 5, 2) := by decide +kernel
theorem dX3_showsBehind_19 : decode cX3_showsBehind 19 = .ok (.iload_n 3, 1) := by decide +kernel
theorem dX3_showsBehind_20 : decode cX3_showsBehind 20 = .ok (.invokevirtual 94, 3) := by decide +kernel
theorem dX3_showsBehind_23 : decode cX3_showsBehind 23 = .ok (.invokestatic 97, 3) := by decide +kernel
theorem dX3_showsBehind_26 : decode cX3_showsBehind 26 = .ok (.iadd, 1) := by decide +kernel
theorem dX3_showsBehind_27 : decode cX3_showsBehind 27 = .ok (.istore 4, 2) := by decide +kernel
theorem dX3_showsBehind_29 : decode cX3_showsBehind 29 = .ok (.iinc 5 1, 3) := by decide +kernel
theorem dX3_showsBehind_32 : decode cX3_showsBehind 32 = .ok (.goto (-26), 3) := by decide +kernel
theorem dX3_showsBehind_35 : decode cX3_showsBehind 35 = .ok (.iload 4, 2) := by decide +kernel
theorem dX3_showsBehind_37 : decode cX3_showsBehind 37 = .ok (.ireturn, 1) := by decide +kernel
theorem dX3_fitsBehind_0 : decode cX3_fitsBehind 0 = .ok (.iconst 0, 1) := by decide +kernel
theorem dX3_fitsBehind_1 : decode cX3_fitsBehind 1 = .ok (.istore 4, 2) := by decide +kernel
theorem dX3_fitsBehind_3 : decode cX3_fitsBehind 3 = .ok (.iload 4, 2) := by decide +kernel
theorem dX3_fitsBehind_5 : decode cX3_fitsBehind 5 = .ok (.iconst 4, 1) := by decide +kernel
theorem dX3_fitsBehind_6 : decode cX3_fitsBehind 6 = .ok (.if_icmp .ge 30, 3) := by decide +kernel
theorem dX3_fitsBehind_9 : decode cX3_fitsBehind 9 = .ok (.aload_n 0, 1) := by decide +kernel
theorem dX3_fitsBehind_10 : decode cX3_fitsBehind 10 = .ok (.iload_n 1, 1) := by decide +kernel
theorem dX3_fitsBehind_11 : decode cX3_fitsBehind 11 = .ok (.iload_n 2, 1) := by decide +kernel
theorem dX3_fitsBehind_12 : decode cX3_fitsBehind 12 = .ok (.iload 4, 2) := by decide +kernel
theorem dX3_fitsBehind_14 : decode cX3_fitsBehind 14 = .ok (.iload_n 3, 1) := by decide +kernel
theorem dX3_fitsBehind_15 : decode cX3_fitsBehind 15 = .ok (.invokevirtual 94, 3) := by decide +kernel
theorem dX3_fitsBehind_18 : decode cX3_fitsBehind 18 = .ok (.invokestatic 97, 3) := by decide +kernel
theorem dX3_fitsBehind_21 : decode cX3_fitsBehind 21 = .ok (.aload_n 0, 1) := by decide +kernel
theorem dX3_fitsBehind_22 : decode cX3_fitsBehind 22 = .ok (.getfield 15, 3) := by decide +kernel
theorem dX3_fitsBehind_25 : decode cX3_fitsBehind 25 = .ok (.if_icmp .le 5, 3) := by decide +kernel
theorem dX3_fitsBehind_28 : decode cX3_fitsBehind 28 = .ok (.iconst 0, 1) := by decide +kernel
theorem dX3_fitsBehind_29 : decode cX3_fitsBehind 29 = .ok (.ireturn, 1) := by decide +kernel
theorem dX3_fitsBehind_30 : decode cX3_fitsBehind 30 = .ok (.iinc 4 1, 3) := by decide +kernel
theorem dX3_fitsBehind_33 : decode cX3_fitsBehind 33 = .ok (.goto (-30), 3) := by decide +kernel
theorem dX3_fitsBehind_36 : decode cX3_fitsBehind 36 = .ok (.iconst 1, 1) := by decide +kernel
theorem dX3_fitsBehind_37 : decode cX3_fitsBehind 37 = .ok (.ireturn, 1) := by decide +kernel
theorem dX3_remember_0 : decode cX3_remember 0 = .ok (.aload_n 0, 1) := by decide +kernel
theorem dX3_remember_1 : decode cX3_remember 1 = .ok (.getfield 59, 3) := by decide +kernel
theorem dX3_remember_4 : decode cX3_remember 4 = .ok (.bipush 8, 2) := by decide +kernel
theorem dX3_remember_6 : decode cX3_remember 6 = .ok (.if_icmp .lt 29, 3) := by decide +kernel
theorem dX3_remember_9 : decode cX3_remember 9 = .ok (.aload_n 0, 1) := by decide +kernel
theorem dX3_remember_10 : decode cX3_remember 10 = .ok (.getfield 43, 3) := by decide +kernel
theorem dX3_remember_13 : decode cX3_remember 13 = .ok (.iconst 4, 1) := by decide +kernel
theorem dX3_remember_14 : decode cX3_remember 14 = .ok (.aload_n 0, 1) := by decide +kernel
theorem dX3_remember_15 : decode cX3_remember 15 = .ok (.getfield 43, 3) := by decide +kernel
theorem dX3_remember_18 : decode cX3_remember 18 = .ok (.iconst 0, 1) := by decide +kernel
theorem dX3_remember_19 : decode cX3_remember 19 = .ok (.aload_n 0, 1) := by decide +kernel
theorem dX3_remember_20 : decode cX3_remember 20 = .ok (.getfield 43, 3) := by decide +kernel
theorem dX3_remember_23 : decode cX3_remember 23 = .ok (.arraylength, 1) := by decide +kernel
theorem dX3_remember_24 : decode cX3_remember 24 = .ok (.iconst 4, 1) := by decide +kernel
theorem dX3_remember_25 : decode cX3_remember 25 = .ok (.isub, 1) := by decide +kernel
theorem dX3_remember_26 : decode cX3_remember 26 = .ok (.invokestatic 100, 3) := by decide +kernel
theorem dX3_remember_29 : decode cX3_remember 29 = .ok (.aload_n 0, 1) := by decide +kernel
theorem dX3_remember_30 : decode cX3_remember 30 = .ok (.bipush 7, 2) := by decide +kernel
theorem dX3_remember_32 : decode cX3_remember 32 = .ok (.putfield 59, 3) := by decide +kernel
theorem dX3_remember_35 : decode cX3_remember 35 = .ok (.aload_n 0, 1) := by decide +kernel
theorem dX3_remember_36 : decode cX3_remember 36 = .ok (.getfield 59, 3) := by decide +kernel
theorem dX3_remember_39 : decode cX3_remember 39 = .ok (.iconst 4, 1) := by decide +kernel
theorem dX3_remember_40 : decode cX3_remember 40 = .ok (.imul, 1) := by decide +kernel
theorem dX3_remember_41 : decode cX3_remember 41 = .ok (.istore_n 1, 1) := by decide +kernel
theorem dX3_remember_42 : decode cX3_remember 42 = .ok (.aload_n 0, 1) := by decide +kernel
theorem dX3_remember_43 : decode cX3_remember 43 = .ok (.getfield 43, 3) := by decide +kernel
theorem dX3_remember_46 : decode cX3_remember 46 = .ok (.iload_n 1, 1) := by decide +kernel
theorem dX3_remember_47 : decode cX3_remember 47 = .ok (.aload_n 0, 1) := by decide +kernel
theorem dX3_remember_48 : decode cX3_remember 48 = .ok (.getfield 56, 3) := by decide +kernel
theorem dX3_remember_51 : decode cX3_remember 51 = .ok (.iastore, 1) := by decide +kernel
theorem dX3_remember_52 : decode cX3_remember 52 = .ok (.aload_n 0, 1) := by decide +kernel
theorem dX3_remember_53 : decode cX3_remember 53 = .ok (.getfield 43, 3) := by decide +kernel
theorem dX3_remember_56 : decode cX3_remember 56 = .ok (.iload_n 1, 1) := by decide +kernel
theorem dX3_remember_57 : decode cX3_remember 57 = .ok (.iconst 1, 1) := by decide +kernel
theorem dX3_remember_58 : decode cX3_remember 58 = .ok (.iadd, 1) := by decide +kernel
theorem dX3_remember_59 : decode cX3_remember 59 = .ok (.aload_n 0, 1) := by decide +kernel
theorem dX3_remember_60 : decode cX3_remember 60 = .ok (.getfield 65, 3) := by decide +kernel
theorem dX3_remember_63 : decode cX3_remember 63 = .ok (.iastore, 1) := by decide +kernel
theorem dX3_remember_64 : decode cX3_remember 64 = .ok (.aload_n 0, 1) := by decide +kernel
theorem dX3_remember_65 : decode cX3_remember 65 = .ok (.getfield 43, 3) := by decide +kernel
theorem dX3_remember_68 : decode cX3_remember 68 = .ok (.iload_n 1, 1) := by decide +kernel
theorem dX3_remember_69 : decode cX3_remember 69 = .ok (.iconst 2, 1) := by decide +kernel
theorem dX3_remember_70 : decode cX3_remember 70 = .ok (.iadd, 1) := by decide +kernel
theorem dX3_remember_71 : decode cX3_remember 71 = .ok (.aload_n 0, 1) := by decide +kernel
theorem dX3_remember_72 : decode cX3_remember 72 = .ok (.getfield 62, 3) := by decide +kernel
theorem dX3_remember_75 : decode cX3_remember 75 = .ok (.iastore, 1) := by decide +kernel
theorem dX3_remember_76 : decode cX3_remember 76 = .ok (.aload_n 0, 1) := by decide +kernel
theorem dX3_remember_77 : decode cX3_remember 77 = .ok (.getfield 43, 3) := by decide +kernel
theorem dX3_remember_80 : decode cX3_remember 80 = .ok (.iload_n 1, 1) := by decide +kernel
theorem dX3_remember_81 : decode cX3_remember 81 = .ok (.iconst 3, 1) := by decide +kernel
theorem dX3_remember_82 : decode cX3_remember 82 = .ok (.iadd, 1) := by decide +kernel
theorem dX3_remember_83 : decode cX3_remember 83 = .ok (.aload_n 0, 1) := by decide +kernel
theorem dX3_remember_84 : decode cX3_remember 84 = .ok (.getfield 18, 3) := by decide +kernel
theorem dX3_remember_87 : decode cX3_remember 87 = .ok (.iastore, 1) := by decide +kernel
theorem dX3_remember_88 : decode cX3_remember 88 = .ok (.aload_n 0, 1) := by decide +kernel
theorem dX3_remember_89 : decode cX3_remember 89 = .ok (.dup, 1) := by decide +kernel
theorem dX3_remember_90 : decode cX3_remember 90 = .ok (.getfield 59, 3) := by decide +kernel
theorem dX3_remember_93 : decode cX3_remember 93 = .ok (.iconst 1, 1) := by decide +kernel
theorem dX3_remember_94 : decode cX3_remember 94 = .ok (.iadd, 1) := by decide +kernel
theorem dX3_remember_95 : decode cX3_remember 95 = .ok (.putfield 59, 3) := by decide +kernel
theorem dX3_remember_98 : decode cX3_remember 98 = .ok (.return_, 1) := by decide +kernel
theorem dX3_takeBack_0 : decode cX3_takeBack 0 = .ok (.aload_n 0, 1) := by decide +kernel
theorem dX3_takeBack_1 : decode cX3_takeBack 1 = .ok (.dup, 1) := by decide +kernel
theorem dX3_takeBack_2 : decode cX3_takeBack 2 = .ok (.getfield 59, 3) := by decide +kernel
theorem dX3_takeBack_5 : decode cX3_takeBack 5 = .ok (.iconst 1, 1) := by decide +kernel
theorem dX3_takeBack_6 : decode cX3_takeBack 6 = .ok (.isub, 1) := by decide +kernel
theorem dX3_takeBack_7 : decode cX3_takeBack 7 = .ok (.putfield 59, 3) := by decide +kernel
theorem dX3_takeBack_10 : decode cX3_takeBack 10 = .ok (.aload_n 0, 1) := by decide +kernel
theorem dX3_takeBack_11 : decode cX3_takeBack 11 = .ok (.getfield 59, 3) := by decide +kernel
theorem dX3_takeBack_14 : decode cX3_takeBack 14 = .ok (.iconst 4, 1) := by decide +kernel
theorem dX3_takeBack_15 : decode cX3_takeBack 15 = .ok (.imul, 1) := by decide +kernel
theorem dX3_takeBack_16 : decode cX3_takeBack 16 = .ok (.istore_n 1, 1) := by decide +kernel
theorem dX3_takeBack_17 : decode cX3_takeBack 17 = .ok (.aload_n 0, 1) := by decide +kernel
theorem dX3_takeBack_18 : decode cX3_takeBack 18 = .ok (.aload_n 0, 1) := by decide +kernel
theorem dX3_takeBack_19 : decode cX3_takeBack 19 = .ok (.getfield 43, 3) := by decide +kernel
theorem dX3_takeBack_22 : decode cX3_takeBack 22 = .ok (.iload_n 1, 1) := by decide +kernel
theorem dX3_takeBack_23 : decode cX3_takeBack 23 = .ok (.iaload, 1) := by decide +kernel
theorem dX3_takeBack_24 : decode cX3_takeBack 24 = .ok (.putfield 56, 3) := by decide +kernel
theorem dX3_takeBack_27 : decode cX3_takeBack 27 = .ok (.aload_n 0, 1) := by decide +kernel
theorem dX3_takeBack_28 : decode cX3_takeBack 28 = .ok (.aload_n 0, 1) := by decide +kernel
theorem dX3_takeBack_29 : decode cX3_takeBack 29 = .ok (.getfield 43, 3) := by decide +kernel
theorem dX3_takeBack_32 : decode cX3_takeBack 32 = .ok (.iload_n 1, 1) := by decide +kernel
theorem dX3_takeBack_33 : decode cX3_takeBack 33 = .ok (.iconst 1, 1) := by decide +kernel
theorem dX3_takeBack_34 : decode cX3_takeBack 34 = .ok (.iadd, 1) := by decide +kernel
theorem dX3_takeBack_35 : decode cX3_takeBack 35 = .ok (.iaload, 1) := by decide +kernel
theorem dX3_takeBack_36 : decode cX3_takeBack 36 = .ok (.putfield 65, 3) := by decide +kernel
theorem dX3_takeBack_39 : decode cX3_takeBack 39 = .ok (.aload_n 0, 1) := by decide +kernel
theorem dX3_takeBack_40 : decode cX3_takeBack 40 = .ok (.aload_n 0, 1) := by decide +kernel
theorem dX3_takeBack_41 : decode cX3_takeBack 41 = .ok (.getfield 43, 3) := by decide +kernel
theorem dX3_takeBack_44 : decode cX3_takeBack 44 = .ok (.iload_n 1, 1) := by decide +kernel
theorem dX3_takeBack_45 : decode cX3_takeBack 45 = .ok (.iconst 2, 1) := by decide +kernel
theorem dX3_takeBack_46 : decode cX3_takeBack 46 = .ok (.iadd, 1) := by decide +kernel
theorem dX3_takeBack_47 : decode cX3_takeBack 47 = .ok (.iaload, 1) := by decide +kernel
theorem dX3_takeBack_48 : decode cX3_takeBack 48 = .ok (.putfield 62, 3) := by decide +kernel
theorem dX3_takeBack_51 : decode cX3_takeBack 51 = .ok (.aload_n 0, 1) := by decide +kernel
theorem dX3_takeBack_52 : decode cX3_takeBack 52 = .ok (.aload_n 0, 1) := by decide +kernel
theorem dX3_takeBack_53 : decode cX3_takeBack 53 = .ok (.getfield 43, 3) := by decide +kernel
theorem dX3_takeBack_56 : decode cX3_takeBack 56 = .ok (.iload_n 1, 1) := by decide +kernel
theorem dX3_takeBack_57 : decode cX3_takeBack 57 = .ok (.iconst 3, 1) := by decide +kernel
theorem dX3_takeBack_58 : decode cX3_takeBack 58 = .ok (.iadd, 1) := by decide +kernel
theorem dX3_takeBack_59 : decode cX3_takeBack 59 = .ok (.iaload, 1) := by decide +kernel
theorem dX3_takeBack_60 : decode cX3_takeBack 60 = .ok (.putfield 18, 3) := by decide +kernel
theorem dX3_takeBack_63 : decode cX3_takeBack 63 = .ok (.return_, 1) := by decide +kernel
theorem dX3_driftOneDay_0 : decode cX3_driftOneDay 0 = .ok (.aload_n 0, 1) := by decide +kernel
theorem dX3_driftOneDay_1 : decode cX3_driftOneDay 1 = .ok (.invokevirtual 106, 3) := by decide +kernel
theorem dX3_driftOneDay_4 : decode cX3_driftOneDay 4 = .ok (.aload_n 0, 1) := by decide +kernel
theorem dX3_driftOneDay_5 : decode cX3_driftOneDay 5 = .ok (.aload_n 0, 1) := by decide +kernel
theorem dX3_driftOneDay_6 : decode cX3_driftOneDay 6 = .ok (.getfield 18, 3) := by decide +kernel
theorem dX3_driftOneDay_9 : decode cX3_driftOneDay 9 = .ok (.ldc 109, 2) := by decide +kernel
theorem dX3_driftOneDay_11 : decode cX3_driftOneDay 11 = .ok (.imul, 1) := by decide +kernel
theorem dX3_driftOneDay_12 : decode cX3_driftOneDay 12 = .ok (.sipush 12345, 3) := by decide +kernel
theorem dX3_driftOneDay_15 : decode cX3_driftOneDay 15 = .ok (.iadd, 1) := by decide +kernel
theorem dX3_driftOneDay_16 : decode cX3_driftOneDay 16 = .ok (.ldc 110, 2) := by decide +kernel
theorem dX3_driftOneDay_18 : decode cX3_driftOneDay 18 = .ok (.iand, 1) := by decide +kernel
theorem dX3_driftOneDay_19 : decode cX3_driftOneDay 19 = .ok (.putfield 18, 3) := by decide +kernel
theorem dX3_driftOneDay_22 : decode cX3_driftOneDay 22 = .ok (.aload_n 0, 1) := by decide +kernel
theorem dX3_driftOneDay_23 : decode cX3_driftOneDay 23 = .ok (.getfield 18, 3) := by decide +kernel
theorem dX3_driftOneDay_26 : decode cX3_driftOneDay 26 = .ok (.ldc 111, 2) := by decide +kernel
theorem dX3_driftOneDay_28 : decode cX3_driftOneDay 28 = .ok (.idiv, 1) := by decide +kernel
theorem dX3_driftOneDay_29 : decode cX3_driftOneDay 29 = .ok (.istore_n 1, 1) := by decide +kernel
theorem dX3_driftOneDay_30 : decode cX3_driftOneDay 30 = .ok (.aload_n 0, 1) := by decide +kernel
theorem dX3_driftOneDay_31 : decode cX3_driftOneDay 31 = .ok (.getfield 46, 3) := by decide +kernel
theorem dX3_driftOneDay_34 : decode cX3_driftOneDay 34 = .ok (.ifCond .le 53, 3) := by decide +kernel
theorem dX3_driftOneDay_37 : decode cX3_driftOneDay 37 = .ok (.aload_n 0, 1) := by decide +kernel
theorem dX3_driftOneDay_38 : decode cX3_driftOneDay 38 = .ok (.getfield 56, 3) := by decide +kernel
theorem dX3_driftOneDay_41 : decode cX3_driftOneDay 41 = .ok (.bipush 10, 2) := by decide +kernel
theorem dX3_driftOneDay_43 : decode cX3_driftOneDay 43 = .ok (.if_icmp .ge 44, 3) := by decide +kernel
theorem dX3_driftOneDay_46 : decode cX3_driftOneDay 46 = .ok (.iload_n 1, 1) := by decide +kernel
theorem dX3_driftOneDay_47 : decode cX3_driftOneDay 47 = .ok (.iconst 3, 1) := by decide +kernel
theorem dX3_driftOneDay_48 : decode cX3_driftOneDay 48 = .ok (.irem, 1) := by decide +kernel
theorem dX3_driftOneDay_49 : decode cX3_driftOneDay 49 = .ok (.ifCond .ne 38, 3) := by decide +kernel
theorem dX3_driftOneDay_52 : decode cX3_driftOneDay 52 = .ok (.aload_n 0, 1) := by decide +kernel
theorem dX3_driftOneDay_53 : decode cX3_driftOneDay 53 = .ok (.iload_n 1, 1) := by decide +kernel
theorem dX3_driftOneDay_54 : decode cX3_driftOneDay 54 = .ok (.aload_n 0, 1) := by decide +kernel
theorem dX3_driftOneDay_55 : decode cX3_driftOneDay 55 = .ok (.getfield 46, 3) := by decide +kernel
theorem dX3_driftOneDay_58 : decode cX3_driftOneDay 58 = .ok (.irem, 1) := by decide +kernel
theorem dX3_driftOneDay_59 : decode cX3_driftOneDay 59 = .ok (.aload_n 0, 1) := by decide +kernel
theorem dX3_driftOneDay_60 : decode cX3_driftOneDay 60 = .ok (.getfield 18, 3) := by decide +kernel
theorem dX3_driftOneDay_63 : decode cX3_driftOneDay 63 = .ok (.sipush 128, 3) := by decide +kernel
theorem dX3_driftOneDay_66 : decode cX3_driftOneDay 66 = .ok (.idiv, 1) := by decide +kernel
theorem dX3_driftOneDay_67 : decode cX3_driftOneDay 67 = .ok (.bipush 6, 2) := by decide +kernel
theorem dX3_driftOneDay_69 : decode cX3_driftOneDay 69 = .ok (.irem, 1) := by decide +kernel
theorem dX3_driftOneDay_70 : decode cX3_driftOneDay 70 = .ok (.iconst 1, 1) := by decide +kernel
theorem dX3_driftOneDay_71 : decode cX3_driftOneDay 71 = .ok (.aload_n 0, 1) := by decide +kernel
theorem dX3_driftOneDay_72 : decode cX3_driftOneDay 72 = .ok (.getfield 18, 3) := by decide +kernel
theorem dX3_driftOneDay_75 : decode cX3_driftOneDay 75 = .ok (.sipush 1024, 3) := by decide +kernel
theorem dX3_driftOneDay_78 : decode cX3_driftOneDay 78 = .ok (.idiv, 1) := by decide +kernel
theorem dX3_driftOneDay_79 : decode cX3_driftOneDay 79 = .ok (.bipush 9, 2) := by decide +kernel
theorem dX3_driftOneDay_81 : decode cX3_driftOneDay 81 = .ok (.irem, 1) := by decide +kernel
theorem dX3_driftOneDay_82 : decode cX3_driftOneDay 82 = .ok (.iadd, 1) := by decide +kernel
theorem dX3_driftOneDay_83 : decode cX3_driftOneDay 83 = .ok (.invokevirtual 112, 3) := by decide +kernel
theorem dX3_driftOneDay_86 : decode cX3_driftOneDay 86 = .ok (.pop, 1) := by decide +kernel
theorem dX3_driftOneDay_87 : decode cX3_driftOneDay 87 = .ok (.aload_n 0, 1) := by decide +kernel
theorem dX3_driftOneDay_88 : decode cX3_driftOneDay 88 = .ok (.dup, 1) := by decide +kernel
theorem dX3_driftOneDay_89 : decode cX3_driftOneDay 89 = .ok (.getfield 62, 3) := by decide +kernel
theorem dX3_driftOneDay_92 : decode cX3_driftOneDay 92 = .ok (.iconst 1, 1) := by decide +kernel
theorem dX3_driftOneDay_93 : decode cX3_driftOneDay 93 = .ok (.iadd, 1) := by decide +kernel
theorem dX3_driftOneDay_94 : decode cX3_driftOneDay 94 = .ok (.putfield 62, 3) := by decide +kernel
theorem dX3_driftOneDay_97 : decode cX3_driftOneDay 97 = .ok (.return_, 1) := by decide +kernel
theorem dX3_takeWardrobe_0 : decode cX3_takeWardrobe 0 = .ok (.aload_n 0, 1) := by decide +kernel
theorem dX3_takeWardrobe_1 : decode cX3_takeWardrobe 1 = .ok (.aload_n 1, 1) := by decide +kernel
theorem dX3_takeWardrobe_2 : decode cX3_takeWardrobe 2 = .ok (.getfield 115, 3) := by decide +kernel
theorem dX3_takeWardrobe_5 : decode cX3_takeWardrobe 5 = .ok (.putfield 9, 3) := by decide +kernel
theorem dX3_takeWardrobe_8 : decode cX3_takeWardrobe 8 = .ok (.aload_n 0, 1) := by decide +kernel
theorem dX3_takeWardrobe_9 : decode cX3_takeWardrobe 9 = .ok (.aload_n 1, 1) := by decide +kernel
theorem dX3_takeWardrobe_10 : decode cX3_takeWardrobe 10 = .ok (.getfield 118, 3) := by decide +kernel
theorem dX3_takeWardrobe_13 : decode cX3_takeWardrobe 13 = .ok (.putfield 46, 3) := by decide +kernel
theorem dX3_takeWardrobe_16 : decode cX3_takeWardrobe 16 = .ok (.aload_n 0, 1) := by decide +kernel
theorem dX3_takeWardrobe_17 : decode cX3_takeWardrobe 17 = .ok (.aload_n 1, 1) := by decide +kernel
theorem dX3_takeWardrobe_18 : decode cX3_takeWardrobe 18 = .ok (.getfield 119, 3) := by decide +kernel
theorem dX3_takeWardrobe_21 : decode cX3_takeWardrobe 21 = .ok (.putfield 53, 3) := by decide +kernel
theorem dX3_takeWardrobe_24 : decode cX3_takeWardrobe 24 = .ok (.aload_n 1, 1) := by decide +kernel
theorem dX3_takeWardrobe_25 : decode cX3_takeWardrobe 25 = .ok (.getfield 120, 3) := by decide +kernel
theorem dX3_takeWardrobe_28 : decode cX3_takeWardrobe 28 = .ok (.iconst 0, 1) := by decide +kernel
theorem dX3_takeWardrobe_29 : decode cX3_takeWardrobe 29 = .ok (.aload_n 0, 1) := by decide +kernel
theorem dX3_takeWardrobe_30 : decode cX3_takeWardrobe 30 = .ok (.getfield 21, 3) := by decide +kernel
theorem dX3_takeWardrobe_33 : decode cX3_takeWardrobe 33 = .ok (.iconst 0, 1) := by decide +kernel
theorem dX3_takeWardrobe_34 : decode cX3_takeWardrobe 34 = .ok (.aload_n 0, 1) := by decide +kernel
theorem dX3_takeWardrobe_35 : decode cX3_takeWardrobe 35 = .ok (.getfield 21, 3) := by decide +kernel
theorem dX3_takeWardrobe_38 : decode cX3_takeWardrobe 38 = .ok (.arraylength, 1) := by decide +kernel
theorem dX3_takeWardrobe_39 : decode cX3_takeWardrobe 39 = .ok (.invokestatic 100, 3) := by decide +kernel
theorem dX3_takeWardrobe_42 : decode cX3_takeWardrobe 42 = .ok (.aload_n 1, 1) := by decide +kernel
theorem dX3_takeWardrobe_43 : decode cX3_takeWardrobe 43 = .ok (.getfield 121, 3) := by decide +kernel
theorem dX3_takeWardrobe_46 : decode cX3_takeWardrobe 46 = .ok (.iconst 0, 1) := by decide +kernel
theorem dX3_takeWardrobe_47 : decode cX3_takeWardrobe 47 = .ok (.aload_n 0, 1) := by decide +kernel
theorem dX3_takeWardrobe_48 : decode cX3_takeWardrobe 48 = .ok (.getfield 25, 3) := by decide +kernel
theorem dX3_takeWardrobe_51 : decode cX3_takeWardrobe 51 = .ok (.iconst 0, 1) := by decide +kernel
theorem dX3_takeWardrobe_52 : decode cX3_takeWardrobe 52 = .ok (.aload_n 0, 1) := by decide +kernel
theorem dX3_takeWardrobe_53 : decode cX3_takeWardrobe 53 = .ok (.getfield 25, 3) := by decide +kernel
theorem dX3_takeWardrobe_56 : decode cX3_takeWardrobe 56 = .ok (.arraylength, 1) := by decide +kernel
theorem dX3_takeWardrobe_57 : decode cX3_takeWardrobe 57 = .ok (.invokestatic 100, 3) := by decide +kernel
theorem dX3_takeWardrobe_60 : decode cX3_takeWardrobe 60 = .ok (.aload_n 1, 1) := by decide +kernel
theorem dX3_takeWardrobe_61 : decode cX3_takeWardrobe 61 = .ok (.getfield 122, 3) := by decide +kernel
theorem dX3_takeWardrobe_64 : decode cX3_takeWardrobe 64 = .ok (.iconst 0, 1) := by decide +kernel
theorem dX3_takeWardrobe_65 : decode cX3_takeWardrobe 65 = .ok (.aload_n 0, 1) := by decide +kernel
theorem dX3_takeWardrobe_66 : decode cX3_takeWardrobe 66 = .ok (.getfield 28, 3) := by decide +kernel
theorem dX3_takeWardrobe_69 : decode cX3_takeWardrobe 69 = .ok (.iconst 0, 1) := by decide +kernel
theorem dX3_takeWardrobe_70 : decode cX3_takeWardrobe 70 = .ok (.aload_n 0, 1) := by decide +kernel
theorem dX3_takeWardrobe_71 : decode cX3_takeWardrobe 71 = .ok (.getfield 28, 3) := by decide +kernel
theorem dX3_takeWardrobe_74 : decode cX3_takeWardrobe 74 = .ok (.arraylength, 1) := by decide +kernel
theorem dX3_takeWardrobe_75 : decode cX3_takeWardrobe 75 = .ok (.invokestatic 100, 3) := by decide +kernel
theorem dX3_takeWardrobe_78 : decode cX3_takeWardrobe 78 = .ok (.aload_n 0, 1) := by decide +kernel
theorem dX3_takeWardrobe_79 : decode cX3_takeWardrobe 79 = .ok (.iconst 0, 1) := by decide +kernel
theorem dX3_takeWardrobe_80 : decode cX3_takeWardrobe 80 = .ok (.putfield 56, 3) := by decide +kernel
theorem dX3_takeWardrobe_83 : decode cX3_takeWardrobe 83 = .ok (.aload_n 0, 1) := by decide +kernel
theorem dX3_takeWardrobe_84 : decode cX3_takeWardrobe 84 = .ok (.iconst 0, 1) := by decide +kernel
theorem dX3_takeWardrobe_85 : decode cX3_takeWardrobe 85 = .ok (.putfield 65, 3) := by decide +kernel
theorem dX3_takeWardrobe_88 : decode cX3_takeWardrobe 88 = .ok (.aload_n 0, 1) := by decide +kernel
theorem dX3_takeWardrobe_89 : decode cX3_takeWardrobe 89 = .ok (.iconst 0, 1) := by decide +kernel
theorem dX3_takeWardrobe_90 : decode cX3_takeWardrobe 90 = .ok (.putfield 62, 3) := by decide +kernel
theorem dX3_takeWardrobe_93 : decode cX3_takeWardrobe 93 = .ok (.aload_n 0, 1) := by decide +kernel
theorem dX3_takeWardrobe_94 : decode cX3_takeWardrobe 94 = .ok (.iconst 0, 1) := by decide +kernel
theorem dX3_takeWardrobe_95 : decode cX3_takeWardrobe 95 = .ok (.putfield 59, 3) := by decide +kernel
theorem dX3_takeWardrobe_98 : decode cX3_takeWardrobe 98 = .ok (.return_, 1) := by decide +kernel
theorem dX3_takeAll_0 : decode cX3_takeAll 0 = .ok (.aload_n 0, 1) := by decide +kernel
theorem dX3_takeAll_1 : decode cX3_takeAll 1 = .ok (.aload_n 1, 1) := by decide +kernel
theorem dX3_takeAll_2 : decode cX3_takeAll 2 = .ok (.getfield 46, 3) := by decide +kernel
theorem dX3_takeAll_5 : decode cX3_takeAll 5 = .ok (.putfield 46, 3) := by decide +kernel
theorem dX3_takeAll_8 : decode cX3_takeAll 8 = .ok (.aload_n 0, 1) := by decide +kernel
theorem dX3_takeAll_9 : decode cX3_takeAll 9 = .ok (.aload_n 1, 1) := by decide +kernel
theorem dX3_takeAll_10 : decode cX3_takeAll 10 = .ok (.getfield 53, 3) := by decide +kernel
theorem dX3_takeAll_13 : decode cX3_takeAll 13 = .ok (.putfield 53, 3) := by decide +kernel
theorem dX3_takeAll_16 : decode cX3_takeAll 16 = .ok (.aload_n 0, 1) := by decide +kernel
theorem dX3_takeAll_17 : decode cX3_takeAll 17 = .ok (.aload_n 1, 1) := by decide +kernel
theorem dX3_takeAll_18 : decode cX3_takeAll 18 = .ok (.getfield 56, 3) := by decide +kernel
theorem dX3_takeAll_21 : decode cX3_takeAll 21 = .ok (.putfield 56, 3) := by decide +kernel
theorem dX3_takeAll_24 : decode cX3_takeAll 24 = .ok (.aload_n 0, 1) := by decide +kernel
theorem dX3_takeAll_25 : decode cX3_takeAll 25 = .ok (.aload_n 1, 1) := by decide +kernel
theorem dX3_takeAll_26 : decode cX3_takeAll 26 = .ok (.getfield 65, 3) := by decide +kernel
theorem dX3_takeAll_29 : decode cX3_takeAll 29 = .ok (.putfield 65, 3) := by decide +kernel
theorem dX3_takeAll_32 : decode cX3_takeAll 32 = .ok (.aload_n 0, 1) := by decide +kernel
theorem dX3_takeAll_33 : decode cX3_takeAll 33 = .ok (.aload_n 1, 1) := by decide +kernel
theorem dX3_takeAll_34 : decode cX3_takeAll 34 = .ok (.getfield 62, 3) := by decide +kernel
theorem dX3_takeAll_37 : decode cX3_takeAll 37 = .ok (.putfield 62, 3) := by decide +kernel
theorem dX3_takeAll_40 : decode cX3_takeAll 40 = .ok (.aload_n 0, 1) := by decide +kernel
theorem dX3_takeAll_41 : decode cX3_takeAll 41 = .ok (.aload_n 1, 1) := by decide +kernel
theorem dX3_takeAll_42 : decode cX3_takeAll 42 = .ok (.getfield 59, 3) := by decide +kernel
theorem dX3_takeAll_45 : decode cX3_takeAll 45 = .ok (.putfield 59, 3) := by decide +kernel
theorem dX3_takeAll_48 : decode cX3_takeAll 48 = .ok (.aload_n 0, 1) := by decide +kernel
theorem dX3_takeAll_49 : decode cX3_takeAll 49 = .ok (.aload_n 1, 1) := by decide +kernel
theorem dX3_takeAll_50 : decode cX3_takeAll 50 = .ok (.getfield 9, 3) := by decide +kernel
theorem dX3_takeAll_53 : decode cX3_takeAll 53 = .ok (.putfield 9, 3) := by decide +kernel
theorem dX3_takeAll_56 : decode cX3_takeAll 56 = .ok (.aload_n 0, 1) := by decide +kernel
theorem dX3_takeAll_57 : decode cX3_takeAll 57 = .ok (.aload_n 1, 1) := by decide +kernel
theorem dX3_takeAll_58 : decode cX3_takeAll 58 = .ok (.getfield 15, 3) := by decide +kernel
theorem dX3_takeAll_61 : decode cX3_takeAll 61 = .ok (.putfield 15, 3) := by decide +kernel
theorem dX3_takeAll_64 : decode cX3_takeAll 64 = .ok (.aload_n 0, 1) := by decide +kernel
theorem dX3_takeAll_65 : decode cX3_takeAll 65 = .ok (.aload_n 1, 1) := by decide +kernel
theorem dX3_takeAll_66 : decode cX3_takeAll 66 = .ok (.getfield 18, 3) := by decide +kernel
theorem dX3_takeAll_69 : decode cX3_takeAll 69 = .ok (.putfield 18, 3) := by decide +kernel
theorem dX3_takeAll_72 : decode cX3_takeAll 72 = .ok (.aload_n 1, 1) := by decide +kernel
theorem dX3_takeAll_73 : decode cX3_takeAll 73 = .ok (.getfield 21, 3) := by decide +kernel
theorem dX3_takeAll_76 : decode cX3_takeAll 76 = .ok (.iconst 0, 1) := by decide +kernel
theorem dX3_takeAll_77 : decode cX3_takeAll 77 = .ok (.aload_n 0, 1) := by decide +kernel
theorem dX3_takeAll_78 : decode cX3_takeAll 78 = .ok (.getfield 21, 3) := by decide +kernel
theorem dX3_takeAll_81 : decode cX3_takeAll 81 = .ok (.iconst 0, 1) := by decide +kernel
theorem dX3_takeAll_82 : decode cX3_takeAll 82 = .ok (.aload_n 0, 1) := by decide +kernel
theorem dX3_takeAll_83 : decode cX3_takeAll 83 = .ok (.getfield 21, 3) := by decide +kernel
theorem dX3_takeAll_86 : decode cX3_takeAll 86 = .ok (.arraylength, 1) := by decide +kernel
theorem dX3_takeAll_87 : decode cX3_takeAll 87 = .ok (.invokestatic 100, 3) := by decide +kernel
theorem dX3_takeAll_90 : decode cX3_takeAll 90 = .ok (.aload_n 1, 1) := by decide +kernel
theorem dX3_takeAll_91 : decode cX3_takeAll 91 = .ok (.getfield 25, 3) := by decide +kernel
theorem dX3_takeAll_94 : decode cX3_takeAll 94 = .ok (.iconst 0, 1) := by decide +kernel
theorem dX3_takeAll_95 : decode cX3_takeAll 95 = .ok (.aload_n 0, 1) := by decide +kernel
theorem dX3_takeAll_96 : decode cX3_takeAll 96 = .ok (.getfield 25, 3) := by decide +kernel
theorem dX3_takeAll_99 : decode cX3_takeAll 99 = .ok (.iconst 0, 1) := by decide +kernel
theorem dX3_takeAll_100 : decode cX3_takeAll 100 = .ok (.aload_n 0, 1) := by decide +kernel
theorem dX3_takeAll_101 : decode cX3_takeAll 101 = .ok (.getfield 25, 3) := by decide +kernel
theorem dX3_takeAll_104 : decode cX3_takeAll 104 = .ok (.arraylength, 1) := by decide +kernel
theorem dX3_takeAll_105 : decode cX3_takeAll 105 = .ok (.invokestatic 100, 3) := by decide +kernel
theorem dX3_takeAll_108 : decode cX3_takeAll 108 = .ok (.aload_n 1, 1) := by decide +kernel
theorem dX3_takeAll_109 : decode cX3_takeAll 109 = .ok (.getfield 28, 3) := by decide +kernel
theorem dX3_takeAll_112 : decode cX3_takeAll 112 = .ok (.iconst 0, 1) := by decide +kernel
theorem dX3_takeAll_113 : decode cX3_takeAll 113 = .ok (.aload_n 0, 1) := by decide +kernel
theorem dX3_takeAll_114 : decode cX3_takeAll 114 = .ok (.getfield 28, 3) := by decide +kernel
theorem dX3_takeAll_117 : decode cX3_takeAll 117 = .ok (.iconst 0, 1) := by decide +kernel
theorem dX3_takeAll_118 : decode cX3_takeAll 118 = .ok (.aload_n 0, 1) := by decide +kernel
theorem dX3_takeAll_119 : decode cX3_takeAll 119 = .ok (.getfield 28, 3) := by decide +kernel
theorem dX3_takeAll_122 : decode cX3_takeAll 122 = .ok (.arraylength, 1) := by decide +kernel
theorem dX3_takeAll_123 : decode cX3_takeAll 123 = .ok (.invokestatic 100, 3) := by decide +kernel
theorem dX3_takeAll_126 : decode cX3_takeAll 126 = .ok (.aload_n 1, 1) := by decide +kernel
theorem dX3_takeAll_127 : decode cX3_takeAll 127 = .ok (.getfield 31, 3) := by decide +kernel
theorem dX3_takeAll_130 : decode cX3_takeAll 130 = .ok (.iconst 0, 1) := by decide +kernel
theorem dX3_takeAll_131 : decode cX3_takeAll 131 = .ok (.aload_n 0, 1) := by decide +kernel
theorem dX3_takeAll_132 : decode cX3_takeAll 132 = .ok (.getfield 31, 3) := by decide +kernel
theorem dX3_takeAll_135 : decode cX3_takeAll 135 = .ok (.iconst 0, 1) := by decide +kernel
theorem dX3_takeAll_136 : decode cX3_takeAll 136 = .ok (.aload_n 0, 1) := by decide +kernel
theorem dX3_takeAll_137 : decode cX3_takeAll 137 = .ok (.getfield 31, 3) := by decide +kernel
theorem dX3_takeAll_140 : decode cX3_takeAll 140 = .ok (.arraylength, 1) := by decide +kernel
theorem dX3_takeAll_141 : decode cX3_takeAll 141 = .ok (.invokestatic 100, 3) := by decide +kernel
theorem dX3_takeAll_144 : decode cX3_takeAll 144 = .ok (.aload_n 1, 1) := by decide +kernel
theorem dX3_takeAll_145 : decode cX3_takeAll 145 = .ok (.getfield 34, 3) := by decide +kernel
theorem dX3_takeAll_148 : decode cX3_takeAll 148 = .ok (.iconst 0, 1) := by decide +kernel
theorem dX3_takeAll_149 : decode cX3_takeAll 149 = .ok (.aload_n 0, 1) := by decide +kernel
theorem dX3_takeAll_150 : decode cX3_takeAll 150 = .ok (.getfield 34, 3) := by decide +kernel
theorem dX3_takeAll_153 : decode cX3_takeAll 153 = .ok (.iconst 0, 1) := by decide +kernel
theorem dX3_takeAll_154 : decode cX3_takeAll 154 = .ok (.aload_n 0, 1) := by decide +kernel
theorem dX3_takeAll_155 : decode cX3_takeAll 155 = .ok (.getfield 34, 3) := by decide +kernel
theorem dX3_takeAll_158 : decode cX3_takeAll 158 = .ok (.arraylength, 1) := by decide +kernel
theorem dX3_takeAll_159 : decode cX3_takeAll 159 = .ok (.invokestatic 100, 3) := by decide +kernel
theorem dX3_takeAll_162 : decode cX3_takeAll 162 = .ok (.aload_n 1, 1) := by decide +kernel
theorem dX3_takeAll_163 : decode cX3_takeAll 163 = .ok (.getfield 37, 3) := by decide +kernel
theorem dX3_takeAll_166 : decode cX3_takeAll 166 = .ok (.iconst 0, 1) := by decide +kernel
theorem dX3_takeAll_167 : decode cX3_takeAll 167 = .ok (.aload_n 0, 1) := by decide +kernel
theorem dX3_takeAll_168 : decode cX3_takeAll 168 = .ok (.getfield 37, 3) := by decide +kernel
theorem dX3_takeAll_171 : decode cX3_takeAll 171 = .ok (.iconst 0, 1) := by decide +kernel
theorem dX3_takeAll_172 : decode cX3_takeAll 172 = .ok (.aload_n 0, 1) := by decide +kernel
theorem dX3_takeAll_173 : decode cX3_takeAll 173 = .ok (.getfield 37, 3) := by decide +kernel
theorem dX3_takeAll_176 : decode cX3_takeAll 176 = .ok (.arraylength, 1) := by decide +kernel
theorem dX3_takeAll_177 : decode cX3_takeAll 177 = .ok (.invokestatic 100, 3) := by decide +kernel
theorem dX3_takeAll_180 : decode cX3_takeAll 180 = .ok (.aload_n 1, 1) := by decide +kernel
theorem dX3_takeAll_181 : decode cX3_takeAll 181 = .ok (.getfield 40, 3) := by decide +kernel
theorem dX3_takeAll_184 : decode cX3_takeAll 184 = .ok (.iconst 0, 1) := by decide +kernel
theorem dX3_takeAll_185 : decode cX3_takeAll 185 = .ok (.aload_n 0, 1) := by decide +kernel
theorem dX3_takeAll_186 : decode cX3_takeAll 186 = .ok (.getfield 40, 3) := by decide +kernel
theorem dX3_takeAll_189 : decode cX3_takeAll 189 = .ok (.iconst 0, 1) := by decide +kernel
theorem dX3_takeAll_190 : decode cX3_takeAll 190 = .ok (.aload_n 0, 1) := by decide +kernel
theorem dX3_takeAll_191 : decode cX3_takeAll 191 = .ok (.getfield 40, 3) := by decide +kernel
theorem dX3_takeAll_194 : decode cX3_takeAll 194 = .ok (.arraylength, 1) := by decide +kernel
theorem dX3_takeAll_195 : decode cX3_takeAll 195 = .ok (.invokestatic 100, 3) := by decide +kernel
theorem dX3_takeAll_198 : decode cX3_takeAll 198 = .ok (.aload_n 1, 1) := by decide +kernel
theorem dX3_takeAll_199 : decode cX3_takeAll 199 = .ok (.getfield 43, 3) := by decide +kernel
theorem dX3_takeAll_202 : decode cX3_takeAll 202 = .ok (.iconst 0, 1) := by decide +kernel
theorem dX3_takeAll_203 : decode cX3_takeAll 203 = .ok (.aload_n 0, 1) := by decide +kernel
theorem dX3_takeAll_204 : decode cX3_takeAll 204 = .ok (.getfield 43, 3) := by decide +kernel
theorem dX3_takeAll_207 : decode cX3_takeAll 207 = .ok (.iconst 0, 1) := by decide +kernel
theorem dX3_takeAll_208 : decode cX3_takeAll 208 = .ok (.aload_n 0, 1) := by decide +kernel
theorem dX3_takeAll_209 : decode cX3_takeAll 209 = .ok (.getfield 43, 3) := by decide +kernel
theorem dX3_takeAll_212 : decode cX3_takeAll 212 = .ok (.arraylength, 1) := by decide +kernel
theorem dX3_takeAll_213 : decode cX3_takeAll 213 = .ok (.invokestatic 100, 3) := by decide +kernel
theorem dX3_takeAll_216 : decode cX3_takeAll 216 = .ok (.return_, 1) := by decide +kernel
