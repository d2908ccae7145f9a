theorem dX4_init_0 : decode cX4_init 0 = .ok (.aload_n 0, 1) := by decide +kernel
theorem dX4_init_1 : decode cX4_init 1 = .ok (.invokespecial 1, 3) := by decide +kernel
theorem dX4_init_4 : decode cX4_init 4 = .ok (.aload_n 0, 1) := by decide +kernel
theorem dX4_init_5 : decode cX4_init 5 = .ok (.new 7, 3) := by decide +kernel
theorem dX4_init_8 : decode cX4_init 8 = .ok (.dup, 1) := by decide +kernel
theorem dX4_init_9 : decode cX4_init 9 = .ok (.invokespecial 9, 3) := by decide +kernel
theorem dX4_init_12 : decode cX4_init 12 = .ok (.putfield 10, 3) := by decide +kernel
theorem dX4_init_15 : decode cX4_init 15 = .ok (.aload_n 0, 1) := by decide +kernel
theorem dX4_init_16 : decode cX4_init 16 = .ok (.new 7, 3) := by decide +kernel
theorem dX4_init_19 : decode cX4_init 19 = .ok (.dup, 1) := by decide +kernel
theorem dX4_init_20 : decode cX4_init 20 = .ok (.invokespecial 9, 3) := by decide +kernel
theorem dX4_init_23 : decode cX4_init 23 = .ok (.putfield 16, 3) := by decide +kernel
theorem dX4_init_26 : decode cX4_init 26 = .ok (.aload_n 0, 1) := by decide +kernel
theorem dX4_init_27 : decode cX4_init 27 = .ok (.new 19, 3) := by decide +kernel
theorem dX4_init_30 : decode cX4_init 30 = .ok (.dup, 1) := by decide +kernel
theorem dX4_init_31 : decode cX4_init 31 = .ok (.invokespecial 21, 3) := by decide +kernel
theorem dX4_init_34 : decode cX4_init 34 = .ok (.putfield 22, 3) := by decide +kernel
theorem dX4_init_37 : decode cX4_init 37 = .ok (.aload_n 0, 1) := by decide +kernel
theorem dX4_init_38 : decode cX4_init 38 = .ok (.new 26, 3) := by decide +kernel
theorem dX4_init_41 : decode cX4_init 41 = .ok (.dup, 1) := by decide +kernel
theorem dX4_init_42 : decode cX4_init 42 = .ok (.aload_n 0, 1) := by decide +kernel
theorem dX4_init_43 : decode cX4_init 43 = .ok (.getfield 10, 3) := by decide +kernel
theorem dX4_init_46 : decode cX4_init 46 = .ok (.invokespecial 28, 3) := by decide +kernel
theorem dX4_init_49 : decode cX4_init 49 = .ok (.putfield 31, 3) := by decide +kernel
theorem dX4_init_52 : decode cX4_init 52 = .ok (.aload_n 0, 1) := by decide +kernel
theorem dX4_init_53 : decode cX4_init 53 = .ok (.iconst 4, 1) := by decide +kernel
theorem dX4_init_54 : decode cX4_init 54 = .ok (.anewarray 35, 3) := by decide +kernel
theorem dX4_init_57 : decode cX4_init 57 = .ok (.putfield 37, 3) := by decide +kernel
theorem dX4_init_60 : decode cX4_init 60 = .ok (.return_, 1) := by decide +kernel
theorem dX4_person_0 : decode cX4_person 0 = .ok (.iload_n 1, 1) := by decide +kernel
theorem dX4_person_1 : decode cX4_person 1 = .ok (.iconst 0, 1) := by decide +kernel
theorem dX4_person_2 : decode cX4_person 2 = .ok (.iconst 4, 1) := by decide +kernel
theorem dX4_person_3 : decode cX4_person 3 = .ok (.invokestatic 41, 3) := by decide +kernel
theorem dX4_person_6 : decode cX4_person 6 = .ok (.ifCond .eq 14, 3) := by decide +kernel
theorem dX4_person_9 : decode cX4_person 9 = .ok (.iload_n 2, 1) := by decide +kernel
theorem dX4_person_10 : decode cX4_person 10 = .ok (.bipush 10, 2) := by decide +kernel
theorem dX4_person_12 : decode cX4_person 12 = .ok (.bipush 99, 2) := by decide +kernel
theorem dX4_person_14 : decode cX4_person 14 = .ok (.invokestatic 41, 3) := by decide +kernel
theorem dX4_person_17 : decode cX4_person 17 = .ok (.ifCond .ne 5, 3) := by decide +kernel
theorem dX4_person_20 : decode cX4_person 20 = .ok (.iconst (-1), 1) := by decide +kernel
theorem dX4_person_21 : decode cX4_person 21 = .ok (.ireturn, 1) := by decide +kernel
theorem dX4_person_22 : decode cX4_person 22 = .ok (.aload_n 0, 1) := by decide +kernel
theorem dX4_person_23 : decode cX4_person 23 = .ok (.getfield 10, 3) := by decide +kernel
theorem dX4_person_26 : decode cX4_person 26 = .ok (.getfield 45, 3) := by decide +kernel
theorem dX4_person_29 : decode cX4_person 29 = .ok (.iconst 5, 1) := by decide +kernel
theorem dX4_person_30 : decode cX4_person 30 = .ok (.if_icmp .ge 15, 3) := by decide +kernel
theorem dX4_person_33 : decode cX4_person 33 = .ok (.aload_n 0, 1) := by decide +kernel
theorem dX4_person_34 : decode cX4_person 34 = .ok (.getfield 10, 3) := by decide +kernel
theorem dX4_person_37 : decode cX4_person 37 = .ok (.iload_n 1, 1) := by decide +kernel
theorem dX4_person_38 : decode cX4_person 38 = .ok (.iload_n 2, 1) := by decide +kernel
theorem dX4_person_39 : decode cX4_person 39 = .ok (.invokevirtual 49, 3) := by decide +kernel
theorem dX4_person_42 : decode cX4_person 42 = .ok (.goto 5, 3) := by decide +kernel
theorem dX4_person_45 : decode cX4_person 45 = .ok (.bipush (-3), 2) := by decide +kernel
theorem dX4_person_47 : decode cX4_person 47 = .ok (.ireturn, 1) := by decide +kernel
theorem dX4_own_0 : decode cX4_own 0 = .ok (.aload_n 0, 1) := by decide +kernel
theorem dX4_own_1 : decode cX4_own 1 = .ok (.getfield 10, 3) := by decide +kernel
theorem dX4_own_4 : decode cX4_own 4 = .ok (.iload_n 1, 1) := by decide +kernel
theorem dX4_own_5 : decode cX4_own 5 = .ok (.invokevirtual 53, 3) := by decide +kernel
theorem dX4_own_8 : decode cX4_own 8 = .ok (.ifCond .eq 21, 3) := by decide +kernel
theorem dX4_own_11 : decode cX4_own 11 = .ok (.iload_n 2, 1) := by decide +kernel
theorem dX4_own_12 : decode cX4_own 12 = .ok (.invokestatic 57, 3) := by decide +kernel
theorem dX4_own_15 : decode cX4_own 15 = .ok (.ifCond .eq 14, 3) := by decide +kernel
theorem dX4_own_18 : decode cX4_own 18 = .ok (.iload_n 3, 1) := by decide +kernel
theorem dX4_own_19 : decode cX4_own 19 = .ok (.bipush 10, 2) := by decide +kernel
theorem dX4_own_21 : decode cX4_own 21 = .ok (.bipush 99, 2) := by decide +kernel
theorem dX4_own_23 : decode cX4_own 23 = .ok (.invokestatic 41, 3) := by decide +kernel
theorem dX4_own_26 : decode cX4_own 26 = .ok (.ifCond .ne 5, 3) := by decide +kernel
theorem dX4_own_29 : decode cX4_own 29 = .ok (.iconst (-1), 1) := by decide +kernel
theorem dX4_own_30 : decode cX4_own 30 = .ok (.ireturn, 1) := by decide +kernel
theorem dX4_own_31 : decode cX4_own 31 = .ok (.aload_n 0, 1) := by decide +kernel
theorem dX4_own_32 : decode cX4_own 32 = .ok (.getfield 10, 3) := by decide +kernel
theorem dX4_own_35 : decode cX4_own 35 = .ok (.getfield 60, 3) := by decide +kernel
theorem dX4_own_38 : decode cX4_own 38 = .ok (.iload_n 1, 1) := by decide +kernel
theorem dX4_own_39 : decode cX4_own 39 = .ok (.iconst 4, 1) := by decide +kernel
theorem dX4_own_40 : decode cX4_own 40 = .ok (.imul, 1) := by decide +kernel
theorem dX4_own_41 : decode cX4_own 41 = .ok (.iload_n 2, 1) := by decide +kernel
theorem dX4_own_42 : decode cX4_own 42 = .ok (.iadd, 1) := by decide +kernel
theorem dX4_own_43 : decode cX4_own 43 = .ok (.iaload, 1) := by decide +kernel
theorem dX4_own_44 : decode cX4_own 44 = .ok (.istore 4, 2) := by decide +kernel
theorem dX4_own_46 : decode cX4_own 46 = .ok (.aload_n 0, 1) := by decide +kernel
theorem dX4_own_47 : decode cX4_own 47 = .ok (.getfield 10, 3) := by decide +kernel
theorem dX4_own_50 : decode cX4_own 50 = .ok (.getfield 60, 3) := by decide +kernel
theorem dX4_own_53 : decode cX4_own 53 = .ok (.iload_n 1, 1) := by decide +kernel
theorem dX4_own_54 : decode cX4_own 54 = .ok (.iconst 4, 1) := by decide +kernel
theorem dX4_own_55 : decode cX4_own 55 = .ok (.imul, 1) := by decide +kernel
theorem dX4_own_56 : decode cX4_own 56 = .ok (.iload_n 2, 1) := by decide +kernel
theorem dX4_own_57 : decode cX4_own 57 = .ok (.iadd, 1) := by decide +kernel
theorem dX4_own_58 : decode cX4_own 58 = .ok (.iload_n 3, 1) := by decide +kernel
theorem dX4_own_59 : decode cX4_own 59 = .ok (.iastore, 1) := by decide +kernel
theorem dX4_own_60 : decode cX4_own 60 = .ok (.iload 4, 2) := by decide +kernel
theorem dX4_own_62 : decode cX4_own 62 = .ok (.ireturn, 1) := by decide +kernel
theorem dX4_suit_0 : decode cX4_suit 0 = .ok (.iload_n 1, 1) := by decide +kernel
theorem dX4_suit_1 : decode cX4_suit 1 = .ok (.iconst 0, 1) := by decide +kernel
theorem dX4_suit_2 : decode cX4_suit 2 = .ok (.sipush 199, 3) := by decide +kernel
theorem dX4_suit_5 : decode cX4_suit 5 = .ok (.invokestatic 41, 3) := by decide +kernel
theorem dX4_suit_8 : decode cX4_suit 8 = .ok (.ifCond .ne 5, 3) := by decide +kernel
theorem dX4_suit_11 : decode cX4_suit 11 = .ok (.iconst (-1), 1) := by decide +kernel
theorem dX4_suit_12 : decode cX4_suit 12 = .ok (.ireturn, 1) := by decide +kernel
theorem dX4_suit_13 : decode cX4_suit 13 = .ok (.aload_n 0, 1) := by decide +kernel
theorem dX4_suit_14 : decode cX4_suit 14 = .ok (.getfield 10, 3) := by decide +kernel
theorem dX4_suit_17 : decode cX4_suit 17 = .ok (.getfield 64, 3) := by decide +kernel
theorem dX4_suit_20 : decode cX4_suit 20 = .ok (.iconst 4, 1) := by decide +kernel
theorem dX4_suit_21 : decode cX4_suit 21 = .ok (.if_icmp .ge 14, 3) := by decide +kernel
theorem dX4_suit_24 : decode cX4_suit 24 = .ok (.aload_n 0, 1) := by decide +kernel
theorem dX4_suit_25 : decode cX4_suit 25 = .ok (.getfield 10, 3) := by decide +kernel
theorem dX4_suit_28 : decode cX4_suit 28 = .ok (.iload_n 1, 1) := by decide +kernel
theorem dX4_suit_29 : decode cX4_suit 29 = .ok (.invokevirtual 67, 3) := by decide +kernel
theorem dX4_suit_32 : decode cX4_suit 32 = .ok (.goto 5, 3) := by decide +kernel
theorem dX4_suit_35 : decode cX4_suit 35 = .ok (.bipush (-3), 2) := by decide +kernel
theorem dX4_suit_37 : decode cX4_suit 37 = .ok (.ireturn, 1) := by decide +kernel
theorem dX4_cut_0 : decode cX4_cut 0 = .ok (.aload_n 0, 1) := by decide +kernel
theorem dX4_cut_1 : decode cX4_cut 1 = .ok (.getfield 10, 3) := by decide +kernel
theorem dX4_cut_4 : decode cX4_cut 4 = .ok (.iload_n 1, 1) := by decide +kernel
theorem dX4_cut_5 : decode cX4_cut 5 = .ok (.invokevirtual 71, 3) := by decide +kernel
theorem dX4_cut_8 : decode cX4_cut 8 = .ok (.ifCond .eq 21, 3) := by decide +kernel
theorem dX4_cut_11 : decode cX4_cut 11 = .ok (.iload_n 2, 1) := by decide +kernel
theorem dX4_cut_12 : decode cX4_cut 12 = .ok (.invokestatic 57, 3) := by decide +kernel
theorem dX4_cut_15 : decode cX4_cut 15 = .ok (.ifCond .eq 14, 3) := by decide +kernel
theorem dX4_cut_18 : decode cX4_cut 18 = .ok (.iload_n 3, 1) := by decide +kernel
theorem dX4_cut_19 : decode cX4_cut 19 = .ok (.iconst 0, 1) := by decide +kernel
theorem dX4_cut_20 : decode cX4_cut 20 = .ok (.sipush 199, 3) := by decide +kernel
theorem dX4_cut_23 : decode cX4_cut 23 = .ok (.invokestatic 41, 3) := by decide +kernel
theorem dX4_cut_26 : decode cX4_cut 26 = .ok (.ifCond .ne 5, 3) := by decide +kernel
theorem dX4_cut_29 : decode cX4_cut 29 = .ok (.iconst (-1), 1) := by decide +kernel
theorem dX4_cut_30 : decode cX4_cut 30 = .ok (.ireturn, 1) := by decide +kernel
theorem dX4_cut_31 : decode cX4_cut 31 = .ok (.aload_n 0, 1) := by decide +kernel
theorem dX4_cut_32 : decode cX4_cut 32 = .ok (.getfield 10, 3) := by decide +kernel
theorem dX4_cut_35 : decode cX4_cut 35 = .ok (.getfield 74, 3) := by decide +kernel
theorem dX4_cut_38 : decode cX4_cut 38 = .ok (.iload_n 1, 1) := by decide +kernel
theorem dX4_cut_39 : decode cX4_cut 39 = .ok (.iconst 4, 1) := by decide +kernel
theorem dX4_cut_40 : decode cX4_cut 40 = .ok (.imul, 1) := by decide +kernel
theorem dX4_cut_41 : decode cX4_cut 41 = .ok (.iload_n 2, 1) := by decide +kernel
theorem dX4_cut_42 : decode cX4_cut 42 = .ok (.iadd, 1) := by decide +kernel
theorem dX4_cut_43 : decode cX4_cut 43 = .ok (.iaload, 1) := by decide +kernel
theorem dX4_cut_44 : decode cX4_cut 44 = .ok (.istore 4, 2) := by decide +kernel
theorem dX4_cut_46 : decode cX4_cut 46 = .ok (.aload_n 0, 1) := by decide +kernel
theorem dX4_cut_47 : decode cX4_cut 47 = .ok (.getfield 10, 3) := by decide +kernel
theorem dX4_cut_50 : decode cX4_cut 50 = .ok (.getfield 74, 3) := by decide +kernel
theorem dX4_cut_53 : decode cX4_cut 53 = .ok (.iload_n 1, 1) := by decide +kernel
theorem dX4_cut_54 : decode cX4_cut 54 = .ok (.iconst 4, 1) := by decide +kernel
theorem dX4_cut_55 : decode cX4_cut 55 = .ok (.imul, 1) := by decide +kernel
theorem dX4_cut_56 : decode cX4_cut 56 = .ok (.iload_n 2, 1) := by decide +kernel
theorem dX4_cut_57 : decode cX4_cut 57 = .ok (.iadd, 1) := by decide +kernel
theorem dX4_cut_58 : decode cX4_cut 58 = .ok (.iload_n 3, 1) := by decide +kernel
theorem dX4_cut_59 : decode cX4_cut 59 = .ok (.iastore, 1) := by decide +kernel
theorem dX4_cut_60 : decode cX4_cut 60 = .ok (.iload 4, 2) := by decide +kernel
theorem dX4_cut_62 : decode cX4_cut 62 = .ok (.ireturn, 1) := by decide +kernel
theorem dX4_of_0 : decode cX4_of 0 = .ok (.aload_n 0, 1) := by decide +kernel
theorem dX4_of_1 : decode cX4_of 1 = .ok (.getfield 10, 3) := by decide +kernel
theorem dX4_of_4 : decode cX4_of 4 = .ok (.iload_n 1, 1) := by decide +kernel
theorem dX4_of_5 : decode cX4_of 5 = .ok (.invokevirtual 53, 3) := by decide +kernel
theorem dX4_of_8 : decode cX4_of 8 = .ok (.ifCond .eq 13, 3) := by decide +kernel
theorem dX4_of_11 : decode cX4_of 11 = .ok (.iload_n 2, 1) := by decide +kernel
theorem dX4_of_12 : decode cX4_of 12 = .ok (.iconst 0, 1) := by decide +kernel
theorem dX4_of_13 : decode cX4_of 13 = .ok (.bipush 9, 2) := by decide +kernel
theorem dX4_of_15 : decode cX4_of 15 = .ok (.invokestatic 41, 3) := by decide +kernel
theorem dX4_of_18 : decode cX4_of 18 = .ok (.ifCond .ne 5, 3) := by decide +kernel
theorem dX4_of_21 : decode cX4_of 21 = .ok (.iconst (-1), 1) := by decide +kernel
theorem dX4_of_22 : decode cX4_of 22 = .ok (.ireturn, 1) := by decide +kernel
theorem dX4_of_23 : decode cX4_of 23 = .ok (.iload_n 2, 1) := by decide +kernel
theorem dX4_of_24 : decode cX4_of 24 = .ok (.iconst 4, 1) := by decide +kernel
theorem dX4_of_25 : decode cX4_of 25 = .ok (.if_icmp .ge 14, 3) := by decide +kernel
theorem dX4_of_28 : decode cX4_of 28 = .ok (.aload_n 0, 1) := by decide +kernel
theorem dX4_of_29 : decode cX4_of 29 = .ok (.getfield 10, 3) := by decide +kernel
theorem dX4_of_32 : decode cX4_of 32 = .ok (.iload_n 1, 1) := by decide +kernel
theorem dX4_of_33 : decode cX4_of 33 = .ok (.iload_n 2, 1) := by decide +kernel
theorem dX4_of_34 : decode cX4_of 34 = .ok (.iconst 0, 1) := by decide +kernel
theorem dX4_of_35 : decode cX4_of 35 = .ok (.invokevirtual 77, 3) := by decide +kernel
theorem dX4_of_38 : decode cX4_of 38 = .ok (.ireturn, 1) := by decide +kernel
theorem dX4_of_39 : decode cX4_of 39 = .ok (.iload_n 2, 1) := by decide +kernel
theorem dX4_of_40 : decode cX4_of 40 = .ok (.bipush 8, 2) := by decide +kernel
theorem dX4_of_42 : decode cX4_of 42 = .ok (.if_icmp .ge 19, 3) := by decide +kernel
theorem dX4_of_45 : decode cX4_of 45 = .ok (.aload_n 0, 1) := by decide +kernel
theorem dX4_of_46 : decode cX4_of 46 = .ok (.getfield 10, 3) := by decide +kernel
theorem dX4_of_49 : decode cX4_of 49 = .ok (.getfield 60, 3) := by decide +kernel
theorem dX4_of_52 : decode cX4_of 52 = .ok (.iload_n 1, 1) := by decide +kernel
theorem dX4_of_53 : decode cX4_of 53 = .ok (.iconst 4, 1) := by decide +kernel
theorem dX4_of_54 : decode cX4_of 54 = .ok (.imul, 1) := by decide +kernel
theorem dX4_of_55 : decode cX4_of 55 = .ok (.iload_n 2, 1) := by decide +kernel
theorem dX4_of_56 : decode cX4_of 56 = .ok (.iadd, 1) := by decide +kernel
theorem dX4_of_57 : decode cX4_of 57 = .ok (.iconst 4, 1) := by decide +kernel
theorem dX4_of_58 : decode cX4_of 58 = .ok (.isub, 1) := by decide +kernel
theorem dX4_of_59 : decode cX4_of 59 = .ok (.iaload, 1) := by decide +kernel
theorem dX4_of_60 : decode cX4_of 60 = .ok (.ireturn, 1) := by decide +kernel
theorem dX4_of_61 : decode cX4_of 61 = .ok (.iload_n 2, 1) := by decide +kernel
theorem dX4_of_62 : decode cX4_of 62 = .ok (.bipush 8, 2) := by decide +kernel
theorem dX4_of_64 : decode cX4_of 64 = .ok (.if_icmp .ne 15, 3) := by decide +kernel
theorem dX4_of_67 : decode cX4_of 67 = .ok (.aload_n 0, 1) := by decide +kernel
theorem dX4_of_68 : decode cX4_of 68 = .ok (.getfield 10, 3) := by decide +kernel
theorem dX4_of_71 : decode cX4_of 71 = .ok (.getfield 81, 3) := by decide +kernel
theorem dX4_of_74 : decode cX4_of 74 = .ok (.iload_n 1, 1) := by decide +kernel
theorem dX4_of_75 : decode cX4_of 75 = .ok (.iaload, 1) := by decide +kernel
theorem dX4_of_76 : decode cX4_of 76 = .ok (.goto 11, 3) := by decide +kernel
theorem dX4_of_79 : decode cX4_of 79 = .ok (.aload_n 0, 1) := by decide +kernel
theorem dX4_of_80 : decode cX4_of 80 = .ok (.getfield 10, 3) := by decide +kernel
theorem dX4_of_83 : decode cX4_of 83 = .ok (.iload_n 1, 1) := by decide +kernel
theorem dX4_of_84 : decode cX4_of 84 = .ok (.invokevirtual 84, 3) := by decide +kernel
theorem dX4_of_87 : decode cX4_of 87 = .ok (.ireturn, 1) := by decide +kernel
theorem dX4_deed_0 : decode cX4_deed 0 = .ok (.aload_n 0, 1) := by decide +kernel
theorem dX4_deed_1 : decode cX4_deed 1 = .ok (.getfield 10, 3) := by decide +kernel
theorem dX4_deed_4 : decode cX4_deed 4 = .ok (.iload_n 1, 1) := by decide +kernel
theorem dX4_deed_5 : decode cX4_deed 5 = .ok (.invokevirtual 87, 3) := by decide +kernel
theorem dX4_deed_8 : decode cX4_deed 8 = .ok (.ifCond .ne 5, 3) := by decide +kernel
theorem dX4_deed_11 : decode cX4_deed 11 = .ok (.iconst (-1), 1) := by decide +kernel
theorem dX4_deed_12 : decode cX4_deed 12 = .ok (.ireturn, 1) := by decide +kernel
theorem dX4_deed_13 : decode cX4_deed 13 = .ok (.iload_n 2, 1) := by decide +kernel
theorem dX4_deed_14 : decode cX4_deed 14 = .ok (.tableswitch 104 0 5 #[38, 48, 58, 68, 78, 95], 38) := by decide +kernel
theorem dX4_deed_52 : decode cX4_deed 52 = .ok (.aload_n 0, 1) := by decide +kernel
theorem dX4_deed_53 : decode cX4_deed 53 = .ok (.getfield 10, 3) := by decide +kernel
theorem dX4_deed_56 : decode cX4_deed 56 = .ok (.getfield 90, 3) := by decide +kernel
theorem dX4_deed_59 : decode cX4_deed 59 = .ok (.iload_n 1, 1) := by decide +kernel
theorem dX4_deed_60 : decode cX4_deed 60 = .ok (.iaload, 1) := by decide +kernel
theorem dX4_deed_61 : decode cX4_deed 61 = .ok (.ireturn, 1) := by decide +kernel
theorem dX4_deed_62 : decode cX4_deed 62 = .ok (.aload_n 0, 1) := by decide +kernel
theorem dX4_deed_63 : decode cX4_deed 63 = .ok (.getfield 10, 3) := by decide +kernel
theorem dX4_deed_66 : decode cX4_deed 66 = .ok (.getfield 93, 3) := by decide +kernel
theorem dX4_deed_69 : decode cX4_deed 69 = .ok (.iload_n 1, 1) := by decide +kernel
theorem dX4_deed_70 : decode cX4_deed 70 = .ok (.iaload, 1) := by decide +kernel
theorem dX4_deed_71 : decode cX4_deed 71 = .ok (.ireturn, 1) := by decide +kernel
theorem dX4_deed_72 : decode cX4_deed 72 = .ok (.aload_n 0, 1) := by decide +kernel
theorem dX4_deed_73 : decode cX4_deed 73 = .ok (.getfield 10, 3) := by decide +kernel
theorem dX4_deed_76 : decode cX4_deed 76 = .ok (.getfield 96, 3) := by decide +kernel
theorem dX4_deed_79 : decode cX4_deed 79 = .ok (.iload_n 1, 1) := by decide +kernel
theorem dX4_deed_80 : decode cX4_deed 80 = .ok (.iaload, 1) := by decide +kernel
theorem dX4_deed_81 : decode cX4_deed 81 = .ok (.ireturn, 1) := by decide +kernel
theorem dX4_deed_82 : decode cX4_deed 82 = .ok (.aload_n 0, 1) := by decide +kernel
theorem dX4_deed_83 : decode cX4_deed 83 = .ok (.getfield 10, 3) := by decide +kernel
theorem dX4_deed_86 : decode cX4_deed 86 = .ok (.getfield 99, 3) := by decide +kernel
theorem dX4_deed_89 : decode cX4_deed 89 = .ok (.iload_n 1, 1) := by decide +kernel
theorem dX4_deed_90 : decode cX4_deed 90 = .ok (.iaload, 1) := by decide +kernel
theorem dX4_deed_91 : decode cX4_deed 91 = .ok (.ireturn, 1) := by decide +kernel
theorem dX4_deed_92 : decode cX4_deed 92 = .ok (.aload_n 0, 1) := by decide +kernel
theorem dX4_deed_93 : decode cX4_deed 93 = .ok (.getfield 10, 3) := by decide +kernel
theorem dX4_deed_96 : decode cX4_deed 96 = .ok (.iload_n 1, 1) := by decide +kernel
theorem dX4_deed_97 : decode cX4_deed 97 = .ok (.invokevirtual 102, 3) := by decide +kernel
theorem dX4_deed_100 : decode cX4_deed 100 = .ok (.ifCond .eq 7, 3) := by decide +kernel
theorem dX4_deed_103 : decode cX4_deed 103 = .ok (.iconst 1, 1) := by decide +kernel
theorem dX4_deed_104 : decode cX4_deed 104 = .ok (.goto 4, 3) := by decide +kernel
theorem dX4_deed_107 : decode cX4_deed 107 = .ok (.iconst 0, 1) := by decide +kernel
theorem dX4_deed_108 : decode cX4_deed 108 = .ok (.ireturn, 1) := by decide +kernel
theorem dX4_deed_109 : decode cX4_deed 109 = .ok (.aload_n 0, 1) := by decide +kernel
theorem dX4_deed_110 : decode cX4_deed 110 = .ok (.getfield 10, 3) := by decide +kernel
theorem dX4_deed_113 : decode cX4_deed 113 = .ok (.iload_n 1, 1) := by decide +kernel
theorem dX4_deed_114 : decode cX4_deed 114 = .ok (.invokevirtual 105, 3) := by decide +kernel
theorem dX4_deed_117 : decode cX4_deed 117 = .ok (.ireturn, 1) := by decide +kernel
theorem dX4_deed_118 : decode cX4_deed 118 = .ok (.iconst (-1), 1) := by decide +kernel
theorem dX4_deed_119 : decode cX4_deed 119 = .ok (.ireturn, 1) := by decide +kernel
theorem dX4_tries_0 : decode cX4_tries 0 = .ok (.aload_n 0, 1) := by decide +kernel
theorem dX4_tries_1 : decode cX4_tries 1 = .ok (.getfield 10, 3) := by decide +kernel
theorem dX4_tries_4 : decode cX4_tries 4 = .ok (.iload_n 1, 1) := by decide +kernel
theorem dX4_tries_5 : decode cX4_tries 5 = .ok (.invokevirtual 53, 3) := by decide +kernel
theorem dX4_tries_8 : decode cX4_tries 8 = .ok (.ifCond .eq 21, 3) := by decide +kernel
theorem dX4_tries_11 : decode cX4_tries 11 = .ok (.aload_n 0, 1) := by decide +kernel
theorem dX4_tries_12 : decode cX4_tries 12 = .ok (.getfield 10, 3) := by decide +kernel
theorem dX4_tries_15 : decode cX4_tries 15 = .ok (.iload_n 2, 1) := by decide +kernel
theorem dX4_tries_16 : decode cX4_tries 16 = .ok (.invokevirtual 71, 3) := by decide +kernel
theorem dX4_tries_19 : decode cX4_tries 19 = .ok (.ifCond .eq 10, 3) := by decide +kernel
theorem dX4_tries_22 : decode cX4_tries 22 = .ok (.iload_n 3, 1) := by decide +kernel
theorem dX4_tries_23 : decode cX4_tries 23 = .ok (.invokestatic 108, 3) := by decide +kernel
theorem dX4_tries_26 : decode cX4_tries 26 = .ok (.ifCond .ne 5, 3) := by decide +kernel
theorem dX4_tries_29 : decode cX4_tries 29 = .ok (.iconst (-1), 1) := by decide +kernel
theorem dX4_tries_30 : decode cX4_tries 30 = .ok (.ireturn, 1) := by decide +kernel
theorem dX4_tries_31 : decode cX4_tries 31 = .ok (.iload_n 3, 1) := by decide +kernel
theorem dX4_tries_32 : decode cX4_tries 32 = .ok (.ifCond .ne 14, 3) := by decide +kernel
theorem dX4_tries_35 : decode cX4_tries 35 = .ok (.aload_n 0, 1) := by decide +kernel
theorem dX4_tries_36 : decode cX4_tries 36 = .ok (.getfield 10, 3) := by decide +kernel
theorem dX4_tries_39 : decode cX4_tries 39 = .ok (.iload_n 1, 1) := by decide +kernel
theorem dX4_tries_40 : decode cX4_tries 40 = .ok (.iload_n 2, 1) := by decide +kernel
theorem dX4_tries_41 : decode cX4_tries 41 = .ok (.iconst 0, 1) := by decide +kernel
theorem dX4_tries_42 : decode cX4_tries 42 = .ok (.invokevirtual 111, 3) := by decide +kernel
theorem dX4_tries_45 : decode cX4_tries 45 = .ok (.ireturn, 1) := by decide +kernel
theorem dX4_tries_46 : decode cX4_tries 46 = .ok (.aload_n 0, 1) := by decide +kernel
theorem dX4_tries_47 : decode cX4_tries 47 = .ok (.getfield 10, 3) := by decide +kernel
theorem dX4_tries_50 : decode cX4_tries 50 = .ok (.iload_n 1, 1) := by decide +kernel
theorem dX4_tries_51 : decode cX4_tries 51 = .ok (.iload_n 2, 1) := by decide +kernel
theorem dX4_tries_52 : decode cX4_tries 52 = .ok (.iconst 0, 1) := by decide +kernel
theorem dX4_tries_53 : decode cX4_tries 53 = .ok (.invokevirtual 114, 3) := by decide +kernel
theorem dX4_tries_56 : decode cX4_tries 56 = .ok (.ifCond .eq 7, 3) := by decide +kernel
theorem dX4_tries_59 : decode cX4_tries 59 = .ok (.iconst 1, 1) := by decide +kernel
theorem dX4_tries_60 : decode cX4_tries 60 = .ok (.goto 4, 3) := by decide +kernel
theorem dX4_tries_63 : decode cX4_tries 63 = .ok (.iconst 0, 1) := by decide +kernel
theorem dX4_tries_64 : decode cX4_tries 64 = .ok (.ireturn, 1) := by decide +kernel
theorem dX4_rule_0 : decode cX4_rule 0 = .ok (.iload_n 1, 1) := by decide +kernel
theorem dX4_rule_1 : decode cX4_rule 1 = .ok (.ifCond .ne 31, 3) := by decide +kernel
theorem dX4_rule_4 : decode cX4_rule 4 = .ok (.iload_n 2, 1) := by decide +kernel
theorem dX4_rule_5 : decode cX4_rule 5 = .ok (.iconst 1, 1) := by decide +kernel
theorem dX4_rule_6 : decode cX4_rule 6 = .ok (.bipush 30, 2) := by decide +kernel
theorem dX4_rule_8 : decode cX4_rule 8 = .ok (.invokestatic 41, 3) := by decide +kernel
theorem dX4_rule_11 : decode cX4_rule 11 = .ok (.ifCond .eq 21, 3) := by decide +kernel
theorem dX4_rule_14 : decode cX4_rule 14 = .ok (.aload_n 0, 1) := by decide +kernel
theorem dX4_rule_15 : decode cX4_rule 15 = .ok (.getfield 10, 3) := by decide +kernel
theorem dX4_rule_18 : decode cX4_rule 18 = .ok (.getfield 117, 3) := by decide +kernel
theorem dX4_rule_21 : decode cX4_rule 21 = .ok (.istore_n 3, 1) := by decide +kernel
theorem dX4_rule_22 : decode cX4_rule 22 = .ok (.aload_n 0, 1) := by decide +kernel
theorem dX4_rule_23 : decode cX4_rule 23 = .ok (.getfield 10, 3) := by decide +kernel
theorem dX4_rule_26 : decode cX4_rule 26 = .ok (.iload_n 2, 1) := by decide +kernel
theorem dX4_rule_27 : decode cX4_rule 27 = .ok (.putfield 117, 3) := by decide +kernel
theorem dX4_rule_30 : decode cX4_rule 30 = .ok (.iload_n 3, 1) := by decide +kernel
theorem dX4_rule_31 : decode cX4_rule 31 = .ok (.ireturn, 1) := by decide +kernel
theorem dX4_rule_32 : decode cX4_rule 32 = .ok (.iload_n 1, 1) := by decide +kernel
theorem dX4_rule_33 : decode cX4_rule 33 = .ok (.iconst 1, 1) := by decide +kernel
theorem dX4_rule_34 : decode cX4_rule 34 = .ok (.if_icmp .ne 31, 3) := by decide +kernel
theorem dX4_rule_37 : decode cX4_rule 37 = .ok (.iload_n 2, 1) := by decide +kernel
theorem dX4_rule_38 : decode cX4_rule 38 = .ok (.iconst 0, 1) := by decide +kernel
theorem dX4_rule_39 : decode cX4_rule 39 = .ok (.bipush 9, 2) := by decide +kernel
theorem dX4_rule_41 : decode cX4_rule 41 = .ok (.invokestatic 41, 3) := by decide +kernel
theorem dX4_rule_44 : decode cX4_rule 44 = .ok (.ifCond .eq 21, 3) := by decide +kernel
theorem dX4_rule_47 : decode cX4_rule 47 = .ok (.aload_n 0, 1) := by decide +kernel
theorem dX4_rule_48 : decode cX4_rule 48 = .ok (.getfield 10, 3) := by decide +kernel
theorem dX4_rule_51 : decode cX4_rule 51 = .ok (.getfield 120, 3) := by decide +kernel
theorem dX4_rule_54 : decode cX4_rule 54 = .ok (.istore_n 3, 1) := by decide +kernel
theorem dX4_rule_55 : decode cX4_rule 55 = .ok (.aload_n 0, 1) := by decide +kernel
theorem dX4_rule_56 : decode cX4_rule 56 = .ok (.getfield 10, 3) := by decide +kernel
theorem dX4_rule_59 : decode cX4_rule 59 = .ok (.iload_n 2, 1) := by decide +kernel
theorem dX4_rule_60 : decode cX4_rule 60 = .ok (.putfield 120, 3) := by decide +kernel
theorem dX4_rule_63 : decode cX4_rule 63 = .ok (.iload_n 3, 1) := by decide +kernel
theorem dX4_rule_64 : decode cX4_rule 64 = .ok (.ireturn, 1) := by decide +kernel
theorem dX4_rule_65 : decode cX4_rule 65 = .ok (.iconst (-1), 1) := by decide +kernel
theorem dX4_rule_66 : decode cX4_rule 66 = .ok (.ireturn, 1) := by decide +kernel
theorem dX4_type_0 : decode cX4_type 0 = .ok (.iload_n 1, 1) := by decide +kernel
theorem dX4_type_1 : decode cX4_type 1 = .ok (.bipush 32, 2) := by decide +kernel
theorem dX4_type_3 : decode cX4_type 3 = .ok (.bipush 126, 2) := by decide +kernel
theorem dX4_type_5 : decode cX4_type 5 = .ok (.invokestatic 41, 3) := by decide +kernel
theorem dX4_type_8 : decode cX4_type 8 = .ok (.ifCond .ne 5, 3) := by decide +kernel
theorem dX4_type_11 : decode cX4_type 11 = .ok (.iconst (-1), 1) := by decide +kernel
theorem dX4_type_12 : decode cX4_type 12 = .ok (.ireturn, 1) := by decide +kernel
theorem dX4_type_13 : decode cX4_type 13 = .ok (.aload_n 0, 1) := by decide +kernel
theorem dX4_type_14 : decode cX4_type 14 = .ok (.getfield 22, 3) := by decide +kernel
theorem dX4_type_17 : decode cX4_type 17 = .ok (.getfield 123, 3) := by decide +kernel
theorem dX4_type_20 : decode cX4_type 20 = .ok (.sipush 130, 3) := by decide +kernel
theorem dX4_type_23 : decode cX4_type 23 = .ok (.if_icmp .ge 14, 3) := by decide +kernel
theorem dX4_type_26 : decode cX4_type 26 = .ok (.aload_n 0, 1) := by decide +kernel
theorem dX4_type_27 : decode cX4_type 27 = .ok (.getfield 22, 3) := by decide +kernel
theorem dX4_type_30 : decode cX4_type 30 = .ok (.iload_n 1, 1) := by decide +kernel
theorem dX4_type_31 : decode cX4_type 31 = .ok (.invokevirtual 126, 3) := by decide +kernel
theorem dX4_type_34 : decode cX4_type 34 = .ok (.goto 5, 3) := by decide +kernel
theorem dX4_type_37 : decode cX4_type 37 = .ok (.bipush (-3), 2) := by decide +kernel
theorem dX4_type_39 : decode cX4_type 39 = .ok (.ireturn, 1) := by decide +kernel
theorem dX4_wardrobe_0 : decode cX4_wardrobe 0 = .ok (.aload_n 0, 1) := by decide +kernel
theorem dX4_wardrobe_1 : decode cX4_wardrobe 1 = .ok (.getfield 22, 3) := by decide +kernel
theorem dX4_wardrobe_4 : decode cX4_wardrobe 4 = .ok (.invokevirtual 129, 3) := by decide +kernel
theorem dX4_wardrobe_7 : decode cX4_wardrobe 7 = .ok (.istore_n 1, 1) := by decide +kernel
theorem dX4_wardrobe_8 : decode cX4_wardrobe 8 = .ok (.aload_n 0, 1) := by decide +kernel
theorem dX4_wardrobe_9 : decode cX4_wardrobe 9 = .ok (.getfield 22, 3) := by decide +kernel
theorem dX4_wardrobe_12 : decode cX4_wardrobe 12 = .ok (.iconst 0, 1) := by decide +kernel
theorem dX4_wardrobe_13 : decode cX4_wardrobe 13 = .ok (.putfield 123, 3) := by decide +kernel
theorem dX4_wardrobe_16 : decode cX4_wardrobe 16 = .ok (.iload_n 1, 1) := by decide +kernel
theorem dX4_wardrobe_17 : decode cX4_wardrobe 17 = .ok (.iconst (-1), 1) := by decide +kernel
theorem dX4_wardrobe_18 : decode cX4_wardrobe 18 = .ok (.if_icmp .eq 8, 3) := by decide +kernel
theorem dX4_wardrobe_21 : decode cX4_wardrobe 21 = .ok (.bipush (-20), 2) := by decide +kernel
theorem dX4_wardrobe_23 : decode cX4_wardrobe 23 = .ok (.iload_n 1, 1) := by decide +kernel
theorem dX4_wardrobe_24 : decode cX4_wardrobe 24 = .ok (.isub, 1) := by decide +kernel
theorem dX4_wardrobe_25 : decode cX4_wardrobe 25 = .ok (.ireturn, 1) := by decide +kernel
theorem dX4_wardrobe_26 : decode cX4_wardrobe 26 = .ok (.aload_n 0, 1) := by decide +kernel
theorem dX4_wardrobe_27 : decode cX4_wardrobe 27 = .ok (.getfield 10, 3) := by decide +kernel
theorem dX4_wardrobe_30 : decode cX4_wardrobe 30 = .ok (.aload_n 0, 1) := by decide +kernel
theorem dX4_wardrobe_31 : decode cX4_wardrobe 31 = .ok (.getfield 22, 3) := by decide +kernel
theorem dX4_wardrobe_34 : decode cX4_wardrobe 34 = .ok (.invokevirtual 133, 3) := by decide +kernel
theorem dX4_wardrobe_37 : decode cX4_wardrobe 37 = .ok (.aload_n 0, 1) := by decide +kernel
theorem dX4_wardrobe_38 : decode cX4_wardrobe 38 = .ok (.getfield 10, 3) := by decide +kernel
theorem dX4_wardrobe_41 : decode cX4_wardrobe 41 = .ok (.getfield 45, 3) := by decide +kernel
theorem dX4_wardrobe_44 : decode cX4_wardrobe 44 = .ok (.ireturn, 1) := by decide +kernel
theorem dX4_count_0 : decode cX4_count 0 = .ok (.iload_n 1, 1) := by decide +kernel
theorem dX4_count_1 : decode cX4_count 1 = .ok (.tableswitch 123 0 8 #[51, 59, 67, 75, 83, 91, 99, 107, 115], 51) := by decide +kernel
theorem dX4_count_52 : decode cX4_count 52 = .ok (.aload_n 0, 1) := by decide +kernel
theorem dX4_count_53 : decode cX4_count 53 = .ok (.getfield 10, 3) := by decide +kernel
theorem dX4_count_56 : decode cX4_count 56 = .ok (.getfield 45, 3) := by decide +kernel
theorem dX4_count_59 : decode cX4_count 59 = .ok (.ireturn, 1) := by decide +kernel
theorem dX4_count_60 : decode cX4_count 60 = .ok (.aload_n 0, 1) := by decide +kernel
theorem dX4_count_61 : decode cX4_count 61 = .ok (.getfield 10, 3) := by decide +kernel
theorem dX4_count_64 : decode cX4_count 64 = .ok (.getfield 64, 3) := by decide +kernel
theorem dX4_count_67 : decode cX4_count 67 = .ok (.ireturn, 1) := by decide +kernel
theorem dX4_count_68 : decode cX4_count 68 = .ok (.aload_n 0, 1) := by decide +kernel
theorem dX4_count_69 : decode cX4_count 69 = .ok (.getfield 10, 3) := by decide +kernel
theorem dX4_count_72 : decode cX4_count 72 = .ok (.getfield 137, 3) := by decide +kernel
theorem dX4_count_75 : decode cX4_count 75 = .ok (.ireturn, 1) := by decide +kernel
theorem dX4_count_76 : decode cX4_count 76 = .ok (.aload_n 0, 1) := by decide +kernel
theorem dX4_count_77 : decode cX4_count 77 = .ok (.getfield 10, 3) := by decide +kernel
theorem dX4_count_80 : decode cX4_count 80 = .ok (.getfield 140, 3) := by decide +kernel
theorem dX4_count_83 : decode cX4_count 83 = .ok (.ireturn, 1) := by decide +kernel
theorem dX4_count_84 : decode cX4_count 84 = .ok (.aload_n 0, 1) := by decide +kernel
theorem dX4_count_85 : decode cX4_count 85 = .ok (.getfield 10, 3) := by decide +kernel
theorem dX4_count_88 : decode cX4_count 88 = .ok (.getfield 117, 3) := by decide +kernel
theorem dX4_count_91 : decode cX4_count 91 = .ok (.ireturn, 1) := by decide +kernel
theorem dX4_count_92 : decode cX4_count 92 = .ok (.aload_n 0, 1) := by decide +kernel
theorem dX4_count_93 : decode cX4_count 93 = .ok (.getfield 10, 3) := by decide +kernel
theorem dX4_count_96 : decode cX4_count 96 = .ok (.getfield 120, 3) := by decide +kernel
theorem dX4_count_99 : decode cX4_count 99 = .ok (.ireturn, 1) := by decide +kernel
theorem dX4_count_100 : decode cX4_count 100 = .ok (.aload_n 0, 1) := by decide +kernel
theorem dX4_count_101 : decode cX4_count 101 = .ok (.getfield 10, 3) := by decide +kernel
theorem dX4_count_104 : decode cX4_count 104 = .ok (.getfield 143, 3) := by decide +kernel
theorem dX4_count_107 : decode cX4_count 107 = .ok (.ireturn, 1) := by decide +kernel
theorem dX4_count_108 : decode cX4_count 108 = .ok (.aload_n 0, 1) := by decide +kernel
theorem dX4_count_109 : decode cX4_count 109 = .ok (.getfield 10, 3) := by decide +kernel
theorem dX4_count_112 : decode cX4_count 112 = .ok (.invokevirtual 146, 3) := by decide +kernel
theorem dX4_count_115 : decode cX4_count 115 = .ok (.ireturn, 1) := by decide +kernel
theorem dX4_count_116 : decode cX4_count 116 = .ok (.aload_n 0, 1) := by decide +kernel
theorem dX4_count_117 : decode cX4_count 117 = .ok (.getfield 10, 3) := by decide +kernel
theorem dX4_count_120 : decode cX4_count 120 = .ok (.getfield 149, 3) := by decide +kernel
theorem dX4_count_123 : decode cX4_count 123 = .ok (.ireturn, 1) := by decide +kernel
theorem dX4_count_124 : decode cX4_count 124 = .ok (.iconst (-1), 1) := by decide +kernel
theorem dX4_count_125 : decode cX4_count 125 = .ok (.ireturn, 1) := by decide +kernel
theorem dX4_does_0 : decode cX4_does 0 = .ok (.aload_n 0, 1) := by decide +kernel
theorem dX4_does_1 : decode cX4_does 1 = .ok (.getfield 10, 3) := by decide +kernel
theorem dX4_does_4 : decode cX4_does 4 = .ok (.iload_n 1, 1) := by decide +kernel
theorem dX4_does_5 : decode cX4_does 5 = .ok (.invokevirtual 53, 3) := by decide +kernel
theorem dX4_does_8 : decode cX4_does 8 = .ok (.ifCond .eq 22, 3) := by decide +kernel
theorem dX4_does_11 : decode cX4_does 11 = .ok (.iload_n 2, 1) := by decide +kernel
theorem dX4_does_12 : decode cX4_does 12 = .ok (.iconst 0, 1) := by decide +kernel
theorem dX4_does_13 : decode cX4_does 13 = .ok (.iconst 5, 1) := by decide +kernel
theorem dX4_does_14 : decode cX4_does 14 = .ok (.invokestatic 41, 3) := by decide +kernel
theorem dX4_does_17 : decode cX4_does 17 = .ok (.ifCond .eq 13, 3) := by decide +kernel
theorem dX4_does_20 : decode cX4_does 20 = .ok (.iload_n 3, 1) := by decide +kernel
theorem dX4_does_21 : decode cX4_does 21 = .ok (.iconst 1, 1) := by decide +kernel
theorem dX4_does_22 : decode cX4_does 22 = .ok (.bipush 9, 2) := by decide +kernel
theorem dX4_does_24 : decode cX4_does 24 = .ok (.invokestatic 41, 3) := by decide +kernel
theorem dX4_does_27 : decode cX4_does 27 = .ok (.ifCond .ne 5, 3) := by decide +kernel
theorem dX4_does_30 : decode cX4_does 30 = .ok (.iconst (-1), 1) := by decide +kernel
theorem dX4_does_31 : decode cX4_does 31 = .ok (.ireturn, 1) := by decide +kernel
theorem dX4_does_32 : decode cX4_does 32 = .ok (.aload_n 0, 1) := by decide +kernel
theorem dX4_does_33 : decode cX4_does 33 = .ok (.getfield 10, 3) := by decide +kernel
theorem dX4_does_36 : decode cX4_does 36 = .ok (.getfield 137, 3) := by decide +kernel
theorem dX4_does_39 : decode cX4_does 39 = .ok (.bipush 10, 2) := by decide +kernel
theorem dX4_does_41 : decode cX4_does 41 = .ok (.if_icmp .lt 6, 3) := by decide +kernel
theorem dX4_does_44 : decode cX4_does 44 = .ok (.bipush (-3), 2) := by decide +kernel
theorem dX4_does_46 : decode cX4_does 46 = .ok (.ireturn, 1) := by decide +kernel
theorem dX4_does_47 : decode cX4_does 47 = .ok (.aload_n 0, 1) := by decide +kernel
theorem dX4_does_48 : decode cX4_does 48 = .ok (.getfield 10, 3) := by decide +kernel
theorem dX4_does_51 : decode cX4_does 51 = .ok (.invokevirtual 152, 3) := by decide +kernel
theorem dX4_does_54 : decode cX4_does 54 = .ok (.aload_n 0, 1) := by decide +kernel
theorem dX4_does_55 : decode cX4_does 55 = .ok (.getfield 10, 3) := by decide +kernel
theorem dX4_does_58 : decode cX4_does 58 = .ok (.iload_n 1, 1) := by decide +kernel
theorem dX4_does_59 : decode cX4_does 59 = .ok (.iload_n 2, 1) := by decide +kernel
theorem dX4_does_60 : decode cX4_does 60 = .ok (.iload_n 3, 1) := by decide +kernel
theorem dX4_does_61 : decode cX4_does 61 = .ok (.invokevirtual 155, 3) := by decide +kernel
theorem dX4_does_64 : decode cX4_does 64 = .ok (.ireturn, 1) := by decide +kernel
theorem dX4_mend_0 : decode cX4_mend 0 = .ok (.aload_n 0, 1) := by decide +kernel
theorem dX4_mend_1 : decode cX4_mend 1 = .ok (.getfield 10, 3) := by decide +kernel
theorem dX4_mend_4 : decode cX4_mend 4 = .ok (.iload_n 1, 1) := by decide +kernel
theorem dX4_mend_5 : decode cX4_mend 5 = .ok (.invokevirtual 87, 3) := by decide +kernel
theorem dX4_mend_8 : decode cX4_mend 8 = .ok (.ifCond .ne 5, 3) := by decide +kernel
theorem dX4_mend_11 : decode cX4_mend 11 = .ok (.iconst (-1), 1) := by decide +kernel
theorem dX4_mend_12 : decode cX4_mend 12 = .ok (.ireturn, 1) := by decide +kernel
theorem dX4_mend_13 : decode cX4_mend 13 = .ok (.aload_n 0, 1) := by decide +kernel
theorem dX4_mend_14 : decode cX4_mend 14 = .ok (.getfield 10, 3) := by decide +kernel
theorem dX4_mend_17 : decode cX4_mend 17 = .ok (.iload_n 1, 1) := by decide +kernel
theorem dX4_mend_18 : decode cX4_mend 18 = .ok (.invokevirtual 102, 3) := by decide +kernel
theorem dX4_mend_21 : decode cX4_mend 21 = .ok (.ifCond .eq 6, 3) := by decide +kernel
theorem dX4_mend_24 : decode cX4_mend 24 = .ok (.bipush (-2), 2) := by decide +kernel
theorem dX4_mend_26 : decode cX4_mend 26 = .ok (.ireturn, 1) := by decide +kernel
theorem dX4_mend_27 : decode cX4_mend 27 = .ok (.aload_n 0, 1) := by decide +kernel
theorem dX4_mend_28 : decode cX4_mend 28 = .ok (.getfield 10, 3) := by decide +kernel
theorem dX4_mend_31 : decode cX4_mend 31 = .ok (.invokevirtual 152, 3) := by decide +kernel
theorem dX4_mend_34 : decode cX4_mend 34 = .ok (.aload_n 0, 1) := by decide +kernel
theorem dX4_mend_35 : decode cX4_mend 35 = .ok (.getfield 10, 3) := by decide +kernel
theorem dX4_mend_38 : decode cX4_mend 38 = .ok (.dup, 1) := by decide +kernel
theorem dX4_mend_39 : decode cX4_mend 39 = .ok (.getfield 143, 3) := by decide +kernel
theorem dX4_mend_42 : decode cX4_mend 42 = .ok (.iconst 1, 1) := by decide +kernel
theorem dX4_mend_43 : decode cX4_mend 43 = .ok (.iload_n 1, 1) := by decide +kernel
theorem dX4_mend_44 : decode cX4_mend 44 = .ok (.ishl, 1) := by decide +kernel
theorem dX4_mend_45 : decode cX4_mend 45 = .ok (.ior, 1) := by decide +kernel
theorem dX4_mend_46 : decode cX4_mend 46 = .ok (.putfield 143, 3) := by decide +kernel
theorem dX4_mend_49 : decode cX4_mend 49 = .ok (.aload_n 0, 1) := by decide +kernel
theorem dX4_mend_50 : decode cX4_mend 50 = .ok (.getfield 10, 3) := by decide +kernel
theorem dX4_mend_53 : decode cX4_mend 53 = .ok (.iload_n 1, 1) := by decide +kernel
theorem dX4_mend_54 : decode cX4_mend 54 = .ok (.invokevirtual 105, 3) := by decide +kernel
theorem dX4_mend_57 : decode cX4_mend 57 = .ok (.ireturn, 1) := by decide +kernel
theorem dX4_days_0 : decode cX4_days 0 = .ok (.aload_n 0, 1) := by decide +kernel
theorem dX4_days_1 : decode cX4_days 1 = .ok (.iload_n 1, 1) := by decide +kernel
theorem dX4_days_2 : decode cX4_days 2 = .ok (.invokevirtual 158, 3) := by decide +kernel
theorem dX4_days_5 : decode cX4_days 5 = .ok (.istore_n 2, 1) := by decide +kernel
theorem dX4_days_6 : decode cX4_days 6 = .ok (.iload_n 2, 1) := by decide +kernel
theorem dX4_days_7 : decode cX4_days 7 = .ok (.ifCond .eq 5, 3) := by decide +kernel
theorem dX4_days_10 : decode cX4_days 10 = .ok (.iload_n 2, 1) := by decide +kernel
theorem dX4_days_11 : decode cX4_days 11 = .ok (.ireturn, 1) := by decide +kernel
theorem dX4_days_12 : decode cX4_days 12 = .ok (.iconst 0, 1) := by decide +kernel
theorem dX4_days_13 : decode cX4_days 13 = .ok (.istore_n 3, 1) := by decide +kernel
theorem dX4_days_14 : decode cX4_days 14 = .ok (.iload_n 3, 1) := by decide +kernel
theorem dX4_days_15 : decode cX4_days 15 = .ok (.iload_n 1, 1) := by decide +kernel
theorem dX4_days_16 : decode cX4_days 16 = .ok (.if_icmp .ge 29, 3) := by decide +kernel
theorem dX4_days_19 : decode cX4_days 19 = .ok (.aload_n 0, 1) := by decide +kernel
theorem dX4_days_20 : decode cX4_days 20 = .ok (.getfield 10, 3) := by decide +kernel
theorem dX4_days_23 : decode cX4_days 23 = .ok (.invokevirtual 152, 3) := by decide +kernel
theorem dX4_days_26 : decode cX4_days 26 = .ok (.aload_n 0, 1) := by decide +kernel
theorem dX4_days_27 : decode cX4_days 27 = .ok (.getfield 10, 3) := by decide +kernel
theorem dX4_days_30 : decode cX4_days 30 = .ok (.dup, 1) := by decide +kernel
theorem dX4_days_31 : decode cX4_days 31 = .ok (.getfield 140, 3) := by decide +kernel
theorem dX4_days_34 : decode cX4_days 34 = .ok (.iconst 1, 1) := by decide +kernel
theorem dX4_days_35 : decode cX4_days 35 = .ok (.iadd, 1) := by decide +kernel
theorem dX4_days_36 : decode cX4_days 36 = .ok (.putfield 140, 3) := by decide +kernel
theorem dX4_days_39 : decode cX4_days 39 = .ok (.iinc 3 1, 3) := by decide +kernel
theorem dX4_days_42 : decode cX4_days 42 = .ok (.goto (-28), 3) := by decide +kernel
theorem dX4_days_45 : decode cX4_days 45 = .ok (.aload_n 0, 1) := by decide +kernel
theorem dX4_days_46 : decode cX4_days 46 = .ok (.getfield 10, 3) := by decide +kernel
theorem dX4_days_49 : decode cX4_days 49 = .ok (.invokevirtual 146, 3) := by decide +kernel
theorem dX4_days_52 : decode cX4_days 52 = .ok (.ireturn, 1) := by decide +kernel
theorem dX4_drift_0 : decode cX4_drift 0 = .ok (.aload_n 0, 1) := by decide +kernel
theorem dX4_drift_1 : decode cX4_drift 1 = .ok (.iload_n 1, 1) := by decide +kernel
theorem dX4_drift_2 : decode cX4_drift 2 = .ok (.invokevirtual 158, 3) := by decide +kernel
theorem dX4_drift_5 : decode cX4_drift 5 = .ok (.istore_n 2, 1) := by decide +kernel
theorem dX4_drift_6 : decode cX4_drift 6 = .ok (.iload_n 2, 1) := by decide +kernel
theorem dX4_drift_7 : decode cX4_drift 7 = .ok (.ifCond .eq 5, 3) := by decide +kernel
theorem dX4_drift_10 : decode cX4_drift 10 = .ok (.iload_n 2, 1) := by decide +kernel
theorem dX4_drift_11 : decode cX4_drift 11 = .ok (.ireturn, 1) := by decide +kernel
theorem dX4_drift_12 : decode cX4_drift 12 = .ok (.aload_n 0, 1) := by decide +kernel
theorem dX4_drift_13 : decode cX4_drift 13 = .ok (.getfield 10, 3) := by decide +kernel
theorem dX4_drift_16 : decode cX4_drift 16 = .ok (.getfield 137, 3) := by decide +kernel
theorem dX4_drift_19 : decode cX4_drift 19 = .ok (.istore_n 3, 1) := by decide +kernel
theorem dX4_drift_20 : decode cX4_drift 20 = .ok (.iconst 0, 1) := by decide +kernel
theorem dX4_drift_21 : decode cX4_drift 21 = .ok (.istore 4, 2) := by decide +kernel
theorem dX4_drift_23 : decode cX4_drift 23 = .ok (.iload 4, 2) := by decide +kernel
theorem dX4_drift_25 : decode cX4_drift 25 = .ok (.iload_n 1, 1) := by decide +kernel
theorem dX4_drift_26 : decode cX4_drift 26 = .ok (.if_icmp .ge 16, 3) := by decide +kernel
theorem dX4_drift_29 : decode cX4_drift 29 = .ok (.aload_n 0, 1) := by decide +kernel
theorem dX4_drift_30 : decode cX4_drift 30 = .ok (.getfield 10, 3) := by decide +kernel
theorem dX4_drift_33 : decode cX4_drift 33 = .ok (.invokevirtual 161, 3) := by decide +kernel
theorem dX4_drift_36 : decode cX4_drift 36 = .ok (.iinc 4 1, 3) := by decide +kernel
theorem dX4_drift_39 : decode cX4_drift 39 = .ok (.goto (-16), 3) := by decide +kernel
theorem dX4_drift_42 : decode cX4_drift 42 = .ok (.aload_n 0, 1) := by decide +kernel
theorem dX4_drift_43 : decode cX4_drift 43 = .ok (.getfield 10, 3) := by decide +kernel
theorem dX4_drift_46 : decode cX4_drift 46 = .ok (.getfield 137, 3) := by decide +kernel
theorem dX4_drift_49 : decode cX4_drift 49 = .ok (.iload_n 3, 1) := by decide +kernel
theorem dX4_drift_50 : decode cX4_drift 50 = .ok (.isub, 1) := by decide +kernel
theorem dX4_drift_51 : decode cX4_drift 51 = .ok (.ireturn, 1) := by decide +kernel
theorem dX4_undo_0 : decode cX4_undo 0 = .ok (.aload_n 0, 1) := by decide +kernel
theorem dX4_undo_1 : decode cX4_undo 1 = .ok (.getfield 10, 3) := by decide +kernel
theorem dX4_undo_4 : decode cX4_undo 4 = .ok (.getfield 149, 3) := by decide +kernel
theorem dX4_undo_7 : decode cX4_undo 7 = .ok (.iconst 1, 1) := by decide +kernel
theorem dX4_undo_8 : decode cX4_undo 8 = .ok (.if_icmp .ge 6, 3) := by decide +kernel
theorem dX4_undo_11 : decode cX4_undo 11 = .ok (.bipush (-4), 2) := by decide +kernel
theorem dX4_undo_13 : decode cX4_undo 13 = .ok (.ireturn, 1) := by decide +kernel
theorem dX4_undo_14 : decode cX4_undo 14 = .ok (.aload_n 0, 1) := by decide +kernel
theorem dX4_undo_15 : decode cX4_undo 15 = .ok (.getfield 10, 3) := by decide +kernel
theorem dX4_undo_18 : decode cX4_undo 18 = .ok (.invokevirtual 164, 3) := by decide +kernel
theorem dX4_undo_21 : decode cX4_undo 21 = .ok (.aload_n 0, 1) := by decide +kernel
theorem dX4_undo_22 : decode cX4_undo 22 = .ok (.getfield 10, 3) := by decide +kernel
theorem dX4_undo_25 : decode cX4_undo 25 = .ok (.getfield 149, 3) := by decide +kernel
theorem dX4_undo_28 : decode cX4_undo 28 = .ok (.ireturn, 1) := by decide +kernel
theorem dX4_seed_0 : decode cX4_seed 0 = .ok (.iload_n 1, 1) := by decide +kernel
theorem dX4_seed_1 : decode cX4_seed 1 = .ok (.ifCond .ge 5, 3) := by decide +kernel
theorem dX4_seed_4 : decode cX4_seed 4 = .ok (.iconst (-1), 1) := by decide +kernel
theorem dX4_seed_5 : decode cX4_seed 5 = .ok (.ireturn, 1) := by decide +kernel
theorem dX4_seed_6 : decode cX4_seed 6 = .ok (.aload_n 0, 1) := by decide +kernel
theorem dX4_seed_7 : decode cX4_seed 7 = .ok (.getfield 10, 3) := by decide +kernel
theorem dX4_seed_10 : decode cX4_seed 10 = .ok (.getfield 167, 3) := by decide +kernel
theorem dX4_seed_13 : decode cX4_seed 13 = .ok (.istore_n 2, 1) := by decide +kernel
theorem dX4_seed_14 : decode cX4_seed 14 = .ok (.aload_n 0, 1) := by decide +kernel
theorem dX4_seed_15 : decode cX4_seed 15 = .ok (.getfield 10, 3) := by decide +kernel
theorem dX4_seed_18 : decode cX4_seed 18 = .ok (.iload_n 1, 1) := by decide +kernel
theorem dX4_seed_19 : decode cX4_seed 19 = .ok (.putfield 167, 3) := by decide +kernel
theorem dX4_seed_22 : decode cX4_seed 22 = .ok (.iload_n 2, 1) := by decide +kernel
theorem dX4_seed_23 : decode cX4_seed 23 = .ok (.ireturn, 1) := by decide +kernel
theorem dX4_ahead_0 : decode cX4_ahead 0 = .ok (.aload_n 0, 1) := by decide +kernel
theorem dX4_ahead_1 : decode cX4_ahead 1 = .ok (.getfield 10, 3) := by decide +kernel
theorem dX4_ahead_4 : decode cX4_ahead 4 = .ok (.iload_n 1, 1) := by decide +kernel
theorem dX4_ahead_5 : decode cX4_ahead 5 = .ok (.invokevirtual 53, 3) := by decide +kernel
theorem dX4_ahead_8 : decode cX4_ahead 8 = .ok (.ifCond .eq 20, 3) := by decide +kernel
theorem dX4_ahead_11 : decode cX4_ahead 11 = .ok (.iload_n 2, 1) := by decide +kernel
theorem dX4_ahead_12 : decode cX4_ahead 12 = .ok (.invokestatic 57, 3) := by decide +kernel
theorem dX4_ahead_15 : decode cX4_ahead 15 = .ok (.ifCond .eq 13, 3) := by decide +kernel
theorem dX4_ahead_18 : decode cX4_ahead 18 = .ok (.iload_n 3, 1) := by decide +kernel
theorem dX4_ahead_19 : decode cX4_ahead 19 = .ok (.iconst 0, 1) := by decide +kernel
theorem dX4_ahead_20 : decode cX4_ahead 20 = .ok (.bipush 99, 2) := by decide +kernel
theorem dX4_ahead_22 : decode cX4_ahead 22 = .ok (.invokestatic 41, 3) := by decide +kernel
theorem dX4_ahead_25 : decode cX4_ahead 25 = .ok (.ifCond .ne 5, 3) := by decide +kernel
theorem dX4_ahead_28 : decode cX4_ahead 28 = .ok (.iconst (-1), 1) := by decide +kernel
theorem dX4_ahead_29 : decode cX4_ahead 29 = .ok (.ireturn, 1) := by decide +kernel
theorem dX4_ahead_30 : decode cX4_ahead 30 = .ok (.aload_n 0, 1) := by decide +kernel
theorem dX4_ahead_31 : decode cX4_ahead 31 = .ok (.getfield 10, 3) := by decide +kernel
theorem dX4_ahead_34 : decode cX4_ahead 34 = .ok (.iload_n 1, 1) := by decide +kernel
theorem dX4_ahead_35 : decode cX4_ahead 35 = .ok (.iload_n 2, 1) := by decide +kernel
theorem dX4_ahead_36 : decode cX4_ahead 36 = .ok (.iload_n 3, 1) := by decide +kernel
theorem dX4_ahead_37 : decode cX4_ahead 37 = .ok (.invokevirtual 77, 3) := by decide +kernel
theorem dX4_ahead_40 : decode cX4_ahead 40 = .ok (.ireturn, 1) := by decide +kernel
theorem dX4_showsAhead_0 : decode cX4_showsAhead 0 = .ok (.aload_n 0, 1) := by decide +kernel
theorem dX4_showsAhead_1 : decode cX4_showsAhead 1 = .ok (.getfield 10, 3) := by decide +kernel
theorem dX4_showsAhead_4 : decode cX4_showsAhead 4 = .ok (.iload_n 1, 1) := by decide +kernel
theorem dX4_showsAhead_5 : decode cX4_showsAhead 5 = .ok (.invokevirtual 53, 3) := by decide +kernel
theorem dX4_showsAhead_8 : decode cX4_showsAhead 8 = .ok (.ifCond .eq 24, 3) := by decide +kernel
theorem dX4_showsAhead_11 : decode cX4_showsAhead 11 = .ok (.aload_n 0, 1) := by decide +kernel
theorem dX4_showsAhead_12 : decode cX4_showsAhead 12 = .ok (.getfield 10, 3) := by decide +kernel
theorem dX4_showsAhead_15 : decode cX4_showsAhead 15 = .ok (.iload_n 2, 1) := by decide +kernel
theorem dX4_showsAhead_16 : decode cX4_showsAhead 16 = .ok (.invokevirtual 71, 3) := by decide +kernel
theorem dX4_showsAhead_19 : decode cX4_showsAhead 19 = .ok (.ifCond .eq 13, 3) := by decide +kernel
theorem dX4_showsAhead_22 : decode cX4_showsAhead 22 = .ok (.iload_n 3, 1) := by decide +kernel
theorem dX4_showsAhead_23 : decode cX4_showsAhead 23 = .ok (.iconst 0, 1) := by decide +kernel
theorem dX4_showsAhead_24 : decode cX4_showsAhead 24 = .ok (.bipush 99, 2) := by decide +kernel
theorem dX4_showsAhead_26 : decode cX4_showsAhead 26 = .ok (.invokestatic 41, 3) := by decide +kernel
theorem dX4_showsAhead_29 : decode cX4_showsAhead 29 = .ok (.ifCond .ne 5, 3) := by decide +kernel
theorem dX4_showsAhead_32 : decode cX4_showsAhead 32 = .ok (.iconst (-1), 1) := by decide +kernel
theorem dX4_showsAhead_33 : decode cX4_showsAhead 33 = .ok (.ireturn, 1) := by decide +kernel
theorem dX4_showsAhead_34 : decode cX4_showsAhead 34 = .ok (.aload_n 0, 1) := by decide +kernel
theorem dX4_showsAhead_35 : decode cX4_showsAhead 35 = .ok (.getfield 10, 3) := by decide +kernel
theorem dX4_showsAhead_38 : decode cX4_showsAhead 38 = .ok (.iload_n 1, 1) := by decide +kernel
theorem dX4_showsAhead_39 : decode cX4_showsAhead 39 = .ok (.iload_n 2, 1) := by decide +kernel
theorem dX4_showsAhead_40 : decode cX4_showsAhead 40 = .ok (.iload_n 3, 1) := by decide +kernel
theorem dX4_showsAhead_41 : decode cX4_showsAhead 41 = .ok (.invokevirtual 111, 3) := by decide +kernel
theorem dX4_showsAhead_44 : decode cX4_showsAhead 44 = .ok (.ireturn, 1) := by decide +kernel
theorem dX4_again_0 : decode cX4_again 0 = .ok (.aload_n 0, 1) := by decide +kernel
theorem dX4_again_1 : decode cX4_again 1 = .ok (.getfield 10, 3) := by decide +kernel
theorem dX4_again_4 : decode cX4_again 4 = .ok (.iload_n 1, 1) := by decide +kernel
theorem dX4_again_5 : decode cX4_again 5 = .ok (.invokevirtual 53, 3) := by decide +kernel
theorem dX4_again_8 : decode cX4_again 8 = .ok (.ifCond .eq 14, 3) := by decide +kernel
theorem dX4_again_11 : decode cX4_again 11 = .ok (.aload_n 0, 1) := by decide +kernel
theorem dX4_again_12 : decode cX4_again 12 = .ok (.getfield 10, 3) := by decide +kernel
theorem dX4_again_15 : decode cX4_again 15 = .ok (.iload_n 2, 1) := by decide +kernel
theorem dX4_again_16 : decode cX4_again 16 = .ok (.invokevirtual 71, 3) := by decide +kernel
theorem dX4_again_19 : decode cX4_again 19 = .ok (.ifCond .ne 5, 3) := by decide +kernel
theorem dX4_again_22 : decode cX4_again 22 = .ok (.iconst (-1), 1) := by decide +kernel
theorem dX4_again_23 : decode cX4_again 23 = .ok (.ireturn, 1) := by decide +kernel
theorem dX4_again_24 : decode cX4_again 24 = .ok (.aload_n 0, 1) := by decide +kernel
theorem dX4_again_25 : decode cX4_again 25 = .ok (.getfield 31, 3) := by decide +kernel
theorem dX4_again_28 : decode cX4_again 28 = .ok (.iload_n 1, 1) := by decide +kernel
theorem dX4_again_29 : decode cX4_again 29 = .ok (.iload_n 2, 1) := by decide +kernel
theorem dX4_again_30 : decode cX4_again 30 = .ok (.invokevirtual 170, 3) := by decide +kernel
theorem dX4_again_33 : decode cX4_again 33 = .ok (.ireturn, 1) := by decide +kernel
theorem dX4_wedding_0 : decode cX4_wedding 0 = .ok (.aload_n 0, 1) := by decide +kernel
theorem dX4_wedding_1 : decode cX4_wedding 1 = .ok (.getfield 10, 3) := by decide +kernel
theorem dX4_wedding_4 : decode cX4_wedding 4 = .ok (.iload_n 1, 1) := by decide +kernel
theorem dX4_wedding_5 : decode cX4_wedding 5 = .ok (.invokevirtual 53, 3) := by decide +kernel
theorem dX4_wedding_8 : decode cX4_wedding 8 = .ok (.ifCond .eq 32, 3) := by decide +kernel
theorem dX4_wedding_11 : decode cX4_wedding 11 = .ok (.aload_n 0, 1) := by decide +kernel
theorem dX4_wedding_12 : decode cX4_wedding 12 = .ok (.getfield 10, 3) := by decide +kernel
theorem dX4_wedding_15 : decode cX4_wedding 15 = .ok (.iload_n 2, 1) := by decide +kernel
theorem dX4_wedding_16 : decode cX4_wedding 16 = .ok (.invokevirtual 71, 3) := by decide +kernel
theorem dX4_wedding_19 : decode cX4_wedding 19 = .ok (.ifCond .eq 21, 3) := by decide +kernel
theorem dX4_wedding_22 : decode cX4_wedding 22 = .ok (.iload_n 3, 1) := by decide +kernel
theorem dX4_wedding_23 : decode cX4_wedding 23 = .ok (.iconst 0, 1) := by decide +kernel
theorem dX4_wedding_24 : decode cX4_wedding 24 = .ok (.bipush 99, 2) := by decide +kernel
theorem dX4_wedding_26 : decode cX4_wedding 26 = .ok (.invokestatic 41, 3) := by decide +kernel
theorem dX4_wedding_29 : decode cX4_wedding 29 = .ok (.ifCond .eq 11, 3) := by decide +kernel
theorem dX4_wedding_32 : decode cX4_wedding 32 = .ok (.iload 4, 2) := by decide +kernel
theorem dX4_wedding_34 : decode cX4_wedding 34 = .ok (.invokestatic 108, 3) := by decide +kernel
theorem dX4_wedding_37 : decode cX4_wedding 37 = .ok (.ifCond .ne 5, 3) := by decide +kernel
theorem dX4_wedding_40 : decode cX4_wedding 40 = .ok (.iconst (-1), 1) := by decide +kernel
theorem dX4_wedding_41 : decode cX4_wedding 41 = .ok (.ireturn, 1) := by decide +kernel
theorem dX4_wedding_42 : decode cX4_wedding 42 = .ok (.aload_n 0, 1) := by decide +kernel
theorem dX4_wedding_43 : decode cX4_wedding 43 = .ok (.getfield 31, 3) := by decide +kernel
theorem dX4_wedding_46 : decode cX4_wedding 46 = .ok (.iload_n 1, 1) := by decide +kernel
theorem dX4_wedding_47 : decode cX4_wedding 47 = .ok (.iload_n 2, 1) := by decide +kernel
theorem dX4_wedding_48 : decode cX4_wedding 48 = .ok (.iload_n 3, 1) := by decide +kernel
theorem dX4_wedding_49 : decode cX4_wedding 49 = .ok (.invokevirtual 173, 3) := by decide +kernel
theorem dX4_wedding_52 : decode cX4_wedding 52 = .ok (.istore 5, 2) := by decide +kernel
theorem dX4_wedding_54 : decode cX4_wedding 54 = .ok (.iload 5, 2) := by decide +kernel
theorem dX4_wedding_56 : decode cX4_wedding 56 = .ok (.ifCond .ge 6, 3) := by decide +kernel
theorem dX4_wedding_59 : decode cX4_wedding 59 = .ok (.bipush (-4), 2) := by decide +kernel
theorem dX4_wedding_61 : decode cX4_wedding 61 = .ok (.ireturn, 1) := by decide +kernel
theorem dX4_wedding_62 : decode cX4_wedding 62 = .ok (.iload 4, 2) := by decide +kernel
theorem dX4_wedding_64 : decode cX4_wedding 64 = .ok (.ifCond .ne 11, 3) := by decide +kernel
theorem dX4_wedding_67 : decode cX4_wedding 67 = .ok (.iload 5, 2) := by decide +kernel
theorem dX4_wedding_69 : decode cX4_wedding 69 = .ok (.invokestatic 176, 3) := by decide +kernel
theorem dX4_wedding_72 : decode cX4_wedding 72 = .ok (.goto 5, 3) := by decide +kernel
theorem dX4_wedding_75 : decode cX4_wedding 75 = .ok (.iload 5, 2) := by decide +kernel
theorem dX4_wedding_77 : decode cX4_wedding 77 = .ok (.ireturn, 1) := by decide +kernel
theorem dX4_bestCut_0 : decode cX4_bestCut 0 = .ok (.aload_n 0, 1) := by decide +kernel
theorem dX4_bestCut_1 : decode cX4_bestCut 1 = .ok (.getfield 10, 3) := by decide +kernel
theorem dX4_bestCut_4 : decode cX4_bestCut 4 = .ok (.iload_n 1, 1) := by decide +kernel
theorem dX4_bestCut_5 : decode cX4_bestCut 5 = .ok (.invokevirtual 53, 3) := by decide +kernel
theorem dX4_bestCut_8 : decode cX4_bestCut 8 = .ok (.ifCond .eq 28, 3) := by decide +kernel
theorem dX4_bestCut_11 : decode cX4_bestCut 11 = .ok (.iload_n 2, 1) := by decide +kernel
theorem dX4_bestCut_12 : decode cX4_bestCut 12 = .ok (.invokestatic 57, 3) := by decide +kernel
theorem dX4_bestCut_15 : decode cX4_bestCut 15 = .ok (.ifCond .eq 21, 3) := by decide +kernel
theorem dX4_bestCut_18 : decode cX4_bestCut 18 = .ok (.iload_n 3, 1) := by decide +kernel
theorem dX4_bestCut_19 : decode cX4_bestCut 19 = .ok (.iconst 0, 1) := by decide +kernel
theorem dX4_bestCut_20 : decode cX4_bestCut 20 = .ok (.bipush 40, 2) := by decide +kernel
theorem dX4_bestCut_22 : decode cX4_bestCut 22 = .ok (.invokestatic 41, 3) := by decide +kernel
theorem dX4_bestCut_25 : decode cX4_bestCut 25 = .ok (.ifCond .eq 11, 3) := by decide +kernel
theorem dX4_bestCut_28 : decode cX4_bestCut 28 = .ok (.iload 4, 2) := by decide +kernel
theorem dX4_bestCut_30 : decode cX4_bestCut 30 = .ok (.invokestatic 108, 3) := by decide +kernel
theorem dX4_bestCut_33 : decode cX4_bestCut 33 = .ok (.ifCond .ne 5, 3) := by decide +kernel
theorem dX4_bestCut_36 : decode cX4_bestCut 36 = .ok (.iconst (-1), 1) := by decide +kernel
theorem dX4_bestCut_37 : decode cX4_bestCut 37 = .ok (.ireturn, 1) := by decide +kernel
theorem dX4_bestCut_38 : decode cX4_bestCut 38 = .ok (.aload_n 0, 1) := by decide +kernel
theorem dX4_bestCut_39 : decode cX4_bestCut 39 = .ok (.getfield 31, 3) := by decide +kernel
theorem dX4_bestCut_42 : decode cX4_bestCut 42 = .ok (.iload_n 1, 1) := by decide +kernel
theorem dX4_bestCut_43 : decode cX4_bestCut 43 = .ok (.iload_n 2, 1) := by decide +kernel
theorem dX4_bestCut_44 : decode cX4_bestCut 44 = .ok (.iload_n 3, 1) := by decide +kernel
theorem dX4_bestCut_45 : decode cX4_bestCut 45 = .ok (.invokevirtual 181, 3) := by decide +kernel
theorem dX4_bestCut_48 : decode cX4_bestCut 48 = .ok (.istore 5, 2) := by decide +kernel
theorem dX4_bestCut_50 : decode cX4_bestCut 50 = .ok (.iload 4, 2) := by decide +kernel
theorem dX4_bestCut_52 : decode cX4_bestCut 52 = .ok (.ifCond .ne 8, 3) := by decide +kernel
theorem dX4_bestCut_55 : decode cX4_bestCut 55 = .ok (.iload 5, 2) := by decide +kernel
theorem dX4_bestCut_57 : decode cX4_bestCut 57 = .ok (.goto 13, 3) := by decide +kernel
theorem dX4_bestCut_60 : decode cX4_bestCut 60 = .ok (.aload_n 0, 1) := by decide +kernel
theorem dX4_bestCut_61 : decode cX4_bestCut 61 = .ok (.getfield 31, 3) := by decide +kernel
theorem dX4_bestCut_64 : decode cX4_bestCut 64 = .ok (.iload 5, 2) := by decide +kernel
theorem dX4_bestCut_66 : decode cX4_bestCut 66 = .ok (.iload_n 3, 1) := by decide +kernel
theorem dX4_bestCut_67 : decode cX4_bestCut 67 = .ok (.invokevirtual 184, 3) := by decide +kernel
theorem dX4_bestCut_70 : decode cX4_bestCut 70 = .ok (.ireturn, 1) := by decide +kernel
theorem dX4_wear_0 : decode cX4_wear 0 = .ok (.iload_n 1, 1) := by decide +kernel
theorem dX4_wear_1 : decode cX4_wear 1 = .ok (.bipush (-4), 2) := by decide +kernel
theorem dX4_wear_3 : decode cX4_wear 3 = .ok (.if_icmp .eq 16, 3) := by decide +kernel
theorem dX4_wear_6 : decode cX4_wear 6 = .ok (.aload_n 0, 1) := by decide +kernel
theorem dX4_wear_7 : decode cX4_wear 7 = .ok (.getfield 10, 3) := by decide +kernel
theorem dX4_wear_10 : decode cX4_wear 10 = .ok (.iload_n 1, 1) := by decide +kernel
theorem dX4_wear_11 : decode cX4_wear 11 = .ok (.invokevirtual 53, 3) := by decide +kernel
theorem dX4_wear_14 : decode cX4_wear 14 = .ok (.ifCond .ne 5, 3) := by decide +kernel
theorem dX4_wear_17 : decode cX4_wear 17 = .ok (.iconst (-1), 1) := by decide +kernel
theorem dX4_wear_18 : decode cX4_wear 18 = .ok (.ireturn, 1) := by decide +kernel
theorem dX4_wear_19 : decode cX4_wear 19 = .ok (.aload_n 0, 1) := by decide +kernel
theorem dX4_wear_20 : decode cX4_wear 20 = .ok (.getfield 31, 3) := by decide +kernel
theorem dX4_wear_23 : decode cX4_wear 23 = .ok (.invokevirtual 187, 3) := by decide +kernel
theorem dX4_wear_26 : decode cX4_wear 26 = .ok (.aload_n 0, 1) := by decide +kernel
theorem dX4_wear_27 : decode cX4_wear 27 = .ok (.getfield 31, 3) := by decide +kernel
theorem dX4_wear_30 : decode cX4_wear 30 = .ok (.invokevirtual 190, 3) := by decide +kernel
theorem dX4_wear_33 : decode cX4_wear 33 = .ok (.iload_n 1, 1) := by decide +kernel
theorem dX4_wear_34 : decode cX4_wear 34 = .ok (.bipush (-4), 2) := by decide +kernel
theorem dX4_wear_36 : decode cX4_wear 36 = .ok (.if_icmp .ne 13, 3) := by decide +kernel
theorem dX4_wear_39 : decode cX4_wear 39 = .ok (.aload_n 0, 1) := by decide +kernel
theorem dX4_wear_40 : decode cX4_wear 40 = .ok (.getfield 31, 3) := by decide +kernel
theorem dX4_wear_43 : decode cX4_wear 43 = .ok (.invokevirtual 193, 3) := by decide +kernel
theorem dX4_wear_46 : decode cX4_wear 46 = .ok (.goto 11, 3) := by decide +kernel
theorem dX4_wear_49 : decode cX4_wear 49 = .ok (.aload_n 0, 1) := by decide +kernel
theorem dX4_wear_50 : decode cX4_wear 50 = .ok (.getfield 31, 3) := by decide +kernel
theorem dX4_wear_53 : decode cX4_wear 53 = .ok (.iload_n 1, 1) := by decide +kernel
theorem dX4_wear_54 : decode cX4_wear 54 = .ok (.invokevirtual 196, 3) := by decide +kernel
theorem dX4_wear_57 : decode cX4_wear 57 = .ok (.ireturn, 1) := by decide +kernel
theorem dX4_luck_0 : decode cX4_luck 0 = .ok (.aload_n 0, 1) := by decide +kernel
theorem dX4_luck_1 : decode cX4_luck 1 = .ok (.getfield 10, 3) := by decide +kernel
theorem dX4_luck_4 : decode cX4_luck 4 = .ok (.iload_n 1, 1) := by decide +kernel
theorem dX4_luck_5 : decode cX4_luck 5 = .ok (.invokevirtual 53, 3) := by decide +kernel
theorem dX4_luck_8 : decode cX4_luck 8 = .ok (.ifCond .eq 21, 3) := by decide +kernel
theorem dX4_luck_11 : decode cX4_luck 11 = .ok (.aload_n 0, 1) := by decide +kernel
theorem dX4_luck_12 : decode cX4_luck 12 = .ok (.getfield 10, 3) := by decide +kernel
theorem dX4_luck_15 : decode cX4_luck 15 = .ok (.iload_n 2, 1) := by decide +kernel
theorem dX4_luck_16 : decode cX4_luck 16 = .ok (.invokevirtual 71, 3) := by decide +kernel
theorem dX4_luck_19 : decode cX4_luck 19 = .ok (.ifCond .eq 10, 3) := by decide +kernel
theorem dX4_luck_22 : decode cX4_luck 22 = .ok (.iload_n 3, 1) := by decide +kernel
theorem dX4_luck_23 : decode cX4_luck 23 = .ok (.invokestatic 108, 3) := by decide +kernel
theorem dX4_luck_26 : decode cX4_luck 26 = .ok (.ifCond .ne 5, 3) := by decide +kernel
theorem dX4_luck_29 : decode cX4_luck 29 = .ok (.iconst (-1), 1) := by decide +kernel
theorem dX4_luck_30 : decode cX4_luck 30 = .ok (.ireturn, 1) := by decide +kernel
theorem dX4_luck_31 : decode cX4_luck 31 = .ok (.aload_n 0, 1) := by decide +kernel
theorem dX4_luck_32 : decode cX4_luck 32 = .ok (.getfield 31, 3) := by decide +kernel
theorem dX4_luck_35 : decode cX4_luck 35 = .ok (.iload_n 1, 1) := by decide +kernel
theorem dX4_luck_36 : decode cX4_luck 36 = .ok (.iload_n 2, 1) := by decide +kernel
theorem dX4_luck_37 : decode cX4_luck 37 = .ok (.iload_n 3, 1) := by decide +kernel
theorem dX4_luck_38 : decode cX4_luck 38 = .ok (.ifCond .ne 7, 3) := by decide +kernel
theorem dX4_luck_41 : decode cX4_luck 41 = .ok (.iconst 1, 1) := by decide +kernel
theorem dX4_luck_42 : decode cX4_luck 42 = .ok (.goto 4, 3) := by decide +kernel
theorem dX4_luck_45 : decode cX4_luck 45 = .ok (.iconst 0, 1) := by decide +kernel
theorem dX4_luck_46 : decode cX4_luck 46 = .ok (.invokevirtual 199, 3) := by decide +kernel
theorem dX4_luck_49 : decode cX4_luck 49 = .ok (.ireturn, 1) := by decide +kernel
theorem dX4_warrant_0 : decode cX4_warrant 0 = .ok (.iload_n 1, 1) := by decide +kernel
theorem dX4_warrant_1 : decode cX4_warrant 1 = .ok (.iconst 1, 1) := by decide +kernel
theorem dX4_warrant_2 : decode cX4_warrant 2 = .ok (.bipush 99, 2) := by decide +kernel
theorem dX4_warrant_4 : decode cX4_warrant 4 = .ok (.invokestatic 41, 3) := by decide +kernel
theorem dX4_warrant_7 : decode cX4_warrant 7 = .ok (.ifCond .ne 5, 3) := by decide +kernel
theorem dX4_warrant_10 : decode cX4_warrant 10 = .ok (.iconst (-1), 1) := by decide +kernel
theorem dX4_warrant_11 : decode cX4_warrant 11 = .ok (.ireturn, 1) := by decide +kernel
theorem dX4_warrant_12 : decode cX4_warrant 12 = .ok (.aload_n 0, 1) := by decide +kernel
theorem dX4_warrant_13 : decode cX4_warrant 13 = .ok (.getfield 31, 3) := by decide +kernel
theorem dX4_warrant_16 : decode cX4_warrant 16 = .ok (.iload_n 1, 1) := by decide +kernel
theorem dX4_warrant_17 : decode cX4_warrant 17 = .ok (.invokevirtual 203, 3) := by decide +kernel
theorem dX4_warrant_20 : decode cX4_warrant 20 = .ok (.ireturn, 1) := by decide +kernel
theorem dX4_image_0 : decode cX4_image 0 = .ok (.aload_n 0, 1) := by decide +kernel
theorem dX4_image_1 : decode cX4_image 1 = .ok (.getfield 16, 3) := by decide +kernel
theorem dX4_image_4 : decode cX4_image 4 = .ok (.aload_n 0, 1) := by decide +kernel
theorem dX4_image_5 : decode cX4_image 5 = .ok (.getfield 10, 3) := by decide +kernel
theorem dX4_image_8 : decode cX4_image 8 = .ok (.invokevirtual 206, 3) := by decide +kernel
theorem dX4_image_11 : decode cX4_image 11 = .ok (.aload_n 0, 1) := by decide +kernel
theorem dX4_image_12 : decode cX4_image 12 = .ok (.iconst 1, 1) := by decide +kernel
theorem dX4_image_13 : decode cX4_image 13 = .ok (.putfield 209, 3) := by decide +kernel
theorem dX4_image_16 : decode cX4_image 16 = .ok (.iconst 1, 1) := by decide +kernel
theorem dX4_image_17 : decode cX4_image 17 = .ok (.ireturn, 1) := by decide +kernel
theorem dX4_restore_0 : decode cX4_restore 0 = .ok (.aload_n 0, 1) := by decide +kernel
theorem dX4_restore_1 : decode cX4_restore 1 = .ok (.getfield 209, 3) := by decide +kernel
theorem dX4_restore_4 : decode cX4_restore 4 = .ok (.ifCond .ne 6, 3) := by decide +kernel
theorem dX4_restore_7 : decode cX4_restore 7 = .ok (.bipush (-4), 2) := by decide +kernel
theorem dX4_restore_9 : decode cX4_restore 9 = .ok (.ireturn, 1) := by decide +kernel
theorem dX4_restore_10 : decode cX4_restore 10 = .ok (.aload_n 0, 1) := by decide +kernel
theorem dX4_restore_11 : decode cX4_restore 11 = .ok (.getfield 10, 3) := by decide +kernel
theorem dX4_restore_14 : decode cX4_restore 14 = .ok (.aload_n 0, 1) := by decide +kernel
theorem dX4_restore_15 : decode cX4_restore 15 = .ok (.getfield 16, 3) := by decide +kernel
theorem dX4_restore_18 : decode cX4_restore 18 = .ok (.invokevirtual 206, 3) := by decide +kernel
theorem dX4_restore_21 : decode cX4_restore 21 = .ok (.iconst 1, 1) := by decide +kernel
theorem dX4_restore_22 : decode cX4_restore 22 = .ok (.ireturn, 1) := by decide +kernel
theorem dX4_done_0 : decode cX4_done 0 = .ok (.aload_n 0, 1) := by decide +kernel
theorem dX4_done_1 : decode cX4_done 1 = .ok (.getfield 10, 3) := by decide +kernel
theorem dX4_done_4 : decode cX4_done 4 = .ok (.iload_n 1, 1) := by decide +kernel
theorem dX4_done_5 : decode cX4_done 5 = .ok (.invokevirtual 53, 3) := by decide +kernel
theorem dX4_done_8 : decode cX4_done 8 = .ok (.ifCond .eq 25, 3) := by decide +kernel
theorem dX4_done_11 : decode cX4_done 11 = .ok (.iload_n 2, 1) := by decide +kernel
theorem dX4_done_12 : decode cX4_done 12 = .ok (.invokestatic 213, 3) := by decide +kernel
theorem dX4_done_15 : decode cX4_done 15 = .ok (.ifCond .eq 18, 3) := by decide +kernel
theorem dX4_done_18 : decode cX4_done 18 = .ok (.iload_n 3, 1) := by decide +kernel
theorem dX4_done_19 : decode cX4_done 19 = .ok (.invokestatic 216, 3) := by decide +kernel
theorem dX4_done_22 : decode cX4_done 22 = .ok (.ifCond .eq 11, 3) := by decide +kernel
theorem dX4_done_25 : decode cX4_done 25 = .ok (.iload 5, 2) := by decide +kernel
theorem dX4_done_27 : decode cX4_done 27 = .ok (.invokestatic 108, 3) := by decide +kernel
theorem dX4_done_30 : decode cX4_done 30 = .ok (.ifCond .ne 5, 3) := by decide +kernel
theorem dX4_done_33 : decode cX4_done 33 = .ok (.iconst (-1), 1) := by decide +kernel
theorem dX4_done_34 : decode cX4_done 34 = .ok (.ireturn, 1) := by decide +kernel
theorem dX4_done_35 : decode cX4_done 35 = .ok (.aload_n 0, 1) := by decide +kernel
theorem dX4_done_36 : decode cX4_done 36 = .ok (.getfield 37, 3) := by decide +kernel
theorem dX4_done_39 : decode cX4_done 39 = .ok (.iload_n 2, 1) := by decide +kernel
theorem dX4_done_40 : decode cX4_done 40 = .ok (.aaload, 1) := by decide +kernel
theorem dX4_done_41 : decode cX4_done 41 = .ok (.astore 6, 2) := by decide +kernel
theorem dX4_done_43 : decode cX4_done 43 = .ok (.aload 6, 2) := by decide +kernel
theorem dX4_done_45 : decode cX4_done 45 = .ok (.ifnonnull 6, 3) := by decide +kernel
theorem dX4_done_48 : decode cX4_done 48 = .ok (.bipush (-11), 2) := by decide +kernel
theorem dX4_done_50 : decode cX4_done 50 = .ok (.ireturn, 1) := by decide +kernel
theorem dX4_done_51 : decode cX4_done 51 = .ok (.aload 6, 2) := by decide +kernel
theorem dX4_done_53 : decode cX4_done 53 = .ok (.iload_n 3, 1) := by decide +kernel
theorem dX4_done_54 : decode cX4_done 54 = .ok (.iload 4, 2) := by decide +kernel
theorem dX4_done_56 : decode cX4_done 56 = .ok (.iconst 4, 1) := by decide +kernel
theorem dX4_done_57 : decode cX4_done 57 = .ok (.invokevirtual 219, 3) := by decide +kernel
theorem dX4_done_60 : decode cX4_done 60 = .ok (.istore 7, 2) := by decide +kernel
theorem dX4_done_62 : decode cX4_done 62 = .ok (.iload 7, 2) := by decide +kernel
theorem dX4_done_64 : decode cX4_done 64 = .ok (.ifCond .eq 6, 3) := by decide +kernel
theorem dX4_done_67 : decode cX4_done 67 = .ok (.iload 7, 2) := by decide +kernel
theorem dX4_done_69 : decode cX4_done 69 = .ok (.ireturn, 1) := by decide +kernel
theorem dX4_done_70 : decode cX4_done 70 = .ok (.aload_n 0, 1) := by decide +kernel
theorem dX4_done_71 : decode cX4_done 71 = .ok (.getfield 31, 3) := by decide +kernel
theorem dX4_done_74 : decode cX4_done 74 = .ok (.aload_n 0, 1) := by decide +kernel
theorem dX4_done_75 : decode cX4_done 75 = .ok (.getfield 10, 3) := by decide +kernel
theorem dX4_done_78 : decode cX4_done 78 = .ok (.getfield 81, 3) := by decide +kernel
theorem dX4_done_81 : decode cX4_done 81 = .ok (.iload_n 1, 1) := by decide +kernel
theorem dX4_done_82 : decode cX4_done 82 = .ok (.iaload, 1) := by decide +kernel
theorem dX4_done_83 : decode cX4_done 83 = .ok (.aload 6, 2) := by decide +kernel
theorem dX4_done_85 : decode cX4_done 85 = .ok (.iload 4, 2) := by decide +kernel
theorem dX4_done_87 : decode cX4_done 87 = .ok (.invokevirtual 222, 3) := by decide +kernel
theorem dX4_done_90 : decode cX4_done 90 = .ok (.iload 5, 2) := by decide +kernel
theorem dX4_done_92 : decode cX4_done 92 = .ok (.ifCond .ne 13, 3) := by decide +kernel
theorem dX4_done_95 : decode cX4_done 95 = .ok (.aload_n 0, 1) := by decide +kernel
theorem dX4_done_96 : decode cX4_done 96 = .ok (.getfield 31, 3) := by decide +kernel
theorem dX4_done_99 : decode cX4_done 99 = .ok (.getfield 226, 3) := by decide +kernel
theorem dX4_done_102 : decode cX4_done 102 = .ok (.goto 10, 3) := by decide +kernel
theorem dX4_done_105 : decode cX4_done 105 = .ok (.aload_n 0, 1) := by decide +kernel
theorem dX4_done_106 : decode cX4_done 106 = .ok (.getfield 31, 3) := by decide +kernel
theorem dX4_done_109 : decode cX4_done 109 = .ok (.getfield 229, 3) := by decide +kernel
theorem dX4_done_112 : decode cX4_done 112 = .ok (.ireturn, 1) := by decide +kernel
theorem dX4_film_0 : decode cX4_film 0 = .ok (.aload_n 0, 1) := by decide +kernel
theorem dX4_film_1 : decode cX4_film 1 = .ok (.getfield 10, 3) := by decide +kernel
theorem dX4_film_4 : decode cX4_film 4 = .ok (.iload_n 1, 1) := by decide +kernel
theorem dX4_film_5 : decode cX4_film 5 = .ok (.invokevirtual 53, 3) := by decide +kernel
theorem dX4_film_8 : decode cX4_film 8 = .ok (.ifCond .eq 36, 3) := by decide +kernel
theorem dX4_film_11 : decode cX4_film 11 = .ok (.iload_n 2, 1) := by decide +kernel
theorem dX4_film_12 : decode cX4_film 12 = .ok (.invokestatic 57, 3) := by decide +kernel
theorem dX4_film_15 : decode cX4_film 15 = .ok (.ifCond .eq 29, 3) := by decide +kernel
theorem dX4_film_18 : decode cX4_film 18 = .ok (.iload_n 3, 1) := by decide +kernel
theorem dX4_film_19 : decode cX4_film 19 = .ok (.iconst 1, 1) := by decide +kernel
theorem dX4_film_20 : decode cX4_film 20 = .ok (.bipush 24, 2) := by decide +kernel
theorem dX4_film_22 : decode cX4_film 22 = .ok (.invokestatic 41, 3) := by decide +kernel
theorem dX4_film_25 : decode cX4_film 25 = .ok (.ifCond .eq 19, 3) := by decide +kernel
theorem dX4_film_28 : decode cX4_film 28 = .ok (.iload 4, 2) := by decide +kernel
theorem dX4_film_30 : decode cX4_film 30 = .ok (.invokestatic 213, 3) := by decide +kernel
theorem dX4_film_33 : decode cX4_film 33 = .ok (.ifCond .eq 11, 3) := by decide +kernel
theorem dX4_film_36 : decode cX4_film 36 = .ok (.iload 5, 2) := by decide +kernel
theorem dX4_film_38 : decode cX4_film 38 = .ok (.invokestatic 216, 3) := by decide +kernel
theorem dX4_film_41 : decode cX4_film 41 = .ok (.ifCond .ne 5, 3) := by decide +kernel
theorem dX4_film_44 : decode cX4_film 44 = .ok (.iconst (-1), 1) := by decide +kernel
theorem dX4_film_45 : decode cX4_film 45 = .ok (.ireturn, 1) := by decide +kernel
theorem dX4_film_46 : decode cX4_film 46 = .ok (.aload_n 0, 1) := by decide +kernel
theorem dX4_film_47 : decode cX4_film 47 = .ok (.getfield 37, 3) := by decide +kernel
theorem dX4_film_50 : decode cX4_film 50 = .ok (.iload 4, 2) := by decide +kernel
theorem dX4_film_52 : decode cX4_film 52 = .ok (.aaload, 1) := by decide +kernel
theorem dX4_film_53 : decode cX4_film 53 = .ok (.astore 7, 2) := by decide +kernel
theorem dX4_film_55 : decode cX4_film 55 = .ok (.aload 7, 2) := by decide +kernel
theorem dX4_film_57 : decode cX4_film 57 = .ok (.ifnonnull 6, 3) := by decide +kernel
theorem dX4_film_60 : decode cX4_film 60 = .ok (.bipush (-11), 2) := by decide +kernel
theorem dX4_film_62 : decode cX4_film 62 = .ok (.ireturn, 1) := by decide +kernel
theorem dX4_film_63 : decode cX4_film 63 = .ok (.aload 7, 2) := by decide +kernel
theorem dX4_film_65 : decode cX4_film 65 = .ok (.iload 5, 2) := by decide +kernel
theorem dX4_film_67 : decode cX4_film 67 = .ok (.iload 6, 2) := by decide +kernel
theorem dX4_film_69 : decode cX4_film 69 = .ok (.iload_n 3, 1) := by decide +kernel
theorem dX4_film_70 : decode cX4_film 70 = .ok (.invokevirtual 219, 3) := by decide +kernel
theorem dX4_film_73 : decode cX4_film 73 = .ok (.istore 8, 2) := by decide +kernel
theorem dX4_film_75 : decode cX4_film 75 = .ok (.iload 8, 2) := by decide +kernel
theorem dX4_film_77 : decode cX4_film 77 = .ok (.ifCond .eq 6, 3) := by decide +kernel
theorem dX4_film_80 : decode cX4_film 80 = .ok (.iload 8, 2) := by decide +kernel
theorem dX4_film_82 : decode cX4_film 82 = .ok (.ireturn, 1) := by decide +kernel
theorem dX4_film_83 : decode cX4_film 83 = .ok (.iconst 0, 1) := by decide +kernel
theorem dX4_film_84 : decode cX4_film 84 = .ok (.istore 9, 2) := by decide +kernel
theorem dX4_film_86 : decode cX4_film 86 = .ok (.iload 9, 2) := by decide +kernel
theorem dX4_film_88 : decode cX4_film 88 = .ok (.iload_n 3, 1) := by decide +kernel
theorem dX4_film_89 : decode cX4_film 89 = .ok (.if_icmp .ge 33, 3) := by decide +kernel
theorem dX4_film_92 : decode cX4_film 92 = .ok (.aload 7, 2) := by decide +kernel
theorem dX4_film_94 : decode cX4_film 94 = .ok (.iload 6, 2) := by decide +kernel
theorem dX4_film_96 : decode cX4_film 96 = .ok (.iload 9, 2) := by decide +kernel
theorem dX4_film_98 : decode cX4_film 98 = .ok (.iadd, 1) := by decide +kernel
theorem dX4_film_99 : decode cX4_film 99 = .ok (.aload_n 0, 1) := by decide +kernel
theorem dX4_film_100 : decode cX4_film 100 = .ok (.getfield 10, 3) := by decide +kernel
theorem dX4_film_103 : decode cX4_film 103 = .ok (.iload_n 1, 1) := by decide +kernel
theorem dX4_film_104 : decode cX4_film 104 = .ok (.iload_n 2, 1) := by decide +kernel
theorem dX4_film_105 : decode cX4_film 105 = .ok (.iload 9, 2) := by decide +kernel
theorem dX4_film_107 : decode cX4_film 107 = .ok (.iconst 1, 1) := by decide +kernel
theorem dX4_film_108 : decode cX4_film 108 = .ok (.iadd, 1) := by decide +kernel
theorem dX4_film_109 : decode cX4_film 109 = .ok (.invokevirtual 77, 3) := by decide +kernel
theorem dX4_film_112 : decode cX4_film 112 = .ok (.i2l, 1) := by decide +kernel
theorem dX4_film_113 : decode cX4_film 113 = .ok (.invokevirtual 232, 3) := by decide +kernel
theorem dX4_film_116 : decode cX4_film 116 = .ok (.iinc 9 1, 3) := by decide +kernel
theorem dX4_film_119 : decode cX4_film 119 = .ok (.goto (-33), 3) := by decide +kernel
theorem dX4_film_122 : decode cX4_film 122 = .ok (.iload_n 3, 1) := by decide +kernel
theorem dX4_film_123 : decode cX4_film 123 = .ok (.ireturn, 1) := by decide +kernel
theorem dX4_sheet_0 : decode cX4_sheet 0 = .ok (.iload_n 1, 1) := by decide +kernel
theorem dX4_sheet_1 : decode cX4_sheet 1 = .ok (.invokestatic 213, 3) := by decide +kernel
theorem dX4_sheet_4 : decode cX4_sheet 4 = .ok (.ifCond .eq 16, 3) := by decide +kernel
theorem dX4_sheet_7 : decode cX4_sheet 7 = .ok (.iload_n 2, 1) := by decide +kernel
theorem dX4_sheet_8 : decode cX4_sheet 8 = .ok (.invokestatic 216, 3) := by decide +kernel
theorem dX4_sheet_11 : decode cX4_sheet 11 = .ok (.ifCond .eq 9, 3) := by decide +kernel
theorem dX4_sheet_14 : decode cX4_sheet 14 = .ok (.iload_n 3, 1) := by decide +kernel
theorem dX4_sheet_15 : decode cX4_sheet 15 = .ok (.bipush 24, 2) := by decide +kernel
theorem dX4_sheet_17 : decode cX4_sheet 17 = .ok (.if_icmp .le 5, 3) := by decide +kernel
theorem dX4_sheet_20 : decode cX4_sheet 20 = .ok (.iconst (-1), 1) := by decide +kernel
theorem dX4_sheet_21 : decode cX4_sheet 21 = .ok (.ireturn, 1) := by decide +kernel
theorem dX4_sheet_22 : decode cX4_sheet 22 = .ok (.iload_n 3, 1) := by decide +kernel
theorem dX4_sheet_23 : decode cX4_sheet 23 = .ok (.ifCond .ge 6, 3) := by decide +kernel
theorem dX4_sheet_26 : decode cX4_sheet 26 = .ok (.bipush (-14), 2) := by decide +kernel
theorem dX4_sheet_28 : decode cX4_sheet 28 = .ok (.ireturn, 1) := by decide +kernel
theorem dX4_sheet_29 : decode cX4_sheet 29 = .ok (.aload_n 0, 1) := by decide +kernel
theorem dX4_sheet_30 : decode cX4_sheet 30 = .ok (.getfield 37, 3) := by decide +kernel
theorem dX4_sheet_33 : decode cX4_sheet 33 = .ok (.iload_n 1, 1) := by decide +kernel
theorem dX4_sheet_34 : decode cX4_sheet 34 = .ok (.new 35, 3) := by decide +kernel
theorem dX4_sheet_37 : decode cX4_sheet 37 = .ok (.dup, 1) := by decide +kernel
theorem dX4_sheet_38 : decode cX4_sheet 38 = .ok (.iload_n 2, 1) := by decide +kernel
theorem dX4_sheet_39 : decode cX4_sheet 39 = .ok (.iload_n 3, 1) := by decide +kernel
theorem dX4_sheet_40 : decode cX4_sheet 40 = .ok (.invokespecial 236, 3) := by decide +kernel
theorem dX4_sheet_43 : decode cX4_sheet 43 = .ok (.aastore, 1) := by decide +kernel
theorem dX4_sheet_44 : decode cX4_sheet 44 = .ok (.iload_n 3, 1) := by decide +kernel
theorem dX4_sheet_45 : decode cX4_sheet 45 = .ok (.ireturn, 1) := by decide +kernel
theorem dX4_drop_0 : decode cX4_drop 0 = .ok (.iload_n 1, 1) := by decide +kernel
theorem dX4_drop_1 : decode cX4_drop 1 = .ok (.invokestatic 213, 3) := by decide +kernel
theorem dX4_drop_4 : decode cX4_drop 4 = .ok (.ifCond .ne 5, 3) := by decide +kernel
theorem dX4_drop_7 : decode cX4_drop 7 = .ok (.iconst (-1), 1) := by decide +kernel
theorem dX4_drop_8 : decode cX4_drop 8 = .ok (.ireturn, 1) := by decide +kernel
theorem dX4_drop_9 : decode cX4_drop 9 = .ok (.aload_n 0, 1) := by decide +kernel
theorem dX4_drop_10 : decode cX4_drop 10 = .ok (.getfield 37, 3) := by decide +kernel
theorem dX4_drop_13 : decode cX4_drop 13 = .ok (.iload_n 1, 1) := by decide +kernel
theorem dX4_drop_14 : decode cX4_drop 14 = .ok (.aaload, 1) := by decide +kernel
theorem dX4_drop_15 : decode cX4_drop 15 = .ok (.astore_n 2, 1) := by decide +kernel
theorem dX4_drop_16 : decode cX4_drop 16 = .ok (.aload_n 2, 1) := by decide +kernel
theorem dX4_drop_17 : decode cX4_drop 17 = .ok (.ifnonnull 6, 3) := by decide +kernel
theorem dX4_drop_20 : decode cX4_drop 20 = .ok (.bipush (-11), 2) := by decide +kernel
theorem dX4_drop_22 : decode cX4_drop 22 = .ok (.ireturn, 1) := by decide +kernel
theorem dX4_drop_23 : decode cX4_drop 23 = .ok (.aload_n 0, 1) := by decide +kernel
theorem dX4_drop_24 : decode cX4_drop 24 = .ok (.getfield 37, 3) := by decide +kernel
theorem dX4_drop_27 : decode cX4_drop 27 = .ok (.iload_n 1, 1) := by decide +kernel
theorem dX4_drop_28 : decode cX4_drop 28 = .ok (.aconst_null, 1) := by decide +kernel
theorem dX4_drop_29 : decode cX4_drop 29 = .ok (.aastore, 1) := by decide +kernel
theorem dX4_drop_30 : decode cX4_drop 30 = .ok (.aload_n 2, 1) := by decide +kernel
theorem dX4_drop_31 : decode cX4_drop 31 = .ok (.getfield 239, 3) := by decide +kernel
theorem dX4_drop_34 : decode cX4_drop 34 = .ok (.arraylength, 1) := by decide +kernel
theorem dX4_drop_35 : decode cX4_drop 35 = .ok (.ireturn, 1) := by decide +kernel
theorem dX4_item_0 : decode cX4_item 0 = .ok (.iload_n 1, 1) := by decide +kernel
theorem dX4_item_1 : decode cX4_item 1 = .ok (.invokestatic 213, 3) := by decide +kernel
theorem dX4_item_4 : decode cX4_item 4 = .ok (.ifCond .eq 10, 3) := by decide +kernel
theorem dX4_item_7 : decode cX4_item 7 = .ok (.iload_n 2, 1) := by decide +kernel
theorem dX4_item_8 : decode cX4_item 8 = .ok (.invokestatic 216, 3) := by decide +kernel
theorem dX4_item_11 : decode cX4_item 11 = .ok (.ifCond .ne 5, 3) := by decide +kernel
theorem dX4_item_14 : decode cX4_item 14 = .ok (.iconst (-1), 1) := by decide +kernel
theorem dX4_item_15 : decode cX4_item 15 = .ok (.ireturn, 1) := by decide +kernel
theorem dX4_item_16 : decode cX4_item 16 = .ok (.aload_n 0, 1) := by decide +kernel
theorem dX4_item_17 : decode cX4_item 17 = .ok (.getfield 37, 3) := by decide +kernel
theorem dX4_item_20 : decode cX4_item 20 = .ok (.iload_n 1, 1) := by decide +kernel
theorem dX4_item_21 : decode cX4_item 21 = .ok (.aaload, 1) := by decide +kernel
theorem dX4_item_22 : decode cX4_item 22 = .ok (.astore 6, 2) := by decide +kernel
theorem dX4_item_24 : decode cX4_item 24 = .ok (.aload 6, 2) := by decide +kernel
theorem dX4_item_26 : decode cX4_item 26 = .ok (.ifnonnull 6, 3) := by decide +kernel
theorem dX4_item_29 : decode cX4_item 29 = .ok (.bipush (-11), 2) := by decide +kernel
theorem dX4_item_31 : decode cX4_item 31 = .ok (.ireturn, 1) := by decide +kernel
theorem dX4_item_32 : decode cX4_item 32 = .ok (.aload 6, 2) := by decide +kernel
theorem dX4_item_34 : decode cX4_item 34 = .ok (.iload_n 2, 1) := by decide +kernel
theorem dX4_item_35 : decode cX4_item 35 = .ok (.iload_n 3, 1) := by decide +kernel
theorem dX4_item_36 : decode cX4_item 36 = .ok (.iconst 1, 1) := by decide +kernel
theorem dX4_item_37 : decode cX4_item 37 = .ok (.invokevirtual 219, 3) := by decide +kernel
theorem dX4_item_40 : decode cX4_item 40 = .ok (.istore 7, 2) := by decide +kernel
theorem dX4_item_42 : decode cX4_item 42 = .ok (.iload 7, 2) := by decide +kernel
theorem dX4_item_44 : decode cX4_item 44 = .ok (.ifCond .eq 6, 3) := by decide +kernel
theorem dX4_item_47 : decode cX4_item 47 = .ok (.iload 7, 2) := by decide +kernel
theorem dX4_item_49 : decode cX4_item 49 = .ok (.ireturn, 1) := by decide +kernel
theorem dX4_item_50 : decode cX4_item 50 = .ok (.aload 6, 2) := by decide +kernel
theorem dX4_item_52 : decode cX4_item 52 = .ok (.iload_n 3, 1) := by decide +kernel
theorem dX4_item_53 : decode cX4_item 53 = .ok (.lload 4, 2) := by decide +kernel
theorem dX4_item_55 : decode cX4_item 55 = .ok (.invokevirtual 232, 3) := by decide +kernel
theorem dX4_item_58 : decode cX4_item 58 = .ok (.iconst 1, 1) := by decide +kernel
theorem dX4_item_59 : decode cX4_item 59 = .ok (.ireturn, 1) := by decide +kernel
theorem dX4_copy_0 : decode cX4_copy 0 = .ok (.iload_n 1, 1) := by decide +kernel
theorem dX4_copy_1 : decode cX4_copy 1 = .ok (.invokestatic 213, 3) := by decide +kernel
theorem dX4_copy_4 : decode cX4_copy 4 = .ok (.ifCond .eq 10, 3) := by decide +kernel
theorem dX4_copy_7 : decode cX4_copy 7 = .ok (.iload_n 3, 1) := by decide +kernel
theorem dX4_copy_8 : decode cX4_copy 8 = .ok (.invokestatic 213, 3) := by decide +kernel
theorem dX4_copy_11 : decode cX4_copy 11 = .ok (.ifCond .ne 5, 3) := by decide +kernel
theorem dX4_copy_14 : decode cX4_copy 14 = .ok (.iconst (-1), 1) := by decide +kernel
theorem dX4_copy_15 : decode cX4_copy 15 = .ok (.ireturn, 1) := by decide +kernel
theorem dX4_copy_16 : decode cX4_copy 16 = .ok (.aload_n 0, 1) := by decide +kernel
theorem dX4_copy_17 : decode cX4_copy 17 = .ok (.getfield 37, 3) := by decide +kernel
theorem dX4_copy_20 : decode cX4_copy 20 = .ok (.iload_n 1, 1) := by decide +kernel
theorem dX4_copy_21 : decode cX4_copy 21 = .ok (.aaload, 1) := by decide +kernel
theorem dX4_copy_22 : decode cX4_copy 22 = .ok (.astore 6, 2) := by decide +kernel
theorem dX4_copy_24 : decode cX4_copy 24 = .ok (.aload_n 0, 1) := by decide +kernel
theorem dX4_copy_25 : decode cX4_copy 25 = .ok (.getfield 37, 3) := by decide +kernel
theorem dX4_copy_28 : decode cX4_copy 28 = .ok (.iload_n 3, 1) := by decide +kernel
theorem dX4_copy_29 : decode cX4_copy 29 = .ok (.aaload, 1) := by decide +kernel
theorem dX4_copy_30 : decode cX4_copy 30 = .ok (.astore 7, 2) := by decide +kernel
theorem dX4_copy_32 : decode cX4_copy 32 = .ok (.aload 6, 2) := by decide +kernel
theorem dX4_copy_34 : decode cX4_copy 34 = .ok (.ifnull 8, 3) := by decide +kernel
theorem dX4_copy_37 : decode cX4_copy 37 = .ok (.aload 7, 2) := by decide +kernel
theorem dX4_copy_39 : decode cX4_copy 39 = .ok (.ifnonnull 6, 3) := by decide +kernel
theorem dX4_copy_42 : decode cX4_copy 42 = .ok (.bipush (-11), 2) := by decide +kernel
theorem dX4_copy_44 : decode cX4_copy 44 = .ok (.ireturn, 1) := by decide +kernel
theorem dX4_copy_45 : decode cX4_copy 45 = .ok (.aload 6, 2) := by decide +kernel
theorem dX4_copy_47 : decode cX4_copy 47 = .ok (.getfield 243, 3) := by decide +kernel
theorem dX4_copy_50 : decode cX4_copy 50 = .ok (.aload 7, 2) := by decide +kernel
theorem dX4_copy_52 : decode cX4_copy 52 = .ok (.getfield 243, 3) := by decide +kernel
theorem dX4_copy_55 : decode cX4_copy 55 = .ok (.if_icmp .eq 6, 3) := by decide +kernel
theorem dX4_copy_58 : decode cX4_copy 58 = .ok (.bipush (-12), 2) := by decide +kernel
theorem dX4_copy_60 : decode cX4_copy 60 = .ok (.ireturn, 1) := by decide +kernel
theorem dX4_copy_61 : decode cX4_copy 61 = .ok (.aload 6, 2) := by decide +kernel
theorem dX4_copy_63 : decode cX4_copy 63 = .ok (.iload_n 2, 1) := by decide +kernel
theorem dX4_copy_64 : decode cX4_copy 64 = .ok (.iload 5, 2) := by decide +kernel
theorem dX4_copy_66 : decode cX4_copy 66 = .ok (.invokevirtual 246, 3) := by decide +kernel
theorem dX4_copy_69 : decode cX4_copy 69 = .ok (.ifCond .eq 15, 3) := by decide +kernel
theorem dX4_copy_72 : decode cX4_copy 72 = .ok (.aload 7, 2) := by decide +kernel
theorem dX4_copy_74 : decode cX4_copy 74 = .ok (.iload 4, 2) := by decide +kernel
theorem dX4_copy_76 : decode cX4_copy 76 = .ok (.iload 5, 2) := by decide +kernel
theorem dX4_copy_78 : decode cX4_copy 78 = .ok (.invokevirtual 246, 3) := by decide +kernel
theorem dX4_copy_81 : decode cX4_copy 81 = .ok (.ifCond .ne 6, 3) := by decide +kernel
theorem dX4_copy_84 : decode cX4_copy 84 = .ok (.bipush (-13), 2) := by decide +kernel
theorem dX4_copy_86 : decode cX4_copy 86 = .ok (.ireturn, 1) := by decide +kernel
theorem dX4_copy_87 : decode cX4_copy 87 = .ok (.aload 6, 2) := by decide +kernel
theorem dX4_copy_89 : decode cX4_copy 89 = .ok (.getfield 239, 3) := by decide +kernel
theorem dX4_copy_92 : decode cX4_copy 92 = .ok (.iload_n 2, 1) := by decide +kernel
theorem dX4_copy_93 : decode cX4_copy 93 = .ok (.aload 7, 2) := by decide +kernel
theorem dX4_copy_95 : decode cX4_copy 95 = .ok (.getfield 239, 3) := by decide +kernel
theorem dX4_copy_98 : decode cX4_copy 98 = .ok (.iload 4, 2) := by decide +kernel
theorem dX4_copy_100 : decode cX4_copy 100 = .ok (.iload 5, 2) := by decide +kernel
theorem dX4_copy_102 : decode cX4_copy 102 = .ok (.invokestatic 250, 3) := by decide +kernel
theorem dX4_copy_105 : decode cX4_copy 105 = .ok (.iload 5, 2) := by decide +kernel
theorem dX4_copy_107 : decode cX4_copy 107 = .ok (.ireturn, 1) := by decide +kernel
theorem dX4_within_0 : decode cX4_within 0 = .ok (.iload_n 0, 1) := by decide +kernel
theorem dX4_within_1 : decode cX4_within 1 = .ok (.iload_n 1, 1) := by decide +kernel
theorem dX4_within_2 : decode cX4_within 2 = .ok (.if_icmp .lt 12, 3) := by decide +kernel
theorem dX4_within_5 : decode cX4_within 5 = .ok (.iload_n 0, 1) := by decide +kernel
theorem dX4_within_6 : decode cX4_within 6 = .ok (.iload_n 2, 1) := by decide +kernel
theorem dX4_within_7 : decode cX4_within 7 = .ok (.if_icmp .gt 7, 3) := by decide +kernel
theorem dX4_within_10 : decode cX4_within 10 = .ok (.iconst 1, 1) := by decide +kernel
theorem dX4_within_11 : decode cX4_within 11 = .ok (.goto 4, 3) := by decide +kernel
theorem dX4_within_14 : decode cX4_within 14 = .ok (.iconst 0, 1) := by decide +kernel
theorem dX4_within_15 : decode cX4_within 15 = .ok (.ireturn, 1) := by decide +kernel
theorem dX4_isMeasure_0 : decode cX4_isMeasure 0 = .ok (.iload_n 0, 1) := by decide +kernel
theorem dX4_isMeasure_1 : decode cX4_isMeasure 1 = .ok (.iconst 0, 1) := by decide +kernel
theorem dX4_isMeasure_2 : decode cX4_isMeasure 2 = .ok (.iconst 3, 1) := by decide +kernel
theorem dX4_isMeasure_3 : decode cX4_isMeasure 3 = .ok (.invokestatic 41, 3) := by decide +kernel
theorem dX4_isMeasure_6 : decode cX4_isMeasure 6 = .ok (.ireturn, 1) := by decide +kernel
theorem dX4_isEither_0 : decode cX4_isEither 0 = .ok (.iload_n 0, 1) := by decide +kernel
theorem dX4_isEither_1 : decode cX4_isEither 1 = .ok (.ifCond .eq 8, 3) := by decide +kernel
theorem dX4_isEither_4 : decode cX4_isEither 4 = .ok (.iload_n 0, 1) := by decide +kernel
theorem dX4_isEither_5 : decode cX4_isEither 5 = .ok (.iconst 1, 1) := by decide +kernel
theorem dX4_isEither_6 : decode cX4_isEither 6 = .ok (.if_icmp .ne 7, 3) := by decide +kernel
theorem dX4_isEither_9 : decode cX4_isEither 9 = .ok (.iconst 1, 1) := by decide +kernel
theorem dX4_isEither_10 : decode cX4_isEither 10 = .ok (.goto 4, 3) := by decide +kernel
theorem dX4_isEither_13 : decode cX4_isEither 13 = .ok (.iconst 0, 1) := by decide +kernel
theorem dX4_isEither_14 : decode cX4_isEither 14 = .ok (.ireturn, 1) := by decide +kernel
theorem dX4_isSheet_0 : decode cX4_isSheet 0 = .ok (.iload_n 0, 1) := by decide +kernel
theorem dX4_isSheet_1 : decode cX4_isSheet 1 = .ok (.iconst 0, 1) := by decide +kernel
theorem dX4_isSheet_2 : decode cX4_isSheet 2 = .ok (.iconst 3, 1) := by decide +kernel
theorem dX4_isSheet_3 : decode cX4_isSheet 3 = .ok (.invokestatic 41, 3) := by decide +kernel
theorem dX4_isSheet_6 : decode cX4_isSheet 6 = .ok (.ireturn, 1) := by decide +kernel
theorem dX4_isLane_0 : decode cX4_isLane 0 = .ok (.iload_n 0, 1) := by decide +kernel
theorem dX4_isLane_1 : decode cX4_isLane 1 = .ok (.iconst 0, 1) := by decide +kernel
theorem dX4_isLane_2 : decode cX4_isLane 2 = .ok (.iconst 3, 1) := by decide +kernel
theorem dX4_isLane_3 : decode cX4_isLane 3 = .ok (.invokestatic 41, 3) := by decide +kernel
theorem dX4_isLane_6 : decode cX4_isLane 6 = .ok (.ireturn, 1) := by decide +kernel
theorem dX4_lowestOf_0 : decode cX4_lowestOf 0 = .ok (.iload_n 0, 1) := by decide +kernel
theorem dX4_lowestOf_1 : decode cX4_lowestOf 1 = .ok (.iload_n 0, 1) := by decide +kernel
theorem dX4_lowestOf_2 : decode cX4_lowestOf 2 = .ok (.ineg, 1) := by decide +kernel
theorem dX4_lowestOf_3 : decode cX4_lowestOf 3 = .ok (.iand, 1) := by decide +kernel
theorem dX4_lowestOf_4 : decode cX4_lowestOf 4 = .ok (.iconst 1, 1) := by decide +kernel
theorem dX4_lowestOf_5 : decode cX4_lowestOf 5 = .ok (.isub, 1) := by decide +kernel
theorem dX4_lowestOf_6 : decode cX4_lowestOf 6 = .ok (.invokestatic 176, 3) := by decide +kernel
theorem dX4_lowestOf_9 : decode cX4_lowestOf 9 = .ok (.ireturn, 1) := by decide +kernel
theorem dX4_refusalOfDays_0 : decode cX4_refusalOfDays 0 = .ok (.iload_n 1, 1) := by decide +kernel
theorem dX4_refusalOfDays_1 : decode cX4_refusalOfDays 1 = .ok (.iconst 1, 1) := by decide +kernel
theorem dX4_refusalOfDays_2 : decode cX4_refusalOfDays 2 = .ok (.bipush 99, 2) := by decide +kernel
theorem dX4_refusalOfDays_4 : decode cX4_refusalOfDays 4 = .ok (.invokestatic 41, 3) := by decide +kernel
theorem dX4_refusalOfDays_7 : decode cX4_refusalOfDays 7 = .ok (.ifCond .ne 5, 3) := by decide +kernel
theorem dX4_refusalOfDays_10 : decode cX4_refusalOfDays 10 = .ok (.iconst (-1), 1) := by decide +kernel
theorem dX4_refusalOfDays_11 : decode cX4_refusalOfDays 11 = .ok (.ireturn, 1) := by decide +kernel
theorem dX4_refusalOfDays_12 : decode cX4_refusalOfDays 12 = .ok (.aload_n 0, 1) := by decide +kernel
theorem dX4_refusalOfDays_13 : decode cX4_refusalOfDays 13 = .ok (.getfield 10, 3) := by decide +kernel
theorem dX4_refusalOfDays_16 : decode cX4_refusalOfDays 16 = .ok (.getfield 140, 3) := by decide +kernel
theorem dX4_refusalOfDays_19 : decode cX4_refusalOfDays 19 = .ok (.iload_n 1, 1) := by decide +kernel
theorem dX4_refusalOfDays_20 : decode cX4_refusalOfDays 20 = .ok (.iadd, 1) := by decide +kernel
theorem dX4_refusalOfDays_21 : decode cX4_refusalOfDays 21 = .ok (.sipush 9999, 3) := by decide +kernel
theorem dX4_refusalOfDays_24 : decode cX4_refusalOfDays 24 = .ok (.if_icmp .le 8, 3) := by decide +kernel
theorem dX4_refusalOfDays_27 : decode cX4_refusalOfDays 27 = .ok (.bipush (-3), 2) := by decide +kernel
theorem dX4_refusalOfDays_29 : decode cX4_refusalOfDays 29 = .ok (.goto 4, 3) := by decide +kernel
theorem dX4_refusalOfDays_32 : decode cX4_refusalOfDays 32 = .ok (.iconst 0, 1) := by decide +kernel
theorem dX4_refusalOfDays_33 : decode cX4_refusalOfDays 33 = .ok (.ireturn, 1) := by decide +kernel
theorem dX4_longer_0 : decode cX4_longer 0 = .ok (.iload_n 0, 1) := by decide +kernel
theorem dX4_longer_1 : decode cX4_longer 1 = .ok (.iload_n 1, 1) := by decide +kernel
theorem dX4_longer_2 : decode cX4_longer 2 = .ok (.iload_n 2, 1) := by decide +kernel
theorem dX4_longer_3 : decode cX4_longer 3 = .ok (.invokestatic 256, 3) := by decide +kernel
theorem dX4_longer_6 : decode cX4_longer 6 = .ok (.istore 4, 2) := by decide +kernel
theorem dX4_longer_8 : decode cX4_longer 8 = .ok (.iload 4, 2) := by decide +kernel
theorem dX4_longer_10 : decode cX4_longer 10 = .ok (.iconst 1, 1) := by decide +kernel
theorem dX4_longer_11 : decode cX4_longer 11 = .ok (.if_icmp .lt 8, 3) := by decide +kernel
theorem dX4_longer_14 : decode cX4_longer 14 = .ok (.iload_n 3, 1) := by decide +kernel
theorem dX4_longer_15 : decode cX4_longer 15 = .ok (.iconst 1, 1) := by decide +kernel
theorem dX4_longer_16 : decode cX4_longer 16 = .ok (.if_icmp .ge 5, 3) := by decide +kernel
theorem dX4_longer_19 : decode cX4_longer 19 = .ok (.iconst 0, 1) := by decide +kernel
theorem dX4_longer_20 : decode cX4_longer 20 = .ok (.ireturn, 1) := by decide +kernel
theorem dX4_longer_21 : decode cX4_longer 21 = .ok (.iload_n 0, 1) := by decide +kernel
theorem dX4_longer_22 : decode cX4_longer 22 = .ok (.tableswitch 45 1 4 #[30, 45, 34, 38], 30) := by decide +kernel
theorem dX4_longer_52 : decode cX4_longer 52 = .ok (.iload_n 3, 1) := by decide +kernel
theorem dX4_longer_53 : decode cX4_longer 53 = .ok (.iconst 1, 1) := by decide +kernel
theorem dX4_longer_54 : decode cX4_longer 54 = .ok (.iadd, 1) := by decide +kernel
theorem dX4_longer_55 : decode cX4_longer 55 = .ok (.ireturn, 1) := by decide +kernel
theorem dX4_longer_56 : decode cX4_longer 56 = .ok (.iload_n 3, 1) := by decide +kernel
theorem dX4_longer_57 : decode cX4_longer 57 = .ok (.iconst 1, 1) := by decide +kernel
theorem dX4_longer_58 : decode cX4_longer 58 = .ok (.isub, 1) := by decide +kernel
theorem dX4_longer_59 : decode cX4_longer 59 = .ok (.ireturn, 1) := by decide +kernel
theorem dX4_longer_60 : decode cX4_longer 60 = .ok (.iload 4, 2) := by decide +kernel
theorem dX4_longer_62 : decode cX4_longer 62 = .ok (.iload_n 3, 1) := by decide +kernel
theorem dX4_longer_63 : decode cX4_longer 63 = .ok (.imul, 1) := by decide +kernel
theorem dX4_longer_64 : decode cX4_longer 64 = .ok (.iconst 2, 1) := by decide +kernel
theorem dX4_longer_65 : decode cX4_longer 65 = .ok (.idiv, 1) := by decide +kernel
theorem dX4_longer_66 : decode cX4_longer 66 = .ok (.ireturn, 1) := by decide +kernel
theorem dX4_longer_67 : decode cX4_longer 67 = .ok (.iload 4, 2) := by decide +kernel
theorem dX4_longer_69 : decode cX4_longer 69 = .ok (.iload_n 3, 1) := by decide +kernel
theorem dX4_longer_70 : decode cX4_longer 70 = .ok (.imul, 1) := by decide +kernel
theorem dX4_longer_71 : decode cX4_longer 71 = .ok (.ireturn, 1) := by decide +kernel
theorem dX4_timesShown_0 : decode cX4_timesShown 0 = .ok (.iload_n 1, 1) := by decide +kernel
theorem dX4_timesShown_1 : decode cX4_timesShown 1 = .ok (.ifCond .lt 11, 3) := by decide +kernel
theorem dX4_timesShown_4 : decode cX4_timesShown 4 = .ok (.iload_n 1, 1) := by decide +kernel
theorem dX4_timesShown_5 : decode cX4_timesShown 5 = .ok (.getstatic 259, 3) := by decide +kernel
theorem dX4_timesShown_8 : decode cX4_timesShown 8 = .ok (.arraylength, 1) := by decide +kernel
theorem dX4_timesShown_9 : decode cX4_timesShown 9 = .ok (.if_icmp .lt 5, 3) := by decide +kernel
theorem dX4_timesShown_12 : decode cX4_timesShown 12 = .ok (.iconst 0, 1) := by decide +kernel
theorem dX4_timesShown_13 : decode cX4_timesShown 13 = .ok (.ireturn, 1) := by decide +kernel
theorem dX4_timesShown_14 : decode cX4_timesShown 14 = .ok (.getstatic 259, 3) := by decide +kernel
theorem dX4_timesShown_17 : decode cX4_timesShown 17 = .ok (.iload_n 1, 1) := by decide +kernel
theorem dX4_timesShown_18 : decode cX4_timesShown 18 = .ok (.iaload, 1) := by decide +kernel
theorem dX4_timesShown_19 : decode cX4_timesShown 19 = .ok (.iload_n 2, 1) := by decide +kernel
theorem dX4_timesShown_20 : decode cX4_timesShown 20 = .ok (.ishr, 1) := by decide +kernel
theorem dX4_timesShown_21 : decode cX4_timesShown 21 = .ok (.iconst 1, 1) := by decide +kernel
theorem dX4_timesShown_22 : decode cX4_timesShown 22 = .ok (.iand, 1) := by decide +kernel
theorem dX4_timesShown_23 : decode cX4_timesShown 23 = .ok (.istore_n 3, 1) := by decide +kernel
theorem dX4_timesShown_24 : decode cX4_timesShown 24 = .ok (.iload_n 0, 1) := by decide +kernel
theorem dX4_timesShown_25 : decode cX4_timesShown 25 = .ok (.iconst 2, 1) := by decide +kernel
theorem dX4_timesShown_26 : decode cX4_timesShown 26 = .ok (.if_icmp .eq 10, 3) := by decide +kernel
theorem dX4_timesShown_29 : decode cX4_timesShown 29 = .ok (.iload_n 0, 1) := by decide +kernel
theorem dX4_timesShown_30 : decode cX4_timesShown 30 = .ok (.iconst 4, 1) := by decide +kernel
theorem dX4_timesShown_31 : decode cX4_timesShown 31 = .ok (.if_icmp .eq 5, 3) := by decide +kernel
theorem dX4_timesShown_34 : decode cX4_timesShown 34 = .ok (.iload_n 3, 1) := by decide +kernel
theorem dX4_timesShown_35 : decode cX4_timesShown 35 = .ok (.ireturn, 1) := by decide +kernel
theorem dX4_timesShown_36 : decode cX4_timesShown 36 = .ok (.iload_n 2, 1) := by decide +kernel
theorem dX4_timesShown_37 : decode cX4_timesShown 37 = .ok (.ifCond .ne 5, 3) := by decide +kernel
theorem dX4_timesShown_40 : decode cX4_timesShown 40 = .ok (.iconst 0, 1) := by decide +kernel
theorem dX4_timesShown_41 : decode cX4_timesShown 41 = .ok (.ireturn, 1) := by decide +kernel
theorem dX4_timesShown_42 : decode cX4_timesShown 42 = .ok (.iload_n 2, 1) := by decide +kernel
theorem dX4_timesShown_43 : decode cX4_timesShown 43 = .ok (.iconst 1, 1) := by decide +kernel
theorem dX4_timesShown_44 : decode cX4_timesShown 44 = .ok (.if_icmp .ne 17, 3) := by decide +kernel
theorem dX4_timesShown_47 : decode cX4_timesShown 47 = .ok (.iload_n 3, 1) := by decide +kernel
theorem dX4_timesShown_48 : decode cX4_timesShown 48 = .ok (.getstatic 259, 3) := by decide +kernel
theorem dX4_timesShown_51 : decode cX4_timesShown 51 = .ok (.iload_n 1, 1) := by decide +kernel
theorem dX4_timesShown_52 : decode cX4_timesShown 52 = .ok (.iaload, 1) := by decide +kernel
theorem dX4_timesShown_53 : decode cX4_timesShown 53 = .ok (.iconst 0, 1) := by decide +kernel
theorem dX4_timesShown_54 : decode cX4_timesShown 54 = .ok (.ishr, 1) := by decide +kernel
theorem dX4_timesShown_55 : decode cX4_timesShown 55 = .ok (.iconst 1, 1) := by decide +kernel
theorem dX4_timesShown_56 : decode cX4_timesShown 56 = .ok (.iand, 1) := by decide +kernel
theorem dX4_timesShown_57 : decode cX4_timesShown 57 = .ok (.iadd, 1) := by decide +kernel
theorem dX4_timesShown_58 : decode cX4_timesShown 58 = .ok (.goto 4, 3) := by decide +kernel
theorem dX4_timesShown_61 : decode cX4_timesShown 61 = .ok (.iload_n 3, 1) := by decide +kernel
theorem dX4_timesShown_62 : decode cX4_timesShown 62 = .ok (.ireturn, 1) := by decide +kernel
theorem dJ11_isValidCodePoint_9a6ad_0 : decode cJ11_isValidCodePoint_9a6ad 0 = .ok (.iload_n 0, 1) := by decide +kernel
theorem dJ11_isValidCodePoint_9a6ad_1 : decode cJ11_isValidCodePoint_9a6ad 1 = .ok (.bipush 16, 2) := by decide +kernel
theorem dJ11_isValidCodePoint_9a6ad_3 : decode cJ11_isValidCodePoint_9a6ad 3 = .ok (.iushr, 1) := by decide +kernel
theorem dJ11_isValidCodePoint_9a6ad_4 : decode cJ11_isValidCodePoint_9a6ad 4 = .ok (.istore_n 1, 1) := by decide +kernel
theorem dJ11_isValidCodePoint_9a6ad_5 : decode cJ11_isValidCodePoint_9a6ad 5 = .ok (.iload_n 1, 1) := by decide +kernel
theorem dJ11_isValidCodePoint_9a6ad_6 : decode cJ11_isValidCodePoint_9a6ad 6 = .ok (.bipush 17, 2) := by decide +kernel
theorem dJ11_isValidCodePoint_9a6ad_8 : decode cJ11_isValidCodePoint_9a6ad 8 = .ok (.if_icmp .ge 7, 3) := by decide +kernel
theorem dJ11_isValidCodePoint_9a6ad_11 : decode cJ11_isValidCodePoint_9a6ad 11 = .ok (.iconst 1, 1) := by decide +kernel
theorem dJ11_isValidCodePoint_9a6ad_12 : decode cJ11_isValidCodePoint_9a6ad 12 = .ok (.goto 4, 3) := by decide +kernel
theorem dJ11_isValidCodePoint_9a6ad_15 : decode cJ11_isValidCodePoint_9a6ad 15 = .ok (.iconst 0, 1) := by decide +kernel
theorem dJ11_isValidCodePoint_9a6ad_16 : decode cJ11_isValidCodePoint_9a6ad 16 = .ok (.ireturn, 1) := by decide +kernel
theorem dJ11_highSurrogate_5068e_0 : decode cJ11_highSurrogate_5068e 0 = .ok (.iload_n 0, 1) := by decide +kernel
theorem dJ11_highSurrogate_5068e_1 : decode cJ11_highSurrogate_5068e 1 = .ok (.bipush 10, 2) := by decide +kernel
theorem dJ11_highSurrogate_5068e_3 : decode cJ11_highSurrogate_5068e 3 = .ok (.iushr, 1) := by decide +kernel
theorem dJ11_highSurrogate_5068e_4 : decode cJ11_highSurrogate_5068e 4 = .ok (.ldc 110, 2) := by decide +kernel
theorem dJ11_highSurrogate_5068e_6 : decode cJ11_highSurrogate_5068e 6 = .ok (.iadd, 1) := by decide +kernel
theorem dJ11_highSurrogate_5068e_7 : decode cJ11_highSurrogate_5068e 7 = .ok (.i2c, 1) := by decide +kernel
theorem dJ11_highSurrogate_5068e_8 : decode cJ11_highSurrogate_5068e 8 = .ok (.ireturn, 1) := by decide +kernel
theorem dJ11_lowSurrogate_5068e_0 : decode cJ11_lowSurrogate_5068e 0 = .ok (.iload_n 0, 1) := by decide +kernel
theorem dJ11_lowSurrogate_5068e_1 : decode cJ11_lowSurrogate_5068e 1 = .ok (.sipush 1023, 3) := by decide +kernel
theorem dJ11_lowSurrogate_5068e_4 : decode cJ11_lowSurrogate_5068e 4 = .ok (.iand, 1) := by decide +kernel
theorem dJ11_lowSurrogate_5068e_5 : decode cJ11_lowSurrogate_5068e 5 = .ok (.ldc 76, 2) := by decide +kernel
theorem dJ11_lowSurrogate_5068e_7 : decode cJ11_lowSurrogate_5068e 7 = .ok (.iadd, 1) := by decide +kernel
theorem dJ11_lowSurrogate_5068e_8 : decode cJ11_lowSurrogate_5068e 8 = .ok (.i2c, 1) := by decide +kernel
theorem dJ11_lowSurrogate_5068e_9 : decode cJ11_lowSurrogate_5068e 9 = .ok (.ireturn, 1) := by decide +kernel
theorem dJ6_bitCount_0f7a4_0 : decode cJ6_bitCount_0f7a4 0 = .ok (.iload_n 0, 1) := by decide +kernel
theorem dJ6_bitCount_0f7a4_1 : decode cJ6_bitCount_0f7a4 1 = .ok (.iload_n 0, 1) := by decide +kernel
theorem dJ6_bitCount_0f7a4_2 : decode cJ6_bitCount_0f7a4 2 = .ok (.iconst 1, 1) := by decide +kernel
theorem dJ6_bitCount_0f7a4_3 : decode cJ6_bitCount_0f7a4 3 = .ok (.iushr, 1) := by decide +kernel
theorem dJ6_bitCount_0f7a4_4 : decode cJ6_bitCount_0f7a4 4 = .ok (.ldc_w 265, 3) := by decide +kernel
theorem dJ6_bitCount_0f7a4_7 : decode cJ6_bitCount_0f7a4 7 = .ok (.iand, 1) := by decide +kernel
theorem dJ6_bitCount_0f7a4_8 : decode cJ6_bitCount_0f7a4 8 = .ok (.isub, 1) := by decide +kernel
theorem dJ6_bitCount_0f7a4_9 : decode cJ6_bitCount_0f7a4 9 = .ok (.istore_n 0, 1) := by decide +kernel
theorem dJ6_bitCount_0f7a4_10 : decode cJ6_bitCount_0f7a4 10 = .ok (.iload_n 0, 1) := by decide +kernel
theorem dJ6_bitCount_0f7a4_11 : decode cJ6_bitCount_0f7a4 11 = .ok (.ldc_w 266, 3) := by decide +kernel
theorem dJ6_bitCount_0f7a4_14 : decode cJ6_bitCount_0f7a4 14 = .ok (.iand, 1) := by decide +kernel
theorem dJ6_bitCount_0f7a4_15 : decode cJ6_bitCount_0f7a4 15 = .ok (.iload_n 0, 1) := by decide +kernel
theorem dJ6_bitCount_0f7a4_16 : decode cJ6_bitCount_0f7a4 16 = .ok (.iconst 2, 1) := by decide +kernel
theorem dJ6_bitCount_0f7a4_17 : decode cJ6_bitCount_0f7a4 17 = .ok (.iushr, 1) := by decide +kernel
theorem dJ6_bitCount_0f7a4_18 : decode cJ6_bitCount_0f7a4 18 = .ok (.ldc_w 266, 3) := by decide +kernel
theorem dJ6_bitCount_0f7a4_21 : decode cJ6_bitCount_0f7a4 21 = .ok (.iand, 1) := by decide +kernel
theorem dJ6_bitCount_0f7a4_22 : decode cJ6_bitCount_0f7a4 22 = .ok (.iadd, 1) := by decide +kernel
theorem dJ6_bitCount_0f7a4_23 : decode cJ6_bitCount_0f7a4 23 = .ok (.istore_n 0, 1) := by decide +kernel
theorem dJ6_bitCount_0f7a4_24 : decode cJ6_bitCount_0f7a4 24 = .ok (.iload_n 0, 1) := by decide +kernel
theorem dJ6_bitCount_0f7a4_25 : decode cJ6_bitCount_0f7a4 25 = .ok (.iload_n 0, 1) := by decide +kernel
theorem dJ6_bitCount_0f7a4_26 : decode cJ6_bitCount_0f7a4 26 = .ok (.iconst 4, 1) := by decide +kernel
theorem dJ6_bitCount_0f7a4_27 : decode cJ6_bitCount_0f7a4 27 = .ok (.iushr, 1) := by decide +kernel
theorem dJ6_bitCount_0f7a4_28 : decode cJ6_bitCount_0f7a4 28 = .ok (.iadd, 1) := by decide +kernel
theorem dJ6_bitCount_0f7a4_29 : decode cJ6_bitCount_0f7a4 29 = .ok (.ldc_w 267, 3) := by decide +kernel
theorem dJ6_bitCount_0f7a4_32 : decode cJ6_bitCount_0f7a4 32 = .ok (.iand, 1) := by decide +kernel
theorem dJ6_bitCount_0f7a4_33 : decode cJ6_bitCount_0f7a4 33 = .ok (.istore_n 0, 1) := by decide +kernel
theorem dJ6_bitCount_0f7a4_34 : decode cJ6_bitCount_0f7a4 34 = .ok (.iload_n 0, 1) := by decide +kernel
theorem dJ6_bitCount_0f7a4_35 : decode cJ6_bitCount_0f7a4 35 = .ok (.iload_n 0, 1) := by decide +kernel
theorem dJ6_bitCount_0f7a4_36 : decode cJ6_bitCount_0f7a4 36 = .ok (.bipush 8, 2) := by decide +kernel
theorem dJ6_bitCount_0f7a4_38 : decode cJ6_bitCount_0f7a4 38 = .ok (.iushr, 1) := by decide +kernel
theorem dJ6_bitCount_0f7a4_39 : decode cJ6_bitCount_0f7a4 39 = .ok (.iadd, 1) := by decide +kernel
theorem dJ6_bitCount_0f7a4_40 : decode cJ6_bitCount_0f7a4 40 = .ok (.istore_n 0, 1) := by decide +kernel
theorem dJ6_bitCount_0f7a4_41 : decode cJ6_bitCount_0f7a4 41 = .ok (.iload_n 0, 1) := by decide +kernel
theorem dJ6_bitCount_0f7a4_42 : decode cJ6_bitCount_0f7a4 42 = .ok (.iload_n 0, 1) := by decide +kernel
theorem dJ6_bitCount_0f7a4_43 : decode cJ6_bitCount_0f7a4 43 = .ok (.bipush 16, 2) := by decide +kernel
theorem dJ6_bitCount_0f7a4_45 : decode cJ6_bitCount_0f7a4 45 = .ok (.iushr, 1) := by decide +kernel
theorem dJ6_bitCount_0f7a4_46 : decode cJ6_bitCount_0f7a4 46 = .ok (.iadd, 1) := by decide +kernel
theorem dJ6_bitCount_0f7a4_47 : decode cJ6_bitCount_0f7a4 47 = .ok (.istore_n 0, 1) := by decide +kernel
theorem dJ6_bitCount_0f7a4_48 : decode cJ6_bitCount_0f7a4 48 = .ok (.iload_n 0, 1) := by decide +kernel
theorem dJ6_bitCount_0f7a4_49 : decode cJ6_bitCount_0f7a4 49 = .ok (.bipush 63, 2) := by decide +kernel
theorem dJ6_bitCount_0f7a4_51 : decode cJ6_bitCount_0f7a4 51 = .ok (.iand, 1) := by decide +kernel
theorem dJ6_bitCount_0f7a4_52 : decode cJ6_bitCount_0f7a4 52 = .ok (.ireturn, 1) := by decide +kernel
theorem dJ9_abs_0f7a4_0 : decode cJ9_abs_0f7a4 0 = .ok (.iload_n 0, 1) := by decide +kernel
theorem dJ9_abs_0f7a4_1 : decode cJ9_abs_0f7a4 1 = .ok (.ifCond .ge 8, 3) := by decide +kernel
theorem dJ9_abs_0f7a4_4 : decode cJ9_abs_0f7a4 4 = .ok (.iload_n 0, 1) := by decide +kernel
theorem dJ9_abs_0f7a4_5 : decode cJ9_abs_0f7a4 5 = .ok (.ineg, 1) := by decide +kernel
theorem dJ9_abs_0f7a4_6 : decode cJ9_abs_0f7a4 6 = .ok (.goto 4, 3) := by decide +kernel
theorem dJ9_abs_0f7a4_9 : decode cJ9_abs_0f7a4 9 = .ok (.iload_n 0, 1) := by decide +kernel
theorem dJ9_abs_0f7a4_10 : decode cJ9_abs_0f7a4 10 = .ok (.ireturn, 1) := by decide +kernel
theorem dJ9_max_7cf53_0 : decode cJ9_max_7cf53 0 = .ok (.iload_n 0, 1) := by decide +kernel
theorem dJ9_max_7cf53_1 : decode cJ9_max_7cf53 1 = .ok (.iload_n 1, 1) := by decide +kernel
theorem dJ9_max_7cf53_2 : decode cJ9_max_7cf53 2 = .ok (.if_icmp .lt 7, 3) := by decide +kernel
theorem dJ9_max_7cf53_5 : decode cJ9_max_7cf53 5 = .ok (.iload_n 0, 1) := by decide +kernel
theorem dJ9_max_7cf53_6 : decode cJ9_max_7cf53 6 = .ok (.goto 4, 3) := by decide +kernel
theorem dJ9_max_7cf53_9 : decode cJ9_max_7cf53 9 = .ok (.iload_n 1, 1) := by decide +kernel
theorem dJ9_max_7cf53_10 : decode cJ9_max_7cf53 10 = .ok (.ireturn, 1) := by decide +kernel
theorem dJ9_min_7cf53_0 : decode cJ9_min_7cf53 0 = .ok (.iload_n 0, 1) := by decide +kernel
theorem dJ9_min_7cf53_1 : decode cJ9_min_7cf53 1 = .ok (.iload_n 1, 1) := by decide +kernel
theorem dJ9_min_7cf53_2 : decode cJ9_min_7cf53 2 = .ok (.if_icmp .gt 7, 3) := by decide +kernel
theorem dJ9_min_7cf53_5 : decode cJ9_min_7cf53 5 = .ok (.iload_n 0, 1) := by decide +kernel
theorem dJ9_min_7cf53_6 : decode cJ9_min_7cf53 6 = .ok (.goto 4, 3) := by decide +kernel
theorem dJ9_min_7cf53_9 : decode cJ9_min_7cf53 9 = .ok (.iload_n 1, 1) := by decide +kernel
theorem dJ9_min_7cf53_10 : decode cJ9_min_7cf53 10 = .ok (.ireturn, 1) := by decide +kernel
theorem dJ0_length_8abf5_0 : decode cJ0_length_8abf5 0 = .ok (.aload_n 0, 1) := by decide +kernel
theorem dJ0_length_8abf5_1 : decode cJ0_length_8abf5 1 = .ok (.getfield 9, 3) := by decide +kernel
theorem dJ0_length_8abf5_4 : decode cJ0_length_8abf5 4 = .ok (.arraylength, 1) := by decide +kernel
theorem dJ0_length_8abf5_5 : decode cJ0_length_8abf5 5 = .ok (.aload_n 0, 1) := by decide +kernel
theorem dJ0_length_8abf5_6 : decode cJ0_length_8abf5 6 = .ok (.invokevirtual 335, 3) := by decide +kernel
theorem dJ0_length_8abf5_9 : decode cJ0_length_8abf5 9 = .ok (.ishr, 1) := by decide +kernel
theorem dJ0_length_8abf5_10 : decode cJ0_length_8abf5 10 = .ok (.ireturn, 1) := by decide +kernel
theorem dJ0_indexOf_0f7a4_0 : decode cJ0_indexOf_0f7a4 0 = .ok (.aload_n 0, 1) := by decide +kernel
theorem dJ0_indexOf_0f7a4_1 : decode cJ0_indexOf_0f7a4 1 = .ok (.iload_n 1, 1) := by decide +kernel
theorem dJ0_indexOf_0f7a4_2 : decode cJ0_indexOf_0f7a4 2 = .ok (.iconst 0, 1) := by decide +kernel
theorem dJ0_indexOf_0f7a4_3 : decode cJ0_indexOf_0f7a4 3 = .ok (.invokevirtual 633, 3) := by decide +kernel
theorem dJ0_indexOf_0f7a4_6 : decode cJ0_indexOf_0f7a4 6 = .ok (.ireturn, 1) := by decide +kernel
theorem dJ0_indexOf_7cf53_0 : decode cJ0_indexOf_7cf53 0 = .ok (.aload_n 0, 1) := by decide +kernel
theorem dJ0_indexOf_7cf53_1 : decode cJ0_indexOf_7cf53 1 = .ok (.invokevirtual 492, 3) := by decide +kernel
theorem dJ0_indexOf_7cf53_4 : decode cJ0_indexOf_7cf53 4 = .ok (.ifCond .eq 19, 3) := by decide +kernel
theorem dJ0_indexOf_7cf53_7 : decode cJ0_indexOf_7cf53 7 = .ok (.aload_n 0, 1) := by decide +kernel
theorem dJ0_indexOf_7cf53_8 : decode cJ0_indexOf_7cf53 8 = .ok (.getfield 9, 3) := by decide +kernel
theorem dJ0_indexOf_7cf53_11 : decode cJ0_indexOf_7cf53 11 = .ok (.iload_n 1, 1) := by decide +kernel
theorem dJ0_indexOf_7cf53_12 : decode cJ0_indexOf_7cf53 12 = .ok (.iload_n 2, 1) := by decide +kernel
theorem dJ0_indexOf_7cf53_13 : decode cJ0_indexOf_7cf53 13 = .ok (.aload_n 0, 1) := by decide +kernel
theorem dJ0_indexOf_7cf53_14 : decode cJ0_indexOf_7cf53 14 = .ok (.invokevirtual 505, 3) := by decide +kernel
theorem dJ0_indexOf_7cf53_17 : decode cJ0_indexOf_7cf53 17 = .ok (.invokestatic 637, 3) := by decide +kernel
theorem dJ0_indexOf_7cf53_20 : decode cJ0_indexOf_7cf53 20 = .ok (.goto 16, 3) := by decide +kernel
theorem dJ0_indexOf_7cf53_23 : decode cJ0_indexOf_7cf53 23 = .ok (.aload_n 0, 1) := by decide +kernel
theorem dJ0_indexOf_7cf53_24 : decode cJ0_indexOf_7cf53 24 = .ok (.getfield 9, 3) := by decide +kernel
theorem dJ0_indexOf_7cf53_27 : decode cJ0_indexOf_7cf53 27 = .ok (.iload_n 1, 1) := by decide +kernel
theorem dJ0_indexOf_7cf53_28 : decode cJ0_indexOf_7cf53 28 = .ok (.iload_n 2, 1) := by decide +kernel
theorem dJ0_indexOf_7cf53_29 : decode cJ0_indexOf_7cf53 29 = .ok (.aload_n 0, 1) := by decide +kernel
theorem dJ0_indexOf_7cf53_30 : decode cJ0_indexOf_7cf53 30 = .ok (.invokevirtual 505, 3) := by decide +kernel
theorem dJ0_indexOf_7cf53_33 : decode cJ0_indexOf_7cf53 33 = .ok (.invokestatic 640, 3) := by decide +kernel
theorem dJ0_indexOf_7cf53_36 : decode cJ0_indexOf_7cf53 36 = .ok (.ireturn, 1) := by decide +kernel
theorem dJ0_coder_7d493_0 : decode cJ0_coder_7d493 0 = .ok (.getstatic 38, 3) := by decide +kernel
theorem dJ0_coder_7d493_3 : decode cJ0_coder_7d493 3 = .ok (.ifCond .eq 10, 3) := by decide +kernel
theorem dJ0_coder_7d493_6 : decode cJ0_coder_7d493 6 = .ok (.aload_n 0, 1) := by decide +kernel
theorem dJ0_coder_7d493_7 : decode cJ0_coder_7d493 7 = .ok (.getfield 15, 3) := by decide +kernel
theorem dJ0_coder_7d493_10 : decode cJ0_coder_7d493 10 = .ok (.goto 4, 3) := by decide +kernel
theorem dJ0_coder_7d493_13 : decode cJ0_coder_7d493 13 = .ok (.iconst 1, 1) := by decide +kernel
theorem dJ0_coder_7d493_14 : decode cJ0_coder_7d493 14 = .ok (.ireturn, 1) := by decide +kernel
theorem dJ0_isLatin1_aae02_0 : decode cJ0_isLatin1_aae02 0 = .ok (.getstatic 38, 3) := by decide +kernel
theorem dJ0_isLatin1_aae02_3 : decode cJ0_isLatin1_aae02 3 = .ok (.ifCond .eq 14, 3) := by decide +kernel
theorem dJ0_isLatin1_aae02_6 : decode cJ0_isLatin1_aae02 6 = .ok (.aload_n 0, 1) := by decide +kernel
theorem dJ0_isLatin1_aae02_7 : decode cJ0_isLatin1_aae02 7 = .ok (.getfield 15, 3) := by decide +kernel
theorem dJ0_isLatin1_aae02_10 : decode cJ0_isLatin1_aae02 10 = .ok (.ifCond .ne 7, 3) := by decide +kernel
theorem dJ0_isLatin1_aae02_13 : decode cJ0_isLatin1_aae02 13 = .ok (.iconst 1, 1) := by decide +kernel
theorem dJ0_isLatin1_aae02_14 : decode cJ0_isLatin1_aae02 14 = .ok (.goto 4, 3) := by decide +kernel
theorem dJ0_isLatin1_aae02_17 : decode cJ0_isLatin1_aae02 17 = .ok (.iconst 0, 1) := by decide +kernel
theorem dJ0_isLatin1_aae02_18 : decode cJ0_isLatin1_aae02 18 = .ok (.ireturn, 1) := by decide +kernel
theorem dJ0_checkBoundsBeginEnd_23922_0 : decode cJ0_checkBoundsBeginEnd_23922 0 = .ok (.iload_n 0, 1) := by decide +kernel
theorem dJ0_checkBoundsBeginEnd_23922_1 : decode cJ0_checkBoundsBeginEnd_23922 1 = .ok (.iload_n 1, 1) := by decide +kernel
theorem dJ0_checkBoundsBeginEnd_23922_2 : decode cJ0_checkBoundsBeginEnd_23922 2 = .ok (.iload_n 2, 1) := by decide +kernel
theorem dJ0_checkBoundsBeginEnd_23922_3 : decode cJ0_checkBoundsBeginEnd_23922 3 = .ok (.getstatic 1053, 3) := by decide +kernel
theorem dJ0_checkBoundsBeginEnd_23922_6 : decode cJ0_checkBoundsBeginEnd_23922 6 = .ok (.invokestatic 1062, 3) := by decide +kernel
theorem dJ0_checkBoundsBeginEnd_23922_9 : decode cJ0_checkBoundsBeginEnd_23922 9 = .ok (.pop, 1) := by decide +kernel
theorem dJ0_checkBoundsBeginEnd_23922_10 : decode cJ0_checkBoundsBeginEnd_23922 10 = .ok (.return_, 1) := by decide +kernel
theorem dJ1_canEncode_9a6ad_0 : decode cJ1_canEncode_9a6ad 0 = .ok (.iload_n 0, 1) := by decide +kernel
theorem dJ1_canEncode_9a6ad_1 : decode cJ1_canEncode_9a6ad 1 = .ok (.ifCond .lt 14, 3) := by decide +kernel
theorem dJ1_canEncode_9a6ad_4 : decode cJ1_canEncode_9a6ad 4 = .ok (.iload_n 0, 1) := by decide +kernel
theorem dJ1_canEncode_9a6ad_5 : decode cJ1_canEncode_9a6ad 5 = .ok (.sipush 255, 3) := by decide +kernel
theorem dJ1_canEncode_9a6ad_8 : decode cJ1_canEncode_9a6ad 8 = .ok (.if_icmp .gt 7, 3) := by decide +kernel
theorem dJ1_canEncode_9a6ad_11 : decode cJ1_canEncode_9a6ad 11 = .ok (.iconst 1, 1) := by decide +kernel
theorem dJ1_canEncode_9a6ad_12 : decode cJ1_canEncode_9a6ad 12 = .ok (.goto 4, 3) := by decide +kernel
theorem dJ1_canEncode_9a6ad_15 : decode cJ1_canEncode_9a6ad 15 = .ok (.iconst 0, 1) := by decide +kernel
theorem dJ1_canEncode_9a6ad_16 : decode cJ1_canEncode_9a6ad 16 = .ok (.ireturn, 1) := by decide +kernel
theorem dJ1_indexOf_4cfef_0 : decode cJ1_indexOf_4cfef 0 = .ok (.iload_n 1, 1) := by decide +kernel
theorem dJ1_indexOf_4cfef_1 : decode cJ1_indexOf_4cfef 1 = .ok (.invokestatic 88, 3) := by decide +kernel
theorem dJ1_indexOf_4cfef_4 : decode cJ1_indexOf_4cfef 4 = .ok (.ifCond .ne 5, 3) := by decide +kernel
theorem dJ1_indexOf_4cfef_7 : decode cJ1_indexOf_4cfef 7 = .ok (.iconst (-1), 1) := by decide +kernel
theorem dJ1_indexOf_4cfef_8 : decode cJ1_indexOf_4cfef 8 = .ok (.ireturn, 1) := by decide +kernel
theorem dJ1_indexOf_4cfef_9 : decode cJ1_indexOf_4cfef 9 = .ok (.iload_n 2, 1) := by decide +kernel
theorem dJ1_indexOf_4cfef_10 : decode cJ1_indexOf_4cfef 10 = .ok (.iconst 0, 1) := by decide +kernel
theorem dJ1_indexOf_4cfef_11 : decode cJ1_indexOf_4cfef 11 = .ok (.invokestatic 92, 3) := by decide +kernel
theorem dJ1_indexOf_4cfef_14 : decode cJ1_indexOf_4cfef 14 = .ok (.istore_n 2, 1) := by decide +kernel
theorem dJ1_indexOf_4cfef_15 : decode cJ1_indexOf_4cfef 15 = .ok (.iload_n 3, 1) := by decide +kernel
theorem dJ1_indexOf_4cfef_16 : decode cJ1_indexOf_4cfef 16 = .ok (.aload_n 0, 1) := by decide +kernel
theorem dJ1_indexOf_4cfef_17 : decode cJ1_indexOf_4cfef 17 = .ok (.arraylength, 1) := by decide +kernel
theorem dJ1_indexOf_4cfef_18 : decode cJ1_indexOf_4cfef 18 = .ok (.invokestatic 38, 3) := by decide +kernel
theorem dJ1_indexOf_4cfef_21 : decode cJ1_indexOf_4cfef 21 = .ok (.istore_n 3, 1) := by decide +kernel
theorem dJ1_indexOf_4cfef_22 : decode cJ1_indexOf_4cfef 22 = .ok (.iload_n 2, 1) := by decide +kernel
theorem dJ1_indexOf_4cfef_23 : decode cJ1_indexOf_4cfef 23 = .ok (.iload_n 3, 1) := by decide +kernel
theorem dJ1_indexOf_4cfef_24 : decode cJ1_indexOf_4cfef 24 = .ok (.if_icmp .lt 5, 3) := by decide +kernel
theorem dJ1_indexOf_4cfef_27 : decode cJ1_indexOf_4cfef 27 = .ok (.iconst (-1), 1) := by decide +kernel
theorem dJ1_indexOf_4cfef_28 : decode cJ1_indexOf_4cfef 28 = .ok (.ireturn, 1) := by decide +kernel
theorem dJ1_indexOf_4cfef_29 : decode cJ1_indexOf_4cfef 29 = .ok (.aload_n 0, 1) := by decide +kernel
theorem dJ1_indexOf_4cfef_30 : decode cJ1_indexOf_4cfef 30 = .ok (.iload_n 1, 1) := by decide +kernel
theorem dJ1_indexOf_4cfef_31 : decode cJ1_indexOf_4cfef 31 = .ok (.iload_n 2, 1) := by decide +kernel
theorem dJ1_indexOf_4cfef_32 : decode cJ1_indexOf_4cfef 32 = .ok (.iload_n 3, 1) := by decide +kernel
theorem dJ1_indexOf_4cfef_33 : decode cJ1_indexOf_4cfef 33 = .ok (.invokestatic 95, 3) := by decide +kernel
theorem dJ1_indexOf_4cfef_36 : decode cJ1_indexOf_4cfef 36 = .ok (.ireturn, 1) := by decide +kernel
theorem dJ1_indexOfChar_4cfef_0 : decode cJ1_indexOfChar_4cfef 0 = .ok (.iload_n 1, 1) := by decide +kernel
theorem dJ1_indexOfChar_4cfef_1 : decode cJ1_indexOfChar_4cfef 1 = .ok (.i2b, 1) := by decide +kernel
theorem dJ1_indexOfChar_4cfef_2 : decode cJ1_indexOfChar_4cfef 2 = .ok (.istore 4, 2) := by decide +kernel
theorem dJ1_indexOfChar_4cfef_4 : decode cJ1_indexOfChar_4cfef 4 = .ok (.iload_n 2, 1) := by decide +kernel
theorem dJ1_indexOfChar_4cfef_5 : decode cJ1_indexOfChar_4cfef 5 = .ok (.istore 5, 2) := by decide +kernel
theorem dJ1_indexOfChar_4cfef_7 : decode cJ1_indexOfChar_4cfef 7 = .ok (.iload 5, 2) := by decide +kernel
theorem dJ1_indexOfChar_4cfef_9 : decode cJ1_indexOfChar_4cfef 9 = .ok (.iload_n 3, 1) := by decide +kernel
theorem dJ1_indexOfChar_4cfef_10 : decode cJ1_indexOfChar_4cfef 10 = .ok (.if_icmp .ge 21, 3) := by decide +kernel
theorem dJ1_indexOfChar_4cfef_13 : decode cJ1_indexOfChar_4cfef 13 = .ok (.aload_n 0, 1) := by decide +kernel
theorem dJ1_indexOfChar_4cfef_14 : decode cJ1_indexOfChar_4cfef 14 = .ok (.iload 5, 2) := by decide +kernel
theorem dJ1_indexOfChar_4cfef_16 : decode cJ1_indexOfChar_4cfef 16 = .ok (.baload, 1) := by decide +kernel
theorem dJ1_indexOfChar_4cfef_17 : decode cJ1_indexOfChar_4cfef 17 = .ok (.iload 4, 2) := by decide +kernel
theorem dJ1_indexOfChar_4cfef_19 : decode cJ1_indexOfChar_4cfef 19 = .ok (.if_icmp .ne 6, 3) := by decide +kernel
theorem dJ1_indexOfChar_4cfef_22 : decode cJ1_indexOfChar_4cfef 22 = .ok (.iload 5, 2) := by decide +kernel
theorem dJ1_indexOfChar_4cfef_24 : decode cJ1_indexOfChar_4cfef 24 = .ok (.ireturn, 1) := by decide +kernel
theorem dJ1_indexOfChar_4cfef_25 : decode cJ1_indexOfChar_4cfef 25 = .ok (.iinc 5 1, 3) := by decide +kernel
theorem dJ1_indexOfChar_4cfef_28 : decode cJ1_indexOfChar_4cfef 28 = .ok (.goto (-21), 3) := by decide +kernel
theorem dJ1_indexOfChar_4cfef_31 : decode cJ1_indexOfChar_4cfef 31 = .ok (.iconst (-1), 1) := by decide +kernel
theorem dJ1_indexOfChar_4cfef_32 : decode cJ1_indexOfChar_4cfef 32 = .ok (.ireturn, 1) := by decide +kernel
theorem dJ2_getChar_3b067_0 : decode cJ2_getChar_3b067 0 = .ok (.getstatic 44, 3) := by decide +kernel
theorem dJ2_getChar_3b067_3 : decode cJ2_getChar_3b067 3 = .ok (.ifCond .ne 25, 3) := by decide +kernel
theorem dJ2_getChar_3b067_6 : decode cJ2_getChar_3b067 6 = .ok (.iload_n 1, 1) := by decide +kernel
theorem dJ2_getChar_3b067_7 : decode cJ2_getChar_3b067 7 = .ok (.ifCond .lt 11, 3) := by decide +kernel
theorem dJ2_getChar_3b067_10 : decode cJ2_getChar_3b067 10 = .ok (.iload_n 1, 1) := by decide +kernel
theorem dJ2_getChar_3b067_11 : decode cJ2_getChar_3b067 11 = .ok (.aload_n 0, 1) := by decide +kernel
theorem dJ2_getChar_3b067_12 : decode cJ2_getChar_3b067 12 = .ok (.invokestatic 48, 3) := by decide +kernel
theorem dJ2_getChar_3b067_15 : decode cJ2_getChar_3b067 15 = .ok (.if_icmp .lt 13, 3) := by decide +kernel
theorem dJ2_getChar_3b067_18 : decode cJ2_getChar_3b067 18 = .ok (.new 52, 3) := by decide +kernel
theorem dJ2_getChar_3b067_21 : decode cJ2_getChar_3b067 21 = .ok (.dup, 1) := by decide +kernel
theorem dJ2_getChar_3b067_22 : decode cJ2_getChar_3b067 22 = .ok (.ldc 54, 2) := by decide +kernel
theorem dJ2_getChar_3b067_24 : decode cJ2_getChar_3b067 24 = .ok (.invokespecial 56, 3) := by decide +kernel
theorem dJ2_getChar_3b067_27 : decode cJ2_getChar_3b067 27 = .ok (.athrow, 1) := by decide +kernel
theorem dJ2_getChar_3b067_28 : decode cJ2_getChar_3b067 28 = .ok (.iload_n 1, 1) := by decide +kernel
theorem dJ2_getChar_3b067_29 : decode cJ2_getChar_3b067 29 = .ok (.iconst 1, 1) := by decide +kernel
theorem dJ2_getChar_3b067_30 : decode cJ2_getChar_3b067 30 = .ok (.ishl, 1) := by decide +kernel
theorem dJ2_getChar_3b067_31 : decode cJ2_getChar_3b067 31 = .ok (.istore_n 1, 1) := by decide +kernel
theorem dJ2_getChar_3b067_32 : decode cJ2_getChar_3b067 32 = .ok (.aload_n 0, 1) := by decide +kernel
theorem dJ2_getChar_3b067_33 : decode cJ2_getChar_3b067 33 = .ok (.iload_n 1, 1) := by decide +kernel
theorem dJ2_getChar_3b067_34 : decode cJ2_getChar_3b067 34 = .ok (.iinc 1 1, 3) := by decide +kernel
theorem dJ2_getChar_3b067_37 : decode cJ2_getChar_3b067 37 = .ok (.baload, 1) := by decide +kernel
theorem dJ2_getChar_3b067_38 : decode cJ2_getChar_3b067 38 = .ok (.sipush 255, 3) := by decide +kernel
theorem dJ2_getChar_3b067_41 : decode cJ2_getChar_3b067 41 = .ok (.iand, 1) := by decide +kernel
theorem dJ2_getChar_3b067_42 : decode cJ2_getChar_3b067 42 = .ok (.getstatic 59, 3) := by decide +kernel
theorem dJ2_getChar_3b067_45 : decode cJ2_getChar_3b067 45 = .ok (.ishl, 1) := by decide +kernel
theorem dJ2_getChar_3b067_46 : decode cJ2_getChar_3b067 46 = .ok (.aload_n 0, 1) := by decide +kernel
theorem dJ2_getChar_3b067_47 : decode cJ2_getChar_3b067 47 = .ok (.iload_n 1, 1) := by decide +kernel
theorem dJ2_getChar_3b067_48 : decode cJ2_getChar_3b067 48 = .ok (.baload, 1) := by decide +kernel
theorem dJ2_getChar_3b067_49 : decode cJ2_getChar_3b067 49 = .ok (.sipush 255, 3) := by decide +kernel
theorem dJ2_getChar_3b067_52 : decode cJ2_getChar_3b067 52 = .ok (.iand, 1) := by decide +kernel
theorem dJ2_getChar_3b067_53 : decode cJ2_getChar_3b067 53 = .ok (.getstatic 63, 3) := by decide +kernel
theorem dJ2_getChar_3b067_56 : decode cJ2_getChar_3b067 56 = .ok (.ishl, 1) := by decide +kernel
theorem dJ2_getChar_3b067_57 : decode cJ2_getChar_3b067 57 = .ok (.ior, 1) := by decide +kernel
theorem dJ2_getChar_3b067_58 : decode cJ2_getChar_3b067 58 = .ok (.i2c, 1) := by decide +kernel
theorem dJ2_getChar_3b067_59 : decode cJ2_getChar_3b067 59 = .ok (.ireturn, 1) := by decide +kernel
theorem dJ2_length_9d52b_0 : decode cJ2_length_9d52b 0 = .ok (.aload_n 0, 1) := by decide +kernel
theorem dJ2_length_9d52b_1 : decode cJ2_length_9d52b 1 = .ok (.arraylength, 1) := by decide +kernel
theorem dJ2_length_9d52b_2 : decode cJ2_length_9d52b 2 = .ok (.iconst 1, 1) := by decide +kernel
theorem dJ2_length_9d52b_3 : decode cJ2_length_9d52b 3 = .ok (.ishr, 1) := by decide +kernel
theorem dJ2_length_9d52b_4 : decode cJ2_length_9d52b 4 = .ok (.ireturn, 1) := by decide +kernel
theorem dJ2_indexOf_4cfef_0 : decode cJ2_indexOf_4cfef 0 = .ok (.iload_n 2, 1) := by decide +kernel
theorem dJ2_indexOf_4cfef_1 : decode cJ2_indexOf_4cfef 1 = .ok (.iconst 0, 1) := by decide +kernel
theorem dJ2_indexOf_4cfef_2 : decode cJ2_indexOf_4cfef 2 = .ok (.invokestatic 224, 3) := by decide +kernel
theorem dJ2_indexOf_4cfef_5 : decode cJ2_indexOf_4cfef 5 = .ok (.istore_n 2, 1) := by decide +kernel
theorem dJ2_indexOf_4cfef_6 : decode cJ2_indexOf_4cfef 6 = .ok (.iload_n 3, 1) := by decide +kernel
theorem dJ2_indexOf_4cfef_7 : decode cJ2_indexOf_4cfef 7 = .ok (.aload_n 0, 1) := by decide +kernel
theorem dJ2_indexOf_4cfef_8 : decode cJ2_indexOf_4cfef 8 = .ok (.arraylength, 1) := by decide +kernel
theorem dJ2_indexOf_4cfef_9 : decode cJ2_indexOf_4cfef 9 = .ok (.iconst 1, 1) := by decide +kernel
theorem dJ2_indexOf_4cfef_10 : decode cJ2_indexOf_4cfef 10 = .ok (.ishr, 1) := by decide +kernel
theorem dJ2_indexOf_4cfef_11 : decode cJ2_indexOf_4cfef 11 = .ok (.invokestatic 183, 3) := by decide +kernel
theorem dJ2_indexOf_4cfef_14 : decode cJ2_indexOf_4cfef 14 = .ok (.istore_n 3, 1) := by decide +kernel
theorem dJ2_indexOf_4cfef_15 : decode cJ2_indexOf_4cfef 15 = .ok (.iload_n 2, 1) := by decide +kernel
theorem dJ2_indexOf_4cfef_16 : decode cJ2_indexOf_4cfef 16 = .ok (.iload_n 3, 1) := by decide +kernel
theorem dJ2_indexOf_4cfef_17 : decode cJ2_indexOf_4cfef 17 = .ok (.if_icmp .lt 5, 3) := by decide +kernel
theorem dJ2_indexOf_4cfef_20 : decode cJ2_indexOf_4cfef 20 = .ok (.iconst (-1), 1) := by decide +kernel
theorem dJ2_indexOf_4cfef_21 : decode cJ2_indexOf_4cfef 21 = .ok (.ireturn, 1) := by decide +kernel
theorem dJ2_indexOf_4cfef_22 : decode cJ2_indexOf_4cfef 22 = .ok (.iload_n 1, 1) := by decide +kernel
theorem dJ2_indexOf_4cfef_23 : decode cJ2_indexOf_4cfef 23 = .ok (.ldc 227, 2) := by decide +kernel
theorem dJ2_indexOf_4cfef_25 : decode cJ2_indexOf_4cfef 25 = .ok (.if_icmp .ge 11, 3) := by decide +kernel
theorem dJ2_indexOf_4cfef_28 : decode cJ2_indexOf_4cfef 28 = .ok (.aload_n 0, 1) := by decide +kernel
theorem dJ2_indexOf_4cfef_29 : decode cJ2_indexOf_4cfef 29 = .ok (.iload_n 1, 1) := by decide +kernel
theorem dJ2_indexOf_4cfef_30 : decode cJ2_indexOf_4cfef 30 = .ok (.iload_n 2, 1) := by decide +kernel
theorem dJ2_indexOf_4cfef_31 : decode cJ2_indexOf_4cfef 31 = .ok (.iload_n 3, 1) := by decide +kernel
theorem dJ2_indexOf_4cfef_32 : decode cJ2_indexOf_4cfef 32 = .ok (.invokestatic 228, 3) := by decide +kernel
theorem dJ2_indexOf_4cfef_35 : decode cJ2_indexOf_4cfef 35 = .ok (.ireturn, 1) := by decide +kernel
theorem dJ2_indexOf_4cfef_36 : decode cJ2_indexOf_4cfef 36 = .ok (.aload_n 0, 1) := by decide +kernel
theorem dJ2_indexOf_4cfef_37 : decode cJ2_indexOf_4cfef 37 = .ok (.iload_n 1, 1) := by decide +kernel
theorem dJ2_indexOf_4cfef_38 : decode cJ2_indexOf_4cfef 38 = .ok (.iload_n 2, 1) := by decide +kernel
theorem dJ2_indexOf_4cfef_39 : decode cJ2_indexOf_4cfef 39 = .ok (.iload_n 3, 1) := by decide +kernel
theorem dJ2_indexOf_4cfef_40 : decode cJ2_indexOf_4cfef 40 = .ok (.invokestatic 232, 3) := by decide +kernel
theorem dJ2_indexOf_4cfef_43 : decode cJ2_indexOf_4cfef 43 = .ok (.ireturn, 1) := by decide +kernel
theorem dJ2_indexOfChar_4cfef_0 : decode cJ2_indexOfChar_4cfef 0 = .ok (.iload_n 2, 1) := by decide +kernel
theorem dJ2_indexOfChar_4cfef_1 : decode cJ2_indexOfChar_4cfef 1 = .ok (.iload_n 3, 1) := by decide +kernel
theorem dJ2_indexOfChar_4cfef_2 : decode cJ2_indexOfChar_4cfef 2 = .ok (.aload_n 0, 1) := by decide +kernel
theorem dJ2_indexOfChar_4cfef_3 : decode cJ2_indexOfChar_4cfef 3 = .ok (.invokestatic 96, 3) := by decide +kernel
theorem dJ2_indexOfChar_4cfef_6 : decode cJ2_indexOfChar_4cfef 6 = .ok (.aload_n 0, 1) := by decide +kernel
theorem dJ2_indexOfChar_4cfef_7 : decode cJ2_indexOfChar_4cfef 7 = .ok (.iload_n 1, 1) := by decide +kernel
theorem dJ2_indexOfChar_4cfef_8 : decode cJ2_indexOfChar_4cfef 8 = .ok (.iload_n 2, 1) := by decide +kernel
theorem dJ2_indexOfChar_4cfef_9 : decode cJ2_indexOfChar_4cfef 9 = .ok (.iload_n 3, 1) := by decide +kernel
theorem dJ2_indexOfChar_4cfef_10 : decode cJ2_indexOfChar_4cfef 10 = .ok (.invokestatic 244, 3) := by decide +kernel
theorem dJ2_indexOfChar_4cfef_13 : decode cJ2_indexOfChar_4cfef 13 = .ok (.ireturn, 1) := by decide +kernel
theorem dJ2_indexOfCharUnsafe_4cfef_0 : decode cJ2_indexOfCharUnsafe_4cfef 0 = .ok (.iload_n 2, 1) := by decide +kernel
theorem dJ2_indexOfCharUnsafe_4cfef_1 : decode cJ2_indexOfCharUnsafe_4cfef 1 = .ok (.istore 4, 2) := by decide +kernel
theorem dJ2_indexOfCharUnsafe_4cfef_3 : decode cJ2_indexOfCharUnsafe_4cfef 3 = .ok (.iload 4, 2) := by decide +kernel
theorem dJ2_indexOfCharUnsafe_4cfef_5 : decode cJ2_indexOfCharUnsafe_4cfef 5 = .ok (.iload_n 3, 1) := by decide +kernel
theorem dJ2_indexOfCharUnsafe_4cfef_6 : decode cJ2_indexOfCharUnsafe_4cfef 6 = .ok (.if_icmp .ge 22, 3) := by decide +kernel
theorem dJ2_indexOfCharUnsafe_4cfef_9 : decode cJ2_indexOfCharUnsafe_4cfef 9 = .ok (.aload_n 0, 1) := by decide +kernel
theorem dJ2_indexOfCharUnsafe_4cfef_10 : decode cJ2_indexOfCharUnsafe_4cfef 10 = .ok (.iload 4, 2) := by decide +kernel
theorem dJ2_indexOfCharUnsafe_4cfef_12 : decode cJ2_indexOfCharUnsafe_4cfef 12 = .ok (.invokestatic 71, 3) := by decide +kernel
theorem dJ2_indexOfCharUnsafe_4cfef_15 : decode cJ2_indexOfCharUnsafe_4cfef 15 = .ok (.iload_n 1, 1) := by decide +kernel
theorem dJ2_indexOfCharUnsafe_4cfef_16 : decode cJ2_indexOfCharUnsafe_4cfef 16 = .ok (.if_icmp .ne 6, 3) := by decide +kernel
theorem dJ2_indexOfCharUnsafe_4cfef_19 : decode cJ2_indexOfCharUnsafe_4cfef 19 = .ok (.iload 4, 2) := by decide +kernel
theorem dJ2_indexOfCharUnsafe_4cfef_21 : decode cJ2_indexOfCharUnsafe_4cfef 21 = .ok (.ireturn, 1) := by decide +kernel
theorem dJ2_indexOfCharUnsafe_4cfef_22 : decode cJ2_indexOfCharUnsafe_4cfef 22 = .ok (.iinc 4 1, 3) := by decide +kernel
theorem dJ2_indexOfCharUnsafe_4cfef_25 : decode cJ2_indexOfCharUnsafe_4cfef 25 = .ok (.goto (-22), 3) := by decide +kernel
theorem dJ2_indexOfCharUnsafe_4cfef_28 : decode cJ2_indexOfCharUnsafe_4cfef 28 = .ok (.iconst (-1), 1) := by decide +kernel
theorem dJ2_indexOfCharUnsafe_4cfef_29 : decode cJ2_indexOfCharUnsafe_4cfef 29 = .ok (.ireturn, 1) := by decide +kernel
theorem dJ2_indexOfSupplementary_4cfef_0 : decode cJ2_indexOfSupplementary_4cfef 0 = .ok (.iload_n 1, 1) := by decide +kernel
theorem dJ2_indexOfSupplementary_4cfef_1 : decode cJ2_indexOfSupplementary_4cfef 1 = .ok (.invokestatic 164, 3) := by decide +kernel
theorem dJ2_indexOfSupplementary_4cfef_4 : decode cJ2_indexOfSupplementary_4cfef 4 = .ok (.ifCond .eq 65, 3) := by decide +kernel
theorem dJ2_indexOfSupplementary_4cfef_7 : decode cJ2_indexOfSupplementary_4cfef 7 = .ok (.iload_n 1, 1) := by decide +kernel
theorem dJ2_indexOfSupplementary_4cfef_8 : decode cJ2_indexOfSupplementary_4cfef 8 = .ok (.invokestatic 157, 3) := by decide +kernel
theorem dJ2_indexOfSupplementary_4cfef_11 : decode cJ2_indexOfSupplementary_4cfef 11 = .ok (.istore 4, 2) := by decide +kernel
theorem dJ2_indexOfSupplementary_4cfef_13 : decode cJ2_indexOfSupplementary_4cfef 13 = .ok (.iload_n 1, 1) := by decide +kernel
theorem dJ2_indexOfSupplementary_4cfef_14 : decode cJ2_indexOfSupplementary_4cfef 14 = .ok (.invokestatic 161, 3) := by decide +kernel
theorem dJ2_indexOfSupplementary_4cfef_17 : decode cJ2_indexOfSupplementary_4cfef 17 = .ok (.istore 5, 2) := by decide +kernel
theorem dJ2_indexOfSupplementary_4cfef_19 : decode cJ2_indexOfSupplementary_4cfef 19 = .ok (.iload_n 2, 1) := by decide +kernel
theorem dJ2_indexOfSupplementary_4cfef_20 : decode cJ2_indexOfSupplementary_4cfef 20 = .ok (.iload_n 3, 1) := by decide +kernel
theorem dJ2_indexOfSupplementary_4cfef_21 : decode cJ2_indexOfSupplementary_4cfef 21 = .ok (.aload_n 0, 1) := by decide +kernel
theorem dJ2_indexOfSupplementary_4cfef_22 : decode cJ2_indexOfSupplementary_4cfef 22 = .ok (.invokestatic 96, 3) := by decide +kernel
theorem dJ2_indexOfSupplementary_4cfef_25 : decode cJ2_indexOfSupplementary_4cfef 25 = .ok (.iload_n 2, 1) := by decide +kernel
theorem dJ2_indexOfSupplementary_4cfef_26 : decode cJ2_indexOfSupplementary_4cfef 26 = .ok (.istore 6, 2) := by decide +kernel
theorem dJ2_indexOfSupplementary_4cfef_28 : decode cJ2_indexOfSupplementary_4cfef 28 = .ok (.iload 6, 2) := by decide +kernel
theorem dJ2_indexOfSupplementary_4cfef_30 : decode cJ2_indexOfSupplementary_4cfef 30 = .ok (.iload_n 3, 1) := by decide +kernel
theorem dJ2_indexOfSupplementary_4cfef_31 : decode cJ2_indexOfSupplementary_4cfef 31 = .ok (.iconst 1, 1) := by decide +kernel
theorem dJ2_indexOfSupplementary_4cfef_32 : decode cJ2_indexOfSupplementary_4cfef 32 = .ok (.isub, 1) := by decide +kernel
theorem dJ2_indexOfSupplementary_4cfef_33 : decode cJ2_indexOfSupplementary_4cfef 33 = .ok (.if_icmp .ge 36, 3) := by decide +kernel
theorem dJ2_indexOfSupplementary_4cfef_36 : decode cJ2_indexOfSupplementary_4cfef 36 = .ok (.aload_n 0, 1) := by decide +kernel
theorem dJ2_indexOfSupplementary_4cfef_37 : decode cJ2_indexOfSupplementary_4cfef 37 = .ok (.iload 6, 2) := by decide +kernel
theorem dJ2_indexOfSupplementary_4cfef_39 : decode cJ2_indexOfSupplementary_4cfef 39 = .ok (.invokestatic 71, 3) := by decide +kernel
theorem dJ2_indexOfSupplementary_4cfef_42 : decode cJ2_indexOfSupplementary_4cfef 42 = .ok (.iload 4, 2) := by decide +kernel
theorem dJ2_indexOfSupplementary_4cfef_44 : decode cJ2_indexOfSupplementary_4cfef 44 = .ok (.if_icmp .ne 19, 3) := by decide +kernel
theorem dJ2_indexOfSupplementary_4cfef_47 : decode cJ2_indexOfSupplementary_4cfef 47 = .ok (.aload_n 0, 1) := by decide +kernel
theorem dJ2_indexOfSupplementary_4cfef_48 : decode cJ2_indexOfSupplementary_4cfef 48 = .ok (.iload 6, 2) := by decide +kernel
theorem dJ2_indexOfSupplementary_4cfef_50 : decode cJ2_indexOfSupplementary_4cfef 50 = .ok (.iconst 1, 1) := by decide +kernel
theorem dJ2_indexOfSupplementary_4cfef_51 : decode cJ2_indexOfSupplementary_4cfef 51 = .ok (.iadd, 1) := by decide +kernel
theorem dJ2_indexOfSupplementary_4cfef_52 : decode cJ2_indexOfSupplementary_4cfef 52 = .ok (.invokestatic 71, 3) := by decide +kernel
theorem dJ2_indexOfSupplementary_4cfef_55 : decode cJ2_indexOfSupplementary_4cfef 55 = .ok (.iload 5, 2) := by decide +kernel
theorem dJ2_indexOfSupplementary_4cfef_57 : decode cJ2_indexOfSupplementary_4cfef 57 = .ok (.if_icmp .ne 6, 3) := by decide +kernel
theorem dJ2_indexOfSupplementary_4cfef_60 : decode cJ2_indexOfSupplementary_4cfef 60 = .ok (.iload 6, 2) := by decide +kernel
theorem dJ2_indexOfSupplementary_4cfef_62 : decode cJ2_indexOfSupplementary_4cfef 62 = .ok (.ireturn, 1) := by decide +kernel
theorem dJ2_indexOfSupplementary_4cfef_63 : decode cJ2_indexOfSupplementary_4cfef 63 = .ok (.iinc 6 1, 3) := by decide +kernel
theorem dJ2_indexOfSupplementary_4cfef_66 : decode cJ2_indexOfSupplementary_4cfef 66 = .ok (.goto (-38), 3) := by decide +kernel
theorem dJ2_indexOfSupplementary_4cfef_69 : decode cJ2_indexOfSupplementary_4cfef 69 = .ok (.iconst (-1), 1) := by decide +kernel
theorem dJ2_indexOfSupplementary_4cfef_70 : decode cJ2_indexOfSupplementary_4cfef 70 = .ok (.ireturn, 1) := by decide +kernel
theorem dJ2_checkBoundsBeginEnd_d044e_0 : decode cJ2_checkBoundsBeginEnd_d044e 0 = .ok (.iload_n 0, 1) := by decide +kernel
theorem dJ2_checkBoundsBeginEnd_d044e_1 : decode cJ2_checkBoundsBeginEnd_d044e 1 = .ok (.iload_n 1, 1) := by decide +kernel
theorem dJ2_checkBoundsBeginEnd_d044e_2 : decode cJ2_checkBoundsBeginEnd_d044e 2 = .ok (.aload_n 2, 1) := by decide +kernel
theorem dJ2_checkBoundsBeginEnd_d044e_3 : decode cJ2_checkBoundsBeginEnd_d044e 3 = .ok (.invokestatic 48, 3) := by decide +kernel
theorem dJ2_checkBoundsBeginEnd_d044e_6 : decode cJ2_checkBoundsBeginEnd_d044e 6 = .ok (.invokestatic 241, 3) := by decide +kernel
theorem dJ2_checkBoundsBeginEnd_d044e_9 : decode cJ2_checkBoundsBeginEnd_d044e 9 = .ok (.return_, 1) := by decide +kernel
theorem dJ3_checkFromToIndex_8c36e_0 : decode cJ3_checkFromToIndex_8c36e 0 = .ok (.iload_n 0, 1) := by decide +kernel
theorem dJ3_checkFromToIndex_8c36e_1 : decode cJ3_checkFromToIndex_8c36e 1 = .ok (.ifCond .lt 13, 3) := by decide +kernel
theorem dJ3_checkFromToIndex_8c36e_4 : decode cJ3_checkFromToIndex_8c36e 4 = .ok (.iload_n 0, 1) := by decide +kernel
theorem dJ3_checkFromToIndex_8c36e_5 : decode cJ3_checkFromToIndex_8c36e 5 = .ok (.iload_n 1, 1) := by decide +kernel
theorem dJ3_checkFromToIndex_8c36e_6 : decode cJ3_checkFromToIndex_8c36e 6 = .ok (.if_icmp .gt 8, 3) := by decide +kernel
theorem dJ3_checkFromToIndex_8c36e_9 : decode cJ3_checkFromToIndex_8c36e 9 = .ok (.iload_n 1, 1) := by decide +kernel
theorem dJ3_checkFromToIndex_8c36e_10 : decode cJ3_checkFromToIndex_8c36e 10 = .ok (.iload_n 2, 1) := by decide +kernel
theorem dJ3_checkFromToIndex_8c36e_11 : decode cJ3_checkFromToIndex_8c36e 11 = .ok (.if_icmp .le 11, 3) := by decide +kernel
theorem dJ3_checkFromToIndex_8c36e_14 : decode cJ3_checkFromToIndex_8c36e 14 = .ok (.aload_n 3, 1) := by decide +kernel
theorem dJ3_checkFromToIndex_8c36e_15 : decode cJ3_checkFromToIndex_8c36e 15 = .ok (.iload_n 0, 1) := by decide +kernel
theorem dJ3_checkFromToIndex_8c36e_16 : decode cJ3_checkFromToIndex_8c36e 16 = .ok (.iload_n 1, 1) := by decide +kernel
theorem dJ3_checkFromToIndex_8c36e_17 : decode cJ3_checkFromToIndex_8c36e 17 = .ok (.iload_n 2, 1) := by decide +kernel
theorem dJ3_checkFromToIndex_8c36e_18 : decode cJ3_checkFromToIndex_8c36e 18 = .ok (.invokestatic 99, 3) := by decide +kernel
theorem dJ3_checkFromToIndex_8c36e_21 : decode cJ3_checkFromToIndex_8c36e 21 = .ok (.athrow, 1) := by decide +kernel
theorem dJ3_checkFromToIndex_8c36e_22 : decode cJ3_checkFromToIndex_8c36e 22 = .ok (.iload_n 0, 1) := by decide +kernel
theorem dJ3_checkFromToIndex_8c36e_23 : decode cJ3_checkFromToIndex_8c36e 23 = .ok (.ireturn, 1) := by decide +kernel
