theorem dX0_init_0 : decode cX0_init 0 = .ok (.aload_n 0, 1) := by decide +kernel
theorem dX0_init_1 : decode cX0_init 1 = .ok (.invokespecial 3, 3) := by decide +kernel
theorem dX0_init_4 : decode cX0_init 4 = .ok (.aload_n 0, 1) := by decide +kernel
theorem dX0_init_5 : decode cX0_init 5 = .ok (.iconst 4, 1) := by decide +kernel
theorem dX0_init_6 : decode cX0_init 6 = .ok (.newarray .int, 2) := by decide +kernel
theorem dX0_init_8 : decode cX0_init 8 = .ok (.putfield 9, 3) := by decide +kernel
theorem dX0_init_11 : decode cX0_init 11 = .ok (.aload_n 0, 1) := by decide +kernel
theorem dX0_init_12 : decode cX0_init 12 = .ok (.iconst 0, 1) := by decide +kernel
theorem dX0_init_13 : decode cX0_init 13 = .ok (.putfield 15, 3) := by decide +kernel
theorem dX0_init_16 : decode cX0_init 16 = .ok (.aload_n 0, 1) := by decide +kernel
theorem dX0_init_17 : decode cX0_init 17 = .ok (.bipush 9, 2) := by decide +kernel
theorem dX0_init_19 : decode cX0_init 19 = .ok (.newarray .int, 2) := by decide +kernel
theorem dX0_init_21 : decode cX0_init 21 = .ok (.putfield 19, 3) := by decide +kernel
theorem dX0_init_24 : decode cX0_init 24 = .ok (.aload_n 0, 1) := by decide +kernel
theorem dX0_init_25 : decode cX0_init 25 = .ok (.iconst 0, 1) := by decide +kernel
theorem dX0_init_26 : decode cX0_init 26 = .ok (.putfield 22, 3) := by decide +kernel
theorem dX0_init_29 : decode cX0_init 29 = .ok (.return_, 1) := by decide +kernel
theorem dX0_gather_0 : decode cX0_gather 0 = .ok (.aload_n 0, 1) := by decide +kernel
theorem dX0_gather_1 : decode cX0_gather 1 = .ok (.getfield 9, 3) := by decide +kernel
theorem dX0_gather_4 : decode cX0_gather 4 = .ok (.iconst 0, 1) := by decide +kernel
theorem dX0_gather_5 : decode cX0_gather 5 = .ok (.iload_n 1, 1) := by decide +kernel
theorem dX0_gather_6 : decode cX0_gather 6 = .ok (.iastore, 1) := by decide +kernel
theorem dX0_gather_7 : decode cX0_gather 7 = .ok (.aload_n 0, 1) := by decide +kernel
theorem dX0_gather_8 : decode cX0_gather 8 = .ok (.getfield 9, 3) := by decide +kernel
theorem dX0_gather_11 : decode cX0_gather 11 = .ok (.iconst 1, 1) := by decide +kernel
theorem dX0_gather_12 : decode cX0_gather 12 = .ok (.iload_n 2, 1) := by decide +kernel
theorem dX0_gather_13 : decode cX0_gather 13 = .ok (.iastore, 1) := by decide +kernel
theorem dX0_gather_14 : decode cX0_gather 14 = .ok (.aload_n 0, 1) := by decide +kernel
theorem dX0_gather_15 : decode cX0_gather 15 = .ok (.getfield 9, 3) := by decide +kernel
theorem dX0_gather_18 : decode cX0_gather 18 = .ok (.iconst 2, 1) := by decide +kernel
theorem dX0_gather_19 : decode cX0_gather 19 = .ok (.iload_n 3, 1) := by decide +kernel
theorem dX0_gather_20 : decode cX0_gather 20 = .ok (.iastore, 1) := by decide +kernel
theorem dX0_gather_21 : decode cX0_gather 21 = .ok (.aload_n 0, 1) := by decide +kernel
theorem dX0_gather_22 : decode cX0_gather 22 = .ok (.getfield 9, 3) := by decide +kernel
theorem dX0_gather_25 : decode cX0_gather 25 = .ok (.iconst 3, 1) := by decide +kernel
theorem dX0_gather_26 : decode cX0_gather 26 = .ok (.iload 4, 2) := by decide +kernel
theorem dX0_gather_28 : decode cX0_gather 28 = .ok (.iastore, 1) := by decide +kernel
theorem dX0_gather_29 : decode cX0_gather 29 = .ok (.aload_n 0, 1) := by decide +kernel
theorem dX0_gather_30 : decode cX0_gather 30 = .ok (.iload_n 1, 1) := by decide +kernel
theorem dX0_gather_31 : decode cX0_gather 31 = .ok (.iload_n 2, 1) := by decide +kernel
theorem dX0_gather_32 : decode cX0_gather 32 = .ok (.iadd, 1) := by decide +kernel
theorem dX0_gather_33 : decode cX0_gather 33 = .ok (.iload_n 3, 1) := by decide +kernel
theorem dX0_gather_34 : decode cX0_gather 34 = .ok (.iadd, 1) := by decide +kernel
theorem dX0_gather_35 : decode cX0_gather 35 = .ok (.iload 4, 2) := by decide +kernel
theorem dX0_gather_37 : decode cX0_gather 37 = .ok (.iadd, 1) := by decide +kernel
theorem dX0_gather_38 : decode cX0_gather 38 = .ok (.putfield 15, 3) := by decide +kernel
theorem dX0_gather_41 : decode cX0_gather 41 = .ok (.aload_n 0, 1) := by decide +kernel
theorem dX0_gather_42 : decode cX0_gather 42 = .ok (.getfield 19, 3) := by decide +kernel
theorem dX0_gather_45 : decode cX0_gather 45 = .ok (.bipush (-6), 2) := by decide +kernel
theorem dX0_gather_47 : decode cX0_gather 47 = .ok (.invokestatic 25, 3) := by decide +kernel
theorem dX0_gather_50 : decode cX0_gather 50 = .ok (.aload_n 0, 1) := by decide +kernel
theorem dX0_gather_51 : decode cX0_gather 51 = .ok (.iconst 0, 1) := by decide +kernel
theorem dX0_gather_52 : decode cX0_gather 52 = .ok (.putfield 22, 3) := by decide +kernel
theorem dX0_gather_55 : decode cX0_gather 55 = .ok (.return_, 1) := by decide +kernel
theorem dX0_count_0 : decode cX0_count 0 = .ok (.aload_n 1, 1) := by decide +kernel
theorem dX0_count_1 : decode cX0_count 1 = .ok (.ifnonnull 7, 3) := by decide +kernel
theorem dX0_count_4 : decode cX0_count 4 = .ok (.iconst 0, 1) := by decide +kernel
theorem dX0_count_5 : decode cX0_count 5 = .ok (.goto 10, 3) := by decide +kernel
theorem dX0_count_8 : decode cX0_count 8 = .ok (.aload_n 0, 1) := by decide +kernel
theorem dX0_count_9 : decode cX0_count 9 = .ok (.aload_n 1, 1) := by decide +kernel
theorem dX0_count_10 : decode cX0_count 10 = .ok (.iconst 0, 1) := by decide +kernel
theorem dX0_count_11 : decode cX0_count 11 = .ok (.iload_n 2, 1) := by decide +kernel
theorem dX0_count_12 : decode cX0_count 12 = .ok (.invokevirtual 31, 3) := by decide +kernel
theorem dX0_count_15 : decode cX0_count 15 = .ok (.ireturn, 1) := by decide +kernel
theorem dX0_sleeperAt_0 : decode cX0_sleeperAt 0 = .ok (.iload_n 1, 1) := by decide +kernel
theorem dX0_sleeperAt_1 : decode cX0_sleeperAt 1 = .ok (.ifCond .lt 21, 3) := by decide +kernel
theorem dX0_sleeperAt_4 : decode cX0_sleeperAt 4 = .ok (.iload_n 1, 1) := by decide +kernel
theorem dX0_sleeperAt_5 : decode cX0_sleeperAt 5 = .ok (.aload_n 0, 1) := by decide +kernel
theorem dX0_sleeperAt_6 : decode cX0_sleeperAt 6 = .ok (.getfield 19, 3) := by decide +kernel
theorem dX0_sleeperAt_9 : decode cX0_sleeperAt 9 = .ok (.arraylength, 1) := by decide +kernel
theorem dX0_sleeperAt_10 : decode cX0_sleeperAt 10 = .ok (.if_icmp .ge 12, 3) := by decide +kernel
theorem dX0_sleeperAt_13 : decode cX0_sleeperAt 13 = .ok (.aload_n 0, 1) := by decide +kernel
theorem dX0_sleeperAt_14 : decode cX0_sleeperAt 14 = .ok (.getfield 19, 3) := by decide +kernel
theorem dX0_sleeperAt_17 : decode cX0_sleeperAt 17 = .ok (.iload_n 1, 1) := by decide +kernel
theorem dX0_sleeperAt_18 : decode cX0_sleeperAt 18 = .ok (.iaload, 1) := by decide +kernel
theorem dX0_sleeperAt_19 : decode cX0_sleeperAt 19 = .ok (.goto 5, 3) := by decide +kernel
theorem dX0_sleeperAt_22 : decode cX0_sleeperAt 22 = .ok (.bipush (-6), 2) := by decide +kernel
theorem dX0_sleeperAt_24 : decode cX0_sleeperAt 24 = .ok (.ireturn, 1) := by decide +kernel
theorem dX0_layFrom_0 : decode cX0_layFrom 0 = .ok (.aload_n 1, 1) := by decide +kernel
theorem dX0_layFrom_1 : decode cX0_layFrom 1 = .ok (.invokevirtual 35, 3) := by decide +kernel
theorem dX0_layFrom_4 : decode cX0_layFrom 4 = .ok (.iload_n 2, 1) := by decide +kernel
theorem dX0_layFrom_5 : decode cX0_layFrom 5 = .ok (.isub, 1) := by decide +kernel
theorem dX0_layFrom_6 : decode cX0_layFrom 6 = .ok (.istore 4, 2) := by decide +kernel
theorem dX0_layFrom_8 : decode cX0_layFrom 8 = .ok (.aload_n 0, 1) := by decide +kernel
theorem dX0_layFrom_9 : decode cX0_layFrom 9 = .ok (.getfield 15, 3) := by decide +kernel
theorem dX0_layFrom_12 : decode cX0_layFrom 12 = .ok (.iload 4, 2) := by decide +kernel
theorem dX0_layFrom_14 : decode cX0_layFrom 14 = .ok (.if_icmp .le 5, 3) := by decide +kernel
theorem dX0_layFrom_17 : decode cX0_layFrom 17 = .ok (.iconst 0, 1) := by decide +kernel
theorem dX0_layFrom_18 : decode cX0_layFrom 18 = .ok (.ireturn, 1) := by decide +kernel
theorem dX0_layFrom_19 : decode cX0_layFrom 19 = .ok (.iload 4, 2) := by decide +kernel
theorem dX0_layFrom_21 : decode cX0_layFrom 21 = .ok (.ifCond .le 16, 3) := by decide +kernel
theorem dX0_layFrom_24 : decode cX0_layFrom 24 = .ok (.iload_n 2, 1) := by decide +kernel
theorem dX0_layFrom_25 : decode cX0_layFrom 25 = .ok (.ifCond .lt 12, 3) := by decide +kernel
theorem dX0_layFrom_28 : decode cX0_layFrom 28 = .ok (.iload_n 2, 1) := by decide +kernel
theorem dX0_layFrom_29 : decode cX0_layFrom 29 = .ok (.aload_n 0, 1) := by decide +kernel
theorem dX0_layFrom_30 : decode cX0_layFrom 30 = .ok (.getfield 19, 3) := by decide +kernel
theorem dX0_layFrom_33 : decode cX0_layFrom 33 = .ok (.arraylength, 1) := by decide +kernel
theorem dX0_layFrom_34 : decode cX0_layFrom 34 = .ok (.if_icmp .lt 17, 3) := by decide +kernel
theorem dX0_layFrom_37 : decode cX0_layFrom 37 = .ok (.aload_n 0, 1) := by decide +kernel
theorem dX0_layFrom_38 : decode cX0_layFrom 38 = .ok (.aload_n 1, 1) := by decide +kernel
theorem dX0_layFrom_39 : decode cX0_layFrom 39 = .ok (.invokevirtual 41, 3) := by decide +kernel
theorem dX0_layFrom_42 : decode cX0_layFrom 42 = .ok (.ifCond .eq 7, 3) := by decide +kernel
theorem dX0_layFrom_45 : decode cX0_layFrom 45 = .ok (.iconst 1, 1) := by decide +kernel
theorem dX0_layFrom_46 : decode cX0_layFrom 46 = .ok (.goto 4, 3) := by decide +kernel
theorem dX0_layFrom_49 : decode cX0_layFrom 49 = .ok (.iconst 0, 1) := by decide +kernel
theorem dX0_layFrom_50 : decode cX0_layFrom 50 = .ok (.ireturn, 1) := by decide +kernel
theorem dX0_layFrom_51 : decode cX0_layFrom 51 = .ok (.aload_n 0, 1) := by decide +kernel
theorem dX0_layFrom_52 : decode cX0_layFrom 52 = .ok (.aload_n 1, 1) := by decide +kernel
theorem dX0_layFrom_53 : decode cX0_layFrom 53 = .ok (.iload_n 2, 1) := by decide +kernel
theorem dX0_layFrom_54 : decode cX0_layFrom 54 = .ok (.iload_n 3, 1) := by decide +kernel
theorem dX0_layFrom_55 : decode cX0_layFrom 55 = .ok (.invokevirtual 45, 3) := by decide +kernel
theorem dX0_layFrom_58 : decode cX0_layFrom 58 = .ok (.istore 5, 2) := by decide +kernel
theorem dX0_layFrom_60 : decode cX0_layFrom 60 = .ok (.aload_n 0, 1) := by decide +kernel
theorem dX0_layFrom_61 : decode cX0_layFrom 61 = .ok (.aload_n 1, 1) := by decide +kernel
theorem dX0_layFrom_62 : decode cX0_layFrom 62 = .ok (.iload_n 2, 1) := by decide +kernel
theorem dX0_layFrom_63 : decode cX0_layFrom 63 = .ok (.invokevirtual 48, 3) := by decide +kernel
theorem dX0_layFrom_66 : decode cX0_layFrom 66 = .ok (.istore 6, 2) := by decide +kernel
theorem dX0_layFrom_68 : decode cX0_layFrom 68 = .ok (.iconst 0, 1) := by decide +kernel
theorem dX0_layFrom_69 : decode cX0_layFrom 69 = .ok (.istore 7, 2) := by decide +kernel
theorem dX0_layFrom_71 : decode cX0_layFrom 71 = .ok (.iload 7, 2) := by decide +kernel
theorem dX0_layFrom_73 : decode cX0_layFrom 73 = .ok (.iconst 4, 1) := by decide +kernel
theorem dX0_layFrom_74 : decode cX0_layFrom 74 = .ok (.if_icmp .ge 52, 3) := by decide +kernel
theorem dX0_layFrom_77 : decode cX0_layFrom 77 = .ok (.iload 5, 2) := by decide +kernel
theorem dX0_layFrom_79 : decode cX0_layFrom 79 = .ok (.iload_n 3, 1) := by decide +kernel
theorem dX0_layFrom_80 : decode cX0_layFrom 80 = .ok (.if_icmp .ge 46, 3) := by decide +kernel
theorem dX0_layFrom_83 : decode cX0_layFrom 83 = .ok (.aload_n 0, 1) := by decide +kernel
theorem dX0_layFrom_84 : decode cX0_layFrom 84 = .ok (.getfield 9, 3) := by decide +kernel
theorem dX0_layFrom_87 : decode cX0_layFrom 87 = .ok (.iload 7, 2) := by decide +kernel
theorem dX0_layFrom_89 : decode cX0_layFrom 89 = .ok (.iaload, 1) := by decide +kernel
theorem dX0_layFrom_90 : decode cX0_layFrom 90 = .ok (.ifCond .le 30, 3) := by decide +kernel
theorem dX0_layFrom_93 : decode cX0_layFrom 93 = .ok (.iload 6, 2) := by decide +kernel
theorem dX0_layFrom_95 : decode cX0_layFrom 95 = .ok (.iload 7, 2) := by decide +kernel
theorem dX0_layFrom_97 : decode cX0_layFrom 97 = .ok (.invokestatic 52, 3) := by decide +kernel
theorem dX0_layFrom_100 : decode cX0_layFrom 100 = .ok (.ifCond .ne 20, 3) := by decide +kernel
theorem dX0_layFrom_103 : decode cX0_layFrom 103 = .ok (.iload 5, 2) := by decide +kernel
theorem dX0_layFrom_105 : decode cX0_layFrom 105 = .ok (.aload_n 0, 1) := by decide +kernel
theorem dX0_layFrom_106 : decode cX0_layFrom 106 = .ok (.aload_n 1, 1) := by decide +kernel
theorem dX0_layFrom_107 : decode cX0_layFrom 107 = .ok (.iload_n 2, 1) := by decide +kernel
theorem dX0_layFrom_108 : decode cX0_layFrom 108 = .ok (.iload 7, 2) := by decide +kernel
theorem dX0_layFrom_110 : decode cX0_layFrom 110 = .ok (.iload_n 3, 1) := by decide +kernel
theorem dX0_layFrom_111 : decode cX0_layFrom 111 = .ok (.iload 5, 2) := by decide +kernel
theorem dX0_layFrom_113 : decode cX0_layFrom 113 = .ok (.isub, 1) := by decide +kernel
theorem dX0_layFrom_114 : decode cX0_layFrom 114 = .ok (.invokevirtual 56, 3) := by decide +kernel
theorem dX0_layFrom_117 : decode cX0_layFrom 117 = .ok (.iadd, 1) := by decide +kernel
theorem dX0_layFrom_118 : decode cX0_layFrom 118 = .ok (.istore 5, 2) := by decide +kernel
theorem dX0_layFrom_120 : decode cX0_layFrom 120 = .ok (.iinc 7 1, 3) := by decide +kernel
theorem dX0_layFrom_123 : decode cX0_layFrom 123 = .ok (.goto (-52), 3) := by decide +kernel
theorem dX0_layFrom_126 : decode cX0_layFrom 126 = .ok (.iload 5, 2) := by decide +kernel
theorem dX0_layFrom_128 : decode cX0_layFrom 128 = .ok (.ireturn, 1) := by decide +kernel
theorem dX0_layNobody_0 : decode cX0_layNobody 0 = .ok (.aload_n 0, 1) := by decide +kernel
theorem dX0_layNobody_1 : decode cX0_layNobody 1 = .ok (.aload_n 1, 1) := by decide +kernel
theorem dX0_layNobody_2 : decode cX0_layNobody 2 = .ok (.iload_n 2, 1) := by decide +kernel
theorem dX0_layNobody_3 : decode cX0_layNobody 3 = .ok (.aload_n 1, 1) := by decide +kernel
theorem dX0_layNobody_4 : decode cX0_layNobody 4 = .ok (.getfield 60, 3) := by decide +kernel
theorem dX0_layNobody_7 : decode cX0_layNobody 7 = .ok (.isub, 1) := by decide +kernel
theorem dX0_layNobody_8 : decode cX0_layNobody 8 = .ok (.invokevirtual 63, 3) := by decide +kernel
theorem dX0_layNobody_11 : decode cX0_layNobody 11 = .ok (.ifCond .eq 15, 3) := by decide +kernel
theorem dX0_layNobody_14 : decode cX0_layNobody 14 = .ok (.aload_n 0, 1) := by decide +kernel
theorem dX0_layNobody_15 : decode cX0_layNobody 15 = .ok (.aload_n 1, 1) := by decide +kernel
theorem dX0_layNobody_16 : decode cX0_layNobody 16 = .ok (.iload_n 2, 1) := by decide +kernel
theorem dX0_layNobody_17 : decode cX0_layNobody 17 = .ok (.iconst 1, 1) := by decide +kernel
theorem dX0_layNobody_18 : decode cX0_layNobody 18 = .ok (.iadd, 1) := by decide +kernel
theorem dX0_layNobody_19 : decode cX0_layNobody 19 = .ok (.iload_n 3, 1) := by decide +kernel
theorem dX0_layNobody_20 : decode cX0_layNobody 20 = .ok (.invokevirtual 31, 3) := by decide +kernel
theorem dX0_layNobody_23 : decode cX0_layNobody 23 = .ok (.goto 4, 3) := by decide +kernel
theorem dX0_layNobody_26 : decode cX0_layNobody 26 = .ok (.iconst 0, 1) := by decide +kernel
theorem dX0_layNobody_27 : decode cX0_layNobody 27 = .ok (.ireturn, 1) := by decide +kernel
theorem dX0_layOne_0 : decode cX0_layOne 0 = .ok (.aload_n 0, 1) := by decide +kernel
theorem dX0_layOne_1 : decode cX0_layOne 1 = .ok (.iload_n 2, 1) := by decide +kernel
theorem dX0_layOne_2 : decode cX0_layOne 2 = .ok (.iload_n 3, 1) := by decide +kernel
theorem dX0_layOne_3 : decode cX0_layOne 3 = .ok (.invokevirtual 67, 3) := by decide +kernel
theorem dX0_layOne_6 : decode cX0_layOne 6 = .ok (.aload_n 0, 1) := by decide +kernel
theorem dX0_layOne_7 : decode cX0_layOne 7 = .ok (.aload_n 1, 1) := by decide +kernel
theorem dX0_layOne_8 : decode cX0_layOne 8 = .ok (.iload_n 2, 1) := by decide +kernel
theorem dX0_layOne_9 : decode cX0_layOne 9 = .ok (.aload_n 1, 1) := by decide +kernel
theorem dX0_layOne_10 : decode cX0_layOne 10 = .ok (.getfield 60, 3) := by decide +kernel
theorem dX0_layOne_13 : decode cX0_layOne 13 = .ok (.isub, 1) := by decide +kernel
theorem dX0_layOne_14 : decode cX0_layOne 14 = .ok (.invokevirtual 63, 3) := by decide +kernel
theorem dX0_layOne_17 : decode cX0_layOne 17 = .ok (.ifCond .eq 16, 3) := by decide +kernel
theorem dX0_layOne_20 : decode cX0_layOne 20 = .ok (.aload_n 0, 1) := by decide +kernel
theorem dX0_layOne_21 : decode cX0_layOne 21 = .ok (.aload_n 1, 1) := by decide +kernel
theorem dX0_layOne_22 : decode cX0_layOne 22 = .ok (.iload_n 2, 1) := by decide +kernel
theorem dX0_layOne_23 : decode cX0_layOne 23 = .ok (.iconst 1, 1) := by decide +kernel
theorem dX0_layOne_24 : decode cX0_layOne 24 = .ok (.iadd, 1) := by decide +kernel
theorem dX0_layOne_25 : decode cX0_layOne 25 = .ok (.iload 4, 2) := by decide +kernel
theorem dX0_layOne_27 : decode cX0_layOne 27 = .ok (.invokevirtual 31, 3) := by decide +kernel
theorem dX0_layOne_30 : decode cX0_layOne 30 = .ok (.goto 4, 3) := by decide +kernel
theorem dX0_layOne_33 : decode cX0_layOne 33 = .ok (.iconst 0, 1) := by decide +kernel
theorem dX0_layOne_34 : decode cX0_layOne 34 = .ok (.istore 5, 2) := by decide +kernel
theorem dX0_layOne_36 : decode cX0_layOne 36 = .ok (.iload 5, 2) := by decide +kernel
theorem dX0_layOne_38 : decode cX0_layOne 38 = .ok (.iload 4, 2) := by decide +kernel
theorem dX0_layOne_40 : decode cX0_layOne 40 = .ok (.if_icmp .ge 9, 3) := by decide +kernel
theorem dX0_layOne_43 : decode cX0_layOne 43 = .ok (.aload_n 0, 1) := by decide +kernel
theorem dX0_layOne_44 : decode cX0_layOne 44 = .ok (.iload_n 2, 1) := by decide +kernel
theorem dX0_layOne_45 : decode cX0_layOne 45 = .ok (.iload_n 3, 1) := by decide +kernel
theorem dX0_layOne_46 : decode cX0_layOne 46 = .ok (.invokevirtual 71, 3) := by decide +kernel
theorem dX0_layOne_49 : decode cX0_layOne 49 = .ok (.iload 5, 2) := by decide +kernel
theorem dX0_layOne_51 : decode cX0_layOne 51 = .ok (.ireturn, 1) := by decide +kernel
theorem dX0_rest_0 : decode cX0_rest 0 = .ok (.aload_n 0, 1) := by decide +kernel
theorem dX0_rest_1 : decode cX0_rest 1 = .ok (.getfield 9, 3) := by decide +kernel
theorem dX0_rest_4 : decode cX0_rest 4 = .ok (.iload_n 2, 1) := by decide +kernel
theorem dX0_rest_5 : decode cX0_rest 5 = .ok (.dup2, 1) := by decide +kernel
theorem dX0_rest_6 : decode cX0_rest 6 = .ok (.iaload, 1) := by decide +kernel
theorem dX0_rest_7 : decode cX0_rest 7 = .ok (.iconst 1, 1) := by decide +kernel
theorem dX0_rest_8 : decode cX0_rest 8 = .ok (.isub, 1) := by decide +kernel
theorem dX0_rest_9 : decode cX0_rest 9 = .ok (.iastore, 1) := by decide +kernel
theorem dX0_rest_10 : decode cX0_rest 10 = .ok (.aload_n 0, 1) := by decide +kernel
theorem dX0_rest_11 : decode cX0_rest 11 = .ok (.dup, 1) := by decide +kernel
theorem dX0_rest_12 : decode cX0_rest 12 = .ok (.getfield 15, 3) := by decide +kernel
theorem dX0_rest_15 : decode cX0_rest 15 = .ok (.iconst 1, 1) := by decide +kernel
theorem dX0_rest_16 : decode cX0_rest 16 = .ok (.isub, 1) := by decide +kernel
theorem dX0_rest_17 : decode cX0_rest 17 = .ok (.putfield 15, 3) := by decide +kernel
theorem dX0_rest_20 : decode cX0_rest 20 = .ok (.aload_n 0, 1) := by decide +kernel
theorem dX0_rest_21 : decode cX0_rest 21 = .ok (.getfield 19, 3) := by decide +kernel
theorem dX0_rest_24 : decode cX0_rest 24 = .ok (.iload_n 1, 1) := by decide +kernel
theorem dX0_rest_25 : decode cX0_rest 25 = .ok (.iload_n 2, 1) := by decide +kernel
theorem dX0_rest_26 : decode cX0_rest 26 = .ok (.iastore, 1) := by decide +kernel
theorem dX0_rest_27 : decode cX0_rest 27 = .ok (.aload_n 0, 1) := by decide +kernel
theorem dX0_rest_28 : decode cX0_rest 28 = .ok (.dup, 1) := by decide +kernel
theorem dX0_rest_29 : decode cX0_rest 29 = .ok (.getfield 22, 3) := by decide +kernel
theorem dX0_rest_32 : decode cX0_rest 32 = .ok (.iconst 1, 1) := by decide +kernel
theorem dX0_rest_33 : decode cX0_rest 33 = .ok (.iload_n 1, 1) := by decide +kernel
theorem dX0_rest_34 : decode cX0_rest 34 = .ok (.ishl, 1) := by decide +kernel
theorem dX0_rest_35 : decode cX0_rest 35 = .ok (.ior, 1) := by decide +kernel
theorem dX0_rest_36 : decode cX0_rest 36 = .ok (.putfield 22, 3) := by decide +kernel
theorem dX0_rest_39 : decode cX0_rest 39 = .ok (.return_, 1) := by decide +kernel
theorem dX0_rise_0 : decode cX0_rise 0 = .ok (.aload_n 0, 1) := by decide +kernel
theorem dX0_rise_1 : decode cX0_rise 1 = .ok (.getfield 9, 3) := by decide +kernel
theorem dX0_rise_4 : decode cX0_rise 4 = .ok (.iload_n 2, 1) := by decide +kernel
theorem dX0_rise_5 : decode cX0_rise 5 = .ok (.dup2, 1) := by decide +kernel
theorem dX0_rise_6 : decode cX0_rise 6 = .ok (.iaload, 1) := by decide +kernel
theorem dX0_rise_7 : decode cX0_rise 7 = .ok (.iconst 1, 1) := by decide +kernel
theorem dX0_rise_8 : decode cX0_rise 8 = .ok (.iadd, 1) := by decide +kernel
theorem dX0_rise_9 : decode cX0_rise 9 = .ok (.iastore, 1) := by decide +kernel
theorem dX0_rise_10 : decode cX0_rise 10 = .ok (.aload_n 0, 1) := by decide +kernel
theorem dX0_rise_11 : decode cX0_rise 11 = .ok (.dup, 1) := by decide +kernel
theorem dX0_rise_12 : decode cX0_rise 12 = .ok (.getfield 15, 3) := by decide +kernel
theorem dX0_rise_15 : decode cX0_rise 15 = .ok (.iconst 1, 1) := by decide +kernel
theorem dX0_rise_16 : decode cX0_rise 16 = .ok (.iadd, 1) := by decide +kernel
theorem dX0_rise_17 : decode cX0_rise 17 = .ok (.putfield 15, 3) := by decide +kernel
theorem dX0_rise_20 : decode cX0_rise 20 = .ok (.aload_n 0, 1) := by decide +kernel
theorem dX0_rise_21 : decode cX0_rise 21 = .ok (.getfield 19, 3) := by decide +kernel
theorem dX0_rise_24 : decode cX0_rise 24 = .ok (.iload_n 1, 1) := by decide +kernel
theorem dX0_rise_25 : decode cX0_rise 25 = .ok (.bipush (-6), 2) := by decide +kernel
theorem dX0_rise_27 : decode cX0_rise 27 = .ok (.iastore, 1) := by decide +kernel
theorem dX0_rise_28 : decode cX0_rise 28 = .ok (.aload_n 0, 1) := by decide +kernel
theorem dX0_rise_29 : decode cX0_rise 29 = .ok (.dup, 1) := by decide +kernel
theorem dX0_rise_30 : decode cX0_rise 30 = .ok (.getfield 22, 3) := by decide +kernel
theorem dX0_rise_33 : decode cX0_rise 33 = .ok (.iconst 1, 1) := by decide +kernel
theorem dX0_rise_34 : decode cX0_rise 34 = .ok (.iload_n 1, 1) := by decide +kernel
theorem dX0_rise_35 : decode cX0_rise 35 = .ok (.ishl, 1) := by decide +kernel
theorem dX0_rise_36 : decode cX0_rise 36 = .ok (.iconst (-1), 1) := by decide +kernel
theorem dX0_rise_37 : decode cX0_rise 37 = .ok (.ixor, 1) := by decide +kernel
theorem dX0_rise_38 : decode cX0_rise 38 = .ok (.iand, 1) := by decide +kernel
theorem dX0_rise_39 : decode cX0_rise 39 = .ok (.putfield 22, 3) := by decide +kernel
theorem dX0_rise_42 : decode cX0_rise 42 = .ok (.return_, 1) := by decide +kernel
theorem dX0_bannedFamilies_0 : decode cX0_bannedFamilies 0 = .ok (.aload_n 1, 1) := by decide +kernel
theorem dX0_bannedFamilies_1 : decode cX0_bannedFamilies 1 = .ok (.iload_n 2, 1) := by decide +kernel
theorem dX0_bannedFamilies_2 : decode cX0_bannedFamilies 2 = .ok (.invokevirtual 74, 3) := by decide +kernel
theorem dX0_bannedFamilies_5 : decode cX0_bannedFamilies 5 = .ok (.istore_n 3, 1) := by decide +kernel
theorem dX0_bannedFamilies_6 : decode cX0_bannedFamilies 6 = .ok (.iload_n 2, 1) := by decide +kernel
theorem dX0_bannedFamilies_7 : decode cX0_bannedFamilies 7 = .ok (.aload_n 1, 1) := by decide +kernel
theorem dX0_bannedFamilies_8 : decode cX0_bannedFamilies 8 = .ok (.getfield 60, 3) := by decide +kernel
theorem dX0_bannedFamilies_11 : decode cX0_bannedFamilies 11 = .ok (.isub, 1) := by decide +kernel
theorem dX0_bannedFamilies_12 : decode cX0_bannedFamilies 12 = .ok (.istore 4, 2) := by decide +kernel
theorem dX0_bannedFamilies_14 : decode cX0_bannedFamilies 14 = .ok (.iconst 0, 1) := by decide +kernel
theorem dX0_bannedFamilies_15 : decode cX0_bannedFamilies 15 = .ok (.istore 5, 2) := by decide +kernel
theorem dX0_bannedFamilies_17 : decode cX0_bannedFamilies 17 = .ok (.iload_n 2, 1) := by decide +kernel
theorem dX0_bannedFamilies_18 : decode cX0_bannedFamilies 18 = .ok (.ifCond .le 29, 3) := by decide +kernel
theorem dX0_bannedFamilies_21 : decode cX0_bannedFamilies 21 = .ok (.iload_n 3, 1) := by decide +kernel
theorem dX0_bannedFamilies_22 : decode cX0_bannedFamilies 22 = .ok (.iload_n 2, 1) := by decide +kernel
theorem dX0_bannedFamilies_23 : decode cX0_bannedFamilies 23 = .ok (.iconst 1, 1) := by decide +kernel
theorem dX0_bannedFamilies_24 : decode cX0_bannedFamilies 24 = .ok (.isub, 1) := by decide +kernel
theorem dX0_bannedFamilies_25 : decode cX0_bannedFamilies 25 = .ok (.invokestatic 52, 3) := by decide +kernel
theorem dX0_bannedFamilies_28 : decode cX0_bannedFamilies 28 = .ok (.ifCond .eq 19, 3) := by decide +kernel
theorem dX0_bannedFamilies_31 : decode cX0_bannedFamilies 31 = .ok (.iload 5, 2) := by decide +kernel
theorem dX0_bannedFamilies_33 : decode cX0_bannedFamilies 33 = .ok (.aload_n 1, 1) := by decide +kernel
theorem dX0_bannedFamilies_34 : decode cX0_bannedFamilies 34 = .ok (.aload_n 0, 1) := by decide +kernel
theorem dX0_bannedFamilies_35 : decode cX0_bannedFamilies 35 = .ok (.iload_n 2, 1) := by decide +kernel
theorem dX0_bannedFamilies_36 : decode cX0_bannedFamilies 36 = .ok (.iconst 1, 1) := by decide +kernel
theorem dX0_bannedFamilies_37 : decode cX0_bannedFamilies 37 = .ok (.isub, 1) := by decide +kernel
theorem dX0_bannedFamilies_38 : decode cX0_bannedFamilies 38 = .ok (.invokevirtual 78, 3) := by decide +kernel
theorem dX0_bannedFamilies_41 : decode cX0_bannedFamilies 41 = .ok (.invokevirtual 81, 3) := by decide +kernel
theorem dX0_bannedFamilies_44 : decode cX0_bannedFamilies 44 = .ok (.ior, 1) := by decide +kernel
theorem dX0_bannedFamilies_45 : decode cX0_bannedFamilies 45 = .ok (.istore 5, 2) := by decide +kernel
theorem dX0_bannedFamilies_47 : decode cX0_bannedFamilies 47 = .ok (.iload 5, 2) := by decide +kernel
theorem dX0_bannedFamilies_49 : decode cX0_bannedFamilies 49 = .ok (.aload_n 1, 1) := by decide +kernel
theorem dX0_bannedFamilies_50 : decode cX0_bannedFamilies 50 = .ok (.aload_n 0, 1) := by decide +kernel
theorem dX0_bannedFamilies_51 : decode cX0_bannedFamilies 51 = .ok (.iload 4, 2) := by decide +kernel
theorem dX0_bannedFamilies_53 : decode cX0_bannedFamilies 53 = .ok (.invokevirtual 78, 3) := by decide +kernel
theorem dX0_bannedFamilies_56 : decode cX0_bannedFamilies 56 = .ok (.invokevirtual 81, 3) := by decide +kernel
theorem dX0_bannedFamilies_59 : decode cX0_bannedFamilies 59 = .ok (.ior, 1) := by decide +kernel
theorem dX0_bannedFamilies_60 : decode cX0_bannedFamilies 60 = .ok (.ireturn, 1) := by decide +kernel
theorem dX0_isWarm_0 : decode cX0_isWarm 0 = .ok (.iload_n 2, 1) := by decide +kernel
theorem dX0_isWarm_1 : decode cX0_isWarm 1 = .ok (.ifCond .lt 34, 3) := by decide +kernel
theorem dX0_isWarm_4 : decode cX0_isWarm 4 = .ok (.aload_n 0, 1) := by decide +kernel
theorem dX0_isWarm_5 : decode cX0_isWarm 5 = .ok (.getfield 22, 3) := by decide +kernel
theorem dX0_isWarm_8 : decode cX0_isWarm 8 = .ok (.iload_n 2, 1) := by decide +kernel
theorem dX0_isWarm_9 : decode cX0_isWarm 9 = .ok (.invokestatic 52, 3) := by decide +kernel
theorem dX0_isWarm_12 : decode cX0_isWarm 12 = .ok (.ifCond .eq 23, 3) := by decide +kernel
theorem dX0_isWarm_15 : decode cX0_isWarm 15 = .ok (.aload_n 1, 1) := by decide +kernel
theorem dX0_isWarm_16 : decode cX0_isWarm 16 = .ok (.iload_n 2, 1) := by decide +kernel
theorem dX0_isWarm_17 : decode cX0_isWarm 17 = .ok (.invokevirtual 74, 3) := by decide +kernel
theorem dX0_isWarm_20 : decode cX0_isWarm 20 = .ok (.aload_n 0, 1) := by decide +kernel
theorem dX0_isWarm_21 : decode cX0_isWarm 21 = .ok (.getfield 22, 3) := by decide +kernel
theorem dX0_isWarm_24 : decode cX0_isWarm 24 = .ok (.iand, 1) := by decide +kernel
theorem dX0_isWarm_25 : decode cX0_isWarm 25 = .ok (.invokestatic 84, 3) := by decide +kernel
theorem dX0_isWarm_28 : decode cX0_isWarm 28 = .ok (.aload_n 1, 1) := by decide +kernel
theorem dX0_isWarm_29 : decode cX0_isWarm 29 = .ok (.getfield 89, 3) := by decide +kernel
theorem dX0_isWarm_32 : decode cX0_isWarm 32 = .ok (.if_icmp .lt 7, 3) := by decide +kernel
theorem dX0_isWarm_35 : decode cX0_isWarm 35 = .ok (.iconst 1, 1) := by decide +kernel
theorem dX0_isWarm_36 : decode cX0_isWarm 36 = .ok (.goto 4, 3) := by decide +kernel
theorem dX0_isWarm_39 : decode cX0_isWarm 39 = .ok (.iconst 0, 1) := by decide +kernel
theorem dX0_isWarm_40 : decode cX0_isWarm 40 = .ok (.ireturn, 1) := by decide +kernel
theorem dX0_isLastRowWarm_0 : decode cX0_isLastRowWarm 0 = .ok (.aload_n 1, 1) := by decide +kernel
theorem dX0_isLastRowWarm_1 : decode cX0_isLastRowWarm 1 = .ok (.invokevirtual 35, 3) := by decide +kernel
theorem dX0_isLastRowWarm_4 : decode cX0_isLastRowWarm 4 = .ok (.istore_n 2, 1) := by decide +kernel
theorem dX0_isLastRowWarm_5 : decode cX0_isLastRowWarm 5 = .ok (.iload_n 2, 1) := by decide +kernel
theorem dX0_isLastRowWarm_6 : decode cX0_isLastRowWarm 6 = .ok (.aload_n 1, 1) := by decide +kernel
theorem dX0_isLastRowWarm_7 : decode cX0_isLastRowWarm 7 = .ok (.getfield 60, 3) := by decide +kernel
theorem dX0_isLastRowWarm_10 : decode cX0_isLastRowWarm 10 = .ok (.isub, 1) := by decide +kernel
theorem dX0_isLastRowWarm_11 : decode cX0_isLastRowWarm 11 = .ok (.istore_n 3, 1) := by decide +kernel
theorem dX0_isLastRowWarm_12 : decode cX0_isLastRowWarm 12 = .ok (.iload_n 3, 1) := by decide +kernel
theorem dX0_isLastRowWarm_13 : decode cX0_isLastRowWarm 13 = .ok (.iload_n 2, 1) := by decide +kernel
theorem dX0_isLastRowWarm_14 : decode cX0_isLastRowWarm 14 = .ok (.if_icmp .ge 20, 3) := by decide +kernel
theorem dX0_isLastRowWarm_17 : decode cX0_isLastRowWarm 17 = .ok (.aload_n 0, 1) := by decide +kernel
theorem dX0_isLastRowWarm_18 : decode cX0_isLastRowWarm 18 = .ok (.aload_n 1, 1) := by decide +kernel
theorem dX0_isLastRowWarm_19 : decode cX0_isLastRowWarm 19 = .ok (.iload_n 3, 1) := by decide +kernel
theorem dX0_isLastRowWarm_20 : decode cX0_isLastRowWarm 20 = .ok (.invokevirtual 63, 3) := by decide +kernel
theorem dX0_isLastRowWarm_23 : decode cX0_isLastRowWarm 23 = .ok (.ifCond .ne 5, 3) := by decide +kernel
theorem dX0_isLastRowWarm_26 : decode cX0_isLastRowWarm 26 = .ok (.iconst 0, 1) := by decide +kernel
theorem dX0_isLastRowWarm_27 : decode cX0_isLastRowWarm 27 = .ok (.ireturn, 1) := by decide +kernel
theorem dX0_isLastRowWarm_28 : decode cX0_isLastRowWarm 28 = .ok (.iinc 3 1, 3) := by decide +kernel
theorem dX0_isLastRowWarm_31 : decode cX0_isLastRowWarm 31 = .ok (.goto (-19), 3) := by decide +kernel
theorem dX0_isLastRowWarm_34 : decode cX0_isLastRowWarm 34 = .ok (.iconst 1, 1) := by decide +kernel
theorem dX0_isLastRowWarm_35 : decode cX0_isLastRowWarm 35 = .ok (.ireturn, 1) := by decide +kernel
theorem dX1_init_0 : decode cX1_init 0 = .ok (.aload_n 0, 1) := by decide +kernel
theorem dX1_init_1 : decode cX1_init 1 = .ok (.invokespecial 3, 3) := by decide +kernel
theorem dX1_init_4 : decode cX1_init 4 = .ok (.aload_n 0, 1) := by decide +kernel
theorem dX1_init_5 : decode cX1_init 5 = .ok (.iconst 1, 1) := by decide +kernel
theorem dX1_init_6 : decode cX1_init 6 = .ok (.putfield 9, 3) := by decide +kernel
theorem dX1_init_9 : decode cX1_init 9 = .ok (.aload_n 0, 1) := by decide +kernel
theorem dX1_init_10 : decode cX1_init 10 = .ok (.iconst 1, 1) := by decide +kernel
theorem dX1_init_11 : decode cX1_init 11 = .ok (.putfield 15, 3) := by decide +kernel
theorem dX1_init_14 : decode cX1_init 14 = .ok (.aload_n 0, 1) := by decide +kernel
theorem dX1_init_15 : decode cX1_init 15 = .ok (.iconst 1, 1) := by decide +kernel
theorem dX1_init_16 : decode cX1_init 16 = .ok (.putfield 18, 3) := by decide +kernel
theorem dX1_init_19 : decode cX1_init 19 = .ok (.aload_n 0, 1) := by decide +kernel
theorem dX1_init_20 : decode cX1_init 20 = .ok (.iconst 2, 1) := by decide +kernel
theorem dX1_init_21 : decode cX1_init 21 = .ok (.putfield 21, 3) := by decide +kernel
theorem dX1_init_24 : decode cX1_init 24 = .ok (.aload_n 0, 1) := by decide +kernel
theorem dX1_init_25 : decode cX1_init 25 = .ok (.iconst 2, 1) := by decide +kernel
theorem dX1_init_26 : decode cX1_init 26 = .ok (.putfield 24, 3) := by decide +kernel
theorem dX1_init_29 : decode cX1_init 29 = .ok (.aload_n 0, 1) := by decide +kernel
theorem dX1_init_30 : decode cX1_init 30 = .ok (.iconst 0, 1) := by decide +kernel
theorem dX1_init_31 : decode cX1_init 31 = .ok (.putfield 27, 3) := by decide +kernel
theorem dX1_init_34 : decode cX1_init 34 = .ok (.aload_n 0, 1) := by decide +kernel
theorem dX1_init_35 : decode cX1_init 35 = .ok (.iconst 0, 1) := by decide +kernel
theorem dX1_init_36 : decode cX1_init 36 = .ok (.putfield 30, 3) := by decide +kernel
theorem dX1_init_39 : decode cX1_init 39 = .ok (.aload_n 0, 1) := by decide +kernel
theorem dX1_init_40 : decode cX1_init 40 = .ok (.iconst 0, 1) := by decide +kernel
theorem dX1_init_41 : decode cX1_init 41 = .ok (.putfield 33, 3) := by decide +kernel
theorem dX1_init_44 : decode cX1_init 44 = .ok (.aload_n 0, 1) := by decide +kernel
theorem dX1_init_45 : decode cX1_init 45 = .ok (.iconst 0, 1) := by decide +kernel
theorem dX1_init_46 : decode cX1_init 46 = .ok (.putfield 36, 3) := by decide +kernel
theorem dX1_init_49 : decode cX1_init 49 = .ok (.aload_n 0, 1) := by decide +kernel
theorem dX1_init_50 : decode cX1_init 50 = .ok (.iconst 4, 1) := by decide +kernel
theorem dX1_init_51 : decode cX1_init 51 = .ok (.newarray .int, 2) := by decide +kernel
theorem dX1_init_53 : decode cX1_init 53 = .ok (.putfield 39, 3) := by decide +kernel
theorem dX1_init_56 : decode cX1_init 56 = .ok (.aload_n 0, 1) := by decide +kernel
theorem dX1_init_57 : decode cX1_init 57 = .ok (.iconst 4, 1) := by decide +kernel
theorem dX1_init_58 : decode cX1_init 58 = .ok (.newarray .int, 2) := by decide +kernel
theorem dX1_init_60 : decode cX1_init 60 = .ok (.putfield 43, 3) := by decide +kernel
theorem dX1_init_63 : decode cX1_init 63 = .ok (.return_, 1) := by decide +kernel
theorem dX1_measure_0 : decode cX1_measure 0 = .ok (.aload_n 0, 1) := by decide +kernel
theorem dX1_measure_1 : decode cX1_measure 1 = .ok (.iload_n 1, 1) := by decide +kernel
theorem dX1_measure_2 : decode cX1_measure 2 = .ok (.putfield 9, 3) := by decide +kernel
theorem dX1_measure_5 : decode cX1_measure 5 = .ok (.aload_n 0, 1) := by decide +kernel
theorem dX1_measure_6 : decode cX1_measure 6 = .ok (.iload_n 2, 1) := by decide +kernel
theorem dX1_measure_7 : decode cX1_measure 7 = .ok (.putfield 15, 3) := by decide +kernel
theorem dX1_measure_10 : decode cX1_measure 10 = .ok (.aload_n 0, 1) := by decide +kernel
theorem dX1_measure_11 : decode cX1_measure 11 = .ok (.iconst 0, 1) := by decide +kernel
theorem dX1_measure_12 : decode cX1_measure 12 = .ok (.putfield 27, 3) := by decide +kernel
theorem dX1_measure_15 : decode cX1_measure 15 = .ok (.aload_n 0, 1) := by decide +kernel
theorem dX1_measure_16 : decode cX1_measure 16 = .ok (.iconst 0, 1) := by decide +kernel
theorem dX1_measure_17 : decode cX1_measure 17 = .ok (.putfield 30, 3) := by decide +kernel
theorem dX1_measure_20 : decode cX1_measure 20 = .ok (.iconst 0, 1) := by decide +kernel
theorem dX1_measure_21 : decode cX1_measure 21 = .ok (.istore_n 3, 1) := by decide +kernel
theorem dX1_measure_22 : decode cX1_measure 22 = .ok (.iload_n 3, 1) := by decide +kernel
theorem dX1_measure_23 : decode cX1_measure 23 = .ok (.aload_n 0, 1) := by decide +kernel
theorem dX1_measure_24 : decode cX1_measure 24 = .ok (.getfield 9, 3) := by decide +kernel
theorem dX1_measure_27 : decode cX1_measure 27 = .ok (.if_icmp .ge 91, 3) := by decide +kernel
theorem dX1_measure_30 : decode cX1_measure 30 = .ok (.iconst 0, 1) := by decide +kernel
theorem dX1_measure_31 : decode cX1_measure 31 = .ok (.istore 4, 2) := by decide +kernel
theorem dX1_measure_33 : decode cX1_measure 33 = .ok (.iload 4, 2) := by decide +kernel
theorem dX1_measure_35 : decode cX1_measure 35 = .ok (.aload_n 0, 1) := by decide +kernel
theorem dX1_measure_36 : decode cX1_measure 36 = .ok (.getfield 15, 3) := by decide +kernel
theorem dX1_measure_39 : decode cX1_measure 39 = .ok (.if_icmp .ge 73, 3) := by decide +kernel
theorem dX1_measure_42 : decode cX1_measure 42 = .ok (.iconst 1, 1) := by decide +kernel
theorem dX1_measure_43 : decode cX1_measure 43 = .ok (.iload_n 3, 1) := by decide +kernel
theorem dX1_measure_44 : decode cX1_measure 44 = .ok (.aload_n 0, 1) := by decide +kernel
theorem dX1_measure_45 : decode cX1_measure 45 = .ok (.getfield 15, 3) := by decide +kernel
theorem dX1_measure_48 : decode cX1_measure 48 = .ok (.imul, 1) := by decide +kernel
theorem dX1_measure_49 : decode cX1_measure 49 = .ok (.iload 4, 2) := by decide +kernel
theorem dX1_measure_51 : decode cX1_measure 51 = .ok (.iadd, 1) := by decide +kernel
theorem dX1_measure_52 : decode cX1_measure 52 = .ok (.ishl, 1) := by decide +kernel
theorem dX1_measure_53 : decode cX1_measure 53 = .ok (.istore 5, 2) := by decide +kernel
theorem dX1_measure_55 : decode cX1_measure 55 = .ok (.aload_n 0, 1) := by decide +kernel
theorem dX1_measure_56 : decode cX1_measure 56 = .ok (.dup, 1) := by decide +kernel
theorem dX1_measure_57 : decode cX1_measure 57 = .ok (.getfield 27, 3) := by decide +kernel
theorem dX1_measure_60 : decode cX1_measure 60 = .ok (.iload 4, 2) := by decide +kernel
theorem dX1_measure_62 : decode cX1_measure 62 = .ok (.iconst 1, 1) := by decide +kernel
theorem dX1_measure_63 : decode cX1_measure 63 = .ok (.iadd, 1) := by decide +kernel
theorem dX1_measure_64 : decode cX1_measure 64 = .ok (.aload_n 0, 1) := by decide +kernel
theorem dX1_measure_65 : decode cX1_measure 65 = .ok (.getfield 15, 3) := by decide +kernel
theorem dX1_measure_68 : decode cX1_measure 68 = .ok (.if_icmp .ge 8, 3) := by decide +kernel
theorem dX1_measure_71 : decode cX1_measure 71 = .ok (.iload 5, 2) := by decide +kernel
theorem dX1_measure_73 : decode cX1_measure 73 = .ok (.goto 4, 3) := by decide +kernel
theorem dX1_measure_76 : decode cX1_measure 76 = .ok (.iconst 0, 1) := by decide +kernel
theorem dX1_measure_77 : decode cX1_measure 77 = .ok (.ior, 1) := by decide +kernel
theorem dX1_measure_78 : decode cX1_measure 78 = .ok (.putfield 27, 3) := by decide +kernel
theorem dX1_measure_81 : decode cX1_measure 81 = .ok (.aload_n 0, 1) := by decide +kernel
theorem dX1_measure_82 : decode cX1_measure 82 = .ok (.dup, 1) := by decide +kernel
theorem dX1_measure_83 : decode cX1_measure 83 = .ok (.getfield 30, 3) := by decide +kernel
theorem dX1_measure_86 : decode cX1_measure 86 = .ok (.iload_n 3, 1) := by decide +kernel
theorem dX1_measure_87 : decode cX1_measure 87 = .ok (.iconst 1, 1) := by decide +kernel
theorem dX1_measure_88 : decode cX1_measure 88 = .ok (.iadd, 1) := by decide +kernel
theorem dX1_measure_89 : decode cX1_measure 89 = .ok (.aload_n 0, 1) := by decide +kernel
theorem dX1_measure_90 : decode cX1_measure 90 = .ok (.getfield 9, 3) := by decide +kernel
theorem dX1_measure_93 : decode cX1_measure 93 = .ok (.if_icmp .ge 8, 3) := by decide +kernel
theorem dX1_measure_96 : decode cX1_measure 96 = .ok (.iload 5, 2) := by decide +kernel
theorem dX1_measure_98 : decode cX1_measure 98 = .ok (.goto 4, 3) := by decide +kernel
theorem dX1_measure_101 : decode cX1_measure 101 = .ok (.iconst 0, 1) := by decide +kernel
theorem dX1_measure_102 : decode cX1_measure 102 = .ok (.ior, 1) := by decide +kernel
theorem dX1_measure_103 : decode cX1_measure 103 = .ok (.putfield 30, 3) := by decide +kernel
theorem dX1_measure_106 : decode cX1_measure 106 = .ok (.iinc 4 1, 3) := by decide +kernel
theorem dX1_measure_109 : decode cX1_measure 109 = .ok (.goto (-76), 3) := by decide +kernel
theorem dX1_measure_112 : decode cX1_measure 112 = .ok (.iinc 3 1, 3) := by decide +kernel
theorem dX1_measure_115 : decode cX1_measure 115 = .ok (.goto (-93), 3) := by decide +kernel
theorem dX1_measure_118 : decode cX1_measure 118 = .ok (.aload_n 0, 1) := by decide +kernel
theorem dX1_measure_119 : decode cX1_measure 119 = .ok (.invokevirtual 46, 3) := by decide +kernel
theorem dX1_measure_122 : decode cX1_measure 122 = .ok (.return_, 1) := by decide +kernel
theorem dX1_strip_0 : decode cX1_strip 0 = .ok (.aload_n 0, 1) := by decide +kernel
theorem dX1_strip_1 : decode cX1_strip 1 = .ok (.getfield 39, 3) := by decide +kernel
theorem dX1_strip_4 : decode cX1_strip 4 = .ok (.iconst 0, 1) := by decide +kernel
theorem dX1_strip_5 : decode cX1_strip 5 = .ok (.invokestatic 49, 3) := by decide +kernel
theorem dX1_strip_8 : decode cX1_strip 8 = .ok (.aload_n 0, 1) := by decide +kernel
theorem dX1_strip_9 : decode cX1_strip 9 = .ok (.invokevirtual 55, 3) := by decide +kernel
theorem dX1_strip_12 : decode cX1_strip 12 = .ok (.return_, 1) := by decide +kernel
theorem dX1_loosenAll_0 : decode cX1_loosenAll 0 = .ok (.aload_n 0, 1) := by decide +kernel
theorem dX1_loosenAll_1 : decode cX1_loosenAll 1 = .ok (.iconst 0, 1) := by decide +kernel
theorem dX1_loosenAll_2 : decode cX1_loosenAll 2 = .ok (.putfield 33, 3) := by decide +kernel
theorem dX1_loosenAll_5 : decode cX1_loosenAll 5 = .ok (.aload_n 0, 1) := by decide +kernel
theorem dX1_loosenAll_6 : decode cX1_loosenAll 6 = .ok (.iconst 0, 1) := by decide +kernel
theorem dX1_loosenAll_7 : decode cX1_loosenAll 7 = .ok (.putfield 36, 3) := by decide +kernel
theorem dX1_loosenAll_10 : decode cX1_loosenAll 10 = .ok (.return_, 1) := by decide +kernel
theorem dX1_become_0 : decode cX1_become 0 = .ok (.aload_n 1, 1) := by decide +kernel
theorem dX1_become_1 : decode cX1_become 1 = .ok (.ifnonnull 4, 3) := by decide +kernel
theorem dX1_become_4 : decode cX1_become 4 = .ok (.return_, 1) := by decide +kernel
theorem dX1_become_5 : decode cX1_become 5 = .ok (.aload_n 0, 1) := by decide +kernel
theorem dX1_become_6 : decode cX1_become 6 = .ok (.aload_n 1, 1) := by decide +kernel
theorem dX1_become_7 : decode cX1_become 7 = .ok (.getfield 9, 3) := by decide +kernel
theorem dX1_become_10 : decode cX1_become 10 = .ok (.putfield 9, 3) := by decide +kernel
theorem dX1_become_13 : decode cX1_become 13 = .ok (.aload_n 0, 1) := by decide +kernel
theorem dX1_become_14 : decode cX1_become 14 = .ok (.aload_n 1, 1) := by decide +kernel
theorem dX1_become_15 : decode cX1_become 15 = .ok (.getfield 15, 3) := by decide +kernel
theorem dX1_become_18 : decode cX1_become 18 = .ok (.putfield 15, 3) := by decide +kernel
theorem dX1_become_21 : decode cX1_become 21 = .ok (.aload_n 0, 1) := by decide +kernel
theorem dX1_become_22 : decode cX1_become 22 = .ok (.aload_n 1, 1) := by decide +kernel
theorem dX1_become_23 : decode cX1_become 23 = .ok (.getfield 18, 3) := by decide +kernel
theorem dX1_become_26 : decode cX1_become 26 = .ok (.putfield 18, 3) := by decide +kernel
theorem dX1_become_29 : decode cX1_become 29 = .ok (.aload_n 0, 1) := by decide +kernel
theorem dX1_become_30 : decode cX1_become 30 = .ok (.aload_n 1, 1) := by decide +kernel
theorem dX1_become_31 : decode cX1_become 31 = .ok (.getfield 21, 3) := by decide +kernel
theorem dX1_become_34 : decode cX1_become 34 = .ok (.putfield 21, 3) := by decide +kernel
theorem dX1_become_37 : decode cX1_become 37 = .ok (.aload_n 0, 1) := by decide +kernel
theorem dX1_become_38 : decode cX1_become 38 = .ok (.aload_n 1, 1) := by decide +kernel
theorem dX1_become_39 : decode cX1_become 39 = .ok (.getfield 24, 3) := by decide +kernel
theorem dX1_become_42 : decode cX1_become 42 = .ok (.putfield 24, 3) := by decide +kernel
theorem dX1_become_45 : decode cX1_become 45 = .ok (.aload_n 0, 1) := by decide +kernel
theorem dX1_become_46 : decode cX1_become 46 = .ok (.aload_n 1, 1) := by decide +kernel
theorem dX1_become_47 : decode cX1_become 47 = .ok (.getfield 27, 3) := by decide +kernel
theorem dX1_become_50 : decode cX1_become 50 = .ok (.putfield 27, 3) := by decide +kernel
theorem dX1_become_53 : decode cX1_become 53 = .ok (.aload_n 0, 1) := by decide +kernel
theorem dX1_become_54 : decode cX1_become 54 = .ok (.aload_n 1, 1) := by decide +kernel
theorem dX1_become_55 : decode cX1_become 55 = .ok (.getfield 30, 3) := by decide +kernel
theorem dX1_become_58 : decode cX1_become 58 = .ok (.putfield 30, 3) := by decide +kernel
theorem dX1_become_61 : decode cX1_become 61 = .ok (.aload_n 0, 1) := by decide +kernel
theorem dX1_become_62 : decode cX1_become 62 = .ok (.aload_n 1, 1) := by decide +kernel
theorem dX1_become_63 : decode cX1_become 63 = .ok (.getfield 33, 3) := by decide +kernel
theorem dX1_become_66 : decode cX1_become 66 = .ok (.putfield 33, 3) := by decide +kernel
theorem dX1_become_69 : decode cX1_become 69 = .ok (.aload_n 0, 1) := by decide +kernel
theorem dX1_become_70 : decode cX1_become 70 = .ok (.aload_n 1, 1) := by decide +kernel
theorem dX1_become_71 : decode cX1_become 71 = .ok (.getfield 36, 3) := by decide +kernel
theorem dX1_become_74 : decode cX1_become 74 = .ok (.putfield 36, 3) := by decide +kernel
theorem dX1_become_77 : decode cX1_become 77 = .ok (.iconst 0, 1) := by decide +kernel
theorem dX1_become_78 : decode cX1_become 78 = .ok (.istore_n 2, 1) := by decide +kernel
theorem dX1_become_79 : decode cX1_become 79 = .ok (.iload_n 2, 1) := by decide +kernel
theorem dX1_become_80 : decode cX1_become 80 = .ok (.iconst 4, 1) := by decide +kernel
theorem dX1_become_81 : decode cX1_become 81 = .ok (.if_icmp .ge 33, 3) := by decide +kernel
theorem dX1_become_84 : decode cX1_become 84 = .ok (.aload_n 0, 1) := by decide +kernel
theorem dX1_become_85 : decode cX1_become 85 = .ok (.getfield 39, 3) := by decide +kernel
theorem dX1_become_88 : decode cX1_become 88 = .ok (.iload_n 2, 1) := by decide +kernel
theorem dX1_become_89 : decode cX1_become 89 = .ok (.aload_n 1, 1) := by decide +kernel
theorem dX1_become_90 : decode cX1_become 90 = .ok (.getfield 39, 3) := by decide +kernel
theorem dX1_become_93 : decode cX1_become 93 = .ok (.iload_n 2, 1) := by decide +kernel
theorem dX1_become_94 : decode cX1_become 94 = .ok (.iaload, 1) := by decide +kernel
theorem dX1_become_95 : decode cX1_become 95 = .ok (.iastore, 1) := by decide +kernel
theorem dX1_become_96 : decode cX1_become 96 = .ok (.aload_n 0, 1) := by decide +kernel
theorem dX1_become_97 : decode cX1_become 97 = .ok (.getfield 43, 3) := by decide +kernel
theorem dX1_become_100 : decode cX1_become 100 = .ok (.iload_n 2, 1) := by decide +kernel
theorem dX1_become_101 : decode cX1_become 101 = .ok (.aload_n 1, 1) := by decide +kernel
theorem dX1_become_102 : decode cX1_become 102 = .ok (.getfield 43, 3) := by decide +kernel
theorem dX1_become_105 : decode cX1_become 105 = .ok (.iload_n 2, 1) := by decide +kernel
theorem dX1_become_106 : decode cX1_become 106 = .ok (.iaload, 1) := by decide +kernel
theorem dX1_become_107 : decode cX1_become 107 = .ok (.iastore, 1) := by decide +kernel
theorem dX1_become_108 : decode cX1_become 108 = .ok (.iinc 2 1, 3) := by decide +kernel
theorem dX1_become_111 : decode cX1_become 111 = .ok (.goto (-32), 3) := by decide +kernel
theorem dX1_become_114 : decode cX1_become 114 = .ok (.return_, 1) := by decide +kernel
theorem dX1_becomeTurned_0 : decode cX1_becomeTurned 0 = .ok (.aload_n 1, 1) := by decide +kernel
theorem dX1_becomeTurned_1 : decode cX1_becomeTurned 1 = .ok (.ifnonnull 4, 3) := by decide +kernel
theorem dX1_becomeTurned_4 : decode cX1_becomeTurned 4 = .ok (.return_, 1) := by decide +kernel
theorem dX1_becomeTurned_5 : decode cX1_becomeTurned 5 = .ok (.aload_n 0, 1) := by decide +kernel
theorem dX1_becomeTurned_6 : decode cX1_becomeTurned 6 = .ok (.aload_n 1, 1) := by decide +kernel
theorem dX1_becomeTurned_7 : decode cX1_becomeTurned 7 = .ok (.getfield 15, 3) := by decide +kernel
theorem dX1_becomeTurned_10 : decode cX1_becomeTurned 10 = .ok (.aload_n 1, 1) := by decide +kernel
theorem dX1_becomeTurned_11 : decode cX1_becomeTurned 11 = .ok (.getfield 9, 3) := by decide +kernel
theorem dX1_becomeTurned_14 : decode cX1_becomeTurned 14 = .ok (.invokevirtual 58, 3) := by decide +kernel
theorem dX1_becomeTurned_17 : decode cX1_becomeTurned 17 = .ok (.iconst 0, 1) := by decide +kernel
theorem dX1_becomeTurned_18 : decode cX1_becomeTurned 18 = .ok (.istore_n 2, 1) := by decide +kernel
theorem dX1_becomeTurned_19 : decode cX1_becomeTurned 19 = .ok (.iload_n 2, 1) := by decide +kernel
theorem dX1_becomeTurned_20 : decode cX1_becomeTurned 20 = .ok (.aload_n 1, 1) := by decide +kernel
theorem dX1_becomeTurned_21 : decode cX1_becomeTurned 21 = .ok (.getfield 9, 3) := by decide +kernel
theorem dX1_becomeTurned_24 : decode cX1_becomeTurned 24 = .ok (.if_icmp .ge 116, 3) := by decide +kernel
theorem dX1_becomeTurned_27 : decode cX1_becomeTurned 27 = .ok (.iconst 0, 1) := by decide +kernel
theorem dX1_becomeTurned_28 : decode cX1_becomeTurned 28 = .ok (.istore_n 3, 1) := by decide +kernel
theorem dX1_becomeTurned_29 : decode cX1_becomeTurned 29 = .ok (.iload_n 3, 1) := by decide +kernel
theorem dX1_becomeTurned_30 : decode cX1_becomeTurned 30 = .ok (.aload_n 1, 1) := by decide +kernel
theorem dX1_becomeTurned_31 : decode cX1_becomeTurned 31 = .ok (.getfield 15, 3) := by decide +kernel
theorem dX1_becomeTurned_34 : decode cX1_becomeTurned 34 = .ok (.if_icmp .ge 100, 3) := by decide +kernel
theorem dX1_becomeTurned_37 : decode cX1_becomeTurned 37 = .ok (.iload_n 2, 1) := by decide +kernel
theorem dX1_becomeTurned_38 : decode cX1_becomeTurned 38 = .ok (.aload_n 1, 1) := by decide +kernel
theorem dX1_becomeTurned_39 : decode cX1_becomeTurned 39 = .ok (.getfield 15, 3) := by decide +kernel
theorem dX1_becomeTurned_42 : decode cX1_becomeTurned 42 = .ok (.imul, 1) := by decide +kernel
theorem dX1_becomeTurned_43 : decode cX1_becomeTurned 43 = .ok (.iload_n 3, 1) := by decide +kernel
theorem dX1_becomeTurned_44 : decode cX1_becomeTurned 44 = .ok (.iadd, 1) := by decide +kernel
theorem dX1_becomeTurned_45 : decode cX1_becomeTurned 45 = .ok (.istore 4, 2) := by decide +kernel
theorem dX1_becomeTurned_47 : decode cX1_becomeTurned 47 = .ok (.iload_n 3, 1) := by decide +kernel
theorem dX1_becomeTurned_48 : decode cX1_becomeTurned 48 = .ok (.aload_n 0, 1) := by decide +kernel
theorem dX1_becomeTurned_49 : decode cX1_becomeTurned 49 = .ok (.getfield 15, 3) := by decide +kernel
theorem dX1_becomeTurned_52 : decode cX1_becomeTurned 52 = .ok (.imul, 1) := by decide +kernel
theorem dX1_becomeTurned_53 : decode cX1_becomeTurned 53 = .ok (.aload_n 0, 1) := by decide +kernel
theorem dX1_becomeTurned_54 : decode cX1_becomeTurned 54 = .ok (.getfield 15, 3) := by decide +kernel
theorem dX1_becomeTurned_57 : decode cX1_becomeTurned 57 = .ok (.iadd, 1) := by decide +kernel
theorem dX1_becomeTurned_58 : decode cX1_becomeTurned 58 = .ok (.iconst 1, 1) := by decide +kernel
theorem dX1_becomeTurned_59 : decode cX1_becomeTurned 59 = .ok (.isub, 1) := by decide +kernel
theorem dX1_becomeTurned_60 : decode cX1_becomeTurned 60 = .ok (.iload_n 2, 1) := by decide +kernel
theorem dX1_becomeTurned_61 : decode cX1_becomeTurned 61 = .ok (.isub, 1) := by decide +kernel
theorem dX1_becomeTurned_62 : decode cX1_becomeTurned 62 = .ok (.istore 5, 2) := by decide +kernel
theorem dX1_becomeTurned_64 : decode cX1_becomeTurned 64 = .ok (.aload_n 0, 1) := by decide +kernel
theorem dX1_becomeTurned_65 : decode cX1_becomeTurned 65 = .ok (.iload 5, 2) := by decide +kernel
theorem dX1_becomeTurned_67 : decode cX1_becomeTurned 67 = .ok (.aload_n 1, 1) := by decide +kernel
theorem dX1_becomeTurned_68 : decode cX1_becomeTurned 68 = .ok (.iload 4, 2) := by decide +kernel
theorem dX1_becomeTurned_70 : decode cX1_becomeTurned 70 = .ok (.invokevirtual 62, 3) := by decide +kernel
theorem dX1_becomeTurned_73 : decode cX1_becomeTurned 73 = .ok (.invokevirtual 66, 3) := by decide +kernel
theorem dX1_becomeTurned_76 : decode cX1_becomeTurned 76 = .ok (.aload_n 1, 1) := by decide +kernel
theorem dX1_becomeTurned_77 : decode cX1_becomeTurned 77 = .ok (.getfield 33, 3) := by decide +kernel
theorem dX1_becomeTurned_80 : decode cX1_becomeTurned 80 = .ok (.iload 4, 2) := by decide +kernel
theorem dX1_becomeTurned_82 : decode cX1_becomeTurned 82 = .ok (.invokestatic 69, 3) := by decide +kernel
theorem dX1_becomeTurned_85 : decode cX1_becomeTurned 85 = .ok (.ifCond .eq 16, 3) := by decide +kernel
theorem dX1_becomeTurned_88 : decode cX1_becomeTurned 88 = .ok (.aload_n 0, 1) := by decide +kernel
theorem dX1_becomeTurned_89 : decode cX1_becomeTurned 89 = .ok (.dup, 1) := by decide +kernel
theorem dX1_becomeTurned_90 : decode cX1_becomeTurned 90 = .ok (.getfield 36, 3) := by decide +kernel
theorem dX1_becomeTurned_93 : decode cX1_becomeTurned 93 = .ok (.iconst 1, 1) := by decide +kernel
theorem dX1_becomeTurned_94 : decode cX1_becomeTurned 94 = .ok (.iload 5, 2) := by decide +kernel
theorem dX1_becomeTurned_96 : decode cX1_becomeTurned 96 = .ok (.ishl, 1) := by decide +kernel
theorem dX1_becomeTurned_97 : decode cX1_becomeTurned 97 = .ok (.ior, 1) := by decide +kernel
theorem dX1_becomeTurned_98 : decode cX1_becomeTurned 98 = .ok (.putfield 36, 3) := by decide +kernel
theorem dX1_becomeTurned_101 : decode cX1_becomeTurned 101 = .ok (.aload_n 1, 1) := by decide +kernel
theorem dX1_becomeTurned_102 : decode cX1_becomeTurned 102 = .ok (.getfield 36, 3) := by decide +kernel
theorem dX1_becomeTurned_105 : decode cX1_becomeTurned 105 = .ok (.iload 4, 2) := by decide +kernel
theorem dX1_becomeTurned_107 : decode cX1_becomeTurned 107 = .ok (.invokestatic 69, 3) := by decide +kernel
theorem dX1_becomeTurned_110 : decode cX1_becomeTurned 110 = .ok (.ifCond .eq 18, 3) := by decide +kernel
theorem dX1_becomeTurned_113 : decode cX1_becomeTurned 113 = .ok (.aload_n 0, 1) := by decide +kernel
theorem dX1_becomeTurned_114 : decode cX1_becomeTurned 114 = .ok (.dup, 1) := by decide +kernel
theorem dX1_becomeTurned_115 : decode cX1_becomeTurned 115 = .ok (.getfield 33, 3) := by decide +kernel
theorem dX1_becomeTurned_118 : decode cX1_becomeTurned 118 = .ok (.iconst 1, 1) := by decide +kernel
theorem dX1_becomeTurned_119 : decode cX1_becomeTurned 119 = .ok (.iload 5, 2) := by decide +kernel
theorem dX1_becomeTurned_121 : decode cX1_becomeTurned 121 = .ok (.iconst 1, 1) := by decide +kernel
theorem dX1_becomeTurned_122 : decode cX1_becomeTurned 122 = .ok (.isub, 1) := by decide +kernel
theorem dX1_becomeTurned_123 : decode cX1_becomeTurned 123 = .ok (.ishl, 1) := by decide +kernel
theorem dX1_becomeTurned_124 : decode cX1_becomeTurned 124 = .ok (.ior, 1) := by decide +kernel
theorem dX1_becomeTurned_125 : decode cX1_becomeTurned 125 = .ok (.putfield 33, 3) := by decide +kernel
theorem dX1_becomeTurned_128 : decode cX1_becomeTurned 128 = .ok (.iinc 3 1, 3) := by decide +kernel
theorem dX1_becomeTurned_131 : decode cX1_becomeTurned 131 = .ok (.goto (-102), 3) := by decide +kernel
theorem dX1_becomeTurned_134 : decode cX1_becomeTurned 134 = .ok (.iinc 2 1, 3) := by decide +kernel
theorem dX1_becomeTurned_137 : decode cX1_becomeTurned 137 = .ok (.goto (-118), 3) := by decide +kernel
theorem dX1_becomeTurned_140 : decode cX1_becomeTurned 140 = .ok (.return_, 1) := by decide +kernel
theorem dX1_places_0 : decode cX1_places 0 = .ok (.aload_n 0, 1) := by decide +kernel
theorem dX1_places_1 : decode cX1_places 1 = .ok (.getfield 9, 3) := by decide +kernel
theorem dX1_places_4 : decode cX1_places 4 = .ok (.aload_n 0, 1) := by decide +kernel
theorem dX1_places_5 : decode cX1_places 5 = .ok (.getfield 15, 3) := by decide +kernel
theorem dX1_places_8 : decode cX1_places 8 = .ok (.imul, 1) := by decide +kernel
theorem dX1_places_9 : decode cX1_places 9 = .ok (.ireturn, 1) := by decide +kernel
theorem dX1_isPlace_0 : decode cX1_isPlace 0 = .ok (.iload_n 1, 1) := by decide +kernel
theorem dX1_isPlace_1 : decode cX1_isPlace 1 = .ok (.ifCond .lt 15, 3) := by decide +kernel
theorem dX1_isPlace_4 : decode cX1_isPlace 4 = .ok (.iload_n 1, 1) := by decide +kernel
theorem dX1_isPlace_5 : decode cX1_isPlace 5 = .ok (.aload_n 0, 1) := by decide +kernel
theorem dX1_isPlace_6 : decode cX1_isPlace 6 = .ok (.invokevirtual 73, 3) := by decide +kernel
theorem dX1_isPlace_9 : decode cX1_isPlace 9 = .ok (.if_icmp .ge 7, 3) := by decide +kernel
theorem dX1_isPlace_12 : decode cX1_isPlace 12 = .ok (.iconst 1, 1) := by decide +kernel
theorem dX1_isPlace_13 : decode cX1_isPlace 13 = .ok (.goto 4, 3) := by decide +kernel
theorem dX1_isPlace_16 : decode cX1_isPlace 16 = .ok (.iconst 0, 1) := by decide +kernel
theorem dX1_isPlace_17 : decode cX1_isPlace 17 = .ok (.ireturn, 1) := by decide +kernel
theorem dX1_squares_0 : decode cX1_squares 0 = .ok (.iconst 0, 1) := by decide +kernel
theorem dX1_squares_1 : decode cX1_squares 1 = .ok (.istore_n 1, 1) := by decide +kernel
theorem dX1_squares_2 : decode cX1_squares 2 = .ok (.iconst 0, 1) := by decide +kernel
theorem dX1_squares_3 : decode cX1_squares 3 = .ok (.istore_n 2, 1) := by decide +kernel
theorem dX1_squares_4 : decode cX1_squares 4 = .ok (.iload_n 2, 1) := by decide +kernel
theorem dX1_squares_5 : decode cX1_squares 5 = .ok (.iconst 4, 1) := by decide +kernel
theorem dX1_squares_6 : decode cX1_squares 6 = .ok (.if_icmp .ge 18, 3) := by decide +kernel
theorem dX1_squares_9 : decode cX1_squares 9 = .ok (.iload_n 1, 1) := by decide +kernel
theorem dX1_squares_10 : decode cX1_squares 10 = .ok (.aload_n 0, 1) := by decide +kernel
theorem dX1_squares_11 : decode cX1_squares 11 = .ok (.getfield 39, 3) := by decide +kernel
theorem dX1_squares_14 : decode cX1_squares 14 = .ok (.iload_n 2, 1) := by decide +kernel
theorem dX1_squares_15 : decode cX1_squares 15 = .ok (.iaload, 1) := by decide +kernel
theorem dX1_squares_16 : decode cX1_squares 16 = .ok (.ior, 1) := by decide +kernel
theorem dX1_squares_17 : decode cX1_squares 17 = .ok (.istore_n 1, 1) := by decide +kernel
theorem dX1_squares_18 : decode cX1_squares 18 = .ok (.iinc 2 1, 3) := by decide +kernel
theorem dX1_squares_21 : decode cX1_squares 21 = .ok (.goto (-17), 3) := by decide +kernel
theorem dX1_squares_24 : decode cX1_squares 24 = .ok (.iload_n 1, 1) := by decide +kernel
theorem dX1_squares_25 : decode cX1_squares 25 = .ok (.ireturn, 1) := by decide +kernel
theorem dX1_hasSquare_0 : decode cX1_hasSquare 0 = .ok (.aload_n 0, 1) := by decide +kernel
theorem dX1_hasSquare_1 : decode cX1_hasSquare 1 = .ok (.invokevirtual 77, 3) := by decide +kernel
theorem dX1_hasSquare_4 : decode cX1_hasSquare 4 = .ok (.iload_n 1, 1) := by decide +kernel
theorem dX1_hasSquare_5 : decode cX1_hasSquare 5 = .ok (.invokestatic 69, 3) := by decide +kernel
theorem dX1_hasSquare_8 : decode cX1_hasSquare 8 = .ok (.ireturn, 1) := by decide +kernel
theorem dX1_familyAt_0 : decode cX1_familyAt 0 = .ok (.iconst 0, 1) := by decide +kernel
theorem dX1_familyAt_1 : decode cX1_familyAt 1 = .ok (.istore_n 2, 1) := by decide +kernel
theorem dX1_familyAt_2 : decode cX1_familyAt 2 = .ok (.iload_n 2, 1) := by decide +kernel
theorem dX1_familyAt_3 : decode cX1_familyAt 3 = .ok (.iconst 4, 1) := by decide +kernel
theorem dX1_familyAt_4 : decode cX1_familyAt 4 = .ok (.if_icmp .ge 24, 3) := by decide +kernel
theorem dX1_familyAt_7 : decode cX1_familyAt 7 = .ok (.aload_n 0, 1) := by decide +kernel
theorem dX1_familyAt_8 : decode cX1_familyAt 8 = .ok (.getfield 39, 3) := by decide +kernel
theorem dX1_familyAt_11 : decode cX1_familyAt 11 = .ok (.iload_n 2, 1) := by decide +kernel
theorem dX1_familyAt_12 : decode cX1_familyAt 12 = .ok (.iaload, 1) := by decide +kernel
theorem dX1_familyAt_13 : decode cX1_familyAt 13 = .ok (.iload_n 1, 1) := by decide +kernel
theorem dX1_familyAt_14 : decode cX1_familyAt 14 = .ok (.invokestatic 69, 3) := by decide +kernel
theorem dX1_familyAt_17 : decode cX1_familyAt 17 = .ok (.ifCond .eq 5, 3) := by decide +kernel
theorem dX1_familyAt_20 : decode cX1_familyAt 20 = .ok (.iload_n 2, 1) := by decide +kernel
theorem dX1_familyAt_21 : decode cX1_familyAt 21 = .ok (.ireturn, 1) := by decide +kernel
theorem dX1_familyAt_22 : decode cX1_familyAt 22 = .ok (.iinc 2 1, 3) := by decide +kernel
theorem dX1_familyAt_25 : decode cX1_familyAt 25 = .ok (.goto (-23), 3) := by decide +kernel
theorem dX1_familyAt_28 : decode cX1_familyAt 28 = .ok (.bipush (-6), 2) := by decide +kernel
theorem dX1_familyAt_30 : decode cX1_familyAt 30 = .ok (.ireturn, 1) := by decide +kernel
theorem dX1_put_0 : decode cX1_put 0 = .ok (.iload_n 2, 1) := by decide +kernel
theorem dX1_put_1 : decode cX1_put 1 = .ok (.invokestatic 80, 3) := by decide +kernel
theorem dX1_put_4 : decode cX1_put 4 = .ok (.ifCond .eq 15, 3) := by decide +kernel
theorem dX1_put_7 : decode cX1_put 7 = .ok (.aload_n 0, 1) := by decide +kernel
theorem dX1_put_8 : decode cX1_put 8 = .ok (.getfield 39, 3) := by decide +kernel
theorem dX1_put_11 : decode cX1_put 11 = .ok (.iload_n 2, 1) := by decide +kernel
theorem dX1_put_12 : decode cX1_put 12 = .ok (.dup2, 1) := by decide +kernel
theorem dX1_put_13 : decode cX1_put 13 = .ok (.iaload, 1) := by decide +kernel
theorem dX1_put_14 : decode cX1_put 14 = .ok (.iconst 1, 1) := by decide +kernel
theorem dX1_put_15 : decode cX1_put 15 = .ok (.iload_n 1, 1) := by decide +kernel
theorem dX1_put_16 : decode cX1_put 16 = .ok (.ishl, 1) := by decide +kernel
theorem dX1_put_17 : decode cX1_put 17 = .ok (.ior, 1) := by decide +kernel
theorem dX1_put_18 : decode cX1_put 18 = .ok (.iastore, 1) := by decide +kernel
theorem dX1_put_19 : decode cX1_put 19 = .ok (.return_, 1) := by decide +kernel
theorem dX1_foesOf_0 : decode cX1_foesOf 0 = .ok (.iload_n 1, 1) := by decide +kernel
theorem dX1_foesOf_1 : decode cX1_foesOf 1 = .ok (.invokestatic 80, 3) := by decide +kernel
theorem dX1_foesOf_4 : decode cX1_foesOf 4 = .ok (.ifCond .eq 12, 3) := by decide +kernel
theorem dX1_foesOf_7 : decode cX1_foesOf 7 = .ok (.aload_n 0, 1) := by decide +kernel
theorem dX1_foesOf_8 : decode cX1_foesOf 8 = .ok (.getfield 43, 3) := by decide +kernel
theorem dX1_foesOf_11 : decode cX1_foesOf 11 = .ok (.iload_n 1, 1) := by decide +kernel
theorem dX1_foesOf_12 : decode cX1_foesOf 12 = .ok (.iaload, 1) := by decide +kernel
theorem dX1_foesOf_13 : decode cX1_foesOf 13 = .ok (.goto 4, 3) := by decide +kernel
theorem dX1_foesOf_16 : decode cX1_foesOf 16 = .ok (.iconst 0, 1) := by decide +kernel
theorem dX1_foesOf_17 : decode cX1_foesOf 17 = .ok (.ireturn, 1) := by decide +kernel
theorem dX1_setFoes_0 : decode cX1_setFoes 0 = .ok (.iload_n 1, 1) := by decide +kernel
theorem dX1_setFoes_1 : decode cX1_setFoes 1 = .ok (.invokestatic 80, 3) := by decide +kernel
theorem dX1_setFoes_4 : decode cX1_setFoes 4 = .ok (.ifCond .eq 10, 3) := by decide +kernel
theorem dX1_setFoes_7 : decode cX1_setFoes 7 = .ok (.iload_n 2, 1) := by decide +kernel
theorem dX1_setFoes_8 : decode cX1_setFoes 8 = .ok (.invokestatic 80, 3) := by decide +kernel
theorem dX1_setFoes_11 : decode cX1_setFoes 11 = .ok (.ifCond .ne 4, 3) := by decide +kernel
theorem dX1_setFoes_14 : decode cX1_setFoes 14 = .ok (.return_, 1) := by decide +kernel
theorem dX1_setFoes_15 : decode cX1_setFoes 15 = .ok (.iload_n 3, 1) := by decide +kernel
theorem dX1_setFoes_16 : decode cX1_setFoes 16 = .ok (.ifCond .eq 46, 3) := by decide +kernel
theorem dX1_setFoes_19 : decode cX1_setFoes 19 = .ok (.aload_n 0, 1) := by decide +kernel
theorem dX1_setFoes_20 : decode cX1_setFoes 20 = .ok (.getfield 43, 3) := by decide +kernel
theorem dX1_setFoes_23 : decode cX1_setFoes 23 = .ok (.iload_n 1, 1) := by decide +kernel
theorem dX1_setFoes_24 : decode cX1_setFoes 24 = .ok (.dup2, 1) := by decide +kernel
theorem dX1_setFoes_25 : decode cX1_setFoes 25 = .ok (.iaload, 1) := by decide +kernel
theorem dX1_setFoes_26 : decode cX1_setFoes 26 = .ok (.iconst 1, 1) := by decide +kernel
theorem dX1_setFoes_27 : decode cX1_setFoes 27 = .ok (.iload_n 2, 1) := by decide +kernel
theorem dX1_setFoes_28 : decode cX1_setFoes 28 = .ok (.ishl, 1) := by decide +kernel
theorem dX1_setFoes_29 : decode cX1_setFoes 29 = .ok (.ior, 1) := by decide +kernel
theorem dX1_setFoes_30 : decode cX1_setFoes 30 = .ok (.iastore, 1) := by decide +kernel
theorem dX1_setFoes_31 : decode cX1_setFoes 31 = .ok (.aload_n 0, 1) := by decide +kernel
theorem dX1_setFoes_32 : decode cX1_setFoes 32 = .ok (.getfield 43, 3) := by decide +kernel
theorem dX1_setFoes_35 : decode cX1_setFoes 35 = .ok (.iload_n 2, 1) := by decide +kernel
theorem dX1_setFoes_36 : decode cX1_setFoes 36 = .ok (.dup2, 1) := by decide +kernel
theorem dX1_setFoes_37 : decode cX1_setFoes 37 = .ok (.iaload, 1) := by decide +kernel
theorem dX1_setFoes_38 : decode cX1_setFoes 38 = .ok (.iconst 1, 1) := by decide +kernel
theorem dX1_setFoes_39 : decode cX1_setFoes 39 = .ok (.iload_n 1, 1) := by decide +kernel
theorem dX1_setFoes_40 : decode cX1_setFoes 40 = .ok (.ishl, 1) := by decide +kernel
theorem dX1_setFoes_41 : decode cX1_setFoes 41 = .ok (.ior, 1) := by decide +kernel
theorem dX1_setFoes_42 : decode cX1_setFoes 42 = .ok (.iastore, 1) := by decide +kernel
theorem dX1_setFoes_43 : decode cX1_setFoes 43 = .ok (.aload_n 0, 1) := by decide +kernel
theorem dX1_setFoes_44 : decode cX1_setFoes 44 = .ok (.aload_n 0, 1) := by decide +kernel
theorem dX1_setFoes_45 : decode cX1_setFoes 45 = .ok (.getfield 39, 3) := by decide +kernel
theorem dX1_setFoes_48 : decode cX1_setFoes 48 = .ok (.iload_n 1, 1) := by decide +kernel
theorem dX1_setFoes_49 : decode cX1_setFoes 49 = .ok (.iaload, 1) := by decide +kernel
theorem dX1_setFoes_50 : decode cX1_setFoes 50 = .ok (.aload_n 0, 1) := by decide +kernel
theorem dX1_setFoes_51 : decode cX1_setFoes 51 = .ok (.getfield 39, 3) := by decide +kernel
theorem dX1_setFoes_54 : decode cX1_setFoes 54 = .ok (.iload_n 2, 1) := by decide +kernel
theorem dX1_setFoes_55 : decode cX1_setFoes 55 = .ok (.iaload, 1) := by decide +kernel
theorem dX1_setFoes_56 : decode cX1_setFoes 56 = .ok (.invokevirtual 84, 3) := by decide +kernel
theorem dX1_setFoes_59 : decode cX1_setFoes 59 = .ok (.goto 31, 3) := by decide +kernel
theorem dX1_setFoes_62 : decode cX1_setFoes 62 = .ok (.aload_n 0, 1) := by decide +kernel
theorem dX1_setFoes_63 : decode cX1_setFoes 63 = .ok (.getfield 43, 3) := by decide +kernel
theorem dX1_setFoes_66 : decode cX1_setFoes 66 = .ok (.iload_n 1, 1) := by decide +kernel
theorem dX1_setFoes_67 : decode cX1_setFoes 67 = .ok (.dup2, 1) := by decide +kernel
theorem dX1_setFoes_68 : decode cX1_setFoes 68 = .ok (.iaload, 1) := by decide +kernel
theorem dX1_setFoes_69 : decode cX1_setFoes 69 = .ok (.iconst 1, 1) := by decide +kernel
theorem dX1_setFoes_70 : decode cX1_setFoes 70 = .ok (.iload_n 2, 1) := by decide +kernel
theorem dX1_setFoes_71 : decode cX1_setFoes 71 = .ok (.ishl, 1) := by decide +kernel
theorem dX1_setFoes_72 : decode cX1_setFoes 72 = .ok (.iconst (-1), 1) := by decide +kernel
theorem dX1_setFoes_73 : decode cX1_setFoes 73 = .ok (.ixor, 1) := by decide +kernel
theorem dX1_setFoes_74 : decode cX1_setFoes 74 = .ok (.iand, 1) := by decide +kernel
theorem dX1_setFoes_75 : decode cX1_setFoes 75 = .ok (.iastore, 1) := by decide +kernel
theorem dX1_setFoes_76 : decode cX1_setFoes 76 = .ok (.aload_n 0, 1) := by decide +kernel
theorem dX1_setFoes_77 : decode cX1_setFoes 77 = .ok (.getfield 43, 3) := by decide +kernel
theorem dX1_setFoes_80 : decode cX1_setFoes 80 = .ok (.iload_n 2, 1) := by decide +kernel
theorem dX1_setFoes_81 : decode cX1_setFoes 81 = .ok (.dup2, 1) := by decide +kernel
theorem dX1_setFoes_82 : decode cX1_setFoes 82 = .ok (.iaload, 1) := by decide +kernel
theorem dX1_setFoes_83 : decode cX1_setFoes 83 = .ok (.iconst 1, 1) := by decide +kernel
theorem dX1_setFoes_84 : decode cX1_setFoes 84 = .ok (.iload_n 1, 1) := by decide +kernel
theorem dX1_setFoes_85 : decode cX1_setFoes 85 = .ok (.ishl, 1) := by decide +kernel
theorem dX1_setFoes_86 : decode cX1_setFoes 86 = .ok (.iconst (-1), 1) := by decide +kernel
theorem dX1_setFoes_87 : decode cX1_setFoes 87 = .ok (.ixor, 1) := by decide +kernel
theorem dX1_setFoes_88 : decode cX1_setFoes 88 = .ok (.iand, 1) := by decide +kernel
theorem dX1_setFoes_89 : decode cX1_setFoes 89 = .ok (.iastore, 1) := by decide +kernel
theorem dX1_setFoes_90 : decode cX1_setFoes 90 = .ok (.return_, 1) := by decide +kernel
theorem dX1_beside_0 : decode cX1_beside 0 = .ok (.aload_n 0, 1) := by decide +kernel
theorem dX1_beside_1 : decode cX1_beside 1 = .ok (.getfield 27, 3) := by decide +kernel
theorem dX1_beside_4 : decode cX1_beside 4 = .ok (.iload_n 1, 1) := by decide +kernel
theorem dX1_beside_5 : decode cX1_beside 5 = .ok (.iload_n 2, 1) := by decide +kernel
theorem dX1_beside_6 : decode cX1_beside 6 = .ok (.iconst 1, 1) := by decide +kernel
theorem dX1_beside_7 : decode cX1_beside 7 = .ok (.ishr, 1) := by decide +kernel
theorem dX1_beside_8 : decode cX1_beside 8 = .ok (.iand, 1) := by decide +kernel
theorem dX1_beside_9 : decode cX1_beside 9 = .ok (.iload_n 1, 1) := by decide +kernel
theorem dX1_beside_10 : decode cX1_beside 10 = .ok (.iconst 1, 1) := by decide +kernel
theorem dX1_beside_11 : decode cX1_beside 11 = .ok (.ishr, 1) := by decide +kernel
theorem dX1_beside_12 : decode cX1_beside 12 = .ok (.iload_n 2, 1) := by decide +kernel
theorem dX1_beside_13 : decode cX1_beside 13 = .ok (.iand, 1) := by decide +kernel
theorem dX1_beside_14 : decode cX1_beside 14 = .ok (.ior, 1) := by decide +kernel
theorem dX1_beside_15 : decode cX1_beside 15 = .ok (.iand, 1) := by decide +kernel
theorem dX1_beside_16 : decode cX1_beside 16 = .ok (.ireturn, 1) := by decide +kernel
theorem dX1_below_0 : decode cX1_below 0 = .ok (.aload_n 0, 1) := by decide +kernel
theorem dX1_below_1 : decode cX1_below 1 = .ok (.getfield 30, 3) := by decide +kernel
theorem dX1_below_4 : decode cX1_below 4 = .ok (.iload_n 1, 1) := by decide +kernel
theorem dX1_below_5 : decode cX1_below 5 = .ok (.iload_n 2, 1) := by decide +kernel
theorem dX1_below_6 : decode cX1_below 6 = .ok (.aload_n 0, 1) := by decide +kernel
theorem dX1_below_7 : decode cX1_below 7 = .ok (.getfield 15, 3) := by decide +kernel
theorem dX1_below_10 : decode cX1_below 10 = .ok (.ishr, 1) := by decide +kernel
theorem dX1_below_11 : decode cX1_below 11 = .ok (.iand, 1) := by decide +kernel
theorem dX1_below_12 : decode cX1_below 12 = .ok (.iload_n 1, 1) := by decide +kernel
theorem dX1_below_13 : decode cX1_below 13 = .ok (.aload_n 0, 1) := by decide +kernel
theorem dX1_below_14 : decode cX1_below 14 = .ok (.getfield 15, 3) := by decide +kernel
theorem dX1_below_17 : decode cX1_below 17 = .ok (.ishr, 1) := by decide +kernel
theorem dX1_below_18 : decode cX1_below 18 = .ok (.iload_n 2, 1) := by decide +kernel
theorem dX1_below_19 : decode cX1_below 19 = .ok (.iand, 1) := by decide +kernel
theorem dX1_below_20 : decode cX1_below 20 = .ok (.ior, 1) := by decide +kernel
theorem dX1_below_21 : decode cX1_below 21 = .ok (.iand, 1) := by decide +kernel
theorem dX1_below_22 : decode cX1_below 22 = .ok (.ireturn, 1) := by decide +kernel
theorem dX1_isSeam_0 : decode cX1_isSeam 0 = .ok (.aload_n 0, 1) := by decide +kernel
theorem dX1_isSeam_1 : decode cX1_isSeam 1 = .ok (.iconst 1, 1) := by decide +kernel
theorem dX1_isSeam_2 : decode cX1_isSeam 2 = .ok (.iload_n 1, 1) := by decide +kernel
theorem dX1_isSeam_3 : decode cX1_isSeam 3 = .ok (.ishl, 1) := by decide +kernel
theorem dX1_isSeam_4 : decode cX1_isSeam 4 = .ok (.iconst 1, 1) := by decide +kernel
theorem dX1_isSeam_5 : decode cX1_isSeam 5 = .ok (.iload_n 2, 1) := by decide +kernel
theorem dX1_isSeam_6 : decode cX1_isSeam 6 = .ok (.ishl, 1) := by decide +kernel
theorem dX1_isSeam_7 : decode cX1_isSeam 7 = .ok (.invokevirtual 87, 3) := by decide +kernel
theorem dX1_isSeam_10 : decode cX1_isSeam 10 = .ok (.ifCond .ne 16, 3) := by decide +kernel
theorem dX1_isSeam_13 : decode cX1_isSeam 13 = .ok (.aload_n 0, 1) := by decide +kernel
theorem dX1_isSeam_14 : decode cX1_isSeam 14 = .ok (.iconst 1, 1) := by decide +kernel
theorem dX1_isSeam_15 : decode cX1_isSeam 15 = .ok (.iload_n 1, 1) := by decide +kernel
theorem dX1_isSeam_16 : decode cX1_isSeam 16 = .ok (.ishl, 1) := by decide +kernel
theorem dX1_isSeam_17 : decode cX1_isSeam 17 = .ok (.iconst 1, 1) := by decide +kernel
theorem dX1_isSeam_18 : decode cX1_isSeam 18 = .ok (.iload_n 2, 1) := by decide +kernel
theorem dX1_isSeam_19 : decode cX1_isSeam 19 = .ok (.ishl, 1) := by decide +kernel
theorem dX1_isSeam_20 : decode cX1_isSeam 20 = .ok (.invokevirtual 91, 3) := by decide +kernel
theorem dX1_isSeam_23 : decode cX1_isSeam 23 = .ok (.ifCond .eq 7, 3) := by decide +kernel
theorem dX1_isSeam_26 : decode cX1_isSeam 26 = .ok (.iconst 1, 1) := by decide +kernel
theorem dX1_isSeam_27 : decode cX1_isSeam 27 = .ok (.goto 4, 3) := by decide +kernel
theorem dX1_isSeam_30 : decode cX1_isSeam 30 = .ok (.iconst 0, 1) := by decide +kernel
theorem dX1_isSeam_31 : decode cX1_isSeam 31 = .ok (.istore_n 3, 1) := by decide +kernel
theorem dX1_isSeam_32 : decode cX1_isSeam 32 = .ok (.iload_n 3, 1) := by decide +kernel
theorem dX1_isSeam_33 : decode cX1_isSeam 33 = .ok (.ifCond .eq 23, 3) := by decide +kernel
theorem dX1_isSeam_36 : decode cX1_isSeam 36 = .ok (.aload_n 0, 1) := by decide +kernel
theorem dX1_isSeam_37 : decode cX1_isSeam 37 = .ok (.iload_n 1, 1) := by decide +kernel
theorem dX1_isSeam_38 : decode cX1_isSeam 38 = .ok (.invokevirtual 94, 3) := by decide +kernel
theorem dX1_isSeam_41 : decode cX1_isSeam 41 = .ok (.ifCond .eq 15, 3) := by decide +kernel
theorem dX1_isSeam_44 : decode cX1_isSeam 44 = .ok (.aload_n 0, 1) := by decide +kernel
theorem dX1_isSeam_45 : decode cX1_isSeam 45 = .ok (.iload_n 2, 1) := by decide +kernel
theorem dX1_isSeam_46 : decode cX1_isSeam 46 = .ok (.invokevirtual 94, 3) := by decide +kernel
theorem dX1_isSeam_49 : decode cX1_isSeam 49 = .ok (.ifCond .eq 7, 3) := by decide +kernel
theorem dX1_isSeam_52 : decode cX1_isSeam 52 = .ok (.iconst 1, 1) := by decide +kernel
theorem dX1_isSeam_53 : decode cX1_isSeam 53 = .ok (.goto 4, 3) := by decide +kernel
theorem dX1_isSeam_56 : decode cX1_isSeam 56 = .ok (.iconst 0, 1) := by decide +kernel
theorem dX1_isSeam_57 : decode cX1_isSeam 57 = .ok (.ireturn, 1) := by decide +kernel
theorem dX1_isSewn_0 : decode cX1_isSewn 0 = .ok (.aload_n 0, 1) := by decide +kernel
theorem dX1_isSewn_1 : decode cX1_isSewn 1 = .ok (.iconst 1, 1) := by decide +kernel
theorem dX1_isSewn_2 : decode cX1_isSewn 2 = .ok (.iload_n 1, 1) := by decide +kernel
theorem dX1_isSewn_3 : decode cX1_isSewn 3 = .ok (.ishl, 1) := by decide +kernel
theorem dX1_isSewn_4 : decode cX1_isSewn 4 = .ok (.iconst 1, 1) := by decide +kernel
theorem dX1_isSewn_5 : decode cX1_isSewn 5 = .ok (.iload_n 2, 1) := by decide +kernel
theorem dX1_isSewn_6 : decode cX1_isSewn 6 = .ok (.ishl, 1) := by decide +kernel
theorem dX1_isSewn_7 : decode cX1_isSewn 7 = .ok (.invokevirtual 97, 3) := by decide +kernel
theorem dX1_isSewn_10 : decode cX1_isSewn 10 = .ok (.ifCond .eq 7, 3) := by decide +kernel
theorem dX1_isSewn_13 : decode cX1_isSewn 13 = .ok (.iconst 1, 1) := by decide +kernel
theorem dX1_isSewn_14 : decode cX1_isSewn 14 = .ok (.goto 4, 3) := by decide +kernel
theorem dX1_isSewn_17 : decode cX1_isSewn 17 = .ok (.iconst 0, 1) := by decide +kernel
theorem dX1_isSewn_18 : decode cX1_isSewn 18 = .ok (.ireturn, 1) := by decide +kernel
theorem dX1_isSeamOfFoes_0 : decode cX1_isSeamOfFoes 0 = .ok (.aload_n 0, 1) := by decide +kernel
theorem dX1_isSeamOfFoes_1 : decode cX1_isSeamOfFoes 1 = .ok (.iload_n 2, 1) := by decide +kernel
theorem dX1_isSeamOfFoes_2 : decode cX1_isSeamOfFoes 2 = .ok (.invokevirtual 62, 3) := by decide +kernel
theorem dX1_isSeamOfFoes_5 : decode cX1_isSeamOfFoes 5 = .ok (.istore_n 3, 1) := by decide +kernel
theorem dX1_isSeamOfFoes_6 : decode cX1_isSeamOfFoes 6 = .ok (.iload_n 3, 1) := by decide +kernel
theorem dX1_isSeamOfFoes_7 : decode cX1_isSeamOfFoes 7 = .ok (.invokestatic 80, 3) := by decide +kernel
theorem dX1_isSeamOfFoes_10 : decode cX1_isSeamOfFoes 10 = .ok (.ifCond .eq 23, 3) := by decide +kernel
theorem dX1_isSeamOfFoes_13 : decode cX1_isSeamOfFoes 13 = .ok (.aload_n 0, 1) := by decide +kernel
theorem dX1_isSeamOfFoes_14 : decode cX1_isSeamOfFoes 14 = .ok (.aload_n 0, 1) := by decide +kernel
theorem dX1_isSeamOfFoes_15 : decode cX1_isSeamOfFoes 15 = .ok (.iload_n 1, 1) := by decide +kernel
theorem dX1_isSeamOfFoes_16 : decode cX1_isSeamOfFoes 16 = .ok (.invokevirtual 62, 3) := by decide +kernel
theorem dX1_isSeamOfFoes_19 : decode cX1_isSeamOfFoes 19 = .ok (.invokevirtual 100, 3) := by decide +kernel
theorem dX1_isSeamOfFoes_22 : decode cX1_isSeamOfFoes 22 = .ok (.iload_n 3, 1) := by decide +kernel
theorem dX1_isSeamOfFoes_23 : decode cX1_isSeamOfFoes 23 = .ok (.invokestatic 69, 3) := by decide +kernel
theorem dX1_isSeamOfFoes_26 : decode cX1_isSeamOfFoes 26 = .ok (.ifCond .eq 7, 3) := by decide +kernel
theorem dX1_isSeamOfFoes_29 : decode cX1_isSeamOfFoes 29 = .ok (.iconst 1, 1) := by decide +kernel
theorem dX1_isSeamOfFoes_30 : decode cX1_isSeamOfFoes 30 = .ok (.goto 4, 3) := by decide +kernel
theorem dX1_isSeamOfFoes_33 : decode cX1_isSeamOfFoes 33 = .ok (.iconst 0, 1) := by decide +kernel
theorem dX1_isSeamOfFoes_34 : decode cX1_isSeamOfFoes 34 = .ok (.ireturn, 1) := by decide +kernel
theorem dX1_threadOf_0 : decode cX1_threadOf 0 = .ok (.aload_n 0, 1) := by decide +kernel
theorem dX1_threadOf_1 : decode cX1_threadOf 1 = .ok (.iload_n 1, 1) := by decide +kernel
theorem dX1_threadOf_2 : decode cX1_threadOf 2 = .ok (.invokevirtual 62, 3) := by decide +kernel
theorem dX1_threadOf_5 : decode cX1_threadOf 5 = .ok (.aload_n 0, 1) := by decide +kernel
theorem dX1_threadOf_6 : decode cX1_threadOf 6 = .ok (.iload_n 2, 1) := by decide +kernel
theorem dX1_threadOf_7 : decode cX1_threadOf 7 = .ok (.invokevirtual 62, 3) := by decide +kernel
theorem dX1_threadOf_10 : decode cX1_threadOf 10 = .ok (.if_icmp .ne 10, 3) := by decide +kernel
theorem dX1_threadOf_13 : decode cX1_threadOf 13 = .ok (.aload_n 0, 1) := by decide +kernel
theorem dX1_threadOf_14 : decode cX1_threadOf 14 = .ok (.getfield 18, 3) := by decide +kernel
theorem dX1_threadOf_17 : decode cX1_threadOf 17 = .ok (.goto 7, 3) := by decide +kernel
theorem dX1_threadOf_20 : decode cX1_threadOf 20 = .ok (.aload_n 0, 1) := by decide +kernel
theorem dX1_threadOf_21 : decode cX1_threadOf 21 = .ok (.getfield 21, 3) := by decide +kernel
theorem dX1_threadOf_24 : decode cX1_threadOf 24 = .ok (.ireturn, 1) := by decide +kernel
theorem dX1_join_0 : decode cX1_join 0 = .ok (.aload_n 0, 1) := by decide +kernel
theorem dX1_join_1 : decode cX1_join 1 = .ok (.dup, 1) := by decide +kernel
theorem dX1_join_2 : decode cX1_join 2 = .ok (.getfield 33, 3) := by decide +kernel
theorem dX1_join_5 : decode cX1_join 5 = .ok (.aload_n 0, 1) := by decide +kernel
theorem dX1_join_6 : decode cX1_join 6 = .ok (.iconst 1, 1) := by decide +kernel
theorem dX1_join_7 : decode cX1_join 7 = .ok (.iload_n 1, 1) := by decide +kernel
theorem dX1_join_8 : decode cX1_join 8 = .ok (.ishl, 1) := by decide +kernel
theorem dX1_join_9 : decode cX1_join 9 = .ok (.iconst 1, 1) := by decide +kernel
theorem dX1_join_10 : decode cX1_join 10 = .ok (.iload_n 2, 1) := by decide +kernel
theorem dX1_join_11 : decode cX1_join 11 = .ok (.ishl, 1) := by decide +kernel
theorem dX1_join_12 : decode cX1_join 12 = .ok (.invokevirtual 87, 3) := by decide +kernel
theorem dX1_join_15 : decode cX1_join 15 = .ok (.ior, 1) := by decide +kernel
theorem dX1_join_16 : decode cX1_join 16 = .ok (.putfield 33, 3) := by decide +kernel
theorem dX1_join_19 : decode cX1_join 19 = .ok (.aload_n 0, 1) := by decide +kernel
theorem dX1_join_20 : decode cX1_join 20 = .ok (.dup, 1) := by decide +kernel
theorem dX1_join_21 : decode cX1_join 21 = .ok (.getfield 36, 3) := by decide +kernel
theorem dX1_join_24 : decode cX1_join 24 = .ok (.aload_n 0, 1) := by decide +kernel
theorem dX1_join_25 : decode cX1_join 25 = .ok (.iconst 1, 1) := by decide +kernel
theorem dX1_join_26 : decode cX1_join 26 = .ok (.iload_n 1, 1) := by decide +kernel
theorem dX1_join_27 : decode cX1_join 27 = .ok (.ishl, 1) := by decide +kernel
theorem dX1_join_28 : decode cX1_join 28 = .ok (.iconst 1, 1) := by decide +kernel
theorem dX1_join_29 : decode cX1_join 29 = .ok (.iload_n 2, 1) := by decide +kernel
theorem dX1_join_30 : decode cX1_join 30 = .ok (.ishl, 1) := by decide +kernel
theorem dX1_join_31 : decode cX1_join 31 = .ok (.invokevirtual 91, 3) := by decide +kernel
theorem dX1_join_34 : decode cX1_join 34 = .ok (.ior, 1) := by decide +kernel
theorem dX1_join_35 : decode cX1_join 35 = .ok (.putfield 36, 3) := by decide +kernel
theorem dX1_join_38 : decode cX1_join 38 = .ok (.return_, 1) := by decide +kernel
theorem dX1_loosen_0 : decode cX1_loosen 0 = .ok (.aload_n 0, 1) := by decide +kernel
theorem dX1_loosen_1 : decode cX1_loosen 1 = .ok (.dup, 1) := by decide +kernel
theorem dX1_loosen_2 : decode cX1_loosen 2 = .ok (.getfield 33, 3) := by decide +kernel
theorem dX1_loosen_5 : decode cX1_loosen 5 = .ok (.aload_n 0, 1) := by decide +kernel
theorem dX1_loosen_6 : decode cX1_loosen 6 = .ok (.iload_n 1, 1) := by decide +kernel
theorem dX1_loosen_7 : decode cX1_loosen 7 = .ok (.iload_n 2, 1) := by decide +kernel
theorem dX1_loosen_8 : decode cX1_loosen 8 = .ok (.invokevirtual 87, 3) := by decide +kernel
theorem dX1_loosen_11 : decode cX1_loosen 11 = .ok (.iconst (-1), 1) := by decide +kernel
theorem dX1_loosen_12 : decode cX1_loosen 12 = .ok (.ixor, 1) := by decide +kernel
theorem dX1_loosen_13 : decode cX1_loosen 13 = .ok (.iand, 1) := by decide +kernel
theorem dX1_loosen_14 : decode cX1_loosen 14 = .ok (.putfield 33, 3) := by decide +kernel
theorem dX1_loosen_17 : decode cX1_loosen 17 = .ok (.aload_n 0, 1) := by decide +kernel
theorem dX1_loosen_18 : decode cX1_loosen 18 = .ok (.dup, 1) := by decide +kernel
theorem dX1_loosen_19 : decode cX1_loosen 19 = .ok (.getfield 36, 3) := by decide +kernel
theorem dX1_loosen_22 : decode cX1_loosen 22 = .ok (.aload_n 0, 1) := by decide +kernel
theorem dX1_loosen_23 : decode cX1_loosen 23 = .ok (.iload_n 1, 1) := by decide +kernel
theorem dX1_loosen_24 : decode cX1_loosen 24 = .ok (.iload_n 2, 1) := by decide +kernel
theorem dX1_loosen_25 : decode cX1_loosen 25 = .ok (.invokevirtual 91, 3) := by decide +kernel
theorem dX1_loosen_28 : decode cX1_loosen 28 = .ok (.iconst (-1), 1) := by decide +kernel
theorem dX1_loosen_29 : decode cX1_loosen 29 = .ok (.ixor, 1) := by decide +kernel
theorem dX1_loosen_30 : decode cX1_loosen 30 = .ok (.iand, 1) := by decide +kernel
theorem dX1_loosen_31 : decode cX1_loosen 31 = .ok (.putfield 36, 3) := by decide +kernel
theorem dX1_loosen_34 : decode cX1_loosen 34 = .ok (.return_, 1) := by decide +kernel
theorem dX1_bear_0 : decode cX1_bear 0 = .ok (.iconst 0, 1) := by decide +kernel
theorem dX1_bear_1 : decode cX1_bear 1 = .ok (.istore_n 3, 1) := by decide +kernel
theorem dX1_bear_2 : decode cX1_bear 2 = .ok (.iconst 0, 1) := by decide +kernel
theorem dX1_bear_3 : decode cX1_bear 3 = .ok (.istore 4, 2) := by decide +kernel
theorem dX1_bear_5 : decode cX1_bear 5 = .ok (.iload 4, 2) := by decide +kernel
theorem dX1_bear_7 : decode cX1_bear 7 = .ok (.iconst 4, 1) := by decide +kernel
theorem dX1_bear_8 : decode cX1_bear 8 = .ok (.if_icmp .ge 32, 3) := by decide +kernel
theorem dX1_bear_11 : decode cX1_bear 11 = .ok (.aload_n 0, 1) := by decide +kernel
theorem dX1_bear_12 : decode cX1_bear 12 = .ok (.iload_n 2, 1) := by decide +kernel
theorem dX1_bear_13 : decode cX1_bear 13 = .ok (.invokevirtual 100, 3) := by decide +kernel
theorem dX1_bear_16 : decode cX1_bear 16 = .ok (.iload 4, 2) := by decide +kernel
theorem dX1_bear_18 : decode cX1_bear 18 = .ok (.invokestatic 69, 3) := by decide +kernel
theorem dX1_bear_21 : decode cX1_bear 21 = .ok (.ifCond .ne 13, 3) := by decide +kernel
theorem dX1_bear_24 : decode cX1_bear 24 = .ok (.iload_n 3, 1) := by decide +kernel
theorem dX1_bear_25 : decode cX1_bear 25 = .ok (.aload_n 0, 1) := by decide +kernel
theorem dX1_bear_26 : decode cX1_bear 26 = .ok (.getfield 39, 3) := by decide +kernel
theorem dX1_bear_29 : decode cX1_bear 29 = .ok (.iload 4, 2) := by decide +kernel
theorem dX1_bear_31 : decode cX1_bear 31 = .ok (.iaload, 1) := by decide +kernel
theorem dX1_bear_32 : decode cX1_bear 32 = .ok (.ior, 1) := by decide +kernel
theorem dX1_bear_33 : decode cX1_bear 33 = .ok (.istore_n 3, 1) := by decide +kernel
theorem dX1_bear_34 : decode cX1_bear 34 = .ok (.iinc 4 1, 3) := by decide +kernel
theorem dX1_bear_37 : decode cX1_bear 37 = .ok (.goto (-32), 3) := by decide +kernel
theorem dX1_bear_40 : decode cX1_bear 40 = .ok (.aload_n 0, 1) := by decide +kernel
theorem dX1_bear_41 : decode cX1_bear 41 = .ok (.iload_n 1, 1) := by decide +kernel
theorem dX1_bear_42 : decode cX1_bear 42 = .ok (.iload_n 2, 1) := by decide +kernel
theorem dX1_bear_43 : decode cX1_bear 43 = .ok (.invokevirtual 66, 3) := by decide +kernel
theorem dX1_bear_46 : decode cX1_bear 46 = .ok (.aload_n 0, 1) := by decide +kernel
theorem dX1_bear_47 : decode cX1_bear 47 = .ok (.dup, 1) := by decide +kernel
theorem dX1_bear_48 : decode cX1_bear 48 = .ok (.getfield 33, 3) := by decide +kernel
theorem dX1_bear_51 : decode cX1_bear 51 = .ok (.aload_n 0, 1) := by decide +kernel
theorem dX1_bear_52 : decode cX1_bear 52 = .ok (.iconst 1, 1) := by decide +kernel
theorem dX1_bear_53 : decode cX1_bear 53 = .ok (.iload_n 1, 1) := by decide +kernel
theorem dX1_bear_54 : decode cX1_bear 54 = .ok (.ishl, 1) := by decide +kernel
theorem dX1_bear_55 : decode cX1_bear 55 = .ok (.iload_n 3, 1) := by decide +kernel
theorem dX1_bear_56 : decode cX1_bear 56 = .ok (.invokevirtual 87, 3) := by decide +kernel
theorem dX1_bear_59 : decode cX1_bear 59 = .ok (.ior, 1) := by decide +kernel
theorem dX1_bear_60 : decode cX1_bear 60 = .ok (.putfield 33, 3) := by decide +kernel
theorem dX1_bear_63 : decode cX1_bear 63 = .ok (.aload_n 0, 1) := by decide +kernel
theorem dX1_bear_64 : decode cX1_bear 64 = .ok (.dup, 1) := by decide +kernel
theorem dX1_bear_65 : decode cX1_bear 65 = .ok (.getfield 36, 3) := by decide +kernel
theorem dX1_bear_68 : decode cX1_bear 68 = .ok (.aload_n 0, 1) := by decide +kernel
theorem dX1_bear_69 : decode cX1_bear 69 = .ok (.iconst 1, 1) := by decide +kernel
theorem dX1_bear_70 : decode cX1_bear 70 = .ok (.iload_n 1, 1) := by decide +kernel
theorem dX1_bear_71 : decode cX1_bear 71 = .ok (.ishl, 1) := by decide +kernel
theorem dX1_bear_72 : decode cX1_bear 72 = .ok (.iload_n 3, 1) := by decide +kernel
theorem dX1_bear_73 : decode cX1_bear 73 = .ok (.invokevirtual 91, 3) := by decide +kernel
theorem dX1_bear_76 : decode cX1_bear 76 = .ok (.ior, 1) := by decide +kernel
theorem dX1_bear_77 : decode cX1_bear 77 = .ok (.putfield 36, 3) := by decide +kernel
theorem dX1_bear_80 : decode cX1_bear 80 = .ok (.aload_n 0, 1) := by decide +kernel
theorem dX1_bear_81 : decode cX1_bear 81 = .ok (.iconst 1, 1) := by decide +kernel
theorem dX1_bear_82 : decode cX1_bear 82 = .ok (.iload_n 1, 1) := by decide +kernel
theorem dX1_bear_83 : decode cX1_bear 83 = .ok (.ishl, 1) := by decide +kernel
theorem dX1_bear_84 : decode cX1_bear 84 = .ok (.invokevirtual 103, 3) := by decide +kernel
theorem dX1_bear_87 : decode cX1_bear 87 = .ok (.invokestatic 106, 3) := by decide +kernel
theorem dX1_bear_90 : decode cX1_bear 90 = .ok (.ireturn, 1) := by decide +kernel
theorem dX1_bury_0 : decode cX1_bury 0 = .ok (.aload_n 0, 1) := by decide +kernel
theorem dX1_bury_1 : decode cX1_bury 1 = .ok (.iconst 1, 1) := by decide +kernel
theorem dX1_bury_2 : decode cX1_bury 2 = .ok (.iload_n 1, 1) := by decide +kernel
theorem dX1_bury_3 : decode cX1_bury 3 = .ok (.ishl, 1) := by decide +kernel
theorem dX1_bury_4 : decode cX1_bury 4 = .ok (.invokevirtual 103, 3) := by decide +kernel
theorem dX1_bury_7 : decode cX1_bury 7 = .ok (.invokestatic 106, 3) := by decide +kernel
theorem dX1_bury_10 : decode cX1_bury 10 = .ok (.istore_n 2, 1) := by decide +kernel
theorem dX1_bury_11 : decode cX1_bury 11 = .ok (.aload_n 0, 1) := by decide +kernel
theorem dX1_bury_12 : decode cX1_bury 12 = .ok (.iconst 1, 1) := by decide +kernel
theorem dX1_bury_13 : decode cX1_bury 13 = .ok (.iload_n 1, 1) := by decide +kernel
theorem dX1_bury_14 : decode cX1_bury 14 = .ok (.ishl, 1) := by decide +kernel
theorem dX1_bury_15 : decode cX1_bury 15 = .ok (.aload_n 0, 1) := by decide +kernel
theorem dX1_bury_16 : decode cX1_bury 16 = .ok (.invokevirtual 77, 3) := by decide +kernel
theorem dX1_bury_19 : decode cX1_bury 19 = .ok (.invokevirtual 84, 3) := by decide +kernel
theorem dX1_bury_22 : decode cX1_bury 22 = .ok (.iconst 0, 1) := by decide +kernel
theorem dX1_bury_23 : decode cX1_bury 23 = .ok (.istore_n 3, 1) := by decide +kernel
theorem dX1_bury_24 : decode cX1_bury 24 = .ok (.iload_n 3, 1) := by decide +kernel
theorem dX1_bury_25 : decode cX1_bury 25 = .ok (.iconst 4, 1) := by decide +kernel
theorem dX1_bury_26 : decode cX1_bury 26 = .ok (.if_icmp .ge 23, 3) := by decide +kernel
theorem dX1_bury_29 : decode cX1_bury 29 = .ok (.aload_n 0, 1) := by decide +kernel
theorem dX1_bury_30 : decode cX1_bury 30 = .ok (.getfield 39, 3) := by decide +kernel
theorem dX1_bury_33 : decode cX1_bury 33 = .ok (.iload_n 3, 1) := by decide +kernel
theorem dX1_bury_34 : decode cX1_bury 34 = .ok (.dup2, 1) := by decide +kernel
theorem dX1_bury_35 : decode cX1_bury 35 = .ok (.iaload, 1) := by decide +kernel
theorem dX1_bury_36 : decode cX1_bury 36 = .ok (.iconst 1, 1) := by decide +kernel
theorem dX1_bury_37 : decode cX1_bury 37 = .ok (.iload_n 1, 1) := by decide +kernel
theorem dX1_bury_38 : decode cX1_bury 38 = .ok (.ishl, 1) := by decide +kernel
theorem dX1_bury_39 : decode cX1_bury 39 = .ok (.iconst (-1), 1) := by decide +kernel
theorem dX1_bury_40 : decode cX1_bury 40 = .ok (.ixor, 1) := by decide +kernel
theorem dX1_bury_41 : decode cX1_bury 41 = .ok (.iand, 1) := by decide +kernel
theorem dX1_bury_42 : decode cX1_bury 42 = .ok (.iastore, 1) := by decide +kernel
theorem dX1_bury_43 : decode cX1_bury 43 = .ok (.iinc 3 1, 3) := by decide +kernel
theorem dX1_bury_46 : decode cX1_bury 46 = .ok (.goto (-22), 3) := by decide +kernel
theorem dX1_bury_49 : decode cX1_bury 49 = .ok (.iload_n 2, 1) := by decide +kernel
theorem dX1_bury_50 : decode cX1_bury 50 = .ok (.ireturn, 1) := by decide +kernel
theorem dX1_joinedTo_0 : decode cX1_joinedTo 0 = .ok (.iload_n 1, 1) := by decide +kernel
theorem dX1_joinedTo_1 : decode cX1_joinedTo 1 = .ok (.aload_n 0, 1) := by decide +kernel
theorem dX1_joinedTo_2 : decode cX1_joinedTo 2 = .ok (.getfield 33, 3) := by decide +kernel
theorem dX1_joinedTo_5 : decode cX1_joinedTo 5 = .ok (.iand, 1) := by decide +kernel
theorem dX1_joinedTo_6 : decode cX1_joinedTo 6 = .ok (.iconst 1, 1) := by decide +kernel
theorem dX1_joinedTo_7 : decode cX1_joinedTo 7 = .ok (.ishl, 1) := by decide +kernel
theorem dX1_joinedTo_8 : decode cX1_joinedTo 8 = .ok (.iload_n 1, 1) := by decide +kernel
theorem dX1_joinedTo_9 : decode cX1_joinedTo 9 = .ok (.iconst 1, 1) := by decide +kernel
theorem dX1_joinedTo_10 : decode cX1_joinedTo 10 = .ok (.ishr, 1) := by decide +kernel
theorem dX1_joinedTo_11 : decode cX1_joinedTo 11 = .ok (.aload_n 0, 1) := by decide +kernel
theorem dX1_joinedTo_12 : decode cX1_joinedTo 12 = .ok (.getfield 33, 3) := by decide +kernel
theorem dX1_joinedTo_15 : decode cX1_joinedTo 15 = .ok (.iand, 1) := by decide +kernel
theorem dX1_joinedTo_16 : decode cX1_joinedTo 16 = .ok (.ior, 1) := by decide +kernel
theorem dX1_joinedTo_17 : decode cX1_joinedTo 17 = .ok (.istore_n 2, 1) := by decide +kernel
theorem dX1_joinedTo_18 : decode cX1_joinedTo 18 = .ok (.iload_n 1, 1) := by decide +kernel
theorem dX1_joinedTo_19 : decode cX1_joinedTo 19 = .ok (.aload_n 0, 1) := by decide +kernel
theorem dX1_joinedTo_20 : decode cX1_joinedTo 20 = .ok (.getfield 36, 3) := by decide +kernel
theorem dX1_joinedTo_23 : decode cX1_joinedTo 23 = .ok (.iand, 1) := by decide +kernel
theorem dX1_joinedTo_24 : decode cX1_joinedTo 24 = .ok (.aload_n 0, 1) := by decide +kernel
theorem dX1_joinedTo_25 : decode cX1_joinedTo 25 = .ok (.getfield 15, 3) := by decide +kernel
theorem dX1_joinedTo_28 : decode cX1_joinedTo 28 = .ok (.ishl, 1) := by decide +kernel
theorem dX1_joinedTo_29 : decode cX1_joinedTo 29 = .ok (.iload_n 1, 1) := by decide +kernel
theorem dX1_joinedTo_30 : decode cX1_joinedTo 30 = .ok (.aload_n 0, 1) := by decide +kernel
theorem dX1_joinedTo_31 : decode cX1_joinedTo 31 = .ok (.getfield 15, 3) := by decide +kernel
theorem dX1_joinedTo_34 : decode cX1_joinedTo 34 = .ok (.ishr, 1) := by decide +kernel
theorem dX1_joinedTo_35 : decode cX1_joinedTo 35 = .ok (.aload_n 0, 1) := by decide +kernel
theorem dX1_joinedTo_36 : decode cX1_joinedTo 36 = .ok (.getfield 36, 3) := by decide +kernel
theorem dX1_joinedTo_39 : decode cX1_joinedTo 39 = .ok (.iand, 1) := by decide +kernel
theorem dX1_joinedTo_40 : decode cX1_joinedTo 40 = .ok (.ior, 1) := by decide +kernel
theorem dX1_joinedTo_41 : decode cX1_joinedTo 41 = .ok (.istore_n 3, 1) := by decide +kernel
theorem dX1_joinedTo_42 : decode cX1_joinedTo 42 = .ok (.iload_n 2, 1) := by decide +kernel
theorem dX1_joinedTo_43 : decode cX1_joinedTo 43 = .ok (.iload_n 3, 1) := by decide +kernel
theorem dX1_joinedTo_44 : decode cX1_joinedTo 44 = .ok (.ior, 1) := by decide +kernel
theorem dX1_joinedTo_45 : decode cX1_joinedTo 45 = .ok (.ireturn, 1) := by decide +kernel
theorem dX1_around_0 : decode cX1_around 0 = .ok (.iconst 1, 1) := by decide +kernel
theorem dX1_around_1 : decode cX1_around 1 = .ok (.iload_n 1, 1) := by decide +kernel
theorem dX1_around_2 : decode cX1_around 2 = .ok (.ishl, 1) := by decide +kernel
theorem dX1_around_3 : decode cX1_around 3 = .ok (.istore_n 2, 1) := by decide +kernel
theorem dX1_around_4 : decode cX1_around 4 = .ok (.iload_n 2, 1) := by decide +kernel
theorem dX1_around_5 : decode cX1_around 5 = .ok (.aload_n 0, 1) := by decide +kernel
theorem dX1_around_6 : decode cX1_around 6 = .ok (.getfield 27, 3) := by decide +kernel
theorem dX1_around_9 : decode cX1_around 9 = .ok (.iand, 1) := by decide +kernel
theorem dX1_around_10 : decode cX1_around 10 = .ok (.iconst 1, 1) := by decide +kernel
theorem dX1_around_11 : decode cX1_around 11 = .ok (.ishl, 1) := by decide +kernel
theorem dX1_around_12 : decode cX1_around 12 = .ok (.iload_n 2, 1) := by decide +kernel
theorem dX1_around_13 : decode cX1_around 13 = .ok (.iconst 1, 1) := by decide +kernel
theorem dX1_around_14 : decode cX1_around 14 = .ok (.ishr, 1) := by decide +kernel
theorem dX1_around_15 : decode cX1_around 15 = .ok (.aload_n 0, 1) := by decide +kernel
theorem dX1_around_16 : decode cX1_around 16 = .ok (.getfield 27, 3) := by decide +kernel
theorem dX1_around_19 : decode cX1_around 19 = .ok (.iand, 1) := by decide +kernel
theorem dX1_around_20 : decode cX1_around 20 = .ok (.ior, 1) := by decide +kernel
theorem dX1_around_21 : decode cX1_around 21 = .ok (.istore_n 3, 1) := by decide +kernel
theorem dX1_around_22 : decode cX1_around 22 = .ok (.iload_n 2, 1) := by decide +kernel
theorem dX1_around_23 : decode cX1_around 23 = .ok (.aload_n 0, 1) := by decide +kernel
theorem dX1_around_24 : decode cX1_around 24 = .ok (.getfield 30, 3) := by decide +kernel
theorem dX1_around_27 : decode cX1_around 27 = .ok (.iand, 1) := by decide +kernel
theorem dX1_around_28 : decode cX1_around 28 = .ok (.aload_n 0, 1) := by decide +kernel
theorem dX1_around_29 : decode cX1_around 29 = .ok (.getfield 15, 3) := by decide +kernel
theorem dX1_around_32 : decode cX1_around 32 = .ok (.ishl, 1) := by decide +kernel
theorem dX1_around_33 : decode cX1_around 33 = .ok (.iload_n 2, 1) := by decide +kernel
theorem dX1_around_34 : decode cX1_around 34 = .ok (.aload_n 0, 1) := by decide +kernel
theorem dX1_around_35 : decode cX1_around 35 = .ok (.getfield 15, 3) := by decide +kernel
theorem dX1_around_38 : decode cX1_around 38 = .ok (.ishr, 1) := by decide +kernel
theorem dX1_around_39 : decode cX1_around 39 = .ok (.aload_n 0, 1) := by decide +kernel
theorem dX1_around_40 : decode cX1_around 40 = .ok (.getfield 30, 3) := by decide +kernel
theorem dX1_around_43 : decode cX1_around 43 = .ok (.iand, 1) := by decide +kernel
theorem dX1_around_44 : decode cX1_around 44 = .ok (.ior, 1) := by decide +kernel
theorem dX1_around_45 : decode cX1_around 45 = .ok (.istore 4, 2) := by decide +kernel
theorem dX1_around_47 : decode cX1_around 47 = .ok (.iload_n 3, 1) := by decide +kernel
theorem dX1_around_48 : decode cX1_around 48 = .ok (.iload 4, 2) := by decide +kernel
theorem dX1_around_50 : decode cX1_around 50 = .ok (.ior, 1) := by decide +kernel
theorem dX1_around_51 : decode cX1_around 51 = .ok (.ireturn, 1) := by decide +kernel
theorem dX1_countBetween_0 : decode cX1_countBetween 0 = .ok (.aload_n 0, 1) := by decide +kernel
theorem dX1_countBetween_1 : decode cX1_countBetween 1 = .ok (.getfield 33, 3) := by decide +kernel
theorem dX1_countBetween_4 : decode cX1_countBetween 4 = .ok (.aload_n 0, 1) := by decide +kernel
theorem dX1_countBetween_5 : decode cX1_countBetween 5 = .ok (.iload_n 1, 1) := by decide +kernel
theorem dX1_countBetween_6 : decode cX1_countBetween 6 = .ok (.iload_n 2, 1) := by decide +kernel
theorem dX1_countBetween_7 : decode cX1_countBetween 7 = .ok (.invokevirtual 87, 3) := by decide +kernel
theorem dX1_countBetween_10 : decode cX1_countBetween 10 = .ok (.iand, 1) := by decide +kernel
theorem dX1_countBetween_11 : decode cX1_countBetween 11 = .ok (.invokestatic 106, 3) := by decide +kernel
theorem dX1_countBetween_14 : decode cX1_countBetween 14 = .ok (.aload_n 0, 1) := by decide +kernel
theorem dX1_countBetween_15 : decode cX1_countBetween 15 = .ok (.getfield 36, 3) := by decide +kernel
theorem dX1_countBetween_18 : decode cX1_countBetween 18 = .ok (.aload_n 0, 1) := by decide +kernel
theorem dX1_countBetween_19 : decode cX1_countBetween 19 = .ok (.iload_n 1, 1) := by decide +kernel
theorem dX1_countBetween_20 : decode cX1_countBetween 20 = .ok (.iload_n 2, 1) := by decide +kernel
theorem dX1_countBetween_21 : decode cX1_countBetween 21 = .ok (.invokevirtual 91, 3) := by decide +kernel
theorem dX1_countBetween_24 : decode cX1_countBetween 24 = .ok (.iand, 1) := by decide +kernel
theorem dX1_countBetween_25 : decode cX1_countBetween 25 = .ok (.invokestatic 106, 3) := by decide +kernel
theorem dX1_countBetween_28 : decode cX1_countBetween 28 = .ok (.iadd, 1) := by decide +kernel
theorem dX1_countBetween_29 : decode cX1_countBetween 29 = .ok (.ireturn, 1) := by decide +kernel
theorem dX1_countSewn_0 : decode cX1_countSewn 0 = .ok (.aload_n 0, 1) := by decide +kernel
theorem dX1_countSewn_1 : decode cX1_countSewn 1 = .ok (.getfield 33, 3) := by decide +kernel
theorem dX1_countSewn_4 : decode cX1_countSewn 4 = .ok (.invokestatic 106, 3) := by decide +kernel
theorem dX1_countSewn_7 : decode cX1_countSewn 7 = .ok (.aload_n 0, 1) := by decide +kernel
theorem dX1_countSewn_8 : decode cX1_countSewn 8 = .ok (.getfield 36, 3) := by decide +kernel
theorem dX1_countSewn_11 : decode cX1_countSewn 11 = .ok (.invokestatic 106, 3) := by decide +kernel
theorem dX1_countSewn_14 : decode cX1_countSewn 14 = .ok (.iadd, 1) := by decide +kernel
theorem dX1_countSewn_15 : decode cX1_countSewn 15 = .ok (.ireturn, 1) := by decide +kernel
theorem dX1_threadOfAll_0 : decode cX1_threadOfAll 0 = .ok (.iconst 0, 1) := by decide +kernel
theorem dX1_threadOfAll_1 : decode cX1_threadOfAll 1 = .ok (.istore_n 1, 1) := by decide +kernel
theorem dX1_threadOfAll_2 : decode cX1_threadOfAll 2 = .ok (.iconst 0, 1) := by decide +kernel
theorem dX1_threadOfAll_3 : decode cX1_threadOfAll 3 = .ok (.istore_n 2, 1) := by decide +kernel
theorem dX1_threadOfAll_4 : decode cX1_threadOfAll 4 = .ok (.iload_n 2, 1) := by decide +kernel
theorem dX1_threadOfAll_5 : decode cX1_threadOfAll 5 = .ok (.iconst 4, 1) := by decide +kernel
theorem dX1_threadOfAll_6 : decode cX1_threadOfAll 6 = .ok (.if_icmp .ge 28, 3) := by decide +kernel
theorem dX1_threadOfAll_9 : decode cX1_threadOfAll 9 = .ok (.iload_n 1, 1) := by decide +kernel
theorem dX1_threadOfAll_10 : decode cX1_threadOfAll 10 = .ok (.aload_n 0, 1) := by decide +kernel
theorem dX1_threadOfAll_11 : decode cX1_threadOfAll 11 = .ok (.aload_n 0, 1) := by decide +kernel
theorem dX1_threadOfAll_12 : decode cX1_threadOfAll 12 = .ok (.getfield 39, 3) := by decide +kernel
theorem dX1_threadOfAll_15 : decode cX1_threadOfAll 15 = .ok (.iload_n 2, 1) := by decide +kernel
theorem dX1_threadOfAll_16 : decode cX1_threadOfAll 16 = .ok (.iaload, 1) := by decide +kernel
theorem dX1_threadOfAll_17 : decode cX1_threadOfAll 17 = .ok (.aload_n 0, 1) := by decide +kernel
theorem dX1_threadOfAll_18 : decode cX1_threadOfAll 18 = .ok (.getfield 39, 3) := by decide +kernel
theorem dX1_threadOfAll_21 : decode cX1_threadOfAll 21 = .ok (.iload_n 2, 1) := by decide +kernel
theorem dX1_threadOfAll_22 : decode cX1_threadOfAll 22 = .ok (.iaload, 1) := by decide +kernel
theorem dX1_threadOfAll_23 : decode cX1_threadOfAll 23 = .ok (.invokevirtual 97, 3) := by decide +kernel
theorem dX1_threadOfAll_26 : decode cX1_threadOfAll 26 = .ok (.iadd, 1) := by decide +kernel
theorem dX1_threadOfAll_27 : decode cX1_threadOfAll 27 = .ok (.istore_n 1, 1) := by decide +kernel
theorem dX1_threadOfAll_28 : decode cX1_threadOfAll 28 = .ok (.iinc 2 1, 3) := by decide +kernel
theorem dX1_threadOfAll_31 : decode cX1_threadOfAll 31 = .ok (.goto (-27), 3) := by decide +kernel
theorem dX1_threadOfAll_34 : decode cX1_threadOfAll 34 = .ok (.iload_n 1, 1) := by decide +kernel
theorem dX1_threadOfAll_35 : decode cX1_threadOfAll 35 = .ok (.aload_n 0, 1) := by decide +kernel
theorem dX1_threadOfAll_36 : decode cX1_threadOfAll 36 = .ok (.getfield 18, 3) := by decide +kernel
theorem dX1_threadOfAll_39 : decode cX1_threadOfAll 39 = .ok (.imul, 1) := by decide +kernel
theorem dX1_threadOfAll_40 : decode cX1_threadOfAll 40 = .ok (.aload_n 0, 1) := by decide +kernel
theorem dX1_threadOfAll_41 : decode cX1_threadOfAll 41 = .ok (.invokevirtual 111, 3) := by decide +kernel
theorem dX1_threadOfAll_44 : decode cX1_threadOfAll 44 = .ok (.iload_n 1, 1) := by decide +kernel
theorem dX1_threadOfAll_45 : decode cX1_threadOfAll 45 = .ok (.isub, 1) := by decide +kernel
theorem dX1_threadOfAll_46 : decode cX1_threadOfAll 46 = .ok (.aload_n 0, 1) := by decide +kernel
theorem dX1_threadOfAll_47 : decode cX1_threadOfAll 47 = .ok (.getfield 21, 3) := by decide +kernel
theorem dX1_threadOfAll_50 : decode cX1_threadOfAll 50 = .ok (.imul, 1) := by decide +kernel
theorem dX1_threadOfAll_51 : decode cX1_threadOfAll 51 = .ok (.iadd, 1) := by decide +kernel
theorem dX1_threadOfAll_52 : decode cX1_threadOfAll 52 = .ok (.ireturn, 1) := by decide +kernel
theorem dX1_coldSquares_0 : decode cX1_coldSquares 0 = .ok (.aload_n 0, 1) := by decide +kernel
theorem dX1_coldSquares_1 : decode cX1_coldSquares 1 = .ok (.invokevirtual 77, 3) := by decide +kernel
theorem dX1_coldSquares_4 : decode cX1_coldSquares 4 = .ok (.istore_n 1, 1) := by decide +kernel
theorem dX1_coldSquares_5 : decode cX1_coldSquares 5 = .ok (.iconst 0, 1) := by decide +kernel
theorem dX1_coldSquares_6 : decode cX1_coldSquares 6 = .ok (.istore_n 2, 1) := by decide +kernel
theorem dX1_coldSquares_7 : decode cX1_coldSquares 7 = .ok (.iconst 0, 1) := by decide +kernel
theorem dX1_coldSquares_8 : decode cX1_coldSquares 8 = .ok (.istore_n 3, 1) := by decide +kernel
theorem dX1_coldSquares_9 : decode cX1_coldSquares 9 = .ok (.iload_n 3, 1) := by decide +kernel
theorem dX1_coldSquares_10 : decode cX1_coldSquares 10 = .ok (.aload_n 0, 1) := by decide +kernel
theorem dX1_coldSquares_11 : decode cX1_coldSquares 11 = .ok (.invokevirtual 73, 3) := by decide +kernel
theorem dX1_coldSquares_14 : decode cX1_coldSquares 14 = .ok (.if_icmp .ge 40, 3) := by decide +kernel
theorem dX1_coldSquares_17 : decode cX1_coldSquares 17 = .ok (.iload_n 1, 1) := by decide +kernel
theorem dX1_coldSquares_18 : decode cX1_coldSquares 18 = .ok (.iload_n 3, 1) := by decide +kernel
theorem dX1_coldSquares_19 : decode cX1_coldSquares 19 = .ok (.invokestatic 69, 3) := by decide +kernel
theorem dX1_coldSquares_22 : decode cX1_coldSquares 22 = .ok (.ifCond .eq 26, 3) := by decide +kernel
theorem dX1_coldSquares_25 : decode cX1_coldSquares 25 = .ok (.aload_n 0, 1) := by decide +kernel
theorem dX1_coldSquares_26 : decode cX1_coldSquares 26 = .ok (.iconst 1, 1) := by decide +kernel
theorem dX1_coldSquares_27 : decode cX1_coldSquares 27 = .ok (.iload_n 3, 1) := by decide +kernel
theorem dX1_coldSquares_28 : decode cX1_coldSquares 28 = .ok (.ishl, 1) := by decide +kernel
theorem dX1_coldSquares_29 : decode cX1_coldSquares 29 = .ok (.invokevirtual 103, 3) := by decide +kernel
theorem dX1_coldSquares_32 : decode cX1_coldSquares 32 = .ok (.invokestatic 106, 3) := by decide +kernel
theorem dX1_coldSquares_35 : decode cX1_coldSquares 35 = .ok (.aload_n 0, 1) := by decide +kernel
theorem dX1_coldSquares_36 : decode cX1_coldSquares 36 = .ok (.getfield 24, 3) := by decide +kernel
theorem dX1_coldSquares_39 : decode cX1_coldSquares 39 = .ok (.if_icmp .ge 9, 3) := by decide +kernel
theorem dX1_coldSquares_42 : decode cX1_coldSquares 42 = .ok (.iload_n 2, 1) := by decide +kernel
theorem dX1_coldSquares_43 : decode cX1_coldSquares 43 = .ok (.iconst 1, 1) := by decide +kernel
theorem dX1_coldSquares_44 : decode cX1_coldSquares 44 = .ok (.iload_n 3, 1) := by decide +kernel
theorem dX1_coldSquares_45 : decode cX1_coldSquares 45 = .ok (.ishl, 1) := by decide +kernel
theorem dX1_coldSquares_46 : decode cX1_coldSquares 46 = .ok (.ior, 1) := by decide +kernel
theorem dX1_coldSquares_47 : decode cX1_coldSquares 47 = .ok (.istore_n 2, 1) := by decide +kernel
theorem dX1_coldSquares_48 : decode cX1_coldSquares 48 = .ok (.iinc 3 1, 3) := by decide +kernel
theorem dX1_coldSquares_51 : decode cX1_coldSquares 51 = .ok (.goto (-42), 3) := by decide +kernel
theorem dX1_coldSquares_54 : decode cX1_coldSquares 54 = .ok (.iload_n 2, 1) := by decide +kernel
theorem dX1_coldSquares_55 : decode cX1_coldSquares 55 = .ok (.ireturn, 1) := by decide +kernel
theorem dX1_pieceWith_0 : decode cX1_pieceWith 0 = .ok (.iload_n 1, 1) := by decide +kernel
theorem dX1_pieceWith_1 : decode cX1_pieceWith 1 = .ok (.iload_n 2, 1) := by decide +kernel
theorem dX1_pieceWith_2 : decode cX1_pieceWith 2 = .ok (.iand, 1) := by decide +kernel
theorem dX1_pieceWith_3 : decode cX1_pieceWith 3 = .ok (.istore_n 3, 1) := by decide +kernel
theorem dX1_pieceWith_4 : decode cX1_pieceWith 4 = .ok (.iconst 0, 1) := by decide +kernel
theorem dX1_pieceWith_5 : decode cX1_pieceWith 5 = .ok (.istore 4, 2) := by decide +kernel
theorem dX1_pieceWith_7 : decode cX1_pieceWith 7 = .ok (.iload 4, 2) := by decide +kernel
theorem dX1_pieceWith_9 : decode cX1_pieceWith 9 = .ok (.bipush 16, 2) := by decide +kernel
theorem dX1_pieceWith_11 : decode cX1_pieceWith 11 = .ok (.if_icmp .ge 32, 3) := by decide +kernel
theorem dX1_pieceWith_14 : decode cX1_pieceWith 14 = .ok (.iload_n 3, 1) := by decide +kernel
theorem dX1_pieceWith_15 : decode cX1_pieceWith 15 = .ok (.aload_n 0, 1) := by decide +kernel
theorem dX1_pieceWith_16 : decode cX1_pieceWith 16 = .ok (.iload_n 3, 1) := by decide +kernel
theorem dX1_pieceWith_17 : decode cX1_pieceWith 17 = .ok (.invokevirtual 103, 3) := by decide +kernel
theorem dX1_pieceWith_20 : decode cX1_pieceWith 20 = .ok (.iload_n 2, 1) := by decide +kernel
theorem dX1_pieceWith_21 : decode cX1_pieceWith 21 = .ok (.iand, 1) := by decide +kernel
theorem dX1_pieceWith_22 : decode cX1_pieceWith 22 = .ok (.ior, 1) := by decide +kernel
theorem dX1_pieceWith_23 : decode cX1_pieceWith 23 = .ok (.istore 5, 2) := by decide +kernel
theorem dX1_pieceWith_25 : decode cX1_pieceWith 25 = .ok (.iload 5, 2) := by decide +kernel
theorem dX1_pieceWith_27 : decode cX1_pieceWith 27 = .ok (.iload_n 3, 1) := by decide +kernel
theorem dX1_pieceWith_28 : decode cX1_pieceWith 28 = .ok (.if_icmp .ne 6, 3) := by decide +kernel
theorem dX1_pieceWith_31 : decode cX1_pieceWith 31 = .ok (.goto 12, 3) := by decide +kernel
theorem dX1_pieceWith_34 : decode cX1_pieceWith 34 = .ok (.iload 5, 2) := by decide +kernel
theorem dX1_pieceWith_36 : decode cX1_pieceWith 36 = .ok (.istore_n 3, 1) := by decide +kernel
theorem dX1_pieceWith_37 : decode cX1_pieceWith 37 = .ok (.iinc 4 1, 3) := by decide +kernel
theorem dX1_pieceWith_40 : decode cX1_pieceWith 40 = .ok (.goto (-33), 3) := by decide +kernel
theorem dX1_pieceWith_43 : decode cX1_pieceWith 43 = .ok (.iload_n 3, 1) := by decide +kernel
theorem dX1_pieceWith_44 : decode cX1_pieceWith 44 = .ok (.ireturn, 1) := by decide +kernel
theorem dX1_countPieces_0 : decode cX1_countPieces 0 = .ok (.iload_n 1, 1) := by decide +kernel
theorem dX1_countPieces_1 : decode cX1_countPieces 1 = .ok (.istore_n 2, 1) := by decide +kernel
theorem dX1_countPieces_2 : decode cX1_countPieces 2 = .ok (.iconst 0, 1) := by decide +kernel
theorem dX1_countPieces_3 : decode cX1_countPieces 3 = .ok (.istore_n 3, 1) := by decide +kernel
theorem dX1_countPieces_4 : decode cX1_countPieces 4 = .ok (.iconst 0, 1) := by decide +kernel
theorem dX1_countPieces_5 : decode cX1_countPieces 5 = .ok (.istore 4, 2) := by decide +kernel
theorem dX1_countPieces_7 : decode cX1_countPieces 7 = .ok (.iload 4, 2) := by decide +kernel
theorem dX1_countPieces_9 : decode cX1_countPieces 9 = .ok (.bipush 16, 2) := by decide +kernel
theorem dX1_countPieces_11 : decode cX1_countPieces 11 = .ok (.if_icmp .ge 30, 3) := by decide +kernel
theorem dX1_countPieces_14 : decode cX1_countPieces 14 = .ok (.iload_n 2, 1) := by decide +kernel
theorem dX1_countPieces_15 : decode cX1_countPieces 15 = .ok (.ifCond .eq 26, 3) := by decide +kernel
theorem dX1_countPieces_18 : decode cX1_countPieces 18 = .ok (.iload_n 2, 1) := by decide +kernel
theorem dX1_countPieces_19 : decode cX1_countPieces 19 = .ok (.aload_n 0, 1) := by decide +kernel
theorem dX1_countPieces_20 : decode cX1_countPieces 20 = .ok (.iload_n 2, 1) := by decide +kernel
theorem dX1_countPieces_21 : decode cX1_countPieces 21 = .ok (.iload_n 2, 1) := by decide +kernel
theorem dX1_countPieces_22 : decode cX1_countPieces 22 = .ok (.ineg, 1) := by decide +kernel
theorem dX1_countPieces_23 : decode cX1_countPieces 23 = .ok (.iand, 1) := by decide +kernel
theorem dX1_countPieces_24 : decode cX1_countPieces 24 = .ok (.iload_n 2, 1) := by decide +kernel
theorem dX1_countPieces_25 : decode cX1_countPieces 25 = .ok (.invokevirtual 114, 3) := by decide +kernel
theorem dX1_countPieces_28 : decode cX1_countPieces 28 = .ok (.iconst (-1), 1) := by decide +kernel
theorem dX1_countPieces_29 : decode cX1_countPieces 29 = .ok (.ixor, 1) := by decide +kernel
theorem dX1_countPieces_30 : decode cX1_countPieces 30 = .ok (.iand, 1) := by decide +kernel
theorem dX1_countPieces_31 : decode cX1_countPieces 31 = .ok (.istore_n 2, 1) := by decide +kernel
theorem dX1_countPieces_32 : decode cX1_countPieces 32 = .ok (.iinc 3 1, 3) := by decide +kernel
theorem dX1_countPieces_35 : decode cX1_countPieces 35 = .ok (.iinc 4 1, 3) := by decide +kernel
theorem dX1_countPieces_38 : decode cX1_countPieces 38 = .ok (.goto (-31), 3) := by decide +kernel
theorem dX1_countPieces_41 : decode cX1_countPieces 41 = .ok (.iload_n 3, 1) := by decide +kernel
theorem dX1_countPieces_42 : decode cX1_countPieces 42 = .ok (.ireturn, 1) := by decide +kernel
theorem dX1_partingSquares_0 : decode cX1_partingSquares 0 = .ok (.aload_n 0, 1) := by decide +kernel
theorem dX1_partingSquares_1 : decode cX1_partingSquares 1 = .ok (.invokevirtual 77, 3) := by decide +kernel
theorem dX1_partingSquares_4 : decode cX1_partingSquares 4 = .ok (.istore_n 1, 1) := by decide +kernel
theorem dX1_partingSquares_5 : decode cX1_partingSquares 5 = .ok (.aload_n 0, 1) := by decide +kernel
theorem dX1_partingSquares_6 : decode cX1_partingSquares 6 = .ok (.iload_n 1, 1) := by decide +kernel
theorem dX1_partingSquares_7 : decode cX1_partingSquares 7 = .ok (.invokevirtual 117, 3) := by decide +kernel
theorem dX1_partingSquares_10 : decode cX1_partingSquares 10 = .ok (.istore_n 2, 1) := by decide +kernel
theorem dX1_partingSquares_11 : decode cX1_partingSquares 11 = .ok (.iconst 0, 1) := by decide +kernel
theorem dX1_partingSquares_12 : decode cX1_partingSquares 12 = .ok (.istore_n 3, 1) := by decide +kernel
theorem dX1_partingSquares_13 : decode cX1_partingSquares 13 = .ok (.iconst 0, 1) := by decide +kernel
theorem dX1_partingSquares_14 : decode cX1_partingSquares 14 = .ok (.istore 4, 2) := by decide +kernel
theorem dX1_partingSquares_16 : decode cX1_partingSquares 16 = .ok (.iload 4, 2) := by decide +kernel
theorem dX1_partingSquares_18 : decode cX1_partingSquares 18 = .ok (.aload_n 0, 1) := by decide +kernel
theorem dX1_partingSquares_19 : decode cX1_partingSquares 19 = .ok (.invokevirtual 73, 3) := by decide +kernel
theorem dX1_partingSquares_22 : decode cX1_partingSquares 22 = .ok (.if_icmp .ge 41, 3) := by decide +kernel
theorem dX1_partingSquares_25 : decode cX1_partingSquares 25 = .ok (.iload_n 1, 1) := by decide +kernel
theorem dX1_partingSquares_26 : decode cX1_partingSquares 26 = .ok (.iload 4, 2) := by decide +kernel
theorem dX1_partingSquares_28 : decode cX1_partingSquares 28 = .ok (.invokestatic 69, 3) := by decide +kernel
theorem dX1_partingSquares_31 : decode cX1_partingSquares 31 = .ok (.ifCond .eq 26, 3) := by decide +kernel
theorem dX1_partingSquares_34 : decode cX1_partingSquares 34 = .ok (.aload_n 0, 1) := by decide +kernel
theorem dX1_partingSquares_35 : decode cX1_partingSquares 35 = .ok (.iload_n 1, 1) := by decide +kernel
theorem dX1_partingSquares_36 : decode cX1_partingSquares 36 = .ok (.iconst 1, 1) := by decide +kernel
theorem dX1_partingSquares_37 : decode cX1_partingSquares 37 = .ok (.iload 4, 2) := by decide +kernel
theorem dX1_partingSquares_39 : decode cX1_partingSquares 39 = .ok (.ishl, 1) := by decide +kernel
theorem dX1_partingSquares_40 : decode cX1_partingSquares 40 = .ok (.iconst (-1), 1) := by decide +kernel
theorem dX1_partingSquares_41 : decode cX1_partingSquares 41 = .ok (.ixor, 1) := by decide +kernel
theorem dX1_partingSquares_42 : decode cX1_partingSquares 42 = .ok (.iand, 1) := by decide +kernel
theorem dX1_partingSquares_43 : decode cX1_partingSquares 43 = .ok (.invokevirtual 117, 3) := by decide +kernel
theorem dX1_partingSquares_46 : decode cX1_partingSquares 46 = .ok (.iload_n 2, 1) := by decide +kernel
theorem dX1_partingSquares_47 : decode cX1_partingSquares 47 = .ok (.if_icmp .le 10, 3) := by decide +kernel
theorem dX1_partingSquares_50 : decode cX1_partingSquares 50 = .ok (.iload_n 3, 1) := by decide +kernel
theorem dX1_partingSquares_51 : decode cX1_partingSquares 51 = .ok (.iconst 1, 1) := by decide +kernel
theorem dX1_partingSquares_52 : decode cX1_partingSquares 52 = .ok (.iload 4, 2) := by decide +kernel
theorem dX1_partingSquares_54 : decode cX1_partingSquares 54 = .ok (.ishl, 1) := by decide +kernel
theorem dX1_partingSquares_55 : decode cX1_partingSquares 55 = .ok (.ior, 1) := by decide +kernel
theorem dX1_partingSquares_56 : decode cX1_partingSquares 56 = .ok (.istore_n 3, 1) := by decide +kernel
theorem dX1_partingSquares_57 : decode cX1_partingSquares 57 = .ok (.iinc 4 1, 3) := by decide +kernel
theorem dX1_partingSquares_60 : decode cX1_partingSquares 60 = .ok (.goto (-44), 3) := by decide +kernel
theorem dX1_partingSquares_63 : decode cX1_partingSquares 63 = .ok (.iload_n 3, 1) := by decide +kernel
theorem dX1_partingSquares_64 : decode cX1_partingSquares 64 = .ok (.ireturn, 1) := by decide +kernel
theorem dX2_init_0 : decode cX2_init 0 = .ok (.aload_n 0, 1) := by decide +kernel
theorem dX2_init_1 : decode cX2_init 1 = .ok (.invokespecial 1, 3) := by decide +kernel
theorem dX2_init_4 : decode cX2_init 4 = .ok (.aload_n 0, 1) := by decide +kernel
theorem dX2_init_5 : decode cX2_init 5 = .ok (.new 7, 3) := by decide +kernel
theorem dX2_init_8 : decode cX2_init 8 = .ok (.dup, 1) := by decide +kernel
theorem dX2_init_9 : decode cX2_init 9 = .ok (.invokespecial 9, 3) := by decide +kernel
theorem dX2_init_12 : decode cX2_init 12 = .ok (.putfield 10, 3) := by decide +kernel
theorem dX2_init_15 : decode cX2_init 15 = .ok (.aload_n 0, 1) := by decide +kernel
theorem dX2_init_16 : decode cX2_init 16 = .ok (.new 7, 3) := by decide +kernel
theorem dX2_init_19 : decode cX2_init 19 = .ok (.dup, 1) := by decide +kernel
theorem dX2_init_20 : decode cX2_init 20 = .ok (.invokespecial 9, 3) := by decide +kernel
theorem dX2_init_23 : decode cX2_init 23 = .ok (.putfield 16, 3) := by decide +kernel
theorem dX2_init_26 : decode cX2_init 26 = .ok (.aload_n 0, 1) := by decide +kernel
theorem dX2_init_27 : decode cX2_init 27 = .ok (.iconst 2, 1) := by decide +kernel
theorem dX2_init_28 : decode cX2_init 28 = .ok (.anewarray 7, 3) := by decide +kernel
theorem dX2_init_31 : decode cX2_init 31 = .ok (.putfield 19, 3) := by decide +kernel
theorem dX2_init_34 : decode cX2_init 34 = .ok (.aload_n 0, 1) := by decide +kernel
theorem dX2_init_35 : decode cX2_init 35 = .ok (.new 23, 3) := by decide +kernel
theorem dX2_init_38 : decode cX2_init 38 = .ok (.dup, 1) := by decide +kernel
theorem dX2_init_39 : decode cX2_init 39 = .ok (.invokespecial 25, 3) := by decide +kernel
theorem dX2_init_42 : decode cX2_init 42 = .ok (.putfield 26, 3) := by decide +kernel
theorem dX2_init_45 : decode cX2_init 45 = .ok (.aload_n 0, 1) := by decide +kernel
theorem dX2_init_46 : decode cX2_init 46 = .ok (.bipush 40, 2) := by decide +kernel
theorem dX2_init_48 : decode cX2_init 48 = .ok (.newarray .char, 2) := by decide +kernel
theorem dX2_init_50 : decode cX2_init 50 = .ok (.putfield 30, 3) := by decide +kernel
theorem dX2_init_53 : decode cX2_init 53 = .ok (.aload_n 0, 1) := by decide +kernel
theorem dX2_init_54 : decode cX2_init 54 = .ok (.iconst 0, 1) := by decide +kernel
theorem dX2_init_55 : decode cX2_init 55 = .ok (.putfield 34, 3) := by decide +kernel
theorem dX2_init_58 : decode cX2_init 58 = .ok (.aload_n 0, 1) := by decide +kernel
theorem dX2_init_59 : decode cX2_init 59 = .ok (.aconst_null, 1) := by decide +kernel
theorem dX2_init_60 : decode cX2_init 60 = .ok (.putfield 38, 3) := by decide +kernel
theorem dX2_init_63 : decode cX2_init 63 = .ok (.aload_n 0, 1) := by decide +kernel
theorem dX2_init_64 : decode cX2_init 64 = .ok (.getfield 10, 3) := by decide +kernel
theorem dX2_init_67 : decode cX2_init 67 = .ok (.iconst 3, 1) := by decide +kernel
theorem dX2_init_68 : decode cX2_init 68 = .ok (.iconst 3, 1) := by decide +kernel
theorem dX2_init_69 : decode cX2_init 69 = .ok (.invokevirtual 42, 3) := by decide +kernel
theorem dX2_init_72 : decode cX2_init 72 = .ok (.return_, 1) := by decide +kernel
theorem dX2_quilt_0 : decode cX2_quilt 0 = .ok (.iload_n 1, 1) := by decide +kernel
theorem dX2_quilt_1 : decode cX2_quilt 1 = .ok (.iconst 1, 1) := by decide +kernel
theorem dX2_quilt_2 : decode cX2_quilt 2 = .ok (.iconst 4, 1) := by decide +kernel
theorem dX2_quilt_3 : decode cX2_quilt 3 = .ok (.invokestatic 46, 3) := by decide +kernel
theorem dX2_quilt_6 : decode cX2_quilt 6 = .ok (.ifCond .eq 12, 3) := by decide +kernel
theorem dX2_quilt_9 : decode cX2_quilt 9 = .ok (.iload_n 2, 1) := by decide +kernel
theorem dX2_quilt_10 : decode cX2_quilt 10 = .ok (.iconst 1, 1) := by decide +kernel
theorem dX2_quilt_11 : decode cX2_quilt 11 = .ok (.iconst 4, 1) := by decide +kernel
theorem dX2_quilt_12 : decode cX2_quilt 12 = .ok (.invokestatic 46, 3) := by decide +kernel
theorem dX2_quilt_15 : decode cX2_quilt 15 = .ok (.ifCond .ne 6, 3) := by decide +kernel
theorem dX2_quilt_18 : decode cX2_quilt 18 = .ok (.bipush (-2), 2) := by decide +kernel
theorem dX2_quilt_20 : decode cX2_quilt 20 = .ok (.ireturn, 1) := by decide +kernel
theorem dX2_quilt_21 : decode cX2_quilt 21 = .ok (.aload_n 0, 1) := by decide +kernel
theorem dX2_quilt_22 : decode cX2_quilt 22 = .ok (.getfield 10, 3) := by decide +kernel
theorem dX2_quilt_25 : decode cX2_quilt 25 = .ok (.iload_n 1, 1) := by decide +kernel
theorem dX2_quilt_26 : decode cX2_quilt 26 = .ok (.iload_n 2, 1) := by decide +kernel
theorem dX2_quilt_27 : decode cX2_quilt 27 = .ok (.invokevirtual 42, 3) := by decide +kernel
theorem dX2_quilt_30 : decode cX2_quilt 30 = .ok (.aload_n 0, 1) := by decide +kernel
theorem dX2_quilt_31 : decode cX2_quilt 31 = .ok (.getfield 10, 3) := by decide +kernel
theorem dX2_quilt_34 : decode cX2_quilt 34 = .ok (.invokevirtual 50, 3) := by decide +kernel
theorem dX2_quilt_37 : decode cX2_quilt 37 = .ok (.ireturn, 1) := by decide +kernel
theorem dX2_say_0 : decode cX2_say 0 = .ok (.iload_n 1, 1) := by decide +kernel
theorem dX2_say_1 : decode cX2_say 1 = .ok (.bipush 33, 2) := by decide +kernel
theorem dX2_say_3 : decode cX2_say 3 = .ok (.bipush 126, 2) := by decide +kernel
theorem dX2_say_5 : decode cX2_say 5 = .ok (.invokestatic 46, 3) := by decide +kernel
theorem dX2_say_8 : decode cX2_say 8 = .ok (.ifCond .ne 6, 3) := by decide +kernel
theorem dX2_say_11 : decode cX2_say 11 = .ok (.bipush (-2), 2) := by decide +kernel
theorem dX2_say_13 : decode cX2_say 13 = .ok (.ireturn, 1) := by decide +kernel
theorem dX2_say_14 : decode cX2_say 14 = .ok (.aload_n 0, 1) := by decide +kernel
theorem dX2_say_15 : decode cX2_say 15 = .ok (.getfield 34, 3) := by decide +kernel
theorem dX2_say_18 : decode cX2_say 18 = .ok (.aload_n 0, 1) := by decide +kernel
theorem dX2_say_19 : decode cX2_say 19 = .ok (.getfield 30, 3) := by decide +kernel
theorem dX2_say_22 : decode cX2_say 22 = .ok (.arraylength, 1) := by decide +kernel
theorem dX2_say_23 : decode cX2_say 23 = .ok (.if_icmp .lt 6, 3) := by decide +kernel
theorem dX2_say_26 : decode cX2_say 26 = .ok (.bipush (-4), 2) := by decide +kernel
theorem dX2_say_28 : decode cX2_say 28 = .ok (.ireturn, 1) := by decide +kernel
theorem dX2_say_29 : decode cX2_say 29 = .ok (.aload_n 0, 1) := by decide +kernel
theorem dX2_say_30 : decode cX2_say 30 = .ok (.getfield 30, 3) := by decide +kernel
theorem dX2_say_33 : decode cX2_say 33 = .ok (.aload_n 0, 1) := by decide +kernel
theorem dX2_say_34 : decode cX2_say 34 = .ok (.getfield 34, 3) := by decide +kernel
theorem dX2_say_37 : decode cX2_say 37 = .ok (.iload_n 1, 1) := by decide +kernel
theorem dX2_say_38 : decode cX2_say 38 = .ok (.i2c, 1) := by decide +kernel
theorem dX2_say_39 : decode cX2_say 39 = .ok (.castore, 1) := by decide +kernel
theorem dX2_say_40 : decode cX2_say 40 = .ok (.aload_n 0, 1) := by decide +kernel
theorem dX2_say_41 : decode cX2_say 41 = .ok (.dup, 1) := by decide +kernel
theorem dX2_say_42 : decode cX2_say 42 = .ok (.getfield 34, 3) := by decide +kernel
theorem dX2_say_45 : decode cX2_say 45 = .ok (.iconst 1, 1) := by decide +kernel
theorem dX2_say_46 : decode cX2_say 46 = .ok (.iadd, 1) := by decide +kernel
theorem dX2_say_47 : decode cX2_say 47 = .ok (.putfield 34, 3) := by decide +kernel
theorem dX2_say_50 : decode cX2_say 50 = .ok (.aload_n 0, 1) := by decide +kernel
theorem dX2_say_51 : decode cX2_say 51 = .ok (.getfield 34, 3) := by decide +kernel
theorem dX2_say_54 : decode cX2_say 54 = .ok (.ireturn, 1) := by decide +kernel
theorem dX2_wipe_0 : decode cX2_wipe 0 = .ok (.aload_n 0, 1) := by decide +kernel
theorem dX2_wipe_1 : decode cX2_wipe 1 = .ok (.getfield 34, 3) := by decide +kernel
theorem dX2_wipe_4 : decode cX2_wipe 4 = .ok (.istore_n 1, 1) := by decide +kernel
theorem dX2_wipe_5 : decode cX2_wipe 5 = .ok (.aload_n 0, 1) := by decide +kernel
theorem dX2_wipe_6 : decode cX2_wipe 6 = .ok (.iconst 0, 1) := by decide +kernel
theorem dX2_wipe_7 : decode cX2_wipe 7 = .ok (.putfield 34, 3) := by decide +kernel
theorem dX2_wipe_10 : decode cX2_wipe 10 = .ok (.iload_n 1, 1) := by decide +kernel
theorem dX2_wipe_11 : decode cX2_wipe 11 = .ok (.ireturn, 1) := by decide +kernel
theorem dX2_fault_0 : decode cX2_fault 0 = .ok (.iconst 0, 1) := by decide +kernel
theorem dX2_fault_1 : decode cX2_fault 1 = .ok (.istore_n 1, 1) := by decide +kernel
theorem dX2_fault_2 : decode cX2_fault 2 = .ok (.iload_n 1, 1) := by decide +kernel
theorem dX2_fault_3 : decode cX2_fault 3 = .ok (.aload_n 0, 1) := by decide +kernel
theorem dX2_fault_4 : decode cX2_fault 4 = .ok (.getfield 34, 3) := by decide +kernel
theorem dX2_fault_7 : decode cX2_fault 7 = .ok (.if_icmp .ge 43, 3) := by decide +kernel
theorem dX2_fault_10 : decode cX2_fault 10 = .ok (.iload_n 1, 1) := by decide +kernel
theorem dX2_fault_11 : decode cX2_fault 11 = .ok (.aload_n 0, 1) := by decide +kernel
theorem dX2_fault_12 : decode cX2_fault 12 = .ok (.getfield 30, 3) := by decide +kernel
theorem dX2_fault_15 : decode cX2_fault 15 = .ok (.arraylength, 1) := by decide +kernel
theorem dX2_fault_16 : decode cX2_fault 16 = .ok (.if_icmp .ge 34, 3) := by decide +kernel
theorem dX2_fault_19 : decode cX2_fault 19 = .ok (.iload_n 1, 1) := by decide +kernel
theorem dX2_fault_20 : decode cX2_fault 20 = .ok (.aload_n 0, 1) := by decide +kernel
theorem dX2_fault_21 : decode cX2_fault 21 = .ok (.getfield 10, 3) := by decide +kernel
theorem dX2_fault_24 : decode cX2_fault 24 = .ok (.invokevirtual 50, 3) := by decide +kernel
theorem dX2_fault_27 : decode cX2_fault 27 = .ok (.if_icmp .ge 15, 3) := by decide +kernel
theorem dX2_fault_30 : decode cX2_fault 30 = .ok (.aload_n 0, 1) := by decide +kernel
theorem dX2_fault_31 : decode cX2_fault 31 = .ok (.getfield 30, 3) := by decide +kernel
theorem dX2_fault_34 : decode cX2_fault 34 = .ok (.iload_n 1, 1) := by decide +kernel
theorem dX2_fault_35 : decode cX2_fault 35 = .ok (.caload, 1) := by decide +kernel
theorem dX2_fault_36 : decode cX2_fault 36 = .ok (.invokestatic 54, 3) := by decide +kernel
theorem dX2_fault_39 : decode cX2_fault 39 = .ok (.ifCond .ne 5, 3) := by decide +kernel
theorem dX2_fault_42 : decode cX2_fault 42 = .ok (.iload_n 1, 1) := by decide +kernel
theorem dX2_fault_43 : decode cX2_fault 43 = .ok (.ireturn, 1) := by decide +kernel
theorem dX2_fault_44 : decode cX2_fault 44 = .ok (.iinc 1 1, 3) := by decide +kernel
theorem dX2_fault_47 : decode cX2_fault 47 = .ok (.goto (-45), 3) := by decide +kernel
theorem dX2_fault_50 : decode cX2_fault 50 = .ok (.aload_n 0, 1) := by decide +kernel
theorem dX2_fault_51 : decode cX2_fault 51 = .ok (.getfield 34, 3) := by decide +kernel
theorem dX2_fault_54 : decode cX2_fault 54 = .ok (.aload_n 0, 1) := by decide +kernel
theorem dX2_fault_55 : decode cX2_fault 55 = .ok (.getfield 10, 3) := by decide +kernel
theorem dX2_fault_58 : decode cX2_fault 58 = .ok (.invokevirtual 50, 3) := by decide +kernel
theorem dX2_fault_61 : decode cX2_fault 61 = .ok (.if_icmp .ge 10, 3) := by decide +kernel
theorem dX2_fault_64 : decode cX2_fault 64 = .ok (.aload_n 0, 1) := by decide +kernel
theorem dX2_fault_65 : decode cX2_fault 65 = .ok (.getfield 34, 3) := by decide +kernel
theorem dX2_fault_68 : decode cX2_fault 68 = .ok (.goto 5, 3) := by decide +kernel
theorem dX2_fault_71 : decode cX2_fault 71 = .ok (.bipush (-6), 2) := by decide +kernel
theorem dX2_fault_73 : decode cX2_fault 73 = .ok (.ireturn, 1) := by decide +kernel
theorem dX2_lay_0 : decode cX2_lay 0 = .ok (.aload_n 0, 1) := by decide +kernel
theorem dX2_lay_1 : decode cX2_lay 1 = .ok (.invokevirtual 58, 3) := by decide +kernel
theorem dX2_lay_4 : decode cX2_lay 4 = .ok (.bipush (-6), 2) := by decide +kernel
theorem dX2_lay_6 : decode cX2_lay 6 = .ok (.if_icmp .eq 6, 3) := by decide +kernel
theorem dX2_lay_9 : decode cX2_lay 9 = .ok (.bipush (-5), 2) := by decide +kernel
theorem dX2_lay_11 : decode cX2_lay 11 = .ok (.ireturn, 1) := by decide +kernel
theorem dX2_lay_12 : decode cX2_lay 12 = .ok (.aload_n 0, 1) := by decide +kernel
theorem dX2_lay_13 : decode cX2_lay 13 = .ok (.getfield 10, 3) := by decide +kernel
theorem dX2_lay_16 : decode cX2_lay 16 = .ok (.invokevirtual 61, 3) := by decide +kernel
theorem dX2_lay_19 : decode cX2_lay 19 = .ok (.iconst 0, 1) := by decide +kernel
theorem dX2_lay_20 : decode cX2_lay 20 = .ok (.istore_n 1, 1) := by decide +kernel
theorem dX2_lay_21 : decode cX2_lay 21 = .ok (.iload_n 1, 1) := by decide +kernel
theorem dX2_lay_22 : decode cX2_lay 22 = .ok (.aload_n 0, 1) := by decide +kernel
theorem dX2_lay_23 : decode cX2_lay 23 = .ok (.getfield 34, 3) := by decide +kernel
theorem dX2_lay_26 : decode cX2_lay 26 = .ok (.if_icmp .ge 35, 3) := by decide +kernel
theorem dX2_lay_29 : decode cX2_lay 29 = .ok (.iload_n 1, 1) := by decide +kernel
theorem dX2_lay_30 : decode cX2_lay 30 = .ok (.aload_n 0, 1) := by decide +kernel
theorem dX2_lay_31 : decode cX2_lay 31 = .ok (.getfield 30, 3) := by decide +kernel
theorem dX2_lay_34 : decode cX2_lay 34 = .ok (.arraylength, 1) := by decide +kernel
theorem dX2_lay_35 : decode cX2_lay 35 = .ok (.if_icmp .ge 26, 3) := by decide +kernel
theorem dX2_lay_38 : decode cX2_lay 38 = .ok (.aload_n 0, 1) := by decide +kernel
theorem dX2_lay_39 : decode cX2_lay 39 = .ok (.getfield 10, 3) := by decide +kernel
theorem dX2_lay_42 : decode cX2_lay 42 = .ok (.iload_n 1, 1) := by decide +kernel
theorem dX2_lay_43 : decode cX2_lay 43 = .ok (.aload_n 0, 1) := by decide +kernel
theorem dX2_lay_44 : decode cX2_lay 44 = .ok (.getfield 30, 3) := by decide +kernel
theorem dX2_lay_47 : decode cX2_lay 47 = .ok (.iload_n 1, 1) := by decide +kernel
theorem dX2_lay_48 : decode cX2_lay 48 = .ok (.caload, 1) := by decide +kernel
theorem dX2_lay_49 : decode cX2_lay 49 = .ok (.bipush 97, 2) := by decide +kernel
theorem dX2_lay_51 : decode cX2_lay 51 = .ok (.isub, 1) := by decide +kernel
theorem dX2_lay_52 : decode cX2_lay 52 = .ok (.invokevirtual 64, 3) := by decide +kernel
theorem dX2_lay_55 : decode cX2_lay 55 = .ok (.iinc 1 1, 3) := by decide +kernel
theorem dX2_lay_58 : decode cX2_lay 58 = .ok (.goto (-37), 3) := by decide +kernel
theorem dX2_lay_61 : decode cX2_lay 61 = .ok (.aload_n 0, 1) := by decide +kernel
theorem dX2_lay_62 : decode cX2_lay 62 = .ok (.iconst 0, 1) := by decide +kernel
theorem dX2_lay_63 : decode cX2_lay 63 = .ok (.putfield 34, 3) := by decide +kernel
theorem dX2_lay_66 : decode cX2_lay 66 = .ok (.aload_n 0, 1) := by decide +kernel
theorem dX2_lay_67 : decode cX2_lay 67 = .ok (.getfield 10, 3) := by decide +kernel
theorem dX2_lay_70 : decode cX2_lay 70 = .ok (.invokevirtual 67, 3) := by decide +kernel
theorem dX2_lay_73 : decode cX2_lay 73 = .ok (.invokestatic 70, 3) := by decide +kernel
theorem dX2_lay_76 : decode cX2_lay 76 = .ok (.ireturn, 1) := by decide +kernel
theorem dX2_family_0 : decode cX2_family 0 = .ok (.aload_n 0, 1) := by decide +kernel
theorem dX2_family_1 : decode cX2_family 1 = .ok (.getfield 10, 3) := by decide +kernel
theorem dX2_family_4 : decode cX2_family 4 = .ok (.iload_n 1, 1) := by decide +kernel
theorem dX2_family_5 : decode cX2_family 5 = .ok (.invokevirtual 76, 3) := by decide +kernel
theorem dX2_family_8 : decode cX2_family 8 = .ok (.ifCond .eq 14, 3) := by decide +kernel
theorem dX2_family_11 : decode cX2_family 11 = .ok (.aload_n 0, 1) := by decide +kernel
theorem dX2_family_12 : decode cX2_family 12 = .ok (.getfield 10, 3) := by decide +kernel
theorem dX2_family_15 : decode cX2_family 15 = .ok (.iload_n 1, 1) := by decide +kernel
theorem dX2_family_16 : decode cX2_family 16 = .ok (.invokevirtual 80, 3) := by decide +kernel
theorem dX2_family_19 : decode cX2_family 19 = .ok (.goto 4, 3) := by decide +kernel
theorem dX2_family_22 : decode cX2_family 22 = .ok (.iconst (-1), 1) := by decide +kernel
theorem dX2_family_23 : decode cX2_family 23 = .ok (.ireturn, 1) := by decide +kernel
theorem dX2_foes_0 : decode cX2_foes 0 = .ok (.iload_n 1, 1) := by decide +kernel
theorem dX2_foes_1 : decode cX2_foes 1 = .ok (.invokestatic 83, 3) := by decide +kernel
theorem dX2_foes_4 : decode cX2_foes 4 = .ok (.ifCond .eq 10, 3) := by decide +kernel
theorem dX2_foes_7 : decode cX2_foes 7 = .ok (.iload_n 2, 1) := by decide +kernel
theorem dX2_foes_8 : decode cX2_foes 8 = .ok (.invokestatic 83, 3) := by decide +kernel
theorem dX2_foes_11 : decode cX2_foes 11 = .ok (.ifCond .ne 5, 3) := by decide +kernel
theorem dX2_foes_14 : decode cX2_foes 14 = .ok (.iconst (-1), 1) := by decide +kernel
theorem dX2_foes_15 : decode cX2_foes 15 = .ok (.ireturn, 1) := by decide +kernel
theorem dX2_foes_16 : decode cX2_foes 16 = .ok (.aload_n 0, 1) := by decide +kernel
theorem dX2_foes_17 : decode cX2_foes 17 = .ok (.getfield 10, 3) := by decide +kernel
theorem dX2_foes_20 : decode cX2_foes 20 = .ok (.iload_n 1, 1) := by decide +kernel
theorem dX2_foes_21 : decode cX2_foes 21 = .ok (.iload_n 2, 1) := by decide +kernel
theorem dX2_foes_22 : decode cX2_foes 22 = .ok (.iload_n 3, 1) := by decide +kernel
theorem dX2_foes_23 : decode cX2_foes 23 = .ok (.invokevirtual 86, 3) := by decide +kernel
theorem dX2_foes_26 : decode cX2_foes 26 = .ok (.iconst 1, 1) := by decide +kernel
theorem dX2_foes_27 : decode cX2_foes 27 = .ok (.ireturn, 1) := by decide +kernel
theorem dX2_set_0 : decode cX2_set 0 = .ok (.iload_n 1, 1) := by decide +kernel
theorem dX2_set_1 : decode cX2_set 1 = .ok (.iconst 0, 1) := by decide +kernel
theorem dX2_set_2 : decode cX2_set 2 = .ok (.iconst 2, 1) := by decide +kernel
theorem dX2_set_3 : decode cX2_set 3 = .ok (.invokestatic 46, 3) := by decide +kernel
theorem dX2_set_6 : decode cX2_set 6 = .ok (.ifCond .eq 22, 3) := by decide +kernel
theorem dX2_set_9 : decode cX2_set 9 = .ok (.iload_n 2, 1) := by decide +kernel
theorem dX2_set_10 : decode cX2_set 10 = .ok (.iconst 0, 1) := by decide +kernel
theorem dX2_set_11 : decode cX2_set 11 = .ok (.iload_n 1, 1) := by decide +kernel
theorem dX2_set_12 : decode cX2_set 12 = .ok (.iconst 2, 1) := by decide +kernel
theorem dX2_set_13 : decode cX2_set 13 = .ok (.if_icmp .ne 7, 3) := by decide +kernel
theorem dX2_set_16 : decode cX2_set 16 = .ok (.iconst 4, 1) := by decide +kernel
theorem dX2_set_17 : decode cX2_set 17 = .ok (.goto 5, 3) := by decide +kernel
theorem dX2_set_20 : decode cX2_set 20 = .ok (.bipush 99, 2) := by decide +kernel
theorem dX2_set_22 : decode cX2_set 22 = .ok (.invokestatic 46, 3) := by decide +kernel
theorem dX2_set_25 : decode cX2_set 25 = .ok (.ifCond .ne 6, 3) := by decide +kernel
theorem dX2_set_28 : decode cX2_set 28 = .ok (.bipush (-2), 2) := by decide +kernel
theorem dX2_set_30 : decode cX2_set 30 = .ok (.ireturn, 1) := by decide +kernel
theorem dX2_set_31 : decode cX2_set 31 = .ok (.iload_n 1, 1) := by decide +kernel
theorem dX2_set_32 : decode cX2_set 32 = .ok (.ifCond .ne 22, 3) := by decide +kernel
theorem dX2_set_35 : decode cX2_set 35 = .ok (.aload_n 0, 1) := by decide +kernel
theorem dX2_set_36 : decode cX2_set 36 = .ok (.getfield 10, 3) := by decide +kernel
theorem dX2_set_39 : decode cX2_set 39 = .ok (.getfield 90, 3) := by decide +kernel
theorem dX2_set_42 : decode cX2_set 42 = .ok (.istore_n 3, 1) := by decide +kernel
theorem dX2_set_43 : decode cX2_set 43 = .ok (.aload_n 0, 1) := by decide +kernel
theorem dX2_set_44 : decode cX2_set 44 = .ok (.getfield 10, 3) := by decide +kernel
theorem dX2_set_47 : decode cX2_set 47 = .ok (.iload_n 2, 1) := by decide +kernel
theorem dX2_set_48 : decode cX2_set 48 = .ok (.putfield 90, 3) := by decide +kernel
theorem dX2_set_51 : decode cX2_set 51 = .ok (.goto 43, 3) := by decide +kernel
theorem dX2_set_54 : decode cX2_set 54 = .ok (.iload_n 1, 1) := by decide +kernel
theorem dX2_set_55 : decode cX2_set 55 = .ok (.iconst 1, 1) := by decide +kernel
theorem dX2_set_56 : decode cX2_set 56 = .ok (.if_icmp .ne 22, 3) := by decide +kernel
theorem dX2_set_59 : decode cX2_set 59 = .ok (.aload_n 0, 1) := by decide +kernel
theorem dX2_set_60 : decode cX2_set 60 = .ok (.getfield 10, 3) := by decide +kernel
theorem dX2_set_63 : decode cX2_set 63 = .ok (.getfield 93, 3) := by decide +kernel
theorem dX2_set_66 : decode cX2_set 66 = .ok (.istore_n 3, 1) := by decide +kernel
theorem dX2_set_67 : decode cX2_set 67 = .ok (.aload_n 0, 1) := by decide +kernel
theorem dX2_set_68 : decode cX2_set 68 = .ok (.getfield 10, 3) := by decide +kernel
theorem dX2_set_71 : decode cX2_set 71 = .ok (.iload_n 2, 1) := by decide +kernel
theorem dX2_set_72 : decode cX2_set 72 = .ok (.putfield 93, 3) := by decide +kernel
theorem dX2_set_75 : decode cX2_set 75 = .ok (.goto 19, 3) := by decide +kernel
theorem dX2_set_78 : decode cX2_set 78 = .ok (.aload_n 0, 1) := by decide +kernel
theorem dX2_set_79 : decode cX2_set 79 = .ok (.getfield 10, 3) := by decide +kernel
theorem dX2_set_82 : decode cX2_set 82 = .ok (.getfield 96, 3) := by decide +kernel
theorem dX2_set_85 : decode cX2_set 85 = .ok (.istore_n 3, 1) := by decide +kernel
theorem dX2_set_86 : decode cX2_set 86 = .ok (.aload_n 0, 1) := by decide +kernel
theorem dX2_set_87 : decode cX2_set 87 = .ok (.getfield 10, 3) := by decide +kernel
theorem dX2_set_90 : decode cX2_set 90 = .ok (.iload_n 2, 1) := by decide +kernel
theorem dX2_set_91 : decode cX2_set 91 = .ok (.putfield 96, 3) := by decide +kernel
theorem dX2_set_94 : decode cX2_set 94 = .ok (.iload_n 3, 1) := by decide +kernel
theorem dX2_set_95 : decode cX2_set 95 = .ok (.ireturn, 1) := by decide +kernel
theorem dX2_sew_0 : decode cX2_sew 0 = .ok (.aload_n 0, 1) := by decide +kernel
theorem dX2_sew_1 : decode cX2_sew 1 = .ok (.getfield 10, 3) := by decide +kernel
theorem dX2_sew_4 : decode cX2_sew 4 = .ok (.iload_n 1, 1) := by decide +kernel
theorem dX2_sew_5 : decode cX2_sew 5 = .ok (.invokevirtual 76, 3) := by decide +kernel
theorem dX2_sew_8 : decode cX2_sew 8 = .ok (.ifCond .eq 14, 3) := by decide +kernel
theorem dX2_sew_11 : decode cX2_sew 11 = .ok (.aload_n 0, 1) := by decide +kernel
theorem dX2_sew_12 : decode cX2_sew 12 = .ok (.getfield 10, 3) := by decide +kernel
theorem dX2_sew_15 : decode cX2_sew 15 = .ok (.iload_n 2, 1) := by decide +kernel
theorem dX2_sew_16 : decode cX2_sew 16 = .ok (.invokevirtual 76, 3) := by decide +kernel
theorem dX2_sew_19 : decode cX2_sew 19 = .ok (.ifCond .ne 5, 3) := by decide +kernel
theorem dX2_sew_22 : decode cX2_sew 22 = .ok (.iconst (-1), 1) := by decide +kernel
theorem dX2_sew_23 : decode cX2_sew 23 = .ok (.ireturn, 1) := by decide +kernel
theorem dX2_sew_24 : decode cX2_sew 24 = .ok (.aload_n 0, 1) := by decide +kernel
theorem dX2_sew_25 : decode cX2_sew 25 = .ok (.getfield 10, 3) := by decide +kernel
theorem dX2_sew_28 : decode cX2_sew 28 = .ok (.iload_n 1, 1) := by decide +kernel
theorem dX2_sew_29 : decode cX2_sew 29 = .ok (.iload_n 2, 1) := by decide +kernel
theorem dX2_sew_30 : decode cX2_sew 30 = .ok (.invokevirtual 99, 3) := by decide +kernel
theorem dX2_sew_33 : decode cX2_sew 33 = .ok (.ifCond .eq 15, 3) := by decide +kernel
theorem dX2_sew_36 : decode cX2_sew 36 = .ok (.aload_n 0, 1) := by decide +kernel
theorem dX2_sew_37 : decode cX2_sew 37 = .ok (.getfield 10, 3) := by decide +kernel
theorem dX2_sew_40 : decode cX2_sew 40 = .ok (.iload_n 1, 1) := by decide +kernel
theorem dX2_sew_41 : decode cX2_sew 41 = .ok (.iload_n 2, 1) := by decide +kernel
theorem dX2_sew_42 : decode cX2_sew 42 = .ok (.invokevirtual 103, 3) := by decide +kernel
theorem dX2_sew_45 : decode cX2_sew 45 = .ok (.ifCond .eq 6, 3) := by decide +kernel
theorem dX2_sew_48 : decode cX2_sew 48 = .ok (.bipush (-3), 2) := by decide +kernel
theorem dX2_sew_50 : decode cX2_sew 50 = .ok (.ireturn, 1) := by decide +kernel
theorem dX2_sew_51 : decode cX2_sew 51 = .ok (.aload_n 0, 1) := by decide +kernel
theorem dX2_sew_52 : decode cX2_sew 52 = .ok (.getfield 10, 3) := by decide +kernel
theorem dX2_sew_55 : decode cX2_sew 55 = .ok (.iload_n 1, 1) := by decide +kernel
theorem dX2_sew_56 : decode cX2_sew 56 = .ok (.iload_n 2, 1) := by decide +kernel
theorem dX2_sew_57 : decode cX2_sew 57 = .ok (.invokevirtual 106, 3) := by decide +kernel
theorem dX2_sew_60 : decode cX2_sew 60 = .ok (.ifCond .eq 6, 3) := by decide +kernel
theorem dX2_sew_63 : decode cX2_sew 63 = .ok (.bipush (-5), 2) := by decide +kernel
theorem dX2_sew_65 : decode cX2_sew 65 = .ok (.ireturn, 1) := by decide +kernel
theorem dX2_sew_66 : decode cX2_sew 66 = .ok (.aload_n 0, 1) := by decide +kernel
theorem dX2_sew_67 : decode cX2_sew 67 = .ok (.getfield 10, 3) := by decide +kernel
theorem dX2_sew_70 : decode cX2_sew 70 = .ok (.iload_n 1, 1) := by decide +kernel
theorem dX2_sew_71 : decode cX2_sew 71 = .ok (.iload_n 2, 1) := by decide +kernel
theorem dX2_sew_72 : decode cX2_sew 72 = .ok (.invokevirtual 109, 3) := by decide +kernel
theorem dX2_sew_75 : decode cX2_sew 75 = .ok (.aload_n 0, 1) := by decide +kernel
theorem dX2_sew_76 : decode cX2_sew 76 = .ok (.getfield 10, 3) := by decide +kernel
theorem dX2_sew_79 : decode cX2_sew 79 = .ok (.iload_n 1, 1) := by decide +kernel
theorem dX2_sew_80 : decode cX2_sew 80 = .ok (.iload_n 2, 1) := by decide +kernel
theorem dX2_sew_81 : decode cX2_sew 81 = .ok (.invokevirtual 112, 3) := by decide +kernel
theorem dX2_sew_84 : decode cX2_sew 84 = .ok (.ireturn, 1) := by decide +kernel
theorem dX2_unpick_0 : decode cX2_unpick 0 = .ok (.aload_n 0, 1) := by decide +kernel
theorem dX2_unpick_1 : decode cX2_unpick 1 = .ok (.getfield 10, 3) := by decide +kernel
theorem dX2_unpick_4 : decode cX2_unpick 4 = .ok (.iload_n 1, 1) := by decide +kernel
theorem dX2_unpick_5 : decode cX2_unpick 5 = .ok (.invokevirtual 76, 3) := by decide +kernel
theorem dX2_unpick_8 : decode cX2_unpick 8 = .ok (.ifCond .eq 14, 3) := by decide +kernel
theorem dX2_unpick_11 : decode cX2_unpick 11 = .ok (.aload_n 0, 1) := by decide +kernel
theorem dX2_unpick_12 : decode cX2_unpick 12 = .ok (.getfield 10, 3) := by decide +kernel
theorem dX2_unpick_15 : decode cX2_unpick 15 = .ok (.iload_n 2, 1) := by decide +kernel
theorem dX2_unpick_16 : decode cX2_unpick 16 = .ok (.invokevirtual 76, 3) := by decide +kernel
theorem dX2_unpick_19 : decode cX2_unpick 19 = .ok (.ifCond .ne 5, 3) := by decide +kernel
theorem dX2_unpick_22 : decode cX2_unpick 22 = .ok (.iconst (-1), 1) := by decide +kernel
theorem dX2_unpick_23 : decode cX2_unpick 23 = .ok (.ireturn, 1) := by decide +kernel
theorem dX2_unpick_24 : decode cX2_unpick 24 = .ok (.aload_n 0, 1) := by decide +kernel
theorem dX2_unpick_25 : decode cX2_unpick 25 = .ok (.getfield 10, 3) := by decide +kernel
theorem dX2_unpick_28 : decode cX2_unpick 28 = .ok (.iload_n 1, 1) := by decide +kernel
theorem dX2_unpick_29 : decode cX2_unpick 29 = .ok (.iload_n 2, 1) := by decide +kernel
theorem dX2_unpick_30 : decode cX2_unpick 30 = .ok (.invokevirtual 103, 3) := by decide +kernel
theorem dX2_unpick_33 : decode cX2_unpick 33 = .ok (.ifCond .ne 6, 3) := by decide +kernel
theorem dX2_unpick_36 : decode cX2_unpick 36 = .ok (.bipush (-3), 2) := by decide +kernel
theorem dX2_unpick_38 : decode cX2_unpick 38 = .ok (.ireturn, 1) := by decide +kernel
theorem dX2_unpick_39 : decode cX2_unpick 39 = .ok (.aload_n 0, 1) := by decide +kernel
theorem dX2_unpick_40 : decode cX2_unpick 40 = .ok (.getfield 10, 3) := by decide +kernel
theorem dX2_unpick_43 : decode cX2_unpick 43 = .ok (.iconst 1, 1) := by decide +kernel
theorem dX2_unpick_44 : decode cX2_unpick 44 = .ok (.iload_n 1, 1) := by decide +kernel
theorem dX2_unpick_45 : decode cX2_unpick 45 = .ok (.ishl, 1) := by decide +kernel
theorem dX2_unpick_46 : decode cX2_unpick 46 = .ok (.iconst 1, 1) := by decide +kernel
theorem dX2_unpick_47 : decode cX2_unpick 47 = .ok (.iload_n 2, 1) := by decide +kernel
theorem dX2_unpick_48 : decode cX2_unpick 48 = .ok (.ishl, 1) := by decide +kernel
theorem dX2_unpick_49 : decode cX2_unpick 49 = .ok (.invokevirtual 116, 3) := by decide +kernel
theorem dX2_unpick_52 : decode cX2_unpick 52 = .ok (.aload_n 0, 1) := by decide +kernel
theorem dX2_unpick_53 : decode cX2_unpick 53 = .ok (.getfield 10, 3) := by decide +kernel
theorem dX2_unpick_56 : decode cX2_unpick 56 = .ok (.iload_n 1, 1) := by decide +kernel
theorem dX2_unpick_57 : decode cX2_unpick 57 = .ok (.iload_n 2, 1) := by decide +kernel
theorem dX2_unpick_58 : decode cX2_unpick 58 = .ok (.invokevirtual 112, 3) := by decide +kernel
theorem dX2_unpick_61 : decode cX2_unpick 61 = .ok (.ireturn, 1) := by decide +kernel
theorem dX2_birth_0 : decode cX2_birth 0 = .ok (.aload_n 0, 1) := by decide +kernel
theorem dX2_birth_1 : decode cX2_birth 1 = .ok (.getfield 10, 3) := by decide +kernel
theorem dX2_birth_4 : decode cX2_birth 4 = .ok (.iload_n 1, 1) := by decide +kernel
theorem dX2_birth_5 : decode cX2_birth 5 = .ok (.invokevirtual 76, 3) := by decide +kernel
theorem dX2_birth_8 : decode cX2_birth 8 = .ok (.ifCond .eq 10, 3) := by decide +kernel
theorem dX2_birth_11 : decode cX2_birth 11 = .ok (.iload_n 2, 1) := by decide +kernel
theorem dX2_birth_12 : decode cX2_birth 12 = .ok (.invokestatic 83, 3) := by decide +kernel
theorem dX2_birth_15 : decode cX2_birth 15 = .ok (.ifCond .ne 5, 3) := by decide +kernel
theorem dX2_birth_18 : decode cX2_birth 18 = .ok (.iconst (-1), 1) := by decide +kernel
theorem dX2_birth_19 : decode cX2_birth 19 = .ok (.ireturn, 1) := by decide +kernel
theorem dX2_birth_20 : decode cX2_birth 20 = .ok (.aload_n 0, 1) := by decide +kernel
theorem dX2_birth_21 : decode cX2_birth 21 = .ok (.getfield 10, 3) := by decide +kernel
theorem dX2_birth_24 : decode cX2_birth 24 = .ok (.iload_n 1, 1) := by decide +kernel
theorem dX2_birth_25 : decode cX2_birth 25 = .ok (.invokevirtual 119, 3) := by decide +kernel
theorem dX2_birth_28 : decode cX2_birth 28 = .ok (.ifCond .eq 6, 3) := by decide +kernel
theorem dX2_birth_31 : decode cX2_birth 31 = .ok (.bipush (-3), 2) := by decide +kernel
theorem dX2_birth_33 : decode cX2_birth 33 = .ok (.ireturn, 1) := by decide +kernel
theorem dX2_birth_34 : decode cX2_birth 34 = .ok (.aload_n 0, 1) := by decide +kernel
theorem dX2_birth_35 : decode cX2_birth 35 = .ok (.getfield 10, 3) := by decide +kernel
theorem dX2_birth_38 : decode cX2_birth 38 = .ok (.iload_n 1, 1) := by decide +kernel
theorem dX2_birth_39 : decode cX2_birth 39 = .ok (.iload_n 2, 1) := by decide +kernel
theorem dX2_birth_40 : decode cX2_birth 40 = .ok (.invokevirtual 122, 3) := by decide +kernel
theorem dX2_birth_43 : decode cX2_birth 43 = .ok (.ireturn, 1) := by decide +kernel
theorem dX2_death_0 : decode cX2_death 0 = .ok (.aload_n 0, 1) := by decide +kernel
theorem dX2_death_1 : decode cX2_death 1 = .ok (.getfield 10, 3) := by decide +kernel
theorem dX2_death_4 : decode cX2_death 4 = .ok (.iload_n 1, 1) := by decide +kernel
theorem dX2_death_5 : decode cX2_death 5 = .ok (.invokevirtual 76, 3) := by decide +kernel
theorem dX2_death_8 : decode cX2_death 8 = .ok (.ifCond .ne 5, 3) := by decide +kernel
theorem dX2_death_11 : decode cX2_death 11 = .ok (.iconst (-1), 1) := by decide +kernel
theorem dX2_death_12 : decode cX2_death 12 = .ok (.ireturn, 1) := by decide +kernel
theorem dX2_death_13 : decode cX2_death 13 = .ok (.aload_n 0, 1) := by decide +kernel
theorem dX2_death_14 : decode cX2_death 14 = .ok (.getfield 10, 3) := by decide +kernel
theorem dX2_death_17 : decode cX2_death 17 = .ok (.iload_n 1, 1) := by decide +kernel
theorem dX2_death_18 : decode cX2_death 18 = .ok (.invokevirtual 119, 3) := by decide +kernel
theorem dX2_death_21 : decode cX2_death 21 = .ok (.ifCond .ne 6, 3) := by decide +kernel
theorem dX2_death_24 : decode cX2_death 24 = .ok (.bipush (-3), 2) := by decide +kernel
theorem dX2_death_26 : decode cX2_death 26 = .ok (.ireturn, 1) := by decide +kernel
theorem dX2_death_27 : decode cX2_death 27 = .ok (.aload_n 0, 1) := by decide +kernel
theorem dX2_death_28 : decode cX2_death 28 = .ok (.getfield 10, 3) := by decide +kernel
theorem dX2_death_31 : decode cX2_death 31 = .ok (.iload_n 1, 1) := by decide +kernel
theorem dX2_death_32 : decode cX2_death 32 = .ok (.invokevirtual 125, 3) := by decide +kernel
theorem dX2_death_35 : decode cX2_death 35 = .ok (.ireturn, 1) := by decide +kernel
theorem dX2_pieces_0 : decode cX2_pieces 0 = .ok (.iload_n 1, 1) := by decide +kernel
theorem dX2_pieces_1 : decode cX2_pieces 1 = .ok (.iconst (-1), 1) := by decide +kernel
theorem dX2_pieces_2 : decode cX2_pieces 2 = .ok (.if_icmp .ne 18, 3) := by decide +kernel
theorem dX2_pieces_5 : decode cX2_pieces 5 = .ok (.aload_n 0, 1) := by decide +kernel
theorem dX2_pieces_6 : decode cX2_pieces 6 = .ok (.getfield 10, 3) := by decide +kernel
theorem dX2_pieces_9 : decode cX2_pieces 9 = .ok (.aload_n 0, 1) := by decide +kernel
theorem dX2_pieces_10 : decode cX2_pieces 10 = .ok (.getfield 10, 3) := by decide +kernel
theorem dX2_pieces_13 : decode cX2_pieces 13 = .ok (.invokevirtual 67, 3) := by decide +kernel
theorem dX2_pieces_16 : decode cX2_pieces 16 = .ok (.invokevirtual 128, 3) := by decide +kernel
theorem dX2_pieces_19 : decode cX2_pieces 19 = .ok (.ireturn, 1) := by decide +kernel
theorem dX2_pieces_20 : decode cX2_pieces 20 = .ok (.aload_n 0, 1) := by decide +kernel
theorem dX2_pieces_21 : decode cX2_pieces 21 = .ok (.getfield 10, 3) := by decide +kernel
theorem dX2_pieces_24 : decode cX2_pieces 24 = .ok (.iload_n 1, 1) := by decide +kernel
theorem dX2_pieces_25 : decode cX2_pieces 25 = .ok (.invokevirtual 76, 3) := by decide +kernel
theorem dX2_pieces_28 : decode cX2_pieces 28 = .ok (.ifCond .ne 5, 3) := by decide +kernel
theorem dX2_pieces_31 : decode cX2_pieces 31 = .ok (.iconst (-1), 1) := by decide +kernel
theorem dX2_pieces_32 : decode cX2_pieces 32 = .ok (.ireturn, 1) := by decide +kernel
theorem dX2_pieces_33 : decode cX2_pieces 33 = .ok (.aload_n 0, 1) := by decide +kernel
theorem dX2_pieces_34 : decode cX2_pieces 34 = .ok (.getfield 10, 3) := by decide +kernel
theorem dX2_pieces_37 : decode cX2_pieces 37 = .ok (.iload_n 1, 1) := by decide +kernel
theorem dX2_pieces_38 : decode cX2_pieces 38 = .ok (.invokevirtual 119, 3) := by decide +kernel
theorem dX2_pieces_41 : decode cX2_pieces 41 = .ok (.ifCond .ne 6, 3) := by decide +kernel
theorem dX2_pieces_44 : decode cX2_pieces 44 = .ok (.bipush (-3), 2) := by decide +kernel
theorem dX2_pieces_46 : decode cX2_pieces 46 = .ok (.ireturn, 1) := by decide +kernel
theorem dX2_pieces_47 : decode cX2_pieces 47 = .ok (.aload_n 0, 1) := by decide +kernel
theorem dX2_pieces_48 : decode cX2_pieces 48 = .ok (.getfield 10, 3) := by decide +kernel
theorem dX2_pieces_51 : decode cX2_pieces 51 = .ok (.iconst 1, 1) := by decide +kernel
theorem dX2_pieces_52 : decode cX2_pieces 52 = .ok (.iload_n 1, 1) := by decide +kernel
theorem dX2_pieces_53 : decode cX2_pieces 53 = .ok (.ishl, 1) := by decide +kernel
theorem dX2_pieces_54 : decode cX2_pieces 54 = .ok (.aload_n 0, 1) := by decide +kernel
theorem dX2_pieces_55 : decode cX2_pieces 55 = .ok (.getfield 10, 3) := by decide +kernel
theorem dX2_pieces_58 : decode cX2_pieces 58 = .ok (.invokevirtual 67, 3) := by decide +kernel
theorem dX2_pieces_61 : decode cX2_pieces 61 = .ok (.invokevirtual 131, 3) := by decide +kernel
theorem dX2_pieces_64 : decode cX2_pieces 64 = .ok (.ireturn, 1) := by decide +kernel
theorem dX2_cold_0 : decode cX2_cold 0 = .ok (.aload_n 0, 1) := by decide +kernel
theorem dX2_cold_1 : decode cX2_cold 1 = .ok (.getfield 10, 3) := by decide +kernel
theorem dX2_cold_4 : decode cX2_cold 4 = .ok (.invokevirtual 134, 3) := by decide +kernel
theorem dX2_cold_7 : decode cX2_cold 7 = .ok (.ireturn, 1) := by decide +kernel
theorem dX2_spent_0 : decode cX2_spent 0 = .ok (.aload_n 0, 1) := by decide +kernel
theorem dX2_spent_1 : decode cX2_spent 1 = .ok (.getfield 10, 3) := by decide +kernel
theorem dX2_spent_4 : decode cX2_spent 4 = .ok (.invokevirtual 137, 3) := by decide +kernel
theorem dX2_spent_7 : decode cX2_spent 7 = .ok (.ireturn, 1) := by decide +kernel
theorem dX2_parts_0 : decode cX2_parts 0 = .ok (.aload_n 0, 1) := by decide +kernel
theorem dX2_parts_1 : decode cX2_parts 1 = .ok (.getfield 10, 3) := by decide +kernel
theorem dX2_parts_4 : decode cX2_parts 4 = .ok (.invokevirtual 140, 3) := by decide +kernel
theorem dX2_parts_7 : decode cX2_parts 7 = .ok (.ireturn, 1) := by decide +kernel
theorem dX2_whole_0 : decode cX2_whole 0 = .ok (.aload_n 0, 1) := by decide +kernel
theorem dX2_whole_1 : decode cX2_whole 1 = .ok (.getfield 16, 3) := by decide +kernel
theorem dX2_whole_4 : decode cX2_whole 4 = .ok (.aload_n 0, 1) := by decide +kernel
theorem dX2_whole_5 : decode cX2_whole 5 = .ok (.getfield 10, 3) := by decide +kernel
theorem dX2_whole_8 : decode cX2_whole 8 = .ok (.invokevirtual 143, 3) := by decide +kernel
theorem dX2_whole_11 : decode cX2_whole 11 = .ok (.aload_n 0, 1) := by decide +kernel
theorem dX2_whole_12 : decode cX2_whole 12 = .ok (.getfield 16, 3) := by decide +kernel
theorem dX2_whole_15 : decode cX2_whole 15 = .ok (.invokevirtual 147, 3) := by decide +kernel
theorem dX2_whole_18 : decode cX2_whole 18 = .ok (.aload_n 0, 1) := by decide +kernel
theorem dX2_whole_19 : decode cX2_whole 19 = .ok (.getfield 10, 3) := by decide +kernel
theorem dX2_whole_22 : decode cX2_whole 22 = .ok (.getfield 90, 3) := by decide +kernel
theorem dX2_whole_25 : decode cX2_whole 25 = .ok (.aload_n 0, 1) := by decide +kernel
theorem dX2_whole_26 : decode cX2_whole 26 = .ok (.getfield 10, 3) := by decide +kernel
theorem dX2_whole_29 : decode cX2_whole 29 = .ok (.getfield 93, 3) := by decide +kernel
theorem dX2_whole_32 : decode cX2_whole 32 = .ok (.invokestatic 150, 3) := by decide +kernel
theorem dX2_whole_35 : decode cX2_whole 35 = .ok (.istore_n 2, 1) := by decide +kernel
theorem dX2_whole_36 : decode cX2_whole 36 = .ok (.aload_n 0, 1) := by decide +kernel
theorem dX2_whole_37 : decode cX2_whole 37 = .ok (.getfield 10, 3) := by decide +kernel
theorem dX2_whole_40 : decode cX2_whole 40 = .ok (.getfield 90, 3) := by decide +kernel
theorem dX2_whole_43 : decode cX2_whole 43 = .ok (.aload_n 0, 1) := by decide +kernel
theorem dX2_whole_44 : decode cX2_whole 44 = .ok (.getfield 10, 3) := by decide +kernel
theorem dX2_whole_47 : decode cX2_whole 47 = .ok (.getfield 93, 3) := by decide +kernel
theorem dX2_whole_50 : decode cX2_whole 50 = .ok (.invokestatic 155, 3) := by decide +kernel
theorem dX2_whole_53 : decode cX2_whole 53 = .ok (.istore_n 3, 1) := by decide +kernel
theorem dX2_whole_54 : decode cX2_whole 54 = .ok (.aload_n 0, 1) := by decide +kernel
theorem dX2_whole_55 : decode cX2_whole 55 = .ok (.iload_n 2, 1) := by decide +kernel
theorem dX2_whole_56 : decode cX2_whole 56 = .ok (.iconst 0, 1) := by decide +kernel
theorem dX2_whole_57 : decode cX2_whole 57 = .ok (.iload_n 1, 1) := by decide +kernel
theorem dX2_whole_58 : decode cX2_whole 58 = .ok (.invokevirtual 158, 3) := by decide +kernel
theorem dX2_whole_61 : decode cX2_whole 61 = .ok (.istore 4, 2) := by decide +kernel
theorem dX2_whole_63 : decode cX2_whole 63 = .ok (.aload_n 0, 1) := by decide +kernel
theorem dX2_whole_64 : decode cX2_whole 64 = .ok (.getfield 16, 3) := by decide +kernel
theorem dX2_whole_67 : decode cX2_whole 67 = .ok (.invokevirtual 162, 3) := by decide +kernel
theorem dX2_whole_70 : decode cX2_whole 70 = .ok (.istore 5, 2) := by decide +kernel
theorem dX2_whole_72 : decode cX2_whole 72 = .ok (.aload_n 0, 1) := by decide +kernel
theorem dX2_whole_73 : decode cX2_whole 73 = .ok (.iload_n 3, 1) := by decide +kernel
theorem dX2_whole_74 : decode cX2_whole 74 = .ok (.iload 5, 2) := by decide +kernel
theorem dX2_whole_76 : decode cX2_whole 76 = .ok (.iload_n 1, 1) := by decide +kernel
theorem dX2_whole_77 : decode cX2_whole 77 = .ok (.invokevirtual 158, 3) := by decide +kernel
theorem dX2_whole_80 : decode cX2_whole 80 = .ok (.istore 6, 2) := by decide +kernel
theorem dX2_whole_82 : decode cX2_whole 82 = .ok (.aload_n 0, 1) := by decide +kernel
theorem dX2_whole_83 : decode cX2_whole 83 = .ok (.getfield 16, 3) := by decide +kernel
theorem dX2_whole_86 : decode cX2_whole 86 = .ok (.aload_n 0, 1) := by decide +kernel
theorem dX2_whole_87 : decode cX2_whole 87 = .ok (.getfield 16, 3) := by decide +kernel
theorem dX2_whole_90 : decode cX2_whole 90 = .ok (.invokevirtual 67, 3) := by decide +kernel
theorem dX2_whole_93 : decode cX2_whole 93 = .ok (.invokevirtual 128, 3) := by decide +kernel
theorem dX2_whole_96 : decode cX2_whole 96 = .ok (.iconst 1, 1) := by decide +kernel
theorem dX2_whole_97 : decode cX2_whole 97 = .ok (.if_icmp .eq 6, 3) := by decide +kernel
theorem dX2_whole_100 : decode cX2_whole 100 = .ok (.bipush (-6), 2) := by decide +kernel
theorem dX2_whole_102 : decode cX2_whole 102 = .ok (.ireturn, 1) := by decide +kernel
theorem dX2_whole_103 : decode cX2_whole 103 = .ok (.iload_n 1, 1) := by decide +kernel
theorem dX2_whole_104 : decode cX2_whole 104 = .ok (.iconst (-1), 1) := by decide +kernel
theorem dX2_whole_105 : decode cX2_whole 105 = .ok (.if_icmp .ne 11, 3) := by decide +kernel
theorem dX2_whole_108 : decode cX2_whole 108 = .ok (.aload_n 0, 1) := by decide +kernel
theorem dX2_whole_109 : decode cX2_whole 109 = .ok (.getfield 16, 3) := by decide +kernel
theorem dX2_whole_112 : decode cX2_whole 112 = .ok (.invokevirtual 137, 3) := by decide +kernel
theorem dX2_whole_115 : decode cX2_whole 115 = .ok (.ireturn, 1) := by decide +kernel
theorem dX2_whole_116 : decode cX2_whole 116 = .ok (.iload 4, 2) := by decide +kernel
theorem dX2_whole_118 : decode cX2_whole 118 = .ok (.bipush (-6), 2) := by decide +kernel
theorem dX2_whole_120 : decode cX2_whole 120 = .ok (.if_icmp .eq 8, 3) := by decide +kernel
theorem dX2_whole_123 : decode cX2_whole 123 = .ok (.iload 4, 2) := by decide +kernel
theorem dX2_whole_125 : decode cX2_whole 125 = .ok (.goto 5, 3) := by decide +kernel
theorem dX2_whole_128 : decode cX2_whole 128 = .ok (.iload 6, 2) := by decide +kernel
theorem dX2_whole_130 : decode cX2_whole 130 = .ok (.ireturn, 1) := by decide +kernel
theorem dX2_patch_0 : decode cX2_patch 0 = .ok (.iload_n 1, 1) := by decide +kernel
theorem dX2_patch_1 : decode cX2_patch 1 = .ok (.invokestatic 83, 3) := by decide +kernel
theorem dX2_patch_4 : decode cX2_patch 4 = .ok (.ifCond .ne 5, 3) := by decide +kernel
theorem dX2_patch_7 : decode cX2_patch 7 = .ok (.iconst (-1), 1) := by decide +kernel
theorem dX2_patch_8 : decode cX2_patch 8 = .ok (.ireturn, 1) := by decide +kernel
theorem dX2_patch_9 : decode cX2_patch 9 = .ok (.iload_n 2, 1) := by decide +kernel
theorem dX2_patch_10 : decode cX2_patch 10 = .ok (.iconst 0, 1) := by decide +kernel
theorem dX2_patch_11 : decode cX2_patch 11 = .ok (.iconst 1, 1) := by decide +kernel
theorem dX2_patch_12 : decode cX2_patch 12 = .ok (.invokestatic 46, 3) := by decide +kernel
theorem dX2_patch_15 : decode cX2_patch 15 = .ok (.ifCond .ne 6, 3) := by decide +kernel
theorem dX2_patch_18 : decode cX2_patch 18 = .ok (.bipush (-2), 2) := by decide +kernel
theorem dX2_patch_20 : decode cX2_patch 20 = .ok (.ireturn, 1) := by decide +kernel
theorem dX2_patch_21 : decode cX2_patch 21 = .ok (.bipush (-6), 2) := by decide +kernel
theorem dX2_patch_23 : decode cX2_patch 23 = .ok (.istore_n 3, 1) := by decide +kernel
theorem dX2_patch_24 : decode cX2_patch 24 = .ok (.bipush (-6), 2) := by decide +kernel
theorem dX2_patch_26 : decode cX2_patch 26 = .ok (.istore 4, 2) := by decide +kernel
theorem dX2_patch_28 : decode cX2_patch 28 = .ok (.iconst 0, 1) := by decide +kernel
theorem dX2_patch_29 : decode cX2_patch 29 = .ok (.istore 5, 2) := by decide +kernel
theorem dX2_patch_31 : decode cX2_patch 31 = .ok (.iload 5, 2) := by decide +kernel
theorem dX2_patch_33 : decode cX2_patch 33 = .ok (.aload_n 0, 1) := by decide +kernel
theorem dX2_patch_34 : decode cX2_patch 34 = .ok (.getfield 10, 3) := by decide +kernel
theorem dX2_patch_37 : decode cX2_patch 37 = .ok (.invokevirtual 50, 3) := by decide +kernel
theorem dX2_patch_40 : decode cX2_patch 40 = .ok (.if_icmp .ge 75, 3) := by decide +kernel
theorem dX2_patch_43 : decode cX2_patch 43 = .ok (.aload_n 0, 1) := by decide +kernel
theorem dX2_patch_44 : decode cX2_patch 44 = .ok (.getfield 10, 3) := by decide +kernel
theorem dX2_patch_47 : decode cX2_patch 47 = .ok (.iload 5, 2) := by decide +kernel
theorem dX2_patch_49 : decode cX2_patch 49 = .ok (.invokevirtual 119, 3) := by decide +kernel
theorem dX2_patch_52 : decode cX2_patch 52 = .ok (.ifCond .ne 57, 3) := by decide +kernel
theorem dX2_patch_55 : decode cX2_patch 55 = .ok (.aload_n 0, 1) := by decide +kernel
theorem dX2_patch_56 : decode cX2_patch 56 = .ok (.getfield 16, 3) := by decide +kernel
theorem dX2_patch_59 : decode cX2_patch 59 = .ok (.aload_n 0, 1) := by decide +kernel
theorem dX2_patch_60 : decode cX2_patch 60 = .ok (.getfield 10, 3) := by decide +kernel
theorem dX2_patch_63 : decode cX2_patch 63 = .ok (.invokevirtual 143, 3) := by decide +kernel
theorem dX2_patch_66 : decode cX2_patch 66 = .ok (.aload_n 0, 1) := by decide +kernel
theorem dX2_patch_67 : decode cX2_patch 67 = .ok (.getfield 16, 3) := by decide +kernel
theorem dX2_patch_70 : decode cX2_patch 70 = .ok (.iload 5, 2) := by decide +kernel
theorem dX2_patch_72 : decode cX2_patch 72 = .ok (.iload_n 1, 1) := by decide +kernel
theorem dX2_patch_73 : decode cX2_patch 73 = .ok (.invokevirtual 122, 3) := by decide +kernel
theorem dX2_patch_76 : decode cX2_patch 76 = .ok (.pop, 1) := by decide +kernel
theorem dX2_patch_77 : decode cX2_patch 77 = .ok (.aload_n 0, 1) := by decide +kernel
theorem dX2_patch_78 : decode cX2_patch 78 = .ok (.getfield 16, 3) := by decide +kernel
theorem dX2_patch_81 : decode cX2_patch 81 = .ok (.invokevirtual 134, 3) := by decide +kernel
theorem dX2_patch_84 : decode cX2_patch 84 = .ok (.invokestatic 70, 3) := by decide +kernel
theorem dX2_patch_87 : decode cX2_patch 87 = .ok (.istore 6, 2) := by decide +kernel
theorem dX2_patch_89 : decode cX2_patch 89 = .ok (.iload_n 3, 1) := by decide +kernel
theorem dX2_patch_90 : decode cX2_patch 90 = .ok (.bipush (-6), 2) := by decide +kernel
theorem dX2_patch_92 : decode cX2_patch 92 = .ok (.if_icmp .eq 10, 3) := by decide +kernel
theorem dX2_patch_95 : decode cX2_patch 95 = .ok (.iload 6, 2) := by decide +kernel
theorem dX2_patch_97 : decode cX2_patch 97 = .ok (.iload 4, 2) := by decide +kernel
theorem dX2_patch_99 : decode cX2_patch 99 = .ok (.if_icmp .ge 10, 3) := by decide +kernel
theorem dX2_patch_102 : decode cX2_patch 102 = .ok (.iload 5, 2) := by decide +kernel
theorem dX2_patch_104 : decode cX2_patch 104 = .ok (.istore_n 3, 1) := by decide +kernel
theorem dX2_patch_105 : decode cX2_patch 105 = .ok (.iload 6, 2) := by decide +kernel
theorem dX2_patch_107 : decode cX2_patch 107 = .ok (.istore 4, 2) := by decide +kernel
theorem dX2_patch_109 : decode cX2_patch 109 = .ok (.iinc 5 1, 3) := by decide +kernel
theorem dX2_patch_112 : decode cX2_patch 112 = .ok (.goto (-81), 3) := by decide +kernel
theorem dX2_patch_115 : decode cX2_patch 115 = .ok (.iload_n 2, 1) := by decide +kernel
theorem dX2_patch_116 : decode cX2_patch 116 = .ok (.ifCond .ne 7, 3) := by decide +kernel
theorem dX2_patch_119 : decode cX2_patch 119 = .ok (.iload_n 3, 1) := by decide +kernel
theorem dX2_patch_120 : decode cX2_patch 120 = .ok (.goto 5, 3) := by decide +kernel
theorem dX2_patch_123 : decode cX2_patch 123 = .ok (.iload 4, 2) := by decide +kernel
theorem dX2_patch_125 : decode cX2_patch 125 = .ok (.ireturn, 1) := by decide +kernel
theorem dX2_wash_0 : decode cX2_wash 0 = .ok (.iload_n 1, 1) := by decide +kernel
theorem dX2_wash_1 : decode cX2_wash 1 = .ok (.iconst 0, 1) := by decide +kernel
theorem dX2_wash_2 : decode cX2_wash 2 = .ok (.bipush 15, 2) := by decide +kernel
theorem dX2_wash_4 : decode cX2_wash 4 = .ok (.invokestatic 46, 3) := by decide +kernel
theorem dX2_wash_7 : decode cX2_wash 7 = .ok (.ifCond .eq 12, 3) := by decide +kernel
theorem dX2_wash_10 : decode cX2_wash 10 = .ok (.iload_n 2, 1) := by decide +kernel
theorem dX2_wash_11 : decode cX2_wash 11 = .ok (.iconst 0, 1) := by decide +kernel
theorem dX2_wash_12 : decode cX2_wash 12 = .ok (.iconst 1, 1) := by decide +kernel
theorem dX2_wash_13 : decode cX2_wash 13 = .ok (.invokestatic 46, 3) := by decide +kernel
theorem dX2_wash_16 : decode cX2_wash 16 = .ok (.ifCond .ne 6, 3) := by decide +kernel
theorem dX2_wash_19 : decode cX2_wash 19 = .ok (.bipush (-2), 2) := by decide +kernel
theorem dX2_wash_21 : decode cX2_wash 21 = .ok (.ireturn, 1) := by decide +kernel
theorem dX2_wash_22 : decode cX2_wash 22 = .ok (.aload_n 0, 1) := by decide +kernel
theorem dX2_wash_23 : decode cX2_wash 23 = .ok (.getfield 10, 3) := by decide +kernel
theorem dX2_wash_26 : decode cX2_wash 26 = .ok (.invokevirtual 67, 3) := by decide +kernel
theorem dX2_wash_29 : decode cX2_wash 29 = .ok (.istore_n 3, 1) := by decide +kernel
theorem dX2_wash_30 : decode cX2_wash 30 = .ok (.iload_n 3, 1) := by decide +kernel
theorem dX2_wash_31 : decode cX2_wash 31 = .ok (.iload_n 3, 1) := by decide +kernel
theorem dX2_wash_32 : decode cX2_wash 32 = .ok (.ineg, 1) := by decide +kernel
theorem dX2_wash_33 : decode cX2_wash 33 = .ok (.iand, 1) := by decide +kernel
theorem dX2_wash_34 : decode cX2_wash 34 = .ok (.istore 4, 2) := by decide +kernel
theorem dX2_wash_36 : decode cX2_wash 36 = .ok (.bipush (-6), 2) := by decide +kernel
theorem dX2_wash_38 : decode cX2_wash 38 = .ok (.istore 5, 2) := by decide +kernel
theorem dX2_wash_40 : decode cX2_wash 40 = .ok (.bipush (-6), 2) := by decide +kernel
theorem dX2_wash_42 : decode cX2_wash 42 = .ok (.istore 6, 2) := by decide +kernel
theorem dX2_wash_44 : decode cX2_wash 44 = .ok (.iload 4, 2) := by decide +kernel
theorem dX2_wash_46 : decode cX2_wash 46 = .ok (.istore 7, 2) := by decide +kernel
theorem dX2_wash_48 : decode cX2_wash 48 = .ok (.iload 7, 2) := by decide +kernel
theorem dX2_wash_50 : decode cX2_wash 50 = .ok (.iload_n 3, 1) := by decide +kernel
theorem dX2_wash_51 : decode cX2_wash 51 = .ok (.if_icmp .ge 69, 3) := by decide +kernel
theorem dX2_wash_54 : decode cX2_wash 54 = .ok (.iload 7, 2) := by decide +kernel
theorem dX2_wash_56 : decode cX2_wash 56 = .ok (.iload_n 3, 1) := by decide +kernel
theorem dX2_wash_57 : decode cX2_wash 57 = .ok (.iload 4, 2) := by decide +kernel
theorem dX2_wash_59 : decode cX2_wash 59 = .ok (.invokestatic 165, 3) := by decide +kernel
theorem dX2_wash_62 : decode cX2_wash 62 = .ok (.ifCond .eq 52, 3) := by decide +kernel
theorem dX2_wash_65 : decode cX2_wash 65 = .ok (.iload 7, 2) := by decide +kernel
theorem dX2_wash_67 : decode cX2_wash 67 = .ok (.iload_n 3, 1) := by decide +kernel
theorem dX2_wash_68 : decode cX2_wash 68 = .ok (.invokestatic 168, 3) := by decide +kernel
theorem dX2_wash_71 : decode cX2_wash 71 = .ok (.iload_n 1, 1) := by decide +kernel
theorem dX2_wash_72 : decode cX2_wash 72 = .ok (.if_icmp .gt 42, 3) := by decide +kernel
theorem dX2_wash_75 : decode cX2_wash 75 = .ok (.aload_n 0, 1) := by decide +kernel
theorem dX2_wash_76 : decode cX2_wash 76 = .ok (.getfield 10, 3) := by decide +kernel
theorem dX2_wash_79 : decode cX2_wash 79 = .ok (.iload 7, 2) := by decide +kernel
theorem dX2_wash_81 : decode cX2_wash 81 = .ok (.iload_n 3, 1) := by decide +kernel
theorem dX2_wash_82 : decode cX2_wash 82 = .ok (.iload 7, 2) := by decide +kernel
theorem dX2_wash_84 : decode cX2_wash 84 = .ok (.iconst (-1), 1) := by decide +kernel
theorem dX2_wash_85 : decode cX2_wash 85 = .ok (.ixor, 1) := by decide +kernel
theorem dX2_wash_86 : decode cX2_wash 86 = .ok (.iand, 1) := by decide +kernel
theorem dX2_wash_87 : decode cX2_wash 87 = .ok (.invokevirtual 171, 3) := by decide +kernel
theorem dX2_wash_90 : decode cX2_wash 90 = .ok (.istore 8, 2) := by decide +kernel
theorem dX2_wash_92 : decode cX2_wash 92 = .ok (.iload 5, 2) := by decide +kernel
theorem dX2_wash_94 : decode cX2_wash 94 = .ok (.bipush (-6), 2) := by decide +kernel
theorem dX2_wash_96 : decode cX2_wash 96 = .ok (.if_icmp .eq 10, 3) := by decide +kernel
theorem dX2_wash_99 : decode cX2_wash 99 = .ok (.iload 8, 2) := by decide +kernel
theorem dX2_wash_101 : decode cX2_wash 101 = .ok (.iload 6, 2) := by decide +kernel
theorem dX2_wash_103 : decode cX2_wash 103 = .ok (.if_icmp .ge 11, 3) := by decide +kernel
theorem dX2_wash_106 : decode cX2_wash 106 = .ok (.iload 7, 2) := by decide +kernel
theorem dX2_wash_108 : decode cX2_wash 108 = .ok (.istore 5, 2) := by decide +kernel
theorem dX2_wash_110 : decode cX2_wash 110 = .ok (.iload 8, 2) := by decide +kernel
theorem dX2_wash_112 : decode cX2_wash 112 = .ok (.istore 6, 2) := by decide +kernel
theorem dX2_wash_114 : decode cX2_wash 114 = .ok (.iinc 7 1, 3) := by decide +kernel
theorem dX2_wash_117 : decode cX2_wash 117 = .ok (.goto (-69), 3) := by decide +kernel
theorem dX2_wash_120 : decode cX2_wash 120 = .ok (.iload_n 2, 1) := by decide +kernel
theorem dX2_wash_121 : decode cX2_wash 121 = .ok (.ifCond .ne 8, 3) := by decide +kernel
theorem dX2_wash_124 : decode cX2_wash 124 = .ok (.iload 6, 2) := by decide +kernel
theorem dX2_wash_126 : decode cX2_wash 126 = .ok (.goto 5, 3) := by decide +kernel
theorem dX2_wash_129 : decode cX2_wash 129 = .ok (.iload 5, 2) := by decide +kernel
theorem dX2_wash_131 : decode cX2_wash 131 = .ok (.ireturn, 1) := by decide +kernel
theorem dX2_placings_0 : decode cX2_placings 0 = .ok (.aload_n 0, 1) := by decide +kernel
theorem dX2_placings_1 : decode cX2_placings 1 = .ok (.iload_n 1, 1) := by decide +kernel
theorem dX2_placings_2 : decode cX2_placings 2 = .ok (.iload_n 2, 1) := by decide +kernel
theorem dX2_placings_3 : decode cX2_placings 3 = .ok (.iload_n 3, 1) := by decide +kernel
theorem dX2_placings_4 : decode cX2_placings 4 = .ok (.iload 4, 2) := by decide +kernel
theorem dX2_placings_6 : decode cX2_placings 6 = .ok (.invokevirtual 174, 3) := by decide +kernel
theorem dX2_placings_9 : decode cX2_placings 9 = .ok (.istore 5, 2) := by decide +kernel
theorem dX2_placings_11 : decode cX2_placings 11 = .ok (.iload 5, 2) := by decide +kernel
theorem dX2_placings_13 : decode cX2_placings 13 = .ok (.ifCond .eq 6, 3) := by decide +kernel
theorem dX2_placings_16 : decode cX2_placings 16 = .ok (.iload 5, 2) := by decide +kernel
theorem dX2_placings_18 : decode cX2_placings 18 = .ok (.ireturn, 1) := by decide +kernel
theorem dX2_placings_19 : decode cX2_placings 19 = .ok (.aload_n 0, 1) := by decide +kernel
theorem dX2_placings_20 : decode cX2_placings 20 = .ok (.getfield 26, 3) := by decide +kernel
theorem dX2_placings_23 : decode cX2_placings 23 = .ok (.iload_n 1, 1) := by decide +kernel
theorem dX2_placings_24 : decode cX2_placings 24 = .ok (.iload_n 2, 1) := by decide +kernel
theorem dX2_placings_25 : decode cX2_placings 25 = .ok (.iload_n 3, 1) := by decide +kernel
theorem dX2_placings_26 : decode cX2_placings 26 = .ok (.iload 4, 2) := by decide +kernel
theorem dX2_placings_28 : decode cX2_placings 28 = .ok (.invokevirtual 178, 3) := by decide +kernel
theorem dX2_placings_31 : decode cX2_placings 31 = .ok (.aload_n 0, 1) := by decide +kernel
theorem dX2_placings_32 : decode cX2_placings 32 = .ok (.getfield 26, 3) := by decide +kernel
theorem dX2_placings_35 : decode cX2_placings 35 = .ok (.aload_n 0, 1) := by decide +kernel
theorem dX2_placings_36 : decode cX2_placings 36 = .ok (.getfield 10, 3) := by decide +kernel
theorem dX2_placings_39 : decode cX2_placings 39 = .ok (.ldc 182, 2) := by decide +kernel
theorem dX2_placings_41 : decode cX2_placings 41 = .ok (.invokevirtual 183, 3) := by decide +kernel
theorem dX2_placings_44 : decode cX2_placings 44 = .ok (.ireturn, 1) := by decide +kernel
theorem dX2_placed_0 : decode cX2_placed 0 = .ok (.aload_n 0, 1) := by decide +kernel
theorem dX2_placed_1 : decode cX2_placed 1 = .ok (.getfield 10, 3) := by decide +kernel
theorem dX2_placed_4 : decode cX2_placed 4 = .ok (.iload 5, 2) := by decide +kernel
theorem dX2_placed_6 : decode cX2_placed 6 = .ok (.invokevirtual 76, 3) := by decide +kernel
theorem dX2_placed_9 : decode cX2_placed 9 = .ok (.ifCond .ne 5, 3) := by decide +kernel
theorem dX2_placed_12 : decode cX2_placed 12 = .ok (.iconst (-1), 1) := by decide +kernel
theorem dX2_placed_13 : decode cX2_placed 13 = .ok (.ireturn, 1) := by decide +kernel
theorem dX2_placed_14 : decode cX2_placed 14 = .ok (.aload_n 0, 1) := by decide +kernel
theorem dX2_placed_15 : decode cX2_placed 15 = .ok (.iload_n 1, 1) := by decide +kernel
theorem dX2_placed_16 : decode cX2_placed 16 = .ok (.iload_n 2, 1) := by decide +kernel
theorem dX2_placed_17 : decode cX2_placed 17 = .ok (.iload_n 3, 1) := by decide +kernel
theorem dX2_placed_18 : decode cX2_placed 18 = .ok (.iload 4, 2) := by decide +kernel
theorem dX2_placed_20 : decode cX2_placed 20 = .ok (.invokevirtual 174, 3) := by decide +kernel
theorem dX2_placed_23 : decode cX2_placed 23 = .ok (.istore 6, 2) := by decide +kernel
theorem dX2_placed_25 : decode cX2_placed 25 = .ok (.iload 6, 2) := by decide +kernel
theorem dX2_placed_27 : decode cX2_placed 27 = .ok (.ifCond .eq 6, 3) := by decide +kernel
theorem dX2_placed_30 : decode cX2_placed 30 = .ok (.iload 6, 2) := by decide +kernel
theorem dX2_placed_32 : decode cX2_placed 32 = .ok (.ireturn, 1) := by decide +kernel
theorem dX2_placed_33 : decode cX2_placed 33 = .ok (.aload_n 0, 1) := by decide +kernel
theorem dX2_placed_34 : decode cX2_placed 34 = .ok (.getfield 26, 3) := by decide +kernel
theorem dX2_placed_37 : decode cX2_placed 37 = .ok (.iload_n 1, 1) := by decide +kernel
theorem dX2_placed_38 : decode cX2_placed 38 = .ok (.iload_n 2, 1) := by decide +kernel
theorem dX2_placed_39 : decode cX2_placed 39 = .ok (.iload_n 3, 1) := by decide +kernel
theorem dX2_placed_40 : decode cX2_placed 40 = .ok (.iload 4, 2) := by decide +kernel
theorem dX2_placed_42 : decode cX2_placed 42 = .ok (.invokevirtual 178, 3) := by decide +kernel
theorem dX2_placed_45 : decode cX2_placed 45 = .ok (.aload_n 0, 1) := by decide +kernel
theorem dX2_placed_46 : decode cX2_placed 46 = .ok (.getfield 26, 3) := by decide +kernel
theorem dX2_placed_49 : decode cX2_placed 49 = .ok (.aload_n 0, 1) := by decide +kernel
theorem dX2_placed_50 : decode cX2_placed 50 = .ok (.getfield 10, 3) := by decide +kernel
theorem dX2_placed_53 : decode cX2_placed 53 = .ok (.iconst 1, 1) := by decide +kernel
theorem dX2_placed_54 : decode cX2_placed 54 = .ok (.invokevirtual 183, 3) := by decide +kernel
theorem dX2_placed_57 : decode cX2_placed 57 = .ok (.ifCond .ne 8, 3) := by decide +kernel
theorem dX2_placed_60 : decode cX2_placed 60 = .ok (.bipush (-6), 2) := by decide +kernel
theorem dX2_placed_62 : decode cX2_placed 62 = .ok (.goto 12, 3) := by decide +kernel
theorem dX2_placed_65 : decode cX2_placed 65 = .ok (.aload_n 0, 1) := by decide +kernel
theorem dX2_placed_66 : decode cX2_placed 66 = .ok (.getfield 26, 3) := by decide +kernel
theorem dX2_placed_69 : decode cX2_placed 69 = .ok (.iload 5, 2) := by decide +kernel
theorem dX2_placed_71 : decode cX2_placed 71 = .ok (.invokevirtual 187, 3) := by decide +kernel
theorem dX2_placed_74 : decode cX2_placed 74 = .ok (.ireturn, 1) := by decide +kernel
theorem dX2_grown_0 : decode cX2_grown 0 = .ok (.aload_n 0, 1) := by decide +kernel
theorem dX2_grown_1 : decode cX2_grown 1 = .ok (.getfield 10, 3) := by decide +kernel
theorem dX2_grown_4 : decode cX2_grown 4 = .ok (.invokevirtual 67, 3) := by decide +kernel
theorem dX2_grown_7 : decode cX2_grown 7 = .ok (.istore_n 1, 1) := by decide +kernel
theorem dX2_grown_8 : decode cX2_grown 8 = .ok (.aload_n 0, 1) := by decide +kernel
theorem dX2_grown_9 : decode cX2_grown 9 = .ok (.getfield 10, 3) := by decide +kernel
theorem dX2_grown_12 : decode cX2_grown 12 = .ok (.iload_n 1, 1) := by decide +kernel
theorem dX2_grown_13 : decode cX2_grown 13 = .ok (.invokevirtual 128, 3) := by decide +kernel
theorem dX2_grown_16 : decode cX2_grown 16 = .ok (.iconst 1, 1) := by decide +kernel
theorem dX2_grown_17 : decode cX2_grown 17 = .ok (.if_icmp .eq 5, 3) := by decide +kernel
theorem dX2_grown_20 : decode cX2_grown 20 = .ok (.lconst 0, 1) := by decide +kernel
theorem dX2_grown_21 : decode cX2_grown 21 = .ok (.lreturn, 1) := by decide +kernel
theorem dX2_grown_22 : decode cX2_grown 22 = .ok (.aload_n 0, 1) := by decide +kernel
theorem dX2_grown_23 : decode cX2_grown 23 = .ok (.invokevirtual 190, 3) := by decide +kernel
theorem dX2_grown_26 : decode cX2_grown 26 = .ok (.astore_n 2, 1) := by decide +kernel
theorem dX2_grown_27 : decode cX2_grown 27 = .ok (.iload_n 1, 1) := by decide +kernel
theorem dX2_grown_28 : decode cX2_grown 28 = .ok (.aload_n 2, 1) := by decide +kernel
theorem dX2_grown_29 : decode cX2_grown 29 = .ok (.arraylength, 1) := by decide +kernel
theorem dX2_grown_30 : decode cX2_grown 30 = .ok (.if_icmp .lt 5, 3) := by decide +kernel
theorem dX2_grown_33 : decode cX2_grown 33 = .ok (.lconst 0, 1) := by decide +kernel
theorem dX2_grown_34 : decode cX2_grown 34 = .ok (.lreturn, 1) := by decide +kernel
theorem dX2_grown_35 : decode cX2_grown 35 = .ok (.iconst 0, 1) := by decide +kernel
theorem dX2_grown_36 : decode cX2_grown 36 = .ok (.istore_n 3, 1) := by decide +kernel
theorem dX2_grown_37 : decode cX2_grown 37 = .ok (.iload_n 3, 1) := by decide +kernel
theorem dX2_grown_38 : decode cX2_grown 38 = .ok (.aload_n 0, 1) := by decide +kernel
theorem dX2_grown_39 : decode cX2_grown 39 = .ok (.getfield 10, 3) := by decide +kernel
theorem dX2_grown_42 : decode cX2_grown 42 = .ok (.invokevirtual 50, 3) := by decide +kernel
theorem dX2_grown_45 : decode cX2_grown 45 = .ok (.if_icmp .ge 23, 3) := by decide +kernel
theorem dX2_grown_48 : decode cX2_grown 48 = .ok (.iload_n 1, 1) := by decide +kernel
theorem dX2_grown_49 : decode cX2_grown 49 = .ok (.iload_n 3, 1) := by decide +kernel
theorem dX2_grown_50 : decode cX2_grown 50 = .ok (.invokestatic 194, 3) := by decide +kernel
theorem dX2_grown_53 : decode cX2_grown 53 = .ok (.ifCond .eq 9, 3) := by decide +kernel
theorem dX2_grown_56 : decode cX2_grown 56 = .ok (.aload_n 2, 1) := by decide +kernel
theorem dX2_grown_57 : decode cX2_grown 57 = .ok (.iconst 1, 1) := by decide +kernel
theorem dX2_grown_58 : decode cX2_grown 58 = .ok (.iload_n 3, 1) := by decide +kernel
theorem dX2_grown_59 : decode cX2_grown 59 = .ok (.ishl, 1) := by decide +kernel
theorem dX2_grown_60 : decode cX2_grown 60 = .ok (.lconst 1, 1) := by decide +kernel
theorem dX2_grown_61 : decode cX2_grown 61 = .ok (.lastore, 1) := by decide +kernel
theorem dX2_grown_62 : decode cX2_grown 62 = .ok (.iinc 3 1, 3) := by decide +kernel
theorem dX2_grown_65 : decode cX2_grown 65 = .ok (.goto (-28), 3) := by decide +kernel
theorem dX2_grown_68 : decode cX2_grown 68 = .ok (.iconst 1, 1) := by decide +kernel
theorem dX2_grown_69 : decode cX2_grown 69 = .ok (.istore_n 3, 1) := by decide +kernel
theorem dX2_grown_70 : decode cX2_grown 70 = .ok (.iload_n 3, 1) := by decide +kernel
theorem dX2_grown_71 : decode cX2_grown 71 = .ok (.iload_n 1, 1) := by decide +kernel
theorem dX2_grown_72 : decode cX2_grown 72 = .ok (.if_icmp .ge 78, 3) := by decide +kernel
theorem dX2_grown_75 : decode cX2_grown 75 = .ok (.aload_n 2, 1) := by decide +kernel
theorem dX2_grown_76 : decode cX2_grown 76 = .ok (.iload_n 3, 1) := by decide +kernel
theorem dX2_grown_77 : decode cX2_grown 77 = .ok (.laload, 1) := by decide +kernel
theorem dX2_grown_78 : decode cX2_grown 78 = .ok (.lconst 0, 1) := by decide +kernel
theorem dX2_grown_79 : decode cX2_grown 79 = .ok (.lcmp, 1) := by decide +kernel
theorem dX2_grown_80 : decode cX2_grown 80 = .ok (.ifCond .eq 64, 3) := by decide +kernel
theorem dX2_grown_83 : decode cX2_grown 83 = .ok (.aload_n 0, 1) := by decide +kernel
theorem dX2_grown_84 : decode cX2_grown 84 = .ok (.getfield 10, 3) := by decide +kernel
theorem dX2_grown_87 : decode cX2_grown 87 = .ok (.iload_n 3, 1) := by decide +kernel
theorem dX2_grown_88 : decode cX2_grown 88 = .ok (.invokevirtual 197, 3) := by decide +kernel
theorem dX2_grown_91 : decode cX2_grown 91 = .ok (.iload_n 1, 1) := by decide +kernel
theorem dX2_grown_92 : decode cX2_grown 92 = .ok (.iand, 1) := by decide +kernel
theorem dX2_grown_93 : decode cX2_grown 93 = .ok (.iload_n 3, 1) := by decide +kernel
theorem dX2_grown_94 : decode cX2_grown 94 = .ok (.iconst (-1), 1) := by decide +kernel
theorem dX2_grown_95 : decode cX2_grown 95 = .ok (.ixor, 1) := by decide +kernel
theorem dX2_grown_96 : decode cX2_grown 96 = .ok (.iand, 1) := by decide +kernel
theorem dX2_grown_97 : decode cX2_grown 97 = .ok (.istore 4, 2) := by decide +kernel
theorem dX2_grown_99 : decode cX2_grown 99 = .ok (.iconst 0, 1) := by decide +kernel
theorem dX2_grown_100 : decode cX2_grown 100 = .ok (.istore 5, 2) := by decide +kernel
theorem dX2_grown_102 : decode cX2_grown 102 = .ok (.iload 5, 2) := by decide +kernel
theorem dX2_grown_104 : decode cX2_grown 104 = .ok (.aload_n 0, 1) := by decide +kernel
theorem dX2_grown_105 : decode cX2_grown 105 = .ok (.getfield 10, 3) := by decide +kernel
theorem dX2_grown_108 : decode cX2_grown 108 = .ok (.invokevirtual 50, 3) := by decide +kernel
theorem dX2_grown_111 : decode cX2_grown 111 = .ok (.if_icmp .ge 33, 3) := by decide +kernel
theorem dX2_grown_114 : decode cX2_grown 114 = .ok (.iload 4, 2) := by decide +kernel
theorem dX2_grown_116 : decode cX2_grown 116 = .ok (.iload 5, 2) := by decide +kernel
theorem dX2_grown_118 : decode cX2_grown 118 = .ok (.invokestatic 194, 3) := by decide +kernel
theorem dX2_grown_121 : decode cX2_grown 121 = .ok (.ifCond .eq 17, 3) := by decide +kernel
theorem dX2_grown_124 : decode cX2_grown 124 = .ok (.aload_n 2, 1) := by decide +kernel
theorem dX2_grown_125 : decode cX2_grown 125 = .ok (.iload_n 3, 1) := by decide +kernel
theorem dX2_grown_126 : decode cX2_grown 126 = .ok (.iconst 1, 1) := by decide +kernel
theorem dX2_grown_127 : decode cX2_grown 127 = .ok (.iload 5, 2) := by decide +kernel
theorem dX2_grown_129 : decode cX2_grown 129 = .ok (.ishl, 1) := by decide +kernel
theorem dX2_grown_130 : decode cX2_grown 130 = .ok (.ior, 1) := by decide +kernel
theorem dX2_grown_131 : decode cX2_grown 131 = .ok (.dup2, 1) := by decide +kernel
theorem dX2_grown_132 : decode cX2_grown 132 = .ok (.laload, 1) := by decide +kernel
theorem dX2_grown_133 : decode cX2_grown 133 = .ok (.aload_n 2, 1) := by decide +kernel
theorem dX2_grown_134 : decode cX2_grown 134 = .ok (.iload_n 3, 1) := by decide +kernel
theorem dX2_grown_135 : decode cX2_grown 135 = .ok (.laload, 1) := by decide +kernel
theorem dX2_grown_136 : decode cX2_grown 136 = .ok (.ladd, 1) := by decide +kernel
theorem dX2_grown_137 : decode cX2_grown 137 = .ok (.lastore, 1) := by decide +kernel
theorem dX2_grown_138 : decode cX2_grown 138 = .ok (.iinc 5 1, 3) := by decide +kernel
theorem dX2_grown_141 : decode cX2_grown 141 = .ok (.goto (-39), 3) := by decide +kernel
theorem dX2_grown_144 : decode cX2_grown 144 = .ok (.iinc 3 1, 3) := by decide +kernel
theorem dX2_grown_147 : decode cX2_grown 147 = .ok (.goto (-77), 3) := by decide +kernel
theorem dX2_grown_150 : decode cX2_grown 150 = .ok (.aload_n 2, 1) := by decide +kernel
theorem dX2_grown_151 : decode cX2_grown 151 = .ok (.iload_n 1, 1) := by decide +kernel
theorem dX2_grown_152 : decode cX2_grown 152 = .ok (.laload, 1) := by decide +kernel
theorem dX2_grown_153 : decode cX2_grown 153 = .ok (.lreturn, 1) := by decide +kernel
theorem dX2_could_0 : decode cX2_could 0 = .ok (.iload_n 1, 1) := by decide +kernel
theorem dX2_could_1 : decode cX2_could 1 = .ok (.iconst 0, 1) := by decide +kernel
theorem dX2_could_2 : decode cX2_could 2 = .ok (.iconst 1, 1) := by decide +kernel
theorem dX2_could_3 : decode cX2_could 3 = .ok (.invokestatic 46, 3) := by decide +kernel
theorem dX2_could_6 : decode cX2_could 6 = .ok (.ifCond .ne 6, 3) := by decide +kernel
theorem dX2_could_9 : decode cX2_could 9 = .ok (.bipush (-2), 2) := by decide +kernel
theorem dX2_could_11 : decode cX2_could 11 = .ok (.ireturn, 1) := by decide +kernel
theorem dX2_could_12 : decode cX2_could 12 = .ok (.aload_n 0, 1) := by decide +kernel
theorem dX2_could_13 : decode cX2_could 13 = .ok (.getfield 10, 3) := by decide +kernel
theorem dX2_could_16 : decode cX2_could 16 = .ok (.aload_n 0, 1) := by decide +kernel
theorem dX2_could_17 : decode cX2_could 17 = .ok (.getfield 10, 3) := by decide +kernel
theorem dX2_could_20 : decode cX2_could 20 = .ok (.invokevirtual 67, 3) := by decide +kernel
theorem dX2_could_23 : decode cX2_could 23 = .ok (.invokevirtual 128, 3) := by decide +kernel
theorem dX2_could_26 : decode cX2_could 26 = .ok (.iconst 1, 1) := by decide +kernel
theorem dX2_could_27 : decode cX2_could 27 = .ok (.if_icmp .eq 5, 3) := by decide +kernel
theorem dX2_could_30 : decode cX2_could 30 = .ok (.iconst 0, 1) := by decide +kernel
theorem dX2_could_31 : decode cX2_could 31 = .ok (.ireturn, 1) := by decide +kernel
theorem dX2_could_32 : decode cX2_could 32 = .ok (.iload_n 1, 1) := by decide +kernel
theorem dX2_could_33 : decode cX2_could 33 = .ok (.ifCond .ne 13, 3) := by decide +kernel
theorem dX2_could_36 : decode cX2_could 36 = .ok (.aload_n 0, 1) := by decide +kernel
theorem dX2_could_37 : decode cX2_could 37 = .ok (.getfield 10, 3) := by decide +kernel
theorem dX2_could_40 : decode cX2_could 40 = .ok (.invokevirtual 67, 3) := by decide +kernel
theorem dX2_could_43 : decode cX2_could 43 = .ok (.goto 20, 3) := by decide +kernel
theorem dX2_could_46 : decode cX2_could 46 = .ok (.aload_n 0, 1) := by decide +kernel
theorem dX2_could_47 : decode cX2_could 47 = .ok (.getfield 10, 3) := by decide +kernel
theorem dX2_could_50 : decode cX2_could 50 = .ok (.invokevirtual 67, 3) := by decide +kernel
theorem dX2_could_53 : decode cX2_could 53 = .ok (.aload_n 0, 1) := by decide +kernel
theorem dX2_could_54 : decode cX2_could 54 = .ok (.getfield 10, 3) := by decide +kernel
theorem dX2_could_57 : decode cX2_could 57 = .ok (.invokevirtual 140, 3) := by decide +kernel
theorem dX2_could_60 : decode cX2_could 60 = .ok (.iconst (-1), 1) := by decide +kernel
theorem dX2_could_61 : decode cX2_could 61 = .ok (.ixor, 1) := by decide +kernel
theorem dX2_could_62 : decode cX2_could 62 = .ok (.iand, 1) := by decide +kernel
theorem dX2_could_63 : decode cX2_could 63 = .ok (.ireturn, 1) := by decide +kernel
theorem dX2_turn_0 : decode cX2_turn 0 = .ok (.aload_n 0, 1) := by decide +kernel
theorem dX2_turn_1 : decode cX2_turn 1 = .ok (.getfield 16, 3) := by decide +kernel
theorem dX2_turn_4 : decode cX2_turn 4 = .ok (.aload_n 0, 1) := by decide +kernel
theorem dX2_turn_5 : decode cX2_turn 5 = .ok (.getfield 10, 3) := by decide +kernel
theorem dX2_turn_8 : decode cX2_turn 8 = .ok (.invokevirtual 143, 3) := by decide +kernel
theorem dX2_turn_11 : decode cX2_turn 11 = .ok (.aload_n 0, 1) := by decide +kernel
theorem dX2_turn_12 : decode cX2_turn 12 = .ok (.getfield 10, 3) := by decide +kernel
theorem dX2_turn_15 : decode cX2_turn 15 = .ok (.aload_n 0, 1) := by decide +kernel
theorem dX2_turn_16 : decode cX2_turn 16 = .ok (.getfield 16, 3) := by decide +kernel
theorem dX2_turn_19 : decode cX2_turn 19 = .ok (.invokevirtual 200, 3) := by decide +kernel
theorem dX2_turn_22 : decode cX2_turn 22 = .ok (.aload_n 0, 1) := by decide +kernel
theorem dX2_turn_23 : decode cX2_turn 23 = .ok (.getfield 10, 3) := by decide +kernel
theorem dX2_turn_26 : decode cX2_turn 26 = .ok (.invokevirtual 50, 3) := by decide +kernel
theorem dX2_turn_29 : decode cX2_turn 29 = .ok (.ireturn, 1) := by decide +kernel
theorem dX2_years_0 : decode cX2_years 0 = .ok (.iload_n 1, 1) := by decide +kernel
theorem dX2_years_1 : decode cX2_years 1 = .ok (.iconst 0, 1) := by decide +kernel
theorem dX2_years_2 : decode cX2_years 2 = .ok (.sipush 9999, 3) := by decide +kernel
theorem dX2_years_5 : decode cX2_years 5 = .ok (.invokestatic 46, 3) := by decide +kernel
theorem dX2_years_8 : decode cX2_years 8 = .ok (.ifCond .eq 22, 3) := by decide +kernel
theorem dX2_years_11 : decode cX2_years 11 = .ok (.iload_n 2, 1) := by decide +kernel
theorem dX2_years_12 : decode cX2_years 12 = .ok (.iconst 1, 1) := by decide +kernel
theorem dX2_years_13 : decode cX2_years 13 = .ok (.bipush 99, 2) := by decide +kernel
theorem dX2_years_15 : decode cX2_years 15 = .ok (.invokestatic 46, 3) := by decide +kernel
theorem dX2_years_18 : decode cX2_years 18 = .ok (.ifCond .eq 12, 3) := by decide +kernel
theorem dX2_years_21 : decode cX2_years 21 = .ok (.iload_n 3, 1) := by decide +kernel
theorem dX2_years_22 : decode cX2_years 22 = .ok (.iconst 0, 1) := by decide +kernel
theorem dX2_years_23 : decode cX2_years 23 = .ok (.iconst 3, 1) := by decide +kernel
theorem dX2_years_24 : decode cX2_years 24 = .ok (.invokestatic 46, 3) := by decide +kernel
theorem dX2_years_27 : decode cX2_years 27 = .ok (.ifCond .ne 6, 3) := by decide +kernel
theorem dX2_years_30 : decode cX2_years 30 = .ok (.bipush (-2), 2) := by decide +kernel
theorem dX2_years_32 : decode cX2_years 32 = .ok (.ireturn, 1) := by decide +kernel
theorem dX2_years_33 : decode cX2_years 33 = .ok (.aload_n 0, 1) := by decide +kernel
theorem dX2_years_34 : decode cX2_years 34 = .ok (.getfield 16, 3) := by decide +kernel
theorem dX2_years_37 : decode cX2_years 37 = .ok (.aload_n 0, 1) := by decide +kernel
theorem dX2_years_38 : decode cX2_years 38 = .ok (.getfield 10, 3) := by decide +kernel
theorem dX2_years_41 : decode cX2_years 41 = .ok (.invokevirtual 143, 3) := by decide +kernel
theorem dX2_years_44 : decode cX2_years 44 = .ok (.iconst 1, 1) := by decide +kernel
theorem dX2_years_45 : decode cX2_years 45 = .ok (.aload_n 0, 1) := by decide +kernel
theorem dX2_years_46 : decode cX2_years 46 = .ok (.getfield 16, 3) := by decide +kernel
theorem dX2_years_49 : decode cX2_years 49 = .ok (.invokevirtual 50, 3) := by decide +kernel
theorem dX2_years_52 : decode cX2_years 52 = .ok (.invokestatic 155, 3) := by decide +kernel
theorem dX2_years_55 : decode cX2_years 55 = .ok (.istore 4, 2) := by decide +kernel
theorem dX2_years_57 : decode cX2_years 57 = .ok (.iconst 0, 1) := by decide +kernel
theorem dX2_years_58 : decode cX2_years 58 = .ok (.istore 5, 2) := by decide +kernel
theorem dX2_years_60 : decode cX2_years 60 = .ok (.iload_n 1, 1) := by decide +kernel
theorem dX2_years_61 : decode cX2_years 61 = .ok (.istore 6, 2) := by decide +kernel
theorem dX2_years_63 : decode cX2_years 63 = .ok (.iconst 0, 1) := by decide +kernel
theorem dX2_years_64 : decode cX2_years 64 = .ok (.istore 7, 2) := by decide +kernel
theorem dX2_years_66 : decode cX2_years 66 = .ok (.iload 7, 2) := by decide +kernel
theorem dX2_years_68 : decode cX2_years 68 = .ok (.iload_n 2, 1) := by decide +kernel
theorem dX2_years_69 : decode cX2_years 69 = .ok (.if_icmp .ge 74, 3) := by decide +kernel
theorem dX2_years_72 : decode cX2_years 72 = .ok (.bipush 75, 2) := by decide +kernel
theorem dX2_years_74 : decode cX2_years 74 = .ok (.iload 6, 2) := by decide +kernel
theorem dX2_years_76 : decode cX2_years 76 = .ok (.imul, 1) := by decide +kernel
theorem dX2_years_77 : decode cX2_years 77 = .ok (.bipush 74, 2) := by decide +kernel
theorem dX2_years_79 : decode cX2_years 79 = .ok (.iadd, 1) := by decide +kernel
theorem dX2_years_80 : decode cX2_years 80 = .ok (.ldc 203, 2) := by decide +kernel
theorem dX2_years_82 : decode cX2_years 82 = .ok (.irem, 1) := by decide +kernel
theorem dX2_years_83 : decode cX2_years 83 = .ok (.istore 6, 2) := by decide +kernel
theorem dX2_years_85 : decode cX2_years 85 = .ok (.iload 6, 2) := by decide +kernel
theorem dX2_years_87 : decode cX2_years 87 = .ok (.iload 4, 2) := by decide +kernel
theorem dX2_years_89 : decode cX2_years 89 = .ok (.irem, 1) := by decide +kernel
theorem dX2_years_90 : decode cX2_years 90 = .ok (.istore 8, 2) := by decide +kernel
theorem dX2_years_92 : decode cX2_years 92 = .ok (.aload_n 0, 1) := by decide +kernel
theorem dX2_years_93 : decode cX2_years 93 = .ok (.getfield 16, 3) := by decide +kernel
theorem dX2_years_96 : decode cX2_years 96 = .ok (.iload 8, 2) := by decide +kernel
theorem dX2_years_98 : decode cX2_years 98 = .ok (.invokevirtual 119, 3) := by decide +kernel
theorem dX2_years_101 : decode cX2_years 101 = .ok (.ifCond .eq 16, 3) := by decide +kernel
theorem dX2_years_104 : decode cX2_years 104 = .ok (.aload_n 0, 1) := by decide +kernel
theorem dX2_years_105 : decode cX2_years 105 = .ok (.getfield 16, 3) := by decide +kernel
theorem dX2_years_108 : decode cX2_years 108 = .ok (.iload 8, 2) := by decide +kernel
theorem dX2_years_110 : decode cX2_years 110 = .ok (.invokevirtual 125, 3) := by decide +kernel
theorem dX2_years_113 : decode cX2_years 113 = .ok (.pop, 1) := by decide +kernel
theorem dX2_years_114 : decode cX2_years 114 = .ok (.goto 23, 3) := by decide +kernel
theorem dX2_years_117 : decode cX2_years 117 = .ok (.aload_n 0, 1) := by decide +kernel
theorem dX2_years_118 : decode cX2_years 118 = .ok (.getfield 16, 3) := by decide +kernel
theorem dX2_years_121 : decode cX2_years 121 = .ok (.iload 8, 2) := by decide +kernel
theorem dX2_years_123 : decode cX2_years 123 = .ok (.iload 6, 2) := by decide +kernel
theorem dX2_years_125 : decode cX2_years 125 = .ok (.bipush 16, 2) := by decide +kernel
theorem dX2_years_127 : decode cX2_years 127 = .ok (.idiv, 1) := by decide +kernel
theorem dX2_years_128 : decode cX2_years 128 = .ok (.iconst 4, 1) := by decide +kernel
theorem dX2_years_129 : decode cX2_years 129 = .ok (.irem, 1) := by decide +kernel
theorem dX2_years_130 : decode cX2_years 130 = .ok (.invokevirtual 122, 3) := by decide +kernel
theorem dX2_years_133 : decode cX2_years 133 = .ok (.pop, 1) := by decide +kernel
theorem dX2_years_134 : decode cX2_years 134 = .ok (.iinc 5 1, 3) := by decide +kernel
theorem dX2_years_137 : decode cX2_years 137 = .ok (.iinc 7 1, 3) := by decide +kernel
theorem dX2_years_140 : decode cX2_years 140 = .ok (.goto (-74), 3) := by decide +kernel
theorem dX2_years_143 : decode cX2_years 143 = .ok (.iload_n 3, 1) := by decide +kernel
theorem dX2_years_144 : decode cX2_years 144 = .ok (.tableswitch 47 0 2 #[28, 31, 36], 28) := by decide +kernel
theorem dX2_years_172 : decode cX2_years 172 = .ok (.iload 5, 2) := by decide +kernel
theorem dX2_years_174 : decode cX2_years 174 = .ok (.ireturn, 1) := by decide +kernel
theorem dX2_years_175 : decode cX2_years 175 = .ok (.iload_n 2, 1) := by decide +kernel
theorem dX2_years_176 : decode cX2_years 176 = .ok (.iload 5, 2) := by decide +kernel
theorem dX2_years_178 : decode cX2_years 178 = .ok (.isub, 1) := by decide +kernel
theorem dX2_years_179 : decode cX2_years 179 = .ok (.ireturn, 1) := by decide +kernel
theorem dX2_years_180 : decode cX2_years 180 = .ok (.aload_n 0, 1) := by decide +kernel
theorem dX2_years_181 : decode cX2_years 181 = .ok (.getfield 16, 3) := by decide +kernel
theorem dX2_years_184 : decode cX2_years 184 = .ok (.invokevirtual 67, 3) := by decide +kernel
theorem dX2_years_187 : decode cX2_years 187 = .ok (.invokestatic 70, 3) := by decide +kernel
theorem dX2_years_190 : decode cX2_years 190 = .ok (.ireturn, 1) := by decide +kernel
theorem dX2_years_191 : decode cX2_years 191 = .ok (.aload_n 0, 1) := by decide +kernel
theorem dX2_years_192 : decode cX2_years 192 = .ok (.getfield 16, 3) := by decide +kernel
theorem dX2_years_195 : decode cX2_years 195 = .ok (.aload_n 0, 1) := by decide +kernel
theorem dX2_years_196 : decode cX2_years 196 = .ok (.getfield 16, 3) := by decide +kernel
theorem dX2_years_199 : decode cX2_years 199 = .ok (.invokevirtual 67, 3) := by decide +kernel
theorem dX2_years_202 : decode cX2_years 202 = .ok (.invokevirtual 128, 3) := by decide +kernel
theorem dX2_years_205 : decode cX2_years 205 = .ok (.ireturn, 1) := by decide +kernel
theorem dX2_image_0 : decode cX2_image 0 = .ok (.iload_n 1, 1) := by decide +kernel
theorem dX2_image_1 : decode cX2_image 1 = .ok (.iconst 0, 1) := by decide +kernel
theorem dX2_image_2 : decode cX2_image 2 = .ok (.iconst 1, 1) := by decide +kernel
theorem dX2_image_3 : decode cX2_image 3 = .ok (.invokestatic 46, 3) := by decide +kernel
theorem dX2_image_6 : decode cX2_image 6 = .ok (.ifCond .ne 6, 3) := by decide +kernel
theorem dX2_image_9 : decode cX2_image 9 = .ok (.bipush (-2), 2) := by decide +kernel
theorem dX2_image_11 : decode cX2_image 11 = .ok (.ireturn, 1) := by decide +kernel
theorem dX2_image_12 : decode cX2_image 12 = .ok (.aload_n 0, 1) := by decide +kernel
theorem dX2_image_13 : decode cX2_image 13 = .ok (.getfield 19, 3) := by decide +kernel
theorem dX2_image_16 : decode cX2_image 16 = .ok (.iload_n 1, 1) := by decide +kernel
theorem dX2_image_17 : decode cX2_image 17 = .ok (.aaload, 1) := by decide +kernel
theorem dX2_image_18 : decode cX2_image 18 = .ok (.astore_n 2, 1) := by decide +kernel
theorem dX2_image_19 : decode cX2_image 19 = .ok (.aload_n 2, 1) := by decide +kernel
theorem dX2_image_20 : decode cX2_image 20 = .ok (.ifnonnull 18, 3) := by decide +kernel
theorem dX2_image_23 : decode cX2_image 23 = .ok (.new 7, 3) := by decide +kernel
theorem dX2_image_26 : decode cX2_image 26 = .ok (.dup, 1) := by decide +kernel
theorem dX2_image_27 : decode cX2_image 27 = .ok (.invokespecial 9, 3) := by decide +kernel
theorem dX2_image_30 : decode cX2_image 30 = .ok (.astore_n 2, 1) := by decide +kernel
theorem dX2_image_31 : decode cX2_image 31 = .ok (.aload_n 0, 1) := by decide +kernel
theorem dX2_image_32 : decode cX2_image 32 = .ok (.getfield 19, 3) := by decide +kernel
theorem dX2_image_35 : decode cX2_image 35 = .ok (.iload_n 1, 1) := by decide +kernel
theorem dX2_image_36 : decode cX2_image 36 = .ok (.aload_n 2, 1) := by decide +kernel
theorem dX2_image_37 : decode cX2_image 37 = .ok (.aastore, 1) := by decide +kernel
theorem dX2_image_38 : decode cX2_image 38 = .ok (.aload_n 2, 1) := by decide +kernel
theorem dX2_image_39 : decode cX2_image 39 = .ok (.aload_n 0, 1) := by decide +kernel
theorem dX2_image_40 : decode cX2_image 40 = .ok (.getfield 10, 3) := by decide +kernel
theorem dX2_image_43 : decode cX2_image 43 = .ok (.invokevirtual 143, 3) := by decide +kernel
theorem dX2_image_46 : decode cX2_image 46 = .ok (.iconst 1, 1) := by decide +kernel
theorem dX2_image_47 : decode cX2_image 47 = .ok (.ireturn, 1) := by decide +kernel
theorem dX2_restore_0 : decode cX2_restore 0 = .ok (.iload_n 1, 1) := by decide +kernel
theorem dX2_restore_1 : decode cX2_restore 1 = .ok (.iconst 0, 1) := by decide +kernel
theorem dX2_restore_2 : decode cX2_restore 2 = .ok (.iconst 1, 1) := by decide +kernel
theorem dX2_restore_3 : decode cX2_restore 3 = .ok (.invokestatic 46, 3) := by decide +kernel
theorem dX2_restore_6 : decode cX2_restore 6 = .ok (.ifCond .ne 6, 3) := by decide +kernel
theorem dX2_restore_9 : decode cX2_restore 9 = .ok (.bipush (-2), 2) := by decide +kernel
theorem dX2_restore_11 : decode cX2_restore 11 = .ok (.ireturn, 1) := by decide +kernel
theorem dX2_restore_12 : decode cX2_restore 12 = .ok (.aload_n 0, 1) := by decide +kernel
theorem dX2_restore_13 : decode cX2_restore 13 = .ok (.getfield 19, 3) := by decide +kernel
theorem dX2_restore_16 : decode cX2_restore 16 = .ok (.iload_n 1, 1) := by decide +kernel
theorem dX2_restore_17 : decode cX2_restore 17 = .ok (.aaload, 1) := by decide +kernel
theorem dX2_restore_18 : decode cX2_restore 18 = .ok (.astore_n 2, 1) := by decide +kernel
theorem dX2_restore_19 : decode cX2_restore 19 = .ok (.aload_n 2, 1) := by decide +kernel
theorem dX2_restore_20 : decode cX2_restore 20 = .ok (.ifnonnull 6, 3) := by decide +kernel
theorem dX2_restore_23 : decode cX2_restore 23 = .ok (.bipush (-3), 2) := by decide +kernel
theorem dX2_restore_25 : decode cX2_restore 25 = .ok (.ireturn, 1) := by decide +kernel
theorem dX2_restore_26 : decode cX2_restore 26 = .ok (.aload_n 0, 1) := by decide +kernel
theorem dX2_restore_27 : decode cX2_restore 27 = .ok (.getfield 10, 3) := by decide +kernel
theorem dX2_restore_30 : decode cX2_restore 30 = .ok (.aload_n 2, 1) := by decide +kernel
theorem dX2_restore_31 : decode cX2_restore 31 = .ok (.invokevirtual 143, 3) := by decide +kernel
theorem dX2_restore_34 : decode cX2_restore 34 = .ok (.iconst 1, 1) := by decide +kernel
theorem dX2_restore_35 : decode cX2_restore 35 = .ok (.ireturn, 1) := by decide +kernel
theorem dX2_told_0 : decode cX2_told 0 = .ok (.iload_n 1, 1) := by decide +kernel
theorem dX2_told_1 : decode cX2_told 1 = .ok (.tableswitch 108 0 7 #[47, 52, 60, 68, 76, 84, 92, 100], 47) := by decide +kernel
theorem dX2_told_48 : decode cX2_told 48 = .ok (.aload_n 0, 1) := by decide +kernel
theorem dX2_told_49 : decode cX2_told 49 = .ok (.getfield 34, 3) := by decide +kernel
theorem dX2_told_52 : decode cX2_told 52 = .ok (.ireturn, 1) := by decide +kernel
theorem dX2_told_53 : decode cX2_told 53 = .ok (.aload_n 0, 1) := by decide +kernel
theorem dX2_told_54 : decode cX2_told 54 = .ok (.getfield 10, 3) := by decide +kernel
theorem dX2_told_57 : decode cX2_told 57 = .ok (.getfield 204, 3) := by decide +kernel
theorem dX2_told_60 : decode cX2_told 60 = .ok (.ireturn, 1) := by decide +kernel
theorem dX2_told_61 : decode cX2_told 61 = .ok (.aload_n 0, 1) := by decide +kernel
theorem dX2_told_62 : decode cX2_told 62 = .ok (.getfield 10, 3) := by decide +kernel
theorem dX2_told_65 : decode cX2_told 65 = .ok (.getfield 207, 3) := by decide +kernel
theorem dX2_told_68 : decode cX2_told 68 = .ok (.ireturn, 1) := by decide +kernel
theorem dX2_told_69 : decode cX2_told 69 = .ok (.aload_n 0, 1) := by decide +kernel
theorem dX2_told_70 : decode cX2_told 70 = .ok (.getfield 10, 3) := by decide +kernel
theorem dX2_told_73 : decode cX2_told 73 = .ok (.invokevirtual 67, 3) := by decide +kernel
theorem dX2_told_76 : decode cX2_told 76 = .ok (.ireturn, 1) := by decide +kernel
theorem dX2_told_77 : decode cX2_told 77 = .ok (.aload_n 0, 1) := by decide +kernel
theorem dX2_told_78 : decode cX2_told 78 = .ok (.getfield 10, 3) := by decide +kernel
theorem dX2_told_81 : decode cX2_told 81 = .ok (.getfield 90, 3) := by decide +kernel
theorem dX2_told_84 : decode cX2_told 84 = .ok (.ireturn, 1) := by decide +kernel
theorem dX2_told_85 : decode cX2_told 85 = .ok (.aload_n 0, 1) := by decide +kernel
theorem dX2_told_86 : decode cX2_told 86 = .ok (.getfield 10, 3) := by decide +kernel
theorem dX2_told_89 : decode cX2_told 89 = .ok (.getfield 93, 3) := by decide +kernel
theorem dX2_told_92 : decode cX2_told 92 = .ok (.ireturn, 1) := by decide +kernel
theorem dX2_told_93 : decode cX2_told 93 = .ok (.aload_n 0, 1) := by decide +kernel
theorem dX2_told_94 : decode cX2_told 94 = .ok (.getfield 10, 3) := by decide +kernel
theorem dX2_told_97 : decode cX2_told 97 = .ok (.getfield 96, 3) := by decide +kernel
theorem dX2_told_100 : decode cX2_told 100 = .ok (.ireturn, 1) := by decide +kernel
theorem dX2_told_101 : decode cX2_told 101 = .ok (.aload_n 0, 1) := by decide +kernel
theorem dX2_told_102 : decode cX2_told 102 = .ok (.getfield 10, 3) := by decide +kernel
theorem dX2_told_105 : decode cX2_told 105 = .ok (.invokevirtual 162, 3) := by decide +kernel
theorem dX2_told_108 : decode cX2_told 108 = .ok (.ireturn, 1) := by decide +kernel
theorem dX2_told_109 : decode cX2_told 109 = .ok (.bipush (-2), 2) := by decide +kernel
theorem dX2_told_111 : decode cX2_told 111 = .ok (.ireturn, 1) := by decide +kernel
theorem dX2_isWithin_0 : decode cX2_isWithin 0 = .ok (.iload_n 0, 1) := by decide +kernel
theorem dX2_isWithin_1 : decode cX2_isWithin 1 = .ok (.iload_n 1, 1) := by decide +kernel
theorem dX2_isWithin_2 : decode cX2_isWithin 2 = .ok (.if_icmp .lt 12, 3) := by decide +kernel
theorem dX2_isWithin_5 : decode cX2_isWithin 5 = .ok (.iload_n 0, 1) := by decide +kernel
theorem dX2_isWithin_6 : decode cX2_isWithin 6 = .ok (.iload_n 2, 1) := by decide +kernel
theorem dX2_isWithin_7 : decode cX2_isWithin 7 = .ok (.if_icmp .gt 7, 3) := by decide +kernel
theorem dX2_isWithin_10 : decode cX2_isWithin 10 = .ok (.iconst 1, 1) := by decide +kernel
theorem dX2_isWithin_11 : decode cX2_isWithin 11 = .ok (.goto 4, 3) := by decide +kernel
theorem dX2_isWithin_14 : decode cX2_isWithin 14 = .ok (.iconst 0, 1) := by decide +kernel
theorem dX2_isWithin_15 : decode cX2_isWithin 15 = .ok (.ireturn, 1) := by decide +kernel
theorem dX2_isFamily_0 : decode cX2_isFamily 0 = .ok (.iload_n 0, 1) := by decide +kernel
theorem dX2_isFamily_1 : decode cX2_isFamily 1 = .ok (.iconst 0, 1) := by decide +kernel
theorem dX2_isFamily_2 : decode cX2_isFamily 2 = .ok (.iconst 3, 1) := by decide +kernel
theorem dX2_isFamily_3 : decode cX2_isFamily 3 = .ok (.invokestatic 46, 3) := by decide +kernel
theorem dX2_isFamily_6 : decode cX2_isFamily 6 = .ok (.ireturn, 1) := by decide +kernel
theorem dX2_has_0 : decode cX2_has 0 = .ok (.iload_n 0, 1) := by decide +kernel
theorem dX2_has_1 : decode cX2_has 1 = .ok (.iload_n 1, 1) := by decide +kernel
theorem dX2_has_2 : decode cX2_has 2 = .ok (.ishr, 1) := by decide +kernel
theorem dX2_has_3 : decode cX2_has 3 = .ok (.iconst 1, 1) := by decide +kernel
theorem dX2_has_4 : decode cX2_has 4 = .ok (.iand, 1) := by decide +kernel
theorem dX2_has_5 : decode cX2_has 5 = .ok (.ifCond .eq 7, 3) := by decide +kernel
theorem dX2_has_8 : decode cX2_has 8 = .ok (.iconst 1, 1) := by decide +kernel
theorem dX2_has_9 : decode cX2_has 9 = .ok (.goto 4, 3) := by decide +kernel
theorem dX2_has_12 : decode cX2_has 12 = .ok (.iconst 0, 1) := by decide +kernel
theorem dX2_has_13 : decode cX2_has 13 = .ok (.ireturn, 1) := by decide +kernel
theorem dX2_canStand_0 : decode cX2_canStand 0 = .ok (.iload_n 0, 1) := by decide +kernel
theorem dX2_canStand_1 : decode cX2_canStand 1 = .ok (.bipush 46, 2) := by decide +kernel
theorem dX2_canStand_3 : decode cX2_canStand 3 = .ok (.if_icmp .eq 13, 3) := by decide +kernel
theorem dX2_canStand_6 : decode cX2_canStand 6 = .ok (.iload_n 0, 1) := by decide +kernel
theorem dX2_canStand_7 : decode cX2_canStand 7 = .ok (.bipush 97, 2) := by decide +kernel
theorem dX2_canStand_9 : decode cX2_canStand 9 = .ok (.isub, 1) := by decide +kernel
theorem dX2_canStand_10 : decode cX2_canStand 10 = .ok (.invokestatic 83, 3) := by decide +kernel
theorem dX2_canStand_13 : decode cX2_canStand 13 = .ok (.ifCond .eq 7, 3) := by decide +kernel
theorem dX2_canStand_16 : decode cX2_canStand 16 = .ok (.iconst 1, 1) := by decide +kernel
theorem dX2_canStand_17 : decode cX2_canStand 17 = .ok (.goto 4, 3) := by decide +kernel
theorem dX2_canStand_20 : decode cX2_canStand 20 = .ok (.iconst 0, 1) := by decide +kernel
theorem dX2_canStand_21 : decode cX2_canStand 21 = .ok (.ireturn, 1) := by decide +kernel
theorem dX2_joinAll_0 : decode cX2_joinAll 0 = .ok (.iload_n 2, 1) := by decide +kernel
theorem dX2_joinAll_1 : decode cX2_joinAll 1 = .ok (.istore 4, 2) := by decide +kernel
theorem dX2_joinAll_3 : decode cX2_joinAll 3 = .ok (.bipush (-6), 2) := by decide +kernel
theorem dX2_joinAll_5 : decode cX2_joinAll 5 = .ok (.istore 5, 2) := by decide +kernel
theorem dX2_joinAll_7 : decode cX2_joinAll 7 = .ok (.iconst 0, 1) := by decide +kernel
theorem dX2_joinAll_8 : decode cX2_joinAll 8 = .ok (.istore 6, 2) := by decide +kernel
theorem dX2_joinAll_10 : decode cX2_joinAll 10 = .ok (.iload 6, 2) := by decide +kernel
theorem dX2_joinAll_12 : decode cX2_joinAll 12 = .ok (.aload_n 0, 1) := by decide +kernel
theorem dX2_joinAll_13 : decode cX2_joinAll 13 = .ok (.getfield 16, 3) := by decide +kernel
theorem dX2_joinAll_16 : decode cX2_joinAll 16 = .ok (.invokevirtual 50, 3) := by decide +kernel
theorem dX2_joinAll_19 : decode cX2_joinAll 19 = .ok (.if_icmp .ge 104, 3) := by decide +kernel
theorem dX2_joinAll_22 : decode cX2_joinAll 22 = .ok (.iconst 0, 1) := by decide +kernel
theorem dX2_joinAll_23 : decode cX2_joinAll 23 = .ok (.istore 7, 2) := by decide +kernel
theorem dX2_joinAll_25 : decode cX2_joinAll 25 = .ok (.iload 7, 2) := by decide +kernel
theorem dX2_joinAll_27 : decode cX2_joinAll 27 = .ok (.iconst 2, 1) := by decide +kernel
theorem dX2_joinAll_28 : decode cX2_joinAll 28 = .ok (.if_icmp .ge 89, 3) := by decide +kernel
theorem dX2_joinAll_31 : decode cX2_joinAll 31 = .ok (.iload 7, 2) := by decide +kernel
theorem dX2_joinAll_33 : decode cX2_joinAll 33 = .ok (.ifCond .ne 10, 3) := by decide +kernel
theorem dX2_joinAll_36 : decode cX2_joinAll 36 = .ok (.iload 6, 2) := by decide +kernel
theorem dX2_joinAll_38 : decode cX2_joinAll 38 = .ok (.iconst 1, 1) := by decide +kernel
theorem dX2_joinAll_39 : decode cX2_joinAll 39 = .ok (.iadd, 1) := by decide +kernel
theorem dX2_joinAll_40 : decode cX2_joinAll 40 = .ok (.goto 13, 3) := by decide +kernel
theorem dX2_joinAll_43 : decode cX2_joinAll 43 = .ok (.iload 6, 2) := by decide +kernel
theorem dX2_joinAll_45 : decode cX2_joinAll 45 = .ok (.aload_n 0, 1) := by decide +kernel
theorem dX2_joinAll_46 : decode cX2_joinAll 46 = .ok (.getfield 16, 3) := by decide +kernel
theorem dX2_joinAll_49 : decode cX2_joinAll 49 = .ok (.getfield 207, 3) := by decide +kernel
theorem dX2_joinAll_52 : decode cX2_joinAll 52 = .ok (.iadd, 1) := by decide +kernel
theorem dX2_joinAll_53 : decode cX2_joinAll 53 = .ok (.istore 8, 2) := by decide +kernel
theorem dX2_joinAll_55 : decode cX2_joinAll 55 = .ok (.aload_n 0, 1) := by decide +kernel
theorem dX2_joinAll_56 : decode cX2_joinAll 56 = .ok (.iload 6, 2) := by decide +kernel
theorem dX2_joinAll_58 : decode cX2_joinAll 58 = .ok (.iload 8, 2) := by decide +kernel
theorem dX2_joinAll_60 : decode cX2_joinAll 60 = .ok (.invokevirtual 210, 3) := by decide +kernel
theorem dX2_joinAll_63 : decode cX2_joinAll 63 = .ok (.ifCond .eq 48, 3) := by decide +kernel
theorem dX2_joinAll_66 : decode cX2_joinAll 66 = .ok (.aload_n 0, 1) := by decide +kernel
theorem dX2_joinAll_67 : decode cX2_joinAll 67 = .ok (.getfield 16, 3) := by decide +kernel
theorem dX2_joinAll_70 : decode cX2_joinAll 70 = .ok (.iload 6, 2) := by decide +kernel
theorem dX2_joinAll_72 : decode cX2_joinAll 72 = .ok (.iload 8, 2) := by decide +kernel
theorem dX2_joinAll_74 : decode cX2_joinAll 74 = .ok (.invokevirtual 112, 3) := by decide +kernel
theorem dX2_joinAll_77 : decode cX2_joinAll 77 = .ok (.iload_n 1, 1) := by decide +kernel
theorem dX2_joinAll_78 : decode cX2_joinAll 78 = .ok (.if_icmp .ne 33, 3) := by decide +kernel
theorem dX2_joinAll_81 : decode cX2_joinAll 81 = .ok (.aload_n 0, 1) := by decide +kernel
theorem dX2_joinAll_82 : decode cX2_joinAll 82 = .ok (.getfield 16, 3) := by decide +kernel
theorem dX2_joinAll_85 : decode cX2_joinAll 85 = .ok (.iload 6, 2) := by decide +kernel
theorem dX2_joinAll_87 : decode cX2_joinAll 87 = .ok (.iload 8, 2) := by decide +kernel
theorem dX2_joinAll_89 : decode cX2_joinAll 89 = .ok (.invokevirtual 109, 3) := by decide +kernel
theorem dX2_joinAll_92 : decode cX2_joinAll 92 = .ok (.iload 4, 2) := by decide +kernel
theorem dX2_joinAll_94 : decode cX2_joinAll 94 = .ok (.iload_n 3, 1) := by decide +kernel
theorem dX2_joinAll_95 : decode cX2_joinAll 95 = .ok (.if_icmp .ne 13, 3) := by decide +kernel
theorem dX2_joinAll_98 : decode cX2_joinAll 98 = .ok (.bipush 16, 2) := by decide +kernel
theorem dX2_joinAll_100 : decode cX2_joinAll 100 = .ok (.iload 6, 2) := by decide +kernel
theorem dX2_joinAll_102 : decode cX2_joinAll 102 = .ok (.imul, 1) := by decide +kernel
theorem dX2_joinAll_103 : decode cX2_joinAll 103 = .ok (.iload 8, 2) := by decide +kernel
theorem dX2_joinAll_105 : decode cX2_joinAll 105 = .ok (.iadd, 1) := by decide +kernel
theorem dX2_joinAll_106 : decode cX2_joinAll 106 = .ok (.istore 5, 2) := by decide +kernel
theorem dX2_joinAll_108 : decode cX2_joinAll 108 = .ok (.iinc 4 1, 3) := by decide +kernel
theorem dX2_joinAll_111 : decode cX2_joinAll 111 = .ok (.iinc 7 1, 3) := by decide +kernel
theorem dX2_joinAll_114 : decode cX2_joinAll 114 = .ok (.goto (-89), 3) := by decide +kernel
theorem dX2_joinAll_117 : decode cX2_joinAll 117 = .ok (.iinc 6 1, 3) := by decide +kernel
theorem dX2_joinAll_120 : decode cX2_joinAll 120 = .ok (.goto (-110), 3) := by decide +kernel
theorem dX2_joinAll_123 : decode cX2_joinAll 123 = .ok (.iload 5, 2) := by decide +kernel
theorem dX2_joinAll_125 : decode cX2_joinAll 125 = .ok (.ireturn, 1) := by decide +kernel
theorem dX2_joinsPieces_0 : decode cX2_joinsPieces 0 = .ok (.aload_n 0, 1) := by decide +kernel
theorem dX2_joinsPieces_1 : decode cX2_joinsPieces 1 = .ok (.getfield 16, 3) := by decide +kernel
theorem dX2_joinsPieces_4 : decode cX2_joinsPieces 4 = .ok (.iload_n 2, 1) := by decide +kernel
theorem dX2_joinsPieces_5 : decode cX2_joinsPieces 5 = .ok (.invokevirtual 76, 3) := by decide +kernel
theorem dX2_joinsPieces_8 : decode cX2_joinsPieces 8 = .ok (.ifCond .eq 55, 3) := by decide +kernel
theorem dX2_joinsPieces_11 : decode cX2_joinsPieces 11 = .ok (.aload_n 0, 1) := by decide +kernel
theorem dX2_joinsPieces_12 : decode cX2_joinsPieces 12 = .ok (.getfield 16, 3) := by decide +kernel
theorem dX2_joinsPieces_15 : decode cX2_joinsPieces 15 = .ok (.iload_n 1, 1) := by decide +kernel
theorem dX2_joinsPieces_16 : decode cX2_joinsPieces 16 = .ok (.iload_n 2, 1) := by decide +kernel
theorem dX2_joinsPieces_17 : decode cX2_joinsPieces 17 = .ok (.invokevirtual 99, 3) := by decide +kernel
theorem dX2_joinsPieces_20 : decode cX2_joinsPieces 20 = .ok (.ifCond .eq 43, 3) := by decide +kernel
theorem dX2_joinsPieces_23 : decode cX2_joinsPieces 23 = .ok (.aload_n 0, 1) := by decide +kernel
theorem dX2_joinsPieces_24 : decode cX2_joinsPieces 24 = .ok (.getfield 16, 3) := by decide +kernel
theorem dX2_joinsPieces_27 : decode cX2_joinsPieces 27 = .ok (.iload_n 1, 1) := by decide +kernel
theorem dX2_joinsPieces_28 : decode cX2_joinsPieces 28 = .ok (.iload_n 2, 1) := by decide +kernel
theorem dX2_joinsPieces_29 : decode cX2_joinsPieces 29 = .ok (.invokevirtual 106, 3) := by decide +kernel
theorem dX2_joinsPieces_32 : decode cX2_joinsPieces 32 = .ok (.ifCond .ne 31, 3) := by decide +kernel
theorem dX2_joinsPieces_35 : decode cX2_joinsPieces 35 = .ok (.aload_n 0, 1) := by decide +kernel
theorem dX2_joinsPieces_36 : decode cX2_joinsPieces 36 = .ok (.getfield 16, 3) := by decide +kernel
theorem dX2_joinsPieces_39 : decode cX2_joinsPieces 39 = .ok (.iconst 1, 1) := by decide +kernel
theorem dX2_joinsPieces_40 : decode cX2_joinsPieces 40 = .ok (.iload_n 1, 1) := by decide +kernel
theorem dX2_joinsPieces_41 : decode cX2_joinsPieces 41 = .ok (.ishl, 1) := by decide +kernel
theorem dX2_joinsPieces_42 : decode cX2_joinsPieces 42 = .ok (.aload_n 0, 1) := by decide +kernel
theorem dX2_joinsPieces_43 : decode cX2_joinsPieces 43 = .ok (.getfield 16, 3) := by decide +kernel
theorem dX2_joinsPieces_46 : decode cX2_joinsPieces 46 = .ok (.invokevirtual 67, 3) := by decide +kernel
theorem dX2_joinsPieces_49 : decode cX2_joinsPieces 49 = .ok (.invokevirtual 131, 3) := by decide +kernel
theorem dX2_joinsPieces_52 : decode cX2_joinsPieces 52 = .ok (.iload_n 2, 1) := by decide +kernel
theorem dX2_joinsPieces_53 : decode cX2_joinsPieces 53 = .ok (.invokestatic 194, 3) := by decide +kernel
theorem dX2_joinsPieces_56 : decode cX2_joinsPieces 56 = .ok (.ifCond .ne 7, 3) := by decide +kernel
theorem dX2_joinsPieces_59 : decode cX2_joinsPieces 59 = .ok (.iconst 1, 1) := by decide +kernel
theorem dX2_joinsPieces_60 : decode cX2_joinsPieces 60 = .ok (.goto 4, 3) := by decide +kernel
theorem dX2_joinsPieces_63 : decode cX2_joinsPieces 63 = .ok (.iconst 0, 1) := by decide +kernel
theorem dX2_joinsPieces_64 : decode cX2_joinsPieces 64 = .ok (.ireturn, 1) := by decide +kernel
theorem dX2_isPart_0 : decode cX2_isPart 0 = .ok (.iload_n 0, 1) := by decide +kernel
theorem dX2_isPart_1 : decode cX2_isPart 1 = .ok (.iload_n 1, 1) := by decide +kernel
theorem dX2_isPart_2 : decode cX2_isPart 2 = .ok (.iconst (-1), 1) := by decide +kernel
theorem dX2_isPart_3 : decode cX2_isPart 3 = .ok (.ixor, 1) := by decide +kernel
theorem dX2_isPart_4 : decode cX2_isPart 4 = .ok (.iand, 1) := by decide +kernel
theorem dX2_isPart_5 : decode cX2_isPart 5 = .ok (.ifCond .ne 13, 3) := by decide +kernel
theorem dX2_isPart_8 : decode cX2_isPart 8 = .ok (.iload_n 0, 1) := by decide +kernel
theorem dX2_isPart_9 : decode cX2_isPart 9 = .ok (.iload_n 2, 1) := by decide +kernel
theorem dX2_isPart_10 : decode cX2_isPart 10 = .ok (.iand, 1) := by decide +kernel
theorem dX2_isPart_11 : decode cX2_isPart 11 = .ok (.ifCond .eq 7, 3) := by decide +kernel
theorem dX2_isPart_14 : decode cX2_isPart 14 = .ok (.iconst 1, 1) := by decide +kernel
theorem dX2_isPart_15 : decode cX2_isPart 15 = .ok (.goto 4, 3) := by decide +kernel
theorem dX2_isPart_18 : decode cX2_isPart 18 = .ok (.iconst 0, 1) := by decide +kernel
theorem dX2_isPart_19 : decode cX2_isPart 19 = .ok (.ireturn, 1) := by decide +kernel
theorem dX2_unlikeness_0 : decode cX2_unlikeness 0 = .ok (.iconst 2, 1) := by decide +kernel
theorem dX2_unlikeness_1 : decode cX2_unlikeness 1 = .ok (.iload_n 0, 1) := by decide +kernel
theorem dX2_unlikeness_2 : decode cX2_unlikeness 2 = .ok (.invokestatic 70, 3) := by decide +kernel
theorem dX2_unlikeness_5 : decode cX2_unlikeness 5 = .ok (.imul, 1) := by decide +kernel
theorem dX2_unlikeness_6 : decode cX2_unlikeness 6 = .ok (.iload_n 1, 1) := by decide +kernel
theorem dX2_unlikeness_7 : decode cX2_unlikeness 7 = .ok (.invokestatic 70, 3) := by decide +kernel
theorem dX2_unlikeness_10 : decode cX2_unlikeness 10 = .ok (.isub, 1) := by decide +kernel
theorem dX2_unlikeness_11 : decode cX2_unlikeness 11 = .ok (.invokestatic 213, 3) := by decide +kernel
theorem dX2_unlikeness_14 : decode cX2_unlikeness 14 = .ok (.ireturn, 1) := by decide +kernel
theorem dX2_refusalOfSleepers_0 : decode cX2_refusalOfSleepers 0 = .ok (.iload_n 1, 1) := by decide +kernel
theorem dX2_refusalOfSleepers_1 : decode cX2_refusalOfSleepers 1 = .ok (.invokestatic 216, 3) := by decide +kernel
theorem dX2_refusalOfSleepers_4 : decode cX2_refusalOfSleepers 4 = .ok (.ifCond .eq 39, 3) := by decide +kernel
theorem dX2_refusalOfSleepers_7 : decode cX2_refusalOfSleepers 7 = .ok (.iload_n 2, 1) := by decide +kernel
theorem dX2_refusalOfSleepers_8 : decode cX2_refusalOfSleepers 8 = .ok (.invokestatic 216, 3) := by decide +kernel
theorem dX2_refusalOfSleepers_11 : decode cX2_refusalOfSleepers 11 = .ok (.ifCond .eq 32, 3) := by decide +kernel
theorem dX2_refusalOfSleepers_14 : decode cX2_refusalOfSleepers 14 = .ok (.iload_n 3, 1) := by decide +kernel
theorem dX2_refusalOfSleepers_15 : decode cX2_refusalOfSleepers 15 = .ok (.invokestatic 216, 3) := by decide +kernel
theorem dX2_refusalOfSleepers_18 : decode cX2_refusalOfSleepers 18 = .ok (.ifCond .eq 25, 3) := by decide +kernel
theorem dX2_refusalOfSleepers_21 : decode cX2_refusalOfSleepers 21 = .ok (.iload 4, 2) := by decide +kernel
theorem dX2_refusalOfSleepers_23 : decode cX2_refusalOfSleepers 23 = .ok (.invokestatic 216, 3) := by decide +kernel
theorem dX2_refusalOfSleepers_26 : decode cX2_refusalOfSleepers 26 = .ok (.ifCond .eq 17, 3) := by decide +kernel
theorem dX2_refusalOfSleepers_29 : decode cX2_refusalOfSleepers 29 = .ok (.iload_n 1, 1) := by decide +kernel
theorem dX2_refusalOfSleepers_30 : decode cX2_refusalOfSleepers 30 = .ok (.iload_n 2, 1) := by decide +kernel
theorem dX2_refusalOfSleepers_31 : decode cX2_refusalOfSleepers 31 = .ok (.iadd, 1) := by decide +kernel
theorem dX2_refusalOfSleepers_32 : decode cX2_refusalOfSleepers 32 = .ok (.iload_n 3, 1) := by decide +kernel
theorem dX2_refusalOfSleepers_33 : decode cX2_refusalOfSleepers 33 = .ok (.iadd, 1) := by decide +kernel
theorem dX2_refusalOfSleepers_34 : decode cX2_refusalOfSleepers 34 = .ok (.iload 4, 2) := by decide +kernel
theorem dX2_refusalOfSleepers_36 : decode cX2_refusalOfSleepers 36 = .ok (.iadd, 1) := by decide +kernel
theorem dX2_refusalOfSleepers_37 : decode cX2_refusalOfSleepers 37 = .ok (.invokestatic 216, 3) := by decide +kernel
theorem dX2_refusalOfSleepers_40 : decode cX2_refusalOfSleepers 40 = .ok (.ifCond .ne 6, 3) := by decide +kernel
theorem dX2_refusalOfSleepers_43 : decode cX2_refusalOfSleepers 43 = .ok (.bipush (-2), 2) := by decide +kernel
theorem dX2_refusalOfSleepers_45 : decode cX2_refusalOfSleepers 45 = .ok (.ireturn, 1) := by decide +kernel
theorem dX2_refusalOfSleepers_46 : decode cX2_refusalOfSleepers 46 = .ok (.aload_n 0, 1) := by decide +kernel
theorem dX2_refusalOfSleepers_47 : decode cX2_refusalOfSleepers 47 = .ok (.getfield 10, 3) := by decide +kernel
theorem dX2_refusalOfSleepers_50 : decode cX2_refusalOfSleepers 50 = .ok (.invokevirtual 50, 3) := by decide +kernel
theorem dX2_refusalOfSleepers_53 : decode cX2_refusalOfSleepers 53 = .ok (.bipush 9, 2) := by decide +kernel
theorem dX2_refusalOfSleepers_55 : decode cX2_refusalOfSleepers 55 = .ok (.if_icmp .le 8, 3) := by decide +kernel
theorem dX2_refusalOfSleepers_58 : decode cX2_refusalOfSleepers 58 = .ok (.bipush (-4), 2) := by decide +kernel
theorem dX2_refusalOfSleepers_60 : decode cX2_refusalOfSleepers 60 = .ok (.goto 4, 3) := by decide +kernel
theorem dX2_refusalOfSleepers_63 : decode cX2_refusalOfSleepers 63 = .ok (.iconst 0, 1) := by decide +kernel
theorem dX2_refusalOfSleepers_64 : decode cX2_refusalOfSleepers 64 = .ok (.ireturn, 1) := by decide +kernel
theorem dX2_isCrowd_0 : decode cX2_isCrowd 0 = .ok (.iload_n 0, 1) := by decide +kernel
theorem dX2_isCrowd_1 : decode cX2_isCrowd 1 = .ok (.iconst 0, 1) := by decide +kernel
theorem dX2_isCrowd_2 : decode cX2_isCrowd 2 = .ok (.bipush 8, 2) := by decide +kernel
theorem dX2_isCrowd_4 : decode cX2_isCrowd 4 = .ok (.invokestatic 46, 3) := by decide +kernel
theorem dX2_isCrowd_7 : decode cX2_isCrowd 7 = .ok (.ireturn, 1) := by decide +kernel
theorem dX2_clearedOrders_0 : decode cX2_clearedOrders 0 = .ok (.iconst 1, 1) := by decide +kernel
theorem dX2_clearedOrders_1 : decode cX2_clearedOrders 1 = .ok (.aload_n 0, 1) := by decide +kernel
theorem dX2_clearedOrders_2 : decode cX2_clearedOrders 2 = .ok (.getfield 10, 3) := by decide +kernel
theorem dX2_clearedOrders_5 : decode cX2_clearedOrders 5 = .ok (.invokevirtual 50, 3) := by decide +kernel
theorem dX2_clearedOrders_8 : decode cX2_clearedOrders 8 = .ok (.bipush 16, 2) := by decide +kernel
theorem dX2_clearedOrders_10 : decode cX2_clearedOrders 10 = .ok (.invokestatic 150, 3) := by decide +kernel
theorem dX2_clearedOrders_13 : decode cX2_clearedOrders 13 = .ok (.ishl, 1) := by decide +kernel
theorem dX2_clearedOrders_14 : decode cX2_clearedOrders 14 = .ok (.istore_n 1, 1) := by decide +kernel
theorem dX2_clearedOrders_15 : decode cX2_clearedOrders 15 = .ok (.aload_n 0, 1) := by decide +kernel
theorem dX2_clearedOrders_16 : decode cX2_clearedOrders 16 = .ok (.getfield 38, 3) := by decide +kernel
theorem dX2_clearedOrders_19 : decode cX2_clearedOrders 19 = .ok (.astore_n 2, 1) := by decide +kernel
theorem dX2_clearedOrders_20 : decode cX2_clearedOrders 20 = .ok (.aload_n 2, 1) := by decide +kernel
theorem dX2_clearedOrders_21 : decode cX2_clearedOrders 21 = .ok (.ifnull 9, 3) := by decide +kernel
theorem dX2_clearedOrders_24 : decode cX2_clearedOrders 24 = .ok (.aload_n 2, 1) := by decide +kernel
theorem dX2_clearedOrders_25 : decode cX2_clearedOrders 25 = .ok (.arraylength, 1) := by decide +kernel
theorem dX2_clearedOrders_26 : decode cX2_clearedOrders 26 = .ok (.iload_n 1, 1) := by decide +kernel
theorem dX2_clearedOrders_27 : decode cX2_clearedOrders 27 = .ok (.if_icmp .ge 15, 3) := by decide +kernel
theorem dX2_clearedOrders_30 : decode cX2_clearedOrders 30 = .ok (.iload_n 1, 1) := by decide +kernel
theorem dX2_clearedOrders_31 : decode cX2_clearedOrders 31 = .ok (.newarray .long, 2) := by decide +kernel
theorem dX2_clearedOrders_33 : decode cX2_clearedOrders 33 = .ok (.astore_n 2, 1) := by decide +kernel
theorem dX2_clearedOrders_34 : decode cX2_clearedOrders 34 = .ok (.aload_n 0, 1) := by decide +kernel
theorem dX2_clearedOrders_35 : decode cX2_clearedOrders 35 = .ok (.aload_n 2, 1) := by decide +kernel
theorem dX2_clearedOrders_36 : decode cX2_clearedOrders 36 = .ok (.putfield 38, 3) := by decide +kernel
theorem dX2_clearedOrders_39 : decode cX2_clearedOrders 39 = .ok (.goto 8, 3) := by decide +kernel
theorem dX2_clearedOrders_42 : decode cX2_clearedOrders 42 = .ok (.aload_n 2, 1) := by decide +kernel
theorem dX2_clearedOrders_43 : decode cX2_clearedOrders 43 = .ok (.lconst 0, 1) := by decide +kernel
theorem dX2_clearedOrders_44 : decode cX2_clearedOrders 44 = .ok (.invokestatic 219, 3) := by decide +kernel
theorem dX2_clearedOrders_47 : decode cX2_clearedOrders 47 = .ok (.aload_n 2, 1) := by decide +kernel
theorem dX2_clearedOrders_48 : decode cX2_clearedOrders 48 = .ok (.areturn, 1) := by decide +kernel
theorem dJ6_bitCount_0f7a4_0 : decode cJ6_bitCount_0f7a4 0 = .ok (.iload_n 0, 1) := by decide +kernel
theorem dJ6_bitCount_0f7a4_1 : decode cJ6_bitCount_0f7a4 1 = .ok (.iload_n 0, 1) := by decide +kernel
theorem dJ6_bitCount_0f7a4_2 : decode cJ6_bitCount_0f7a4 2 = .ok (.iconst 1, 1) := by decide +kernel
theorem dJ6_bitCount_0f7a4_3 : decode cJ6_bitCount_0f7a4 3 = .ok (.iushr, 1) := by decide +kernel
theorem dJ6_bitCount_0f7a4_4 : decode cJ6_bitCount_0f7a4 4 = .ok (.ldc_w 265, 3) := by decide +kernel
theorem dJ6_bitCount_0f7a4_7 : decode cJ6_bitCount_0f7a4 7 = .ok (.iand, 1) := by decide +kernel
theorem dJ6_bitCount_0f7a4_8 : decode cJ6_bitCount_0f7a4 8 = .ok (.isub, 1) := by decide +kernel
theorem dJ6_bitCount_0f7a4_9 : decode cJ6_bitCount_0f7a4 9 = .ok (.istore_n 0, 1) := by decide +kernel
theorem dJ6_bitCount_0f7a4_10 : decode cJ6_bitCount_0f7a4 10 = .ok (.iload_n 0, 1) := by decide +kernel
theorem dJ6_bitCount_0f7a4_11 : decode cJ6_bitCount_0f7a4 11 = .ok (.ldc_w 266, 3) := by decide +kernel
theorem dJ6_bitCount_0f7a4_14 : decode cJ6_bitCount_0f7a4 14 = .ok (.iand, 1) := by decide +kernel
theorem dJ6_bitCount_0f7a4_15 : decode cJ6_bitCount_0f7a4 15 = .ok (.iload_n 0, 1) := by decide +kernel
theorem dJ6_bitCount_0f7a4_16 : decode cJ6_bitCount_0f7a4 16 = .ok (.iconst 2, 1) := by decide +kernel
theorem dJ6_bitCount_0f7a4_17 : decode cJ6_bitCount_0f7a4 17 = .ok (.iushr, 1) := by decide +kernel
theorem dJ6_bitCount_0f7a4_18 : decode cJ6_bitCount_0f7a4 18 = .ok (.ldc_w 266, 3) := by decide +kernel
theorem dJ6_bitCount_0f7a4_21 : decode cJ6_bitCount_0f7a4 21 = .ok (.iand, 1) := by decide +kernel
theorem dJ6_bitCount_0f7a4_22 : decode cJ6_bitCount_0f7a4 22 = .ok (.iadd, 1) := by decide +kernel
theorem dJ6_bitCount_0f7a4_23 : decode cJ6_bitCount_0f7a4 23 = .ok (.istore_n 0, 1) := by decide +kernel
theorem dJ6_bitCount_0f7a4_24 : decode cJ6_bitCount_0f7a4 24 = .ok (.iload_n 0, 1) := by decide +kernel
theorem dJ6_bitCount_0f7a4_25 : decode cJ6_bitCount_0f7a4 25 = .ok (.iload_n 0, 1) := by decide +kernel
theorem dJ6_bitCount_0f7a4_26 : decode cJ6_bitCount_0f7a4 26 = .ok (.iconst 4, 1) := by decide +kernel
theorem dJ6_bitCount_0f7a4_27 : decode cJ6_bitCount_0f7a4 27 = .ok (.iushr, 1) := by decide +kernel
theorem dJ6_bitCount_0f7a4_28 : decode cJ6_bitCount_0f7a4 28 = .ok (.iadd, 1) := by decide +kernel
theorem dJ6_bitCount_0f7a4_29 : decode cJ6_bitCount_0f7a4 29 = .ok (.ldc_w 267, 3) := by decide +kernel
theorem dJ6_bitCount_0f7a4_32 : decode cJ6_bitCount_0f7a4 32 = .ok (.iand, 1) := by decide +kernel
theorem dJ6_bitCount_0f7a4_33 : decode cJ6_bitCount_0f7a4 33 = .ok (.istore_n 0, 1) := by decide +kernel
theorem dJ6_bitCount_0f7a4_34 : decode cJ6_bitCount_0f7a4 34 = .ok (.iload_n 0, 1) := by decide +kernel
theorem dJ6_bitCount_0f7a4_35 : decode cJ6_bitCount_0f7a4 35 = .ok (.iload_n 0, 1) := by decide +kernel
theorem dJ6_bitCount_0f7a4_36 : decode cJ6_bitCount_0f7a4 36 = .ok (.bipush 8, 2) := by decide +kernel
theorem dJ6_bitCount_0f7a4_38 : decode cJ6_bitCount_0f7a4 38 = .ok (.iushr, 1) := by decide +kernel
theorem dJ6_bitCount_0f7a4_39 : decode cJ6_bitCount_0f7a4 39 = .ok (.iadd, 1) := by decide +kernel
theorem dJ6_bitCount_0f7a4_40 : decode cJ6_bitCount_0f7a4 40 = .ok (.istore_n 0, 1) := by decide +kernel
theorem dJ6_bitCount_0f7a4_41 : decode cJ6_bitCount_0f7a4 41 = .ok (.iload_n 0, 1) := by decide +kernel
theorem dJ6_bitCount_0f7a4_42 : decode cJ6_bitCount_0f7a4 42 = .ok (.iload_n 0, 1) := by decide +kernel
theorem dJ6_bitCount_0f7a4_43 : decode cJ6_bitCount_0f7a4 43 = .ok (.bipush 16, 2) := by decide +kernel
theorem dJ6_bitCount_0f7a4_45 : decode cJ6_bitCount_0f7a4 45 = .ok (.iushr, 1) := by decide +kernel
theorem dJ6_bitCount_0f7a4_46 : decode cJ6_bitCount_0f7a4 46 = .ok (.iadd, 1) := by decide +kernel
theorem dJ6_bitCount_0f7a4_47 : decode cJ6_bitCount_0f7a4 47 = .ok (.istore_n 0, 1) := by decide +kernel
theorem dJ6_bitCount_0f7a4_48 : decode cJ6_bitCount_0f7a4 48 = .ok (.iload_n 0, 1) := by decide +kernel
theorem dJ6_bitCount_0f7a4_49 : decode cJ6_bitCount_0f7a4 49 = .ok (.bipush 63, 2) := by decide +kernel
theorem dJ6_bitCount_0f7a4_51 : decode cJ6_bitCount_0f7a4 51 = .ok (.iand, 1) := by decide +kernel
theorem dJ6_bitCount_0f7a4_52 : decode cJ6_bitCount_0f7a4 52 = .ok (.ireturn, 1) := by decide +kernel
theorem dJ9_abs_0f7a4_0 : decode cJ9_abs_0f7a4 0 = .ok (.iload_n 0, 1) := by decide +kernel
theorem dJ9_abs_0f7a4_1 : decode cJ9_abs_0f7a4 1 = .ok (.ifCond .ge 8, 3) := by decide +kernel
theorem dJ9_abs_0f7a4_4 : decode cJ9_abs_0f7a4 4 = .ok (.iload_n 0, 1) := by decide +kernel
theorem dJ9_abs_0f7a4_5 : decode cJ9_abs_0f7a4 5 = .ok (.ineg, 1) := by decide +kernel
theorem dJ9_abs_0f7a4_6 : decode cJ9_abs_0f7a4 6 = .ok (.goto 4, 3) := by decide +kernel
theorem dJ9_abs_0f7a4_9 : decode cJ9_abs_0f7a4 9 = .ok (.iload_n 0, 1) := by decide +kernel
theorem dJ9_abs_0f7a4_10 : decode cJ9_abs_0f7a4 10 = .ok (.ireturn, 1) := by decide +kernel
theorem dJ9_max_7cf53_0 : decode cJ9_max_7cf53 0 = .ok (.iload_n 0, 1) := by decide +kernel
theorem dJ9_max_7cf53_1 : decode cJ9_max_7cf53 1 = .ok (.iload_n 1, 1) := by decide +kernel
theorem dJ9_max_7cf53_2 : decode cJ9_max_7cf53 2 = .ok (.if_icmp .lt 7, 3) := by decide +kernel
theorem dJ9_max_7cf53_5 : decode cJ9_max_7cf53 5 = .ok (.iload_n 0, 1) := by decide +kernel
theorem dJ9_max_7cf53_6 : decode cJ9_max_7cf53 6 = .ok (.goto 4, 3) := by decide +kernel
theorem dJ9_max_7cf53_9 : decode cJ9_max_7cf53 9 = .ok (.iload_n 1, 1) := by decide +kernel
theorem dJ9_max_7cf53_10 : decode cJ9_max_7cf53 10 = .ok (.ireturn, 1) := by decide +kernel
theorem dJ9_min_7cf53_0 : decode cJ9_min_7cf53 0 = .ok (.iload_n 0, 1) := by decide +kernel
theorem dJ9_min_7cf53_1 : decode cJ9_min_7cf53 1 = .ok (.iload_n 1, 1) := by decide +kernel
theorem dJ9_min_7cf53_2 : decode cJ9_min_7cf53 2 = .ok (.if_icmp .gt 7, 3) := by decide +kernel
theorem dJ9_min_7cf53_5 : decode cJ9_min_7cf53 5 = .ok (.iload_n 0, 1) := by decide +kernel
theorem dJ9_min_7cf53_6 : decode cJ9_min_7cf53 6 = .ok (.goto 4, 3) := by decide +kernel
theorem dJ9_min_7cf53_9 : decode cJ9_min_7cf53 9 = .ok (.iload_n 1, 1) := by decide +kernel
theorem dJ9_min_7cf53_10 : decode cJ9_min_7cf53 10 = .ok (.ireturn, 1) := by decide +kernel
theorem dJ7_fill_d0a16_0 : decode cJ7_fill_d0a16 0 = .ok (.iconst 0, 1) := by decide +kernel
theorem dJ7_fill_d0a16_1 : decode cJ7_fill_d0a16 1 = .ok (.istore_n 3, 1) := by decide +kernel
theorem dJ7_fill_d0a16_2 : decode cJ7_fill_d0a16 2 = .ok (.aload_n 0, 1) := by decide +kernel
theorem dJ7_fill_d0a16_3 : decode cJ7_fill_d0a16 3 = .ok (.arraylength, 1) := by decide +kernel
theorem dJ7_fill_d0a16_4 : decode cJ7_fill_d0a16 4 = .ok (.istore 4, 2) := by decide +kernel
theorem dJ7_fill_d0a16_6 : decode cJ7_fill_d0a16 6 = .ok (.iload_n 3, 1) := by decide +kernel
theorem dJ7_fill_d0a16_7 : decode cJ7_fill_d0a16 7 = .ok (.iload 4, 2) := by decide +kernel
theorem dJ7_fill_d0a16_9 : decode cJ7_fill_d0a16 9 = .ok (.if_icmp .ge 13, 3) := by decide +kernel
theorem dJ7_fill_d0a16_12 : decode cJ7_fill_d0a16 12 = .ok (.aload_n 0, 1) := by decide +kernel
theorem dJ7_fill_d0a16_13 : decode cJ7_fill_d0a16 13 = .ok (.iload_n 3, 1) := by decide +kernel
theorem dJ7_fill_d0a16_14 : decode cJ7_fill_d0a16 14 = .ok (.lload_n 1, 1) := by decide +kernel
theorem dJ7_fill_d0a16_15 : decode cJ7_fill_d0a16 15 = .ok (.lastore, 1) := by decide +kernel
theorem dJ7_fill_d0a16_16 : decode cJ7_fill_d0a16 16 = .ok (.iinc 3 1, 3) := by decide +kernel
theorem dJ7_fill_d0a16_19 : decode cJ7_fill_d0a16 19 = .ok (.goto (-13), 3) := by decide +kernel
theorem dJ7_fill_d0a16_22 : decode cJ7_fill_d0a16 22 = .ok (.return_, 1) := by decide +kernel
theorem dJ7_fill_53178_0 : decode cJ7_fill_53178 0 = .ok (.iconst 0, 1) := by decide +kernel
theorem dJ7_fill_53178_1 : decode cJ7_fill_53178 1 = .ok (.istore_n 2, 1) := by decide +kernel
theorem dJ7_fill_53178_2 : decode cJ7_fill_53178 2 = .ok (.aload_n 0, 1) := by decide +kernel
theorem dJ7_fill_53178_3 : decode cJ7_fill_53178 3 = .ok (.arraylength, 1) := by decide +kernel
theorem dJ7_fill_53178_4 : decode cJ7_fill_53178 4 = .ok (.istore_n 3, 1) := by decide +kernel
theorem dJ7_fill_53178_5 : decode cJ7_fill_53178 5 = .ok (.iload_n 2, 1) := by decide +kernel
theorem dJ7_fill_53178_6 : decode cJ7_fill_53178 6 = .ok (.iload_n 3, 1) := by decide +kernel
theorem dJ7_fill_53178_7 : decode cJ7_fill_53178 7 = .ok (.if_icmp .ge 13, 3) := by decide +kernel
theorem dJ7_fill_53178_10 : decode cJ7_fill_53178 10 = .ok (.aload_n 0, 1) := by decide +kernel
theorem dJ7_fill_53178_11 : decode cJ7_fill_53178 11 = .ok (.iload_n 2, 1) := by decide +kernel
theorem dJ7_fill_53178_12 : decode cJ7_fill_53178 12 = .ok (.iload_n 1, 1) := by decide +kernel
theorem dJ7_fill_53178_13 : decode cJ7_fill_53178 13 = .ok (.iastore, 1) := by decide +kernel
theorem dJ7_fill_53178_14 : decode cJ7_fill_53178 14 = .ok (.iinc 2 1, 3) := by decide +kernel
theorem dJ7_fill_53178_17 : decode cJ7_fill_53178 17 = .ok (.goto (-12), 3) := by decide +kernel
theorem dJ7_fill_53178_20 : decode cJ7_fill_53178 20 = .ok (.return_, 1) := by decide +kernel
