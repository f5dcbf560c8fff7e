theorem dX3_init_0 : decode cX3_init 0 = .ok (.aload_n 0, 1) := by decide +kernel
theorem dX3_init_1 : decode cX3_init 1 = .ok (.invokespecial 1, 3) := by decide +kernel
theorem dX3_init_4 : decode cX3_init 4 = .ok (.aload_n 0, 1) := by decide +kernel
theorem dX3_init_5 : decode cX3_init 5 = .ok (.iconst 4, 1) := by decide +kernel
theorem dX3_init_6 : decode cX3_init 6 = .ok (.newarray .int, 2) := by decide +kernel
theorem dX3_init_8 : decode cX3_init 8 = .ok (.putfield 7, 3) := by decide +kernel
theorem dX3_init_11 : decode cX3_init 11 = .ok (.aload_n 0, 1) := by decide +kernel
theorem dX3_init_12 : decode cX3_init 12 = .ok (.bipush 16, 2) := by decide +kernel
theorem dX3_init_14 : decode cX3_init 14 = .ok (.newarray .int, 2) := by decide +kernel
theorem dX3_init_16 : decode cX3_init 16 = .ok (.putfield 13, 3) := by decide +kernel
theorem dX3_init_19 : decode cX3_init 19 = .ok (.aload_n 0, 1) := by decide +kernel
theorem dX3_init_20 : decode cX3_init 20 = .ok (.bipush 16, 2) := by decide +kernel
theorem dX3_init_22 : decode cX3_init 22 = .ok (.newarray .int, 2) := by decide +kernel
theorem dX3_init_24 : decode cX3_init 24 = .ok (.putfield 16, 3) := by decide +kernel
theorem dX3_init_27 : decode cX3_init 27 = .ok (.aload_n 0, 1) := by decide +kernel
theorem dX3_init_28 : decode cX3_init 28 = .ok (.bipush 40, 2) := by decide +kernel
theorem dX3_init_30 : decode cX3_init 30 = .ok (.newarray .int, 2) := by decide +kernel
theorem dX3_init_32 : decode cX3_init 32 = .ok (.putfield 19, 3) := by decide +kernel
theorem dX3_init_35 : decode cX3_init 35 = .ok (.aload_n 0, 1) := by decide +kernel
theorem dX3_init_36 : decode cX3_init 36 = .ok (.bipush 16, 2) := by decide +kernel
theorem dX3_init_38 : decode cX3_init 38 = .ok (.newarray .int, 2) := by decide +kernel
theorem dX3_init_40 : decode cX3_init 40 = .ok (.putfield 22, 3) := by decide +kernel
theorem dX3_init_43 : decode cX3_init 43 = .ok (.aload_n 0, 1) := by decide +kernel
theorem dX3_init_44 : decode cX3_init 44 = .ok (.bipush 16, 2) := by decide +kernel
theorem dX3_init_46 : decode cX3_init 46 = .ok (.newarray .int, 2) := by decide +kernel
theorem dX3_init_48 : decode cX3_init 48 = .ok (.putfield 25, 3) := by decide +kernel
theorem dX3_init_51 : decode cX3_init 51 = .ok (.aload_n 0, 1) := by decide +kernel
theorem dX3_init_52 : decode cX3_init 52 = .ok (.bipush 9, 2) := by decide +kernel
theorem dX3_init_54 : decode cX3_init 54 = .ok (.newarray .int, 2) := by decide +kernel
theorem dX3_init_56 : decode cX3_init 56 = .ok (.putfield 28, 3) := by decide +kernel
theorem dX3_init_59 : decode cX3_init 59 = .ok (.aload_n 0, 1) := by decide +kernel
theorem dX3_init_60 : decode cX3_init 60 = .ok (.bipush 9, 2) := by decide +kernel
theorem dX3_init_62 : decode cX3_init 62 = .ok (.newarray .int, 2) := by decide +kernel
theorem dX3_init_64 : decode cX3_init 64 = .ok (.putfield 31, 3) := by decide +kernel
theorem dX3_init_67 : decode cX3_init 67 = .ok (.aload_n 0, 1) := by decide +kernel
theorem dX3_init_68 : decode cX3_init 68 = .ok (.iconst 5, 1) := by decide +kernel
theorem dX3_init_69 : decode cX3_init 69 = .ok (.newarray .int, 2) := by decide +kernel
theorem dX3_init_71 : decode cX3_init 71 = .ok (.putfield 34, 3) := by decide +kernel
theorem dX3_init_74 : decode cX3_init 74 = .ok (.aload_n 0, 1) := by decide +kernel
theorem dX3_init_75 : decode cX3_init 75 = .ok (.ldc 37, 2) := by decide +kernel
theorem dX3_init_77 : decode cX3_init 77 = .ok (.newarray .long, 2) := by decide +kernel
theorem dX3_init_79 : decode cX3_init 79 = .ok (.putfield 38, 3) := by decide +kernel
theorem dX3_init_82 : decode cX3_init 82 = .ok (.aload_n 0, 1) := by decide +kernel
theorem dX3_init_83 : decode cX3_init 83 = .ok (.bipush 16, 2) := by decide +kernel
theorem dX3_init_85 : decode cX3_init 85 = .ok (.newarray .int, 2) := by decide +kernel
theorem dX3_init_87 : decode cX3_init 87 = .ok (.putfield 42, 3) := by decide +kernel
theorem dX3_init_90 : decode cX3_init 90 = .ok (.aload_n 0, 1) := by decide +kernel
theorem dX3_init_91 : decode cX3_init 91 = .ok (.bipush 16, 2) := by decide +kernel
theorem dX3_init_93 : decode cX3_init 93 = .ok (.newarray .int, 2) := by decide +kernel
theorem dX3_init_95 : decode cX3_init 95 = .ok (.putfield 45, 3) := by decide +kernel
theorem dX3_init_98 : decode cX3_init 98 = .ok (.aload_n 0, 1) := by decide +kernel
theorem dX3_init_99 : decode cX3_init 99 = .ok (.bipush 120, 2) := by decide +kernel
theorem dX3_init_101 : decode cX3_init 101 = .ok (.newarray .int, 2) := by decide +kernel
theorem dX3_init_103 : decode cX3_init 103 = .ok (.putfield 48, 3) := by decide +kernel
theorem dX3_init_106 : decode cX3_init 106 = .ok (.aload_n 0, 1) := by decide +kernel
theorem dX3_init_107 : decode cX3_init 107 = .ok (.iconst 2, 1) := by decide +kernel
theorem dX3_init_108 : decode cX3_init 108 = .ok (.newarray .boolean, 2) := by decide +kernel
theorem dX3_init_110 : decode cX3_init 110 = .ok (.putfield 51, 3) := by decide +kernel
theorem dX3_init_113 : decode cX3_init 113 = .ok (.aload_n 0, 1) := by decide +kernel
theorem dX3_init_114 : decode cX3_init 114 = .ok (.iconst 1, 1) := by decide +kernel
theorem dX3_init_115 : decode cX3_init 115 = .ok (.putfield 55, 3) := by decide +kernel
theorem dX3_init_118 : decode cX3_init 118 = .ok (.aload_n 0, 1) := by decide +kernel
theorem dX3_init_119 : decode cX3_init 119 = .ok (.iconst 2, 1) := by decide +kernel
theorem dX3_init_120 : decode cX3_init 120 = .ok (.putfield 59, 3) := by decide +kernel
theorem dX3_init_123 : decode cX3_init 123 = .ok (.aload_n 0, 1) := by decide +kernel
theorem dX3_init_124 : decode cX3_init 124 = .ok (.iconst 2, 1) := by decide +kernel
theorem dX3_init_125 : decode cX3_init 125 = .ok (.putfield 62, 3) := by decide +kernel
theorem dX3_init_128 : decode cX3_init 128 = .ok (.aload_n 0, 1) := by decide +kernel
theorem dX3_init_129 : decode cX3_init 129 = .ok (.iconst 3, 1) := by decide +kernel
theorem dX3_init_130 : decode cX3_init 130 = .ok (.iconst 3, 1) := by decide +kernel
theorem dX3_init_131 : decode cX3_init 131 = .ok (.invokevirtual 65, 3) := by decide +kernel
theorem dX3_init_134 : decode cX3_init 134 = .ok (.return_, 1) := by decide +kernel
theorem dX3_in_0 : decode cX3_in 0 = .ok (.lload_n 0, 1) := by decide +kernel
theorem dX3_in_1 : decode cX3_in 1 = .ok (.lload_n 2, 1) := by decide +kernel
theorem dX3_in_2 : decode cX3_in 2 = .ok (.lcmp, 1) := by decide +kernel
theorem dX3_in_3 : decode cX3_in 3 = .ok (.ifCond .lt 14, 3) := by decide +kernel
theorem dX3_in_6 : decode cX3_in 6 = .ok (.lload_n 0, 1) := by decide +kernel
theorem dX3_in_7 : decode cX3_in 7 = .ok (.lload 4, 2) := by decide +kernel
theorem dX3_in_9 : decode cX3_in 9 = .ok (.lcmp, 1) := by decide +kernel
theorem dX3_in_10 : decode cX3_in 10 = .ok (.ifCond .gt 7, 3) := by decide +kernel
theorem dX3_in_13 : decode cX3_in 13 = .ok (.iconst 1, 1) := by decide +kernel
theorem dX3_in_14 : decode cX3_in 14 = .ok (.goto 4, 3) := by decide +kernel
theorem dX3_in_17 : decode cX3_in 17 = .ok (.iconst 0, 1) := by decide +kernel
theorem dX3_in_18 : decode cX3_in 18 = .ok (.ireturn, 1) := by decide +kernel
theorem dX3_ones_0 : decode cX3_ones 0 = .ok (.iconst 0, 1) := by decide +kernel
theorem dX3_ones_1 : decode cX3_ones 1 = .ok (.istore_n 1, 1) := by decide +kernel
theorem dX3_ones_2 : decode cX3_ones 2 = .ok (.iload_n 0, 1) := by decide +kernel
theorem dX3_ones_3 : decode cX3_ones 3 = .ok (.istore_n 2, 1) := by decide +kernel
theorem dX3_ones_4 : decode cX3_ones 4 = .ok (.iload_n 2, 1) := by decide +kernel
theorem dX3_ones_5 : decode cX3_ones 5 = .ok (.ifCond .eq 15, 3) := by decide +kernel
theorem dX3_ones_8 : decode cX3_ones 8 = .ok (.iinc 1 1, 3) := by decide +kernel
theorem dX3_ones_11 : decode cX3_ones 11 = .ok (.iload_n 2, 1) := by decide +kernel
theorem dX3_ones_12 : decode cX3_ones 12 = .ok (.iload_n 2, 1) := by decide +kernel
theorem dX3_ones_13 : decode cX3_ones 13 = .ok (.iconst 1, 1) := by decide +kernel
theorem dX3_ones_14 : decode cX3_ones 14 = .ok (.isub, 1) := by decide +kernel
theorem dX3_ones_15 : decode cX3_ones 15 = .ok (.iand, 1) := by decide +kernel
theorem dX3_ones_16 : decode cX3_ones 16 = .ok (.istore_n 2, 1) := by decide +kernel
theorem dX3_ones_17 : decode cX3_ones 17 = .ok (.goto (-13), 3) := by decide +kernel
theorem dX3_ones_20 : decode cX3_ones 20 = .ok (.iload_n 1, 1) := by decide +kernel
theorem dX3_ones_21 : decode cX3_ones 21 = .ok (.ireturn, 1) := by decide +kernel
theorem dX3_spread_0 : decode cX3_spread 0 = .ok (.aload_n 0, 1) := by decide +kernel
theorem dX3_spread_1 : decode cX3_spread 1 = .ok (.iload_n 1, 1) := by decide +kernel
theorem dX3_spread_2 : decode cX3_spread 2 = .ok (.putfield 69, 3) := by decide +kernel
theorem dX3_spread_5 : decode cX3_spread 5 = .ok (.aload_n 0, 1) := by decide +kernel
theorem dX3_spread_6 : decode cX3_spread 6 = .ok (.iload_n 2, 1) := by decide +kernel
theorem dX3_spread_7 : decode cX3_spread 7 = .ok (.putfield 72, 3) := by decide +kernel
theorem dX3_spread_10 : decode cX3_spread 10 = .ok (.iconst 0, 1) := by decide +kernel
theorem dX3_spread_11 : decode cX3_spread 11 = .ok (.istore_n 3, 1) := by decide +kernel
theorem dX3_spread_12 : decode cX3_spread 12 = .ok (.iload_n 3, 1) := by decide +kernel
theorem dX3_spread_13 : decode cX3_spread 13 = .ok (.bipush 16, 2) := by decide +kernel
theorem dX3_spread_15 : decode cX3_spread 15 = .ok (.if_icmp .ge 24, 3) := by decide +kernel
theorem dX3_spread_18 : decode cX3_spread 18 = .ok (.aload_n 0, 1) := by decide +kernel
theorem dX3_spread_19 : decode cX3_spread 19 = .ok (.getfield 13, 3) := by decide +kernel
theorem dX3_spread_22 : decode cX3_spread 22 = .ok (.iload_n 3, 1) := by decide +kernel
theorem dX3_spread_23 : decode cX3_spread 23 = .ok (.bipush (-6), 2) := by decide +kernel
theorem dX3_spread_25 : decode cX3_spread 25 = .ok (.iastore, 1) := by decide +kernel
theorem dX3_spread_26 : decode cX3_spread 26 = .ok (.aload_n 0, 1) := by decide +kernel
theorem dX3_spread_27 : decode cX3_spread 27 = .ok (.getfield 16, 3) := by decide +kernel
theorem dX3_spread_30 : decode cX3_spread 30 = .ok (.iload_n 3, 1) := by decide +kernel
theorem dX3_spread_31 : decode cX3_spread 31 = .ok (.iconst 0, 1) := by decide +kernel
theorem dX3_spread_32 : decode cX3_spread 32 = .ok (.iastore, 1) := by decide +kernel
theorem dX3_spread_33 : decode cX3_spread 33 = .ok (.iinc 3 1, 3) := by decide +kernel
theorem dX3_spread_36 : decode cX3_spread 36 = .ok (.goto (-24), 3) := by decide +kernel
theorem dX3_spread_39 : decode cX3_spread 39 = .ok (.return_, 1) := by decide +kernel
theorem dX3_places_0 : decode cX3_places 0 = .ok (.aload_n 0, 1) := by decide +kernel
theorem dX3_places_1 : decode cX3_places 1 = .ok (.getfield 69, 3) := by decide +kernel
theorem dX3_places_4 : decode cX3_places 4 = .ok (.aload_n 0, 1) := by decide +kernel
theorem dX3_places_5 : decode cX3_places 5 = .ok (.getfield 72, 3) := by decide +kernel
theorem dX3_places_8 : decode cX3_places 8 = .ok (.imul, 1) := by decide +kernel
theorem dX3_places_9 : decode cX3_places 9 = .ok (.ireturn, 1) := by decide +kernel
theorem dX3_isPlace_0 : decode cX3_isPlace 0 = .ok (.iload_n 1, 1) := by decide +kernel
theorem dX3_isPlace_1 : decode cX3_isPlace 1 = .ok (.i2l, 1) := by decide +kernel
theorem dX3_isPlace_2 : decode cX3_isPlace 2 = .ok (.lconst 0, 1) := by decide +kernel
theorem dX3_isPlace_3 : decode cX3_isPlace 3 = .ok (.aload_n 0, 1) := by decide +kernel
theorem dX3_isPlace_4 : decode cX3_isPlace 4 = .ok (.invokevirtual 75, 3) := by decide +kernel
theorem dX3_isPlace_7 : decode cX3_isPlace 7 = .ok (.iconst 1, 1) := by decide +kernel
theorem dX3_isPlace_8 : decode cX3_isPlace 8 = .ok (.isub, 1) := by decide +kernel
theorem dX3_isPlace_9 : decode cX3_isPlace 9 = .ok (.i2l, 1) := by decide +kernel
theorem dX3_isPlace_10 : decode cX3_isPlace 10 = .ok (.invokestatic 79, 3) := by decide +kernel
theorem dX3_isPlace_13 : decode cX3_isPlace 13 = .ok (.ireturn, 1) := by decide +kernel
theorem dX3_isFamily_0 : decode cX3_isFamily 0 = .ok (.iload_n 0, 1) := by decide +kernel
theorem dX3_isFamily_1 : decode cX3_isFamily 1 = .ok (.i2l, 1) := by decide +kernel
theorem dX3_isFamily_2 : decode cX3_isFamily 2 = .ok (.lconst 0, 1) := by decide +kernel
theorem dX3_isFamily_3 : decode cX3_isFamily 3 = .ok (.ldc2_w 83, 3) := by decide +kernel
theorem dX3_isFamily_6 : decode cX3_isFamily 6 = .ok (.invokestatic 79, 3) := by decide +kernel
theorem dX3_isFamily_9 : decode cX3_isFamily 9 = .ok (.ireturn, 1) := by decide +kernel
theorem dX3_quilt_0 : decode cX3_quilt 0 = .ok (.iload_n 1, 1) := by decide +kernel
theorem dX3_quilt_1 : decode cX3_quilt 1 = .ok (.i2l, 1) := by decide +kernel
theorem dX3_quilt_2 : decode cX3_quilt 2 = .ok (.lconst 1, 1) := by decide +kernel
theorem dX3_quilt_3 : decode cX3_quilt 3 = .ok (.ldc2_w 85, 3) := by decide +kernel
theorem dX3_quilt_6 : decode cX3_quilt 6 = .ok (.invokestatic 79, 3) := by decide +kernel
theorem dX3_quilt_9 : decode cX3_quilt 9 = .ok (.ifCond .eq 15, 3) := by decide +kernel
theorem dX3_quilt_12 : decode cX3_quilt 12 = .ok (.iload_n 2, 1) := by decide +kernel
theorem dX3_quilt_13 : decode cX3_quilt 13 = .ok (.i2l, 1) := by decide +kernel
theorem dX3_quilt_14 : decode cX3_quilt 14 = .ok (.lconst 1, 1) := by decide +kernel
theorem dX3_quilt_15 : decode cX3_quilt 15 = .ok (.ldc2_w 85, 3) := by decide +kernel
theorem dX3_quilt_18 : decode cX3_quilt 18 = .ok (.invokestatic 79, 3) := by decide +kernel
theorem dX3_quilt_21 : decode cX3_quilt 21 = .ok (.ifCond .ne 6, 3) := by decide +kernel
theorem dX3_quilt_24 : decode cX3_quilt 24 = .ok (.bipush (-2), 2) := by decide +kernel
theorem dX3_quilt_26 : decode cX3_quilt 26 = .ok (.ireturn, 1) := by decide +kernel
theorem dX3_quilt_27 : decode cX3_quilt 27 = .ok (.aload_n 0, 1) := by decide +kernel
theorem dX3_quilt_28 : decode cX3_quilt 28 = .ok (.iload_n 1, 1) := by decide +kernel
theorem dX3_quilt_29 : decode cX3_quilt 29 = .ok (.iload_n 2, 1) := by decide +kernel
theorem dX3_quilt_30 : decode cX3_quilt 30 = .ok (.invokevirtual 65, 3) := by decide +kernel
theorem dX3_quilt_33 : decode cX3_quilt 33 = .ok (.aload_n 0, 1) := by decide +kernel
theorem dX3_quilt_34 : decode cX3_quilt 34 = .ok (.invokevirtual 75, 3) := by decide +kernel
theorem dX3_quilt_37 : decode cX3_quilt 37 = .ok (.ireturn, 1) := by decide +kernel
theorem dX3_say_0 : decode cX3_say 0 = .ok (.iload_n 1, 1) := by decide +kernel
theorem dX3_say_1 : decode cX3_say 1 = .ok (.i2l, 1) := by decide +kernel
theorem dX3_say_2 : decode cX3_say 2 = .ok (.ldc2_w 87, 3) := by decide +kernel
theorem dX3_say_5 : decode cX3_say 5 = .ok (.ldc2_w 89, 3) := by decide +kernel
theorem dX3_say_8 : decode cX3_say 8 = .ok (.invokestatic 79, 3) := by decide +kernel
theorem dX3_say_11 : decode cX3_say 11 = .ok (.ifCond .ne 6, 3) := by decide +kernel
theorem dX3_say_14 : decode cX3_say 14 = .ok (.bipush (-2), 2) := by decide +kernel
theorem dX3_say_16 : decode cX3_say 16 = .ok (.ireturn, 1) := by decide +kernel
theorem dX3_say_17 : decode cX3_say 17 = .ok (.aload_n 0, 1) := by decide +kernel
theorem dX3_say_18 : decode cX3_say 18 = .ok (.getfield 91, 3) := by decide +kernel
theorem dX3_say_21 : decode cX3_say 21 = .ok (.bipush 40, 2) := by decide +kernel
theorem dX3_say_23 : decode cX3_say 23 = .ok (.if_icmp .ne 6, 3) := by decide +kernel
theorem dX3_say_26 : decode cX3_say 26 = .ok (.bipush (-4), 2) := by decide +kernel
theorem dX3_say_28 : decode cX3_say 28 = .ok (.ireturn, 1) := by decide +kernel
theorem dX3_say_29 : decode cX3_say 29 = .ok (.aload_n 0, 1) := by decide +kernel
theorem dX3_say_30 : decode cX3_say 30 = .ok (.getfield 19, 3) := by decide +kernel
theorem dX3_say_33 : decode cX3_say 33 = .ok (.aload_n 0, 1) := by decide +kernel
theorem dX3_say_34 : decode cX3_say 34 = .ok (.getfield 91, 3) := by decide +kernel
theorem dX3_say_37 : decode cX3_say 37 = .ok (.iload_n 1, 1) := by decide +kernel
theorem dX3_say_38 : decode cX3_say 38 = .ok (.iastore, 1) := by decide +kernel
theorem dX3_say_39 : decode cX3_say 39 = .ok (.aload_n 0, 1) := by decide +kernel
theorem dX3_say_40 : decode cX3_say 40 = .ok (.dup, 1) := by decide +kernel
theorem dX3_say_41 : decode cX3_say 41 = .ok (.getfield 91, 3) := by decide +kernel
theorem dX3_say_44 : decode cX3_say 44 = .ok (.iconst 1, 1) := by decide +kernel
theorem dX3_say_45 : decode cX3_say 45 = .ok (.iadd, 1) := by decide +kernel
theorem dX3_say_46 : decode cX3_say 46 = .ok (.putfield 91, 3) := by decide +kernel
theorem dX3_say_49 : decode cX3_say 49 = .ok (.aload_n 0, 1) := by decide +kernel
theorem dX3_say_50 : decode cX3_say 50 = .ok (.getfield 91, 3) := by decide +kernel
theorem dX3_say_53 : decode cX3_say 53 = .ok (.ireturn, 1) := by decide +kernel
theorem dX3_wipe_0 : decode cX3_wipe 0 = .ok (.aload_n 0, 1) := by decide +kernel
theorem dX3_wipe_1 : decode cX3_wipe 1 = .ok (.getfield 91, 3) := by decide +kernel
theorem dX3_wipe_4 : decode cX3_wipe 4 = .ok (.istore_n 1, 1) := by decide +kernel
theorem dX3_wipe_5 : decode cX3_wipe 5 = .ok (.aload_n 0, 1) := by decide +kernel
theorem dX3_wipe_6 : decode cX3_wipe 6 = .ok (.iconst 0, 1) := by decide +kernel
theorem dX3_wipe_7 : decode cX3_wipe 7 = .ok (.putfield 91, 3) := by decide +kernel
theorem dX3_wipe_10 : decode cX3_wipe 10 = .ok (.iload_n 1, 1) := by decide +kernel
theorem dX3_wipe_11 : decode cX3_wipe 11 = .ok (.ireturn, 1) := by decide +kernel
theorem dX3_fault_0 : decode cX3_fault 0 = .ok (.iconst 0, 1) := by decide +kernel
theorem dX3_fault_1 : decode cX3_fault 1 = .ok (.istore_n 1, 1) := by decide +kernel
theorem dX3_fault_2 : decode cX3_fault 2 = .ok (.iload_n 1, 1) := by decide +kernel
theorem dX3_fault_3 : decode cX3_fault 3 = .ok (.aload_n 0, 1) := by decide +kernel
theorem dX3_fault_4 : decode cX3_fault 4 = .ok (.getfield 91, 3) := by decide +kernel
theorem dX3_fault_7 : decode cX3_fault 7 = .ok (.if_icmp .ge 49, 3) := by decide +kernel
theorem dX3_fault_10 : decode cX3_fault 10 = .ok (.iload_n 1, 1) := by decide +kernel
theorem dX3_fault_11 : decode cX3_fault 11 = .ok (.aload_n 0, 1) := by decide +kernel
theorem dX3_fault_12 : decode cX3_fault 12 = .ok (.invokevirtual 75, 3) := by decide +kernel
theorem dX3_fault_15 : decode cX3_fault 15 = .ok (.if_icmp .eq 33, 3) := by decide +kernel
theorem dX3_fault_18 : decode cX3_fault 18 = .ok (.aload_n 0, 1) := by decide +kernel
theorem dX3_fault_19 : decode cX3_fault 19 = .ok (.getfield 19, 3) := by decide +kernel
theorem dX3_fault_22 : decode cX3_fault 22 = .ok (.iload_n 1, 1) := by decide +kernel
theorem dX3_fault_23 : decode cX3_fault 23 = .ok (.iaload, 1) := by decide +kernel
theorem dX3_fault_24 : decode cX3_fault 24 = .ok (.bipush 46, 2) := by decide +kernel
theorem dX3_fault_26 : decode cX3_fault 26 = .ok (.if_icmp .eq 24, 3) := by decide +kernel
theorem dX3_fault_29 : decode cX3_fault 29 = .ok (.aload_n 0, 1) := by decide +kernel
theorem dX3_fault_30 : decode cX3_fault 30 = .ok (.getfield 19, 3) := by decide +kernel
theorem dX3_fault_33 : decode cX3_fault 33 = .ok (.iload_n 1, 1) := by decide +kernel
theorem dX3_fault_34 : decode cX3_fault 34 = .ok (.iaload, 1) := by decide +kernel
theorem dX3_fault_35 : decode cX3_fault 35 = .ok (.i2l, 1) := by decide +kernel
theorem dX3_fault_36 : decode cX3_fault 36 = .ok (.ldc2_w 94, 3) := by decide +kernel
theorem dX3_fault_39 : decode cX3_fault 39 = .ok (.ldc2_w 96, 3) := by decide +kernel
theorem dX3_fault_42 : decode cX3_fault 42 = .ok (.invokestatic 79, 3) := by decide +kernel
theorem dX3_fault_45 : decode cX3_fault 45 = .ok (.ifCond .ne 5, 3) := by decide +kernel
theorem dX3_fault_48 : decode cX3_fault 48 = .ok (.iload_n 1, 1) := by decide +kernel
theorem dX3_fault_49 : decode cX3_fault 49 = .ok (.ireturn, 1) := by decide +kernel
theorem dX3_fault_50 : decode cX3_fault 50 = .ok (.iinc 1 1, 3) := by decide +kernel
theorem dX3_fault_53 : decode cX3_fault 53 = .ok (.goto (-51), 3) := by decide +kernel
theorem dX3_fault_56 : decode cX3_fault 56 = .ok (.aload_n 0, 1) := by decide +kernel
theorem dX3_fault_57 : decode cX3_fault 57 = .ok (.getfield 91, 3) := by decide +kernel
theorem dX3_fault_60 : decode cX3_fault 60 = .ok (.aload_n 0, 1) := by decide +kernel
theorem dX3_fault_61 : decode cX3_fault 61 = .ok (.invokevirtual 75, 3) := by decide +kernel
theorem dX3_fault_64 : decode cX3_fault 64 = .ok (.if_icmp .ge 10, 3) := by decide +kernel
theorem dX3_fault_67 : decode cX3_fault 67 = .ok (.aload_n 0, 1) := by decide +kernel
theorem dX3_fault_68 : decode cX3_fault 68 = .ok (.getfield 91, 3) := by decide +kernel
theorem dX3_fault_71 : decode cX3_fault 71 = .ok (.goto 5, 3) := by decide +kernel
theorem dX3_fault_74 : decode cX3_fault 74 = .ok (.bipush (-6), 2) := by decide +kernel
theorem dX3_fault_76 : decode cX3_fault 76 = .ok (.ireturn, 1) := by decide +kernel
theorem dX3_lay_0 : decode cX3_lay 0 = .ok (.aload_n 0, 1) := by decide +kernel
theorem dX3_lay_1 : decode cX3_lay 1 = .ok (.invokevirtual 98, 3) := by decide +kernel
theorem dX3_lay_4 : decode cX3_lay 4 = .ok (.ifCond .lt 6, 3) := by decide +kernel
theorem dX3_lay_7 : decode cX3_lay 7 = .ok (.bipush (-5), 2) := by decide +kernel
theorem dX3_lay_9 : decode cX3_lay 9 = .ok (.ireturn, 1) := by decide +kernel
theorem dX3_lay_10 : decode cX3_lay 10 = .ok (.iconst 0, 1) := by decide +kernel
theorem dX3_lay_11 : decode cX3_lay 11 = .ok (.istore_n 1, 1) := by decide +kernel
theorem dX3_lay_12 : decode cX3_lay 12 = .ok (.iload_n 1, 1) := by decide +kernel
theorem dX3_lay_13 : decode cX3_lay 13 = .ok (.aload_n 0, 1) := by decide +kernel
theorem dX3_lay_14 : decode cX3_lay 14 = .ok (.invokevirtual 75, 3) := by decide +kernel
theorem dX3_lay_17 : decode cX3_lay 17 = .ok (.if_icmp .ge 47, 3) := by decide +kernel
theorem dX3_lay_20 : decode cX3_lay 20 = .ok (.aload_n 0, 1) := by decide +kernel
theorem dX3_lay_21 : decode cX3_lay 21 = .ok (.getfield 13, 3) := by decide +kernel
theorem dX3_lay_24 : decode cX3_lay 24 = .ok (.iload_n 1, 1) := by decide +kernel
theorem dX3_lay_25 : decode cX3_lay 25 = .ok (.aload_n 0, 1) := by decide +kernel
theorem dX3_lay_26 : decode cX3_lay 26 = .ok (.getfield 19, 3) := by decide +kernel
theorem dX3_lay_29 : decode cX3_lay 29 = .ok (.iload_n 1, 1) := by decide +kernel
theorem dX3_lay_30 : decode cX3_lay 30 = .ok (.iaload, 1) := by decide +kernel
theorem dX3_lay_31 : decode cX3_lay 31 = .ok (.bipush 46, 2) := by decide +kernel
theorem dX3_lay_33 : decode cX3_lay 33 = .ok (.if_icmp .ne 8, 3) := by decide +kernel
theorem dX3_lay_36 : decode cX3_lay 36 = .ok (.bipush (-6), 2) := by decide +kernel
theorem dX3_lay_38 : decode cX3_lay 38 = .ok (.goto 12, 3) := by decide +kernel
theorem dX3_lay_41 : decode cX3_lay 41 = .ok (.aload_n 0, 1) := by decide +kernel
theorem dX3_lay_42 : decode cX3_lay 42 = .ok (.getfield 19, 3) := by decide +kernel
theorem dX3_lay_45 : decode cX3_lay 45 = .ok (.iload_n 1, 1) := by decide +kernel
theorem dX3_lay_46 : decode cX3_lay 46 = .ok (.iaload, 1) := by decide +kernel
theorem dX3_lay_47 : decode cX3_lay 47 = .ok (.bipush 97, 2) := by decide +kernel
theorem dX3_lay_49 : decode cX3_lay 49 = .ok (.isub, 1) := by decide +kernel
theorem dX3_lay_50 : decode cX3_lay 50 = .ok (.iastore, 1) := by decide +kernel
theorem dX3_lay_51 : decode cX3_lay 51 = .ok (.aload_n 0, 1) := by decide +kernel
theorem dX3_lay_52 : decode cX3_lay 52 = .ok (.getfield 16, 3) := by decide +kernel
theorem dX3_lay_55 : decode cX3_lay 55 = .ok (.iload_n 1, 1) := by decide +kernel
theorem dX3_lay_56 : decode cX3_lay 56 = .ok (.iconst 0, 1) := by decide +kernel
theorem dX3_lay_57 : decode cX3_lay 57 = .ok (.iastore, 1) := by decide +kernel
theorem dX3_lay_58 : decode cX3_lay 58 = .ok (.iinc 1 1, 3) := by decide +kernel
theorem dX3_lay_61 : decode cX3_lay 61 = .ok (.goto (-49), 3) := by decide +kernel
theorem dX3_lay_64 : decode cX3_lay 64 = .ok (.aload_n 0, 1) := by decide +kernel
theorem dX3_lay_65 : decode cX3_lay 65 = .ok (.iconst 0, 1) := by decide +kernel
theorem dX3_lay_66 : decode cX3_lay 66 = .ok (.putfield 91, 3) := by decide +kernel
theorem dX3_lay_69 : decode cX3_lay 69 = .ok (.aload_n 0, 1) := by decide +kernel
theorem dX3_lay_70 : decode cX3_lay 70 = .ok (.invokevirtual 101, 3) := by decide +kernel
theorem dX3_lay_73 : decode cX3_lay 73 = .ok (.invokestatic 104, 3) := by decide +kernel
theorem dX3_lay_76 : decode cX3_lay 76 = .ok (.ireturn, 1) := by decide +kernel
theorem dX3_isSquare_0 : decode cX3_isSquare 0 = .ok (.aload_n 0, 1) := by decide +kernel
theorem dX3_isSquare_1 : decode cX3_isSquare 1 = .ok (.getfield 13, 3) := by decide +kernel
theorem dX3_isSquare_4 : decode cX3_isSquare 4 = .ok (.iload_n 1, 1) := by decide +kernel
theorem dX3_isSquare_5 : decode cX3_isSquare 5 = .ok (.iaload, 1) := by decide +kernel
theorem dX3_isSquare_6 : decode cX3_isSquare 6 = .ok (.ifCond .lt 7, 3) := by decide +kernel
theorem dX3_isSquare_9 : decode cX3_isSquare 9 = .ok (.iconst 1, 1) := by decide +kernel
theorem dX3_isSquare_10 : decode cX3_isSquare 10 = .ok (.goto 4, 3) := by decide +kernel
theorem dX3_isSquare_13 : decode cX3_isSquare 13 = .ok (.iconst 0, 1) := by decide +kernel
theorem dX3_isSquare_14 : decode cX3_isSquare 14 = .ok (.ireturn, 1) := by decide +kernel
theorem dX3_squares_0 : decode cX3_squares 0 = .ok (.iconst 0, 1) := by decide +kernel
theorem dX3_squares_1 : decode cX3_squares 1 = .ok (.istore_n 1, 1) := by decide +kernel
theorem dX3_squares_2 : decode cX3_squares 2 = .ok (.iconst 0, 1) := by decide +kernel
theorem dX3_squares_3 : decode cX3_squares 3 = .ok (.istore_n 2, 1) := by decide +kernel
theorem dX3_squares_4 : decode cX3_squares 4 = .ok (.iload_n 2, 1) := by decide +kernel
theorem dX3_squares_5 : decode cX3_squares 5 = .ok (.aload_n 0, 1) := by decide +kernel
theorem dX3_squares_6 : decode cX3_squares 6 = .ok (.invokevirtual 75, 3) := by decide +kernel
theorem dX3_squares_9 : decode cX3_squares 9 = .ok (.if_icmp .ge 27, 3) := by decide +kernel
theorem dX3_squares_12 : decode cX3_squares 12 = .ok (.iload_n 1, 1) := by decide +kernel
theorem dX3_squares_13 : decode cX3_squares 13 = .ok (.aload_n 0, 1) := by decide +kernel
theorem dX3_squares_14 : decode cX3_squares 14 = .ok (.iload_n 2, 1) := by decide +kernel
theorem dX3_squares_15 : decode cX3_squares 15 = .ok (.invokevirtual 108, 3) := by decide +kernel
theorem dX3_squares_18 : decode cX3_squares 18 = .ok (.ifCond .eq 9, 3) := by decide +kernel
theorem dX3_squares_21 : decode cX3_squares 21 = .ok (.iconst 1, 1) := by decide +kernel
theorem dX3_squares_22 : decode cX3_squares 22 = .ok (.iload_n 2, 1) := by decide +kernel
theorem dX3_squares_23 : decode cX3_squares 23 = .ok (.ishl, 1) := by decide +kernel
theorem dX3_squares_24 : decode cX3_squares 24 = .ok (.goto 4, 3) := by decide +kernel
theorem dX3_squares_27 : decode cX3_squares 27 = .ok (.iconst 0, 1) := by decide +kernel
theorem dX3_squares_28 : decode cX3_squares 28 = .ok (.ior, 1) := by decide +kernel
theorem dX3_squares_29 : decode cX3_squares 29 = .ok (.istore_n 1, 1) := by decide +kernel
theorem dX3_squares_30 : decode cX3_squares 30 = .ok (.iinc 2 1, 3) := by decide +kernel
theorem dX3_squares_33 : decode cX3_squares 33 = .ok (.goto (-29), 3) := by decide +kernel
theorem dX3_squares_36 : decode cX3_squares 36 = .ok (.iload_n 1, 1) := by decide +kernel
theorem dX3_squares_37 : decode cX3_squares 37 = .ok (.ireturn, 1) := by decide +kernel
theorem dX3_family_0 : decode cX3_family 0 = .ok (.aload_n 0, 1) := by decide +kernel
theorem dX3_family_1 : decode cX3_family 1 = .ok (.iload_n 1, 1) := by decide +kernel
theorem dX3_family_2 : decode cX3_family 2 = .ok (.invokevirtual 112, 3) := by decide +kernel
theorem dX3_family_5 : decode cX3_family 5 = .ok (.ifCond .eq 12, 3) := by decide +kernel
theorem dX3_family_8 : decode cX3_family 8 = .ok (.aload_n 0, 1) := by decide +kernel
theorem dX3_family_9 : decode cX3_family 9 = .ok (.getfield 13, 3) := by decide +kernel
theorem dX3_family_12 : decode cX3_family 12 = .ok (.iload_n 1, 1) := by decide +kernel
theorem dX3_family_13 : decode cX3_family 13 = .ok (.iaload, 1) := by decide +kernel
theorem dX3_family_14 : decode cX3_family 14 = .ok (.goto 4, 3) := by decide +kernel
theorem dX3_family_17 : decode cX3_family 17 = .ok (.iconst (-1), 1) := by decide +kernel
theorem dX3_family_18 : decode cX3_family 18 = .ok (.ireturn, 1) := by decide +kernel
theorem dX3_areFoes_0 : decode cX3_areFoes 0 = .ok (.aload_n 0, 1) := by decide +kernel
theorem dX3_areFoes_1 : decode cX3_areFoes 1 = .ok (.getfield 7, 3) := by decide +kernel
theorem dX3_areFoes_4 : decode cX3_areFoes 4 = .ok (.iload_n 1, 1) := by decide +kernel
theorem dX3_areFoes_5 : decode cX3_areFoes 5 = .ok (.iaload, 1) := by decide +kernel
theorem dX3_areFoes_6 : decode cX3_areFoes 6 = .ok (.iload_n 2, 1) := by decide +kernel
theorem dX3_areFoes_7 : decode cX3_areFoes 7 = .ok (.ishr, 1) := by decide +kernel
theorem dX3_areFoes_8 : decode cX3_areFoes 8 = .ok (.iconst 1, 1) := by decide +kernel
theorem dX3_areFoes_9 : decode cX3_areFoes 9 = .ok (.iand, 1) := by decide +kernel
theorem dX3_areFoes_10 : decode cX3_areFoes 10 = .ok (.iconst 1, 1) := by decide +kernel
theorem dX3_areFoes_11 : decode cX3_areFoes 11 = .ok (.if_icmp .ne 7, 3) := by decide +kernel
theorem dX3_areFoes_14 : decode cX3_areFoes 14 = .ok (.iconst 1, 1) := by decide +kernel
theorem dX3_areFoes_15 : decode cX3_areFoes 15 = .ok (.goto 4, 3) := by decide +kernel
theorem dX3_areFoes_18 : decode cX3_areFoes 18 = .ok (.iconst 0, 1) := by decide +kernel
theorem dX3_areFoes_19 : decode cX3_areFoes 19 = .ok (.ireturn, 1) := by decide +kernel
theorem dX3_foes_0 : decode cX3_foes 0 = .ok (.iload_n 1, 1) := by decide +kernel
theorem dX3_foes_1 : decode cX3_foes 1 = .ok (.invokestatic 115, 3) := by decide +kernel
theorem dX3_foes_4 : decode cX3_foes 4 = .ok (.ifCond .eq 10, 3) := by decide +kernel
theorem dX3_foes_7 : decode cX3_foes 7 = .ok (.iload_n 2, 1) := by decide +kernel
theorem dX3_foes_8 : decode cX3_foes 8 = .ok (.invokestatic 115, 3) := by decide +kernel
theorem dX3_foes_11 : decode cX3_foes 11 = .ok (.ifCond .ne 5, 3) := by decide +kernel
theorem dX3_foes_14 : decode cX3_foes 14 = .ok (.iconst (-1), 1) := by decide +kernel
theorem dX3_foes_15 : decode cX3_foes 15 = .ok (.ireturn, 1) := by decide +kernel
theorem dX3_foes_16 : decode cX3_foes 16 = .ok (.aload_n 0, 1) := by decide +kernel
theorem dX3_foes_17 : decode cX3_foes 17 = .ok (.getfield 7, 3) := by decide +kernel
theorem dX3_foes_20 : decode cX3_foes 20 = .ok (.iload_n 1, 1) := by decide +kernel
theorem dX3_foes_21 : decode cX3_foes 21 = .ok (.iload_n 3, 1) := by decide +kernel
theorem dX3_foes_22 : decode cX3_foes 22 = .ok (.ifCond .eq 16, 3) := by decide +kernel
theorem dX3_foes_25 : decode cX3_foes 25 = .ok (.aload_n 0, 1) := by decide +kernel
theorem dX3_foes_26 : decode cX3_foes 26 = .ok (.getfield 7, 3) := by decide +kernel
theorem dX3_foes_29 : decode cX3_foes 29 = .ok (.iload_n 1, 1) := by decide +kernel
theorem dX3_foes_30 : decode cX3_foes 30 = .ok (.iaload, 1) := by decide +kernel
theorem dX3_foes_31 : decode cX3_foes 31 = .ok (.iconst 1, 1) := by decide +kernel
theorem dX3_foes_32 : decode cX3_foes 32 = .ok (.iload_n 2, 1) := by decide +kernel
theorem dX3_foes_33 : decode cX3_foes 33 = .ok (.ishl, 1) := by decide +kernel
theorem dX3_foes_34 : decode cX3_foes 34 = .ok (.ior, 1) := by decide +kernel
theorem dX3_foes_35 : decode cX3_foes 35 = .ok (.goto 15, 3) := by decide +kernel
theorem dX3_foes_38 : decode cX3_foes 38 = .ok (.aload_n 0, 1) := by decide +kernel
theorem dX3_foes_39 : decode cX3_foes 39 = .ok (.getfield 7, 3) := by decide +kernel
theorem dX3_foes_42 : decode cX3_foes 42 = .ok (.iload_n 1, 1) := by decide +kernel
theorem dX3_foes_43 : decode cX3_foes 43 = .ok (.iaload, 1) := by decide +kernel
theorem dX3_foes_44 : decode cX3_foes 44 = .ok (.iconst 1, 1) := by decide +kernel
theorem dX3_foes_45 : decode cX3_foes 45 = .ok (.iload_n 2, 1) := by decide +kernel
theorem dX3_foes_46 : decode cX3_foes 46 = .ok (.ishl, 1) := by decide +kernel
theorem dX3_foes_47 : decode cX3_foes 47 = .ok (.iconst (-1), 1) := by decide +kernel
theorem dX3_foes_48 : decode cX3_foes 48 = .ok (.ixor, 1) := by decide +kernel
theorem dX3_foes_49 : decode cX3_foes 49 = .ok (.iand, 1) := by decide +kernel
theorem dX3_foes_50 : decode cX3_foes 50 = .ok (.iastore, 1) := by decide +kernel
theorem dX3_foes_51 : decode cX3_foes 51 = .ok (.aload_n 0, 1) := by decide +kernel
theorem dX3_foes_52 : decode cX3_foes 52 = .ok (.getfield 7, 3) := by decide +kernel
theorem dX3_foes_55 : decode cX3_foes 55 = .ok (.iload_n 2, 1) := by decide +kernel
theorem dX3_foes_56 : decode cX3_foes 56 = .ok (.iload_n 3, 1) := by decide +kernel
theorem dX3_foes_57 : decode cX3_foes 57 = .ok (.ifCond .eq 16, 3) := by decide +kernel
theorem dX3_foes_60 : decode cX3_foes 60 = .ok (.aload_n 0, 1) := by decide +kernel
theorem dX3_foes_61 : decode cX3_foes 61 = .ok (.getfield 7, 3) := by decide +kernel
theorem dX3_foes_64 : decode cX3_foes 64 = .ok (.iload_n 2, 1) := by decide +kernel
theorem dX3_foes_65 : decode cX3_foes 65 = .ok (.iaload, 1) := by decide +kernel
theorem dX3_foes_66 : decode cX3_foes 66 = .ok (.iconst 1, 1) := by decide +kernel
theorem dX3_foes_67 : decode cX3_foes 67 = .ok (.iload_n 1, 1) := by decide +kernel
theorem dX3_foes_68 : decode cX3_foes 68 = .ok (.ishl, 1) := by decide +kernel
theorem dX3_foes_69 : decode cX3_foes 69 = .ok (.ior, 1) := by decide +kernel
theorem dX3_foes_70 : decode cX3_foes 70 = .ok (.goto 15, 3) := by decide +kernel
theorem dX3_foes_73 : decode cX3_foes 73 = .ok (.aload_n 0, 1) := by decide +kernel
theorem dX3_foes_74 : decode cX3_foes 74 = .ok (.getfield 7, 3) := by decide +kernel
theorem dX3_foes_77 : decode cX3_foes 77 = .ok (.iload_n 2, 1) := by decide +kernel
theorem dX3_foes_78 : decode cX3_foes 78 = .ok (.iaload, 1) := by decide +kernel
theorem dX3_foes_79 : decode cX3_foes 79 = .ok (.iconst 1, 1) := by decide +kernel
theorem dX3_foes_80 : decode cX3_foes 80 = .ok (.iload_n 1, 1) := by decide +kernel
theorem dX3_foes_81 : decode cX3_foes 81 = .ok (.ishl, 1) := by decide +kernel
theorem dX3_foes_82 : decode cX3_foes 82 = .ok (.iconst (-1), 1) := by decide +kernel
theorem dX3_foes_83 : decode cX3_foes 83 = .ok (.ixor, 1) := by decide +kernel
theorem dX3_foes_84 : decode cX3_foes 84 = .ok (.iand, 1) := by decide +kernel
theorem dX3_foes_85 : decode cX3_foes 85 = .ok (.iastore, 1) := by decide +kernel
theorem dX3_foes_86 : decode cX3_foes 86 = .ok (.iconst 0, 1) := by decide +kernel
theorem dX3_foes_87 : decode cX3_foes 87 = .ok (.istore 4, 2) := by decide +kernel
theorem dX3_foes_89 : decode cX3_foes 89 = .ok (.iload 4, 2) := by decide +kernel
theorem dX3_foes_91 : decode cX3_foes 91 = .ok (.aload_n 0, 1) := by decide +kernel
theorem dX3_foes_92 : decode cX3_foes 92 = .ok (.invokevirtual 75, 3) := by decide +kernel
theorem dX3_foes_95 : decode cX3_foes 95 = .ok (.if_icmp .ge 80, 3) := by decide +kernel
theorem dX3_foes_98 : decode cX3_foes 98 = .ok (.iconst 0, 1) := by decide +kernel
theorem dX3_foes_99 : decode cX3_foes 99 = .ok (.istore 5, 2) := by decide +kernel
theorem dX3_foes_101 : decode cX3_foes 101 = .ok (.iload 5, 2) := by decide +kernel
theorem dX3_foes_103 : decode cX3_foes 103 = .ok (.aload_n 0, 1) := by decide +kernel
theorem dX3_foes_104 : decode cX3_foes 104 = .ok (.invokevirtual 75, 3) := by decide +kernel
theorem dX3_foes_107 : decode cX3_foes 107 = .ok (.if_icmp .ge 62, 3) := by decide +kernel
theorem dX3_foes_110 : decode cX3_foes 110 = .ok (.aload_n 0, 1) := by decide +kernel
theorem dX3_foes_111 : decode cX3_foes 111 = .ok (.getfield 16, 3) := by decide +kernel
theorem dX3_foes_114 : decode cX3_foes 114 = .ok (.iload 4, 2) := by decide +kernel
theorem dX3_foes_116 : decode cX3_foes 116 = .ok (.iaload, 1) := by decide +kernel
theorem dX3_foes_117 : decode cX3_foes 117 = .ok (.iload 5, 2) := by decide +kernel
theorem dX3_foes_119 : decode cX3_foes 119 = .ok (.ishr, 1) := by decide +kernel
theorem dX3_foes_120 : decode cX3_foes 120 = .ok (.iconst 1, 1) := by decide +kernel
theorem dX3_foes_121 : decode cX3_foes 121 = .ok (.iand, 1) := by decide +kernel
theorem dX3_foes_122 : decode cX3_foes 122 = .ok (.iconst 1, 1) := by decide +kernel
theorem dX3_foes_123 : decode cX3_foes 123 = .ok (.if_icmp .ne 40, 3) := by decide +kernel
theorem dX3_foes_126 : decode cX3_foes 126 = .ok (.aload_n 0, 1) := by decide +kernel
theorem dX3_foes_127 : decode cX3_foes 127 = .ok (.aload_n 0, 1) := by decide +kernel
theorem dX3_foes_128 : decode cX3_foes 128 = .ok (.getfield 13, 3) := by decide +kernel
theorem dX3_foes_131 : decode cX3_foes 131 = .ok (.iload 4, 2) := by decide +kernel
theorem dX3_foes_133 : decode cX3_foes 133 = .ok (.iaload, 1) := by decide +kernel
theorem dX3_foes_134 : decode cX3_foes 134 = .ok (.aload_n 0, 1) := by decide +kernel
theorem dX3_foes_135 : decode cX3_foes 135 = .ok (.getfield 13, 3) := by decide +kernel
theorem dX3_foes_138 : decode cX3_foes 138 = .ok (.iload 5, 2) := by decide +kernel
theorem dX3_foes_140 : decode cX3_foes 140 = .ok (.iaload, 1) := by decide +kernel
theorem dX3_foes_141 : decode cX3_foes 141 = .ok (.invokevirtual 118, 3) := by decide +kernel
theorem dX3_foes_144 : decode cX3_foes 144 = .ok (.ifCond .eq 19, 3) := by decide +kernel
theorem dX3_foes_147 : decode cX3_foes 147 = .ok (.aload_n 0, 1) := by decide +kernel
theorem dX3_foes_148 : decode cX3_foes 148 = .ok (.getfield 16, 3) := by decide +kernel
theorem dX3_foes_151 : decode cX3_foes 151 = .ok (.iload 4, 2) := by decide +kernel
theorem dX3_foes_153 : decode cX3_foes 153 = .ok (.dup2, 1) := by decide +kernel
theorem dX3_foes_154 : decode cX3_foes 154 = .ok (.iaload, 1) := by decide +kernel
theorem dX3_foes_155 : decode cX3_foes 155 = .ok (.iconst 1, 1) := by decide +kernel
theorem dX3_foes_156 : decode cX3_foes 156 = .ok (.iload 5, 2) := by decide +kernel
theorem dX3_foes_158 : decode cX3_foes 158 = .ok (.ishl, 1) := by decide +kernel
theorem dX3_foes_159 : decode cX3_foes 159 = .ok (.iconst (-1), 1) := by decide +kernel
theorem dX3_foes_160 : decode cX3_foes 160 = .ok (.ixor, 1) := by decide +kernel
theorem dX3_foes_161 : decode cX3_foes 161 = .ok (.iand, 1) := by decide +kernel
theorem dX3_foes_162 : decode cX3_foes 162 = .ok (.iastore, 1) := by decide +kernel
theorem dX3_foes_163 : decode cX3_foes 163 = .ok (.iinc 5 1, 3) := by decide +kernel
theorem dX3_foes_166 : decode cX3_foes 166 = .ok (.goto (-65), 3) := by decide +kernel
theorem dX3_foes_169 : decode cX3_foes 169 = .ok (.iinc 4 1, 3) := by decide +kernel
theorem dX3_foes_172 : decode cX3_foes 172 = .ok (.goto (-83), 3) := by decide +kernel
theorem dX3_foes_175 : decode cX3_foes 175 = .ok (.iconst 1, 1) := by decide +kernel
theorem dX3_foes_176 : decode cX3_foes 176 = .ok (.ireturn, 1) := by decide +kernel
theorem dX3_set_0 : decode cX3_set 0 = .ok (.iload_n 1, 1) := by decide +kernel
theorem dX3_set_1 : decode cX3_set 1 = .ok (.i2l, 1) := by decide +kernel
theorem dX3_set_2 : decode cX3_set 2 = .ok (.lconst 0, 1) := by decide +kernel
theorem dX3_set_3 : decode cX3_set 3 = .ok (.ldc2_w 122, 3) := by decide +kernel
theorem dX3_set_6 : decode cX3_set 6 = .ok (.invokestatic 79, 3) := by decide +kernel
theorem dX3_set_9 : decode cX3_set 9 = .ok (.ifCond .eq 26, 3) := by decide +kernel
theorem dX3_set_12 : decode cX3_set 12 = .ok (.iload_n 2, 1) := by decide +kernel
theorem dX3_set_13 : decode cX3_set 13 = .ok (.i2l, 1) := by decide +kernel
theorem dX3_set_14 : decode cX3_set 14 = .ok (.lconst 0, 1) := by decide +kernel
theorem dX3_set_15 : decode cX3_set 15 = .ok (.iload_n 1, 1) := by decide +kernel
theorem dX3_set_16 : decode cX3_set 16 = .ok (.iconst 2, 1) := by decide +kernel
theorem dX3_set_17 : decode cX3_set 17 = .ok (.if_icmp .ne 9, 3) := by decide +kernel
theorem dX3_set_20 : decode cX3_set 20 = .ok (.ldc2_w 85, 3) := by decide +kernel
theorem dX3_set_23 : decode cX3_set 23 = .ok (.goto 6, 3) := by decide +kernel
theorem dX3_set_26 : decode cX3_set 26 = .ok (.ldc2_w 124, 3) := by decide +kernel
theorem dX3_set_29 : decode cX3_set 29 = .ok (.invokestatic 79, 3) := by decide +kernel
theorem dX3_set_32 : decode cX3_set 32 = .ok (.ifCond .ne 6, 3) := by decide +kernel
theorem dX3_set_35 : decode cX3_set 35 = .ok (.bipush (-2), 2) := by decide +kernel
theorem dX3_set_37 : decode cX3_set 37 = .ok (.ireturn, 1) := by decide +kernel
theorem dX3_set_38 : decode cX3_set 38 = .ok (.iload_n 1, 1) := by decide +kernel
theorem dX3_set_39 : decode cX3_set 39 = .ok (.ifCond .ne 10, 3) := by decide +kernel
theorem dX3_set_42 : decode cX3_set 42 = .ok (.aload_n 0, 1) := by decide +kernel
theorem dX3_set_43 : decode cX3_set 43 = .ok (.getfield 55, 3) := by decide +kernel
theorem dX3_set_46 : decode cX3_set 46 = .ok (.goto 19, 3) := by decide +kernel
theorem dX3_set_49 : decode cX3_set 49 = .ok (.iload_n 1, 1) := by decide +kernel
theorem dX3_set_50 : decode cX3_set 50 = .ok (.iconst 1, 1) := by decide +kernel
theorem dX3_set_51 : decode cX3_set 51 = .ok (.if_icmp .ne 10, 3) := by decide +kernel
theorem dX3_set_54 : decode cX3_set 54 = .ok (.aload_n 0, 1) := by decide +kernel
theorem dX3_set_55 : decode cX3_set 55 = .ok (.getfield 59, 3) := by decide +kernel
theorem dX3_set_58 : decode cX3_set 58 = .ok (.goto 7, 3) := by decide +kernel
theorem dX3_set_61 : decode cX3_set 61 = .ok (.aload_n 0, 1) := by decide +kernel
theorem dX3_set_62 : decode cX3_set 62 = .ok (.getfield 62, 3) := by decide +kernel
theorem dX3_set_65 : decode cX3_set 65 = .ok (.istore_n 3, 1) := by decide +kernel
theorem dX3_set_66 : decode cX3_set 66 = .ok (.aload_n 0, 1) := by decide +kernel
theorem dX3_set_67 : decode cX3_set 67 = .ok (.iload_n 1, 1) := by decide +kernel
theorem dX3_set_68 : decode cX3_set 68 = .ok (.ifCond .ne 7, 3) := by decide +kernel
theorem dX3_set_71 : decode cX3_set 71 = .ok (.iload_n 2, 1) := by decide +kernel
theorem dX3_set_72 : decode cX3_set 72 = .ok (.goto 7, 3) := by decide +kernel
theorem dX3_set_75 : decode cX3_set 75 = .ok (.aload_n 0, 1) := by decide +kernel
theorem dX3_set_76 : decode cX3_set 76 = .ok (.getfield 55, 3) := by decide +kernel
theorem dX3_set_79 : decode cX3_set 79 = .ok (.putfield 55, 3) := by decide +kernel
theorem dX3_set_82 : decode cX3_set 82 = .ok (.aload_n 0, 1) := by decide +kernel
theorem dX3_set_83 : decode cX3_set 83 = .ok (.iload_n 1, 1) := by decide +kernel
theorem dX3_set_84 : decode cX3_set 84 = .ok (.iconst 1, 1) := by decide +kernel
theorem dX3_set_85 : decode cX3_set 85 = .ok (.if_icmp .ne 7, 3) := by decide +kernel
theorem dX3_set_88 : decode cX3_set 88 = .ok (.iload_n 2, 1) := by decide +kernel
theorem dX3_set_89 : decode cX3_set 89 = .ok (.goto 7, 3) := by decide +kernel
theorem dX3_set_92 : decode cX3_set 92 = .ok (.aload_n 0, 1) := by decide +kernel
theorem dX3_set_93 : decode cX3_set 93 = .ok (.getfield 59, 3) := by decide +kernel
theorem dX3_set_96 : decode cX3_set 96 = .ok (.putfield 59, 3) := by decide +kernel
theorem dX3_set_99 : decode cX3_set 99 = .ok (.aload_n 0, 1) := by decide +kernel
theorem dX3_set_100 : decode cX3_set 100 = .ok (.iload_n 1, 1) := by decide +kernel
theorem dX3_set_101 : decode cX3_set 101 = .ok (.iconst 2, 1) := by decide +kernel
theorem dX3_set_102 : decode cX3_set 102 = .ok (.if_icmp .ne 7, 3) := by decide +kernel
theorem dX3_set_105 : decode cX3_set 105 = .ok (.iload_n 2, 1) := by decide +kernel
theorem dX3_set_106 : decode cX3_set 106 = .ok (.goto 7, 3) := by decide +kernel
theorem dX3_set_109 : decode cX3_set 109 = .ok (.aload_n 0, 1) := by decide +kernel
theorem dX3_set_110 : decode cX3_set 110 = .ok (.getfield 62, 3) := by decide +kernel
theorem dX3_set_113 : decode cX3_set 113 = .ok (.putfield 62, 3) := by decide +kernel
theorem dX3_set_116 : decode cX3_set 116 = .ok (.iload_n 3, 1) := by decide +kernel
theorem dX3_set_117 : decode cX3_set 117 = .ok (.ireturn, 1) := by decide +kernel
theorem dX3_areNeighbours_0 : decode cX3_areNeighbours 0 = .ok (.iload_n 1, 1) := by decide +kernel
theorem dX3_areNeighbours_1 : decode cX3_areNeighbours 1 = .ok (.aload_n 0, 1) := by decide +kernel
theorem dX3_areNeighbours_2 : decode cX3_areNeighbours 2 = .ok (.getfield 72, 3) := by decide +kernel
theorem dX3_areNeighbours_5 : decode cX3_areNeighbours 5 = .ok (.irem, 1) := by decide +kernel
theorem dX3_areNeighbours_6 : decode cX3_areNeighbours 6 = .ok (.iload_n 2, 1) := by decide +kernel
theorem dX3_areNeighbours_7 : decode cX3_areNeighbours 7 = .ok (.aload_n 0, 1) := by decide +kernel
theorem dX3_areNeighbours_8 : decode cX3_areNeighbours 8 = .ok (.getfield 72, 3) := by decide +kernel
theorem dX3_areNeighbours_11 : decode cX3_areNeighbours 11 = .ok (.irem, 1) := by decide +kernel
theorem dX3_areNeighbours_12 : decode cX3_areNeighbours 12 = .ok (.isub, 1) := by decide +kernel
theorem dX3_areNeighbours_13 : decode cX3_areNeighbours 13 = .ok (.istore_n 3, 1) := by decide +kernel
theorem dX3_areNeighbours_14 : decode cX3_areNeighbours 14 = .ok (.iload_n 1, 1) := by decide +kernel
theorem dX3_areNeighbours_15 : decode cX3_areNeighbours 15 = .ok (.aload_n 0, 1) := by decide +kernel
theorem dX3_areNeighbours_16 : decode cX3_areNeighbours 16 = .ok (.getfield 72, 3) := by decide +kernel
theorem dX3_areNeighbours_19 : decode cX3_areNeighbours 19 = .ok (.idiv, 1) := by decide +kernel
theorem dX3_areNeighbours_20 : decode cX3_areNeighbours 20 = .ok (.iload_n 2, 1) := by decide +kernel
theorem dX3_areNeighbours_21 : decode cX3_areNeighbours 21 = .ok (.aload_n 0, 1) := by decide +kernel
theorem dX3_areNeighbours_22 : decode cX3_areNeighbours 22 = .ok (.getfield 72, 3) := by decide +kernel
theorem dX3_areNeighbours_25 : decode cX3_areNeighbours 25 = .ok (.idiv, 1) := by decide +kernel
theorem dX3_areNeighbours_26 : decode cX3_areNeighbours 26 = .ok (.isub, 1) := by decide +kernel
theorem dX3_areNeighbours_27 : decode cX3_areNeighbours 27 = .ok (.istore 4, 2) := by decide +kernel
theorem dX3_areNeighbours_29 : decode cX3_areNeighbours 29 = .ok (.iload_n 3, 1) := by decide +kernel
theorem dX3_areNeighbours_30 : decode cX3_areNeighbours 30 = .ok (.iload_n 3, 1) := by decide +kernel
theorem dX3_areNeighbours_31 : decode cX3_areNeighbours 31 = .ok (.imul, 1) := by decide +kernel
theorem dX3_areNeighbours_32 : decode cX3_areNeighbours 32 = .ok (.iload 4, 2) := by decide +kernel
theorem dX3_areNeighbours_34 : decode cX3_areNeighbours 34 = .ok (.iload 4, 2) := by decide +kernel
theorem dX3_areNeighbours_36 : decode cX3_areNeighbours 36 = .ok (.imul, 1) := by decide +kernel
theorem dX3_areNeighbours_37 : decode cX3_areNeighbours 37 = .ok (.iadd, 1) := by decide +kernel
theorem dX3_areNeighbours_38 : decode cX3_areNeighbours 38 = .ok (.iconst 1, 1) := by decide +kernel
theorem dX3_areNeighbours_39 : decode cX3_areNeighbours 39 = .ok (.if_icmp .ne 7, 3) := by decide +kernel
theorem dX3_areNeighbours_42 : decode cX3_areNeighbours 42 = .ok (.iconst 1, 1) := by decide +kernel
theorem dX3_areNeighbours_43 : decode cX3_areNeighbours 43 = .ok (.goto 4, 3) := by decide +kernel
theorem dX3_areNeighbours_46 : decode cX3_areNeighbours 46 = .ok (.iconst 0, 1) := by decide +kernel
theorem dX3_areNeighbours_47 : decode cX3_areNeighbours 47 = .ok (.ireturn, 1) := by decide +kernel
theorem dX3_threadOf_0 : decode cX3_threadOf 0 = .ok (.aload_n 0, 1) := by decide +kernel
theorem dX3_threadOf_1 : decode cX3_threadOf 1 = .ok (.getfield 13, 3) := by decide +kernel
theorem dX3_threadOf_4 : decode cX3_threadOf 4 = .ok (.iload_n 1, 1) := by decide +kernel
theorem dX3_threadOf_5 : decode cX3_threadOf 5 = .ok (.iaload, 1) := by decide +kernel
theorem dX3_threadOf_6 : decode cX3_threadOf 6 = .ok (.aload_n 0, 1) := by decide +kernel
theorem dX3_threadOf_7 : decode cX3_threadOf 7 = .ok (.getfield 13, 3) := by decide +kernel
theorem dX3_threadOf_10 : decode cX3_threadOf 10 = .ok (.iload_n 2, 1) := by decide +kernel
theorem dX3_threadOf_11 : decode cX3_threadOf 11 = .ok (.iaload, 1) := by decide +kernel
theorem dX3_threadOf_12 : decode cX3_threadOf 12 = .ok (.if_icmp .ne 10, 3) := by decide +kernel
theorem dX3_threadOf_15 : decode cX3_threadOf 15 = .ok (.aload_n 0, 1) := by decide +kernel
theorem dX3_threadOf_16 : decode cX3_threadOf 16 = .ok (.getfield 55, 3) := by decide +kernel
theorem dX3_threadOf_19 : decode cX3_threadOf 19 = .ok (.goto 7, 3) := by decide +kernel
theorem dX3_threadOf_22 : decode cX3_threadOf 22 = .ok (.aload_n 0, 1) := by decide +kernel
theorem dX3_threadOf_23 : decode cX3_threadOf 23 = .ok (.getfield 59, 3) := by decide +kernel
theorem dX3_threadOf_26 : decode cX3_threadOf 26 = .ok (.ireturn, 1) := by decide +kernel
theorem dX3_isSewn_0 : decode cX3_isSewn 0 = .ok (.aload_n 0, 1) := by decide +kernel
theorem dX3_isSewn_1 : decode cX3_isSewn 1 = .ok (.getfield 16, 3) := by decide +kernel
theorem dX3_isSewn_4 : decode cX3_isSewn 4 = .ok (.iload_n 1, 1) := by decide +kernel
theorem dX3_isSewn_5 : decode cX3_isSewn 5 = .ok (.iaload, 1) := by decide +kernel
theorem dX3_isSewn_6 : decode cX3_isSewn 6 = .ok (.iload_n 2, 1) := by decide +kernel
theorem dX3_isSewn_7 : decode cX3_isSewn 7 = .ok (.ishr, 1) := by decide +kernel
theorem dX3_isSewn_8 : decode cX3_isSewn 8 = .ok (.iconst 1, 1) := by decide +kernel
theorem dX3_isSewn_9 : decode cX3_isSewn 9 = .ok (.iand, 1) := by decide +kernel
theorem dX3_isSewn_10 : decode cX3_isSewn 10 = .ok (.iconst 1, 1) := by decide +kernel
theorem dX3_isSewn_11 : decode cX3_isSewn 11 = .ok (.if_icmp .ne 7, 3) := by decide +kernel
theorem dX3_isSewn_14 : decode cX3_isSewn 14 = .ok (.iconst 1, 1) := by decide +kernel
theorem dX3_isSewn_15 : decode cX3_isSewn 15 = .ok (.goto 4, 3) := by decide +kernel
theorem dX3_isSewn_18 : decode cX3_isSewn 18 = .ok (.iconst 0, 1) := by decide +kernel
theorem dX3_isSewn_19 : decode cX3_isSewn 19 = .ok (.ireturn, 1) := by decide +kernel
theorem dX3_sew_0 : decode cX3_sew 0 = .ok (.aload_n 0, 1) := by decide +kernel
theorem dX3_sew_1 : decode cX3_sew 1 = .ok (.iload_n 1, 1) := by decide +kernel
theorem dX3_sew_2 : decode cX3_sew 2 = .ok (.invokevirtual 112, 3) := by decide +kernel
theorem dX3_sew_5 : decode cX3_sew 5 = .ok (.ifCond .eq 11, 3) := by decide +kernel
theorem dX3_sew_8 : decode cX3_sew 8 = .ok (.aload_n 0, 1) := by decide +kernel
theorem dX3_sew_9 : decode cX3_sew 9 = .ok (.iload_n 2, 1) := by decide +kernel
theorem dX3_sew_10 : decode cX3_sew 10 = .ok (.invokevirtual 112, 3) := by decide +kernel
theorem dX3_sew_13 : decode cX3_sew 13 = .ok (.ifCond .ne 5, 3) := by decide +kernel
theorem dX3_sew_16 : decode cX3_sew 16 = .ok (.iconst (-1), 1) := by decide +kernel
theorem dX3_sew_17 : decode cX3_sew 17 = .ok (.ireturn, 1) := by decide +kernel
theorem dX3_sew_18 : decode cX3_sew 18 = .ok (.aload_n 0, 1) := by decide +kernel
theorem dX3_sew_19 : decode cX3_sew 19 = .ok (.iload_n 1, 1) := by decide +kernel
theorem dX3_sew_20 : decode cX3_sew 20 = .ok (.iload_n 2, 1) := by decide +kernel
theorem dX3_sew_21 : decode cX3_sew 21 = .ok (.invokevirtual 126, 3) := by decide +kernel
theorem dX3_sew_24 : decode cX3_sew 24 = .ok (.ifCond .eq 28, 3) := by decide +kernel
theorem dX3_sew_27 : decode cX3_sew 27 = .ok (.aload_n 0, 1) := by decide +kernel
theorem dX3_sew_28 : decode cX3_sew 28 = .ok (.iload_n 1, 1) := by decide +kernel
theorem dX3_sew_29 : decode cX3_sew 29 = .ok (.invokevirtual 108, 3) := by decide +kernel
theorem dX3_sew_32 : decode cX3_sew 32 = .ok (.ifCond .eq 20, 3) := by decide +kernel
theorem dX3_sew_35 : decode cX3_sew 35 = .ok (.aload_n 0, 1) := by decide +kernel
theorem dX3_sew_36 : decode cX3_sew 36 = .ok (.iload_n 2, 1) := by decide +kernel
theorem dX3_sew_37 : decode cX3_sew 37 = .ok (.invokevirtual 108, 3) := by decide +kernel
theorem dX3_sew_40 : decode cX3_sew 40 = .ok (.ifCond .eq 12, 3) := by decide +kernel
theorem dX3_sew_43 : decode cX3_sew 43 = .ok (.aload_n 0, 1) := by decide +kernel
theorem dX3_sew_44 : decode cX3_sew 44 = .ok (.iload_n 1, 1) := by decide +kernel
theorem dX3_sew_45 : decode cX3_sew 45 = .ok (.iload_n 2, 1) := by decide +kernel
theorem dX3_sew_46 : decode cX3_sew 46 = .ok (.invokevirtual 129, 3) := by decide +kernel
theorem dX3_sew_49 : decode cX3_sew 49 = .ok (.ifCond .eq 6, 3) := by decide +kernel
theorem dX3_sew_52 : decode cX3_sew 52 = .ok (.bipush (-3), 2) := by decide +kernel
theorem dX3_sew_54 : decode cX3_sew 54 = .ok (.ireturn, 1) := by decide +kernel
theorem dX3_sew_55 : decode cX3_sew 55 = .ok (.aload_n 0, 1) := by decide +kernel
theorem dX3_sew_56 : decode cX3_sew 56 = .ok (.aload_n 0, 1) := by decide +kernel
theorem dX3_sew_57 : decode cX3_sew 57 = .ok (.getfield 13, 3) := by decide +kernel
theorem dX3_sew_60 : decode cX3_sew 60 = .ok (.iload_n 1, 1) := by decide +kernel
theorem dX3_sew_61 : decode cX3_sew 61 = .ok (.iaload, 1) := by decide +kernel
theorem dX3_sew_62 : decode cX3_sew 62 = .ok (.aload_n 0, 1) := by decide +kernel
theorem dX3_sew_63 : decode cX3_sew 63 = .ok (.getfield 13, 3) := by decide +kernel
theorem dX3_sew_66 : decode cX3_sew 66 = .ok (.iload_n 2, 1) := by decide +kernel
theorem dX3_sew_67 : decode cX3_sew 67 = .ok (.iaload, 1) := by decide +kernel
theorem dX3_sew_68 : decode cX3_sew 68 = .ok (.invokevirtual 118, 3) := by decide +kernel
theorem dX3_sew_71 : decode cX3_sew 71 = .ok (.ifCond .eq 6, 3) := by decide +kernel
theorem dX3_sew_74 : decode cX3_sew 74 = .ok (.bipush (-5), 2) := by decide +kernel
theorem dX3_sew_76 : decode cX3_sew 76 = .ok (.ireturn, 1) := by decide +kernel
theorem dX3_sew_77 : decode cX3_sew 77 = .ok (.aload_n 0, 1) := by decide +kernel
theorem dX3_sew_78 : decode cX3_sew 78 = .ok (.getfield 16, 3) := by decide +kernel
theorem dX3_sew_81 : decode cX3_sew 81 = .ok (.iload_n 1, 1) := by decide +kernel
theorem dX3_sew_82 : decode cX3_sew 82 = .ok (.dup2, 1) := by decide +kernel
theorem dX3_sew_83 : decode cX3_sew 83 = .ok (.iaload, 1) := by decide +kernel
theorem dX3_sew_84 : decode cX3_sew 84 = .ok (.iconst 1, 1) := by decide +kernel
theorem dX3_sew_85 : decode cX3_sew 85 = .ok (.iload_n 2, 1) := by decide +kernel
theorem dX3_sew_86 : decode cX3_sew 86 = .ok (.ishl, 1) := by decide +kernel
theorem dX3_sew_87 : decode cX3_sew 87 = .ok (.ior, 1) := by decide +kernel
theorem dX3_sew_88 : decode cX3_sew 88 = .ok (.iastore, 1) := by decide +kernel
theorem dX3_sew_89 : decode cX3_sew 89 = .ok (.aload_n 0, 1) := by decide +kernel
theorem dX3_sew_90 : decode cX3_sew 90 = .ok (.getfield 16, 3) := by decide +kernel
theorem dX3_sew_93 : decode cX3_sew 93 = .ok (.iload_n 2, 1) := by decide +kernel
theorem dX3_sew_94 : decode cX3_sew 94 = .ok (.dup2, 1) := by decide +kernel
theorem dX3_sew_95 : decode cX3_sew 95 = .ok (.iaload, 1) := by decide +kernel
theorem dX3_sew_96 : decode cX3_sew 96 = .ok (.iconst 1, 1) := by decide +kernel
theorem dX3_sew_97 : decode cX3_sew 97 = .ok (.iload_n 1, 1) := by decide +kernel
theorem dX3_sew_98 : decode cX3_sew 98 = .ok (.ishl, 1) := by decide +kernel
theorem dX3_sew_99 : decode cX3_sew 99 = .ok (.ior, 1) := by decide +kernel
theorem dX3_sew_100 : decode cX3_sew 100 = .ok (.iastore, 1) := by decide +kernel
theorem dX3_sew_101 : decode cX3_sew 101 = .ok (.aload_n 0, 1) := by decide +kernel
theorem dX3_sew_102 : decode cX3_sew 102 = .ok (.iload_n 1, 1) := by decide +kernel
theorem dX3_sew_103 : decode cX3_sew 103 = .ok (.iload_n 2, 1) := by decide +kernel
theorem dX3_sew_104 : decode cX3_sew 104 = .ok (.invokevirtual 132, 3) := by decide +kernel
theorem dX3_sew_107 : decode cX3_sew 107 = .ok (.ireturn, 1) := by decide +kernel
theorem dX3_unpick_0 : decode cX3_unpick 0 = .ok (.aload_n 0, 1) := by decide +kernel
theorem dX3_unpick_1 : decode cX3_unpick 1 = .ok (.iload_n 1, 1) := by decide +kernel
theorem dX3_unpick_2 : decode cX3_unpick 2 = .ok (.invokevirtual 112, 3) := by decide +kernel
theorem dX3_unpick_5 : decode cX3_unpick 5 = .ok (.ifCond .eq 11, 3) := by decide +kernel
theorem dX3_unpick_8 : decode cX3_unpick 8 = .ok (.aload_n 0, 1) := by decide +kernel
theorem dX3_unpick_9 : decode cX3_unpick 9 = .ok (.iload_n 2, 1) := by decide +kernel
theorem dX3_unpick_10 : decode cX3_unpick 10 = .ok (.invokevirtual 112, 3) := by decide +kernel
theorem dX3_unpick_13 : decode cX3_unpick 13 = .ok (.ifCond .ne 5, 3) := by decide +kernel
theorem dX3_unpick_16 : decode cX3_unpick 16 = .ok (.iconst (-1), 1) := by decide +kernel
theorem dX3_unpick_17 : decode cX3_unpick 17 = .ok (.ireturn, 1) := by decide +kernel
theorem dX3_unpick_18 : decode cX3_unpick 18 = .ok (.aload_n 0, 1) := by decide +kernel
theorem dX3_unpick_19 : decode cX3_unpick 19 = .ok (.iload_n 1, 1) := by decide +kernel
theorem dX3_unpick_20 : decode cX3_unpick 20 = .ok (.iload_n 2, 1) := by decide +kernel
theorem dX3_unpick_21 : decode cX3_unpick 21 = .ok (.invokevirtual 129, 3) := by decide +kernel
theorem dX3_unpick_24 : decode cX3_unpick 24 = .ok (.ifCond .ne 6, 3) := by decide +kernel
theorem dX3_unpick_27 : decode cX3_unpick 27 = .ok (.bipush (-3), 2) := by decide +kernel
theorem dX3_unpick_29 : decode cX3_unpick 29 = .ok (.ireturn, 1) := by decide +kernel
theorem dX3_unpick_30 : decode cX3_unpick 30 = .ok (.aload_n 0, 1) := by decide +kernel
theorem dX3_unpick_31 : decode cX3_unpick 31 = .ok (.getfield 16, 3) := by decide +kernel
theorem dX3_unpick_34 : decode cX3_unpick 34 = .ok (.iload_n 1, 1) := by decide +kernel
theorem dX3_unpick_35 : decode cX3_unpick 35 = .ok (.dup2, 1) := by decide +kernel
theorem dX3_unpick_36 : decode cX3_unpick 36 = .ok (.iaload, 1) := by decide +kernel
theorem dX3_unpick_37 : decode cX3_unpick 37 = .ok (.iconst 1, 1) := by decide +kernel
theorem dX3_unpick_38 : decode cX3_unpick 38 = .ok (.iload_n 2, 1) := by decide +kernel
theorem dX3_unpick_39 : decode cX3_unpick 39 = .ok (.ishl, 1) := by decide +kernel
theorem dX3_unpick_40 : decode cX3_unpick 40 = .ok (.iconst (-1), 1) := by decide +kernel
theorem dX3_unpick_41 : decode cX3_unpick 41 = .ok (.ixor, 1) := by decide +kernel
theorem dX3_unpick_42 : decode cX3_unpick 42 = .ok (.iand, 1) := by decide +kernel
theorem dX3_unpick_43 : decode cX3_unpick 43 = .ok (.iastore, 1) := by decide +kernel
theorem dX3_unpick_44 : decode cX3_unpick 44 = .ok (.aload_n 0, 1) := by decide +kernel
theorem dX3_unpick_45 : decode cX3_unpick 45 = .ok (.getfield 16, 3) := by decide +kernel
theorem dX3_unpick_48 : decode cX3_unpick 48 = .ok (.iload_n 2, 1) := by decide +kernel
theorem dX3_unpick_49 : decode cX3_unpick 49 = .ok (.dup2, 1) := by decide +kernel
theorem dX3_unpick_50 : decode cX3_unpick 50 = .ok (.iaload, 1) := by decide +kernel
theorem dX3_unpick_51 : decode cX3_unpick 51 = .ok (.iconst 1, 1) := by decide +kernel
theorem dX3_unpick_52 : decode cX3_unpick 52 = .ok (.iload_n 1, 1) := by decide +kernel
theorem dX3_unpick_53 : decode cX3_unpick 53 = .ok (.ishl, 1) := by decide +kernel
theorem dX3_unpick_54 : decode cX3_unpick 54 = .ok (.iconst (-1), 1) := by decide +kernel
theorem dX3_unpick_55 : decode cX3_unpick 55 = .ok (.ixor, 1) := by decide +kernel
theorem dX3_unpick_56 : decode cX3_unpick 56 = .ok (.iand, 1) := by decide +kernel
theorem dX3_unpick_57 : decode cX3_unpick 57 = .ok (.iastore, 1) := by decide +kernel
theorem dX3_unpick_58 : decode cX3_unpick 58 = .ok (.aload_n 0, 1) := by decide +kernel
theorem dX3_unpick_59 : decode cX3_unpick 59 = .ok (.iload_n 1, 1) := by decide +kernel
theorem dX3_unpick_60 : decode cX3_unpick 60 = .ok (.iload_n 2, 1) := by decide +kernel
theorem dX3_unpick_61 : decode cX3_unpick 61 = .ok (.invokevirtual 132, 3) := by decide +kernel
theorem dX3_unpick_64 : decode cX3_unpick 64 = .ok (.ireturn, 1) := by decide +kernel
theorem dX3_bear_0 : decode cX3_bear 0 = .ok (.aload_n 0, 1) := by decide +kernel
theorem dX3_bear_1 : decode cX3_bear 1 = .ok (.getfield 13, 3) := by decide +kernel
theorem dX3_bear_4 : decode cX3_bear 4 = .ok (.iload_n 1, 1) := by decide +kernel
theorem dX3_bear_5 : decode cX3_bear 5 = .ok (.iload_n 2, 1) := by decide +kernel
theorem dX3_bear_6 : decode cX3_bear 6 = .ok (.iastore, 1) := by decide +kernel
theorem dX3_bear_7 : decode cX3_bear 7 = .ok (.aload_n 0, 1) := by decide +kernel
theorem dX3_bear_8 : decode cX3_bear 8 = .ok (.getfield 16, 3) := by decide +kernel
theorem dX3_bear_11 : decode cX3_bear 11 = .ok (.iload_n 1, 1) := by decide +kernel
theorem dX3_bear_12 : decode cX3_bear 12 = .ok (.iconst 0, 1) := by decide +kernel
theorem dX3_bear_13 : decode cX3_bear 13 = .ok (.iastore, 1) := by decide +kernel
theorem dX3_bear_14 : decode cX3_bear 14 = .ok (.iconst 0, 1) := by decide +kernel
theorem dX3_bear_15 : decode cX3_bear 15 = .ok (.istore_n 3, 1) := by decide +kernel
theorem dX3_bear_16 : decode cX3_bear 16 = .ok (.iload_n 3, 1) := by decide +kernel
theorem dX3_bear_17 : decode cX3_bear 17 = .ok (.aload_n 0, 1) := by decide +kernel
theorem dX3_bear_18 : decode cX3_bear 18 = .ok (.invokevirtual 75, 3) := by decide +kernel
theorem dX3_bear_21 : decode cX3_bear 21 = .ok (.if_icmp .ge 64, 3) := by decide +kernel
theorem dX3_bear_24 : decode cX3_bear 24 = .ok (.aload_n 0, 1) := by decide +kernel
theorem dX3_bear_25 : decode cX3_bear 25 = .ok (.iload_n 3, 1) := by decide +kernel
theorem dX3_bear_26 : decode cX3_bear 26 = .ok (.invokevirtual 108, 3) := by decide +kernel
theorem dX3_bear_29 : decode cX3_bear 29 = .ok (.ifCond .eq 50, 3) := by decide +kernel
theorem dX3_bear_32 : decode cX3_bear 32 = .ok (.aload_n 0, 1) := by decide +kernel
theorem dX3_bear_33 : decode cX3_bear 33 = .ok (.iload_n 1, 1) := by decide +kernel
theorem dX3_bear_34 : decode cX3_bear 34 = .ok (.iload_n 3, 1) := by decide +kernel
theorem dX3_bear_35 : decode cX3_bear 35 = .ok (.invokevirtual 126, 3) := by decide +kernel
theorem dX3_bear_38 : decode cX3_bear 38 = .ok (.ifCond .eq 41, 3) := by decide +kernel
theorem dX3_bear_41 : decode cX3_bear 41 = .ok (.aload_n 0, 1) := by decide +kernel
theorem dX3_bear_42 : decode cX3_bear 42 = .ok (.iload_n 2, 1) := by decide +kernel
theorem dX3_bear_43 : decode cX3_bear 43 = .ok (.aload_n 0, 1) := by decide +kernel
theorem dX3_bear_44 : decode cX3_bear 44 = .ok (.getfield 13, 3) := by decide +kernel
theorem dX3_bear_47 : decode cX3_bear 47 = .ok (.iload_n 3, 1) := by decide +kernel
theorem dX3_bear_48 : decode cX3_bear 48 = .ok (.iaload, 1) := by decide +kernel
theorem dX3_bear_49 : decode cX3_bear 49 = .ok (.invokevirtual 118, 3) := by decide +kernel
theorem dX3_bear_52 : decode cX3_bear 52 = .ok (.ifCond .ne 27, 3) := by decide +kernel
theorem dX3_bear_55 : decode cX3_bear 55 = .ok (.aload_n 0, 1) := by decide +kernel
theorem dX3_bear_56 : decode cX3_bear 56 = .ok (.getfield 16, 3) := by decide +kernel
theorem dX3_bear_59 : decode cX3_bear 59 = .ok (.iload_n 1, 1) := by decide +kernel
theorem dX3_bear_60 : decode cX3_bear 60 = .ok (.dup2, 1) := by decide +kernel
theorem dX3_bear_61 : decode cX3_bear 61 = .ok (.iaload, 1) := by decide +kernel
theorem dX3_bear_62 : decode cX3_bear 62 = .ok (.iconst 1, 1) := by decide +kernel
theorem dX3_bear_63 : decode cX3_bear 63 = .ok (.iload_n 3, 1) := by decide +kernel
theorem dX3_bear_64 : decode cX3_bear 64 = .ok (.ishl, 1) := by decide +kernel
theorem dX3_bear_65 : decode cX3_bear 65 = .ok (.ior, 1) := by decide +kernel
theorem dX3_bear_66 : decode cX3_bear 66 = .ok (.iastore, 1) := by decide +kernel
theorem dX3_bear_67 : decode cX3_bear 67 = .ok (.aload_n 0, 1) := by decide +kernel
theorem dX3_bear_68 : decode cX3_bear 68 = .ok (.getfield 16, 3) := by decide +kernel
theorem dX3_bear_71 : decode cX3_bear 71 = .ok (.iload_n 3, 1) := by decide +kernel
theorem dX3_bear_72 : decode cX3_bear 72 = .ok (.dup2, 1) := by decide +kernel
theorem dX3_bear_73 : decode cX3_bear 73 = .ok (.iaload, 1) := by decide +kernel
theorem dX3_bear_74 : decode cX3_bear 74 = .ok (.iconst 1, 1) := by decide +kernel
theorem dX3_bear_75 : decode cX3_bear 75 = .ok (.iload_n 1, 1) := by decide +kernel
theorem dX3_bear_76 : decode cX3_bear 76 = .ok (.ishl, 1) := by decide +kernel
theorem dX3_bear_77 : decode cX3_bear 77 = .ok (.ior, 1) := by decide +kernel
theorem dX3_bear_78 : decode cX3_bear 78 = .ok (.iastore, 1) := by decide +kernel
theorem dX3_bear_79 : decode cX3_bear 79 = .ok (.iinc 3 1, 3) := by decide +kernel
theorem dX3_bear_82 : decode cX3_bear 82 = .ok (.goto (-66), 3) := by decide +kernel
theorem dX3_bear_85 : decode cX3_bear 85 = .ok (.aload_n 0, 1) := by decide +kernel
theorem dX3_bear_86 : decode cX3_bear 86 = .ok (.getfield 16, 3) := by decide +kernel
theorem dX3_bear_89 : decode cX3_bear 89 = .ok (.iload_n 1, 1) := by decide +kernel
theorem dX3_bear_90 : decode cX3_bear 90 = .ok (.iaload, 1) := by decide +kernel
theorem dX3_bear_91 : decode cX3_bear 91 = .ok (.invokestatic 104, 3) := by decide +kernel
theorem dX3_bear_94 : decode cX3_bear 94 = .ok (.ireturn, 1) := by decide +kernel
theorem dX3_die_0 : decode cX3_die 0 = .ok (.aload_n 0, 1) := by decide +kernel
theorem dX3_die_1 : decode cX3_die 1 = .ok (.getfield 16, 3) := by decide +kernel
theorem dX3_die_4 : decode cX3_die 4 = .ok (.iload_n 1, 1) := by decide +kernel
theorem dX3_die_5 : decode cX3_die 5 = .ok (.iaload, 1) := by decide +kernel
theorem dX3_die_6 : decode cX3_die 6 = .ok (.invokestatic 104, 3) := by decide +kernel
theorem dX3_die_9 : decode cX3_die 9 = .ok (.istore_n 2, 1) := by decide +kernel
theorem dX3_die_10 : decode cX3_die 10 = .ok (.aload_n 0, 1) := by decide +kernel
theorem dX3_die_11 : decode cX3_die 11 = .ok (.getfield 13, 3) := by decide +kernel
theorem dX3_die_14 : decode cX3_die 14 = .ok (.iload_n 1, 1) := by decide +kernel
theorem dX3_die_15 : decode cX3_die 15 = .ok (.bipush (-6), 2) := by decide +kernel
theorem dX3_die_17 : decode cX3_die 17 = .ok (.iastore, 1) := by decide +kernel
theorem dX3_die_18 : decode cX3_die 18 = .ok (.aload_n 0, 1) := by decide +kernel
theorem dX3_die_19 : decode cX3_die 19 = .ok (.getfield 16, 3) := by decide +kernel
theorem dX3_die_22 : decode cX3_die 22 = .ok (.iload_n 1, 1) := by decide +kernel
theorem dX3_die_23 : decode cX3_die 23 = .ok (.iconst 0, 1) := by decide +kernel
theorem dX3_die_24 : decode cX3_die 24 = .ok (.iastore, 1) := by decide +kernel
theorem dX3_die_25 : decode cX3_die 25 = .ok (.iconst 0, 1) := by decide +kernel
theorem dX3_die_26 : decode cX3_die 26 = .ok (.istore_n 3, 1) := by decide +kernel
theorem dX3_die_27 : decode cX3_die 27 = .ok (.iload_n 3, 1) := by decide +kernel
theorem dX3_die_28 : decode cX3_die 28 = .ok (.aload_n 0, 1) := by decide +kernel
theorem dX3_die_29 : decode cX3_die 29 = .ok (.invokevirtual 75, 3) := by decide +kernel
theorem dX3_die_32 : decode cX3_die 32 = .ok (.if_icmp .ge 23, 3) := by decide +kernel
theorem dX3_die_35 : decode cX3_die 35 = .ok (.aload_n 0, 1) := by decide +kernel
theorem dX3_die_36 : decode cX3_die 36 = .ok (.getfield 16, 3) := by decide +kernel
theorem dX3_die_39 : decode cX3_die 39 = .ok (.iload_n 3, 1) := by decide +kernel
theorem dX3_die_40 : decode cX3_die 40 = .ok (.dup2, 1) := by decide +kernel
theorem dX3_die_41 : decode cX3_die 41 = .ok (.iaload, 1) := by decide +kernel
theorem dX3_die_42 : decode cX3_die 42 = .ok (.iconst 1, 1) := by decide +kernel
theorem dX3_die_43 : decode cX3_die 43 = .ok (.iload_n 1, 1) := by decide +kernel
theorem dX3_die_44 : decode cX3_die 44 = .ok (.ishl, 1) := by decide +kernel
theorem dX3_die_45 : decode cX3_die 45 = .ok (.iconst (-1), 1) := by decide +kernel
theorem dX3_die_46 : decode cX3_die 46 = .ok (.ixor, 1) := by decide +kernel
theorem dX3_die_47 : decode cX3_die 47 = .ok (.iand, 1) := by decide +kernel
theorem dX3_die_48 : decode cX3_die 48 = .ok (.iastore, 1) := by decide +kernel
theorem dX3_die_49 : decode cX3_die 49 = .ok (.iinc 3 1, 3) := by decide +kernel
theorem dX3_die_52 : decode cX3_die 52 = .ok (.goto (-25), 3) := by decide +kernel
theorem dX3_die_55 : decode cX3_die 55 = .ok (.iload_n 2, 1) := by decide +kernel
theorem dX3_die_56 : decode cX3_die 56 = .ok (.ireturn, 1) := by decide +kernel
theorem dX3_birth_0 : decode cX3_birth 0 = .ok (.aload_n 0, 1) := by decide +kernel
theorem dX3_birth_1 : decode cX3_birth 1 = .ok (.iload_n 1, 1) := by decide +kernel
theorem dX3_birth_2 : decode cX3_birth 2 = .ok (.invokevirtual 112, 3) := by decide +kernel
theorem dX3_birth_5 : decode cX3_birth 5 = .ok (.ifCond .eq 10, 3) := by decide +kernel
theorem dX3_birth_8 : decode cX3_birth 8 = .ok (.iload_n 2, 1) := by decide +kernel
theorem dX3_birth_9 : decode cX3_birth 9 = .ok (.invokestatic 115, 3) := by decide +kernel
theorem dX3_birth_12 : decode cX3_birth 12 = .ok (.ifCond .ne 5, 3) := by decide +kernel
theorem dX3_birth_15 : decode cX3_birth 15 = .ok (.iconst (-1), 1) := by decide +kernel
theorem dX3_birth_16 : decode cX3_birth 16 = .ok (.ireturn, 1) := by decide +kernel
theorem dX3_birth_17 : decode cX3_birth 17 = .ok (.aload_n 0, 1) := by decide +kernel
theorem dX3_birth_18 : decode cX3_birth 18 = .ok (.iload_n 1, 1) := by decide +kernel
theorem dX3_birth_19 : decode cX3_birth 19 = .ok (.invokevirtual 108, 3) := by decide +kernel
theorem dX3_birth_22 : decode cX3_birth 22 = .ok (.ifCond .eq 8, 3) := by decide +kernel
theorem dX3_birth_25 : decode cX3_birth 25 = .ok (.bipush (-3), 2) := by decide +kernel
theorem dX3_birth_27 : decode cX3_birth 27 = .ok (.goto 9, 3) := by decide +kernel
theorem dX3_birth_30 : decode cX3_birth 30 = .ok (.aload_n 0, 1) := by decide +kernel
theorem dX3_birth_31 : decode cX3_birth 31 = .ok (.iload_n 1, 1) := by decide +kernel
theorem dX3_birth_32 : decode cX3_birth 32 = .ok (.iload_n 2, 1) := by decide +kernel
theorem dX3_birth_33 : decode cX3_birth 33 = .ok (.invokevirtual 136, 3) := by decide +kernel
theorem dX3_birth_36 : decode cX3_birth 36 = .ok (.ireturn, 1) := by decide +kernel
theorem dX3_death_0 : decode cX3_death 0 = .ok (.aload_n 0, 1) := by decide +kernel
theorem dX3_death_1 : decode cX3_death 1 = .ok (.iload_n 1, 1) := by decide +kernel
theorem dX3_death_2 : decode cX3_death 2 = .ok (.invokevirtual 112, 3) := by decide +kernel
theorem dX3_death_5 : decode cX3_death 5 = .ok (.ifCond .ne 5, 3) := by decide +kernel
theorem dX3_death_8 : decode cX3_death 8 = .ok (.iconst (-1), 1) := by decide +kernel
theorem dX3_death_9 : decode cX3_death 9 = .ok (.ireturn, 1) := by decide +kernel
theorem dX3_death_10 : decode cX3_death 10 = .ok (.aload_n 0, 1) := by decide +kernel
theorem dX3_death_11 : decode cX3_death 11 = .ok (.iload_n 1, 1) := by decide +kernel
theorem dX3_death_12 : decode cX3_death 12 = .ok (.invokevirtual 108, 3) := by decide +kernel
theorem dX3_death_15 : decode cX3_death 15 = .ok (.ifCond .eq 11, 3) := by decide +kernel
theorem dX3_death_18 : decode cX3_death 18 = .ok (.aload_n 0, 1) := by decide +kernel
theorem dX3_death_19 : decode cX3_death 19 = .ok (.iload_n 1, 1) := by decide +kernel
theorem dX3_death_20 : decode cX3_death 20 = .ok (.invokevirtual 139, 3) := by decide +kernel
theorem dX3_death_23 : decode cX3_death 23 = .ok (.goto 5, 3) := by decide +kernel
theorem dX3_death_26 : decode cX3_death 26 = .ok (.bipush (-3), 2) := by decide +kernel
theorem dX3_death_28 : decode cX3_death 28 = .ok (.ireturn, 1) := by decide +kernel
theorem dX3_pieceOf_0 : decode cX3_pieceOf 0 = .ok (.iconst 1, 1) := by decide +kernel
theorem dX3_pieceOf_1 : decode cX3_pieceOf 1 = .ok (.iload_n 1, 1) := by decide +kernel
theorem dX3_pieceOf_2 : decode cX3_pieceOf 2 = .ok (.ishl, 1) := by decide +kernel
theorem dX3_pieceOf_3 : decode cX3_pieceOf 3 = .ok (.istore_n 3, 1) := by decide +kernel
theorem dX3_pieceOf_4 : decode cX3_pieceOf 4 = .ok (.iconst 0, 1) := by decide +kernel
theorem dX3_pieceOf_5 : decode cX3_pieceOf 5 = .ok (.istore 4, 2) := by decide +kernel
theorem dX3_pieceOf_7 : decode cX3_pieceOf 7 = .ok (.iload 4, 2) := by decide +kernel
theorem dX3_pieceOf_9 : decode cX3_pieceOf 9 = .ok (.bipush 16, 2) := by decide +kernel
theorem dX3_pieceOf_11 : decode cX3_pieceOf 11 = .ok (.if_icmp .ge 53, 3) := by decide +kernel
theorem dX3_pieceOf_14 : decode cX3_pieceOf 14 = .ok (.iconst 0, 1) := by decide +kernel
theorem dX3_pieceOf_15 : decode cX3_pieceOf 15 = .ok (.istore 5, 2) := by decide +kernel
theorem dX3_pieceOf_17 : decode cX3_pieceOf 17 = .ok (.iload 5, 2) := by decide +kernel
theorem dX3_pieceOf_19 : decode cX3_pieceOf 19 = .ok (.aload_n 0, 1) := by decide +kernel
theorem dX3_pieceOf_20 : decode cX3_pieceOf 20 = .ok (.invokevirtual 75, 3) := by decide +kernel
theorem dX3_pieceOf_23 : decode cX3_pieceOf 23 = .ok (.if_icmp .ge 35, 3) := by decide +kernel
theorem dX3_pieceOf_26 : decode cX3_pieceOf 26 = .ok (.iload_n 3, 1) := by decide +kernel
theorem dX3_pieceOf_27 : decode cX3_pieceOf 27 = .ok (.iload_n 3, 1) := by decide +kernel
theorem dX3_pieceOf_28 : decode cX3_pieceOf 28 = .ok (.iload 5, 2) := by decide +kernel
theorem dX3_pieceOf_30 : decode cX3_pieceOf 30 = .ok (.ishr, 1) := by decide +kernel
theorem dX3_pieceOf_31 : decode cX3_pieceOf 31 = .ok (.iconst 1, 1) := by decide +kernel
theorem dX3_pieceOf_32 : decode cX3_pieceOf 32 = .ok (.iand, 1) := by decide +kernel
theorem dX3_pieceOf_33 : decode cX3_pieceOf 33 = .ok (.iconst 1, 1) := by decide +kernel
theorem dX3_pieceOf_34 : decode cX3_pieceOf 34 = .ok (.if_icmp .ne 15, 3) := by decide +kernel
theorem dX3_pieceOf_37 : decode cX3_pieceOf 37 = .ok (.aload_n 0, 1) := by decide +kernel
theorem dX3_pieceOf_38 : decode cX3_pieceOf 38 = .ok (.getfield 16, 3) := by decide +kernel
theorem dX3_pieceOf_41 : decode cX3_pieceOf 41 = .ok (.iload 5, 2) := by decide +kernel
theorem dX3_pieceOf_43 : decode cX3_pieceOf 43 = .ok (.iaload, 1) := by decide +kernel
theorem dX3_pieceOf_44 : decode cX3_pieceOf 44 = .ok (.iload_n 2, 1) := by decide +kernel
theorem dX3_pieceOf_45 : decode cX3_pieceOf 45 = .ok (.iand, 1) := by decide +kernel
theorem dX3_pieceOf_46 : decode cX3_pieceOf 46 = .ok (.goto 4, 3) := by decide +kernel
theorem dX3_pieceOf_49 : decode cX3_pieceOf 49 = .ok (.iconst 0, 1) := by decide +kernel
theorem dX3_pieceOf_50 : decode cX3_pieceOf 50 = .ok (.ior, 1) := by decide +kernel
theorem dX3_pieceOf_51 : decode cX3_pieceOf 51 = .ok (.istore_n 3, 1) := by decide +kernel
theorem dX3_pieceOf_52 : decode cX3_pieceOf 52 = .ok (.iinc 5 1, 3) := by decide +kernel
theorem dX3_pieceOf_55 : decode cX3_pieceOf 55 = .ok (.goto (-38), 3) := by decide +kernel
theorem dX3_pieceOf_58 : decode cX3_pieceOf 58 = .ok (.iinc 4 1, 3) := by decide +kernel
theorem dX3_pieceOf_61 : decode cX3_pieceOf 61 = .ok (.goto (-54), 3) := by decide +kernel
theorem dX3_pieceOf_64 : decode cX3_pieceOf 64 = .ok (.iload_n 3, 1) := by decide +kernel
theorem dX3_pieceOf_65 : decode cX3_pieceOf 65 = .ok (.ireturn, 1) := by decide +kernel
theorem dX3_piecesOf_0 : decode cX3_piecesOf 0 = .ok (.iload_n 1, 1) := by decide +kernel
theorem dX3_piecesOf_1 : decode cX3_piecesOf 1 = .ok (.istore_n 2, 1) := by decide +kernel
theorem dX3_piecesOf_2 : decode cX3_piecesOf 2 = .ok (.iconst 0, 1) := by decide +kernel
theorem dX3_piecesOf_3 : decode cX3_piecesOf 3 = .ok (.istore_n 3, 1) := by decide +kernel
theorem dX3_piecesOf_4 : decode cX3_piecesOf 4 = .ok (.iconst 0, 1) := by decide +kernel
theorem dX3_piecesOf_5 : decode cX3_piecesOf 5 = .ok (.istore 4, 2) := by decide +kernel
theorem dX3_piecesOf_7 : decode cX3_piecesOf 7 = .ok (.iload 4, 2) := by decide +kernel
theorem dX3_piecesOf_9 : decode cX3_piecesOf 9 = .ok (.aload_n 0, 1) := by decide +kernel
theorem dX3_piecesOf_10 : decode cX3_piecesOf 10 = .ok (.invokevirtual 75, 3) := by decide +kernel
theorem dX3_piecesOf_13 : decode cX3_piecesOf 13 = .ok (.if_icmp .ge 34, 3) := by decide +kernel
theorem dX3_piecesOf_16 : decode cX3_piecesOf 16 = .ok (.iload_n 2, 1) := by decide +kernel
theorem dX3_piecesOf_17 : decode cX3_piecesOf 17 = .ok (.iload 4, 2) := by decide +kernel
theorem dX3_piecesOf_19 : decode cX3_piecesOf 19 = .ok (.ishr, 1) := by decide +kernel
theorem dX3_piecesOf_20 : decode cX3_piecesOf 20 = .ok (.iconst 1, 1) := by decide +kernel
theorem dX3_piecesOf_21 : decode cX3_piecesOf 21 = .ok (.iand, 1) := by decide +kernel
theorem dX3_piecesOf_22 : decode cX3_piecesOf 22 = .ok (.iconst 1, 1) := by decide +kernel
theorem dX3_piecesOf_23 : decode cX3_piecesOf 23 = .ok (.if_icmp .ne 18, 3) := by decide +kernel
theorem dX3_piecesOf_26 : decode cX3_piecesOf 26 = .ok (.iload_n 2, 1) := by decide +kernel
theorem dX3_piecesOf_27 : decode cX3_piecesOf 27 = .ok (.aload_n 0, 1) := by decide +kernel
theorem dX3_piecesOf_28 : decode cX3_piecesOf 28 = .ok (.iload 4, 2) := by decide +kernel
theorem dX3_piecesOf_30 : decode cX3_piecesOf 30 = .ok (.iload_n 1, 1) := by decide +kernel
theorem dX3_piecesOf_31 : decode cX3_piecesOf 31 = .ok (.invokevirtual 142, 3) := by decide +kernel
theorem dX3_piecesOf_34 : decode cX3_piecesOf 34 = .ok (.iconst (-1), 1) := by decide +kernel
theorem dX3_piecesOf_35 : decode cX3_piecesOf 35 = .ok (.ixor, 1) := by decide +kernel
theorem dX3_piecesOf_36 : decode cX3_piecesOf 36 = .ok (.iand, 1) := by decide +kernel
theorem dX3_piecesOf_37 : decode cX3_piecesOf 37 = .ok (.istore_n 2, 1) := by decide +kernel
theorem dX3_piecesOf_38 : decode cX3_piecesOf 38 = .ok (.iinc 3 1, 3) := by decide +kernel
theorem dX3_piecesOf_41 : decode cX3_piecesOf 41 = .ok (.iinc 4 1, 3) := by decide +kernel
theorem dX3_piecesOf_44 : decode cX3_piecesOf 44 = .ok (.goto (-37), 3) := by decide +kernel
theorem dX3_piecesOf_47 : decode cX3_piecesOf 47 = .ok (.iload_n 3, 1) := by decide +kernel
theorem dX3_piecesOf_48 : decode cX3_piecesOf 48 = .ok (.ireturn, 1) := by decide +kernel
theorem dX3_pieces_0 : decode cX3_pieces 0 = .ok (.iload_n 1, 1) := by decide +kernel
theorem dX3_pieces_1 : decode cX3_pieces 1 = .ok (.iconst (-1), 1) := by decide +kernel
theorem dX3_pieces_2 : decode cX3_pieces 2 = .ok (.if_icmp .ne 12, 3) := by decide +kernel
theorem dX3_pieces_5 : decode cX3_pieces 5 = .ok (.aload_n 0, 1) := by decide +kernel
theorem dX3_pieces_6 : decode cX3_pieces 6 = .ok (.aload_n 0, 1) := by decide +kernel
theorem dX3_pieces_7 : decode cX3_pieces 7 = .ok (.invokevirtual 101, 3) := by decide +kernel
theorem dX3_pieces_10 : decode cX3_pieces 10 = .ok (.invokevirtual 145, 3) := by decide +kernel
theorem dX3_pieces_13 : decode cX3_pieces 13 = .ok (.ireturn, 1) := by decide +kernel
theorem dX3_pieces_14 : decode cX3_pieces 14 = .ok (.aload_n 0, 1) := by decide +kernel
theorem dX3_pieces_15 : decode cX3_pieces 15 = .ok (.iload_n 1, 1) := by decide +kernel
theorem dX3_pieces_16 : decode cX3_pieces 16 = .ok (.invokevirtual 112, 3) := by decide +kernel
theorem dX3_pieces_19 : decode cX3_pieces 19 = .ok (.ifCond .ne 5, 3) := by decide +kernel
theorem dX3_pieces_22 : decode cX3_pieces 22 = .ok (.iconst (-1), 1) := by decide +kernel
theorem dX3_pieces_23 : decode cX3_pieces 23 = .ok (.ireturn, 1) := by decide +kernel
theorem dX3_pieces_24 : decode cX3_pieces 24 = .ok (.aload_n 0, 1) := by decide +kernel
theorem dX3_pieces_25 : decode cX3_pieces 25 = .ok (.iload_n 1, 1) := by decide +kernel
theorem dX3_pieces_26 : decode cX3_pieces 26 = .ok (.invokevirtual 108, 3) := by decide +kernel
theorem dX3_pieces_29 : decode cX3_pieces 29 = .ok (.ifCond .eq 15, 3) := by decide +kernel
theorem dX3_pieces_32 : decode cX3_pieces 32 = .ok (.aload_n 0, 1) := by decide +kernel
theorem dX3_pieces_33 : decode cX3_pieces 33 = .ok (.iload_n 1, 1) := by decide +kernel
theorem dX3_pieces_34 : decode cX3_pieces 34 = .ok (.aload_n 0, 1) := by decide +kernel
theorem dX3_pieces_35 : decode cX3_pieces 35 = .ok (.invokevirtual 101, 3) := by decide +kernel
theorem dX3_pieces_38 : decode cX3_pieces 38 = .ok (.invokevirtual 142, 3) := by decide +kernel
theorem dX3_pieces_41 : decode cX3_pieces 41 = .ok (.goto 5, 3) := by decide +kernel
theorem dX3_pieces_44 : decode cX3_pieces 44 = .ok (.bipush (-3), 2) := by decide +kernel
theorem dX3_pieces_46 : decode cX3_pieces 46 = .ok (.ireturn, 1) := by decide +kernel
theorem dX3_cold_0 : decode cX3_cold 0 = .ok (.iconst 0, 1) := by decide +kernel
theorem dX3_cold_1 : decode cX3_cold 1 = .ok (.istore_n 1, 1) := by decide +kernel
theorem dX3_cold_2 : decode cX3_cold 2 = .ok (.iconst 0, 1) := by decide +kernel
theorem dX3_cold_3 : decode cX3_cold 3 = .ok (.istore_n 2, 1) := by decide +kernel
theorem dX3_cold_4 : decode cX3_cold 4 = .ok (.iload_n 2, 1) := by decide +kernel
theorem dX3_cold_5 : decode cX3_cold 5 = .ok (.aload_n 0, 1) := by decide +kernel
theorem dX3_cold_6 : decode cX3_cold 6 = .ok (.invokevirtual 75, 3) := by decide +kernel
theorem dX3_cold_9 : decode cX3_cold 9 = .ok (.if_icmp .ge 43, 3) := by decide +kernel
theorem dX3_cold_12 : decode cX3_cold 12 = .ok (.iload_n 1, 1) := by decide +kernel
theorem dX3_cold_13 : decode cX3_cold 13 = .ok (.aload_n 0, 1) := by decide +kernel
theorem dX3_cold_14 : decode cX3_cold 14 = .ok (.iload_n 2, 1) := by decide +kernel
theorem dX3_cold_15 : decode cX3_cold 15 = .ok (.invokevirtual 108, 3) := by decide +kernel
theorem dX3_cold_18 : decode cX3_cold 18 = .ok (.ifCond .eq 25, 3) := by decide +kernel
theorem dX3_cold_21 : decode cX3_cold 21 = .ok (.aload_n 0, 1) := by decide +kernel
theorem dX3_cold_22 : decode cX3_cold 22 = .ok (.getfield 16, 3) := by decide +kernel
theorem dX3_cold_25 : decode cX3_cold 25 = .ok (.iload_n 2, 1) := by decide +kernel
theorem dX3_cold_26 : decode cX3_cold 26 = .ok (.iaload, 1) := by decide +kernel
theorem dX3_cold_27 : decode cX3_cold 27 = .ok (.invokestatic 104, 3) := by decide +kernel
theorem dX3_cold_30 : decode cX3_cold 30 = .ok (.aload_n 0, 1) := by decide +kernel
theorem dX3_cold_31 : decode cX3_cold 31 = .ok (.getfield 62, 3) := by decide +kernel
theorem dX3_cold_34 : decode cX3_cold 34 = .ok (.if_icmp .ge 9, 3) := by decide +kernel
theorem dX3_cold_37 : decode cX3_cold 37 = .ok (.iconst 1, 1) := by decide +kernel
theorem dX3_cold_38 : decode cX3_cold 38 = .ok (.iload_n 2, 1) := by decide +kernel
theorem dX3_cold_39 : decode cX3_cold 39 = .ok (.ishl, 1) := by decide +kernel
theorem dX3_cold_40 : decode cX3_cold 40 = .ok (.goto 4, 3) := by decide +kernel
theorem dX3_cold_43 : decode cX3_cold 43 = .ok (.iconst 0, 1) := by decide +kernel
theorem dX3_cold_44 : decode cX3_cold 44 = .ok (.ior, 1) := by decide +kernel
theorem dX3_cold_45 : decode cX3_cold 45 = .ok (.istore_n 1, 1) := by decide +kernel
theorem dX3_cold_46 : decode cX3_cold 46 = .ok (.iinc 2 1, 3) := by decide +kernel
theorem dX3_cold_49 : decode cX3_cold 49 = .ok (.goto (-45), 3) := by decide +kernel
theorem dX3_cold_52 : decode cX3_cold 52 = .ok (.iload_n 1, 1) := by decide +kernel
theorem dX3_cold_53 : decode cX3_cold 53 = .ok (.ireturn, 1) := by decide +kernel
theorem dX3_spent_0 : decode cX3_spent 0 = .ok (.iconst 0, 1) := by decide +kernel
theorem dX3_spent_1 : decode cX3_spent 1 = .ok (.istore_n 1, 1) := by decide +kernel
theorem dX3_spent_2 : decode cX3_spent 2 = .ok (.iconst 0, 1) := by decide +kernel
theorem dX3_spent_3 : decode cX3_spent 3 = .ok (.istore_n 2, 1) := by decide +kernel
theorem dX3_spent_4 : decode cX3_spent 4 = .ok (.iload_n 2, 1) := by decide +kernel
theorem dX3_spent_5 : decode cX3_spent 5 = .ok (.aload_n 0, 1) := by decide +kernel
theorem dX3_spent_6 : decode cX3_spent 6 = .ok (.invokevirtual 75, 3) := by decide +kernel
theorem dX3_spent_9 : decode cX3_spent 9 = .ok (.if_icmp .ge 49, 3) := by decide +kernel
theorem dX3_spent_12 : decode cX3_spent 12 = .ok (.iload_n 2, 1) := by decide +kernel
theorem dX3_spent_13 : decode cX3_spent 13 = .ok (.iconst 1, 1) := by decide +kernel
theorem dX3_spent_14 : decode cX3_spent 14 = .ok (.iadd, 1) := by decide +kernel
theorem dX3_spent_15 : decode cX3_spent 15 = .ok (.istore_n 3, 1) := by decide +kernel
theorem dX3_spent_16 : decode cX3_spent 16 = .ok (.iload_n 3, 1) := by decide +kernel
theorem dX3_spent_17 : decode cX3_spent 17 = .ok (.aload_n 0, 1) := by decide +kernel
theorem dX3_spent_18 : decode cX3_spent 18 = .ok (.invokevirtual 75, 3) := by decide +kernel
theorem dX3_spent_21 : decode cX3_spent 21 = .ok (.if_icmp .ge 31, 3) := by decide +kernel
theorem dX3_spent_24 : decode cX3_spent 24 = .ok (.iload_n 1, 1) := by decide +kernel
theorem dX3_spent_25 : decode cX3_spent 25 = .ok (.aload_n 0, 1) := by decide +kernel
theorem dX3_spent_26 : decode cX3_spent 26 = .ok (.iload_n 2, 1) := by decide +kernel
theorem dX3_spent_27 : decode cX3_spent 27 = .ok (.iload_n 3, 1) := by decide +kernel
theorem dX3_spent_28 : decode cX3_spent 28 = .ok (.invokevirtual 129, 3) := by decide +kernel
theorem dX3_spent_31 : decode cX3_spent 31 = .ok (.ifCond .eq 12, 3) := by decide +kernel
theorem dX3_spent_34 : decode cX3_spent 34 = .ok (.aload_n 0, 1) := by decide +kernel
theorem dX3_spent_35 : decode cX3_spent 35 = .ok (.iload_n 2, 1) := by decide +kernel
theorem dX3_spent_36 : decode cX3_spent 36 = .ok (.iload_n 3, 1) := by decide +kernel
theorem dX3_spent_37 : decode cX3_spent 37 = .ok (.invokevirtual 132, 3) := by decide +kernel
theorem dX3_spent_40 : decode cX3_spent 40 = .ok (.goto 4, 3) := by decide +kernel
theorem dX3_spent_43 : decode cX3_spent 43 = .ok (.iconst 0, 1) := by decide +kernel
theorem dX3_spent_44 : decode cX3_spent 44 = .ok (.iadd, 1) := by decide +kernel
theorem dX3_spent_45 : decode cX3_spent 45 = .ok (.istore_n 1, 1) := by decide +kernel
theorem dX3_spent_46 : decode cX3_spent 46 = .ok (.iinc 3 1, 3) := by decide +kernel
theorem dX3_spent_49 : decode cX3_spent 49 = .ok (.goto (-33), 3) := by decide +kernel
theorem dX3_spent_52 : decode cX3_spent 52 = .ok (.iinc 2 1, 3) := by decide +kernel
theorem dX3_spent_55 : decode cX3_spent 55 = .ok (.goto (-51), 3) := by decide +kernel
theorem dX3_spent_58 : decode cX3_spent 58 = .ok (.iload_n 1, 1) := by decide +kernel
theorem dX3_spent_59 : decode cX3_spent 59 = .ok (.ireturn, 1) := by decide +kernel
theorem dX3_parts_0 : decode cX3_parts 0 = .ok (.aload_n 0, 1) := by decide +kernel
theorem dX3_parts_1 : decode cX3_parts 1 = .ok (.invokevirtual 101, 3) := by decide +kernel
theorem dX3_parts_4 : decode cX3_parts 4 = .ok (.istore_n 1, 1) := by decide +kernel
theorem dX3_parts_5 : decode cX3_parts 5 = .ok (.aload_n 0, 1) := by decide +kernel
theorem dX3_parts_6 : decode cX3_parts 6 = .ok (.iload_n 1, 1) := by decide +kernel
theorem dX3_parts_7 : decode cX3_parts 7 = .ok (.invokevirtual 145, 3) := by decide +kernel
theorem dX3_parts_10 : decode cX3_parts 10 = .ok (.istore_n 2, 1) := by decide +kernel
theorem dX3_parts_11 : decode cX3_parts 11 = .ok (.iconst 0, 1) := by decide +kernel
theorem dX3_parts_12 : decode cX3_parts 12 = .ok (.istore_n 3, 1) := by decide +kernel
theorem dX3_parts_13 : decode cX3_parts 13 = .ok (.iconst 0, 1) := by decide +kernel
theorem dX3_parts_14 : decode cX3_parts 14 = .ok (.istore 4, 2) := by decide +kernel
theorem dX3_parts_16 : decode cX3_parts 16 = .ok (.iload 4, 2) := by decide +kernel
theorem dX3_parts_18 : decode cX3_parts 18 = .ok (.aload_n 0, 1) := by decide +kernel
theorem dX3_parts_19 : decode cX3_parts 19 = .ok (.invokevirtual 75, 3) := by decide +kernel
theorem dX3_parts_22 : decode cX3_parts 22 = .ok (.if_icmp .ge 45, 3) := by decide +kernel
theorem dX3_parts_25 : decode cX3_parts 25 = .ok (.iload_n 3, 1) := by decide +kernel
theorem dX3_parts_26 : decode cX3_parts 26 = .ok (.aload_n 0, 1) := by decide +kernel
theorem dX3_parts_27 : decode cX3_parts 27 = .ok (.iload 4, 2) := by decide +kernel
theorem dX3_parts_29 : decode cX3_parts 29 = .ok (.invokevirtual 108, 3) := by decide +kernel
theorem dX3_parts_32 : decode cX3_parts 32 = .ok (.ifCond .eq 26, 3) := by decide +kernel
theorem dX3_parts_35 : decode cX3_parts 35 = .ok (.aload_n 0, 1) := by decide +kernel
theorem dX3_parts_36 : decode cX3_parts 36 = .ok (.iload_n 1, 1) := by decide +kernel
theorem dX3_parts_37 : decode cX3_parts 37 = .ok (.iconst 1, 1) := by decide +kernel
theorem dX3_parts_38 : decode cX3_parts 38 = .ok (.iload 4, 2) := by decide +kernel
theorem dX3_parts_40 : decode cX3_parts 40 = .ok (.ishl, 1) := by decide +kernel
theorem dX3_parts_41 : decode cX3_parts 41 = .ok (.iconst (-1), 1) := by decide +kernel
theorem dX3_parts_42 : decode cX3_parts 42 = .ok (.ixor, 1) := by decide +kernel
theorem dX3_parts_43 : decode cX3_parts 43 = .ok (.iand, 1) := by decide +kernel
theorem dX3_parts_44 : decode cX3_parts 44 = .ok (.invokevirtual 145, 3) := by decide +kernel
theorem dX3_parts_47 : decode cX3_parts 47 = .ok (.iload_n 2, 1) := by decide +kernel
theorem dX3_parts_48 : decode cX3_parts 48 = .ok (.if_icmp .le 10, 3) := by decide +kernel
theorem dX3_parts_51 : decode cX3_parts 51 = .ok (.iconst 1, 1) := by decide +kernel
theorem dX3_parts_52 : decode cX3_parts 52 = .ok (.iload 4, 2) := by decide +kernel
theorem dX3_parts_54 : decode cX3_parts 54 = .ok (.ishl, 1) := by decide +kernel
theorem dX3_parts_55 : decode cX3_parts 55 = .ok (.goto 4, 3) := by decide +kernel
theorem dX3_parts_58 : decode cX3_parts 58 = .ok (.iconst 0, 1) := by decide +kernel
theorem dX3_parts_59 : decode cX3_parts 59 = .ok (.ior, 1) := by decide +kernel
theorem dX3_parts_60 : decode cX3_parts 60 = .ok (.istore_n 3, 1) := by decide +kernel
theorem dX3_parts_61 : decode cX3_parts 61 = .ok (.iinc 4 1, 3) := by decide +kernel
theorem dX3_parts_64 : decode cX3_parts 64 = .ok (.goto (-48), 3) := by decide +kernel
theorem dX3_parts_67 : decode cX3_parts 67 = .ok (.iload_n 3, 1) := by decide +kernel
theorem dX3_parts_68 : decode cX3_parts 68 = .ok (.ireturn, 1) := by decide +kernel
theorem dX3_canSew_0 : decode cX3_canSew 0 = .ok (.aload_n 0, 1) := by decide +kernel
theorem dX3_canSew_1 : decode cX3_canSew 1 = .ok (.iload_n 1, 1) := by decide +kernel
theorem dX3_canSew_2 : decode cX3_canSew 2 = .ok (.invokevirtual 108, 3) := by decide +kernel
theorem dX3_canSew_5 : decode cX3_canSew 5 = .ok (.ifCond .eq 43, 3) := by decide +kernel
theorem dX3_canSew_8 : decode cX3_canSew 8 = .ok (.aload_n 0, 1) := by decide +kernel
theorem dX3_canSew_9 : decode cX3_canSew 9 = .ok (.iload_n 2, 1) := by decide +kernel
theorem dX3_canSew_10 : decode cX3_canSew 10 = .ok (.invokevirtual 108, 3) := by decide +kernel
theorem dX3_canSew_13 : decode cX3_canSew 13 = .ok (.ifCond .eq 35, 3) := by decide +kernel
theorem dX3_canSew_16 : decode cX3_canSew 16 = .ok (.aload_n 0, 1) := by decide +kernel
theorem dX3_canSew_17 : decode cX3_canSew 17 = .ok (.iload_n 1, 1) := by decide +kernel
theorem dX3_canSew_18 : decode cX3_canSew 18 = .ok (.iload_n 2, 1) := by decide +kernel
theorem dX3_canSew_19 : decode cX3_canSew 19 = .ok (.invokevirtual 126, 3) := by decide +kernel
theorem dX3_canSew_22 : decode cX3_canSew 22 = .ok (.ifCond .eq 26, 3) := by decide +kernel
theorem dX3_canSew_25 : decode cX3_canSew 25 = .ok (.aload_n 0, 1) := by decide +kernel
theorem dX3_canSew_26 : decode cX3_canSew 26 = .ok (.aload_n 0, 1) := by decide +kernel
theorem dX3_canSew_27 : decode cX3_canSew 27 = .ok (.getfield 13, 3) := by decide +kernel
theorem dX3_canSew_30 : decode cX3_canSew 30 = .ok (.iload_n 1, 1) := by decide +kernel
theorem dX3_canSew_31 : decode cX3_canSew 31 = .ok (.iaload, 1) := by decide +kernel
theorem dX3_canSew_32 : decode cX3_canSew 32 = .ok (.aload_n 0, 1) := by decide +kernel
theorem dX3_canSew_33 : decode cX3_canSew 33 = .ok (.getfield 13, 3) := by decide +kernel
theorem dX3_canSew_36 : decode cX3_canSew 36 = .ok (.iload_n 2, 1) := by decide +kernel
theorem dX3_canSew_37 : decode cX3_canSew 37 = .ok (.iaload, 1) := by decide +kernel
theorem dX3_canSew_38 : decode cX3_canSew 38 = .ok (.invokevirtual 118, 3) := by decide +kernel
theorem dX3_canSew_41 : decode cX3_canSew 41 = .ok (.ifCond .ne 7, 3) := by decide +kernel
theorem dX3_canSew_44 : decode cX3_canSew 44 = .ok (.iconst 1, 1) := by decide +kernel
theorem dX3_canSew_45 : decode cX3_canSew 45 = .ok (.goto 4, 3) := by decide +kernel
theorem dX3_canSew_48 : decode cX3_canSew 48 = .ok (.iconst 0, 1) := by decide +kernel
theorem dX3_canSew_49 : decode cX3_canSew 49 = .ok (.ireturn, 1) := by decide +kernel
theorem dX3_takeSeam_0 : decode cX3_takeSeam 0 = .ok (.bipush (-6), 2) := by decide +kernel
theorem dX3_takeSeam_2 : decode cX3_takeSeam 2 = .ok (.istore_n 1, 1) := by decide +kernel
theorem dX3_takeSeam_3 : decode cX3_takeSeam 3 = .ok (.ldc 148, 2) := by decide +kernel
theorem dX3_takeSeam_5 : decode cX3_takeSeam 5 = .ok (.istore_n 2, 1) := by decide +kernel
theorem dX3_takeSeam_6 : decode cX3_takeSeam 6 = .ok (.iconst 0, 1) := by decide +kernel
theorem dX3_takeSeam_7 : decode cX3_takeSeam 7 = .ok (.istore_n 3, 1) := by decide +kernel
theorem dX3_takeSeam_8 : decode cX3_takeSeam 8 = .ok (.iload_n 3, 1) := by decide +kernel
theorem dX3_takeSeam_9 : decode cX3_takeSeam 9 = .ok (.aload_n 0, 1) := by decide +kernel
theorem dX3_takeSeam_10 : decode cX3_takeSeam 10 = .ok (.invokevirtual 75, 3) := by decide +kernel
theorem dX3_takeSeam_13 : decode cX3_takeSeam 13 = .ok (.if_icmp .ge 82, 3) := by decide +kernel
theorem dX3_takeSeam_16 : decode cX3_takeSeam 16 = .ok (.iload_n 3, 1) := by decide +kernel
theorem dX3_takeSeam_17 : decode cX3_takeSeam 17 = .ok (.iconst 1, 1) := by decide +kernel
theorem dX3_takeSeam_18 : decode cX3_takeSeam 18 = .ok (.iadd, 1) := by decide +kernel
theorem dX3_takeSeam_19 : decode cX3_takeSeam 19 = .ok (.istore 4, 2) := by decide +kernel
theorem dX3_takeSeam_21 : decode cX3_takeSeam 21 = .ok (.iload 4, 2) := by decide +kernel
theorem dX3_takeSeam_23 : decode cX3_takeSeam 23 = .ok (.aload_n 0, 1) := by decide +kernel
theorem dX3_takeSeam_24 : decode cX3_takeSeam 24 = .ok (.invokevirtual 75, 3) := by decide +kernel
theorem dX3_takeSeam_27 : decode cX3_takeSeam 27 = .ok (.if_icmp .ge 62, 3) := by decide +kernel
theorem dX3_takeSeam_30 : decode cX3_takeSeam 30 = .ok (.aload_n 0, 1) := by decide +kernel
theorem dX3_takeSeam_31 : decode cX3_takeSeam 31 = .ok (.iload_n 3, 1) := by decide +kernel
theorem dX3_takeSeam_32 : decode cX3_takeSeam 32 = .ok (.iload 4, 2) := by decide +kernel
theorem dX3_takeSeam_34 : decode cX3_takeSeam 34 = .ok (.invokevirtual 149, 3) := by decide +kernel
theorem dX3_takeSeam_37 : decode cX3_takeSeam 37 = .ok (.ifCond .eq 46, 3) := by decide +kernel
theorem dX3_takeSeam_40 : decode cX3_takeSeam 40 = .ok (.aload_n 0, 1) := by decide +kernel
theorem dX3_takeSeam_41 : decode cX3_takeSeam 41 = .ok (.getfield 22, 3) := by decide +kernel
theorem dX3_takeSeam_44 : decode cX3_takeSeam 44 = .ok (.iload_n 3, 1) := by decide +kernel
theorem dX3_takeSeam_45 : decode cX3_takeSeam 45 = .ok (.iaload, 1) := by decide +kernel
theorem dX3_takeSeam_46 : decode cX3_takeSeam 46 = .ok (.aload_n 0, 1) := by decide +kernel
theorem dX3_takeSeam_47 : decode cX3_takeSeam 47 = .ok (.getfield 22, 3) := by decide +kernel
theorem dX3_takeSeam_50 : decode cX3_takeSeam 50 = .ok (.iload 4, 2) := by decide +kernel
theorem dX3_takeSeam_52 : decode cX3_takeSeam 52 = .ok (.iaload, 1) := by decide +kernel
theorem dX3_takeSeam_53 : decode cX3_takeSeam 53 = .ok (.if_icmp .eq 30, 3) := by decide +kernel
theorem dX3_takeSeam_56 : decode cX3_takeSeam 56 = .ok (.aload_n 0, 1) := by decide +kernel
theorem dX3_takeSeam_57 : decode cX3_takeSeam 57 = .ok (.iload_n 3, 1) := by decide +kernel
theorem dX3_takeSeam_58 : decode cX3_takeSeam 58 = .ok (.iload 4, 2) := by decide +kernel
theorem dX3_takeSeam_60 : decode cX3_takeSeam 60 = .ok (.invokevirtual 132, 3) := by decide +kernel
theorem dX3_takeSeam_63 : decode cX3_takeSeam 63 = .ok (.iload_n 2, 1) := by decide +kernel
theorem dX3_takeSeam_64 : decode cX3_takeSeam 64 = .ok (.if_icmp .ge 19, 3) := by decide +kernel
theorem dX3_takeSeam_67 : decode cX3_takeSeam 67 = .ok (.bipush 16, 2) := by decide +kernel
theorem dX3_takeSeam_69 : decode cX3_takeSeam 69 = .ok (.iload_n 3, 1) := by decide +kernel
theorem dX3_takeSeam_70 : decode cX3_takeSeam 70 = .ok (.imul, 1) := by decide +kernel
theorem dX3_takeSeam_71 : decode cX3_takeSeam 71 = .ok (.iload 4, 2) := by decide +kernel
theorem dX3_takeSeam_73 : decode cX3_takeSeam 73 = .ok (.iadd, 1) := by decide +kernel
theorem dX3_takeSeam_74 : decode cX3_takeSeam 74 = .ok (.istore_n 1, 1) := by decide +kernel
theorem dX3_takeSeam_75 : decode cX3_takeSeam 75 = .ok (.aload_n 0, 1) := by decide +kernel
theorem dX3_takeSeam_76 : decode cX3_takeSeam 76 = .ok (.iload_n 3, 1) := by decide +kernel
theorem dX3_takeSeam_77 : decode cX3_takeSeam 77 = .ok (.iload 4, 2) := by decide +kernel
theorem dX3_takeSeam_79 : decode cX3_takeSeam 79 = .ok (.invokevirtual 132, 3) := by decide +kernel
theorem dX3_takeSeam_82 : decode cX3_takeSeam 82 = .ok (.istore_n 2, 1) := by decide +kernel
theorem dX3_takeSeam_83 : decode cX3_takeSeam 83 = .ok (.iinc 4 1, 3) := by decide +kernel
theorem dX3_takeSeam_86 : decode cX3_takeSeam 86 = .ok (.goto (-65), 3) := by decide +kernel
theorem dX3_takeSeam_89 : decode cX3_takeSeam 89 = .ok (.iinc 3 1, 3) := by decide +kernel
theorem dX3_takeSeam_92 : decode cX3_takeSeam 92 = .ok (.goto (-84), 3) := by decide +kernel
theorem dX3_takeSeam_95 : decode cX3_takeSeam 95 = .ok (.iload_n 1, 1) := by decide +kernel
theorem dX3_takeSeam_96 : decode cX3_takeSeam 96 = .ok (.ifCond .ge 5, 3) := by decide +kernel
theorem dX3_takeSeam_99 : decode cX3_takeSeam 99 = .ok (.iconst 0, 1) := by decide +kernel
theorem dX3_takeSeam_100 : decode cX3_takeSeam 100 = .ok (.ireturn, 1) := by decide +kernel
theorem dX3_takeSeam_101 : decode cX3_takeSeam 101 = .ok (.aload_n 0, 1) := by decide +kernel
theorem dX3_takeSeam_102 : decode cX3_takeSeam 102 = .ok (.getfield 22, 3) := by decide +kernel
theorem dX3_takeSeam_105 : decode cX3_takeSeam 105 = .ok (.iload_n 1, 1) := by decide +kernel
theorem dX3_takeSeam_106 : decode cX3_takeSeam 106 = .ok (.bipush 16, 2) := by decide +kernel
theorem dX3_takeSeam_108 : decode cX3_takeSeam 108 = .ok (.irem, 1) := by decide +kernel
theorem dX3_takeSeam_109 : decode cX3_takeSeam 109 = .ok (.iaload, 1) := by decide +kernel
theorem dX3_takeSeam_110 : decode cX3_takeSeam 110 = .ok (.istore_n 3, 1) := by decide +kernel
theorem dX3_takeSeam_111 : decode cX3_takeSeam 111 = .ok (.aload_n 0, 1) := by decide +kernel
theorem dX3_takeSeam_112 : decode cX3_takeSeam 112 = .ok (.getfield 22, 3) := by decide +kernel
theorem dX3_takeSeam_115 : decode cX3_takeSeam 115 = .ok (.iload_n 1, 1) := by decide +kernel
theorem dX3_takeSeam_116 : decode cX3_takeSeam 116 = .ok (.bipush 16, 2) := by decide +kernel
theorem dX3_takeSeam_118 : decode cX3_takeSeam 118 = .ok (.idiv, 1) := by decide +kernel
theorem dX3_takeSeam_119 : decode cX3_takeSeam 119 = .ok (.iaload, 1) := by decide +kernel
theorem dX3_takeSeam_120 : decode cX3_takeSeam 120 = .ok (.istore 4, 2) := by decide +kernel
theorem dX3_takeSeam_122 : decode cX3_takeSeam 122 = .ok (.iconst 0, 1) := by decide +kernel
theorem dX3_takeSeam_123 : decode cX3_takeSeam 123 = .ok (.istore 5, 2) := by decide +kernel
theorem dX3_takeSeam_125 : decode cX3_takeSeam 125 = .ok (.iload 5, 2) := by decide +kernel
theorem dX3_takeSeam_127 : decode cX3_takeSeam 127 = .ok (.aload_n 0, 1) := by decide +kernel
theorem dX3_takeSeam_128 : decode cX3_takeSeam 128 = .ok (.invokevirtual 75, 3) := by decide +kernel
theorem dX3_takeSeam_131 : decode cX3_takeSeam 131 = .ok (.if_icmp .ge 39, 3) := by decide +kernel
theorem dX3_takeSeam_134 : decode cX3_takeSeam 134 = .ok (.aload_n 0, 1) := by decide +kernel
theorem dX3_takeSeam_135 : decode cX3_takeSeam 135 = .ok (.getfield 22, 3) := by decide +kernel
theorem dX3_takeSeam_138 : decode cX3_takeSeam 138 = .ok (.iload 5, 2) := by decide +kernel
theorem dX3_takeSeam_140 : decode cX3_takeSeam 140 = .ok (.aload_n 0, 1) := by decide +kernel
theorem dX3_takeSeam_141 : decode cX3_takeSeam 141 = .ok (.getfield 22, 3) := by decide +kernel
theorem dX3_takeSeam_144 : decode cX3_takeSeam 144 = .ok (.iload 5, 2) := by decide +kernel
theorem dX3_takeSeam_146 : decode cX3_takeSeam 146 = .ok (.iaload, 1) := by decide +kernel
theorem dX3_takeSeam_147 : decode cX3_takeSeam 147 = .ok (.iload_n 3, 1) := by decide +kernel
theorem dX3_takeSeam_148 : decode cX3_takeSeam 148 = .ok (.if_icmp .ne 8, 3) := by decide +kernel
theorem dX3_takeSeam_151 : decode cX3_takeSeam 151 = .ok (.iload 4, 2) := by decide +kernel
theorem dX3_takeSeam_153 : decode cX3_takeSeam 153 = .ok (.goto 10, 3) := by decide +kernel
theorem dX3_takeSeam_156 : decode cX3_takeSeam 156 = .ok (.aload_n 0, 1) := by decide +kernel
theorem dX3_takeSeam_157 : decode cX3_takeSeam 157 = .ok (.getfield 22, 3) := by decide +kernel
theorem dX3_takeSeam_160 : decode cX3_takeSeam 160 = .ok (.iload 5, 2) := by decide +kernel
theorem dX3_takeSeam_162 : decode cX3_takeSeam 162 = .ok (.iaload, 1) := by decide +kernel
theorem dX3_takeSeam_163 : decode cX3_takeSeam 163 = .ok (.iastore, 1) := by decide +kernel
theorem dX3_takeSeam_164 : decode cX3_takeSeam 164 = .ok (.iinc 5 1, 3) := by decide +kernel
theorem dX3_takeSeam_167 : decode cX3_takeSeam 167 = .ok (.goto (-42), 3) := by decide +kernel
theorem dX3_takeSeam_170 : decode cX3_takeSeam 170 = .ok (.aload_n 0, 1) := by decide +kernel
theorem dX3_takeSeam_171 : decode cX3_takeSeam 171 = .ok (.getfield 25, 3) := by decide +kernel
theorem dX3_takeSeam_174 : decode cX3_takeSeam 174 = .ok (.aload_n 0, 1) := by decide +kernel
theorem dX3_takeSeam_175 : decode cX3_takeSeam 175 = .ok (.getfield 152, 3) := by decide +kernel
theorem dX3_takeSeam_178 : decode cX3_takeSeam 178 = .ok (.iload_n 1, 1) := by decide +kernel
theorem dX3_takeSeam_179 : decode cX3_takeSeam 179 = .ok (.iastore, 1) := by decide +kernel
theorem dX3_takeSeam_180 : decode cX3_takeSeam 180 = .ok (.aload_n 0, 1) := by decide +kernel
theorem dX3_takeSeam_181 : decode cX3_takeSeam 181 = .ok (.dup, 1) := by decide +kernel
theorem dX3_takeSeam_182 : decode cX3_takeSeam 182 = .ok (.getfield 152, 3) := by decide +kernel
theorem dX3_takeSeam_185 : decode cX3_takeSeam 185 = .ok (.iconst 1, 1) := by decide +kernel
theorem dX3_takeSeam_186 : decode cX3_takeSeam 186 = .ok (.iadd, 1) := by decide +kernel
theorem dX3_takeSeam_187 : decode cX3_takeSeam 187 = .ok (.putfield 152, 3) := by decide +kernel
theorem dX3_takeSeam_190 : decode cX3_takeSeam 190 = .ok (.aload_n 0, 1) := by decide +kernel
theorem dX3_takeSeam_191 : decode cX3_takeSeam 191 = .ok (.dup, 1) := by decide +kernel
theorem dX3_takeSeam_192 : decode cX3_takeSeam 192 = .ok (.getfield 155, 3) := by decide +kernel
theorem dX3_takeSeam_195 : decode cX3_takeSeam 195 = .ok (.iload_n 2, 1) := by decide +kernel
theorem dX3_takeSeam_196 : decode cX3_takeSeam 196 = .ok (.iadd, 1) := by decide +kernel
theorem dX3_takeSeam_197 : decode cX3_takeSeam 197 = .ok (.putfield 155, 3) := by decide +kernel
theorem dX3_takeSeam_200 : decode cX3_takeSeam 200 = .ok (.iconst 1, 1) := by decide +kernel
theorem dX3_takeSeam_201 : decode cX3_takeSeam 201 = .ok (.ireturn, 1) := by decide +kernel
theorem dX3_whole_0 : decode cX3_whole 0 = .ok (.aload_n 0, 1) := by decide +kernel
theorem dX3_whole_1 : decode cX3_whole 1 = .ok (.invokevirtual 101, 3) := by decide +kernel
theorem dX3_whole_4 : decode cX3_whole 4 = .ok (.invokestatic 104, 3) := by decide +kernel
theorem dX3_whole_7 : decode cX3_whole 7 = .ok (.istore_n 2, 1) := by decide +kernel
theorem dX3_whole_8 : decode cX3_whole 8 = .ok (.aload_n 0, 1) := by decide +kernel
theorem dX3_whole_9 : decode cX3_whole 9 = .ok (.iconst 0, 1) := by decide +kernel
theorem dX3_whole_10 : decode cX3_whole 10 = .ok (.putfield 152, 3) := by decide +kernel
theorem dX3_whole_13 : decode cX3_whole 13 = .ok (.aload_n 0, 1) := by decide +kernel
theorem dX3_whole_14 : decode cX3_whole 14 = .ok (.iconst 0, 1) := by decide +kernel
theorem dX3_whole_15 : decode cX3_whole 15 = .ok (.putfield 155, 3) := by decide +kernel
theorem dX3_whole_18 : decode cX3_whole 18 = .ok (.iconst 0, 1) := by decide +kernel
theorem dX3_whole_19 : decode cX3_whole 19 = .ok (.istore_n 3, 1) := by decide +kernel
theorem dX3_whole_20 : decode cX3_whole 20 = .ok (.iload_n 3, 1) := by decide +kernel
theorem dX3_whole_21 : decode cX3_whole 21 = .ok (.bipush 16, 2) := by decide +kernel
theorem dX3_whole_23 : decode cX3_whole 23 = .ok (.if_icmp .ge 16, 3) := by decide +kernel
theorem dX3_whole_26 : decode cX3_whole 26 = .ok (.aload_n 0, 1) := by decide +kernel
theorem dX3_whole_27 : decode cX3_whole 27 = .ok (.getfield 22, 3) := by decide +kernel
theorem dX3_whole_30 : decode cX3_whole 30 = .ok (.iload_n 3, 1) := by decide +kernel
theorem dX3_whole_31 : decode cX3_whole 31 = .ok (.iload_n 3, 1) := by decide +kernel
theorem dX3_whole_32 : decode cX3_whole 32 = .ok (.iastore, 1) := by decide +kernel
theorem dX3_whole_33 : decode cX3_whole 33 = .ok (.iinc 3 1, 3) := by decide +kernel
theorem dX3_whole_36 : decode cX3_whole 36 = .ok (.goto (-16), 3) := by decide +kernel
theorem dX3_whole_39 : decode cX3_whole 39 = .ok (.iconst 1, 1) := by decide +kernel
theorem dX3_whole_40 : decode cX3_whole 40 = .ok (.istore_n 3, 1) := by decide +kernel
theorem dX3_whole_41 : decode cX3_whole 41 = .ok (.iload_n 3, 1) := by decide +kernel
theorem dX3_whole_42 : decode cX3_whole 42 = .ok (.ifCond .eq 11, 3) := by decide +kernel
theorem dX3_whole_45 : decode cX3_whole 45 = .ok (.aload_n 0, 1) := by decide +kernel
theorem dX3_whole_46 : decode cX3_whole 46 = .ok (.invokevirtual 158, 3) := by decide +kernel
theorem dX3_whole_49 : decode cX3_whole 49 = .ok (.istore_n 3, 1) := by decide +kernel
theorem dX3_whole_50 : decode cX3_whole 50 = .ok (.goto (-9), 3) := by decide +kernel
theorem dX3_whole_53 : decode cX3_whole 53 = .ok (.iload_n 2, 1) := by decide +kernel
theorem dX3_whole_54 : decode cX3_whole 54 = .ok (.ifCond .eq 13, 3) := by decide +kernel
theorem dX3_whole_57 : decode cX3_whole 57 = .ok (.aload_n 0, 1) := by decide +kernel
theorem dX3_whole_58 : decode cX3_whole 58 = .ok (.getfield 152, 3) := by decide +kernel
theorem dX3_whole_61 : decode cX3_whole 61 = .ok (.iload_n 2, 1) := by decide +kernel
theorem dX3_whole_62 : decode cX3_whole 62 = .ok (.iconst 1, 1) := by decide +kernel
theorem dX3_whole_63 : decode cX3_whole 63 = .ok (.isub, 1) := by decide +kernel
theorem dX3_whole_64 : decode cX3_whole 64 = .ok (.if_icmp .ge 6, 3) := by decide +kernel
theorem dX3_whole_67 : decode cX3_whole 67 = .ok (.bipush (-6), 2) := by decide +kernel
theorem dX3_whole_69 : decode cX3_whole 69 = .ok (.ireturn, 1) := by decide +kernel
theorem dX3_whole_70 : decode cX3_whole 70 = .ok (.iload_n 1, 1) := by decide +kernel
theorem dX3_whole_71 : decode cX3_whole 71 = .ok (.iconst (-1), 1) := by decide +kernel
theorem dX3_whole_72 : decode cX3_whole 72 = .ok (.if_icmp .ne 10, 3) := by decide +kernel
theorem dX3_whole_75 : decode cX3_whole 75 = .ok (.aload_n 0, 1) := by decide +kernel
theorem dX3_whole_76 : decode cX3_whole 76 = .ok (.getfield 155, 3) := by decide +kernel
theorem dX3_whole_79 : decode cX3_whole 79 = .ok (.goto 30, 3) := by decide +kernel
theorem dX3_whole_82 : decode cX3_whole 82 = .ok (.iload_n 1, 1) := by decide +kernel
theorem dX3_whole_83 : decode cX3_whole 83 = .ok (.i2l, 1) := by decide +kernel
theorem dX3_whole_84 : decode cX3_whole 84 = .ok (.lconst 0, 1) := by decide +kernel
theorem dX3_whole_85 : decode cX3_whole 85 = .ok (.aload_n 0, 1) := by decide +kernel
theorem dX3_whole_86 : decode cX3_whole 86 = .ok (.getfield 152, 3) := by decide +kernel
theorem dX3_whole_89 : decode cX3_whole 89 = .ok (.iconst 1, 1) := by decide +kernel
theorem dX3_whole_90 : decode cX3_whole 90 = .ok (.isub, 1) := by decide +kernel
theorem dX3_whole_91 : decode cX3_whole 91 = .ok (.i2l, 1) := by decide +kernel
theorem dX3_whole_92 : decode cX3_whole 92 = .ok (.invokestatic 79, 3) := by decide +kernel
theorem dX3_whole_95 : decode cX3_whole 95 = .ok (.ifCond .eq 12, 3) := by decide +kernel
theorem dX3_whole_98 : decode cX3_whole 98 = .ok (.aload_n 0, 1) := by decide +kernel
theorem dX3_whole_99 : decode cX3_whole 99 = .ok (.getfield 25, 3) := by decide +kernel
theorem dX3_whole_102 : decode cX3_whole 102 = .ok (.iload_n 1, 1) := by decide +kernel
theorem dX3_whole_103 : decode cX3_whole 103 = .ok (.iaload, 1) := by decide +kernel
theorem dX3_whole_104 : decode cX3_whole 104 = .ok (.goto 5, 3) := by decide +kernel
theorem dX3_whole_107 : decode cX3_whole 107 = .ok (.bipush (-6), 2) := by decide +kernel
theorem dX3_whole_109 : decode cX3_whole 109 = .ok (.ireturn, 1) := by decide +kernel
theorem dX3_patch_0 : decode cX3_patch 0 = .ok (.iload_n 1, 1) := by decide +kernel
theorem dX3_patch_1 : decode cX3_patch 1 = .ok (.invokestatic 115, 3) := by decide +kernel
theorem dX3_patch_4 : decode cX3_patch 4 = .ok (.ifCond .ne 5, 3) := by decide +kernel
theorem dX3_patch_7 : decode cX3_patch 7 = .ok (.iconst (-1), 1) := by decide +kernel
theorem dX3_patch_8 : decode cX3_patch 8 = .ok (.ireturn, 1) := by decide +kernel
theorem dX3_patch_9 : decode cX3_patch 9 = .ok (.iload_n 2, 1) := by decide +kernel
theorem dX3_patch_10 : decode cX3_patch 10 = .ok (.i2l, 1) := by decide +kernel
theorem dX3_patch_11 : decode cX3_patch 11 = .ok (.lconst 0, 1) := by decide +kernel
theorem dX3_patch_12 : decode cX3_patch 12 = .ok (.lconst 1, 1) := by decide +kernel
theorem dX3_patch_13 : decode cX3_patch 13 = .ok (.invokestatic 79, 3) := by decide +kernel
theorem dX3_patch_16 : decode cX3_patch 16 = .ok (.ifCond .ne 6, 3) := by decide +kernel
theorem dX3_patch_19 : decode cX3_patch 19 = .ok (.bipush (-2), 2) := by decide +kernel
theorem dX3_patch_21 : decode cX3_patch 21 = .ok (.ireturn, 1) := by decide +kernel
theorem dX3_patch_22 : decode cX3_patch 22 = .ok (.bipush (-6), 2) := by decide +kernel
theorem dX3_patch_24 : decode cX3_patch 24 = .ok (.istore_n 3, 1) := by decide +kernel
theorem dX3_patch_25 : decode cX3_patch 25 = .ok (.iconst 0, 1) := by decide +kernel
theorem dX3_patch_26 : decode cX3_patch 26 = .ok (.istore 4, 2) := by decide +kernel
theorem dX3_patch_28 : decode cX3_patch 28 = .ok (.iconst 0, 1) := by decide +kernel
theorem dX3_patch_29 : decode cX3_patch 29 = .ok (.istore 5, 2) := by decide +kernel
theorem dX3_patch_31 : decode cX3_patch 31 = .ok (.iload 5, 2) := by decide +kernel
theorem dX3_patch_33 : decode cX3_patch 33 = .ok (.aload_n 0, 1) := by decide +kernel
theorem dX3_patch_34 : decode cX3_patch 34 = .ok (.invokevirtual 75, 3) := by decide +kernel
theorem dX3_patch_37 : decode cX3_patch 37 = .ok (.if_icmp .ge 60, 3) := by decide +kernel
theorem dX3_patch_40 : decode cX3_patch 40 = .ok (.aload_n 0, 1) := by decide +kernel
theorem dX3_patch_41 : decode cX3_patch 41 = .ok (.iload 5, 2) := by decide +kernel
theorem dX3_patch_43 : decode cX3_patch 43 = .ok (.invokevirtual 108, 3) := by decide +kernel
theorem dX3_patch_46 : decode cX3_patch 46 = .ok (.ifCond .ne 45, 3) := by decide +kernel
theorem dX3_patch_49 : decode cX3_patch 49 = .ok (.aload_n 0, 1) := by decide +kernel
theorem dX3_patch_50 : decode cX3_patch 50 = .ok (.iload 5, 2) := by decide +kernel
theorem dX3_patch_52 : decode cX3_patch 52 = .ok (.iload_n 1, 1) := by decide +kernel
theorem dX3_patch_53 : decode cX3_patch 53 = .ok (.invokevirtual 136, 3) := by decide +kernel
theorem dX3_patch_56 : decode cX3_patch 56 = .ok (.pop, 1) := by decide +kernel
theorem dX3_patch_57 : decode cX3_patch 57 = .ok (.aload_n 0, 1) := by decide +kernel
theorem dX3_patch_58 : decode cX3_patch 58 = .ok (.invokevirtual 162, 3) := by decide +kernel
theorem dX3_patch_61 : decode cX3_patch 61 = .ok (.invokestatic 104, 3) := by decide +kernel
theorem dX3_patch_64 : decode cX3_patch 64 = .ok (.istore 6, 2) := by decide +kernel
theorem dX3_patch_66 : decode cX3_patch 66 = .ok (.aload_n 0, 1) := by decide +kernel
theorem dX3_patch_67 : decode cX3_patch 67 = .ok (.iload 5, 2) := by decide +kernel
theorem dX3_patch_69 : decode cX3_patch 69 = .ok (.invokevirtual 139, 3) := by decide +kernel
theorem dX3_patch_72 : decode cX3_patch 72 = .ok (.pop, 1) := by decide +kernel
theorem dX3_patch_73 : decode cX3_patch 73 = .ok (.iload_n 3, 1) := by decide +kernel
theorem dX3_patch_74 : decode cX3_patch 74 = .ok (.ifCond .lt 10, 3) := by decide +kernel
theorem dX3_patch_77 : decode cX3_patch 77 = .ok (.iload 6, 2) := by decide +kernel
theorem dX3_patch_79 : decode cX3_patch 79 = .ok (.iload 4, 2) := by decide +kernel
theorem dX3_patch_81 : decode cX3_patch 81 = .ok (.if_icmp .ge 10, 3) := by decide +kernel
theorem dX3_patch_84 : decode cX3_patch 84 = .ok (.iload 5, 2) := by decide +kernel
theorem dX3_patch_86 : decode cX3_patch 86 = .ok (.istore_n 3, 1) := by decide +kernel
theorem dX3_patch_87 : decode cX3_patch 87 = .ok (.iload 6, 2) := by decide +kernel
theorem dX3_patch_89 : decode cX3_patch 89 = .ok (.istore 4, 2) := by decide +kernel
theorem dX3_patch_91 : decode cX3_patch 91 = .ok (.iinc 5 1, 3) := by decide +kernel
theorem dX3_patch_94 : decode cX3_patch 94 = .ok (.goto (-63), 3) := by decide +kernel
theorem dX3_patch_97 : decode cX3_patch 97 = .ok (.iload_n 3, 1) := by decide +kernel
theorem dX3_patch_98 : decode cX3_patch 98 = .ok (.ifCond .lt 7, 3) := by decide +kernel
theorem dX3_patch_101 : decode cX3_patch 101 = .ok (.iload_n 2, 1) := by decide +kernel
theorem dX3_patch_102 : decode cX3_patch 102 = .ok (.ifCond .ne 7, 3) := by decide +kernel
theorem dX3_patch_105 : decode cX3_patch 105 = .ok (.iload_n 3, 1) := by decide +kernel
theorem dX3_patch_106 : decode cX3_patch 106 = .ok (.goto 5, 3) := by decide +kernel
theorem dX3_patch_109 : decode cX3_patch 109 = .ok (.iload 4, 2) := by decide +kernel
theorem dX3_patch_111 : decode cX3_patch 111 = .ok (.ireturn, 1) := by decide +kernel
theorem dX3_between_0 : decode cX3_between 0 = .ok (.iconst 0, 1) := by decide +kernel
theorem dX3_between_1 : decode cX3_between 1 = .ok (.istore_n 3, 1) := by decide +kernel
theorem dX3_between_2 : decode cX3_between 2 = .ok (.iconst 0, 1) := by decide +kernel
theorem dX3_between_3 : decode cX3_between 3 = .ok (.istore 4, 2) := by decide +kernel
theorem dX3_between_5 : decode cX3_between 5 = .ok (.iload 4, 2) := by decide +kernel
theorem dX3_between_7 : decode cX3_between 7 = .ok (.aload_n 0, 1) := by decide +kernel
theorem dX3_between_8 : decode cX3_between 8 = .ok (.invokevirtual 75, 3) := by decide +kernel
theorem dX3_between_11 : decode cX3_between 11 = .ok (.if_icmp .ge 38, 3) := by decide +kernel
theorem dX3_between_14 : decode cX3_between 14 = .ok (.iload_n 3, 1) := by decide +kernel
theorem dX3_between_15 : decode cX3_between 15 = .ok (.iload_n 1, 1) := by decide +kernel
theorem dX3_between_16 : decode cX3_between 16 = .ok (.iload 4, 2) := by decide +kernel
theorem dX3_between_18 : decode cX3_between 18 = .ok (.ishr, 1) := by decide +kernel
theorem dX3_between_19 : decode cX3_between 19 = .ok (.iconst 1, 1) := by decide +kernel
theorem dX3_between_20 : decode cX3_between 20 = .ok (.iand, 1) := by decide +kernel
theorem dX3_between_21 : decode cX3_between 21 = .ok (.iconst 1, 1) := by decide +kernel
theorem dX3_between_22 : decode cX3_between 22 = .ok (.if_icmp .ne 18, 3) := by decide +kernel
theorem dX3_between_25 : decode cX3_between 25 = .ok (.aload_n 0, 1) := by decide +kernel
theorem dX3_between_26 : decode cX3_between 26 = .ok (.getfield 16, 3) := by decide +kernel
theorem dX3_between_29 : decode cX3_between 29 = .ok (.iload 4, 2) := by decide +kernel
theorem dX3_between_31 : decode cX3_between 31 = .ok (.iaload, 1) := by decide +kernel
theorem dX3_between_32 : decode cX3_between 32 = .ok (.iload_n 2, 1) := by decide +kernel
theorem dX3_between_33 : decode cX3_between 33 = .ok (.iand, 1) := by decide +kernel
theorem dX3_between_34 : decode cX3_between 34 = .ok (.invokestatic 104, 3) := by decide +kernel
theorem dX3_between_37 : decode cX3_between 37 = .ok (.goto 4, 3) := by decide +kernel
theorem dX3_between_40 : decode cX3_between 40 = .ok (.iconst 0, 1) := by decide +kernel
theorem dX3_between_41 : decode cX3_between 41 = .ok (.iadd, 1) := by decide +kernel
theorem dX3_between_42 : decode cX3_between 42 = .ok (.istore_n 3, 1) := by decide +kernel
theorem dX3_between_43 : decode cX3_between 43 = .ok (.iinc 4 1, 3) := by decide +kernel
theorem dX3_between_46 : decode cX3_between 46 = .ok (.goto (-41), 3) := by decide +kernel
theorem dX3_between_49 : decode cX3_between 49 = .ok (.iload_n 3, 1) := by decide +kernel
theorem dX3_between_50 : decode cX3_between 50 = .ok (.ireturn, 1) := by decide +kernel
theorem dX3_wash_0 : decode cX3_wash 0 = .ok (.iload_n 1, 1) := by decide +kernel
theorem dX3_wash_1 : decode cX3_wash 1 = .ok (.i2l, 1) := by decide +kernel
theorem dX3_wash_2 : decode cX3_wash 2 = .ok (.lconst 0, 1) := by decide +kernel
theorem dX3_wash_3 : decode cX3_wash 3 = .ok (.ldc2_w 165, 3) := by decide +kernel
theorem dX3_wash_6 : decode cX3_wash 6 = .ok (.invokestatic 79, 3) := by decide +kernel
theorem dX3_wash_9 : decode cX3_wash 9 = .ok (.ifCond .eq 13, 3) := by decide +kernel
theorem dX3_wash_12 : decode cX3_wash 12 = .ok (.iload_n 2, 1) := by decide +kernel
theorem dX3_wash_13 : decode cX3_wash 13 = .ok (.i2l, 1) := by decide +kernel
theorem dX3_wash_14 : decode cX3_wash 14 = .ok (.lconst 0, 1) := by decide +kernel
theorem dX3_wash_15 : decode cX3_wash 15 = .ok (.lconst 1, 1) := by decide +kernel
theorem dX3_wash_16 : decode cX3_wash 16 = .ok (.invokestatic 79, 3) := by decide +kernel
theorem dX3_wash_19 : decode cX3_wash 19 = .ok (.ifCond .ne 6, 3) := by decide +kernel
theorem dX3_wash_22 : decode cX3_wash 22 = .ok (.bipush (-2), 2) := by decide +kernel
theorem dX3_wash_24 : decode cX3_wash 24 = .ok (.ireturn, 1) := by decide +kernel
theorem dX3_wash_25 : decode cX3_wash 25 = .ok (.aload_n 0, 1) := by decide +kernel
theorem dX3_wash_26 : decode cX3_wash 26 = .ok (.invokevirtual 101, 3) := by decide +kernel
theorem dX3_wash_29 : decode cX3_wash 29 = .ok (.istore_n 3, 1) := by decide +kernel
theorem dX3_wash_30 : decode cX3_wash 30 = .ok (.iload_n 3, 1) := by decide +kernel
theorem dX3_wash_31 : decode cX3_wash 31 = .ok (.iload_n 3, 1) := by decide +kernel
theorem dX3_wash_32 : decode cX3_wash 32 = .ok (.ineg, 1) := by decide +kernel
theorem dX3_wash_33 : decode cX3_wash 33 = .ok (.iand, 1) := by decide +kernel
theorem dX3_wash_34 : decode cX3_wash 34 = .ok (.istore 4, 2) := by decide +kernel
theorem dX3_wash_36 : decode cX3_wash 36 = .ok (.bipush (-6), 2) := by decide +kernel
theorem dX3_wash_38 : decode cX3_wash 38 = .ok (.istore 5, 2) := by decide +kernel
theorem dX3_wash_40 : decode cX3_wash 40 = .ok (.iconst 0, 1) := by decide +kernel
theorem dX3_wash_41 : decode cX3_wash 41 = .ok (.istore 6, 2) := by decide +kernel
theorem dX3_wash_43 : decode cX3_wash 43 = .ok (.iconst 1, 1) := by decide +kernel
theorem dX3_wash_44 : decode cX3_wash 44 = .ok (.istore 7, 2) := by decide +kernel
theorem dX3_wash_46 : decode cX3_wash 46 = .ok (.iload 7, 2) := by decide +kernel
theorem dX3_wash_48 : decode cX3_wash 48 = .ok (.iload_n 3, 1) := by decide +kernel
theorem dX3_wash_49 : decode cX3_wash 49 = .ok (.if_icmp .ge 90, 3) := by decide +kernel
theorem dX3_wash_52 : decode cX3_wash 52 = .ok (.iload 7, 2) := by decide +kernel
theorem dX3_wash_54 : decode cX3_wash 54 = .ok (.iload_n 3, 1) := by decide +kernel
theorem dX3_wash_55 : decode cX3_wash 55 = .ok (.iconst (-1), 1) := by decide +kernel
theorem dX3_wash_56 : decode cX3_wash 56 = .ok (.ixor, 1) := by decide +kernel
theorem dX3_wash_57 : decode cX3_wash 57 = .ok (.iand, 1) := by decide +kernel
theorem dX3_wash_58 : decode cX3_wash 58 = .ok (.ifCond .ne 75, 3) := by decide +kernel
theorem dX3_wash_61 : decode cX3_wash 61 = .ok (.iload 7, 2) := by decide +kernel
theorem dX3_wash_63 : decode cX3_wash 63 = .ok (.iload 4, 2) := by decide +kernel
theorem dX3_wash_65 : decode cX3_wash 65 = .ok (.iand, 1) := by decide +kernel
theorem dX3_wash_66 : decode cX3_wash 66 = .ok (.ifCond .eq 67, 3) := by decide +kernel
theorem dX3_wash_69 : decode cX3_wash 69 = .ok (.iload_n 3, 1) := by decide +kernel
theorem dX3_wash_70 : decode cX3_wash 70 = .ok (.iload 7, 2) := by decide +kernel
theorem dX3_wash_72 : decode cX3_wash 72 = .ok (.iconst (-1), 1) := by decide +kernel
theorem dX3_wash_73 : decode cX3_wash 73 = .ok (.ixor, 1) := by decide +kernel
theorem dX3_wash_74 : decode cX3_wash 74 = .ok (.iand, 1) := by decide +kernel
theorem dX3_wash_75 : decode cX3_wash 75 = .ok (.istore 8, 2) := by decide +kernel
theorem dX3_wash_77 : decode cX3_wash 77 = .ok (.iload 7, 2) := by decide +kernel
theorem dX3_wash_79 : decode cX3_wash 79 = .ok (.invokestatic 104, 3) := by decide +kernel
theorem dX3_wash_82 : decode cX3_wash 82 = .ok (.iload 8, 2) := by decide +kernel
theorem dX3_wash_84 : decode cX3_wash 84 = .ok (.invokestatic 104, 3) := by decide +kernel
theorem dX3_wash_87 : decode cX3_wash 87 = .ok (.isub, 1) := by decide +kernel
theorem dX3_wash_88 : decode cX3_wash 88 = .ok (.istore 9, 2) := by decide +kernel
theorem dX3_wash_90 : decode cX3_wash 90 = .ok (.aload_n 0, 1) := by decide +kernel
theorem dX3_wash_91 : decode cX3_wash 91 = .ok (.iload 7, 2) := by decide +kernel
theorem dX3_wash_93 : decode cX3_wash 93 = .ok (.iload 8, 2) := by decide +kernel
theorem dX3_wash_95 : decode cX3_wash 95 = .ok (.invokevirtual 167, 3) := by decide +kernel
theorem dX3_wash_98 : decode cX3_wash 98 = .ok (.istore 10, 2) := by decide +kernel
theorem dX3_wash_100 : decode cX3_wash 100 = .ok (.iload 9, 2) := by decide +kernel
theorem dX3_wash_102 : decode cX3_wash 102 = .ok (.iload_n 1, 1) := by decide +kernel
theorem dX3_wash_103 : decode cX3_wash 103 = .ok (.if_icmp .gt 30, 3) := by decide +kernel
theorem dX3_wash_106 : decode cX3_wash 106 = .ok (.iload 9, 2) := by decide +kernel
theorem dX3_wash_108 : decode cX3_wash 108 = .ok (.iload_n 1, 1) := by decide +kernel
theorem dX3_wash_109 : decode cX3_wash 109 = .ok (.ineg, 1) := by decide +kernel
theorem dX3_wash_110 : decode cX3_wash 110 = .ok (.if_icmp .lt 23, 3) := by decide +kernel
theorem dX3_wash_113 : decode cX3_wash 113 = .ok (.iload 5, 2) := by decide +kernel
theorem dX3_wash_115 : decode cX3_wash 115 = .ok (.ifCond .lt 10, 3) := by decide +kernel
theorem dX3_wash_118 : decode cX3_wash 118 = .ok (.iload 10, 2) := by decide +kernel
theorem dX3_wash_120 : decode cX3_wash 120 = .ok (.iload 6, 2) := by decide +kernel
theorem dX3_wash_122 : decode cX3_wash 122 = .ok (.if_icmp .ge 11, 3) := by decide +kernel
theorem dX3_wash_125 : decode cX3_wash 125 = .ok (.iload 7, 2) := by decide +kernel
theorem dX3_wash_127 : decode cX3_wash 127 = .ok (.istore 5, 2) := by decide +kernel
theorem dX3_wash_129 : decode cX3_wash 129 = .ok (.iload 10, 2) := by decide +kernel
theorem dX3_wash_131 : decode cX3_wash 131 = .ok (.istore 6, 2) := by decide +kernel
theorem dX3_wash_133 : decode cX3_wash 133 = .ok (.iinc 7 1, 3) := by decide +kernel
theorem dX3_wash_136 : decode cX3_wash 136 = .ok (.goto (-90), 3) := by decide +kernel
theorem dX3_wash_139 : decode cX3_wash 139 = .ok (.iload 5, 2) := by decide +kernel
theorem dX3_wash_141 : decode cX3_wash 141 = .ok (.ifCond .ge 8, 3) := by decide +kernel
theorem dX3_wash_144 : decode cX3_wash 144 = .ok (.bipush (-6), 2) := by decide +kernel
theorem dX3_wash_146 : decode cX3_wash 146 = .ok (.goto 14, 3) := by decide +kernel
theorem dX3_wash_149 : decode cX3_wash 149 = .ok (.iload_n 2, 1) := by decide +kernel
theorem dX3_wash_150 : decode cX3_wash 150 = .ok (.ifCond .ne 8, 3) := by decide +kernel
theorem dX3_wash_153 : decode cX3_wash 153 = .ok (.iload 6, 2) := by decide +kernel
theorem dX3_wash_155 : decode cX3_wash 155 = .ok (.goto 5, 3) := by decide +kernel
theorem dX3_wash_158 : decode cX3_wash 158 = .ok (.iload 5, 2) := by decide +kernel
theorem dX3_wash_160 : decode cX3_wash 160 = .ok (.ireturn, 1) := by decide +kernel
theorem dX3_goesWith_0 : decode cX3_goesWith 0 = .ok (.iconst 1, 1) := by decide +kernel
theorem dX3_goesWith_1 : decode cX3_goesWith 1 = .ok (.istore_n 2, 1) := by decide +kernel
theorem dX3_goesWith_2 : decode cX3_goesWith 2 = .ok (.iconst 0, 1) := by decide +kernel
theorem dX3_goesWith_3 : decode cX3_goesWith 3 = .ok (.istore_n 3, 1) := by decide +kernel
theorem dX3_goesWith_4 : decode cX3_goesWith 4 = .ok (.iload_n 3, 1) := by decide +kernel
theorem dX3_goesWith_5 : decode cX3_goesWith 5 = .ok (.iload_n 1, 1) := by decide +kernel
theorem dX3_goesWith_6 : decode cX3_goesWith 6 = .ok (.if_icmp .ge 69, 3) := by decide +kernel
theorem dX3_goesWith_9 : decode cX3_goesWith 9 = .ok (.aload_n 0, 1) := by decide +kernel
theorem dX3_goesWith_10 : decode cX3_goesWith 10 = .ok (.getfield 28, 3) := by decide +kernel
theorem dX3_goesWith_13 : decode cX3_goesWith 13 = .ok (.iload_n 1, 1) := by decide +kernel
theorem dX3_goesWith_14 : decode cX3_goesWith 14 = .ok (.iaload, 1) := by decide +kernel
theorem dX3_goesWith_15 : decode cX3_goesWith 15 = .ok (.ifCond .le 60, 3) := by decide +kernel
theorem dX3_goesWith_18 : decode cX3_goesWith 18 = .ok (.iload_n 2, 1) := by decide +kernel
theorem dX3_goesWith_19 : decode cX3_goesWith 19 = .ok (.ifCond .eq 48, 3) := by decide +kernel
theorem dX3_goesWith_22 : decode cX3_goesWith 22 = .ok (.aload_n 0, 1) := by decide +kernel
theorem dX3_goesWith_23 : decode cX3_goesWith 23 = .ok (.getfield 28, 3) := by decide +kernel
theorem dX3_goesWith_26 : decode cX3_goesWith 26 = .ok (.iload_n 3, 1) := by decide +kernel
theorem dX3_goesWith_27 : decode cX3_goesWith 27 = .ok (.iaload, 1) := by decide +kernel
theorem dX3_goesWith_28 : decode cX3_goesWith 28 = .ok (.ifCond .eq 35, 3) := by decide +kernel
theorem dX3_goesWith_31 : decode cX3_goesWith 31 = .ok (.aload_n 0, 1) := by decide +kernel
theorem dX3_goesWith_32 : decode cX3_goesWith 32 = .ok (.iload_n 1, 1) := by decide +kernel
theorem dX3_goesWith_33 : decode cX3_goesWith 33 = .ok (.iload_n 3, 1) := by decide +kernel
theorem dX3_goesWith_34 : decode cX3_goesWith 34 = .ok (.invokevirtual 126, 3) := by decide +kernel
theorem dX3_goesWith_37 : decode cX3_goesWith 37 = .ok (.ifCond .eq 26, 3) := by decide +kernel
theorem dX3_goesWith_40 : decode cX3_goesWith 40 = .ok (.aload_n 0, 1) := by decide +kernel
theorem dX3_goesWith_41 : decode cX3_goesWith 41 = .ok (.aload_n 0, 1) := by decide +kernel
theorem dX3_goesWith_42 : decode cX3_goesWith 42 = .ok (.getfield 28, 3) := by decide +kernel
theorem dX3_goesWith_45 : decode cX3_goesWith 45 = .ok (.iload_n 1, 1) := by decide +kernel
theorem dX3_goesWith_46 : decode cX3_goesWith 46 = .ok (.iaload, 1) := by decide +kernel
theorem dX3_goesWith_47 : decode cX3_goesWith 47 = .ok (.iconst 1, 1) := by decide +kernel
theorem dX3_goesWith_48 : decode cX3_goesWith 48 = .ok (.isub, 1) := by decide +kernel
theorem dX3_goesWith_49 : decode cX3_goesWith 49 = .ok (.aload_n 0, 1) := by decide +kernel
theorem dX3_goesWith_50 : decode cX3_goesWith 50 = .ok (.getfield 28, 3) := by decide +kernel
theorem dX3_goesWith_53 : decode cX3_goesWith 53 = .ok (.iload_n 3, 1) := by decide +kernel
theorem dX3_goesWith_54 : decode cX3_goesWith 54 = .ok (.iaload, 1) := by decide +kernel
theorem dX3_goesWith_55 : decode cX3_goesWith 55 = .ok (.iconst 1, 1) := by decide +kernel
theorem dX3_goesWith_56 : decode cX3_goesWith 56 = .ok (.isub, 1) := by decide +kernel
theorem dX3_goesWith_57 : decode cX3_goesWith 57 = .ok (.invokevirtual 118, 3) := by decide +kernel
theorem dX3_goesWith_60 : decode cX3_goesWith 60 = .ok (.ifCond .ne 7, 3) := by decide +kernel
theorem dX3_goesWith_63 : decode cX3_goesWith 63 = .ok (.iconst 1, 1) := by decide +kernel
theorem dX3_goesWith_64 : decode cX3_goesWith 64 = .ok (.goto 4, 3) := by decide +kernel
theorem dX3_goesWith_67 : decode cX3_goesWith 67 = .ok (.iconst 0, 1) := by decide +kernel
theorem dX3_goesWith_68 : decode cX3_goesWith 68 = .ok (.istore_n 2, 1) := by decide +kernel
theorem dX3_goesWith_69 : decode cX3_goesWith 69 = .ok (.iinc 3 1, 3) := by decide +kernel
theorem dX3_goesWith_72 : decode cX3_goesWith 72 = .ok (.goto (-68), 3) := by decide +kernel
theorem dX3_goesWith_75 : decode cX3_goesWith 75 = .ok (.iload_n 2, 1) := by decide +kernel
theorem dX3_goesWith_76 : decode cX3_goesWith 76 = .ok (.ireturn, 1) := by decide +kernel
theorem dX3_areWarm_0 : decode cX3_areWarm 0 = .ok (.iconst 1, 1) := by decide +kernel
theorem dX3_areWarm_1 : decode cX3_areWarm 1 = .ok (.istore_n 1, 1) := by decide +kernel
theorem dX3_areWarm_2 : decode cX3_areWarm 2 = .ok (.iconst 0, 1) := by decide +kernel
theorem dX3_areWarm_3 : decode cX3_areWarm 3 = .ok (.istore_n 2, 1) := by decide +kernel
theorem dX3_areWarm_4 : decode cX3_areWarm 4 = .ok (.iload_n 2, 1) := by decide +kernel
theorem dX3_areWarm_5 : decode cX3_areWarm 5 = .ok (.aload_n 0, 1) := by decide +kernel
theorem dX3_areWarm_6 : decode cX3_areWarm 6 = .ok (.invokevirtual 75, 3) := by decide +kernel
theorem dX3_areWarm_9 : decode cX3_areWarm 9 = .ok (.if_icmp .ge 84, 3) := by decide +kernel
theorem dX3_areWarm_12 : decode cX3_areWarm 12 = .ok (.iconst 0, 1) := by decide +kernel
theorem dX3_areWarm_13 : decode cX3_areWarm 13 = .ok (.istore_n 3, 1) := by decide +kernel
theorem dX3_areWarm_14 : decode cX3_areWarm 14 = .ok (.iconst 0, 1) := by decide +kernel
theorem dX3_areWarm_15 : decode cX3_areWarm 15 = .ok (.istore 4, 2) := by decide +kernel
theorem dX3_areWarm_17 : decode cX3_areWarm 17 = .ok (.iload 4, 2) := by decide +kernel
theorem dX3_areWarm_19 : decode cX3_areWarm 19 = .ok (.aload_n 0, 1) := by decide +kernel
theorem dX3_areWarm_20 : decode cX3_areWarm 20 = .ok (.invokevirtual 75, 3) := by decide +kernel
theorem dX3_areWarm_23 : decode cX3_areWarm 23 = .ok (.if_icmp .ge 37, 3) := by decide +kernel
theorem dX3_areWarm_26 : decode cX3_areWarm 26 = .ok (.iload_n 3, 1) := by decide +kernel
theorem dX3_areWarm_27 : decode cX3_areWarm 27 = .ok (.aload_n 0, 1) := by decide +kernel
theorem dX3_areWarm_28 : decode cX3_areWarm 28 = .ok (.getfield 28, 3) := by decide +kernel
theorem dX3_areWarm_31 : decode cX3_areWarm 31 = .ok (.iload 4, 2) := by decide +kernel
theorem dX3_areWarm_33 : decode cX3_areWarm 33 = .ok (.iaload, 1) := by decide +kernel
theorem dX3_areWarm_34 : decode cX3_areWarm 34 = .ok (.ifCond .le 17, 3) := by decide +kernel
theorem dX3_areWarm_37 : decode cX3_areWarm 37 = .ok (.aload_n 0, 1) := by decide +kernel
theorem dX3_areWarm_38 : decode cX3_areWarm 38 = .ok (.iload_n 2, 1) := by decide +kernel
theorem dX3_areWarm_39 : decode cX3_areWarm 39 = .ok (.iload 4, 2) := by decide +kernel
theorem dX3_areWarm_41 : decode cX3_areWarm 41 = .ok (.invokevirtual 126, 3) := by decide +kernel
theorem dX3_areWarm_44 : decode cX3_areWarm 44 = .ok (.ifCond .eq 7, 3) := by decide +kernel
theorem dX3_areWarm_47 : decode cX3_areWarm 47 = .ok (.iconst 1, 1) := by decide +kernel
theorem dX3_areWarm_48 : decode cX3_areWarm 48 = .ok (.goto 4, 3) := by decide +kernel
theorem dX3_areWarm_51 : decode cX3_areWarm 51 = .ok (.iconst 0, 1) := by decide +kernel
theorem dX3_areWarm_52 : decode cX3_areWarm 52 = .ok (.iadd, 1) := by decide +kernel
theorem dX3_areWarm_53 : decode cX3_areWarm 53 = .ok (.istore_n 3, 1) := by decide +kernel
theorem dX3_areWarm_54 : decode cX3_areWarm 54 = .ok (.iinc 4 1, 3) := by decide +kernel
theorem dX3_areWarm_57 : decode cX3_areWarm 57 = .ok (.goto (-40), 3) := by decide +kernel
theorem dX3_areWarm_60 : decode cX3_areWarm 60 = .ok (.iload_n 1, 1) := by decide +kernel
theorem dX3_areWarm_61 : decode cX3_areWarm 61 = .ok (.ifCond .eq 24, 3) := by decide +kernel
theorem dX3_areWarm_64 : decode cX3_areWarm 64 = .ok (.aload_n 0, 1) := by decide +kernel
theorem dX3_areWarm_65 : decode cX3_areWarm 65 = .ok (.getfield 28, 3) := by decide +kernel
theorem dX3_areWarm_68 : decode cX3_areWarm 68 = .ok (.iload_n 2, 1) := by decide +kernel
theorem dX3_areWarm_69 : decode cX3_areWarm 69 = .ok (.iaload, 1) := by decide +kernel
theorem dX3_areWarm_70 : decode cX3_areWarm 70 = .ok (.ifCond .eq 11, 3) := by decide +kernel
theorem dX3_areWarm_73 : decode cX3_areWarm 73 = .ok (.iload_n 3, 1) := by decide +kernel
theorem dX3_areWarm_74 : decode cX3_areWarm 74 = .ok (.aload_n 0, 1) := by decide +kernel
theorem dX3_areWarm_75 : decode cX3_areWarm 75 = .ok (.getfield 62, 3) := by decide +kernel
theorem dX3_areWarm_78 : decode cX3_areWarm 78 = .ok (.if_icmp .lt 7, 3) := by decide +kernel
theorem dX3_areWarm_81 : decode cX3_areWarm 81 = .ok (.iconst 1, 1) := by decide +kernel
theorem dX3_areWarm_82 : decode cX3_areWarm 82 = .ok (.goto 4, 3) := by decide +kernel
theorem dX3_areWarm_85 : decode cX3_areWarm 85 = .ok (.iconst 0, 1) := by decide +kernel
theorem dX3_areWarm_86 : decode cX3_areWarm 86 = .ok (.istore_n 1, 1) := by decide +kernel
theorem dX3_areWarm_87 : decode cX3_areWarm 87 = .ok (.iinc 2 1, 3) := by decide +kernel
theorem dX3_areWarm_90 : decode cX3_areWarm 90 = .ok (.goto (-86), 3) := by decide +kernel
theorem dX3_areWarm_93 : decode cX3_areWarm 93 = .ok (.iload_n 1, 1) := by decide +kernel
theorem dX3_areWarm_94 : decode cX3_areWarm 94 = .ok (.ireturn, 1) := by decide +kernel
theorem dX3_findPlacings_0 : decode cX3_findPlacings 0 = .ok (.aload_n 0, 1) := by decide +kernel
theorem dX3_findPlacings_1 : decode cX3_findPlacings 1 = .ok (.getfield 34, 3) := by decide +kernel
theorem dX3_findPlacings_4 : decode cX3_findPlacings 4 = .ok (.iconst 0, 1) := by decide +kernel
theorem dX3_findPlacings_5 : decode cX3_findPlacings 5 = .ok (.aload_n 0, 1) := by decide +kernel
theorem dX3_findPlacings_6 : decode cX3_findPlacings 6 = .ok (.invokevirtual 75, 3) := by decide +kernel
theorem dX3_findPlacings_9 : decode cX3_findPlacings 9 = .ok (.iload_n 1, 1) := by decide +kernel
theorem dX3_findPlacings_10 : decode cX3_findPlacings 10 = .ok (.isub, 1) := by decide +kernel
theorem dX3_findPlacings_11 : decode cX3_findPlacings 11 = .ok (.iload_n 2, 1) := by decide +kernel
theorem dX3_findPlacings_12 : decode cX3_findPlacings 12 = .ok (.isub, 1) := by decide +kernel
theorem dX3_findPlacings_13 : decode cX3_findPlacings 13 = .ok (.iload_n 3, 1) := by decide +kernel
theorem dX3_findPlacings_14 : decode cX3_findPlacings 14 = .ok (.isub, 1) := by decide +kernel
theorem dX3_findPlacings_15 : decode cX3_findPlacings 15 = .ok (.iload 4, 2) := by decide +kernel
theorem dX3_findPlacings_17 : decode cX3_findPlacings 17 = .ok (.isub, 1) := by decide +kernel
theorem dX3_findPlacings_18 : decode cX3_findPlacings 18 = .ok (.iastore, 1) := by decide +kernel
theorem dX3_findPlacings_19 : decode cX3_findPlacings 19 = .ok (.aload_n 0, 1) := by decide +kernel
theorem dX3_findPlacings_20 : decode cX3_findPlacings 20 = .ok (.getfield 34, 3) := by decide +kernel
theorem dX3_findPlacings_23 : decode cX3_findPlacings 23 = .ok (.iconst 1, 1) := by decide +kernel
theorem dX3_findPlacings_24 : decode cX3_findPlacings 24 = .ok (.iload_n 1, 1) := by decide +kernel
theorem dX3_findPlacings_25 : decode cX3_findPlacings 25 = .ok (.iastore, 1) := by decide +kernel
theorem dX3_findPlacings_26 : decode cX3_findPlacings 26 = .ok (.aload_n 0, 1) := by decide +kernel
theorem dX3_findPlacings_27 : decode cX3_findPlacings 27 = .ok (.getfield 34, 3) := by decide +kernel
theorem dX3_findPlacings_30 : decode cX3_findPlacings 30 = .ok (.iconst 2, 1) := by decide +kernel
theorem dX3_findPlacings_31 : decode cX3_findPlacings 31 = .ok (.iload_n 2, 1) := by decide +kernel
theorem dX3_findPlacings_32 : decode cX3_findPlacings 32 = .ok (.iastore, 1) := by decide +kernel
theorem dX3_findPlacings_33 : decode cX3_findPlacings 33 = .ok (.aload_n 0, 1) := by decide +kernel
theorem dX3_findPlacings_34 : decode cX3_findPlacings 34 = .ok (.getfield 34, 3) := by decide +kernel
theorem dX3_findPlacings_37 : decode cX3_findPlacings 37 = .ok (.iconst 3, 1) := by decide +kernel
theorem dX3_findPlacings_38 : decode cX3_findPlacings 38 = .ok (.iload_n 3, 1) := by decide +kernel
theorem dX3_findPlacings_39 : decode cX3_findPlacings 39 = .ok (.iastore, 1) := by decide +kernel
theorem dX3_findPlacings_40 : decode cX3_findPlacings 40 = .ok (.aload_n 0, 1) := by decide +kernel
theorem dX3_findPlacings_41 : decode cX3_findPlacings 41 = .ok (.getfield 34, 3) := by decide +kernel
theorem dX3_findPlacings_44 : decode cX3_findPlacings 44 = .ok (.iconst 4, 1) := by decide +kernel
theorem dX3_findPlacings_45 : decode cX3_findPlacings 45 = .ok (.iload 4, 2) := by decide +kernel
theorem dX3_findPlacings_47 : decode cX3_findPlacings 47 = .ok (.iastore, 1) := by decide +kernel
theorem dX3_findPlacings_48 : decode cX3_findPlacings 48 = .ok (.iconst 0, 1) := by decide +kernel
theorem dX3_findPlacings_49 : decode cX3_findPlacings 49 = .ok (.istore 5, 2) := by decide +kernel
theorem dX3_findPlacings_51 : decode cX3_findPlacings 51 = .ok (.iconst 0, 1) := by decide +kernel
theorem dX3_findPlacings_52 : decode cX3_findPlacings 52 = .ok (.istore 6, 2) := by decide +kernel
theorem dX3_findPlacings_54 : decode cX3_findPlacings 54 = .ok (.aload_n 0, 1) := by decide +kernel
theorem dX3_findPlacings_55 : decode cX3_findPlacings 55 = .ok (.getfield 28, 3) := by decide +kernel
theorem dX3_findPlacings_58 : decode cX3_findPlacings 58 = .ok (.iconst 0, 1) := by decide +kernel
theorem dX3_findPlacings_59 : decode cX3_findPlacings 59 = .ok (.iconst (-1), 1) := by decide +kernel
theorem dX3_findPlacings_60 : decode cX3_findPlacings 60 = .ok (.iastore, 1) := by decide +kernel
theorem dX3_findPlacings_61 : decode cX3_findPlacings 61 = .ok (.iload 6, 2) := by decide +kernel
theorem dX3_findPlacings_63 : decode cX3_findPlacings 63 = .ok (.ifCond .lt 205, 3) := by decide +kernel
theorem dX3_findPlacings_66 : decode cX3_findPlacings 66 = .ok (.aload_n 0, 1) := by decide +kernel
theorem dX3_findPlacings_67 : decode cX3_findPlacings 67 = .ok (.getfield 28, 3) := by decide +kernel
theorem dX3_findPlacings_70 : decode cX3_findPlacings 70 = .ok (.iload 6, 2) := by decide +kernel
theorem dX3_findPlacings_72 : decode cX3_findPlacings 72 = .ok (.iaload, 1) := by decide +kernel
theorem dX3_findPlacings_73 : decode cX3_findPlacings 73 = .ok (.ifCond .lt 19, 3) := by decide +kernel
theorem dX3_findPlacings_76 : decode cX3_findPlacings 76 = .ok (.aload_n 0, 1) := by decide +kernel
theorem dX3_findPlacings_77 : decode cX3_findPlacings 77 = .ok (.getfield 34, 3) := by decide +kernel
theorem dX3_findPlacings_80 : decode cX3_findPlacings 80 = .ok (.aload_n 0, 1) := by decide +kernel
theorem dX3_findPlacings_81 : decode cX3_findPlacings 81 = .ok (.getfield 28, 3) := by decide +kernel
theorem dX3_findPlacings_84 : decode cX3_findPlacings 84 = .ok (.iload 6, 2) := by decide +kernel
theorem dX3_findPlacings_86 : decode cX3_findPlacings 86 = .ok (.iaload, 1) := by decide +kernel
theorem dX3_findPlacings_87 : decode cX3_findPlacings 87 = .ok (.dup2, 1) := by decide +kernel
theorem dX3_findPlacings_88 : decode cX3_findPlacings 88 = .ok (.iaload, 1) := by decide +kernel
theorem dX3_findPlacings_89 : decode cX3_findPlacings 89 = .ok (.iconst 1, 1) := by decide +kernel
theorem dX3_findPlacings_90 : decode cX3_findPlacings 90 = .ok (.iadd, 1) := by decide +kernel
theorem dX3_findPlacings_91 : decode cX3_findPlacings 91 = .ok (.iastore, 1) := by decide +kernel
theorem dX3_findPlacings_92 : decode cX3_findPlacings 92 = .ok (.aload_n 0, 1) := by decide +kernel
theorem dX3_findPlacings_93 : decode cX3_findPlacings 93 = .ok (.getfield 28, 3) := by decide +kernel
theorem dX3_findPlacings_96 : decode cX3_findPlacings 96 = .ok (.iload 6, 2) := by decide +kernel
theorem dX3_findPlacings_98 : decode cX3_findPlacings 98 = .ok (.dup2, 1) := by decide +kernel
theorem dX3_findPlacings_99 : decode cX3_findPlacings 99 = .ok (.iaload, 1) := by decide +kernel
theorem dX3_findPlacings_100 : decode cX3_findPlacings 100 = .ok (.iconst 1, 1) := by decide +kernel
theorem dX3_findPlacings_101 : decode cX3_findPlacings 101 = .ok (.iadd, 1) := by decide +kernel
theorem dX3_findPlacings_102 : decode cX3_findPlacings 102 = .ok (.iastore, 1) := by decide +kernel
theorem dX3_findPlacings_103 : decode cX3_findPlacings 103 = .ok (.aload_n 0, 1) := by decide +kernel
theorem dX3_findPlacings_104 : decode cX3_findPlacings 104 = .ok (.getfield 28, 3) := by decide +kernel
theorem dX3_findPlacings_107 : decode cX3_findPlacings 107 = .ok (.iload 6, 2) := by decide +kernel
theorem dX3_findPlacings_109 : decode cX3_findPlacings 109 = .ok (.iaload, 1) := by decide +kernel
theorem dX3_findPlacings_110 : decode cX3_findPlacings 110 = .ok (.iconst 5, 1) := by decide +kernel
theorem dX3_findPlacings_111 : decode cX3_findPlacings 111 = .ok (.if_icmp .ge 41, 3) := by decide +kernel
theorem dX3_findPlacings_114 : decode cX3_findPlacings 114 = .ok (.aload_n 0, 1) := by decide +kernel
theorem dX3_findPlacings_115 : decode cX3_findPlacings 115 = .ok (.getfield 34, 3) := by decide +kernel
theorem dX3_findPlacings_118 : decode cX3_findPlacings 118 = .ok (.aload_n 0, 1) := by decide +kernel
theorem dX3_findPlacings_119 : decode cX3_findPlacings 119 = .ok (.getfield 28, 3) := by decide +kernel
theorem dX3_findPlacings_122 : decode cX3_findPlacings 122 = .ok (.iload 6, 2) := by decide +kernel
theorem dX3_findPlacings_124 : decode cX3_findPlacings 124 = .ok (.iaload, 1) := by decide +kernel
theorem dX3_findPlacings_125 : decode cX3_findPlacings 125 = .ok (.iaload, 1) := by decide +kernel
theorem dX3_findPlacings_126 : decode cX3_findPlacings 126 = .ok (.ifCond .le 12, 3) := by decide +kernel
theorem dX3_findPlacings_129 : decode cX3_findPlacings 129 = .ok (.aload_n 0, 1) := by decide +kernel
theorem dX3_findPlacings_130 : decode cX3_findPlacings 130 = .ok (.iload 6, 2) := by decide +kernel
theorem dX3_findPlacings_132 : decode cX3_findPlacings 132 = .ok (.invokevirtual 170, 3) := by decide +kernel
theorem dX3_findPlacings_135 : decode cX3_findPlacings 135 = .ok (.ifCond .ne 17, 3) := by decide +kernel
theorem dX3_findPlacings_138 : decode cX3_findPlacings 138 = .ok (.aload_n 0, 1) := by decide +kernel
theorem dX3_findPlacings_139 : decode cX3_findPlacings 139 = .ok (.getfield 28, 3) := by decide +kernel
theorem dX3_findPlacings_142 : decode cX3_findPlacings 142 = .ok (.iload 6, 2) := by decide +kernel
theorem dX3_findPlacings_144 : decode cX3_findPlacings 144 = .ok (.dup2, 1) := by decide +kernel
theorem dX3_findPlacings_145 : decode cX3_findPlacings 145 = .ok (.iaload, 1) := by decide +kernel
theorem dX3_findPlacings_146 : decode cX3_findPlacings 146 = .ok (.iconst 1, 1) := by decide +kernel
theorem dX3_findPlacings_147 : decode cX3_findPlacings 147 = .ok (.iadd, 1) := by decide +kernel
theorem dX3_findPlacings_148 : decode cX3_findPlacings 148 = .ok (.iastore, 1) := by decide +kernel
theorem dX3_findPlacings_149 : decode cX3_findPlacings 149 = .ok (.goto (-46), 3) := by decide +kernel
theorem dX3_findPlacings_152 : decode cX3_findPlacings 152 = .ok (.aload_n 0, 1) := by decide +kernel
theorem dX3_findPlacings_153 : decode cX3_findPlacings 153 = .ok (.getfield 28, 3) := by decide +kernel
theorem dX3_findPlacings_156 : decode cX3_findPlacings 156 = .ok (.iload 6, 2) := by decide +kernel
theorem dX3_findPlacings_158 : decode cX3_findPlacings 158 = .ok (.iaload, 1) := by decide +kernel
theorem dX3_findPlacings_159 : decode cX3_findPlacings 159 = .ok (.iconst 5, 1) := by decide +kernel
theorem dX3_findPlacings_160 : decode cX3_findPlacings 160 = .ok (.if_icmp .ne 17, 3) := by decide +kernel
theorem dX3_findPlacings_163 : decode cX3_findPlacings 163 = .ok (.aload_n 0, 1) := by decide +kernel
theorem dX3_findPlacings_164 : decode cX3_findPlacings 164 = .ok (.getfield 28, 3) := by decide +kernel
theorem dX3_findPlacings_167 : decode cX3_findPlacings 167 = .ok (.iload 6, 2) := by decide +kernel
theorem dX3_findPlacings_169 : decode cX3_findPlacings 169 = .ok (.iconst (-1), 1) := by decide +kernel
theorem dX3_findPlacings_170 : decode cX3_findPlacings 170 = .ok (.iastore, 1) := by decide +kernel
theorem dX3_findPlacings_171 : decode cX3_findPlacings 171 = .ok (.iinc 6 (-1), 3) := by decide +kernel
theorem dX3_findPlacings_174 : decode cX3_findPlacings 174 = .ok (.goto (-113), 3) := by decide +kernel
theorem dX3_findPlacings_177 : decode cX3_findPlacings 177 = .ok (.aload_n 0, 1) := by decide +kernel
theorem dX3_findPlacings_178 : decode cX3_findPlacings 178 = .ok (.getfield 34, 3) := by decide +kernel
theorem dX3_findPlacings_181 : decode cX3_findPlacings 181 = .ok (.aload_n 0, 1) := by decide +kernel
theorem dX3_findPlacings_182 : decode cX3_findPlacings 182 = .ok (.getfield 28, 3) := by decide +kernel
theorem dX3_findPlacings_185 : decode cX3_findPlacings 185 = .ok (.iload 6, 2) := by decide +kernel
theorem dX3_findPlacings_187 : decode cX3_findPlacings 187 = .ok (.iaload, 1) := by decide +kernel
theorem dX3_findPlacings_188 : decode cX3_findPlacings 188 = .ok (.dup2, 1) := by decide +kernel
theorem dX3_findPlacings_189 : decode cX3_findPlacings 189 = .ok (.iaload, 1) := by decide +kernel
theorem dX3_findPlacings_190 : decode cX3_findPlacings 190 = .ok (.iconst 1, 1) := by decide +kernel
theorem dX3_findPlacings_191 : decode cX3_findPlacings 191 = .ok (.isub, 1) := by decide +kernel
theorem dX3_findPlacings_192 : decode cX3_findPlacings 192 = .ok (.iastore, 1) := by decide +kernel
theorem dX3_findPlacings_193 : decode cX3_findPlacings 193 = .ok (.iload 6, 2) := by decide +kernel
theorem dX3_findPlacings_195 : decode cX3_findPlacings 195 = .ok (.aload_n 0, 1) := by decide +kernel
theorem dX3_findPlacings_196 : decode cX3_findPlacings 196 = .ok (.invokevirtual 75, 3) := by decide +kernel
theorem dX3_findPlacings_199 : decode cX3_findPlacings 199 = .ok (.iconst 1, 1) := by decide +kernel
theorem dX3_findPlacings_200 : decode cX3_findPlacings 200 = .ok (.isub, 1) := by decide +kernel
theorem dX3_findPlacings_201 : decode cX3_findPlacings 201 = .ok (.if_icmp .ge 17, 3) := by decide +kernel
theorem dX3_findPlacings_204 : decode cX3_findPlacings 204 = .ok (.iinc 6 1, 3) := by decide +kernel
theorem dX3_findPlacings_207 : decode cX3_findPlacings 207 = .ok (.aload_n 0, 1) := by decide +kernel
theorem dX3_findPlacings_208 : decode cX3_findPlacings 208 = .ok (.getfield 28, 3) := by decide +kernel
theorem dX3_findPlacings_211 : decode cX3_findPlacings 211 = .ok (.iload 6, 2) := by decide +kernel
theorem dX3_findPlacings_213 : decode cX3_findPlacings 213 = .ok (.iconst (-1), 1) := by decide +kernel
theorem dX3_findPlacings_214 : decode cX3_findPlacings 214 = .ok (.iastore, 1) := by decide +kernel
theorem dX3_findPlacings_215 : decode cX3_findPlacings 215 = .ok (.goto (-154), 3) := by decide +kernel
theorem dX3_findPlacings_218 : decode cX3_findPlacings 218 = .ok (.aload_n 0, 1) := by decide +kernel
theorem dX3_findPlacings_219 : decode cX3_findPlacings 219 = .ok (.invokevirtual 173, 3) := by decide +kernel
theorem dX3_findPlacings_222 : decode cX3_findPlacings 222 = .ok (.ifCond .eq (-161), 3) := by decide +kernel
theorem dX3_findPlacings_225 : decode cX3_findPlacings 225 = .ok (.iconst 0, 1) := by decide +kernel
theorem dX3_findPlacings_226 : decode cX3_findPlacings 226 = .ok (.istore 7, 2) := by decide +kernel
theorem dX3_findPlacings_228 : decode cX3_findPlacings 228 = .ok (.iload 7, 2) := by decide +kernel
theorem dX3_findPlacings_230 : decode cX3_findPlacings 230 = .ok (.aload_n 0, 1) := by decide +kernel
theorem dX3_findPlacings_231 : decode cX3_findPlacings 231 = .ok (.invokevirtual 75, 3) := by decide +kernel
theorem dX3_findPlacings_234 : decode cX3_findPlacings 234 = .ok (.if_icmp .ge 28, 3) := by decide +kernel
theorem dX3_findPlacings_237 : decode cX3_findPlacings 237 = .ok (.iload 5, 2) := by decide +kernel
theorem dX3_findPlacings_239 : decode cX3_findPlacings 239 = .ok (.ifCond .ne 23, 3) := by decide +kernel
theorem dX3_findPlacings_242 : decode cX3_findPlacings 242 = .ok (.aload_n 0, 1) := by decide +kernel
theorem dX3_findPlacings_243 : decode cX3_findPlacings 243 = .ok (.getfield 31, 3) := by decide +kernel
theorem dX3_findPlacings_246 : decode cX3_findPlacings 246 = .ok (.iload 7, 2) := by decide +kernel
theorem dX3_findPlacings_248 : decode cX3_findPlacings 248 = .ok (.aload_n 0, 1) := by decide +kernel
theorem dX3_findPlacings_249 : decode cX3_findPlacings 249 = .ok (.getfield 28, 3) := by decide +kernel
theorem dX3_findPlacings_252 : decode cX3_findPlacings 252 = .ok (.iload 7, 2) := by decide +kernel
theorem dX3_findPlacings_254 : decode cX3_findPlacings 254 = .ok (.iaload, 1) := by decide +kernel
theorem dX3_findPlacings_255 : decode cX3_findPlacings 255 = .ok (.iastore, 1) := by decide +kernel
theorem dX3_findPlacings_256 : decode cX3_findPlacings 256 = .ok (.iinc 7 1, 3) := by decide +kernel
theorem dX3_findPlacings_259 : decode cX3_findPlacings 259 = .ok (.goto (-31), 3) := by decide +kernel
theorem dX3_findPlacings_262 : decode cX3_findPlacings 262 = .ok (.iinc 5 1, 3) := by decide +kernel
theorem dX3_findPlacings_265 : decode cX3_findPlacings 265 = .ok (.goto (-204), 3) := by decide +kernel
theorem dX3_findPlacings_268 : decode cX3_findPlacings 268 = .ok (.iload 5, 2) := by decide +kernel
theorem dX3_findPlacings_270 : decode cX3_findPlacings 270 = .ok (.ireturn, 1) := by decide +kernel
theorem dX3_areSleepers_0 : decode cX3_areSleepers 0 = .ok (.iload_n 0, 1) := by decide +kernel
theorem dX3_areSleepers_1 : decode cX3_areSleepers 1 = .ok (.i2l, 1) := by decide +kernel
theorem dX3_areSleepers_2 : decode cX3_areSleepers 2 = .ok (.lconst 0, 1) := by decide +kernel
theorem dX3_areSleepers_3 : decode cX3_areSleepers 3 = .ok (.ldc2_w 176, 3) := by decide +kernel
theorem dX3_areSleepers_6 : decode cX3_areSleepers 6 = .ok (.invokestatic 79, 3) := by decide +kernel
theorem dX3_areSleepers_9 : decode cX3_areSleepers 9 = .ok (.ifCond .eq 43, 3) := by decide +kernel
theorem dX3_areSleepers_12 : decode cX3_areSleepers 12 = .ok (.iload_n 1, 1) := by decide +kernel
theorem dX3_areSleepers_13 : decode cX3_areSleepers 13 = .ok (.i2l, 1) := by decide +kernel
theorem dX3_areSleepers_14 : decode cX3_areSleepers 14 = .ok (.lconst 0, 1) := by decide +kernel
theorem dX3_areSleepers_15 : decode cX3_areSleepers 15 = .ok (.ldc2_w 176, 3) := by decide +kernel
theorem dX3_areSleepers_18 : decode cX3_areSleepers 18 = .ok (.invokestatic 79, 3) := by decide +kernel
theorem dX3_areSleepers_21 : decode cX3_areSleepers 21 = .ok (.ifCond .eq 31, 3) := by decide +kernel
theorem dX3_areSleepers_24 : decode cX3_areSleepers 24 = .ok (.iload_n 2, 1) := by decide +kernel
theorem dX3_areSleepers_25 : decode cX3_areSleepers 25 = .ok (.i2l, 1) := by decide +kernel
theorem dX3_areSleepers_26 : decode cX3_areSleepers 26 = .ok (.lconst 0, 1) := by decide +kernel
theorem dX3_areSleepers_27 : decode cX3_areSleepers 27 = .ok (.ldc2_w 176, 3) := by decide +kernel
theorem dX3_areSleepers_30 : decode cX3_areSleepers 30 = .ok (.invokestatic 79, 3) := by decide +kernel
theorem dX3_areSleepers_33 : decode cX3_areSleepers 33 = .ok (.ifCond .eq 19, 3) := by decide +kernel
theorem dX3_areSleepers_36 : decode cX3_areSleepers 36 = .ok (.iload_n 3, 1) := by decide +kernel
theorem dX3_areSleepers_37 : decode cX3_areSleepers 37 = .ok (.i2l, 1) := by decide +kernel
theorem dX3_areSleepers_38 : decode cX3_areSleepers 38 = .ok (.lconst 0, 1) := by decide +kernel
theorem dX3_areSleepers_39 : decode cX3_areSleepers 39 = .ok (.ldc2_w 176, 3) := by decide +kernel
theorem dX3_areSleepers_42 : decode cX3_areSleepers 42 = .ok (.invokestatic 79, 3) := by decide +kernel
theorem dX3_areSleepers_45 : decode cX3_areSleepers 45 = .ok (.ifCond .eq 7, 3) := by decide +kernel
theorem dX3_areSleepers_48 : decode cX3_areSleepers 48 = .ok (.iconst 1, 1) := by decide +kernel
theorem dX3_areSleepers_49 : decode cX3_areSleepers 49 = .ok (.goto 4, 3) := by decide +kernel
theorem dX3_areSleepers_52 : decode cX3_areSleepers 52 = .ok (.iconst 0, 1) := by decide +kernel
theorem dX3_areSleepers_53 : decode cX3_areSleepers 53 = .ok (.istore 4, 2) := by decide +kernel
theorem dX3_areSleepers_55 : decode cX3_areSleepers 55 = .ok (.iload 4, 2) := by decide +kernel
theorem dX3_areSleepers_57 : decode cX3_areSleepers 57 = .ok (.ifCond .eq 19, 3) := by decide +kernel
theorem dX3_areSleepers_60 : decode cX3_areSleepers 60 = .ok (.iload_n 0, 1) := by decide +kernel
theorem dX3_areSleepers_61 : decode cX3_areSleepers 61 = .ok (.iload_n 1, 1) := by decide +kernel
theorem dX3_areSleepers_62 : decode cX3_areSleepers 62 = .ok (.iadd, 1) := by decide +kernel
theorem dX3_areSleepers_63 : decode cX3_areSleepers 63 = .ok (.iload_n 2, 1) := by decide +kernel
theorem dX3_areSleepers_64 : decode cX3_areSleepers 64 = .ok (.iadd, 1) := by decide +kernel
theorem dX3_areSleepers_65 : decode cX3_areSleepers 65 = .ok (.iload_n 3, 1) := by decide +kernel
theorem dX3_areSleepers_66 : decode cX3_areSleepers 66 = .ok (.iadd, 1) := by decide +kernel
theorem dX3_areSleepers_67 : decode cX3_areSleepers 67 = .ok (.bipush 8, 2) := by decide +kernel
theorem dX3_areSleepers_69 : decode cX3_areSleepers 69 = .ok (.if_icmp .gt 7, 3) := by decide +kernel
theorem dX3_areSleepers_72 : decode cX3_areSleepers 72 = .ok (.iconst 1, 1) := by decide +kernel
theorem dX3_areSleepers_73 : decode cX3_areSleepers 73 = .ok (.goto 4, 3) := by decide +kernel
theorem dX3_areSleepers_76 : decode cX3_areSleepers 76 = .ok (.iconst 0, 1) := by decide +kernel
theorem dX3_areSleepers_77 : decode cX3_areSleepers 77 = .ok (.ireturn, 1) := by decide +kernel
theorem dX3_placingsOf_0 : decode cX3_placingsOf 0 = .ok (.iload_n 1, 1) := by decide +kernel
theorem dX3_placingsOf_1 : decode cX3_placingsOf 1 = .ok (.iload_n 2, 1) := by decide +kernel
theorem dX3_placingsOf_2 : decode cX3_placingsOf 2 = .ok (.iadd, 1) := by decide +kernel
theorem dX3_placingsOf_3 : decode cX3_placingsOf 3 = .ok (.iload_n 3, 1) := by decide +kernel
theorem dX3_placingsOf_4 : decode cX3_placingsOf 4 = .ok (.iadd, 1) := by decide +kernel
theorem dX3_placingsOf_5 : decode cX3_placingsOf 5 = .ok (.iload 4, 2) := by decide +kernel
theorem dX3_placingsOf_7 : decode cX3_placingsOf 7 = .ok (.iadd, 1) := by decide +kernel
theorem dX3_placingsOf_8 : decode cX3_placingsOf 8 = .ok (.aload_n 0, 1) := by decide +kernel
theorem dX3_placingsOf_9 : decode cX3_placingsOf 9 = .ok (.invokevirtual 75, 3) := by decide +kernel
theorem dX3_placingsOf_12 : decode cX3_placingsOf 12 = .ok (.if_icmp .le 7, 3) := by decide +kernel
theorem dX3_placingsOf_15 : decode cX3_placingsOf 15 = .ok (.iconst 0, 1) := by decide +kernel
theorem dX3_placingsOf_16 : decode cX3_placingsOf 16 = .ok (.goto 12, 3) := by decide +kernel
theorem dX3_placingsOf_19 : decode cX3_placingsOf 19 = .ok (.aload_n 0, 1) := by decide +kernel
theorem dX3_placingsOf_20 : decode cX3_placingsOf 20 = .ok (.iload_n 1, 1) := by decide +kernel
theorem dX3_placingsOf_21 : decode cX3_placingsOf 21 = .ok (.iload_n 2, 1) := by decide +kernel
theorem dX3_placingsOf_22 : decode cX3_placingsOf 22 = .ok (.iload_n 3, 1) := by decide +kernel
theorem dX3_placingsOf_23 : decode cX3_placingsOf 23 = .ok (.iload 4, 2) := by decide +kernel
theorem dX3_placingsOf_25 : decode cX3_placingsOf 25 = .ok (.invokevirtual 178, 3) := by decide +kernel
theorem dX3_placingsOf_28 : decode cX3_placingsOf 28 = .ok (.ireturn, 1) := by decide +kernel
theorem dX3_placings_0 : decode cX3_placings 0 = .ok (.iload_n 1, 1) := by decide +kernel
theorem dX3_placings_1 : decode cX3_placings 1 = .ok (.iload_n 2, 1) := by decide +kernel
theorem dX3_placings_2 : decode cX3_placings 2 = .ok (.iload_n 3, 1) := by decide +kernel
theorem dX3_placings_3 : decode cX3_placings 3 = .ok (.iload 4, 2) := by decide +kernel
theorem dX3_placings_5 : decode cX3_placings 5 = .ok (.invokestatic 182, 3) := by decide +kernel
theorem dX3_placings_8 : decode cX3_placings 8 = .ok (.ifCond .ne 6, 3) := by decide +kernel
theorem dX3_placings_11 : decode cX3_placings 11 = .ok (.bipush (-2), 2) := by decide +kernel
theorem dX3_placings_13 : decode cX3_placings 13 = .ok (.ireturn, 1) := by decide +kernel
theorem dX3_placings_14 : decode cX3_placings 14 = .ok (.aload_n 0, 1) := by decide +kernel
theorem dX3_placings_15 : decode cX3_placings 15 = .ok (.invokevirtual 75, 3) := by decide +kernel
theorem dX3_placings_18 : decode cX3_placings 18 = .ok (.bipush 9, 2) := by decide +kernel
theorem dX3_placings_20 : decode cX3_placings 20 = .ok (.if_icmp .le 8, 3) := by decide +kernel
theorem dX3_placings_23 : decode cX3_placings 23 = .ok (.bipush (-4), 2) := by decide +kernel
theorem dX3_placings_25 : decode cX3_placings 25 = .ok (.goto 12, 3) := by decide +kernel
theorem dX3_placings_28 : decode cX3_placings 28 = .ok (.aload_n 0, 1) := by decide +kernel
theorem dX3_placings_29 : decode cX3_placings 29 = .ok (.iload_n 1, 1) := by decide +kernel
theorem dX3_placings_30 : decode cX3_placings 30 = .ok (.iload_n 2, 1) := by decide +kernel
theorem dX3_placings_31 : decode cX3_placings 31 = .ok (.iload_n 3, 1) := by decide +kernel
theorem dX3_placings_32 : decode cX3_placings 32 = .ok (.iload 4, 2) := by decide +kernel
theorem dX3_placings_34 : decode cX3_placings 34 = .ok (.invokevirtual 186, 3) := by decide +kernel
theorem dX3_placings_37 : decode cX3_placings 37 = .ok (.ireturn, 1) := by decide +kernel
theorem dX3_placed_0 : decode cX3_placed 0 = .ok (.aload_n 0, 1) := by decide +kernel
theorem dX3_placed_1 : decode cX3_placed 1 = .ok (.iload 5, 2) := by decide +kernel
theorem dX3_placed_3 : decode cX3_placed 3 = .ok (.invokevirtual 112, 3) := by decide +kernel
theorem dX3_placed_6 : decode cX3_placed 6 = .ok (.ifCond .ne 5, 3) := by decide +kernel
theorem dX3_placed_9 : decode cX3_placed 9 = .ok (.iconst (-1), 1) := by decide +kernel
theorem dX3_placed_10 : decode cX3_placed 10 = .ok (.ireturn, 1) := by decide +kernel
theorem dX3_placed_11 : decode cX3_placed 11 = .ok (.iload_n 1, 1) := by decide +kernel
theorem dX3_placed_12 : decode cX3_placed 12 = .ok (.iload_n 2, 1) := by decide +kernel
theorem dX3_placed_13 : decode cX3_placed 13 = .ok (.iload_n 3, 1) := by decide +kernel
theorem dX3_placed_14 : decode cX3_placed 14 = .ok (.iload 4, 2) := by decide +kernel
theorem dX3_placed_16 : decode cX3_placed 16 = .ok (.invokestatic 182, 3) := by decide +kernel
theorem dX3_placed_19 : decode cX3_placed 19 = .ok (.ifCond .ne 6, 3) := by decide +kernel
theorem dX3_placed_22 : decode cX3_placed 22 = .ok (.bipush (-2), 2) := by decide +kernel
theorem dX3_placed_24 : decode cX3_placed 24 = .ok (.ireturn, 1) := by decide +kernel
theorem dX3_placed_25 : decode cX3_placed 25 = .ok (.aload_n 0, 1) := by decide +kernel
theorem dX3_placed_26 : decode cX3_placed 26 = .ok (.invokevirtual 75, 3) := by decide +kernel
theorem dX3_placed_29 : decode cX3_placed 29 = .ok (.bipush 9, 2) := by decide +kernel
theorem dX3_placed_31 : decode cX3_placed 31 = .ok (.if_icmp .le 6, 3) := by decide +kernel
theorem dX3_placed_34 : decode cX3_placed 34 = .ok (.bipush (-4), 2) := by decide +kernel
theorem dX3_placed_36 : decode cX3_placed 36 = .ok (.ireturn, 1) := by decide +kernel
theorem dX3_placed_37 : decode cX3_placed 37 = .ok (.aload_n 0, 1) := by decide +kernel
theorem dX3_placed_38 : decode cX3_placed 38 = .ok (.iload_n 1, 1) := by decide +kernel
theorem dX3_placed_39 : decode cX3_placed 39 = .ok (.iload_n 2, 1) := by decide +kernel
theorem dX3_placed_40 : decode cX3_placed 40 = .ok (.iload_n 3, 1) := by decide +kernel
theorem dX3_placed_41 : decode cX3_placed 41 = .ok (.iload 4, 2) := by decide +kernel
theorem dX3_placed_43 : decode cX3_placed 43 = .ok (.invokevirtual 186, 3) := by decide +kernel
theorem dX3_placed_46 : decode cX3_placed 46 = .ok (.ifCond .eq 13, 3) := by decide +kernel
theorem dX3_placed_49 : decode cX3_placed 49 = .ok (.aload_n 0, 1) := by decide +kernel
theorem dX3_placed_50 : decode cX3_placed 50 = .ok (.getfield 31, 3) := by decide +kernel
theorem dX3_placed_53 : decode cX3_placed 53 = .ok (.iload 5, 2) := by decide +kernel
theorem dX3_placed_55 : decode cX3_placed 55 = .ok (.iaload, 1) := by decide +kernel
theorem dX3_placed_56 : decode cX3_placed 56 = .ok (.ifCond .ne 8, 3) := by decide +kernel
theorem dX3_placed_59 : decode cX3_placed 59 = .ok (.bipush (-6), 2) := by decide +kernel
theorem dX3_placed_61 : decode cX3_placed 61 = .ok (.goto 12, 3) := by decide +kernel
theorem dX3_placed_64 : decode cX3_placed 64 = .ok (.aload_n 0, 1) := by decide +kernel
theorem dX3_placed_65 : decode cX3_placed 65 = .ok (.getfield 31, 3) := by decide +kernel
theorem dX3_placed_68 : decode cX3_placed 68 = .ok (.iload 5, 2) := by decide +kernel
theorem dX3_placed_70 : decode cX3_placed 70 = .ok (.iaload, 1) := by decide +kernel
theorem dX3_placed_71 : decode cX3_placed 71 = .ok (.iconst 1, 1) := by decide +kernel
theorem dX3_placed_72 : decode cX3_placed 72 = .ok (.isub, 1) := by decide +kernel
theorem dX3_placed_73 : decode cX3_placed 73 = .ok (.ireturn, 1) := by decide +kernel
theorem dX3_findOrders_0 : decode cX3_findOrders 0 = .ok (.aload_n 0, 1) := by decide +kernel
theorem dX3_findOrders_1 : decode cX3_findOrders 1 = .ok (.invokevirtual 101, 3) := by decide +kernel
theorem dX3_findOrders_4 : decode cX3_findOrders 4 = .ok (.istore_n 1, 1) := by decide +kernel
theorem dX3_findOrders_5 : decode cX3_findOrders 5 = .ok (.iconst 1, 1) := by decide +kernel
theorem dX3_findOrders_6 : decode cX3_findOrders 6 = .ok (.istore_n 2, 1) := by decide +kernel
theorem dX3_findOrders_7 : decode cX3_findOrders 7 = .ok (.iload_n 2, 1) := by decide +kernel
theorem dX3_findOrders_8 : decode cX3_findOrders 8 = .ok (.iload_n 1, 1) := by decide +kernel
theorem dX3_findOrders_9 : decode cX3_findOrders 9 = .ok (.if_icmp .gt 100, 3) := by decide +kernel
theorem dX3_findOrders_12 : decode cX3_findOrders 12 = .ok (.lconst 0, 1) := by decide +kernel
theorem dX3_findOrders_13 : decode cX3_findOrders 13 = .ok (.lstore_n 3, 1) := by decide +kernel
theorem dX3_findOrders_14 : decode cX3_findOrders 14 = .ok (.iconst 0, 1) := by decide +kernel
theorem dX3_findOrders_15 : decode cX3_findOrders 15 = .ok (.istore 5, 2) := by decide +kernel
theorem dX3_findOrders_17 : decode cX3_findOrders 17 = .ok (.iload 5, 2) := by decide +kernel
theorem dX3_findOrders_19 : decode cX3_findOrders 19 = .ok (.aload_n 0, 1) := by decide +kernel
theorem dX3_findOrders_20 : decode cX3_findOrders 20 = .ok (.invokevirtual 75, 3) := by decide +kernel
theorem dX3_findOrders_23 : decode cX3_findOrders 23 = .ok (.if_icmp .ge 73, 3) := by decide +kernel
theorem dX3_findOrders_26 : decode cX3_findOrders 26 = .ok (.iload_n 2, 1) := by decide +kernel
theorem dX3_findOrders_27 : decode cX3_findOrders 27 = .ok (.iload_n 1, 1) := by decide +kernel
theorem dX3_findOrders_28 : decode cX3_findOrders 28 = .ok (.iconst (-1), 1) := by decide +kernel
theorem dX3_findOrders_29 : decode cX3_findOrders 29 = .ok (.ixor, 1) := by decide +kernel
theorem dX3_findOrders_30 : decode cX3_findOrders 30 = .ok (.iand, 1) := by decide +kernel
theorem dX3_findOrders_31 : decode cX3_findOrders 31 = .ok (.ifCond .ne 65, 3) := by decide +kernel
theorem dX3_findOrders_34 : decode cX3_findOrders 34 = .ok (.iload_n 2, 1) := by decide +kernel
theorem dX3_findOrders_35 : decode cX3_findOrders 35 = .ok (.iconst 1, 1) := by decide +kernel
theorem dX3_findOrders_36 : decode cX3_findOrders 36 = .ok (.iload 5, 2) := by decide +kernel
theorem dX3_findOrders_38 : decode cX3_findOrders 38 = .ok (.ishl, 1) := by decide +kernel
theorem dX3_findOrders_39 : decode cX3_findOrders 39 = .ok (.iconst (-1), 1) := by decide +kernel
theorem dX3_findOrders_40 : decode cX3_findOrders 40 = .ok (.ixor, 1) := by decide +kernel
theorem dX3_findOrders_41 : decode cX3_findOrders 41 = .ok (.iand, 1) := by decide +kernel
theorem dX3_findOrders_42 : decode cX3_findOrders 42 = .ok (.istore 6, 2) := by decide +kernel
theorem dX3_findOrders_44 : decode cX3_findOrders 44 = .ok (.iload_n 2, 1) := by decide +kernel
theorem dX3_findOrders_45 : decode cX3_findOrders 45 = .ok (.iload 5, 2) := by decide +kernel
theorem dX3_findOrders_47 : decode cX3_findOrders 47 = .ok (.ishr, 1) := by decide +kernel
theorem dX3_findOrders_48 : decode cX3_findOrders 48 = .ok (.iconst 1, 1) := by decide +kernel
theorem dX3_findOrders_49 : decode cX3_findOrders 49 = .ok (.iand, 1) := by decide +kernel
theorem dX3_findOrders_50 : decode cX3_findOrders 50 = .ok (.iconst 1, 1) := by decide +kernel
theorem dX3_findOrders_51 : decode cX3_findOrders 51 = .ok (.if_icmp .ne 39, 3) := by decide +kernel
theorem dX3_findOrders_54 : decode cX3_findOrders 54 = .ok (.lload_n 3, 1) := by decide +kernel
theorem dX3_findOrders_55 : decode cX3_findOrders 55 = .ok (.iload 6, 2) := by decide +kernel
theorem dX3_findOrders_57 : decode cX3_findOrders 57 = .ok (.ifCond .ne 7, 3) := by decide +kernel
theorem dX3_findOrders_60 : decode cX3_findOrders 60 = .ok (.lconst 1, 1) := by decide +kernel
theorem dX3_findOrders_61 : decode cX3_findOrders 61 = .ok (.goto 27, 3) := by decide +kernel
theorem dX3_findOrders_64 : decode cX3_findOrders 64 = .ok (.aload_n 0, 1) := by decide +kernel
theorem dX3_findOrders_65 : decode cX3_findOrders 65 = .ok (.getfield 16, 3) := by decide +kernel
theorem dX3_findOrders_68 : decode cX3_findOrders 68 = .ok (.iload 5, 2) := by decide +kernel
theorem dX3_findOrders_70 : decode cX3_findOrders 70 = .ok (.iaload, 1) := by decide +kernel
theorem dX3_findOrders_71 : decode cX3_findOrders 71 = .ok (.iload 6, 2) := by decide +kernel
theorem dX3_findOrders_73 : decode cX3_findOrders 73 = .ok (.iand, 1) := by decide +kernel
theorem dX3_findOrders_74 : decode cX3_findOrders 74 = .ok (.ifCond .eq 13, 3) := by decide +kernel
theorem dX3_findOrders_77 : decode cX3_findOrders 77 = .ok (.aload_n 0, 1) := by decide +kernel
theorem dX3_findOrders_78 : decode cX3_findOrders 78 = .ok (.getfield 38, 3) := by decide +kernel
theorem dX3_findOrders_81 : decode cX3_findOrders 81 = .ok (.iload 6, 2) := by decide +kernel
theorem dX3_findOrders_83 : decode cX3_findOrders 83 = .ok (.laload, 1) := by decide +kernel
theorem dX3_findOrders_84 : decode cX3_findOrders 84 = .ok (.goto 4, 3) := by decide +kernel
theorem dX3_findOrders_87 : decode cX3_findOrders 87 = .ok (.lconst 0, 1) := by decide +kernel
theorem dX3_findOrders_88 : decode cX3_findOrders 88 = .ok (.ladd, 1) := by decide +kernel
theorem dX3_findOrders_89 : decode cX3_findOrders 89 = .ok (.lstore_n 3, 1) := by decide +kernel
theorem dX3_findOrders_90 : decode cX3_findOrders 90 = .ok (.iinc 5 1, 3) := by decide +kernel
theorem dX3_findOrders_93 : decode cX3_findOrders 93 = .ok (.goto (-76), 3) := by decide +kernel
theorem dX3_findOrders_96 : decode cX3_findOrders 96 = .ok (.aload_n 0, 1) := by decide +kernel
theorem dX3_findOrders_97 : decode cX3_findOrders 97 = .ok (.getfield 38, 3) := by decide +kernel
theorem dX3_findOrders_100 : decode cX3_findOrders 100 = .ok (.iload_n 2, 1) := by decide +kernel
theorem dX3_findOrders_101 : decode cX3_findOrders 101 = .ok (.lload_n 3, 1) := by decide +kernel
theorem dX3_findOrders_102 : decode cX3_findOrders 102 = .ok (.lastore, 1) := by decide +kernel
theorem dX3_findOrders_103 : decode cX3_findOrders 103 = .ok (.iinc 2 1, 3) := by decide +kernel
theorem dX3_findOrders_106 : decode cX3_findOrders 106 = .ok (.goto (-99), 3) := by decide +kernel
theorem dX3_findOrders_109 : decode cX3_findOrders 109 = .ok (.return_, 1) := by decide +kernel
theorem dX3_grown_0 : decode cX3_grown 0 = .ok (.aload_n 0, 1) := by decide +kernel
theorem dX3_grown_1 : decode cX3_grown 1 = .ok (.invokevirtual 101, 3) := by decide +kernel
theorem dX3_grown_4 : decode cX3_grown 4 = .ok (.istore_n 1, 1) := by decide +kernel
theorem dX3_grown_5 : decode cX3_grown 5 = .ok (.iload_n 1, 1) := by decide +kernel
theorem dX3_grown_6 : decode cX3_grown 6 = .ok (.ifCond .ne 5, 3) := by decide +kernel
theorem dX3_grown_9 : decode cX3_grown 9 = .ok (.lconst 0, 1) := by decide +kernel
theorem dX3_grown_10 : decode cX3_grown 10 = .ok (.lreturn, 1) := by decide +kernel
theorem dX3_grown_11 : decode cX3_grown 11 = .ok (.aload_n 0, 1) := by decide +kernel
theorem dX3_grown_12 : decode cX3_grown 12 = .ok (.invokevirtual 189, 3) := by decide +kernel
theorem dX3_grown_15 : decode cX3_grown 15 = .ok (.aload_n 0, 1) := by decide +kernel
theorem dX3_grown_16 : decode cX3_grown 16 = .ok (.getfield 38, 3) := by decide +kernel
theorem dX3_grown_19 : decode cX3_grown 19 = .ok (.iload_n 1, 1) := by decide +kernel
theorem dX3_grown_20 : decode cX3_grown 20 = .ok (.laload, 1) := by decide +kernel
theorem dX3_grown_21 : decode cX3_grown 21 = .ok (.lreturn, 1) := by decide +kernel
theorem dX3_could_0 : decode cX3_could 0 = .ok (.iload_n 1, 1) := by decide +kernel
theorem dX3_could_1 : decode cX3_could 1 = .ok (.i2l, 1) := by decide +kernel
theorem dX3_could_2 : decode cX3_could 2 = .ok (.lconst 0, 1) := by decide +kernel
theorem dX3_could_3 : decode cX3_could 3 = .ok (.lconst 1, 1) := by decide +kernel
theorem dX3_could_4 : decode cX3_could 4 = .ok (.invokestatic 79, 3) := by decide +kernel
theorem dX3_could_7 : decode cX3_could 7 = .ok (.ifCond .ne 6, 3) := by decide +kernel
theorem dX3_could_10 : decode cX3_could 10 = .ok (.bipush (-2), 2) := by decide +kernel
theorem dX3_could_12 : decode cX3_could 12 = .ok (.ireturn, 1) := by decide +kernel
theorem dX3_could_13 : decode cX3_could 13 = .ok (.aload_n 0, 1) := by decide +kernel
theorem dX3_could_14 : decode cX3_could 14 = .ok (.invokevirtual 101, 3) := by decide +kernel
theorem dX3_could_17 : decode cX3_could 17 = .ok (.istore_n 2, 1) := by decide +kernel
theorem dX3_could_18 : decode cX3_could 18 = .ok (.iload_n 2, 1) := by decide +kernel
theorem dX3_could_19 : decode cX3_could 19 = .ok (.ifCond .ne 5, 3) := by decide +kernel
theorem dX3_could_22 : decode cX3_could 22 = .ok (.iconst 0, 1) := by decide +kernel
theorem dX3_could_23 : decode cX3_could 23 = .ok (.ireturn, 1) := by decide +kernel
theorem dX3_could_24 : decode cX3_could 24 = .ok (.aload_n 0, 1) := by decide +kernel
theorem dX3_could_25 : decode cX3_could 25 = .ok (.invokevirtual 189, 3) := by decide +kernel
theorem dX3_could_28 : decode cX3_could 28 = .ok (.aload_n 0, 1) := by decide +kernel
theorem dX3_could_29 : decode cX3_could 29 = .ok (.getfield 38, 3) := by decide +kernel
theorem dX3_could_32 : decode cX3_could 32 = .ok (.iload_n 2, 1) := by decide +kernel
theorem dX3_could_33 : decode cX3_could 33 = .ok (.laload, 1) := by decide +kernel
theorem dX3_could_34 : decode cX3_could 34 = .ok (.lconst 0, 1) := by decide +kernel
theorem dX3_could_35 : decode cX3_could 35 = .ok (.lcmp, 1) := by decide +kernel
theorem dX3_could_36 : decode cX3_could 36 = .ok (.ifCond .ne 5, 3) := by decide +kernel
theorem dX3_could_39 : decode cX3_could 39 = .ok (.iconst 0, 1) := by decide +kernel
theorem dX3_could_40 : decode cX3_could 40 = .ok (.ireturn, 1) := by decide +kernel
theorem dX3_could_41 : decode cX3_could 41 = .ok (.iconst 0, 1) := by decide +kernel
theorem dX3_could_42 : decode cX3_could 42 = .ok (.istore_n 3, 1) := by decide +kernel
theorem dX3_could_43 : decode cX3_could 43 = .ok (.iconst 0, 1) := by decide +kernel
theorem dX3_could_44 : decode cX3_could 44 = .ok (.istore 4, 2) := by decide +kernel
theorem dX3_could_46 : decode cX3_could 46 = .ok (.iload 4, 2) := by decide +kernel
theorem dX3_could_48 : decode cX3_could 48 = .ok (.aload_n 0, 1) := by decide +kernel
theorem dX3_could_49 : decode cX3_could 49 = .ok (.invokevirtual 75, 3) := by decide +kernel
theorem dX3_could_52 : decode cX3_could 52 = .ok (.if_icmp .ge 85, 3) := by decide +kernel
theorem dX3_could_55 : decode cX3_could 55 = .ok (.iload_n 2, 1) := by decide +kernel
theorem dX3_could_56 : decode cX3_could 56 = .ok (.iconst 1, 1) := by decide +kernel
theorem dX3_could_57 : decode cX3_could 57 = .ok (.iload 4, 2) := by decide +kernel
theorem dX3_could_59 : decode cX3_could 59 = .ok (.ishl, 1) := by decide +kernel
theorem dX3_could_60 : decode cX3_could 60 = .ok (.iconst (-1), 1) := by decide +kernel
theorem dX3_could_61 : decode cX3_could 61 = .ok (.ixor, 1) := by decide +kernel
theorem dX3_could_62 : decode cX3_could 62 = .ok (.iand, 1) := by decide +kernel
theorem dX3_could_63 : decode cX3_could 63 = .ok (.istore 5, 2) := by decide +kernel
theorem dX3_could_65 : decode cX3_could 65 = .ok (.iload 5, 2) := by decide +kernel
theorem dX3_could_67 : decode cX3_could 67 = .ok (.ifCond .eq 28, 3) := by decide +kernel
theorem dX3_could_70 : decode cX3_could 70 = .ok (.aload_n 0, 1) := by decide +kernel
theorem dX3_could_71 : decode cX3_could 71 = .ok (.getfield 16, 3) := by decide +kernel
theorem dX3_could_74 : decode cX3_could 74 = .ok (.iload 4, 2) := by decide +kernel
theorem dX3_could_76 : decode cX3_could 76 = .ok (.iaload, 1) := by decide +kernel
theorem dX3_could_77 : decode cX3_could 77 = .ok (.iload 5, 2) := by decide +kernel
theorem dX3_could_79 : decode cX3_could 79 = .ok (.iand, 1) := by decide +kernel
theorem dX3_could_80 : decode cX3_could 80 = .ok (.ifCond .eq 19, 3) := by decide +kernel
theorem dX3_could_83 : decode cX3_could 83 = .ok (.aload_n 0, 1) := by decide +kernel
theorem dX3_could_84 : decode cX3_could 84 = .ok (.getfield 38, 3) := by decide +kernel
theorem dX3_could_87 : decode cX3_could 87 = .ok (.iload 5, 2) := by decide +kernel
theorem dX3_could_89 : decode cX3_could 89 = .ok (.laload, 1) := by decide +kernel
theorem dX3_could_90 : decode cX3_could 90 = .ok (.lconst 0, 1) := by decide +kernel
theorem dX3_could_91 : decode cX3_could 91 = .ok (.lcmp, 1) := by decide +kernel
theorem dX3_could_92 : decode cX3_could 92 = .ok (.ifCond .le 7, 3) := by decide +kernel
theorem dX3_could_95 : decode cX3_could 95 = .ok (.iconst 1, 1) := by decide +kernel
theorem dX3_could_96 : decode cX3_could 96 = .ok (.goto 4, 3) := by decide +kernel
theorem dX3_could_99 : decode cX3_could 99 = .ok (.iconst 0, 1) := by decide +kernel
theorem dX3_could_100 : decode cX3_could 100 = .ok (.istore 6, 2) := by decide +kernel
theorem dX3_could_102 : decode cX3_could 102 = .ok (.iload_n 3, 1) := by decide +kernel
theorem dX3_could_103 : decode cX3_could 103 = .ok (.aload_n 0, 1) := by decide +kernel
theorem dX3_could_104 : decode cX3_could 104 = .ok (.iload 4, 2) := by decide +kernel
theorem dX3_could_106 : decode cX3_could 106 = .ok (.invokevirtual 108, 3) := by decide +kernel
theorem dX3_could_109 : decode cX3_could 109 = .ok (.ifCond .eq 19, 3) := by decide +kernel
theorem dX3_could_112 : decode cX3_could 112 = .ok (.iload_n 1, 1) := by decide +kernel
theorem dX3_could_113 : decode cX3_could 113 = .ok (.ifCond .eq 8, 3) := by decide +kernel
theorem dX3_could_116 : decode cX3_could 116 = .ok (.iload 6, 2) := by decide +kernel
theorem dX3_could_118 : decode cX3_could 118 = .ok (.ifCond .eq 10, 3) := by decide +kernel
theorem dX3_could_121 : decode cX3_could 121 = .ok (.iconst 1, 1) := by decide +kernel
theorem dX3_could_122 : decode cX3_could 122 = .ok (.iload 4, 2) := by decide +kernel
theorem dX3_could_124 : decode cX3_could 124 = .ok (.ishl, 1) := by decide +kernel
theorem dX3_could_125 : decode cX3_could 125 = .ok (.goto 4, 3) := by decide +kernel
theorem dX3_could_128 : decode cX3_could 128 = .ok (.iconst 0, 1) := by decide +kernel
theorem dX3_could_129 : decode cX3_could 129 = .ok (.ior, 1) := by decide +kernel
theorem dX3_could_130 : decode cX3_could 130 = .ok (.istore_n 3, 1) := by decide +kernel
theorem dX3_could_131 : decode cX3_could 131 = .ok (.iinc 4 1, 3) := by decide +kernel
theorem dX3_could_134 : decode cX3_could 134 = .ok (.goto (-88), 3) := by decide +kernel
theorem dX3_could_137 : decode cX3_could 137 = .ok (.iload_n 3, 1) := by decide +kernel
theorem dX3_could_138 : decode cX3_could 138 = .ok (.ireturn, 1) := by decide +kernel
theorem dX3_keep_0 : decode cX3_keep 0 = .ok (.iconst 0, 1) := by decide +kernel
theorem dX3_keep_1 : decode cX3_keep 1 = .ok (.istore_n 1, 1) := by decide +kernel
theorem dX3_keep_2 : decode cX3_keep 2 = .ok (.iload_n 1, 1) := by decide +kernel
theorem dX3_keep_3 : decode cX3_keep 3 = .ok (.bipush 16, 2) := by decide +kernel
theorem dX3_keep_5 : decode cX3_keep 5 = .ok (.if_icmp .ge 33, 3) := by decide +kernel
theorem dX3_keep_8 : decode cX3_keep 8 = .ok (.aload_n 0, 1) := by decide +kernel
theorem dX3_keep_9 : decode cX3_keep 9 = .ok (.getfield 42, 3) := by decide +kernel
theorem dX3_keep_12 : decode cX3_keep 12 = .ok (.iload_n 1, 1) := by decide +kernel
theorem dX3_keep_13 : decode cX3_keep 13 = .ok (.aload_n 0, 1) := by decide +kernel
theorem dX3_keep_14 : decode cX3_keep 14 = .ok (.getfield 13, 3) := by decide +kernel
theorem dX3_keep_17 : decode cX3_keep 17 = .ok (.iload_n 1, 1) := by decide +kernel
theorem dX3_keep_18 : decode cX3_keep 18 = .ok (.iaload, 1) := by decide +kernel
theorem dX3_keep_19 : decode cX3_keep 19 = .ok (.iastore, 1) := by decide +kernel
theorem dX3_keep_20 : decode cX3_keep 20 = .ok (.aload_n 0, 1) := by decide +kernel
theorem dX3_keep_21 : decode cX3_keep 21 = .ok (.getfield 45, 3) := by decide +kernel
theorem dX3_keep_24 : decode cX3_keep 24 = .ok (.iload_n 1, 1) := by decide +kernel
theorem dX3_keep_25 : decode cX3_keep 25 = .ok (.aload_n 0, 1) := by decide +kernel
theorem dX3_keep_26 : decode cX3_keep 26 = .ok (.getfield 16, 3) := by decide +kernel
theorem dX3_keep_29 : decode cX3_keep 29 = .ok (.iload_n 1, 1) := by decide +kernel
theorem dX3_keep_30 : decode cX3_keep 30 = .ok (.iaload, 1) := by decide +kernel
theorem dX3_keep_31 : decode cX3_keep 31 = .ok (.iastore, 1) := by decide +kernel
theorem dX3_keep_32 : decode cX3_keep 32 = .ok (.iinc 1 1, 3) := by decide +kernel
theorem dX3_keep_35 : decode cX3_keep 35 = .ok (.goto (-33), 3) := by decide +kernel
theorem dX3_keep_38 : decode cX3_keep 38 = .ok (.return_, 1) := by decide +kernel
theorem dX3_turned_0 : decode cX3_turned 0 = .ok (.aload_n 0, 1) := by decide +kernel
theorem dX3_turned_1 : decode cX3_turned 1 = .ok (.getfield 69, 3) := by decide +kernel
theorem dX3_turned_4 : decode cX3_turned 4 = .ok (.iload_n 1, 1) := by decide +kernel
theorem dX3_turned_5 : decode cX3_turned 5 = .ok (.aload_n 0, 1) := by decide +kernel
theorem dX3_turned_6 : decode cX3_turned 6 = .ok (.getfield 72, 3) := by decide +kernel
theorem dX3_turned_9 : decode cX3_turned 9 = .ok (.irem, 1) := by decide +kernel
theorem dX3_turned_10 : decode cX3_turned 10 = .ok (.imul, 1) := by decide +kernel
theorem dX3_turned_11 : decode cX3_turned 11 = .ok (.aload_n 0, 1) := by decide +kernel
theorem dX3_turned_12 : decode cX3_turned 12 = .ok (.getfield 69, 3) := by decide +kernel
theorem dX3_turned_15 : decode cX3_turned 15 = .ok (.iadd, 1) := by decide +kernel
theorem dX3_turned_16 : decode cX3_turned 16 = .ok (.iconst 1, 1) := by decide +kernel
theorem dX3_turned_17 : decode cX3_turned 17 = .ok (.isub, 1) := by decide +kernel
theorem dX3_turned_18 : decode cX3_turned 18 = .ok (.iload_n 1, 1) := by decide +kernel
theorem dX3_turned_19 : decode cX3_turned 19 = .ok (.aload_n 0, 1) := by decide +kernel
theorem dX3_turned_20 : decode cX3_turned 20 = .ok (.getfield 72, 3) := by decide +kernel
theorem dX3_turned_23 : decode cX3_turned 23 = .ok (.idiv, 1) := by decide +kernel
theorem dX3_turned_24 : decode cX3_turned 24 = .ok (.isub, 1) := by decide +kernel
theorem dX3_turned_25 : decode cX3_turned 25 = .ok (.ireturn, 1) := by decide +kernel
theorem dX3_turn_0 : decode cX3_turn 0 = .ok (.aload_n 0, 1) := by decide +kernel
theorem dX3_turn_1 : decode cX3_turn 1 = .ok (.invokevirtual 192, 3) := by decide +kernel
theorem dX3_turn_4 : decode cX3_turn 4 = .ok (.iconst 0, 1) := by decide +kernel
theorem dX3_turn_5 : decode cX3_turn 5 = .ok (.istore_n 1, 1) := by decide +kernel
theorem dX3_turn_6 : decode cX3_turn 6 = .ok (.iload_n 1, 1) := by decide +kernel
theorem dX3_turn_7 : decode cX3_turn 7 = .ok (.aload_n 0, 1) := by decide +kernel
theorem dX3_turn_8 : decode cX3_turn 8 = .ok (.invokevirtual 75, 3) := by decide +kernel
theorem dX3_turn_11 : decode cX3_turn 11 = .ok (.if_icmp .ge 84, 3) := by decide +kernel
theorem dX3_turn_14 : decode cX3_turn 14 = .ok (.aload_n 0, 1) := by decide +kernel
theorem dX3_turn_15 : decode cX3_turn 15 = .ok (.iload_n 1, 1) := by decide +kernel
theorem dX3_turn_16 : decode cX3_turn 16 = .ok (.invokevirtual 195, 3) := by decide +kernel
theorem dX3_turn_19 : decode cX3_turn 19 = .ok (.istore_n 2, 1) := by decide +kernel
theorem dX3_turn_20 : decode cX3_turn 20 = .ok (.aload_n 0, 1) := by decide +kernel
theorem dX3_turn_21 : decode cX3_turn 21 = .ok (.getfield 13, 3) := by decide +kernel
theorem dX3_turn_24 : decode cX3_turn 24 = .ok (.iload_n 2, 1) := by decide +kernel
theorem dX3_turn_25 : decode cX3_turn 25 = .ok (.aload_n 0, 1) := by decide +kernel
theorem dX3_turn_26 : decode cX3_turn 26 = .ok (.getfield 42, 3) := by decide +kernel
theorem dX3_turn_29 : decode cX3_turn 29 = .ok (.iload_n 1, 1) := by decide +kernel
theorem dX3_turn_30 : decode cX3_turn 30 = .ok (.iaload, 1) := by decide +kernel
theorem dX3_turn_31 : decode cX3_turn 31 = .ok (.iastore, 1) := by decide +kernel
theorem dX3_turn_32 : decode cX3_turn 32 = .ok (.aload_n 0, 1) := by decide +kernel
theorem dX3_turn_33 : decode cX3_turn 33 = .ok (.getfield 16, 3) := by decide +kernel
theorem dX3_turn_36 : decode cX3_turn 36 = .ok (.iload_n 2, 1) := by decide +kernel
theorem dX3_turn_37 : decode cX3_turn 37 = .ok (.iconst 0, 1) := by decide +kernel
theorem dX3_turn_38 : decode cX3_turn 38 = .ok (.iastore, 1) := by decide +kernel
theorem dX3_turn_39 : decode cX3_turn 39 = .ok (.iconst 0, 1) := by decide +kernel
theorem dX3_turn_40 : decode cX3_turn 40 = .ok (.istore_n 3, 1) := by decide +kernel
theorem dX3_turn_41 : decode cX3_turn 41 = .ok (.iload_n 3, 1) := by decide +kernel
theorem dX3_turn_42 : decode cX3_turn 42 = .ok (.aload_n 0, 1) := by decide +kernel
theorem dX3_turn_43 : decode cX3_turn 43 = .ok (.invokevirtual 75, 3) := by decide +kernel
theorem dX3_turn_46 : decode cX3_turn 46 = .ok (.if_icmp .ge 43, 3) := by decide +kernel
theorem dX3_turn_49 : decode cX3_turn 49 = .ok (.aload_n 0, 1) := by decide +kernel
theorem dX3_turn_50 : decode cX3_turn 50 = .ok (.getfield 16, 3) := by decide +kernel
theorem dX3_turn_53 : decode cX3_turn 53 = .ok (.iload_n 2, 1) := by decide +kernel
theorem dX3_turn_54 : decode cX3_turn 54 = .ok (.dup2, 1) := by decide +kernel
theorem dX3_turn_55 : decode cX3_turn 55 = .ok (.iaload, 1) := by decide +kernel
theorem dX3_turn_56 : decode cX3_turn 56 = .ok (.aload_n 0, 1) := by decide +kernel
theorem dX3_turn_57 : decode cX3_turn 57 = .ok (.getfield 45, 3) := by decide +kernel
theorem dX3_turn_60 : decode cX3_turn 60 = .ok (.iload_n 1, 1) := by decide +kernel
theorem dX3_turn_61 : decode cX3_turn 61 = .ok (.iaload, 1) := by decide +kernel
theorem dX3_turn_62 : decode cX3_turn 62 = .ok (.iload_n 3, 1) := by decide +kernel
theorem dX3_turn_63 : decode cX3_turn 63 = .ok (.ishr, 1) := by decide +kernel
theorem dX3_turn_64 : decode cX3_turn 64 = .ok (.iconst 1, 1) := by decide +kernel
theorem dX3_turn_65 : decode cX3_turn 65 = .ok (.iand, 1) := by decide +kernel
theorem dX3_turn_66 : decode cX3_turn 66 = .ok (.iconst 1, 1) := by decide +kernel
theorem dX3_turn_67 : decode cX3_turn 67 = .ok (.if_icmp .ne 13, 3) := by decide +kernel
theorem dX3_turn_70 : decode cX3_turn 70 = .ok (.iconst 1, 1) := by decide +kernel
theorem dX3_turn_71 : decode cX3_turn 71 = .ok (.aload_n 0, 1) := by decide +kernel
theorem dX3_turn_72 : decode cX3_turn 72 = .ok (.iload_n 3, 1) := by decide +kernel
theorem dX3_turn_73 : decode cX3_turn 73 = .ok (.invokevirtual 195, 3) := by decide +kernel
theorem dX3_turn_76 : decode cX3_turn 76 = .ok (.ishl, 1) := by decide +kernel
theorem dX3_turn_77 : decode cX3_turn 77 = .ok (.goto 4, 3) := by decide +kernel
theorem dX3_turn_80 : decode cX3_turn 80 = .ok (.iconst 0, 1) := by decide +kernel
theorem dX3_turn_81 : decode cX3_turn 81 = .ok (.ior, 1) := by decide +kernel
theorem dX3_turn_82 : decode cX3_turn 82 = .ok (.iastore, 1) := by decide +kernel
theorem dX3_turn_83 : decode cX3_turn 83 = .ok (.iinc 3 1, 3) := by decide +kernel
theorem dX3_turn_86 : decode cX3_turn 86 = .ok (.goto (-45), 3) := by decide +kernel
theorem dX3_turn_89 : decode cX3_turn 89 = .ok (.iinc 1 1, 3) := by decide +kernel
theorem dX3_turn_92 : decode cX3_turn 92 = .ok (.goto (-86), 3) := by decide +kernel
theorem dX3_turn_95 : decode cX3_turn 95 = .ok (.aload_n 0, 1) := by decide +kernel
theorem dX3_turn_96 : decode cX3_turn 96 = .ok (.getfield 69, 3) := by decide +kernel
theorem dX3_turn_99 : decode cX3_turn 99 = .ok (.istore_n 1, 1) := by decide +kernel
theorem dX3_turn_100 : decode cX3_turn 100 = .ok (.aload_n 0, 1) := by decide +kernel
theorem dX3_turn_101 : decode cX3_turn 101 = .ok (.aload_n 0, 1) := by decide +kernel
theorem dX3_turn_102 : decode cX3_turn 102 = .ok (.getfield 72, 3) := by decide +kernel
theorem dX3_turn_105 : decode cX3_turn 105 = .ok (.putfield 69, 3) := by decide +kernel
theorem dX3_turn_108 : decode cX3_turn 108 = .ok (.aload_n 0, 1) := by decide +kernel
theorem dX3_turn_109 : decode cX3_turn 109 = .ok (.iload_n 1, 1) := by decide +kernel
theorem dX3_turn_110 : decode cX3_turn 110 = .ok (.putfield 72, 3) := by decide +kernel
theorem dX3_turn_113 : decode cX3_turn 113 = .ok (.aload_n 0, 1) := by decide +kernel
theorem dX3_turn_114 : decode cX3_turn 114 = .ok (.invokevirtual 75, 3) := by decide +kernel
theorem dX3_turn_117 : decode cX3_turn 117 = .ok (.ireturn, 1) := by decide +kernel
theorem dX3_years_0 : decode cX3_years 0 = .ok (.iload_n 1, 1) := by decide +kernel
theorem dX3_years_1 : decode cX3_years 1 = .ok (.i2l, 1) := by decide +kernel
theorem dX3_years_2 : decode cX3_years 2 = .ok (.lconst 0, 1) := by decide +kernel
theorem dX3_years_3 : decode cX3_years 3 = .ok (.ldc2_w 198, 3) := by decide +kernel
theorem dX3_years_6 : decode cX3_years 6 = .ok (.invokestatic 79, 3) := by decide +kernel
theorem dX3_years_9 : decode cX3_years 9 = .ok (.ifCond .eq 27, 3) := by decide +kernel
theorem dX3_years_12 : decode cX3_years 12 = .ok (.iload_n 2, 1) := by decide +kernel
theorem dX3_years_13 : decode cX3_years 13 = .ok (.i2l, 1) := by decide +kernel
theorem dX3_years_14 : decode cX3_years 14 = .ok (.lconst 1, 1) := by decide +kernel
theorem dX3_years_15 : decode cX3_years 15 = .ok (.ldc2_w 124, 3) := by decide +kernel
theorem dX3_years_18 : decode cX3_years 18 = .ok (.invokestatic 79, 3) := by decide +kernel
theorem dX3_years_21 : decode cX3_years 21 = .ok (.ifCond .eq 15, 3) := by decide +kernel
theorem dX3_years_24 : decode cX3_years 24 = .ok (.iload_n 3, 1) := by decide +kernel
theorem dX3_years_25 : decode cX3_years 25 = .ok (.i2l, 1) := by decide +kernel
theorem dX3_years_26 : decode cX3_years 26 = .ok (.lconst 0, 1) := by decide +kernel
theorem dX3_years_27 : decode cX3_years 27 = .ok (.ldc2_w 83, 3) := by decide +kernel
theorem dX3_years_30 : decode cX3_years 30 = .ok (.invokestatic 79, 3) := by decide +kernel
theorem dX3_years_33 : decode cX3_years 33 = .ok (.ifCond .ne 6, 3) := by decide +kernel
theorem dX3_years_36 : decode cX3_years 36 = .ok (.bipush (-2), 2) := by decide +kernel
theorem dX3_years_38 : decode cX3_years 38 = .ok (.ireturn, 1) := by decide +kernel
theorem dX3_years_39 : decode cX3_years 39 = .ok (.aload_n 0, 1) := by decide +kernel
theorem dX3_years_40 : decode cX3_years 40 = .ok (.invokevirtual 192, 3) := by decide +kernel
theorem dX3_years_43 : decode cX3_years 43 = .ok (.iload_n 1, 1) := by decide +kernel
theorem dX3_years_44 : decode cX3_years 44 = .ok (.istore 4, 2) := by decide +kernel
theorem dX3_years_46 : decode cX3_years 46 = .ok (.iconst 0, 1) := by decide +kernel
theorem dX3_years_47 : decode cX3_years 47 = .ok (.istore 5, 2) := by decide +kernel
theorem dX3_years_49 : decode cX3_years 49 = .ok (.iconst 0, 1) := by decide +kernel
theorem dX3_years_50 : decode cX3_years 50 = .ok (.istore 6, 2) := by decide +kernel
theorem dX3_years_52 : decode cX3_years 52 = .ok (.iconst 0, 1) := by decide +kernel
theorem dX3_years_53 : decode cX3_years 53 = .ok (.istore 7, 2) := by decide +kernel
theorem dX3_years_55 : decode cX3_years 55 = .ok (.iload 7, 2) := by decide +kernel
theorem dX3_years_57 : decode cX3_years 57 = .ok (.iload_n 2, 1) := by decide +kernel
theorem dX3_years_58 : decode cX3_years 58 = .ok (.if_icmp .ge 75, 3) := by decide +kernel
theorem dX3_years_61 : decode cX3_years 61 = .ok (.ldc2_w 200, 3) := by decide +kernel
theorem dX3_years_64 : decode cX3_years 64 = .ok (.iload 4, 2) := by decide +kernel
theorem dX3_years_66 : decode cX3_years 66 = .ok (.i2l, 1) := by decide +kernel
theorem dX3_years_67 : decode cX3_years 67 = .ok (.lmul, 1) := by decide +kernel
theorem dX3_years_68 : decode cX3_years 68 = .ok (.ldc2_w 202, 3) := by decide +kernel
theorem dX3_years_71 : decode cX3_years 71 = .ok (.ladd, 1) := by decide +kernel
theorem dX3_years_72 : decode cX3_years 72 = .ok (.ldc2_w 204, 3) := by decide +kernel
theorem dX3_years_75 : decode cX3_years 75 = .ok (.lrem, 1) := by decide +kernel
theorem dX3_years_76 : decode cX3_years 76 = .ok (.l2i, 1) := by decide +kernel
theorem dX3_years_77 : decode cX3_years 77 = .ok (.istore 4, 2) := by decide +kernel
theorem dX3_years_79 : decode cX3_years 79 = .ok (.iload 4, 2) := by decide +kernel
theorem dX3_years_81 : decode cX3_years 81 = .ok (.aload_n 0, 1) := by decide +kernel
theorem dX3_years_82 : decode cX3_years 82 = .ok (.invokevirtual 75, 3) := by decide +kernel
theorem dX3_years_85 : decode cX3_years 85 = .ok (.irem, 1) := by decide +kernel
theorem dX3_years_86 : decode cX3_years 86 = .ok (.istore 8, 2) := by decide +kernel
theorem dX3_years_88 : decode cX3_years 88 = .ok (.aload_n 0, 1) := by decide +kernel
theorem dX3_years_89 : decode cX3_years 89 = .ok (.iload 8, 2) := by decide +kernel
theorem dX3_years_91 : decode cX3_years 91 = .ok (.invokevirtual 108, 3) := by decide +kernel
theorem dX3_years_94 : decode cX3_years 94 = .ok (.ifCond .eq 16, 3) := by decide +kernel
theorem dX3_years_97 : decode cX3_years 97 = .ok (.aload_n 0, 1) := by decide +kernel
theorem dX3_years_98 : decode cX3_years 98 = .ok (.iload 8, 2) := by decide +kernel
theorem dX3_years_100 : decode cX3_years 100 = .ok (.invokevirtual 139, 3) := by decide +kernel
theorem dX3_years_103 : decode cX3_years 103 = .ok (.pop, 1) := by decide +kernel
theorem dX3_years_104 : decode cX3_years 104 = .ok (.iinc 6 1, 3) := by decide +kernel
theorem dX3_years_107 : decode cX3_years 107 = .ok (.goto 20, 3) := by decide +kernel
theorem dX3_years_110 : decode cX3_years 110 = .ok (.aload_n 0, 1) := by decide +kernel
theorem dX3_years_111 : decode cX3_years 111 = .ok (.iload 8, 2) := by decide +kernel
theorem dX3_years_113 : decode cX3_years 113 = .ok (.iload 4, 2) := by decide +kernel
theorem dX3_years_115 : decode cX3_years 115 = .ok (.bipush 16, 2) := by decide +kernel
theorem dX3_years_117 : decode cX3_years 117 = .ok (.idiv, 1) := by decide +kernel
theorem dX3_years_118 : decode cX3_years 118 = .ok (.iconst 4, 1) := by decide +kernel
theorem dX3_years_119 : decode cX3_years 119 = .ok (.irem, 1) := by decide +kernel
theorem dX3_years_120 : decode cX3_years 120 = .ok (.invokevirtual 136, 3) := by decide +kernel
theorem dX3_years_123 : decode cX3_years 123 = .ok (.pop, 1) := by decide +kernel
theorem dX3_years_124 : decode cX3_years 124 = .ok (.iinc 5 1, 3) := by decide +kernel
theorem dX3_years_127 : decode cX3_years 127 = .ok (.iinc 7 1, 3) := by decide +kernel
theorem dX3_years_130 : decode cX3_years 130 = .ok (.goto (-75), 3) := by decide +kernel
theorem dX3_years_133 : decode cX3_years 133 = .ok (.aload_n 0, 1) := by decide +kernel
theorem dX3_years_134 : decode cX3_years 134 = .ok (.invokevirtual 101, 3) := by decide +kernel
theorem dX3_years_137 : decode cX3_years 137 = .ok (.invokestatic 104, 3) := by decide +kernel
theorem dX3_years_140 : decode cX3_years 140 = .ok (.istore 7, 2) := by decide +kernel
theorem dX3_years_142 : decode cX3_years 142 = .ok (.aload_n 0, 1) := by decide +kernel
theorem dX3_years_143 : decode cX3_years 143 = .ok (.aload_n 0, 1) := by decide +kernel
theorem dX3_years_144 : decode cX3_years 144 = .ok (.invokevirtual 101, 3) := by decide +kernel
theorem dX3_years_147 : decode cX3_years 147 = .ok (.invokevirtual 145, 3) := by decide +kernel
theorem dX3_years_150 : decode cX3_years 150 = .ok (.istore 8, 2) := by decide +kernel
theorem dX3_years_152 : decode cX3_years 152 = .ok (.iconst 0, 1) := by decide +kernel
theorem dX3_years_153 : decode cX3_years 153 = .ok (.istore 9, 2) := by decide +kernel
theorem dX3_years_155 : decode cX3_years 155 = .ok (.iload 9, 2) := by decide +kernel
theorem dX3_years_157 : decode cX3_years 157 = .ok (.bipush 16, 2) := by decide +kernel
theorem dX3_years_159 : decode cX3_years 159 = .ok (.if_icmp .ge 37, 3) := by decide +kernel
theorem dX3_years_162 : decode cX3_years 162 = .ok (.aload_n 0, 1) := by decide +kernel
theorem dX3_years_163 : decode cX3_years 163 = .ok (.getfield 13, 3) := by decide +kernel
theorem dX3_years_166 : decode cX3_years 166 = .ok (.iload 9, 2) := by decide +kernel
theorem dX3_years_168 : decode cX3_years 168 = .ok (.aload_n 0, 1) := by decide +kernel
theorem dX3_years_169 : decode cX3_years 169 = .ok (.getfield 42, 3) := by decide +kernel
theorem dX3_years_172 : decode cX3_years 172 = .ok (.iload 9, 2) := by decide +kernel
theorem dX3_years_174 : decode cX3_years 174 = .ok (.iaload, 1) := by decide +kernel
theorem dX3_years_175 : decode cX3_years 175 = .ok (.iastore, 1) := by decide +kernel
theorem dX3_years_176 : decode cX3_years 176 = .ok (.aload_n 0, 1) := by decide +kernel
theorem dX3_years_177 : decode cX3_years 177 = .ok (.getfield 16, 3) := by decide +kernel
theorem dX3_years_180 : decode cX3_years 180 = .ok (.iload 9, 2) := by decide +kernel
theorem dX3_years_182 : decode cX3_years 182 = .ok (.aload_n 0, 1) := by decide +kernel
theorem dX3_years_183 : decode cX3_years 183 = .ok (.getfield 45, 3) := by decide +kernel
theorem dX3_years_186 : decode cX3_years 186 = .ok (.iload 9, 2) := by decide +kernel
theorem dX3_years_188 : decode cX3_years 188 = .ok (.iaload, 1) := by decide +kernel
theorem dX3_years_189 : decode cX3_years 189 = .ok (.iastore, 1) := by decide +kernel
theorem dX3_years_190 : decode cX3_years 190 = .ok (.iinc 9 1, 3) := by decide +kernel
theorem dX3_years_193 : decode cX3_years 193 = .ok (.goto (-38), 3) := by decide +kernel
theorem dX3_years_196 : decode cX3_years 196 = .ok (.iload_n 3, 1) := by decide +kernel
theorem dX3_years_197 : decode cX3_years 197 = .ok (.ifCond .ne 8, 3) := by decide +kernel
theorem dX3_years_200 : decode cX3_years 200 = .ok (.iload 5, 2) := by decide +kernel
theorem dX3_years_202 : decode cX3_years 202 = .ok (.goto 25, 3) := by decide +kernel
theorem dX3_years_205 : decode cX3_years 205 = .ok (.iload_n 3, 1) := by decide +kernel
theorem dX3_years_206 : decode cX3_years 206 = .ok (.iconst 1, 1) := by decide +kernel
theorem dX3_years_207 : decode cX3_years 207 = .ok (.if_icmp .ne 8, 3) := by decide +kernel
theorem dX3_years_210 : decode cX3_years 210 = .ok (.iload 6, 2) := by decide +kernel
theorem dX3_years_212 : decode cX3_years 212 = .ok (.goto 15, 3) := by decide +kernel
theorem dX3_years_215 : decode cX3_years 215 = .ok (.iload_n 3, 1) := by decide +kernel
theorem dX3_years_216 : decode cX3_years 216 = .ok (.iconst 2, 1) := by decide +kernel
theorem dX3_years_217 : decode cX3_years 217 = .ok (.if_icmp .ne 8, 3) := by decide +kernel
theorem dX3_years_220 : decode cX3_years 220 = .ok (.iload 7, 2) := by decide +kernel
theorem dX3_years_222 : decode cX3_years 222 = .ok (.goto 5, 3) := by decide +kernel
theorem dX3_years_225 : decode cX3_years 225 = .ok (.iload 8, 2) := by decide +kernel
theorem dX3_years_227 : decode cX3_years 227 = .ok (.ireturn, 1) := by decide +kernel
theorem dX3_pass_0 : decode cX3_pass 0 = .ok (.aload_n 0, 1) := by decide +kernel
theorem dX3_pass_1 : decode cX3_pass 1 = .ok (.getfield 206, 3) := by decide +kernel
theorem dX3_pass_4 : decode cX3_pass 4 = .ok (.ifCond .eq 7, 3) := by decide +kernel
theorem dX3_pass_7 : decode cX3_pass 7 = .ok (.iload_n 1, 1) := by decide +kernel
theorem dX3_pass_8 : decode cX3_pass 8 = .ok (.goto 12, 3) := by decide +kernel
theorem dX3_pass_11 : decode cX3_pass 11 = .ok (.aload_n 0, 1) := by decide +kernel
theorem dX3_pass_12 : decode cX3_pass 12 = .ok (.getfield 48, 3) := by decide +kernel
theorem dX3_pass_15 : decode cX3_pass 15 = .ok (.aload_n 0, 1) := by decide +kernel
theorem dX3_pass_16 : decode cX3_pass 16 = .ok (.getfield 210, 3) := by decide +kernel
theorem dX3_pass_19 : decode cX3_pass 19 = .ok (.iaload, 1) := by decide +kernel
theorem dX3_pass_20 : decode cX3_pass 20 = .ok (.istore_n 2, 1) := by decide +kernel
theorem dX3_pass_21 : decode cX3_pass 21 = .ok (.aload_n 0, 1) := by decide +kernel
theorem dX3_pass_22 : decode cX3_pass 22 = .ok (.getfield 48, 3) := by decide +kernel
theorem dX3_pass_25 : decode cX3_pass 25 = .ok (.aload_n 0, 1) := by decide +kernel
theorem dX3_pass_26 : decode cX3_pass 26 = .ok (.getfield 210, 3) := by decide +kernel
theorem dX3_pass_29 : decode cX3_pass 29 = .ok (.iload_n 2, 1) := by decide +kernel
theorem dX3_pass_30 : decode cX3_pass 30 = .ok (.iastore, 1) := by decide +kernel
theorem dX3_pass_31 : decode cX3_pass 31 = .ok (.aload_n 0, 1) := by decide +kernel
theorem dX3_pass_32 : decode cX3_pass 32 = .ok (.dup, 1) := by decide +kernel
theorem dX3_pass_33 : decode cX3_pass 33 = .ok (.getfield 210, 3) := by decide +kernel
theorem dX3_pass_36 : decode cX3_pass 36 = .ok (.iconst 1, 1) := by decide +kernel
theorem dX3_pass_37 : decode cX3_pass 37 = .ok (.iadd, 1) := by decide +kernel
theorem dX3_pass_38 : decode cX3_pass 38 = .ok (.putfield 210, 3) := by decide +kernel
theorem dX3_pass_41 : decode cX3_pass 41 = .ok (.iload_n 2, 1) := by decide +kernel
theorem dX3_pass_42 : decode cX3_pass 42 = .ok (.ireturn, 1) := by decide +kernel
theorem dX3_passAll_0 : decode cX3_passAll 0 = .ok (.aload_n 0, 1) := by decide +kernel
theorem dX3_passAll_1 : decode cX3_passAll 1 = .ok (.aload_n 0, 1) := by decide +kernel
theorem dX3_passAll_2 : decode cX3_passAll 2 = .ok (.aload_n 0, 1) := by decide +kernel
theorem dX3_passAll_3 : decode cX3_passAll 3 = .ok (.getfield 69, 3) := by decide +kernel
theorem dX3_passAll_6 : decode cX3_passAll 6 = .ok (.invokevirtual 213, 3) := by decide +kernel
theorem dX3_passAll_9 : decode cX3_passAll 9 = .ok (.putfield 69, 3) := by decide +kernel
theorem dX3_passAll_12 : decode cX3_passAll 12 = .ok (.aload_n 0, 1) := by decide +kernel
theorem dX3_passAll_13 : decode cX3_passAll 13 = .ok (.aload_n 0, 1) := by decide +kernel
theorem dX3_passAll_14 : decode cX3_passAll 14 = .ok (.aload_n 0, 1) := by decide +kernel
theorem dX3_passAll_15 : decode cX3_passAll 15 = .ok (.getfield 72, 3) := by decide +kernel
theorem dX3_passAll_18 : decode cX3_passAll 18 = .ok (.invokevirtual 213, 3) := by decide +kernel
theorem dX3_passAll_21 : decode cX3_passAll 21 = .ok (.putfield 72, 3) := by decide +kernel
theorem dX3_passAll_24 : decode cX3_passAll 24 = .ok (.aload_n 0, 1) := by decide +kernel
theorem dX3_passAll_25 : decode cX3_passAll 25 = .ok (.aload_n 0, 1) := by decide +kernel
theorem dX3_passAll_26 : decode cX3_passAll 26 = .ok (.aload_n 0, 1) := by decide +kernel
theorem dX3_passAll_27 : decode cX3_passAll 27 = .ok (.getfield 55, 3) := by decide +kernel
theorem dX3_passAll_30 : decode cX3_passAll 30 = .ok (.invokevirtual 213, 3) := by decide +kernel
theorem dX3_passAll_33 : decode cX3_passAll 33 = .ok (.putfield 55, 3) := by decide +kernel
theorem dX3_passAll_36 : decode cX3_passAll 36 = .ok (.aload_n 0, 1) := by decide +kernel
theorem dX3_passAll_37 : decode cX3_passAll 37 = .ok (.aload_n 0, 1) := by decide +kernel
theorem dX3_passAll_38 : decode cX3_passAll 38 = .ok (.aload_n 0, 1) := by decide +kernel
theorem dX3_passAll_39 : decode cX3_passAll 39 = .ok (.getfield 59, 3) := by decide +kernel
theorem dX3_passAll_42 : decode cX3_passAll 42 = .ok (.invokevirtual 213, 3) := by decide +kernel
theorem dX3_passAll_45 : decode cX3_passAll 45 = .ok (.putfield 59, 3) := by decide +kernel
theorem dX3_passAll_48 : decode cX3_passAll 48 = .ok (.aload_n 0, 1) := by decide +kernel
theorem dX3_passAll_49 : decode cX3_passAll 49 = .ok (.aload_n 0, 1) := by decide +kernel
theorem dX3_passAll_50 : decode cX3_passAll 50 = .ok (.aload_n 0, 1) := by decide +kernel
theorem dX3_passAll_51 : decode cX3_passAll 51 = .ok (.getfield 62, 3) := by decide +kernel
theorem dX3_passAll_54 : decode cX3_passAll 54 = .ok (.invokevirtual 213, 3) := by decide +kernel
theorem dX3_passAll_57 : decode cX3_passAll 57 = .ok (.putfield 62, 3) := by decide +kernel
theorem dX3_passAll_60 : decode cX3_passAll 60 = .ok (.iconst 0, 1) := by decide +kernel
theorem dX3_passAll_61 : decode cX3_passAll 61 = .ok (.istore_n 1, 1) := by decide +kernel
theorem dX3_passAll_62 : decode cX3_passAll 62 = .ok (.iload_n 1, 1) := by decide +kernel
theorem dX3_passAll_63 : decode cX3_passAll 63 = .ok (.iconst 4, 1) := by decide +kernel
theorem dX3_passAll_64 : decode cX3_passAll 64 = .ok (.if_icmp .ge 25, 3) := by decide +kernel
theorem dX3_passAll_67 : decode cX3_passAll 67 = .ok (.aload_n 0, 1) := by decide +kernel
theorem dX3_passAll_68 : decode cX3_passAll 68 = .ok (.getfield 7, 3) := by decide +kernel
theorem dX3_passAll_71 : decode cX3_passAll 71 = .ok (.iload_n 1, 1) := by decide +kernel
theorem dX3_passAll_72 : decode cX3_passAll 72 = .ok (.aload_n 0, 1) := by decide +kernel
theorem dX3_passAll_73 : decode cX3_passAll 73 = .ok (.aload_n 0, 1) := by decide +kernel
theorem dX3_passAll_74 : decode cX3_passAll 74 = .ok (.getfield 7, 3) := by decide +kernel
theorem dX3_passAll_77 : decode cX3_passAll 77 = .ok (.iload_n 1, 1) := by decide +kernel
theorem dX3_passAll_78 : decode cX3_passAll 78 = .ok (.iaload, 1) := by decide +kernel
theorem dX3_passAll_79 : decode cX3_passAll 79 = .ok (.invokevirtual 213, 3) := by decide +kernel
theorem dX3_passAll_82 : decode cX3_passAll 82 = .ok (.iastore, 1) := by decide +kernel
theorem dX3_passAll_83 : decode cX3_passAll 83 = .ok (.iinc 1 1, 3) := by decide +kernel
theorem dX3_passAll_86 : decode cX3_passAll 86 = .ok (.goto (-24), 3) := by decide +kernel
theorem dX3_passAll_89 : decode cX3_passAll 89 = .ok (.iconst 0, 1) := by decide +kernel
theorem dX3_passAll_90 : decode cX3_passAll 90 = .ok (.istore_n 1, 1) := by decide +kernel
theorem dX3_passAll_91 : decode cX3_passAll 91 = .ok (.iload_n 1, 1) := by decide +kernel
theorem dX3_passAll_92 : decode cX3_passAll 92 = .ok (.bipush 16, 2) := by decide +kernel
theorem dX3_passAll_94 : decode cX3_passAll 94 = .ok (.if_icmp .ge 41, 3) := by decide +kernel
theorem dX3_passAll_97 : decode cX3_passAll 97 = .ok (.aload_n 0, 1) := by decide +kernel
theorem dX3_passAll_98 : decode cX3_passAll 98 = .ok (.getfield 13, 3) := by decide +kernel
theorem dX3_passAll_101 : decode cX3_passAll 101 = .ok (.iload_n 1, 1) := by decide +kernel
theorem dX3_passAll_102 : decode cX3_passAll 102 = .ok (.aload_n 0, 1) := by decide +kernel
theorem dX3_passAll_103 : decode cX3_passAll 103 = .ok (.aload_n 0, 1) := by decide +kernel
theorem dX3_passAll_104 : decode cX3_passAll 104 = .ok (.getfield 13, 3) := by decide +kernel
theorem dX3_passAll_107 : decode cX3_passAll 107 = .ok (.iload_n 1, 1) := by decide +kernel
theorem dX3_passAll_108 : decode cX3_passAll 108 = .ok (.iaload, 1) := by decide +kernel
theorem dX3_passAll_109 : decode cX3_passAll 109 = .ok (.invokevirtual 213, 3) := by decide +kernel
theorem dX3_passAll_112 : decode cX3_passAll 112 = .ok (.iastore, 1) := by decide +kernel
theorem dX3_passAll_113 : decode cX3_passAll 113 = .ok (.aload_n 0, 1) := by decide +kernel
theorem dX3_passAll_114 : decode cX3_passAll 114 = .ok (.getfield 16, 3) := by decide +kernel
theorem dX3_passAll_117 : decode cX3_passAll 117 = .ok (.iload_n 1, 1) := by decide +kernel
theorem dX3_passAll_118 : decode cX3_passAll 118 = .ok (.aload_n 0, 1) := by decide +kernel
theorem dX3_passAll_119 : decode cX3_passAll 119 = .ok (.aload_n 0, 1) := by decide +kernel
theorem dX3_passAll_120 : decode cX3_passAll 120 = .ok (.getfield 16, 3) := by decide +kernel
theorem dX3_passAll_123 : decode cX3_passAll 123 = .ok (.iload_n 1, 1) := by decide +kernel
theorem dX3_passAll_124 : decode cX3_passAll 124 = .ok (.iaload, 1) := by decide +kernel
theorem dX3_passAll_125 : decode cX3_passAll 125 = .ok (.invokevirtual 213, 3) := by decide +kernel
theorem dX3_passAll_128 : decode cX3_passAll 128 = .ok (.iastore, 1) := by decide +kernel
theorem dX3_passAll_129 : decode cX3_passAll 129 = .ok (.iinc 1 1, 3) := by decide +kernel
theorem dX3_passAll_132 : decode cX3_passAll 132 = .ok (.goto (-41), 3) := by decide +kernel
theorem dX3_passAll_135 : decode cX3_passAll 135 = .ok (.return_, 1) := by decide +kernel
theorem dX3_image_0 : decode cX3_image 0 = .ok (.iload_n 1, 1) := by decide +kernel
theorem dX3_image_1 : decode cX3_image 1 = .ok (.i2l, 1) := by decide +kernel
theorem dX3_image_2 : decode cX3_image 2 = .ok (.lconst 0, 1) := by decide +kernel
theorem dX3_image_3 : decode cX3_image 3 = .ok (.lconst 1, 1) := by decide +kernel
theorem dX3_image_4 : decode cX3_image 4 = .ok (.invokestatic 79, 3) := by decide +kernel
theorem dX3_image_7 : decode cX3_image 7 = .ok (.ifCond .ne 6, 3) := by decide +kernel
theorem dX3_image_10 : decode cX3_image 10 = .ok (.bipush (-2), 2) := by decide +kernel
theorem dX3_image_12 : decode cX3_image 12 = .ok (.ireturn, 1) := by decide +kernel
theorem dX3_image_13 : decode cX3_image 13 = .ok (.aload_n 0, 1) := by decide +kernel
theorem dX3_image_14 : decode cX3_image 14 = .ok (.bipush 60, 2) := by decide +kernel
theorem dX3_image_16 : decode cX3_image 16 = .ok (.iload_n 1, 1) := by decide +kernel
theorem dX3_image_17 : decode cX3_image 17 = .ok (.imul, 1) := by decide +kernel
theorem dX3_image_18 : decode cX3_image 18 = .ok (.putfield 210, 3) := by decide +kernel
theorem dX3_image_21 : decode cX3_image 21 = .ok (.aload_n 0, 1) := by decide +kernel
theorem dX3_image_22 : decode cX3_image 22 = .ok (.iconst 1, 1) := by decide +kernel
theorem dX3_image_23 : decode cX3_image 23 = .ok (.putfield 206, 3) := by decide +kernel
theorem dX3_image_26 : decode cX3_image 26 = .ok (.aload_n 0, 1) := by decide +kernel
theorem dX3_image_27 : decode cX3_image 27 = .ok (.invokevirtual 216, 3) := by decide +kernel
theorem dX3_image_30 : decode cX3_image 30 = .ok (.aload_n 0, 1) := by decide +kernel
theorem dX3_image_31 : decode cX3_image 31 = .ok (.getfield 51, 3) := by decide +kernel
theorem dX3_image_34 : decode cX3_image 34 = .ok (.iload_n 1, 1) := by decide +kernel
theorem dX3_image_35 : decode cX3_image 35 = .ok (.iconst 1, 1) := by decide +kernel
theorem dX3_image_36 : decode cX3_image 36 = .ok (.bastore, 1) := by decide +kernel
theorem dX3_image_37 : decode cX3_image 37 = .ok (.iconst 1, 1) := by decide +kernel
theorem dX3_image_38 : decode cX3_image 38 = .ok (.ireturn, 1) := by decide +kernel
theorem dX3_restore_0 : decode cX3_restore 0 = .ok (.iload_n 1, 1) := by decide +kernel
theorem dX3_restore_1 : decode cX3_restore 1 = .ok (.i2l, 1) := by decide +kernel
theorem dX3_restore_2 : decode cX3_restore 2 = .ok (.lconst 0, 1) := by decide +kernel
theorem dX3_restore_3 : decode cX3_restore 3 = .ok (.lconst 1, 1) := by decide +kernel
theorem dX3_restore_4 : decode cX3_restore 4 = .ok (.invokestatic 79, 3) := by decide +kernel
theorem dX3_restore_7 : decode cX3_restore 7 = .ok (.ifCond .ne 6, 3) := by decide +kernel
theorem dX3_restore_10 : decode cX3_restore 10 = .ok (.bipush (-2), 2) := by decide +kernel
theorem dX3_restore_12 : decode cX3_restore 12 = .ok (.ireturn, 1) := by decide +kernel
theorem dX3_restore_13 : decode cX3_restore 13 = .ok (.aload_n 0, 1) := by decide +kernel
theorem dX3_restore_14 : decode cX3_restore 14 = .ok (.getfield 51, 3) := by decide +kernel
theorem dX3_restore_17 : decode cX3_restore 17 = .ok (.iload_n 1, 1) := by decide +kernel
theorem dX3_restore_18 : decode cX3_restore 18 = .ok (.baload, 1) := by decide +kernel
theorem dX3_restore_19 : decode cX3_restore 19 = .ok (.ifCond .ne 6, 3) := by decide +kernel
theorem dX3_restore_22 : decode cX3_restore 22 = .ok (.bipush (-3), 2) := by decide +kernel
theorem dX3_restore_24 : decode cX3_restore 24 = .ok (.ireturn, 1) := by decide +kernel
theorem dX3_restore_25 : decode cX3_restore 25 = .ok (.aload_n 0, 1) := by decide +kernel
theorem dX3_restore_26 : decode cX3_restore 26 = .ok (.bipush 60, 2) := by decide +kernel
theorem dX3_restore_28 : decode cX3_restore 28 = .ok (.iload_n 1, 1) := by decide +kernel
theorem dX3_restore_29 : decode cX3_restore 29 = .ok (.imul, 1) := by decide +kernel
theorem dX3_restore_30 : decode cX3_restore 30 = .ok (.putfield 210, 3) := by decide +kernel
theorem dX3_restore_33 : decode cX3_restore 33 = .ok (.aload_n 0, 1) := by decide +kernel
theorem dX3_restore_34 : decode cX3_restore 34 = .ok (.iconst 0, 1) := by decide +kernel
theorem dX3_restore_35 : decode cX3_restore 35 = .ok (.putfield 206, 3) := by decide +kernel
theorem dX3_restore_38 : decode cX3_restore 38 = .ok (.aload_n 0, 1) := by decide +kernel
theorem dX3_restore_39 : decode cX3_restore 39 = .ok (.invokevirtual 216, 3) := by decide +kernel
theorem dX3_restore_42 : decode cX3_restore 42 = .ok (.iconst 1, 1) := by decide +kernel
theorem dX3_restore_43 : decode cX3_restore 43 = .ok (.ireturn, 1) := by decide +kernel
theorem dX3_sewnSeams_0 : decode cX3_sewnSeams 0 = .ok (.iconst 0, 1) := by decide +kernel
theorem dX3_sewnSeams_1 : decode cX3_sewnSeams 1 = .ok (.istore_n 1, 1) := by decide +kernel
theorem dX3_sewnSeams_2 : decode cX3_sewnSeams 2 = .ok (.iconst 0, 1) := by decide +kernel
theorem dX3_sewnSeams_3 : decode cX3_sewnSeams 3 = .ok (.istore_n 2, 1) := by decide +kernel
theorem dX3_sewnSeams_4 : decode cX3_sewnSeams 4 = .ok (.iload_n 2, 1) := by decide +kernel
theorem dX3_sewnSeams_5 : decode cX3_sewnSeams 5 = .ok (.aload_n 0, 1) := by decide +kernel
theorem dX3_sewnSeams_6 : decode cX3_sewnSeams 6 = .ok (.invokevirtual 75, 3) := by decide +kernel
theorem dX3_sewnSeams_9 : decode cX3_sewnSeams 9 = .ok (.if_icmp .ge 21, 3) := by decide +kernel
theorem dX3_sewnSeams_12 : decode cX3_sewnSeams 12 = .ok (.iload_n 1, 1) := by decide +kernel
theorem dX3_sewnSeams_13 : decode cX3_sewnSeams 13 = .ok (.aload_n 0, 1) := by decide +kernel
theorem dX3_sewnSeams_14 : decode cX3_sewnSeams 14 = .ok (.getfield 16, 3) := by decide +kernel
theorem dX3_sewnSeams_17 : decode cX3_sewnSeams 17 = .ok (.iload_n 2, 1) := by decide +kernel
theorem dX3_sewnSeams_18 : decode cX3_sewnSeams 18 = .ok (.iaload, 1) := by decide +kernel
theorem dX3_sewnSeams_19 : decode cX3_sewnSeams 19 = .ok (.invokestatic 104, 3) := by decide +kernel
theorem dX3_sewnSeams_22 : decode cX3_sewnSeams 22 = .ok (.iadd, 1) := by decide +kernel
theorem dX3_sewnSeams_23 : decode cX3_sewnSeams 23 = .ok (.istore_n 1, 1) := by decide +kernel
theorem dX3_sewnSeams_24 : decode cX3_sewnSeams 24 = .ok (.iinc 2 1, 3) := by decide +kernel
theorem dX3_sewnSeams_27 : decode cX3_sewnSeams 27 = .ok (.goto (-23), 3) := by decide +kernel
theorem dX3_sewnSeams_30 : decode cX3_sewnSeams 30 = .ok (.iload_n 1, 1) := by decide +kernel
theorem dX3_sewnSeams_31 : decode cX3_sewnSeams 31 = .ok (.iconst 2, 1) := by decide +kernel
theorem dX3_sewnSeams_32 : decode cX3_sewnSeams 32 = .ok (.idiv, 1) := by decide +kernel
theorem dX3_sewnSeams_33 : decode cX3_sewnSeams 33 = .ok (.ireturn, 1) := by decide +kernel
theorem dX3_told_0 : decode cX3_told 0 = .ok (.iload_n 1, 1) := by decide +kernel
theorem dX3_told_1 : decode cX3_told 1 = .ok (.tableswitch 87 0 7 #[47, 52, 57, 62, 67, 72, 77, 82], 47) := by decide +kernel
theorem dX3_told_48 : decode cX3_told 48 = .ok (.aload_n 0, 1) := by decide +kernel
theorem dX3_told_49 : decode cX3_told 49 = .ok (.getfield 91, 3) := by decide +kernel
theorem dX3_told_52 : decode cX3_told 52 = .ok (.ireturn, 1) := by decide +kernel
theorem dX3_told_53 : decode cX3_told 53 = .ok (.aload_n 0, 1) := by decide +kernel
theorem dX3_told_54 : decode cX3_told 54 = .ok (.getfield 69, 3) := by decide +kernel
theorem dX3_told_57 : decode cX3_told 57 = .ok (.ireturn, 1) := by decide +kernel
theorem dX3_told_58 : decode cX3_told 58 = .ok (.aload_n 0, 1) := by decide +kernel
theorem dX3_told_59 : decode cX3_told 59 = .ok (.getfield 72, 3) := by decide +kernel
theorem dX3_told_62 : decode cX3_told 62 = .ok (.ireturn, 1) := by decide +kernel
theorem dX3_told_63 : decode cX3_told 63 = .ok (.aload_n 0, 1) := by decide +kernel
theorem dX3_told_64 : decode cX3_told 64 = .ok (.invokevirtual 101, 3) := by decide +kernel
theorem dX3_told_67 : decode cX3_told 67 = .ok (.ireturn, 1) := by decide +kernel
theorem dX3_told_68 : decode cX3_told 68 = .ok (.aload_n 0, 1) := by decide +kernel
theorem dX3_told_69 : decode cX3_told 69 = .ok (.getfield 55, 3) := by decide +kernel
theorem dX3_told_72 : decode cX3_told 72 = .ok (.ireturn, 1) := by decide +kernel
theorem dX3_told_73 : decode cX3_told 73 = .ok (.aload_n 0, 1) := by decide +kernel
theorem dX3_told_74 : decode cX3_told 74 = .ok (.getfield 59, 3) := by decide +kernel
theorem dX3_told_77 : decode cX3_told 77 = .ok (.ireturn, 1) := by decide +kernel
theorem dX3_told_78 : decode cX3_told 78 = .ok (.aload_n 0, 1) := by decide +kernel
theorem dX3_told_79 : decode cX3_told 79 = .ok (.getfield 62, 3) := by decide +kernel
theorem dX3_told_82 : decode cX3_told 82 = .ok (.ireturn, 1) := by decide +kernel
theorem dX3_told_83 : decode cX3_told 83 = .ok (.aload_n 0, 1) := by decide +kernel
theorem dX3_told_84 : decode cX3_told 84 = .ok (.invokevirtual 219, 3) := by decide +kernel
theorem dX3_told_87 : decode cX3_told 87 = .ok (.ireturn, 1) := by decide +kernel
theorem dX3_told_88 : decode cX3_told 88 = .ok (.bipush (-2), 2) := by decide +kernel
theorem dX3_told_90 : decode cX3_told 90 = .ok (.ireturn, 1) := by decide +kernel
theorem dL_law_0 : decode cL_law 0 = .ok (.new 7, 3) := by decide +kernel
theorem dL_law_3 : decode cL_law 3 = .ok (.dup, 1) := by decide +kernel
theorem dL_law_4 : decode cL_law 4 = .ok (.invokespecial 9, 3) := by decide +kernel
theorem dL_law_7 : decode cL_law 7 = .ok (.astore_n 1, 1) := by decide +kernel
theorem dL_law_8 : decode cL_law 8 = .ok (.new 10, 3) := by decide +kernel
theorem dL_law_11 : decode cL_law 11 = .ok (.dup, 1) := by decide +kernel
theorem dL_law_12 : decode cL_law 12 = .ok (.invokespecial 12, 3) := by decide +kernel
theorem dL_law_15 : decode cL_law 15 = .ok (.astore_n 2, 1) := by decide +kernel
theorem dL_law_16 : decode cL_law 16 = .ok (.iconst 0, 1) := by decide +kernel
theorem dL_law_17 : decode cL_law 17 = .ok (.istore_n 3, 1) := by decide +kernel
theorem dL_law_18 : decode cL_law 18 = .ok (.iload_n 3, 1) := by decide +kernel
theorem dL_law_19 : decode cL_law 19 = .ok (.aload_n 0, 1) := by decide +kernel
theorem dL_law_20 : decode cL_law 20 = .ok (.arraylength, 1) := by decide +kernel
theorem dL_law_21 : decode cL_law 21 = .ok (.bipush 6, 2) := by decide +kernel
theorem dL_law_23 : decode cL_law 23 = .ok (.isub, 1) := by decide +kernel
theorem dL_law_24 : decode cL_law 24 = .ok (.if_icmp .gt 903, 3) := by decide +kernel
theorem dL_law_27 : decode cL_law 27 = .ok (.aload_n 0, 1) := by decide +kernel
theorem dL_law_28 : decode cL_law 28 = .ok (.iload_n 3, 1) := by decide +kernel
theorem dL_law_29 : decode cL_law 29 = .ok (.iaload, 1) := by decide +kernel
theorem dL_law_30 : decode cL_law 30 = .ok (.bipush 31, 2) := by decide +kernel
theorem dL_law_32 : decode cL_law 32 = .ok (.iand, 1) := by decide +kernel
theorem dL_law_33 : decode cL_law 33 = .ok (.tableswitch 888 0 27 #[127, 160, 183, 196, 209, 222, 245, 304, 337, 370, 403, 436, 459, 482, 495, 508, 521, 544, 577, 610, 663, 726, 740, 763, 776, 819, 842, 865], 127) := by decide +kernel
theorem dL_law_160 : decode cL_law 160 = .ok (.aload_n 1, 1) := by decide +kernel
theorem dL_law_161 : decode cL_law 161 = .ok (.aload_n 0, 1) := by decide +kernel
theorem dL_law_162 : decode cL_law 162 = .ok (.iload_n 3, 1) := by decide +kernel
theorem dL_law_163 : decode cL_law 163 = .ok (.iconst 1, 1) := by decide +kernel
theorem dL_law_164 : decode cL_law 164 = .ok (.iadd, 1) := by decide +kernel
theorem dL_law_165 : decode cL_law 165 = .ok (.iaload, 1) := by decide +kernel
theorem dL_law_166 : decode cL_law 166 = .ok (.aload_n 0, 1) := by decide +kernel
theorem dL_law_167 : decode cL_law 167 = .ok (.iload_n 3, 1) := by decide +kernel
theorem dL_law_168 : decode cL_law 168 = .ok (.iconst 2, 1) := by decide +kernel
theorem dL_law_169 : decode cL_law 169 = .ok (.iadd, 1) := by decide +kernel
theorem dL_law_170 : decode cL_law 170 = .ok (.iaload, 1) := by decide +kernel
theorem dL_law_171 : decode cL_law 171 = .ok (.invokevirtual 13, 3) := by decide +kernel
theorem dL_law_174 : decode cL_law 174 = .ok (.aload_n 2, 1) := by decide +kernel
theorem dL_law_175 : decode cL_law 175 = .ok (.aload_n 0, 1) := by decide +kernel
theorem dL_law_176 : decode cL_law 176 = .ok (.iload_n 3, 1) := by decide +kernel
theorem dL_law_177 : decode cL_law 177 = .ok (.iconst 1, 1) := by decide +kernel
theorem dL_law_178 : decode cL_law 178 = .ok (.iadd, 1) := by decide +kernel
theorem dL_law_179 : decode cL_law 179 = .ok (.iaload, 1) := by decide +kernel
theorem dL_law_180 : decode cL_law 180 = .ok (.aload_n 0, 1) := by decide +kernel
theorem dL_law_181 : decode cL_law 181 = .ok (.iload_n 3, 1) := by decide +kernel
theorem dL_law_182 : decode cL_law 182 = .ok (.iconst 2, 1) := by decide +kernel
theorem dL_law_183 : decode cL_law 183 = .ok (.iadd, 1) := by decide +kernel
theorem dL_law_184 : decode cL_law 184 = .ok (.iaload, 1) := by decide +kernel
theorem dL_law_185 : decode cL_law 185 = .ok (.invokevirtual 17, 3) := by decide +kernel
theorem dL_law_188 : decode cL_law 188 = .ok (.if_icmp .eq 733, 3) := by decide +kernel
theorem dL_law_191 : decode cL_law 191 = .ok (.iconst 0, 1) := by decide +kernel
theorem dL_law_192 : decode cL_law 192 = .ok (.ireturn, 1) := by decide +kernel
theorem dL_law_193 : decode cL_law 193 = .ok (.aload_n 1, 1) := by decide +kernel
theorem dL_law_194 : decode cL_law 194 = .ok (.aload_n 0, 1) := by decide +kernel
theorem dL_law_195 : decode cL_law 195 = .ok (.iload_n 3, 1) := by decide +kernel
theorem dL_law_196 : decode cL_law 196 = .ok (.iconst 1, 1) := by decide +kernel
theorem dL_law_197 : decode cL_law 197 = .ok (.iadd, 1) := by decide +kernel
theorem dL_law_198 : decode cL_law 198 = .ok (.iaload, 1) := by decide +kernel
theorem dL_law_199 : decode cL_law 199 = .ok (.invokevirtual 18, 3) := by decide +kernel
theorem dL_law_202 : decode cL_law 202 = .ok (.aload_n 2, 1) := by decide +kernel
theorem dL_law_203 : decode cL_law 203 = .ok (.aload_n 0, 1) := by decide +kernel
theorem dL_law_204 : decode cL_law 204 = .ok (.iload_n 3, 1) := by decide +kernel
theorem dL_law_205 : decode cL_law 205 = .ok (.iconst 1, 1) := by decide +kernel
theorem dL_law_206 : decode cL_law 206 = .ok (.iadd, 1) := by decide +kernel
theorem dL_law_207 : decode cL_law 207 = .ok (.iaload, 1) := by decide +kernel
theorem dL_law_208 : decode cL_law 208 = .ok (.invokevirtual 22, 3) := by decide +kernel
theorem dL_law_211 : decode cL_law 211 = .ok (.if_icmp .eq 710, 3) := by decide +kernel
theorem dL_law_214 : decode cL_law 214 = .ok (.iconst 0, 1) := by decide +kernel
theorem dL_law_215 : decode cL_law 215 = .ok (.ireturn, 1) := by decide +kernel
theorem dL_law_216 : decode cL_law 216 = .ok (.aload_n 1, 1) := by decide +kernel
theorem dL_law_217 : decode cL_law 217 = .ok (.invokevirtual 23, 3) := by decide +kernel
theorem dL_law_220 : decode cL_law 220 = .ok (.aload_n 2, 1) := by decide +kernel
theorem dL_law_221 : decode cL_law 221 = .ok (.invokevirtual 27, 3) := by decide +kernel
theorem dL_law_224 : decode cL_law 224 = .ok (.if_icmp .eq 697, 3) := by decide +kernel
theorem dL_law_227 : decode cL_law 227 = .ok (.iconst 0, 1) := by decide +kernel
theorem dL_law_228 : decode cL_law 228 = .ok (.ireturn, 1) := by decide +kernel
theorem dL_law_229 : decode cL_law 229 = .ok (.aload_n 1, 1) := by decide +kernel
theorem dL_law_230 : decode cL_law 230 = .ok (.invokevirtual 28, 3) := by decide +kernel
theorem dL_law_233 : decode cL_law 233 = .ok (.aload_n 2, 1) := by decide +kernel
theorem dL_law_234 : decode cL_law 234 = .ok (.invokevirtual 31, 3) := by decide +kernel
theorem dL_law_237 : decode cL_law 237 = .ok (.if_icmp .eq 684, 3) := by decide +kernel
theorem dL_law_240 : decode cL_law 240 = .ok (.iconst 0, 1) := by decide +kernel
theorem dL_law_241 : decode cL_law 241 = .ok (.ireturn, 1) := by decide +kernel
theorem dL_law_242 : decode cL_law 242 = .ok (.aload_n 1, 1) := by decide +kernel
theorem dL_law_243 : decode cL_law 243 = .ok (.invokevirtual 32, 3) := by decide +kernel
theorem dL_law_246 : decode cL_law 246 = .ok (.aload_n 2, 1) := by decide +kernel
theorem dL_law_247 : decode cL_law 247 = .ok (.invokevirtual 35, 3) := by decide +kernel
theorem dL_law_250 : decode cL_law 250 = .ok (.if_icmp .eq 671, 3) := by decide +kernel
theorem dL_law_253 : decode cL_law 253 = .ok (.iconst 0, 1) := by decide +kernel
theorem dL_law_254 : decode cL_law 254 = .ok (.ireturn, 1) := by decide +kernel
theorem dL_law_255 : decode cL_law 255 = .ok (.aload_n 1, 1) := by decide +kernel
theorem dL_law_256 : decode cL_law 256 = .ok (.aload_n 0, 1) := by decide +kernel
theorem dL_law_257 : decode cL_law 257 = .ok (.iload_n 3, 1) := by decide +kernel
theorem dL_law_258 : decode cL_law 258 = .ok (.iconst 1, 1) := by decide +kernel
theorem dL_law_259 : decode cL_law 259 = .ok (.iadd, 1) := by decide +kernel
theorem dL_law_260 : decode cL_law 260 = .ok (.iaload, 1) := by decide +kernel
theorem dL_law_261 : decode cL_law 261 = .ok (.invokevirtual 36, 3) := by decide +kernel
theorem dL_law_264 : decode cL_law 264 = .ok (.aload_n 2, 1) := by decide +kernel
theorem dL_law_265 : decode cL_law 265 = .ok (.aload_n 0, 1) := by decide +kernel
theorem dL_law_266 : decode cL_law 266 = .ok (.iload_n 3, 1) := by decide +kernel
theorem dL_law_267 : decode cL_law 267 = .ok (.iconst 1, 1) := by decide +kernel
theorem dL_law_268 : decode cL_law 268 = .ok (.iadd, 1) := by decide +kernel
theorem dL_law_269 : decode cL_law 269 = .ok (.iaload, 1) := by decide +kernel
theorem dL_law_270 : decode cL_law 270 = .ok (.invokevirtual 39, 3) := by decide +kernel
theorem dL_law_273 : decode cL_law 273 = .ok (.if_icmp .eq 648, 3) := by decide +kernel
theorem dL_law_276 : decode cL_law 276 = .ok (.iconst 0, 1) := by decide +kernel
theorem dL_law_277 : decode cL_law 277 = .ok (.ireturn, 1) := by decide +kernel
theorem dL_law_278 : decode cL_law 278 = .ok (.aload_n 1, 1) := by decide +kernel
theorem dL_law_279 : decode cL_law 279 = .ok (.aload_n 0, 1) := by decide +kernel
theorem dL_law_280 : decode cL_law 280 = .ok (.iload_n 3, 1) := by decide +kernel
theorem dL_law_281 : decode cL_law 281 = .ok (.iconst 1, 1) := by decide +kernel
theorem dL_law_282 : decode cL_law 282 = .ok (.iadd, 1) := by decide +kernel
theorem dL_law_283 : decode cL_law 283 = .ok (.iaload, 1) := by decide +kernel
theorem dL_law_284 : decode cL_law 284 = .ok (.aload_n 0, 1) := by decide +kernel
theorem dL_law_285 : decode cL_law 285 = .ok (.iload_n 3, 1) := by decide +kernel
theorem dL_law_286 : decode cL_law 286 = .ok (.iconst 2, 1) := by decide +kernel
theorem dL_law_287 : decode cL_law 287 = .ok (.iadd, 1) := by decide +kernel
theorem dL_law_288 : decode cL_law 288 = .ok (.iaload, 1) := by decide +kernel
theorem dL_law_289 : decode cL_law 289 = .ok (.aload_n 0, 1) := by decide +kernel
theorem dL_law_290 : decode cL_law 290 = .ok (.iload_n 3, 1) := by decide +kernel
theorem dL_law_291 : decode cL_law 291 = .ok (.iconst 3, 1) := by decide +kernel
theorem dL_law_292 : decode cL_law 292 = .ok (.iadd, 1) := by decide +kernel
theorem dL_law_293 : decode cL_law 293 = .ok (.iaload, 1) := by decide +kernel
theorem dL_law_294 : decode cL_law 294 = .ok (.ifCond .eq 7, 3) := by decide +kernel
theorem dL_law_297 : decode cL_law 297 = .ok (.iconst 1, 1) := by decide +kernel
theorem dL_law_298 : decode cL_law 298 = .ok (.goto 4, 3) := by decide +kernel
theorem dL_law_301 : decode cL_law 301 = .ok (.iconst 0, 1) := by decide +kernel
theorem dL_law_302 : decode cL_law 302 = .ok (.invokevirtual 40, 3) := by decide +kernel
theorem dL_law_305 : decode cL_law 305 = .ok (.aload_n 2, 1) := by decide +kernel
theorem dL_law_306 : decode cL_law 306 = .ok (.aload_n 0, 1) := by decide +kernel
theorem dL_law_307 : decode cL_law 307 = .ok (.iload_n 3, 1) := by decide +kernel
theorem dL_law_308 : decode cL_law 308 = .ok (.iconst 1, 1) := by decide +kernel
theorem dL_law_309 : decode cL_law 309 = .ok (.iadd, 1) := by decide +kernel
theorem dL_law_310 : decode cL_law 310 = .ok (.iaload, 1) := by decide +kernel
theorem dL_law_311 : decode cL_law 311 = .ok (.aload_n 0, 1) := by decide +kernel
theorem dL_law_312 : decode cL_law 312 = .ok (.iload_n 3, 1) := by decide +kernel
theorem dL_law_313 : decode cL_law 313 = .ok (.iconst 2, 1) := by decide +kernel
theorem dL_law_314 : decode cL_law 314 = .ok (.iadd, 1) := by decide +kernel
theorem dL_law_315 : decode cL_law 315 = .ok (.iaload, 1) := by decide +kernel
theorem dL_law_316 : decode cL_law 316 = .ok (.aload_n 0, 1) := by decide +kernel
theorem dL_law_317 : decode cL_law 317 = .ok (.iload_n 3, 1) := by decide +kernel
theorem dL_law_318 : decode cL_law 318 = .ok (.iconst 3, 1) := by decide +kernel
theorem dL_law_319 : decode cL_law 319 = .ok (.iadd, 1) := by decide +kernel
theorem dL_law_320 : decode cL_law 320 = .ok (.iaload, 1) := by decide +kernel
theorem dL_law_321 : decode cL_law 321 = .ok (.ifCond .eq 7, 3) := by decide +kernel
theorem dL_law_324 : decode cL_law 324 = .ok (.iconst 1, 1) := by decide +kernel
theorem dL_law_325 : decode cL_law 325 = .ok (.goto 4, 3) := by decide +kernel
theorem dL_law_328 : decode cL_law 328 = .ok (.iconst 0, 1) := by decide +kernel
theorem dL_law_329 : decode cL_law 329 = .ok (.invokevirtual 44, 3) := by decide +kernel
theorem dL_law_332 : decode cL_law 332 = .ok (.if_icmp .eq 589, 3) := by decide +kernel
theorem dL_law_335 : decode cL_law 335 = .ok (.iconst 0, 1) := by decide +kernel
theorem dL_law_336 : decode cL_law 336 = .ok (.ireturn, 1) := by decide +kernel
theorem dL_law_337 : decode cL_law 337 = .ok (.aload_n 1, 1) := by decide +kernel
theorem dL_law_338 : decode cL_law 338 = .ok (.aload_n 0, 1) := by decide +kernel
theorem dL_law_339 : decode cL_law 339 = .ok (.iload_n 3, 1) := by decide +kernel
theorem dL_law_340 : decode cL_law 340 = .ok (.iconst 1, 1) := by decide +kernel
theorem dL_law_341 : decode cL_law 341 = .ok (.iadd, 1) := by decide +kernel
theorem dL_law_342 : decode cL_law 342 = .ok (.iaload, 1) := by decide +kernel
theorem dL_law_343 : decode cL_law 343 = .ok (.aload_n 0, 1) := by decide +kernel
theorem dL_law_344 : decode cL_law 344 = .ok (.iload_n 3, 1) := by decide +kernel
theorem dL_law_345 : decode cL_law 345 = .ok (.iconst 2, 1) := by decide +kernel
theorem dL_law_346 : decode cL_law 346 = .ok (.iadd, 1) := by decide +kernel
theorem dL_law_347 : decode cL_law 347 = .ok (.iaload, 1) := by decide +kernel
theorem dL_law_348 : decode cL_law 348 = .ok (.invokevirtual 45, 3) := by decide +kernel
theorem dL_law_351 : decode cL_law 351 = .ok (.aload_n 2, 1) := by decide +kernel
theorem dL_law_352 : decode cL_law 352 = .ok (.aload_n 0, 1) := by decide +kernel
theorem dL_law_353 : decode cL_law 353 = .ok (.iload_n 3, 1) := by decide +kernel
theorem dL_law_354 : decode cL_law 354 = .ok (.iconst 1, 1) := by decide +kernel
theorem dL_law_355 : decode cL_law 355 = .ok (.iadd, 1) := by decide +kernel
theorem dL_law_356 : decode cL_law 356 = .ok (.iaload, 1) := by decide +kernel
theorem dL_law_357 : decode cL_law 357 = .ok (.aload_n 0, 1) := by decide +kernel
theorem dL_law_358 : decode cL_law 358 = .ok (.iload_n 3, 1) := by decide +kernel
theorem dL_law_359 : decode cL_law 359 = .ok (.iconst 2, 1) := by decide +kernel
theorem dL_law_360 : decode cL_law 360 = .ok (.iadd, 1) := by decide +kernel
theorem dL_law_361 : decode cL_law 361 = .ok (.iaload, 1) := by decide +kernel
theorem dL_law_362 : decode cL_law 362 = .ok (.invokevirtual 48, 3) := by decide +kernel
theorem dL_law_365 : decode cL_law 365 = .ok (.if_icmp .eq 556, 3) := by decide +kernel
theorem dL_law_368 : decode cL_law 368 = .ok (.iconst 0, 1) := by decide +kernel
theorem dL_law_369 : decode cL_law 369 = .ok (.ireturn, 1) := by decide +kernel
theorem dL_law_370 : decode cL_law 370 = .ok (.aload_n 1, 1) := by decide +kernel
theorem dL_law_371 : decode cL_law 371 = .ok (.aload_n 0, 1) := by decide +kernel
theorem dL_law_372 : decode cL_law 372 = .ok (.iload_n 3, 1) := by decide +kernel
theorem dL_law_373 : decode cL_law 373 = .ok (.iconst 1, 1) := by decide +kernel
theorem dL_law_374 : decode cL_law 374 = .ok (.iadd, 1) := by decide +kernel
theorem dL_law_375 : decode cL_law 375 = .ok (.iaload, 1) := by decide +kernel
theorem dL_law_376 : decode cL_law 376 = .ok (.aload_n 0, 1) := by decide +kernel
theorem dL_law_377 : decode cL_law 377 = .ok (.iload_n 3, 1) := by decide +kernel
theorem dL_law_378 : decode cL_law 378 = .ok (.iconst 2, 1) := by decide +kernel
theorem dL_law_379 : decode cL_law 379 = .ok (.iadd, 1) := by decide +kernel
theorem dL_law_380 : decode cL_law 380 = .ok (.iaload, 1) := by decide +kernel
theorem dL_law_381 : decode cL_law 381 = .ok (.invokevirtual 49, 3) := by decide +kernel
theorem dL_law_384 : decode cL_law 384 = .ok (.aload_n 2, 1) := by decide +kernel
theorem dL_law_385 : decode cL_law 385 = .ok (.aload_n 0, 1) := by decide +kernel
theorem dL_law_386 : decode cL_law 386 = .ok (.iload_n 3, 1) := by decide +kernel
theorem dL_law_387 : decode cL_law 387 = .ok (.iconst 1, 1) := by decide +kernel
theorem dL_law_388 : decode cL_law 388 = .ok (.iadd, 1) := by decide +kernel
theorem dL_law_389 : decode cL_law 389 = .ok (.iaload, 1) := by decide +kernel
theorem dL_law_390 : decode cL_law 390 = .ok (.aload_n 0, 1) := by decide +kernel
theorem dL_law_391 : decode cL_law 391 = .ok (.iload_n 3, 1) := by decide +kernel
theorem dL_law_392 : decode cL_law 392 = .ok (.iconst 2, 1) := by decide +kernel
theorem dL_law_393 : decode cL_law 393 = .ok (.iadd, 1) := by decide +kernel
theorem dL_law_394 : decode cL_law 394 = .ok (.iaload, 1) := by decide +kernel
theorem dL_law_395 : decode cL_law 395 = .ok (.invokevirtual 52, 3) := by decide +kernel
theorem dL_law_398 : decode cL_law 398 = .ok (.if_icmp .eq 523, 3) := by decide +kernel
theorem dL_law_401 : decode cL_law 401 = .ok (.iconst 0, 1) := by decide +kernel
theorem dL_law_402 : decode cL_law 402 = .ok (.ireturn, 1) := by decide +kernel
theorem dL_law_403 : decode cL_law 403 = .ok (.aload_n 1, 1) := by decide +kernel
theorem dL_law_404 : decode cL_law 404 = .ok (.aload_n 0, 1) := by decide +kernel
theorem dL_law_405 : decode cL_law 405 = .ok (.iload_n 3, 1) := by decide +kernel
theorem dL_law_406 : decode cL_law 406 = .ok (.iconst 1, 1) := by decide +kernel
theorem dL_law_407 : decode cL_law 407 = .ok (.iadd, 1) := by decide +kernel
theorem dL_law_408 : decode cL_law 408 = .ok (.iaload, 1) := by decide +kernel
theorem dL_law_409 : decode cL_law 409 = .ok (.aload_n 0, 1) := by decide +kernel
theorem dL_law_410 : decode cL_law 410 = .ok (.iload_n 3, 1) := by decide +kernel
theorem dL_law_411 : decode cL_law 411 = .ok (.iconst 2, 1) := by decide +kernel
theorem dL_law_412 : decode cL_law 412 = .ok (.iadd, 1) := by decide +kernel
theorem dL_law_413 : decode cL_law 413 = .ok (.iaload, 1) := by decide +kernel
theorem dL_law_414 : decode cL_law 414 = .ok (.invokevirtual 53, 3) := by decide +kernel
theorem dL_law_417 : decode cL_law 417 = .ok (.aload_n 2, 1) := by decide +kernel
theorem dL_law_418 : decode cL_law 418 = .ok (.aload_n 0, 1) := by decide +kernel
theorem dL_law_419 : decode cL_law 419 = .ok (.iload_n 3, 1) := by decide +kernel
theorem dL_law_420 : decode cL_law 420 = .ok (.iconst 1, 1) := by decide +kernel
theorem dL_law_421 : decode cL_law 421 = .ok (.iadd, 1) := by decide +kernel
theorem dL_law_422 : decode cL_law 422 = .ok (.iaload, 1) := by decide +kernel
theorem dL_law_423 : decode cL_law 423 = .ok (.aload_n 0, 1) := by decide +kernel
theorem dL_law_424 : decode cL_law 424 = .ok (.iload_n 3, 1) := by decide +kernel
theorem dL_law_425 : decode cL_law 425 = .ok (.iconst 2, 1) := by decide +kernel
theorem dL_law_426 : decode cL_law 426 = .ok (.iadd, 1) := by decide +kernel
theorem dL_law_427 : decode cL_law 427 = .ok (.iaload, 1) := by decide +kernel
theorem dL_law_428 : decode cL_law 428 = .ok (.invokevirtual 56, 3) := by decide +kernel
theorem dL_law_431 : decode cL_law 431 = .ok (.if_icmp .eq 490, 3) := by decide +kernel
theorem dL_law_434 : decode cL_law 434 = .ok (.iconst 0, 1) := by decide +kernel
theorem dL_law_435 : decode cL_law 435 = .ok (.ireturn, 1) := by decide +kernel
theorem dL_law_436 : decode cL_law 436 = .ok (.aload_n 1, 1) := by decide +kernel
theorem dL_law_437 : decode cL_law 437 = .ok (.aload_n 0, 1) := by decide +kernel
theorem dL_law_438 : decode cL_law 438 = .ok (.iload_n 3, 1) := by decide +kernel
theorem dL_law_439 : decode cL_law 439 = .ok (.iconst 1, 1) := by decide +kernel
theorem dL_law_440 : decode cL_law 440 = .ok (.iadd, 1) := by decide +kernel
theorem dL_law_441 : decode cL_law 441 = .ok (.iaload, 1) := by decide +kernel
theorem dL_law_442 : decode cL_law 442 = .ok (.aload_n 0, 1) := by decide +kernel
theorem dL_law_443 : decode cL_law 443 = .ok (.iload_n 3, 1) := by decide +kernel
theorem dL_law_444 : decode cL_law 444 = .ok (.iconst 2, 1) := by decide +kernel
theorem dL_law_445 : decode cL_law 445 = .ok (.iadd, 1) := by decide +kernel
theorem dL_law_446 : decode cL_law 446 = .ok (.iaload, 1) := by decide +kernel
theorem dL_law_447 : decode cL_law 447 = .ok (.invokevirtual 57, 3) := by decide +kernel
theorem dL_law_450 : decode cL_law 450 = .ok (.aload_n 2, 1) := by decide +kernel
theorem dL_law_451 : decode cL_law 451 = .ok (.aload_n 0, 1) := by decide +kernel
theorem dL_law_452 : decode cL_law 452 = .ok (.iload_n 3, 1) := by decide +kernel
theorem dL_law_453 : decode cL_law 453 = .ok (.iconst 1, 1) := by decide +kernel
theorem dL_law_454 : decode cL_law 454 = .ok (.iadd, 1) := by decide +kernel
theorem dL_law_455 : decode cL_law 455 = .ok (.iaload, 1) := by decide +kernel
theorem dL_law_456 : decode cL_law 456 = .ok (.aload_n 0, 1) := by decide +kernel
theorem dL_law_457 : decode cL_law 457 = .ok (.iload_n 3, 1) := by decide +kernel
theorem dL_law_458 : decode cL_law 458 = .ok (.iconst 2, 1) := by decide +kernel
theorem dL_law_459 : decode cL_law 459 = .ok (.iadd, 1) := by decide +kernel
theorem dL_law_460 : decode cL_law 460 = .ok (.iaload, 1) := by decide +kernel
theorem dL_law_461 : decode cL_law 461 = .ok (.invokevirtual 60, 3) := by decide +kernel
theorem dL_law_464 : decode cL_law 464 = .ok (.if_icmp .eq 457, 3) := by decide +kernel
theorem dL_law_467 : decode cL_law 467 = .ok (.iconst 0, 1) := by decide +kernel
theorem dL_law_468 : decode cL_law 468 = .ok (.ireturn, 1) := by decide +kernel
theorem dL_law_469 : decode cL_law 469 = .ok (.aload_n 1, 1) := by decide +kernel
theorem dL_law_470 : decode cL_law 470 = .ok (.aload_n 0, 1) := by decide +kernel
theorem dL_law_471 : decode cL_law 471 = .ok (.iload_n 3, 1) := by decide +kernel
theorem dL_law_472 : decode cL_law 472 = .ok (.iconst 1, 1) := by decide +kernel
theorem dL_law_473 : decode cL_law 473 = .ok (.iadd, 1) := by decide +kernel
theorem dL_law_474 : decode cL_law 474 = .ok (.iaload, 1) := by decide +kernel
theorem dL_law_475 : decode cL_law 475 = .ok (.invokevirtual 61, 3) := by decide +kernel
theorem dL_law_478 : decode cL_law 478 = .ok (.aload_n 2, 1) := by decide +kernel
theorem dL_law_479 : decode cL_law 479 = .ok (.aload_n 0, 1) := by decide +kernel
theorem dL_law_480 : decode cL_law 480 = .ok (.iload_n 3, 1) := by decide +kernel
theorem dL_law_481 : decode cL_law 481 = .ok (.iconst 1, 1) := by decide +kernel
theorem dL_law_482 : decode cL_law 482 = .ok (.iadd, 1) := by decide +kernel
theorem dL_law_483 : decode cL_law 483 = .ok (.iaload, 1) := by decide +kernel
theorem dL_law_484 : decode cL_law 484 = .ok (.invokevirtual 64, 3) := by decide +kernel
theorem dL_law_487 : decode cL_law 487 = .ok (.if_icmp .eq 434, 3) := by decide +kernel
theorem dL_law_490 : decode cL_law 490 = .ok (.iconst 0, 1) := by decide +kernel
theorem dL_law_491 : decode cL_law 491 = .ok (.ireturn, 1) := by decide +kernel
theorem dL_law_492 : decode cL_law 492 = .ok (.aload_n 1, 1) := by decide +kernel
theorem dL_law_493 : decode cL_law 493 = .ok (.aload_n 0, 1) := by decide +kernel
theorem dL_law_494 : decode cL_law 494 = .ok (.iload_n 3, 1) := by decide +kernel
theorem dL_law_495 : decode cL_law 495 = .ok (.iconst 1, 1) := by decide +kernel
theorem dL_law_496 : decode cL_law 496 = .ok (.iadd, 1) := by decide +kernel
theorem dL_law_497 : decode cL_law 497 = .ok (.iaload, 1) := by decide +kernel
theorem dL_law_498 : decode cL_law 498 = .ok (.invokevirtual 65, 3) := by decide +kernel
theorem dL_law_501 : decode cL_law 501 = .ok (.aload_n 2, 1) := by decide +kernel
theorem dL_law_502 : decode cL_law 502 = .ok (.aload_n 0, 1) := by decide +kernel
theorem dL_law_503 : decode cL_law 503 = .ok (.iload_n 3, 1) := by decide +kernel
theorem dL_law_504 : decode cL_law 504 = .ok (.iconst 1, 1) := by decide +kernel
theorem dL_law_505 : decode cL_law 505 = .ok (.iadd, 1) := by decide +kernel
theorem dL_law_506 : decode cL_law 506 = .ok (.iaload, 1) := by decide +kernel
theorem dL_law_507 : decode cL_law 507 = .ok (.invokevirtual 68, 3) := by decide +kernel
theorem dL_law_510 : decode cL_law 510 = .ok (.if_icmp .eq 411, 3) := by decide +kernel
theorem dL_law_513 : decode cL_law 513 = .ok (.iconst 0, 1) := by decide +kernel
theorem dL_law_514 : decode cL_law 514 = .ok (.ireturn, 1) := by decide +kernel
theorem dL_law_515 : decode cL_law 515 = .ok (.aload_n 1, 1) := by decide +kernel
theorem dL_law_516 : decode cL_law 516 = .ok (.invokevirtual 69, 3) := by decide +kernel
theorem dL_law_519 : decode cL_law 519 = .ok (.aload_n 2, 1) := by decide +kernel
theorem dL_law_520 : decode cL_law 520 = .ok (.invokevirtual 72, 3) := by decide +kernel
theorem dL_law_523 : decode cL_law 523 = .ok (.if_icmp .eq 398, 3) := by decide +kernel
theorem dL_law_526 : decode cL_law 526 = .ok (.iconst 0, 1) := by decide +kernel
theorem dL_law_527 : decode cL_law 527 = .ok (.ireturn, 1) := by decide +kernel
theorem dL_law_528 : decode cL_law 528 = .ok (.aload_n 1, 1) := by decide +kernel
theorem dL_law_529 : decode cL_law 529 = .ok (.invokevirtual 73, 3) := by decide +kernel
theorem dL_law_532 : decode cL_law 532 = .ok (.aload_n 2, 1) := by decide +kernel
theorem dL_law_533 : decode cL_law 533 = .ok (.invokevirtual 76, 3) := by decide +kernel
theorem dL_law_536 : decode cL_law 536 = .ok (.if_icmp .eq 385, 3) := by decide +kernel
theorem dL_law_539 : decode cL_law 539 = .ok (.iconst 0, 1) := by decide +kernel
theorem dL_law_540 : decode cL_law 540 = .ok (.ireturn, 1) := by decide +kernel
theorem dL_law_541 : decode cL_law 541 = .ok (.aload_n 1, 1) := by decide +kernel
theorem dL_law_542 : decode cL_law 542 = .ok (.invokevirtual 77, 3) := by decide +kernel
theorem dL_law_545 : decode cL_law 545 = .ok (.aload_n 2, 1) := by decide +kernel
theorem dL_law_546 : decode cL_law 546 = .ok (.invokevirtual 80, 3) := by decide +kernel
theorem dL_law_549 : decode cL_law 549 = .ok (.if_icmp .eq 372, 3) := by decide +kernel
theorem dL_law_552 : decode cL_law 552 = .ok (.iconst 0, 1) := by decide +kernel
theorem dL_law_553 : decode cL_law 553 = .ok (.ireturn, 1) := by decide +kernel
theorem dL_law_554 : decode cL_law 554 = .ok (.aload_n 1, 1) := by decide +kernel
theorem dL_law_555 : decode cL_law 555 = .ok (.aload_n 0, 1) := by decide +kernel
theorem dL_law_556 : decode cL_law 556 = .ok (.iload_n 3, 1) := by decide +kernel
theorem dL_law_557 : decode cL_law 557 = .ok (.iconst 1, 1) := by decide +kernel
theorem dL_law_558 : decode cL_law 558 = .ok (.iadd, 1) := by decide +kernel
theorem dL_law_559 : decode cL_law 559 = .ok (.iaload, 1) := by decide +kernel
theorem dL_law_560 : decode cL_law 560 = .ok (.invokevirtual 81, 3) := by decide +kernel
theorem dL_law_563 : decode cL_law 563 = .ok (.aload_n 2, 1) := by decide +kernel
theorem dL_law_564 : decode cL_law 564 = .ok (.aload_n 0, 1) := by decide +kernel
theorem dL_law_565 : decode cL_law 565 = .ok (.iload_n 3, 1) := by decide +kernel
theorem dL_law_566 : decode cL_law 566 = .ok (.iconst 1, 1) := by decide +kernel
theorem dL_law_567 : decode cL_law 567 = .ok (.iadd, 1) := by decide +kernel
theorem dL_law_568 : decode cL_law 568 = .ok (.iaload, 1) := by decide +kernel
theorem dL_law_569 : decode cL_law 569 = .ok (.invokevirtual 84, 3) := by decide +kernel
theorem dL_law_572 : decode cL_law 572 = .ok (.if_icmp .eq 349, 3) := by decide +kernel
theorem dL_law_575 : decode cL_law 575 = .ok (.iconst 0, 1) := by decide +kernel
theorem dL_law_576 : decode cL_law 576 = .ok (.ireturn, 1) := by decide +kernel
theorem dL_law_577 : decode cL_law 577 = .ok (.aload_n 1, 1) := by decide +kernel
theorem dL_law_578 : decode cL_law 578 = .ok (.aload_n 0, 1) := by decide +kernel
theorem dL_law_579 : decode cL_law 579 = .ok (.iload_n 3, 1) := by decide +kernel
theorem dL_law_580 : decode cL_law 580 = .ok (.iconst 1, 1) := by decide +kernel
theorem dL_law_581 : decode cL_law 581 = .ok (.iadd, 1) := by decide +kernel
theorem dL_law_582 : decode cL_law 582 = .ok (.iaload, 1) := by decide +kernel
theorem dL_law_583 : decode cL_law 583 = .ok (.aload_n 0, 1) := by decide +kernel
theorem dL_law_584 : decode cL_law 584 = .ok (.iload_n 3, 1) := by decide +kernel
theorem dL_law_585 : decode cL_law 585 = .ok (.iconst 2, 1) := by decide +kernel
theorem dL_law_586 : decode cL_law 586 = .ok (.iadd, 1) := by decide +kernel
theorem dL_law_587 : decode cL_law 587 = .ok (.iaload, 1) := by decide +kernel
theorem dL_law_588 : decode cL_law 588 = .ok (.invokevirtual 85, 3) := by decide +kernel
theorem dL_law_591 : decode cL_law 591 = .ok (.aload_n 2, 1) := by decide +kernel
theorem dL_law_592 : decode cL_law 592 = .ok (.aload_n 0, 1) := by decide +kernel
theorem dL_law_593 : decode cL_law 593 = .ok (.iload_n 3, 1) := by decide +kernel
theorem dL_law_594 : decode cL_law 594 = .ok (.iconst 1, 1) := by decide +kernel
theorem dL_law_595 : decode cL_law 595 = .ok (.iadd, 1) := by decide +kernel
theorem dL_law_596 : decode cL_law 596 = .ok (.iaload, 1) := by decide +kernel
theorem dL_law_597 : decode cL_law 597 = .ok (.aload_n 0, 1) := by decide +kernel
theorem dL_law_598 : decode cL_law 598 = .ok (.iload_n 3, 1) := by decide +kernel
theorem dL_law_599 : decode cL_law 599 = .ok (.iconst 2, 1) := by decide +kernel
theorem dL_law_600 : decode cL_law 600 = .ok (.iadd, 1) := by decide +kernel
theorem dL_law_601 : decode cL_law 601 = .ok (.iaload, 1) := by decide +kernel
theorem dL_law_602 : decode cL_law 602 = .ok (.invokevirtual 88, 3) := by decide +kernel
theorem dL_law_605 : decode cL_law 605 = .ok (.if_icmp .eq 316, 3) := by decide +kernel
theorem dL_law_608 : decode cL_law 608 = .ok (.iconst 0, 1) := by decide +kernel
theorem dL_law_609 : decode cL_law 609 = .ok (.ireturn, 1) := by decide +kernel
theorem dL_law_610 : decode cL_law 610 = .ok (.aload_n 1, 1) := by decide +kernel
theorem dL_law_611 : decode cL_law 611 = .ok (.aload_n 0, 1) := by decide +kernel
theorem dL_law_612 : decode cL_law 612 = .ok (.iload_n 3, 1) := by decide +kernel
theorem dL_law_613 : decode cL_law 613 = .ok (.iconst 1, 1) := by decide +kernel
theorem dL_law_614 : decode cL_law 614 = .ok (.iadd, 1) := by decide +kernel
theorem dL_law_615 : decode cL_law 615 = .ok (.iaload, 1) := by decide +kernel
theorem dL_law_616 : decode cL_law 616 = .ok (.aload_n 0, 1) := by decide +kernel
theorem dL_law_617 : decode cL_law 617 = .ok (.iload_n 3, 1) := by decide +kernel
theorem dL_law_618 : decode cL_law 618 = .ok (.iconst 2, 1) := by decide +kernel
theorem dL_law_619 : decode cL_law 619 = .ok (.iadd, 1) := by decide +kernel
theorem dL_law_620 : decode cL_law 620 = .ok (.iaload, 1) := by decide +kernel
theorem dL_law_621 : decode cL_law 621 = .ok (.invokevirtual 89, 3) := by decide +kernel
theorem dL_law_624 : decode cL_law 624 = .ok (.aload_n 2, 1) := by decide +kernel
theorem dL_law_625 : decode cL_law 625 = .ok (.aload_n 0, 1) := by decide +kernel
theorem dL_law_626 : decode cL_law 626 = .ok (.iload_n 3, 1) := by decide +kernel
theorem dL_law_627 : decode cL_law 627 = .ok (.iconst 1, 1) := by decide +kernel
theorem dL_law_628 : decode cL_law 628 = .ok (.iadd, 1) := by decide +kernel
theorem dL_law_629 : decode cL_law 629 = .ok (.iaload, 1) := by decide +kernel
theorem dL_law_630 : decode cL_law 630 = .ok (.aload_n 0, 1) := by decide +kernel
theorem dL_law_631 : decode cL_law 631 = .ok (.iload_n 3, 1) := by decide +kernel
theorem dL_law_632 : decode cL_law 632 = .ok (.iconst 2, 1) := by decide +kernel
theorem dL_law_633 : decode cL_law 633 = .ok (.iadd, 1) := by decide +kernel
theorem dL_law_634 : decode cL_law 634 = .ok (.iaload, 1) := by decide +kernel
theorem dL_law_635 : decode cL_law 635 = .ok (.invokevirtual 92, 3) := by decide +kernel
theorem dL_law_638 : decode cL_law 638 = .ok (.if_icmp .eq 283, 3) := by decide +kernel
theorem dL_law_641 : decode cL_law 641 = .ok (.iconst 0, 1) := by decide +kernel
theorem dL_law_642 : decode cL_law 642 = .ok (.ireturn, 1) := by decide +kernel
theorem dL_law_643 : decode cL_law 643 = .ok (.aload_n 1, 1) := by decide +kernel
theorem dL_law_644 : decode cL_law 644 = .ok (.aload_n 0, 1) := by decide +kernel
theorem dL_law_645 : decode cL_law 645 = .ok (.iload_n 3, 1) := by decide +kernel
theorem dL_law_646 : decode cL_law 646 = .ok (.iconst 1, 1) := by decide +kernel
theorem dL_law_647 : decode cL_law 647 = .ok (.iadd, 1) := by decide +kernel
theorem dL_law_648 : decode cL_law 648 = .ok (.iaload, 1) := by decide +kernel
theorem dL_law_649 : decode cL_law 649 = .ok (.aload_n 0, 1) := by decide +kernel
theorem dL_law_650 : decode cL_law 650 = .ok (.iload_n 3, 1) := by decide +kernel
theorem dL_law_651 : decode cL_law 651 = .ok (.iconst 2, 1) := by decide +kernel
theorem dL_law_652 : decode cL_law 652 = .ok (.iadd, 1) := by decide +kernel
theorem dL_law_653 : decode cL_law 653 = .ok (.iaload, 1) := by decide +kernel
theorem dL_law_654 : decode cL_law 654 = .ok (.aload_n 0, 1) := by decide +kernel
theorem dL_law_655 : decode cL_law 655 = .ok (.iload_n 3, 1) := by decide +kernel
theorem dL_law_656 : decode cL_law 656 = .ok (.iconst 3, 1) := by decide +kernel
theorem dL_law_657 : decode cL_law 657 = .ok (.iadd, 1) := by decide +kernel
theorem dL_law_658 : decode cL_law 658 = .ok (.iaload, 1) := by decide +kernel
theorem dL_law_659 : decode cL_law 659 = .ok (.aload_n 0, 1) := by decide +kernel
theorem dL_law_660 : decode cL_law 660 = .ok (.iload_n 3, 1) := by decide +kernel
theorem dL_law_661 : decode cL_law 661 = .ok (.iconst 4, 1) := by decide +kernel
theorem dL_law_662 : decode cL_law 662 = .ok (.iadd, 1) := by decide +kernel
theorem dL_law_663 : decode cL_law 663 = .ok (.iaload, 1) := by decide +kernel
theorem dL_law_664 : decode cL_law 664 = .ok (.invokevirtual 93, 3) := by decide +kernel
theorem dL_law_667 : decode cL_law 667 = .ok (.aload_n 2, 1) := by decide +kernel
theorem dL_law_668 : decode cL_law 668 = .ok (.aload_n 0, 1) := by decide +kernel
theorem dL_law_669 : decode cL_law 669 = .ok (.iload_n 3, 1) := by decide +kernel
theorem dL_law_670 : decode cL_law 670 = .ok (.iconst 1, 1) := by decide +kernel
theorem dL_law_671 : decode cL_law 671 = .ok (.iadd, 1) := by decide +kernel
theorem dL_law_672 : decode cL_law 672 = .ok (.iaload, 1) := by decide +kernel
theorem dL_law_673 : decode cL_law 673 = .ok (.aload_n 0, 1) := by decide +kernel
theorem dL_law_674 : decode cL_law 674 = .ok (.iload_n 3, 1) := by decide +kernel
theorem dL_law_675 : decode cL_law 675 = .ok (.iconst 2, 1) := by decide +kernel
theorem dL_law_676 : decode cL_law 676 = .ok (.iadd, 1) := by decide +kernel
theorem dL_law_677 : decode cL_law 677 = .ok (.iaload, 1) := by decide +kernel
theorem dL_law_678 : decode cL_law 678 = .ok (.aload_n 0, 1) := by decide +kernel
theorem dL_law_679 : decode cL_law 679 = .ok (.iload_n 3, 1) := by decide +kernel
theorem dL_law_680 : decode cL_law 680 = .ok (.iconst 3, 1) := by decide +kernel
theorem dL_law_681 : decode cL_law 681 = .ok (.iadd, 1) := by decide +kernel
theorem dL_law_682 : decode cL_law 682 = .ok (.iaload, 1) := by decide +kernel
theorem dL_law_683 : decode cL_law 683 = .ok (.aload_n 0, 1) := by decide +kernel
theorem dL_law_684 : decode cL_law 684 = .ok (.iload_n 3, 1) := by decide +kernel
theorem dL_law_685 : decode cL_law 685 = .ok (.iconst 4, 1) := by decide +kernel
theorem dL_law_686 : decode cL_law 686 = .ok (.iadd, 1) := by decide +kernel
theorem dL_law_687 : decode cL_law 687 = .ok (.iaload, 1) := by decide +kernel
theorem dL_law_688 : decode cL_law 688 = .ok (.invokevirtual 97, 3) := by decide +kernel
theorem dL_law_691 : decode cL_law 691 = .ok (.if_icmp .eq 230, 3) := by decide +kernel
theorem dL_law_694 : decode cL_law 694 = .ok (.iconst 0, 1) := by decide +kernel
theorem dL_law_695 : decode cL_law 695 = .ok (.ireturn, 1) := by decide +kernel
theorem dL_law_696 : decode cL_law 696 = .ok (.aload_n 1, 1) := by decide +kernel
theorem dL_law_697 : decode cL_law 697 = .ok (.aload_n 0, 1) := by decide +kernel
theorem dL_law_698 : decode cL_law 698 = .ok (.iload_n 3, 1) := by decide +kernel
theorem dL_law_699 : decode cL_law 699 = .ok (.iconst 1, 1) := by decide +kernel
theorem dL_law_700 : decode cL_law 700 = .ok (.iadd, 1) := by decide +kernel
theorem dL_law_701 : decode cL_law 701 = .ok (.iaload, 1) := by decide +kernel
theorem dL_law_702 : decode cL_law 702 = .ok (.aload_n 0, 1) := by decide +kernel
theorem dL_law_703 : decode cL_law 703 = .ok (.iload_n 3, 1) := by decide +kernel
theorem dL_law_704 : decode cL_law 704 = .ok (.iconst 2, 1) := by decide +kernel
theorem dL_law_705 : decode cL_law 705 = .ok (.iadd, 1) := by decide +kernel
theorem dL_law_706 : decode cL_law 706 = .ok (.iaload, 1) := by decide +kernel
theorem dL_law_707 : decode cL_law 707 = .ok (.aload_n 0, 1) := by decide +kernel
theorem dL_law_708 : decode cL_law 708 = .ok (.iload_n 3, 1) := by decide +kernel
theorem dL_law_709 : decode cL_law 709 = .ok (.iconst 3, 1) := by decide +kernel
theorem dL_law_710 : decode cL_law 710 = .ok (.iadd, 1) := by decide +kernel
theorem dL_law_711 : decode cL_law 711 = .ok (.iaload, 1) := by decide +kernel
theorem dL_law_712 : decode cL_law 712 = .ok (.aload_n 0, 1) := by decide +kernel
theorem dL_law_713 : decode cL_law 713 = .ok (.iload_n 3, 1) := by decide +kernel
theorem dL_law_714 : decode cL_law 714 = .ok (.iconst 4, 1) := by decide +kernel
theorem dL_law_715 : decode cL_law 715 = .ok (.iadd, 1) := by decide +kernel
theorem dL_law_716 : decode cL_law 716 = .ok (.iaload, 1) := by decide +kernel
theorem dL_law_717 : decode cL_law 717 = .ok (.aload_n 0, 1) := by decide +kernel
theorem dL_law_718 : decode cL_law 718 = .ok (.iload_n 3, 1) := by decide +kernel
theorem dL_law_719 : decode cL_law 719 = .ok (.iconst 5, 1) := by decide +kernel
theorem dL_law_720 : decode cL_law 720 = .ok (.iadd, 1) := by decide +kernel
theorem dL_law_721 : decode cL_law 721 = .ok (.iaload, 1) := by decide +kernel
theorem dL_law_722 : decode cL_law 722 = .ok (.invokevirtual 98, 3) := by decide +kernel
theorem dL_law_725 : decode cL_law 725 = .ok (.aload_n 2, 1) := by decide +kernel
theorem dL_law_726 : decode cL_law 726 = .ok (.aload_n 0, 1) := by decide +kernel
theorem dL_law_727 : decode cL_law 727 = .ok (.iload_n 3, 1) := by decide +kernel
theorem dL_law_728 : decode cL_law 728 = .ok (.iconst 1, 1) := by decide +kernel
theorem dL_law_729 : decode cL_law 729 = .ok (.iadd, 1) := by decide +kernel
theorem dL_law_730 : decode cL_law 730 = .ok (.iaload, 1) := by decide +kernel
theorem dL_law_731 : decode cL_law 731 = .ok (.aload_n 0, 1) := by decide +kernel
theorem dL_law_732 : decode cL_law 732 = .ok (.iload_n 3, 1) := by decide +kernel
theorem dL_law_733 : decode cL_law 733 = .ok (.iconst 2, 1) := by decide +kernel
theorem dL_law_734 : decode cL_law 734 = .ok (.iadd, 1) := by decide +kernel
theorem dL_law_735 : decode cL_law 735 = .ok (.iaload, 1) := by decide +kernel
theorem dL_law_736 : decode cL_law 736 = .ok (.aload_n 0, 1) := by decide +kernel
theorem dL_law_737 : decode cL_law 737 = .ok (.iload_n 3, 1) := by decide +kernel
theorem dL_law_738 : decode cL_law 738 = .ok (.iconst 3, 1) := by decide +kernel
theorem dL_law_739 : decode cL_law 739 = .ok (.iadd, 1) := by decide +kernel
theorem dL_law_740 : decode cL_law 740 = .ok (.iaload, 1) := by decide +kernel
theorem dL_law_741 : decode cL_law 741 = .ok (.aload_n 0, 1) := by decide +kernel
theorem dL_law_742 : decode cL_law 742 = .ok (.iload_n 3, 1) := by decide +kernel
theorem dL_law_743 : decode cL_law 743 = .ok (.iconst 4, 1) := by decide +kernel
theorem dL_law_744 : decode cL_law 744 = .ok (.iadd, 1) := by decide +kernel
theorem dL_law_745 : decode cL_law 745 = .ok (.iaload, 1) := by decide +kernel
theorem dL_law_746 : decode cL_law 746 = .ok (.aload_n 0, 1) := by decide +kernel
theorem dL_law_747 : decode cL_law 747 = .ok (.iload_n 3, 1) := by decide +kernel
theorem dL_law_748 : decode cL_law 748 = .ok (.iconst 5, 1) := by decide +kernel
theorem dL_law_749 : decode cL_law 749 = .ok (.iadd, 1) := by decide +kernel
theorem dL_law_750 : decode cL_law 750 = .ok (.iaload, 1) := by decide +kernel
theorem dL_law_751 : decode cL_law 751 = .ok (.invokevirtual 102, 3) := by decide +kernel
theorem dL_law_754 : decode cL_law 754 = .ok (.if_icmp .eq 167, 3) := by decide +kernel
theorem dL_law_757 : decode cL_law 757 = .ok (.iconst 0, 1) := by decide +kernel
theorem dL_law_758 : decode cL_law 758 = .ok (.ireturn, 1) := by decide +kernel
theorem dL_law_759 : decode cL_law 759 = .ok (.aload_n 1, 1) := by decide +kernel
theorem dL_law_760 : decode cL_law 760 = .ok (.invokevirtual 103, 3) := by decide +kernel
theorem dL_law_763 : decode cL_law 763 = .ok (.aload_n 2, 1) := by decide +kernel
theorem dL_law_764 : decode cL_law 764 = .ok (.invokevirtual 107, 3) := by decide +kernel
theorem dL_law_767 : decode cL_law 767 = .ok (.lcmp, 1) := by decide +kernel
theorem dL_law_768 : decode cL_law 768 = .ok (.ifCond .eq 153, 3) := by decide +kernel
theorem dL_law_771 : decode cL_law 771 = .ok (.iconst 0, 1) := by decide +kernel
theorem dL_law_772 : decode cL_law 772 = .ok (.ireturn, 1) := by decide +kernel
theorem dL_law_773 : decode cL_law 773 = .ok (.aload_n 1, 1) := by decide +kernel
theorem dL_law_774 : decode cL_law 774 = .ok (.aload_n 0, 1) := by decide +kernel
theorem dL_law_775 : decode cL_law 775 = .ok (.iload_n 3, 1) := by decide +kernel
theorem dL_law_776 : decode cL_law 776 = .ok (.iconst 1, 1) := by decide +kernel
theorem dL_law_777 : decode cL_law 777 = .ok (.iadd, 1) := by decide +kernel
theorem dL_law_778 : decode cL_law 778 = .ok (.iaload, 1) := by decide +kernel
theorem dL_law_779 : decode cL_law 779 = .ok (.invokevirtual 108, 3) := by decide +kernel
theorem dL_law_782 : decode cL_law 782 = .ok (.aload_n 2, 1) := by decide +kernel
theorem dL_law_783 : decode cL_law 783 = .ok (.aload_n 0, 1) := by decide +kernel
theorem dL_law_784 : decode cL_law 784 = .ok (.iload_n 3, 1) := by decide +kernel
theorem dL_law_785 : decode cL_law 785 = .ok (.iconst 1, 1) := by decide +kernel
theorem dL_law_786 : decode cL_law 786 = .ok (.iadd, 1) := by decide +kernel
theorem dL_law_787 : decode cL_law 787 = .ok (.iaload, 1) := by decide +kernel
theorem dL_law_788 : decode cL_law 788 = .ok (.invokevirtual 111, 3) := by decide +kernel
theorem dL_law_791 : decode cL_law 791 = .ok (.if_icmp .eq 130, 3) := by decide +kernel
theorem dL_law_794 : decode cL_law 794 = .ok (.iconst 0, 1) := by decide +kernel
theorem dL_law_795 : decode cL_law 795 = .ok (.ireturn, 1) := by decide +kernel
theorem dL_law_796 : decode cL_law 796 = .ok (.aload_n 1, 1) := by decide +kernel
theorem dL_law_797 : decode cL_law 797 = .ok (.invokevirtual 112, 3) := by decide +kernel
theorem dL_law_800 : decode cL_law 800 = .ok (.aload_n 2, 1) := by decide +kernel
theorem dL_law_801 : decode cL_law 801 = .ok (.invokevirtual 115, 3) := by decide +kernel
theorem dL_law_804 : decode cL_law 804 = .ok (.if_icmp .eq 117, 3) := by decide +kernel
theorem dL_law_807 : decode cL_law 807 = .ok (.iconst 0, 1) := by decide +kernel
theorem dL_law_808 : decode cL_law 808 = .ok (.ireturn, 1) := by decide +kernel
theorem dL_law_809 : decode cL_law 809 = .ok (.aload_n 1, 1) := by decide +kernel
theorem dL_law_810 : decode cL_law 810 = .ok (.aload_n 0, 1) := by decide +kernel
theorem dL_law_811 : decode cL_law 811 = .ok (.iload_n 3, 1) := by decide +kernel
theorem dL_law_812 : decode cL_law 812 = .ok (.iconst 1, 1) := by decide +kernel
theorem dL_law_813 : decode cL_law 813 = .ok (.iadd, 1) := by decide +kernel
theorem dL_law_814 : decode cL_law 814 = .ok (.iaload, 1) := by decide +kernel
theorem dL_law_815 : decode cL_law 815 = .ok (.aload_n 0, 1) := by decide +kernel
theorem dL_law_816 : decode cL_law 816 = .ok (.iload_n 3, 1) := by decide +kernel
theorem dL_law_817 : decode cL_law 817 = .ok (.iconst 2, 1) := by decide +kernel
theorem dL_law_818 : decode cL_law 818 = .ok (.iadd, 1) := by decide +kernel
theorem dL_law_819 : decode cL_law 819 = .ok (.iaload, 1) := by decide +kernel
theorem dL_law_820 : decode cL_law 820 = .ok (.aload_n 0, 1) := by decide +kernel
theorem dL_law_821 : decode cL_law 821 = .ok (.iload_n 3, 1) := by decide +kernel
theorem dL_law_822 : decode cL_law 822 = .ok (.iconst 3, 1) := by decide +kernel
theorem dL_law_823 : decode cL_law 823 = .ok (.iadd, 1) := by decide +kernel
theorem dL_law_824 : decode cL_law 824 = .ok (.iaload, 1) := by decide +kernel
theorem dL_law_825 : decode cL_law 825 = .ok (.invokevirtual 116, 3) := by decide +kernel
theorem dL_law_828 : decode cL_law 828 = .ok (.aload_n 2, 1) := by decide +kernel
theorem dL_law_829 : decode cL_law 829 = .ok (.aload_n 0, 1) := by decide +kernel
theorem dL_law_830 : decode cL_law 830 = .ok (.iload_n 3, 1) := by decide +kernel
theorem dL_law_831 : decode cL_law 831 = .ok (.iconst 1, 1) := by decide +kernel
theorem dL_law_832 : decode cL_law 832 = .ok (.iadd, 1) := by decide +kernel
theorem dL_law_833 : decode cL_law 833 = .ok (.iaload, 1) := by decide +kernel
theorem dL_law_834 : decode cL_law 834 = .ok (.aload_n 0, 1) := by decide +kernel
theorem dL_law_835 : decode cL_law 835 = .ok (.iload_n 3, 1) := by decide +kernel
theorem dL_law_836 : decode cL_law 836 = .ok (.iconst 2, 1) := by decide +kernel
theorem dL_law_837 : decode cL_law 837 = .ok (.iadd, 1) := by decide +kernel
theorem dL_law_838 : decode cL_law 838 = .ok (.iaload, 1) := by decide +kernel
theorem dL_law_839 : decode cL_law 839 = .ok (.aload_n 0, 1) := by decide +kernel
theorem dL_law_840 : decode cL_law 840 = .ok (.iload_n 3, 1) := by decide +kernel
theorem dL_law_841 : decode cL_law 841 = .ok (.iconst 3, 1) := by decide +kernel
theorem dL_law_842 : decode cL_law 842 = .ok (.iadd, 1) := by decide +kernel
theorem dL_law_843 : decode cL_law 843 = .ok (.iaload, 1) := by decide +kernel
theorem dL_law_844 : decode cL_law 844 = .ok (.invokevirtual 120, 3) := by decide +kernel
theorem dL_law_847 : decode cL_law 847 = .ok (.if_icmp .eq 74, 3) := by decide +kernel
theorem dL_law_850 : decode cL_law 850 = .ok (.iconst 0, 1) := by decide +kernel
theorem dL_law_851 : decode cL_law 851 = .ok (.ireturn, 1) := by decide +kernel
theorem dL_law_852 : decode cL_law 852 = .ok (.aload_n 1, 1) := by decide +kernel
theorem dL_law_853 : decode cL_law 853 = .ok (.aload_n 0, 1) := by decide +kernel
theorem dL_law_854 : decode cL_law 854 = .ok (.iload_n 3, 1) := by decide +kernel
theorem dL_law_855 : decode cL_law 855 = .ok (.iconst 1, 1) := by decide +kernel
theorem dL_law_856 : decode cL_law 856 = .ok (.iadd, 1) := by decide +kernel
theorem dL_law_857 : decode cL_law 857 = .ok (.iaload, 1) := by decide +kernel
theorem dL_law_858 : decode cL_law 858 = .ok (.invokevirtual 121, 3) := by decide +kernel
theorem dL_law_861 : decode cL_law 861 = .ok (.aload_n 2, 1) := by decide +kernel
theorem dL_law_862 : decode cL_law 862 = .ok (.aload_n 0, 1) := by decide +kernel
theorem dL_law_863 : decode cL_law 863 = .ok (.iload_n 3, 1) := by decide +kernel
theorem dL_law_864 : decode cL_law 864 = .ok (.iconst 1, 1) := by decide +kernel
theorem dL_law_865 : decode cL_law 865 = .ok (.iadd, 1) := by decide +kernel
theorem dL_law_866 : decode cL_law 866 = .ok (.iaload, 1) := by decide +kernel
theorem dL_law_867 : decode cL_law 867 = .ok (.invokevirtual 124, 3) := by decide +kernel
theorem dL_law_870 : decode cL_law 870 = .ok (.if_icmp .eq 51, 3) := by decide +kernel
theorem dL_law_873 : decode cL_law 873 = .ok (.iconst 0, 1) := by decide +kernel
theorem dL_law_874 : decode cL_law 874 = .ok (.ireturn, 1) := by decide +kernel
theorem dL_law_875 : decode cL_law 875 = .ok (.aload_n 1, 1) := by decide +kernel
theorem dL_law_876 : decode cL_law 876 = .ok (.aload_n 0, 1) := by decide +kernel
theorem dL_law_877 : decode cL_law 877 = .ok (.iload_n 3, 1) := by decide +kernel
theorem dL_law_878 : decode cL_law 878 = .ok (.iconst 1, 1) := by decide +kernel
theorem dL_law_879 : decode cL_law 879 = .ok (.iadd, 1) := by decide +kernel
theorem dL_law_880 : decode cL_law 880 = .ok (.iaload, 1) := by decide +kernel
theorem dL_law_881 : decode cL_law 881 = .ok (.invokevirtual 125, 3) := by decide +kernel
theorem dL_law_884 : decode cL_law 884 = .ok (.aload_n 2, 1) := by decide +kernel
theorem dL_law_885 : decode cL_law 885 = .ok (.aload_n 0, 1) := by decide +kernel
theorem dL_law_886 : decode cL_law 886 = .ok (.iload_n 3, 1) := by decide +kernel
theorem dL_law_887 : decode cL_law 887 = .ok (.iconst 1, 1) := by decide +kernel
theorem dL_law_888 : decode cL_law 888 = .ok (.iadd, 1) := by decide +kernel
theorem dL_law_889 : decode cL_law 889 = .ok (.iaload, 1) := by decide +kernel
theorem dL_law_890 : decode cL_law 890 = .ok (.invokevirtual 128, 3) := by decide +kernel
theorem dL_law_893 : decode cL_law 893 = .ok (.if_icmp .eq 28, 3) := by decide +kernel
theorem dL_law_896 : decode cL_law 896 = .ok (.iconst 0, 1) := by decide +kernel
theorem dL_law_897 : decode cL_law 897 = .ok (.ireturn, 1) := by decide +kernel
theorem dL_law_898 : decode cL_law 898 = .ok (.aload_n 1, 1) := by decide +kernel
theorem dL_law_899 : decode cL_law 899 = .ok (.aload_n 0, 1) := by decide +kernel
theorem dL_law_900 : decode cL_law 900 = .ok (.iload_n 3, 1) := by decide +kernel
theorem dL_law_901 : decode cL_law 901 = .ok (.iconst 1, 1) := by decide +kernel
theorem dL_law_902 : decode cL_law 902 = .ok (.iadd, 1) := by decide +kernel
theorem dL_law_903 : decode cL_law 903 = .ok (.iaload, 1) := by decide +kernel
theorem dL_law_904 : decode cL_law 904 = .ok (.invokevirtual 129, 3) := by decide +kernel
theorem dL_law_907 : decode cL_law 907 = .ok (.aload_n 2, 1) := by decide +kernel
theorem dL_law_908 : decode cL_law 908 = .ok (.aload_n 0, 1) := by decide +kernel
theorem dL_law_909 : decode cL_law 909 = .ok (.iload_n 3, 1) := by decide +kernel
theorem dL_law_910 : decode cL_law 910 = .ok (.iconst 1, 1) := by decide +kernel
theorem dL_law_911 : decode cL_law 911 = .ok (.iadd, 1) := by decide +kernel
theorem dL_law_912 : decode cL_law 912 = .ok (.iaload, 1) := by decide +kernel
theorem dL_law_913 : decode cL_law 913 = .ok (.invokevirtual 132, 3) := by decide +kernel
theorem dL_law_916 : decode cL_law 916 = .ok (.if_icmp .eq 5, 3) := by decide +kernel
theorem dL_law_919 : decode cL_law 919 = .ok (.iconst 0, 1) := by decide +kernel
theorem dL_law_920 : decode cL_law 920 = .ok (.ireturn, 1) := by decide +kernel
theorem dL_law_921 : decode cL_law 921 = .ok (.iinc 3 6, 3) := by decide +kernel
theorem dL_law_924 : decode cL_law 924 = .ok (.goto (-906), 3) := by decide +kernel
theorem dL_law_927 : decode cL_law 927 = .ok (.iconst 1, 1) := by decide +kernel
theorem dL_law_928 : decode cL_law 928 = .ok (.ireturn, 1) := by decide +kernel
