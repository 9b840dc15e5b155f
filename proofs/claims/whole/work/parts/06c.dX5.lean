theorem dX5_late_0 : decode cX5_late 0 = .ok (.aload_n 0, 1) := by decide +kernel
theorem dX5_late_1 : decode cX5_late 1 = .ok (.iload_n 1, 1) := by decide +kernel
theorem dX5_late_2 : decode cX5_late 2 = .ok (.iload_n 2, 1) := by decide +kernel
theorem dX5_late_3 : decode cX5_late 3 = .ok (.invokevirtual 136, 3) := by decide +kernel
theorem dX5_late_6 : decode cX5_late 6 = .ok (.istore_n 3, 1) := by decide +kernel
theorem dX5_late_7 : decode cX5_late 7 = .ok (.iload_n 3, 1) := by decide +kernel
theorem dX5_late_8 : decode cX5_late 8 = .ok (.ifCond .ge 5, 3) := by decide +kernel
theorem dX5_late_11 : decode cX5_late 11 = .ok (.iload_n 3, 1) := by decide +kernel
theorem dX5_late_12 : decode cX5_late 12 = .ok (.ireturn, 1) := by decide +kernel
theorem dX5_late_13 : decode cX5_late 13 = .ok (.aload_n 0, 1) := by decide +kernel
theorem dX5_late_14 : decode cX5_late 14 = .ok (.iload_n 1, 1) := by decide +kernel
theorem dX5_late_15 : decode cX5_late 15 = .ok (.iload_n 2, 1) := by decide +kernel
theorem dX5_late_16 : decode cX5_late 16 = .ok (.invokevirtual 160, 3) := by decide +kernel
theorem dX5_late_19 : decode cX5_late 19 = .ok (.aload_n 0, 1) := by decide +kernel
theorem dX5_late_20 : decode cX5_late 20 = .ok (.getfield 10, 3) := by decide +kernel
theorem dX5_late_23 : decode cX5_late 23 = .ok (.getfield 124, 3) := by decide +kernel
theorem dX5_late_26 : decode cX5_late 26 = .ok (.isub, 1) := by decide +kernel
theorem dX5_late_27 : decode cX5_late 27 = .ok (.invokestatic 174, 3) := by decide +kernel
theorem dX5_late_30 : decode cX5_late 30 = .ok (.aload_n 0, 1) := by decide +kernel
theorem dX5_late_31 : decode cX5_late 31 = .ok (.iload_n 1, 1) := by decide +kernel
theorem dX5_late_32 : decode cX5_late 32 = .ok (.iload_n 2, 1) := by decide +kernel
theorem dX5_late_33 : decode cX5_late 33 = .ok (.invokevirtual 163, 3) := by decide +kernel
theorem dX5_late_36 : decode cX5_late 36 = .ok (.aload_n 0, 1) := by decide +kernel
theorem dX5_late_37 : decode cX5_late 37 = .ok (.getfield 10, 3) := by decide +kernel
theorem dX5_late_40 : decode cX5_late 40 = .ok (.getfield 127, 3) := by decide +kernel
theorem dX5_late_43 : decode cX5_late 43 = .ok (.isub, 1) := by decide +kernel
theorem dX5_late_44 : decode cX5_late 44 = .ok (.invokestatic 174, 3) := by decide +kernel
theorem dX5_late_47 : decode cX5_late 47 = .ok (.iadd, 1) := by decide +kernel
theorem dX5_late_48 : decode cX5_late 48 = .ok (.istore 4, 2) := by decide +kernel
theorem dX5_late_50 : decode cX5_late 50 = .ok (.aload_n 0, 1) := by decide +kernel
theorem dX5_late_51 : decode cX5_late 51 = .ok (.getfield 10, 3) := by decide +kernel
theorem dX5_late_54 : decode cX5_late 54 = .ok (.getfield 117, 3) := by decide +kernel
theorem dX5_late_57 : decode cX5_late 57 = .ok (.iconst 1, 1) := by decide +kernel
theorem dX5_late_58 : decode cX5_late 58 = .ok (.if_icmp .ge 8, 3) := by decide +kernel
theorem dX5_late_61 : decode cX5_late 61 = .ok (.iload 4, 2) := by decide +kernel
theorem dX5_late_63 : decode cX5_late 63 = .ok (.goto 13, 3) := by decide +kernel
theorem dX5_late_66 : decode cX5_late 66 = .ok (.iload 4, 2) := by decide +kernel
theorem dX5_late_68 : decode cX5_late 68 = .ok (.aload_n 0, 1) := by decide +kernel
theorem dX5_late_69 : decode cX5_late 69 = .ok (.getfield 10, 3) := by decide +kernel
theorem dX5_late_72 : decode cX5_late 72 = .ok (.getfield 117, 3) := by decide +kernel
theorem dX5_late_75 : decode cX5_late 75 = .ok (.idiv, 1) := by decide +kernel
theorem dX5_late_76 : decode cX5_late 76 = .ok (.ireturn, 1) := by decide +kernel
theorem dX5_hole_0 : decode cX5_hole 0 = .ok (.aload_n 0, 1) := by decide +kernel
theorem dX5_hole_1 : decode cX5_hole 1 = .ok (.getfield 10, 3) := by decide +kernel
theorem dX5_hole_4 : decode cX5_hole 4 = .ok (.iload_n 1, 1) := by decide +kernel
theorem dX5_hole_5 : decode cX5_hole 5 = .ok (.invokevirtual 65, 3) := by decide +kernel
theorem dX5_hole_8 : decode cX5_hole 8 = .ok (.ifCond .ne 5, 3) := by decide +kernel
theorem dX5_hole_11 : decode cX5_hole 11 = .ok (.iconst (-1), 1) := by decide +kernel
theorem dX5_hole_12 : decode cX5_hole 12 = .ok (.ireturn, 1) := by decide +kernel
theorem dX5_hole_13 : decode cX5_hole 13 = .ok (.aload_n 0, 1) := by decide +kernel
theorem dX5_hole_14 : decode cX5_hole 14 = .ok (.getfield 10, 3) := by decide +kernel
theorem dX5_hole_17 : decode cX5_hole 17 = .ok (.getfield 57, 3) := by decide +kernel
theorem dX5_hole_20 : decode cX5_hole 20 = .ok (.iload_n 1, 1) := by decide +kernel
theorem dX5_hole_21 : decode cX5_hole 21 = .ok (.baload, 1) := by decide +kernel
theorem dX5_hole_22 : decode cX5_hole 22 = .ok (.ifCond .eq 6, 3) := by decide +kernel
theorem dX5_hole_25 : decode cX5_hole 25 = .ok (.bipush (-5), 2) := by decide +kernel
theorem dX5_hole_27 : decode cX5_hole 27 = .ok (.ireturn, 1) := by decide +kernel
theorem dX5_hole_28 : decode cX5_hole 28 = .ok (.aload_n 0, 1) := by decide +kernel
theorem dX5_hole_29 : decode cX5_hole 29 = .ok (.getfield 38, 3) := by decide +kernel
theorem dX5_hole_32 : decode cX5_hole 32 = .ok (.aload_n 0, 1) := by decide +kernel
theorem dX5_hole_33 : decode cX5_hole 33 = .ok (.getfield 10, 3) := by decide +kernel
theorem dX5_hole_36 : decode cX5_hole 36 = .ok (.aload_n 0, 1) := by decide +kernel
theorem dX5_hole_37 : decode cX5_hole 37 = .ok (.getfield 10, 3) := by decide +kernel
theorem dX5_hole_40 : decode cX5_hole 40 = .ok (.getfield 69, 3) := by decide +kernel
theorem dX5_hole_43 : decode cX5_hole 43 = .ok (.iconst 1, 1) := by decide +kernel
theorem dX5_hole_44 : decode cX5_hole 44 = .ok (.isub, 1) := by decide +kernel
theorem dX5_hole_45 : decode cX5_hole 45 = .ok (.iconst (-1), 1) := by decide +kernel
theorem dX5_hole_46 : decode cX5_hole 46 = .ok (.invokevirtual 143, 3) := by decide +kernel
theorem dX5_hole_49 : decode cX5_hole 49 = .ok (.aload_n 0, 1) := by decide +kernel
theorem dX5_hole_50 : decode cX5_hole 50 = .ok (.getfield 42, 3) := by decide +kernel
theorem dX5_hole_53 : decode cX5_hole 53 = .ok (.iconst 0, 1) := by decide +kernel
theorem dX5_hole_54 : decode cX5_hole 54 = .ok (.invokevirtual 61, 3) := by decide +kernel
theorem dX5_hole_57 : decode cX5_hole 57 = .ok (.aload_n 0, 1) := by decide +kernel
theorem dX5_hole_58 : decode cX5_hole 58 = .ok (.getfield 42, 3) := by decide +kernel
theorem dX5_hole_61 : decode cX5_hole 61 = .ok (.aload_n 0, 1) := by decide +kernel
theorem dX5_hole_62 : decode cX5_hole 62 = .ok (.getfield 10, 3) := by decide +kernel
theorem dX5_hole_65 : decode cX5_hole 65 = .ok (.aload_n 0, 1) := by decide +kernel
theorem dX5_hole_66 : decode cX5_hole 66 = .ok (.getfield 10, 3) := by decide +kernel
theorem dX5_hole_69 : decode cX5_hole 69 = .ok (.getfield 69, 3) := by decide +kernel
theorem dX5_hole_72 : decode cX5_hole 72 = .ok (.iconst 1, 1) := by decide +kernel
theorem dX5_hole_73 : decode cX5_hole 73 = .ok (.isub, 1) := by decide +kernel
theorem dX5_hole_74 : decode cX5_hole 74 = .ok (.iload_n 1, 1) := by decide +kernel
theorem dX5_hole_75 : decode cX5_hole 75 = .ok (.invokevirtual 143, 3) := by decide +kernel
theorem dX5_hole_78 : decode cX5_hole 78 = .ok (.iconst 0, 1) := by decide +kernel
theorem dX5_hole_79 : decode cX5_hole 79 = .ok (.istore_n 2, 1) := by decide +kernel
theorem dX5_hole_80 : decode cX5_hole 80 = .ok (.iconst 0, 1) := by decide +kernel
theorem dX5_hole_81 : decode cX5_hole 81 = .ok (.istore_n 3, 1) := by decide +kernel
theorem dX5_hole_82 : decode cX5_hole 82 = .ok (.iload_n 3, 1) := by decide +kernel
theorem dX5_hole_83 : decode cX5_hole 83 = .ok (.aload_n 0, 1) := by decide +kernel
theorem dX5_hole_84 : decode cX5_hole 84 = .ok (.getfield 10, 3) := by decide +kernel
theorem dX5_hole_87 : decode cX5_hole 87 = .ok (.getfield 69, 3) := by decide +kernel
theorem dX5_hole_90 : decode cX5_hole 90 = .ok (.if_icmp .ge 18, 3) := by decide +kernel
theorem dX5_hole_93 : decode cX5_hole 93 = .ok (.iload_n 2, 1) := by decide +kernel
theorem dX5_hole_94 : decode cX5_hole 94 = .ok (.aload_n 0, 1) := by decide +kernel
theorem dX5_hole_95 : decode cX5_hole 95 = .ok (.iload_n 3, 1) := by decide +kernel
theorem dX5_hole_96 : decode cX5_hole 96 = .ok (.iload_n 1, 1) := by decide +kernel
theorem dX5_hole_97 : decode cX5_hole 97 = .ok (.invokevirtual 179, 3) := by decide +kernel
theorem dX5_hole_100 : decode cX5_hole 100 = .ok (.iadd, 1) := by decide +kernel
theorem dX5_hole_101 : decode cX5_hole 101 = .ok (.istore_n 2, 1) := by decide +kernel
theorem dX5_hole_102 : decode cX5_hole 102 = .ok (.iinc 3 1, 3) := by decide +kernel
theorem dX5_hole_105 : decode cX5_hole 105 = .ok (.goto (-23), 3) := by decide +kernel
theorem dX5_hole_108 : decode cX5_hole 108 = .ok (.iload_n 2, 1) := by decide +kernel
theorem dX5_hole_109 : decode cX5_hole 109 = .ok (.ireturn, 1) := by decide +kernel
theorem dX5_ready_0 : decode cX5_ready 0 = .ok (.aload_n 0, 1) := by decide +kernel
theorem dX5_ready_1 : decode cX5_ready 1 = .ok (.getfield 38, 3) := by decide +kernel
theorem dX5_ready_4 : decode cX5_ready 4 = .ok (.aload_n 0, 1) := by decide +kernel
theorem dX5_ready_5 : decode cX5_ready 5 = .ok (.getfield 10, 3) := by decide +kernel
theorem dX5_ready_8 : decode cX5_ready 8 = .ok (.aload_n 0, 1) := by decide +kernel
theorem dX5_ready_9 : decode cX5_ready 9 = .ok (.getfield 10, 3) := by decide +kernel
theorem dX5_ready_12 : decode cX5_ready 12 = .ok (.getfield 69, 3) := by decide +kernel
theorem dX5_ready_15 : decode cX5_ready 15 = .ok (.iconst 1, 1) := by decide +kernel
theorem dX5_ready_16 : decode cX5_ready 16 = .ok (.isub, 1) := by decide +kernel
theorem dX5_ready_17 : decode cX5_ready 17 = .ok (.iconst (-1), 1) := by decide +kernel
theorem dX5_ready_18 : decode cX5_ready 18 = .ok (.invokevirtual 143, 3) := by decide +kernel
theorem dX5_ready_21 : decode cX5_ready 21 = .ok (.iconst 0, 1) := by decide +kernel
theorem dX5_ready_22 : decode cX5_ready 22 = .ok (.istore_n 1, 1) := by decide +kernel
theorem dX5_ready_23 : decode cX5_ready 23 = .ok (.iconst 0, 1) := by decide +kernel
theorem dX5_ready_24 : decode cX5_ready 24 = .ok (.istore_n 2, 1) := by decide +kernel
theorem dX5_ready_25 : decode cX5_ready 25 = .ok (.iload_n 2, 1) := by decide +kernel
theorem dX5_ready_26 : decode cX5_ready 26 = .ok (.aload_n 0, 1) := by decide +kernel
theorem dX5_ready_27 : decode cX5_ready 27 = .ok (.getfield 10, 3) := by decide +kernel
theorem dX5_ready_30 : decode cX5_ready 30 = .ok (.getfield 69, 3) := by decide +kernel
theorem dX5_ready_33 : decode cX5_ready 33 = .ok (.if_icmp .ge 24, 3) := by decide +kernel
theorem dX5_ready_36 : decode cX5_ready 36 = .ok (.aload_n 0, 1) := by decide +kernel
theorem dX5_ready_37 : decode cX5_ready 37 = .ok (.getfield 38, 3) := by decide +kernel
theorem dX5_ready_40 : decode cX5_ready 40 = .ok (.getfield 147, 3) := by decide +kernel
theorem dX5_ready_43 : decode cX5_ready 43 = .ok (.iload_n 2, 1) := by decide +kernel
theorem dX5_ready_44 : decode cX5_ready 44 = .ok (.baload, 1) := by decide +kernel
theorem dX5_ready_45 : decode cX5_ready 45 = .ok (.ifCond .eq 6, 3) := by decide +kernel
theorem dX5_ready_48 : decode cX5_ready 48 = .ok (.iinc 1 1, 3) := by decide +kernel
theorem dX5_ready_51 : decode cX5_ready 51 = .ok (.iinc 2 1, 3) := by decide +kernel
theorem dX5_ready_54 : decode cX5_ready 54 = .ok (.goto (-29), 3) := by decide +kernel
theorem dX5_ready_57 : decode cX5_ready 57 = .ok (.iload_n 1, 1) := by decide +kernel
theorem dX5_ready_58 : decode cX5_ready 58 = .ok (.ireturn, 1) := by decide +kernel
theorem dX5_many_0 : decode cX5_many 0 = .ok (.iload_n 1, 1) := by decide +kernel
theorem dX5_many_1 : decode cX5_many 1 = .ok (.tableswitch 78 0 5 #[39, 47, 55, 63, 68, 73], 39) := by decide +kernel
theorem dX5_many_40 : decode cX5_many 40 = .ok (.aload_n 0, 1) := by decide +kernel
theorem dX5_many_41 : decode cX5_many 41 = .ok (.getfield 10, 3) := by decide +kernel
theorem dX5_many_44 : decode cX5_many 44 = .ok (.getfield 49, 3) := by decide +kernel
theorem dX5_many_47 : decode cX5_many 47 = .ok (.ireturn, 1) := by decide +kernel
theorem dX5_many_48 : decode cX5_many 48 = .ok (.aload_n 0, 1) := by decide +kernel
theorem dX5_many_49 : decode cX5_many 49 = .ok (.getfield 10, 3) := by decide +kernel
theorem dX5_many_52 : decode cX5_many 52 = .ok (.invokevirtual 150, 3) := by decide +kernel
theorem dX5_many_55 : decode cX5_many 55 = .ok (.ireturn, 1) := by decide +kernel
theorem dX5_many_56 : decode cX5_many 56 = .ok (.aload_n 0, 1) := by decide +kernel
theorem dX5_many_57 : decode cX5_many 57 = .ok (.getfield 10, 3) := by decide +kernel
theorem dX5_many_60 : decode cX5_many 60 = .ok (.getfield 69, 3) := by decide +kernel
theorem dX5_many_63 : decode cX5_many 63 = .ok (.ireturn, 1) := by decide +kernel
theorem dX5_many_64 : decode cX5_many 64 = .ok (.aload_n 0, 1) := by decide +kernel
theorem dX5_many_65 : decode cX5_many 65 = .ok (.invokevirtual 182, 3) := by decide +kernel
theorem dX5_many_68 : decode cX5_many 68 = .ok (.ireturn, 1) := by decide +kernel
theorem dX5_many_69 : decode cX5_many 69 = .ok (.aload_n 0, 1) := by decide +kernel
theorem dX5_many_70 : decode cX5_many 70 = .ok (.invokevirtual 185, 3) := by decide +kernel
theorem dX5_many_73 : decode cX5_many 73 = .ok (.ireturn, 1) := by decide +kernel
theorem dX5_many_74 : decode cX5_many 74 = .ok (.aload_n 0, 1) := by decide +kernel
theorem dX5_many_75 : decode cX5_many 75 = .ok (.invokevirtual 188, 3) := by decide +kernel
theorem dX5_many_78 : decode cX5_many 78 = .ok (.ireturn, 1) := by decide +kernel
theorem dX5_many_79 : decode cX5_many 79 = .ok (.iconst (-1), 1) := by decide +kernel
theorem dX5_many_80 : decode cX5_many 80 = .ok (.ireturn, 1) := by decide +kernel
theorem dX5_keep_0 : decode cX5_keep 0 = .ok (.aload_n 0, 1) := by decide +kernel
theorem dX5_keep_1 : decode cX5_keep 1 = .ok (.getfield 16, 3) := by decide +kernel
theorem dX5_keep_4 : decode cX5_keep 4 = .ok (.aload_n 0, 1) := by decide +kernel
theorem dX5_keep_5 : decode cX5_keep 5 = .ok (.getfield 10, 3) := by decide +kernel
theorem dX5_keep_8 : decode cX5_keep 8 = .ok (.invokevirtual 191, 3) := by decide +kernel
theorem dX5_keep_11 : decode cX5_keep 11 = .ok (.aload_n 0, 1) := by decide +kernel
theorem dX5_keep_12 : decode cX5_keep 12 = .ok (.iconst 1, 1) := by decide +kernel
theorem dX5_keep_13 : decode cX5_keep 13 = .ok (.putfield 19, 3) := by decide +kernel
theorem dX5_keep_16 : decode cX5_keep 16 = .ok (.iconst 1, 1) := by decide +kernel
theorem dX5_keep_17 : decode cX5_keep 17 = .ok (.ireturn, 1) := by decide +kernel
theorem dX5_back_0 : decode cX5_back 0 = .ok (.aload_n 0, 1) := by decide +kernel
theorem dX5_back_1 : decode cX5_back 1 = .ok (.getfield 19, 3) := by decide +kernel
theorem dX5_back_4 : decode cX5_back 4 = .ok (.ifCond .ne 6, 3) := by decide +kernel
theorem dX5_back_7 : decode cX5_back 7 = .ok (.bipush (-3), 2) := by decide +kernel
theorem dX5_back_9 : decode cX5_back 9 = .ok (.ireturn, 1) := by decide +kernel
theorem dX5_back_10 : decode cX5_back 10 = .ok (.aload_n 0, 1) := by decide +kernel
theorem dX5_back_11 : decode cX5_back 11 = .ok (.getfield 10, 3) := by decide +kernel
theorem dX5_back_14 : decode cX5_back 14 = .ok (.aload_n 0, 1) := by decide +kernel
theorem dX5_back_15 : decode cX5_back 15 = .ok (.getfield 16, 3) := by decide +kernel
theorem dX5_back_18 : decode cX5_back 18 = .ok (.invokevirtual 191, 3) := by decide +kernel
theorem dX5_back_21 : decode cX5_back 21 = .ok (.aload_n 0, 1) := by decide +kernel
theorem dX5_back_22 : decode cX5_back 22 = .ok (.getfield 38, 3) := by decide +kernel
theorem dX5_back_25 : decode cX5_back 25 = .ok (.iconst 0, 1) := by decide +kernel
theorem dX5_back_26 : decode cX5_back 26 = .ok (.invokevirtual 61, 3) := by decide +kernel
theorem dX5_back_29 : decode cX5_back 29 = .ok (.iconst 1, 1) := by decide +kernel
theorem dX5_back_30 : decode cX5_back 30 = .ok (.ireturn, 1) := by decide +kernel
theorem dX5_isOutside_0 : decode cX5_isOutside 0 = .ok (.iload_n 0, 1) := by decide +kernel
theorem dX5_isOutside_1 : decode cX5_isOutside 1 = .ok (.iload_n 1, 1) := by decide +kernel
theorem dX5_isOutside_2 : decode cX5_isOutside 2 = .ok (.if_icmp .lt 8, 3) := by decide +kernel
theorem dX5_isOutside_5 : decode cX5_isOutside 5 = .ok (.iload_n 0, 1) := by decide +kernel
theorem dX5_isOutside_6 : decode cX5_isOutside 6 = .ok (.iload_n 2, 1) := by decide +kernel
theorem dX5_isOutside_7 : decode cX5_isOutside 7 = .ok (.if_icmp .le 7, 3) := by decide +kernel
theorem dX5_isOutside_10 : decode cX5_isOutside 10 = .ok (.iconst 1, 1) := by decide +kernel
theorem dX5_isOutside_11 : decode cX5_isOutside 11 = .ok (.goto 4, 3) := by decide +kernel
theorem dX5_isOutside_14 : decode cX5_isOutside 14 = .ok (.iconst 0, 1) := by decide +kernel
theorem dX5_isOutside_15 : decode cX5_isOutside 15 = .ok (.ireturn, 1) := by decide +kernel
theorem dX5_isOnGrass_0 : decode cX5_isOnGrass 0 = .ok (.iload_n 0, 1) := by decide +kernel
theorem dX5_isOnGrass_1 : decode cX5_isOnGrass 1 = .ok (.iconst 0, 1) := by decide +kernel
theorem dX5_isOnGrass_2 : decode cX5_isOnGrass 2 = .ok (.bipush 40, 2) := by decide +kernel
theorem dX5_isOnGrass_4 : decode cX5_isOnGrass 4 = .ok (.invokestatic 45, 3) := by decide +kernel
theorem dX5_isOnGrass_7 : decode cX5_isOnGrass 7 = .ok (.ifCond .ne 17, 3) := by decide +kernel
theorem dX5_isOnGrass_10 : decode cX5_isOnGrass 10 = .ok (.iload_n 1, 1) := by decide +kernel
theorem dX5_isOnGrass_11 : decode cX5_isOnGrass 11 = .ok (.iconst 0, 1) := by decide +kernel
theorem dX5_isOnGrass_12 : decode cX5_isOnGrass 12 = .ok (.bipush 40, 2) := by decide +kernel
theorem dX5_isOnGrass_14 : decode cX5_isOnGrass 14 = .ok (.invokestatic 45, 3) := by decide +kernel
theorem dX5_isOnGrass_17 : decode cX5_isOnGrass 17 = .ok (.ifCond .ne 7, 3) := by decide +kernel
theorem dX5_isOnGrass_20 : decode cX5_isOnGrass 20 = .ok (.iconst 1, 1) := by decide +kernel
theorem dX5_isOnGrass_21 : decode cX5_isOnGrass 21 = .ok (.goto 4, 3) := by decide +kernel
theorem dX5_isOnGrass_24 : decode cX5_isOnGrass 24 = .ok (.iconst 0, 1) := by decide +kernel
theorem dX5_isOnGrass_25 : decode cX5_isOnGrass 25 = .ok (.ireturn, 1) := by decide +kernel
theorem dX5_leastStep_0 : decode cX5_leastStep 0 = .ok (.iconst 2, 1) := by decide +kernel
theorem dX5_leastStep_1 : decode cX5_leastStep 1 = .ok (.iload_n 0, 1) := by decide +kernel
theorem dX5_leastStep_2 : decode cX5_leastStep 2 = .ok (.imul, 1) := by decide +kernel
theorem dX5_leastStep_3 : decode cX5_leastStep 3 = .ok (.istore 5, 2) := by decide +kernel
theorem dX5_leastStep_5 : decode cX5_leastStep 5 = .ok (.ldc 197, 2) := by decide +kernel
theorem dX5_leastStep_7 : decode cX5_leastStep 7 = .ok (.istore 6, 2) := by decide +kernel
theorem dX5_leastStep_9 : decode cX5_leastStep 9 = .ok (.iconst 1, 1) := by decide +kernel
theorem dX5_leastStep_10 : decode cX5_leastStep 10 = .ok (.istore 7, 2) := by decide +kernel
theorem dX5_leastStep_12 : decode cX5_leastStep 12 = .ok (.iload 7, 2) := by decide +kernel
theorem dX5_leastStep_14 : decode cX5_leastStep 14 = .ok (.iload 5, 2) := by decide +kernel
theorem dX5_leastStep_16 : decode cX5_leastStep 16 = .ok (.if_icmp .ge 58, 3) := by decide +kernel
theorem dX5_leastStep_19 : decode cX5_leastStep 19 = .ok (.iload_n 1, 1) := by decide +kernel
theorem dX5_leastStep_20 : decode cX5_leastStep 20 = .ok (.iload 5, 2) := by decide +kernel
theorem dX5_leastStep_22 : decode cX5_leastStep 22 = .ok (.iload 7, 2) := by decide +kernel
theorem dX5_leastStep_24 : decode cX5_leastStep 24 = .ok (.isub, 1) := by decide +kernel
theorem dX5_leastStep_25 : decode cX5_leastStep 25 = .ok (.imul, 1) := by decide +kernel
theorem dX5_leastStep_26 : decode cX5_leastStep 26 = .ok (.iload_n 3, 1) := by decide +kernel
theorem dX5_leastStep_27 : decode cX5_leastStep 27 = .ok (.iload 7, 2) := by decide +kernel
theorem dX5_leastStep_29 : decode cX5_leastStep 29 = .ok (.imul, 1) := by decide +kernel
theorem dX5_leastStep_30 : decode cX5_leastStep 30 = .ok (.iadd, 1) := by decide +kernel
theorem dX5_leastStep_31 : decode cX5_leastStep 31 = .ok (.invokestatic 174, 3) := by decide +kernel
theorem dX5_leastStep_34 : decode cX5_leastStep 34 = .ok (.istore 8, 2) := by decide +kernel
theorem dX5_leastStep_36 : decode cX5_leastStep 36 = .ok (.iload_n 2, 1) := by decide +kernel
theorem dX5_leastStep_37 : decode cX5_leastStep 37 = .ok (.iload 5, 2) := by decide +kernel
theorem dX5_leastStep_39 : decode cX5_leastStep 39 = .ok (.iload 7, 2) := by decide +kernel
theorem dX5_leastStep_41 : decode cX5_leastStep 41 = .ok (.isub, 1) := by decide +kernel
theorem dX5_leastStep_42 : decode cX5_leastStep 42 = .ok (.imul, 1) := by decide +kernel
theorem dX5_leastStep_43 : decode cX5_leastStep 43 = .ok (.iload 4, 2) := by decide +kernel
theorem dX5_leastStep_45 : decode cX5_leastStep 45 = .ok (.iload 7, 2) := by decide +kernel
theorem dX5_leastStep_47 : decode cX5_leastStep 47 = .ok (.imul, 1) := by decide +kernel
theorem dX5_leastStep_48 : decode cX5_leastStep 48 = .ok (.iadd, 1) := by decide +kernel
theorem dX5_leastStep_49 : decode cX5_leastStep 49 = .ok (.invokestatic 174, 3) := by decide +kernel
theorem dX5_leastStep_52 : decode cX5_leastStep 52 = .ok (.istore 9, 2) := by decide +kernel
theorem dX5_leastStep_54 : decode cX5_leastStep 54 = .ok (.iload 6, 2) := by decide +kernel
theorem dX5_leastStep_56 : decode cX5_leastStep 56 = .ok (.iload 8, 2) := by decide +kernel
theorem dX5_leastStep_58 : decode cX5_leastStep 58 = .ok (.iload 9, 2) := by decide +kernel
theorem dX5_leastStep_60 : decode cX5_leastStep 60 = .ok (.invokestatic 198, 3) := by decide +kernel
theorem dX5_leastStep_63 : decode cX5_leastStep 63 = .ok (.invokestatic 201, 3) := by decide +kernel
theorem dX5_leastStep_66 : decode cX5_leastStep 66 = .ok (.istore 6, 2) := by decide +kernel
theorem dX5_leastStep_68 : decode cX5_leastStep 68 = .ok (.iinc 7 1, 3) := by decide +kernel
theorem dX5_leastStep_71 : decode cX5_leastStep 71 = .ok (.goto (-59), 3) := by decide +kernel
theorem dX5_leastStep_74 : decode cX5_leastStep 74 = .ok (.iload 6, 2) := by decide +kernel
theorem dX5_leastStep_76 : decode cX5_leastStep 76 = .ok (.ireturn, 1) := by decide +kernel
theorem dX5_cleared_0 : decode cX5_cleared 0 = .ok (.iload_n 2, 1) := by decide +kernel
theorem dX5_cleared_1 : decode cX5_cleared 1 = .ok (.istore_n 3, 1) := by decide +kernel
theorem dX5_cleared_2 : decode cX5_cleared 2 = .ok (.iload_n 3, 1) := by decide +kernel
theorem dX5_cleared_3 : decode cX5_cleared 3 = .ok (.iconst 1, 1) := by decide +kernel
theorem dX5_cleared_4 : decode cX5_cleared 4 = .ok (.if_icmp .le 25, 3) := by decide +kernel
theorem dX5_cleared_7 : decode cX5_cleared 7 = .ok (.iload_n 1, 1) := by decide +kernel
theorem dX5_cleared_8 : decode cX5_cleared 8 = .ok (.iload_n 3, 1) := by decide +kernel
theorem dX5_cleared_9 : decode cX5_cleared 9 = .ok (.irem, 1) := by decide +kernel
theorem dX5_cleared_10 : decode cX5_cleared 10 = .ok (.ifCond .ne 13, 3) := by decide +kernel
theorem dX5_cleared_13 : decode cX5_cleared 13 = .ok (.iload_n 2, 1) := by decide +kernel
theorem dX5_cleared_14 : decode cX5_cleared 14 = .ok (.iload_n 3, 1) := by decide +kernel
theorem dX5_cleared_15 : decode cX5_cleared 15 = .ok (.irem, 1) := by decide +kernel
theorem dX5_cleared_16 : decode cX5_cleared 16 = .ok (.ifCond .ne 7, 3) := by decide +kernel
theorem dX5_cleared_19 : decode cX5_cleared 19 = .ok (.iload_n 0, 1) := by decide +kernel
theorem dX5_cleared_20 : decode cX5_cleared 20 = .ok (.iload_n 3, 1) := by decide +kernel
theorem dX5_cleared_21 : decode cX5_cleared 21 = .ok (.idiv, 1) := by decide +kernel
theorem dX5_cleared_22 : decode cX5_cleared 22 = .ok (.ireturn, 1) := by decide +kernel
theorem dX5_cleared_23 : decode cX5_cleared 23 = .ok (.iinc 3 (-1), 3) := by decide +kernel
theorem dX5_cleared_26 : decode cX5_cleared 26 = .ok (.goto (-24), 3) := by decide +kernel
theorem dX5_cleared_29 : decode cX5_cleared 29 = .ok (.iload_n 0, 1) := by decide +kernel
theorem dX5_cleared_30 : decode cX5_cleared 30 = .ok (.ireturn, 1) := by decide +kernel
theorem dX5_copyFlags_0 : decode cX5_copyFlags 0 = .ok (.iconst 0, 1) := by decide +kernel
theorem dX5_copyFlags_1 : decode cX5_copyFlags 1 = .ok (.istore_n 2, 1) := by decide +kernel
theorem dX5_copyFlags_2 : decode cX5_copyFlags 2 = .ok (.iload_n 2, 1) := by decide +kernel
theorem dX5_copyFlags_3 : decode cX5_copyFlags 3 = .ok (.aload_n 1, 1) := by decide +kernel
theorem dX5_copyFlags_4 : decode cX5_copyFlags 4 = .ok (.arraylength, 1) := by decide +kernel
theorem dX5_copyFlags_5 : decode cX5_copyFlags 5 = .ok (.if_icmp .ge 21, 3) := by decide +kernel
theorem dX5_copyFlags_8 : decode cX5_copyFlags 8 = .ok (.iload_n 2, 1) := by decide +kernel
theorem dX5_copyFlags_9 : decode cX5_copyFlags 9 = .ok (.aload_n 0, 1) := by decide +kernel
theorem dX5_copyFlags_10 : decode cX5_copyFlags 10 = .ok (.arraylength, 1) := by decide +kernel
theorem dX5_copyFlags_11 : decode cX5_copyFlags 11 = .ok (.if_icmp .ge 15, 3) := by decide +kernel
theorem dX5_copyFlags_14 : decode cX5_copyFlags 14 = .ok (.aload_n 1, 1) := by decide +kernel
theorem dX5_copyFlags_15 : decode cX5_copyFlags 15 = .ok (.iload_n 2, 1) := by decide +kernel
theorem dX5_copyFlags_16 : decode cX5_copyFlags 16 = .ok (.aload_n 0, 1) := by decide +kernel
theorem dX5_copyFlags_17 : decode cX5_copyFlags 17 = .ok (.iload_n 2, 1) := by decide +kernel
theorem dX5_copyFlags_18 : decode cX5_copyFlags 18 = .ok (.baload, 1) := by decide +kernel
theorem dX5_copyFlags_19 : decode cX5_copyFlags 19 = .ok (.bastore, 1) := by decide +kernel
theorem dX5_copyFlags_20 : decode cX5_copyFlags 20 = .ok (.iinc 2 1, 3) := by decide +kernel
theorem dX5_copyFlags_23 : decode cX5_copyFlags 23 = .ok (.goto (-21), 3) := by decide +kernel
theorem dX5_copyFlags_26 : decode cX5_copyFlags 26 = .ok (.return_, 1) := by decide +kernel
theorem dX5_draw_0 : decode cX5_draw 0 = .ok (.aload_n 0, 1) := by decide +kernel
theorem dX5_draw_1 : decode cX5_draw 1 = .ok (.getfield 10, 3) := by decide +kernel
theorem dX5_draw_4 : decode cX5_draw 4 = .ok (.getfield 72, 3) := by decide +kernel
theorem dX5_draw_7 : decode cX5_draw 7 = .ok (.iload_n 1, 1) := by decide +kernel
theorem dX5_draw_8 : decode cX5_draw 8 = .ok (.aaload, 1) := by decide +kernel
theorem dX5_draw_9 : decode cX5_draw 9 = .ok (.astore_n 2, 1) := by decide +kernel
theorem dX5_draw_10 : decode cX5_draw 10 = .ok (.aload_n 2, 1) := by decide +kernel
theorem dX5_draw_11 : decode cX5_draw 11 = .ok (.aload_n 0, 1) := by decide +kernel
theorem dX5_draw_12 : decode cX5_draw 12 = .ok (.getfield 26, 3) := by decide +kernel
theorem dX5_draw_15 : decode cX5_draw 15 = .ok (.invokevirtual 204, 3) := by decide +kernel
theorem dX5_draw_18 : decode cX5_draw 18 = .ok (.ifCond .ne 6, 3) := by decide +kernel
theorem dX5_draw_21 : decode cX5_draw 21 = .ok (.bipush (-4), 2) := by decide +kernel
theorem dX5_draw_23 : decode cX5_draw 23 = .ok (.ireturn, 1) := by decide +kernel
theorem dX5_draw_24 : decode cX5_draw 24 = .ok (.aload_n 2, 1) := by decide +kernel
theorem dX5_draw_25 : decode cX5_draw 25 = .ok (.aload_n 0, 1) := by decide +kernel
theorem dX5_draw_26 : decode cX5_draw 26 = .ok (.getfield 26, 3) := by decide +kernel
theorem dX5_draw_29 : decode cX5_draw 29 = .ok (.invokevirtual 208, 3) := by decide +kernel
theorem dX5_draw_32 : decode cX5_draw 32 = .ok (.aload_n 0, 1) := by decide +kernel
theorem dX5_draw_33 : decode cX5_draw 33 = .ok (.getfield 38, 3) := by decide +kernel
theorem dX5_draw_36 : decode cX5_draw 36 = .ok (.iload_n 1, 1) := by decide +kernel
theorem dX5_draw_37 : decode cX5_draw 37 = .ok (.invokevirtual 61, 3) := by decide +kernel
theorem dX5_draw_40 : decode cX5_draw 40 = .ok (.aload_n 2, 1) := by decide +kernel
theorem dX5_draw_41 : decode cX5_draw 41 = .ok (.getfield 111, 3) := by decide +kernel
theorem dX5_draw_44 : decode cX5_draw 44 = .ok (.ireturn, 1) := by decide +kernel
theorem dX5_refusalOf_0 : decode cX5_refusalOf 0 = .ok (.aload_n 0, 1) := by decide +kernel
theorem dX5_refusalOf_1 : decode cX5_refusalOf 1 = .ok (.getfield 10, 3) := by decide +kernel
theorem dX5_refusalOf_4 : decode cX5_refusalOf 4 = .ok (.iload_n 1, 1) := by decide +kernel
theorem dX5_refusalOf_5 : decode cX5_refusalOf 5 = .ok (.invokevirtual 81, 3) := by decide +kernel
theorem dX5_refusalOf_8 : decode cX5_refusalOf 8 = .ok (.ifCond .eq 14, 3) := by decide +kernel
theorem dX5_refusalOf_11 : decode cX5_refusalOf 11 = .ok (.aload_n 0, 1) := by decide +kernel
theorem dX5_refusalOf_12 : decode cX5_refusalOf 12 = .ok (.getfield 10, 3) := by decide +kernel
theorem dX5_refusalOf_15 : decode cX5_refusalOf 15 = .ok (.iload_n 2, 1) := by decide +kernel
theorem dX5_refusalOf_16 : decode cX5_refusalOf 16 = .ok (.invokevirtual 65, 3) := by decide +kernel
theorem dX5_refusalOf_19 : decode cX5_refusalOf 19 = .ok (.ifCond .ne 5, 3) := by decide +kernel
theorem dX5_refusalOf_22 : decode cX5_refusalOf 22 = .ok (.iconst (-1), 1) := by decide +kernel
theorem dX5_refusalOf_23 : decode cX5_refusalOf 23 = .ok (.ireturn, 1) := by decide +kernel
theorem dX5_refusalOf_24 : decode cX5_refusalOf 24 = .ok (.aload_n 0, 1) := by decide +kernel
theorem dX5_refusalOf_25 : decode cX5_refusalOf 25 = .ok (.getfield 10, 3) := by decide +kernel
theorem dX5_refusalOf_28 : decode cX5_refusalOf 28 = .ok (.getfield 57, 3) := by decide +kernel
theorem dX5_refusalOf_31 : decode cX5_refusalOf 31 = .ok (.iload_n 2, 1) := by decide +kernel
theorem dX5_refusalOf_32 : decode cX5_refusalOf 32 = .ok (.baload, 1) := by decide +kernel
theorem dX5_refusalOf_33 : decode cX5_refusalOf 33 = .ok (.ifCond .eq 6, 3) := by decide +kernel
theorem dX5_refusalOf_36 : decode cX5_refusalOf 36 = .ok (.bipush (-5), 2) := by decide +kernel
theorem dX5_refusalOf_38 : decode cX5_refusalOf 38 = .ok (.ireturn, 1) := by decide +kernel
theorem dX5_refusalOf_39 : decode cX5_refusalOf 39 = .ok (.aload_n 0, 1) := by decide +kernel
theorem dX5_refusalOf_40 : decode cX5_refusalOf 40 = .ok (.getfield 38, 3) := by decide +kernel
theorem dX5_refusalOf_43 : decode cX5_refusalOf 43 = .ok (.aload_n 0, 1) := by decide +kernel
theorem dX5_refusalOf_44 : decode cX5_refusalOf 44 = .ok (.getfield 10, 3) := by decide +kernel
theorem dX5_refusalOf_47 : decode cX5_refusalOf 47 = .ok (.iload_n 1, 1) := by decide +kernel
theorem dX5_refusalOf_48 : decode cX5_refusalOf 48 = .ok (.iconst (-1), 1) := by decide +kernel
theorem dX5_refusalOf_49 : decode cX5_refusalOf 49 = .ok (.invokevirtual 143, 3) := by decide +kernel
theorem dX5_refusalOf_52 : decode cX5_refusalOf 52 = .ok (.aload_n 0, 1) := by decide +kernel
theorem dX5_refusalOf_53 : decode cX5_refusalOf 53 = .ok (.getfield 38, 3) := by decide +kernel
theorem dX5_refusalOf_56 : decode cX5_refusalOf 56 = .ok (.getfield 147, 3) := by decide +kernel
theorem dX5_refusalOf_59 : decode cX5_refusalOf 59 = .ok (.iload_n 1, 1) := by decide +kernel
theorem dX5_refusalOf_60 : decode cX5_refusalOf 60 = .ok (.baload, 1) := by decide +kernel
theorem dX5_refusalOf_61 : decode cX5_refusalOf 61 = .ok (.ifCond .eq 7, 3) := by decide +kernel
theorem dX5_refusalOf_64 : decode cX5_refusalOf 64 = .ok (.iconst 0, 1) := by decide +kernel
theorem dX5_refusalOf_65 : decode cX5_refusalOf 65 = .ok (.goto 5, 3) := by decide +kernel
theorem dX5_refusalOf_68 : decode cX5_refusalOf 68 = .ok (.bipush (-3), 2) := by decide +kernel
theorem dX5_refusalOf_70 : decode cX5_refusalOf 70 = .ok (.ireturn, 1) := by decide +kernel
theorem dX5_xIn_0 : decode cX5_xIn 0 = .ok (.aload_n 0, 1) := by decide +kernel
theorem dX5_xIn_1 : decode cX5_xIn 1 = .ok (.getfield 10, 3) := by decide +kernel
theorem dX5_xIn_4 : decode cX5_xIn 4 = .ok (.getfield 72, 3) := by decide +kernel
theorem dX5_xIn_7 : decode cX5_xIn 7 = .ok (.iload_n 1, 1) := by decide +kernel
theorem dX5_xIn_8 : decode cX5_xIn 8 = .ok (.aaload, 1) := by decide +kernel
theorem dX5_xIn_9 : decode cX5_xIn 9 = .ok (.aload_n 0, 1) := by decide +kernel
theorem dX5_xIn_10 : decode cX5_xIn 10 = .ok (.getfield 38, 3) := by decide +kernel
theorem dX5_xIn_13 : decode cX5_xIn 13 = .ok (.iload_n 1, 1) := by decide +kernel
theorem dX5_xIn_14 : decode cX5_xIn 14 = .ok (.iload_n 2, 1) := by decide +kernel
theorem dX5_xIn_15 : decode cX5_xIn 15 = .ok (.invokevirtual 140, 3) := by decide +kernel
theorem dX5_xIn_18 : decode cX5_xIn 18 = .ok (.invokevirtual 130, 3) := by decide +kernel
theorem dX5_xIn_21 : decode cX5_xIn 21 = .ok (.ireturn, 1) := by decide +kernel
theorem dX5_yIn_0 : decode cX5_yIn 0 = .ok (.aload_n 0, 1) := by decide +kernel
theorem dX5_yIn_1 : decode cX5_yIn 1 = .ok (.getfield 10, 3) := by decide +kernel
theorem dX5_yIn_4 : decode cX5_yIn 4 = .ok (.getfield 72, 3) := by decide +kernel
theorem dX5_yIn_7 : decode cX5_yIn 7 = .ok (.iload_n 1, 1) := by decide +kernel
theorem dX5_yIn_8 : decode cX5_yIn 8 = .ok (.aaload, 1) := by decide +kernel
theorem dX5_yIn_9 : decode cX5_yIn 9 = .ok (.aload_n 0, 1) := by decide +kernel
theorem dX5_yIn_10 : decode cX5_yIn 10 = .ok (.getfield 38, 3) := by decide +kernel
theorem dX5_yIn_13 : decode cX5_yIn 13 = .ok (.iload_n 1, 1) := by decide +kernel
theorem dX5_yIn_14 : decode cX5_yIn 14 = .ok (.iload_n 2, 1) := by decide +kernel
theorem dX5_yIn_15 : decode cX5_yIn 15 = .ok (.invokevirtual 140, 3) := by decide +kernel
theorem dX5_yIn_18 : decode cX5_yIn 18 = .ok (.invokevirtual 133, 3) := by decide +kernel
theorem dX5_yIn_21 : decode cX5_yIn 21 = .ok (.ireturn, 1) := by decide +kernel
theorem dX5_changesIn_0 : decode cX5_changesIn 0 = .ok (.aload_n 0, 1) := by decide +kernel
theorem dX5_changesIn_1 : decode cX5_changesIn 1 = .ok (.getfield 38, 3) := by decide +kernel
theorem dX5_changesIn_4 : decode cX5_changesIn 4 = .ok (.getfield 147, 3) := by decide +kernel
theorem dX5_changesIn_7 : decode cX5_changesIn 7 = .ok (.iload_n 1, 1) := by decide +kernel
theorem dX5_changesIn_8 : decode cX5_changesIn 8 = .ok (.baload, 1) := by decide +kernel
theorem dX5_changesIn_9 : decode cX5_changesIn 9 = .ok (.aload_n 0, 1) := by decide +kernel
theorem dX5_changesIn_10 : decode cX5_changesIn 10 = .ok (.getfield 42, 3) := by decide +kernel
theorem dX5_changesIn_13 : decode cX5_changesIn 13 = .ok (.getfield 147, 3) := by decide +kernel
theorem dX5_changesIn_16 : decode cX5_changesIn 16 = .ok (.iload_n 1, 1) := by decide +kernel
theorem dX5_changesIn_17 : decode cX5_changesIn 17 = .ok (.baload, 1) := by decide +kernel
theorem dX5_changesIn_18 : decode cX5_changesIn 18 = .ok (.if_icmp .eq 13, 3) := by decide +kernel
theorem dX5_changesIn_21 : decode cX5_changesIn 21 = .ok (.aload_n 0, 1) := by decide +kernel
theorem dX5_changesIn_22 : decode cX5_changesIn 22 = .ok (.getfield 10, 3) := by decide +kernel
theorem dX5_changesIn_25 : decode cX5_changesIn 25 = .ok (.invokevirtual 150, 3) := by decide +kernel
theorem dX5_changesIn_28 : decode cX5_changesIn 28 = .ok (.iconst 1, 1) := by decide +kernel
theorem dX5_changesIn_29 : decode cX5_changesIn 29 = .ok (.isub, 1) := by decide +kernel
theorem dX5_changesIn_30 : decode cX5_changesIn 30 = .ok (.ireturn, 1) := by decide +kernel
theorem dX5_changesIn_31 : decode cX5_changesIn 31 = .ok (.aload_n 0, 1) := by decide +kernel
theorem dX5_changesIn_32 : decode cX5_changesIn 32 = .ok (.getfield 38, 3) := by decide +kernel
theorem dX5_changesIn_35 : decode cX5_changesIn 35 = .ok (.getfield 147, 3) := by decide +kernel
theorem dX5_changesIn_38 : decode cX5_changesIn 38 = .ok (.iload_n 1, 1) := by decide +kernel
theorem dX5_changesIn_39 : decode cX5_changesIn 39 = .ok (.baload, 1) := by decide +kernel
theorem dX5_changesIn_40 : decode cX5_changesIn 40 = .ok (.ifCond .ne 5, 3) := by decide +kernel
theorem dX5_changesIn_43 : decode cX5_changesIn 43 = .ok (.iconst 0, 1) := by decide +kernel
theorem dX5_changesIn_44 : decode cX5_changesIn 44 = .ok (.ireturn, 1) := by decide +kernel
theorem dX5_changesIn_45 : decode cX5_changesIn 45 = .ok (.iconst 0, 1) := by decide +kernel
theorem dX5_changesIn_46 : decode cX5_changesIn 46 = .ok (.istore_n 3, 1) := by decide +kernel
theorem dX5_changesIn_47 : decode cX5_changesIn 47 = .ok (.iconst 0, 1) := by decide +kernel
theorem dX5_changesIn_48 : decode cX5_changesIn 48 = .ok (.istore 4, 2) := by decide +kernel
theorem dX5_changesIn_50 : decode cX5_changesIn 50 = .ok (.iload 4, 2) := by decide +kernel
theorem dX5_changesIn_52 : decode cX5_changesIn 52 = .ok (.aload_n 0, 1) := by decide +kernel
theorem dX5_changesIn_53 : decode cX5_changesIn 53 = .ok (.getfield 10, 3) := by decide +kernel
theorem dX5_changesIn_56 : decode cX5_changesIn 56 = .ok (.getfield 49, 3) := by decide +kernel
theorem dX5_changesIn_59 : decode cX5_changesIn 59 = .ok (.if_icmp .ge 41, 3) := by decide +kernel
theorem dX5_changesIn_62 : decode cX5_changesIn 62 = .ok (.iload 4, 2) := by decide +kernel
theorem dX5_changesIn_64 : decode cX5_changesIn 64 = .ok (.iload_n 2, 1) := by decide +kernel
theorem dX5_changesIn_65 : decode cX5_changesIn 65 = .ok (.if_icmp .eq 29, 3) := by decide +kernel
theorem dX5_changesIn_68 : decode cX5_changesIn 68 = .ok (.aload_n 0, 1) := by decide +kernel
theorem dX5_changesIn_69 : decode cX5_changesIn 69 = .ok (.getfield 38, 3) := by decide +kernel
theorem dX5_changesIn_72 : decode cX5_changesIn 72 = .ok (.iload_n 1, 1) := by decide +kernel
theorem dX5_changesIn_73 : decode cX5_changesIn 73 = .ok (.iload 4, 2) := by decide +kernel
theorem dX5_changesIn_75 : decode cX5_changesIn 75 = .ok (.invokevirtual 140, 3) := by decide +kernel
theorem dX5_changesIn_78 : decode cX5_changesIn 78 = .ok (.aload_n 0, 1) := by decide +kernel
theorem dX5_changesIn_79 : decode cX5_changesIn 79 = .ok (.getfield 42, 3) := by decide +kernel
theorem dX5_changesIn_82 : decode cX5_changesIn 82 = .ok (.iload_n 1, 1) := by decide +kernel
theorem dX5_changesIn_83 : decode cX5_changesIn 83 = .ok (.iload 4, 2) := by decide +kernel
theorem dX5_changesIn_85 : decode cX5_changesIn 85 = .ok (.invokevirtual 140, 3) := by decide +kernel
theorem dX5_changesIn_88 : decode cX5_changesIn 88 = .ok (.if_icmp .eq 6, 3) := by decide +kernel
theorem dX5_changesIn_91 : decode cX5_changesIn 91 = .ok (.iinc 3 1, 3) := by decide +kernel
theorem dX5_changesIn_94 : decode cX5_changesIn 94 = .ok (.iinc 4 1, 3) := by decide +kernel
theorem dX5_changesIn_97 : decode cX5_changesIn 97 = .ok (.goto (-47), 3) := by decide +kernel
theorem dX5_changesIn_100 : decode cX5_changesIn 100 = .ok (.iload_n 3, 1) := by decide +kernel
theorem dX5_changesIn_101 : decode cX5_changesIn 101 = .ok (.ireturn, 1) := by decide +kernel
theorem dX5_allDots_0 : decode cX5_allDots 0 = .ok (.iconst 0, 1) := by decide +kernel
theorem dX5_allDots_1 : decode cX5_allDots 1 = .ok (.istore_n 1, 1) := by decide +kernel
theorem dX5_allDots_2 : decode cX5_allDots 2 = .ok (.iconst 0, 1) := by decide +kernel
theorem dX5_allDots_3 : decode cX5_allDots 3 = .ok (.istore_n 2, 1) := by decide +kernel
theorem dX5_allDots_4 : decode cX5_allDots 4 = .ok (.iload_n 2, 1) := by decide +kernel
theorem dX5_allDots_5 : decode cX5_allDots 5 = .ok (.aload_n 0, 1) := by decide +kernel
theorem dX5_allDots_6 : decode cX5_allDots 6 = .ok (.getfield 10, 3) := by decide +kernel
theorem dX5_allDots_9 : decode cX5_allDots 9 = .ok (.getfield 69, 3) := by decide +kernel
theorem dX5_allDots_12 : decode cX5_allDots 12 = .ok (.if_icmp .ge 24, 3) := by decide +kernel
theorem dX5_allDots_15 : decode cX5_allDots 15 = .ok (.iload_n 1, 1) := by decide +kernel
theorem dX5_allDots_16 : decode cX5_allDots 16 = .ok (.aload_n 0, 1) := by decide +kernel
theorem dX5_allDots_17 : decode cX5_allDots 17 = .ok (.getfield 10, 3) := by decide +kernel
theorem dX5_allDots_20 : decode cX5_allDots 20 = .ok (.getfield 72, 3) := by decide +kernel
theorem dX5_allDots_23 : decode cX5_allDots 23 = .ok (.iload_n 2, 1) := by decide +kernel
theorem dX5_allDots_24 : decode cX5_allDots 24 = .ok (.aaload, 1) := by decide +kernel
theorem dX5_allDots_25 : decode cX5_allDots 25 = .ok (.getfield 111, 3) := by decide +kernel
theorem dX5_allDots_28 : decode cX5_allDots 28 = .ok (.iadd, 1) := by decide +kernel
theorem dX5_allDots_29 : decode cX5_allDots 29 = .ok (.istore_n 1, 1) := by decide +kernel
theorem dX5_allDots_30 : decode cX5_allDots 30 = .ok (.iinc 2 1, 3) := by decide +kernel
theorem dX5_allDots_33 : decode cX5_allDots 33 = .ok (.goto (-29), 3) := by decide +kernel
theorem dX5_allDots_36 : decode cX5_allDots 36 = .ok (.iload_n 1, 1) := by decide +kernel
theorem dX5_allDots_37 : decode cX5_allDots 37 = .ok (.ireturn, 1) := by decide +kernel
theorem dX5_allSolos_0 : decode cX5_allSolos 0 = .ok (.iconst 0, 1) := by decide +kernel
theorem dX5_allSolos_1 : decode cX5_allSolos 1 = .ok (.istore_n 1, 1) := by decide +kernel
theorem dX5_allSolos_2 : decode cX5_allSolos 2 = .ok (.iconst 0, 1) := by decide +kernel
theorem dX5_allSolos_3 : decode cX5_allSolos 3 = .ok (.istore_n 2, 1) := by decide +kernel
theorem dX5_allSolos_4 : decode cX5_allSolos 4 = .ok (.iload_n 2, 1) := by decide +kernel
theorem dX5_allSolos_5 : decode cX5_allSolos 5 = .ok (.aload_n 0, 1) := by decide +kernel
theorem dX5_allSolos_6 : decode cX5_allSolos 6 = .ok (.getfield 10, 3) := by decide +kernel
theorem dX5_allSolos_9 : decode cX5_allSolos 9 = .ok (.getfield 69, 3) := by decide +kernel
theorem dX5_allSolos_12 : decode cX5_allSolos 12 = .ok (.if_icmp .ge 24, 3) := by decide +kernel
theorem dX5_allSolos_15 : decode cX5_allSolos 15 = .ok (.iload_n 1, 1) := by decide +kernel
theorem dX5_allSolos_16 : decode cX5_allSolos 16 = .ok (.aload_n 0, 1) := by decide +kernel
theorem dX5_allSolos_17 : decode cX5_allSolos 17 = .ok (.getfield 10, 3) := by decide +kernel
theorem dX5_allSolos_20 : decode cX5_allSolos 20 = .ok (.getfield 72, 3) := by decide +kernel
theorem dX5_allSolos_23 : decode cX5_allSolos 23 = .ok (.iload_n 2, 1) := by decide +kernel
theorem dX5_allSolos_24 : decode cX5_allSolos 24 = .ok (.aaload, 1) := by decide +kernel
theorem dX5_allSolos_25 : decode cX5_allSolos 25 = .ok (.invokevirtual 212, 3) := by decide +kernel
theorem dX5_allSolos_28 : decode cX5_allSolos 28 = .ok (.iadd, 1) := by decide +kernel
theorem dX5_allSolos_29 : decode cX5_allSolos 29 = .ok (.istore_n 1, 1) := by decide +kernel
theorem dX5_allSolos_30 : decode cX5_allSolos 30 = .ok (.iinc 2 1, 3) := by decide +kernel
theorem dX5_allSolos_33 : decode cX5_allSolos 33 = .ok (.goto (-29), 3) := by decide +kernel
theorem dX5_allSolos_36 : decode cX5_allSolos 36 = .ok (.iload_n 1, 1) := by decide +kernel
theorem dX5_allSolos_37 : decode cX5_allSolos 37 = .ok (.ireturn, 1) := by decide +kernel
theorem dX5_allSteps_0 : decode cX5_allSteps 0 = .ok (.aload_n 0, 1) := by decide +kernel
theorem dX5_allSteps_1 : decode cX5_allSteps 1 = .ok (.getfield 38, 3) := by decide +kernel
theorem dX5_allSteps_4 : decode cX5_allSteps 4 = .ok (.aload_n 0, 1) := by decide +kernel
theorem dX5_allSteps_5 : decode cX5_allSteps 5 = .ok (.getfield 10, 3) := by decide +kernel
theorem dX5_allSteps_8 : decode cX5_allSteps 8 = .ok (.aload_n 0, 1) := by decide +kernel
theorem dX5_allSteps_9 : decode cX5_allSteps 9 = .ok (.getfield 10, 3) := by decide +kernel
theorem dX5_allSteps_12 : decode cX5_allSteps 12 = .ok (.getfield 69, 3) := by decide +kernel
theorem dX5_allSteps_15 : decode cX5_allSteps 15 = .ok (.iconst 1, 1) := by decide +kernel
theorem dX5_allSteps_16 : decode cX5_allSteps 16 = .ok (.isub, 1) := by decide +kernel
theorem dX5_allSteps_17 : decode cX5_allSteps 17 = .ok (.iconst (-1), 1) := by decide +kernel
theorem dX5_allSteps_18 : decode cX5_allSteps 18 = .ok (.invokevirtual 143, 3) := by decide +kernel
theorem dX5_allSteps_21 : decode cX5_allSteps 21 = .ok (.iconst 0, 1) := by decide +kernel
theorem dX5_allSteps_22 : decode cX5_allSteps 22 = .ok (.istore_n 1, 1) := by decide +kernel
theorem dX5_allSteps_23 : decode cX5_allSteps 23 = .ok (.iconst 0, 1) := by decide +kernel
theorem dX5_allSteps_24 : decode cX5_allSteps 24 = .ok (.istore_n 2, 1) := by decide +kernel
theorem dX5_allSteps_25 : decode cX5_allSteps 25 = .ok (.iload_n 2, 1) := by decide +kernel
theorem dX5_allSteps_26 : decode cX5_allSteps 26 = .ok (.aload_n 0, 1) := by decide +kernel
theorem dX5_allSteps_27 : decode cX5_allSteps 27 = .ok (.getfield 10, 3) := by decide +kernel
theorem dX5_allSteps_30 : decode cX5_allSteps 30 = .ok (.getfield 69, 3) := by decide +kernel
theorem dX5_allSteps_33 : decode cX5_allSteps 33 = .ok (.if_icmp .ge 33, 3) := by decide +kernel
theorem dX5_allSteps_36 : decode cX5_allSteps 36 = .ok (.aload_n 0, 1) := by decide +kernel
theorem dX5_allSteps_37 : decode cX5_allSteps 37 = .ok (.getfield 38, 3) := by decide +kernel
theorem dX5_allSteps_40 : decode cX5_allSteps 40 = .ok (.getfield 147, 3) := by decide +kernel
theorem dX5_allSteps_43 : decode cX5_allSteps 43 = .ok (.iload_n 2, 1) := by decide +kernel
theorem dX5_allSteps_44 : decode cX5_allSteps 44 = .ok (.baload, 1) := by decide +kernel
theorem dX5_allSteps_45 : decode cX5_allSteps 45 = .ok (.ifCond .eq 15, 3) := by decide +kernel
theorem dX5_allSteps_48 : decode cX5_allSteps 48 = .ok (.iload_n 1, 1) := by decide +kernel
theorem dX5_allSteps_49 : decode cX5_allSteps 49 = .ok (.aload_n 0, 1) := by decide +kernel
theorem dX5_allSteps_50 : decode cX5_allSteps 50 = .ok (.getfield 38, 3) := by decide +kernel
theorem dX5_allSteps_53 : decode cX5_allSteps 53 = .ok (.getfield 157, 3) := by decide +kernel
theorem dX5_allSteps_56 : decode cX5_allSteps 56 = .ok (.iload_n 2, 1) := by decide +kernel
theorem dX5_allSteps_57 : decode cX5_allSteps 57 = .ok (.iaload, 1) := by decide +kernel
theorem dX5_allSteps_58 : decode cX5_allSteps 58 = .ok (.iadd, 1) := by decide +kernel
theorem dX5_allSteps_59 : decode cX5_allSteps 59 = .ok (.istore_n 1, 1) := by decide +kernel
theorem dX5_allSteps_60 : decode cX5_allSteps 60 = .ok (.iinc 2 1, 3) := by decide +kernel
theorem dX5_allSteps_63 : decode cX5_allSteps 63 = .ok (.goto (-38), 3) := by decide +kernel
theorem dX5_allSteps_66 : decode cX5_allSteps 66 = .ok (.iload_n 1, 1) := by decide +kernel
theorem dX5_allSteps_67 : decode cX5_allSteps 67 = .ok (.ireturn, 1) := by decide +kernel
