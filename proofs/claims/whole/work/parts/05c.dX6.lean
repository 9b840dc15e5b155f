theorem dX6_set_0 : decode cX6_set 0 = .ok (.aload_n 0, 1) := by decide +kernel
theorem dX6_set_1 : decode cX6_set 1 = .ok (.iload_n 1, 1) := by decide +kernel
theorem dX6_set_2 : decode cX6_set 2 = .ok (.invokevirtual 61, 3) := by decide +kernel
theorem dX6_set_5 : decode cX6_set 5 = .ok (.ifCond .eq 11, 3) := by decide +kernel
theorem dX6_set_8 : decode cX6_set 8 = .ok (.aload_n 0, 1) := by decide +kernel
theorem dX6_set_9 : decode cX6_set 9 = .ok (.iload_n 2, 1) := by decide +kernel
theorem dX6_set_10 : decode cX6_set 10 = .ok (.invokevirtual 71, 3) := by decide +kernel
theorem dX6_set_13 : decode cX6_set 13 = .ok (.ifCond .ne 5, 3) := by decide +kernel
theorem dX6_set_16 : decode cX6_set 16 = .ok (.iconst (-1), 1) := by decide +kernel
theorem dX6_set_17 : decode cX6_set 17 = .ok (.ireturn, 1) := by decide +kernel
theorem dX6_set_18 : decode cX6_set 18 = .ok (.aload_n 0, 1) := by decide +kernel
theorem dX6_set_19 : decode cX6_set 19 = .ok (.iload_n 2, 1) := by decide +kernel
theorem dX6_set_20 : decode cX6_set 20 = .ok (.invokevirtual 124, 3) := by decide +kernel
theorem dX6_set_23 : decode cX6_set 23 = .ok (.ifCond .eq 6, 3) := by decide +kernel
theorem dX6_set_26 : decode cX6_set 26 = .ok (.bipush (-5), 2) := by decide +kernel
theorem dX6_set_28 : decode cX6_set 28 = .ok (.ireturn, 1) := by decide +kernel
theorem dX6_set_29 : decode cX6_set 29 = .ok (.aload_n 0, 1) := by decide +kernel
theorem dX6_set_30 : decode cX6_set 30 = .ok (.invokevirtual 148, 3) := by decide +kernel
theorem dX6_set_33 : decode cX6_set 33 = .ok (.aload_n 0, 1) := by decide +kernel
theorem dX6_set_34 : decode cX6_set 34 = .ok (.getfield 35, 3) := by decide +kernel
theorem dX6_set_37 : decode cX6_set 37 = .ok (.iload_n 1, 1) := by decide +kernel
theorem dX6_set_38 : decode cX6_set 38 = .ok (.baload, 1) := by decide +kernel
theorem dX6_set_39 : decode cX6_set 39 = .ok (.ifCond .eq 17, 3) := by decide +kernel
theorem dX6_set_42 : decode cX6_set 42 = .ok (.aload_n 0, 1) := by decide +kernel
theorem dX6_set_43 : decode cX6_set 43 = .ok (.getfield 32, 3) := by decide +kernel
theorem dX6_set_46 : decode cX6_set 46 = .ok (.bipush 6, 2) := by decide +kernel
theorem dX6_set_48 : decode cX6_set 48 = .ok (.iload_n 1, 1) := by decide +kernel
theorem dX6_set_49 : decode cX6_set 49 = .ok (.imul, 1) := by decide +kernel
theorem dX6_set_50 : decode cX6_set 50 = .ok (.iload_n 2, 1) := by decide +kernel
theorem dX6_set_51 : decode cX6_set 51 = .ok (.iadd, 1) := by decide +kernel
theorem dX6_set_52 : decode cX6_set 52 = .ok (.iaload, 1) := by decide +kernel
theorem dX6_set_53 : decode cX6_set 53 = .ok (.goto 5, 3) := by decide +kernel
theorem dX6_set_56 : decode cX6_set 56 = .ok (.bipush (-3), 2) := by decide +kernel
theorem dX6_set_58 : decode cX6_set 58 = .ok (.ireturn, 1) := by decide +kernel
theorem dX6_steps_0 : decode cX6_steps 0 = .ok (.aload_n 0, 1) := by decide +kernel
theorem dX6_steps_1 : decode cX6_steps 1 = .ok (.iload_n 1, 1) := by decide +kernel
theorem dX6_steps_2 : decode cX6_steps 2 = .ok (.invokevirtual 61, 3) := by decide +kernel
theorem dX6_steps_5 : decode cX6_steps 5 = .ok (.ifCond .eq 15, 3) := by decide +kernel
theorem dX6_steps_8 : decode cX6_steps 8 = .ok (.iload_n 2, 1) := by decide +kernel
theorem dX6_steps_9 : decode cX6_steps 9 = .ok (.i2l, 1) := by decide +kernel
theorem dX6_steps_10 : decode cX6_steps 10 = .ok (.lconst 0, 1) := by decide +kernel
theorem dX6_steps_11 : decode cX6_steps 11 = .ok (.ldc2_w 108, 3) := by decide +kernel
theorem dX6_steps_14 : decode cX6_steps 14 = .ok (.invokestatic 57, 3) := by decide +kernel
theorem dX6_steps_17 : decode cX6_steps 17 = .ok (.ifCond .ne 5, 3) := by decide +kernel
theorem dX6_steps_20 : decode cX6_steps 20 = .ok (.iconst (-1), 1) := by decide +kernel
theorem dX6_steps_21 : decode cX6_steps 21 = .ok (.ireturn, 1) := by decide +kernel
theorem dX6_steps_22 : decode cX6_steps 22 = .ok (.aload_n 0, 1) := by decide +kernel
theorem dX6_steps_23 : decode cX6_steps 23 = .ok (.invokevirtual 148, 3) := by decide +kernel
theorem dX6_steps_26 : decode cX6_steps 26 = .ok (.aload_n 0, 1) := by decide +kernel
theorem dX6_steps_27 : decode cX6_steps 27 = .ok (.getfield 35, 3) := by decide +kernel
theorem dX6_steps_30 : decode cX6_steps 30 = .ok (.iload_n 1, 1) := by decide +kernel
theorem dX6_steps_31 : decode cX6_steps 31 = .ok (.baload, 1) := by decide +kernel
theorem dX6_steps_32 : decode cX6_steps 32 = .ok (.ifCond .ne 6, 3) := by decide +kernel
theorem dX6_steps_35 : decode cX6_steps 35 = .ok (.bipush (-3), 2) := by decide +kernel
theorem dX6_steps_37 : decode cX6_steps 37 = .ok (.ireturn, 1) := by decide +kernel
theorem dX6_steps_38 : decode cX6_steps 38 = .ok (.iload_n 2, 1) := by decide +kernel
theorem dX6_steps_39 : decode cX6_steps 39 = .ok (.ifCond .ne 12, 3) := by decide +kernel
theorem dX6_steps_42 : decode cX6_steps 42 = .ok (.aload_n 0, 1) := by decide +kernel
theorem dX6_steps_43 : decode cX6_steps 43 = .ok (.getfield 39, 3) := by decide +kernel
theorem dX6_steps_46 : decode cX6_steps 46 = .ok (.iload_n 1, 1) := by decide +kernel
theorem dX6_steps_47 : decode cX6_steps 47 = .ok (.iaload, 1) := by decide +kernel
theorem dX6_steps_48 : decode cX6_steps 48 = .ok (.goto 27, 3) := by decide +kernel
theorem dX6_steps_51 : decode cX6_steps 51 = .ok (.iload_n 2, 1) := by decide +kernel
theorem dX6_steps_52 : decode cX6_steps 52 = .ok (.iconst 1, 1) := by decide +kernel
theorem dX6_steps_53 : decode cX6_steps 53 = .ok (.if_icmp .ne 12, 3) := by decide +kernel
theorem dX6_steps_56 : decode cX6_steps 56 = .ok (.aload_n 0, 1) := by decide +kernel
theorem dX6_steps_57 : decode cX6_steps 57 = .ok (.getfield 42, 3) := by decide +kernel
theorem dX6_steps_60 : decode cX6_steps 60 = .ok (.iload_n 1, 1) := by decide +kernel
theorem dX6_steps_61 : decode cX6_steps 61 = .ok (.iaload, 1) := by decide +kernel
theorem dX6_steps_62 : decode cX6_steps 62 = .ok (.goto 13, 3) := by decide +kernel
theorem dX6_steps_65 : decode cX6_steps 65 = .ok (.aload_n 0, 1) := by decide +kernel
theorem dX6_steps_66 : decode cX6_steps 66 = .ok (.iload_n 1, 1) := by decide +kernel
theorem dX6_steps_67 : decode cX6_steps 67 = .ok (.invokevirtual 65, 3) := by decide +kernel
theorem dX6_steps_70 : decode cX6_steps 70 = .ok (.aload_n 0, 1) := by decide +kernel
theorem dX6_steps_71 : decode cX6_steps 71 = .ok (.invokevirtual 151, 3) := by decide +kernel
theorem dX6_steps_74 : decode cX6_steps 74 = .ok (.isub, 1) := by decide +kernel
theorem dX6_steps_75 : decode cX6_steps 75 = .ok (.ireturn, 1) := by decide +kernel
theorem dX6_present_0 : decode cX6_present 0 = .ok (.iconst 0, 1) := by decide +kernel
theorem dX6_present_1 : decode cX6_present 1 = .ok (.istore_n 1, 1) := by decide +kernel
theorem dX6_present_2 : decode cX6_present 2 = .ok (.iconst 0, 1) := by decide +kernel
theorem dX6_present_3 : decode cX6_present 3 = .ok (.istore_n 2, 1) := by decide +kernel
theorem dX6_present_4 : decode cX6_present 4 = .ok (.iload_n 2, 1) := by decide +kernel
theorem dX6_present_5 : decode cX6_present 5 = .ok (.aload_n 0, 1) := by decide +kernel
theorem dX6_present_6 : decode cX6_present 6 = .ok (.getfield 7, 3) := by decide +kernel
theorem dX6_present_9 : decode cX6_present 9 = .ok (.iconst 0, 1) := by decide +kernel
theorem dX6_present_10 : decode cX6_present 10 = .ok (.iaload, 1) := by decide +kernel
theorem dX6_present_11 : decode cX6_present 11 = .ok (.if_icmp .ge 25, 3) := by decide +kernel
theorem dX6_present_14 : decode cX6_present 14 = .ok (.iload_n 1, 1) := by decide +kernel
theorem dX6_present_15 : decode cX6_present 15 = .ok (.aload_n 0, 1) := by decide +kernel
theorem dX6_present_16 : decode cX6_present 16 = .ok (.iload_n 2, 1) := by decide +kernel
theorem dX6_present_17 : decode cX6_present 17 = .ok (.invokevirtual 124, 3) := by decide +kernel
theorem dX6_present_20 : decode cX6_present 20 = .ok (.ifCond .eq 7, 3) := by decide +kernel
theorem dX6_present_23 : decode cX6_present 23 = .ok (.iconst 0, 1) := by decide +kernel
theorem dX6_present_24 : decode cX6_present 24 = .ok (.goto 4, 3) := by decide +kernel
theorem dX6_present_27 : decode cX6_present 27 = .ok (.iconst 1, 1) := by decide +kernel
theorem dX6_present_28 : decode cX6_present 28 = .ok (.iadd, 1) := by decide +kernel
theorem dX6_present_29 : decode cX6_present 29 = .ok (.istore_n 1, 1) := by decide +kernel
theorem dX6_present_30 : decode cX6_present 30 = .ok (.iinc 2 1, 3) := by decide +kernel
theorem dX6_present_33 : decode cX6_present 33 = .ok (.goto (-29), 3) := by decide +kernel
theorem dX6_present_36 : decode cX6_present 36 = .ok (.iload_n 1, 1) := by decide +kernel
theorem dX6_present_37 : decode cX6_present 37 = .ok (.ireturn, 1) := by decide +kernel
theorem dX6_divisor_0 : decode cX6_divisor 0 = .ok (.iload_n 0, 1) := by decide +kernel
theorem dX6_divisor_1 : decode cX6_divisor 1 = .ok (.istore_n 2, 1) := by decide +kernel
theorem dX6_divisor_2 : decode cX6_divisor 2 = .ok (.iload_n 1, 1) := by decide +kernel
theorem dX6_divisor_3 : decode cX6_divisor 3 = .ok (.istore_n 3, 1) := by decide +kernel
theorem dX6_divisor_4 : decode cX6_divisor 4 = .ok (.iload_n 3, 1) := by decide +kernel
theorem dX6_divisor_5 : decode cX6_divisor 5 = .ok (.ifCond .eq 16, 3) := by decide +kernel
theorem dX6_divisor_8 : decode cX6_divisor 8 = .ok (.iload_n 2, 1) := by decide +kernel
theorem dX6_divisor_9 : decode cX6_divisor 9 = .ok (.iload_n 3, 1) := by decide +kernel
theorem dX6_divisor_10 : decode cX6_divisor 10 = .ok (.irem, 1) := by decide +kernel
theorem dX6_divisor_11 : decode cX6_divisor 11 = .ok (.istore 4, 2) := by decide +kernel
theorem dX6_divisor_13 : decode cX6_divisor 13 = .ok (.iload_n 3, 1) := by decide +kernel
theorem dX6_divisor_14 : decode cX6_divisor 14 = .ok (.istore_n 2, 1) := by decide +kernel
theorem dX6_divisor_15 : decode cX6_divisor 15 = .ok (.iload 4, 2) := by decide +kernel
theorem dX6_divisor_17 : decode cX6_divisor 17 = .ok (.istore_n 3, 1) := by decide +kernel
theorem dX6_divisor_18 : decode cX6_divisor 18 = .ok (.goto (-14), 3) := by decide +kernel
theorem dX6_divisor_21 : decode cX6_divisor 21 = .ok (.iload_n 2, 1) := by decide +kernel
theorem dX6_divisor_22 : decode cX6_divisor 22 = .ok (.ireturn, 1) := by decide +kernel
theorem dX6_way_0 : decode cX6_way 0 = .ok (.aload_n 0, 1) := by decide +kernel
theorem dX6_way_1 : decode cX6_way 1 = .ok (.iload_n 1, 1) := by decide +kernel
theorem dX6_way_2 : decode cX6_way 2 = .ok (.invokevirtual 61, 3) := by decide +kernel
theorem dX6_way_5 : decode cX6_way 5 = .ok (.ifCond .eq 48, 3) := by decide +kernel
theorem dX6_way_8 : decode cX6_way 8 = .ok (.iload_n 1, 1) := by decide +kernel
theorem dX6_way_9 : decode cX6_way 9 = .ok (.ifCond .eq 44, 3) := by decide +kernel
theorem dX6_way_12 : decode cX6_way 12 = .ok (.aload_n 0, 1) := by decide +kernel
theorem dX6_way_13 : decode cX6_way 13 = .ok (.iload_n 2, 1) := by decide +kernel
theorem dX6_way_14 : decode cX6_way 14 = .ok (.invokevirtual 71, 3) := by decide +kernel
theorem dX6_way_17 : decode cX6_way 17 = .ok (.ifCond .eq 36, 3) := by decide +kernel
theorem dX6_way_20 : decode cX6_way 20 = .ok (.iload_n 3, 1) := by decide +kernel
theorem dX6_way_21 : decode cX6_way 21 = .ok (.i2l, 1) := by decide +kernel
theorem dX6_way_22 : decode cX6_way 22 = .ok (.lconst 0, 1) := by decide +kernel
theorem dX6_way_23 : decode cX6_way 23 = .ok (.iconst 2, 1) := by decide +kernel
theorem dX6_way_24 : decode cX6_way 24 = .ok (.aload_n 0, 1) := by decide +kernel
theorem dX6_way_25 : decode cX6_way 25 = .ok (.getfield 16, 3) := by decide +kernel
theorem dX6_way_28 : decode cX6_way 28 = .ok (.iconst 2, 1) := by decide +kernel
theorem dX6_way_29 : decode cX6_way 29 = .ok (.iload_n 1, 1) := by decide +kernel
theorem dX6_way_30 : decode cX6_way 30 = .ok (.imul, 1) := by decide +kernel
theorem dX6_way_31 : decode cX6_way 31 = .ok (.iaload, 1) := by decide +kernel
theorem dX6_way_32 : decode cX6_way 32 = .ok (.imul, 1) := by decide +kernel
theorem dX6_way_33 : decode cX6_way 33 = .ok (.i2l, 1) := by decide +kernel
theorem dX6_way_34 : decode cX6_way 34 = .ok (.invokestatic 57, 3) := by decide +kernel
theorem dX6_way_37 : decode cX6_way 37 = .ok (.ifCond .eq 16, 3) := by decide +kernel
theorem dX6_way_40 : decode cX6_way 40 = .ok (.iload 4, 2) := by decide +kernel
theorem dX6_way_42 : decode cX6_way 42 = .ok (.i2l, 1) := by decide +kernel
theorem dX6_way_43 : decode cX6_way 43 = .ok (.lconst 0, 1) := by decide +kernel
theorem dX6_way_44 : decode cX6_way 44 = .ok (.ldc2_w 104, 3) := by decide +kernel
theorem dX6_way_47 : decode cX6_way 47 = .ok (.invokestatic 57, 3) := by decide +kernel
theorem dX6_way_50 : decode cX6_way 50 = .ok (.ifCond .ne 5, 3) := by decide +kernel
theorem dX6_way_53 : decode cX6_way 53 = .ok (.iconst (-1), 1) := by decide +kernel
theorem dX6_way_54 : decode cX6_way 54 = .ok (.ireturn, 1) := by decide +kernel
theorem dX6_way_55 : decode cX6_way 55 = .ok (.aload_n 0, 1) := by decide +kernel
theorem dX6_way_56 : decode cX6_way 56 = .ok (.iload_n 2, 1) := by decide +kernel
theorem dX6_way_57 : decode cX6_way 57 = .ok (.invokevirtual 124, 3) := by decide +kernel
theorem dX6_way_60 : decode cX6_way 60 = .ok (.ifCond .eq 6, 3) := by decide +kernel
theorem dX6_way_63 : decode cX6_way 63 = .ok (.bipush (-5), 2) := by decide +kernel
theorem dX6_way_65 : decode cX6_way 65 = .ok (.ireturn, 1) := by decide +kernel
theorem dX6_way_66 : decode cX6_way 66 = .ok (.aload_n 0, 1) := by decide +kernel
theorem dX6_way_67 : decode cX6_way 67 = .ok (.invokevirtual 148, 3) := by decide +kernel
theorem dX6_way_70 : decode cX6_way 70 = .ok (.aload_n 0, 1) := by decide +kernel
theorem dX6_way_71 : decode cX6_way 71 = .ok (.getfield 35, 3) := by decide +kernel
theorem dX6_way_74 : decode cX6_way 74 = .ok (.iload_n 1, 1) := by decide +kernel
theorem dX6_way_75 : decode cX6_way 75 = .ok (.baload, 1) := by decide +kernel
theorem dX6_way_76 : decode cX6_way 76 = .ok (.ifCond .ne 6, 3) := by decide +kernel
theorem dX6_way_79 : decode cX6_way 79 = .ok (.bipush (-3), 2) := by decide +kernel
theorem dX6_way_81 : decode cX6_way 81 = .ok (.ireturn, 1) := by decide +kernel
theorem dX6_way_82 : decode cX6_way 82 = .ok (.aload_n 0, 1) := by decide +kernel
theorem dX6_way_83 : decode cX6_way 83 = .ok (.getfield 32, 3) := by decide +kernel
theorem dX6_way_86 : decode cX6_way 86 = .ok (.bipush 6, 2) := by decide +kernel
theorem dX6_way_88 : decode cX6_way 88 = .ok (.iload_n 1, 1) := by decide +kernel
theorem dX6_way_89 : decode cX6_way 89 = .ok (.iconst 1, 1) := by decide +kernel
theorem dX6_way_90 : decode cX6_way 90 = .ok (.isub, 1) := by decide +kernel
theorem dX6_way_91 : decode cX6_way 91 = .ok (.imul, 1) := by decide +kernel
theorem dX6_way_92 : decode cX6_way 92 = .ok (.iload_n 2, 1) := by decide +kernel
theorem dX6_way_93 : decode cX6_way 93 = .ok (.iadd, 1) := by decide +kernel
theorem dX6_way_94 : decode cX6_way 94 = .ok (.iaload, 1) := by decide +kernel
theorem dX6_way_95 : decode cX6_way 95 = .ok (.istore 5, 2) := by decide +kernel
theorem dX6_way_97 : decode cX6_way 97 = .ok (.aload_n 0, 1) := by decide +kernel
theorem dX6_way_98 : decode cX6_way 98 = .ok (.getfield 32, 3) := by decide +kernel
theorem dX6_way_101 : decode cX6_way 101 = .ok (.bipush 6, 2) := by decide +kernel
theorem dX6_way_103 : decode cX6_way 103 = .ok (.iload_n 1, 1) := by decide +kernel
theorem dX6_way_104 : decode cX6_way 104 = .ok (.imul, 1) := by decide +kernel
theorem dX6_way_105 : decode cX6_way 105 = .ok (.iload_n 2, 1) := by decide +kernel
theorem dX6_way_106 : decode cX6_way 106 = .ok (.iadd, 1) := by decide +kernel
theorem dX6_way_107 : decode cX6_way 107 = .ok (.iaload, 1) := by decide +kernel
theorem dX6_way_108 : decode cX6_way 108 = .ok (.istore 6, 2) := by decide +kernel
theorem dX6_way_110 : decode cX6_way 110 = .ok (.iload 4, 2) := by decide +kernel
theorem dX6_way_112 : decode cX6_way 112 = .ok (.iconst 2, 1) := by decide +kernel
theorem dX6_way_113 : decode cX6_way 113 = .ok (.if_icmp .ge 15, 3) := by decide +kernel
theorem dX6_way_116 : decode cX6_way 116 = .ok (.aload_n 0, 1) := by decide +kernel
theorem dX6_way_117 : decode cX6_way 117 = .ok (.iload_n 1, 1) := by decide +kernel
theorem dX6_way_118 : decode cX6_way 118 = .ok (.iconst 1, 1) := by decide +kernel
theorem dX6_way_119 : decode cX6_way 119 = .ok (.isub, 1) := by decide +kernel
theorem dX6_way_120 : decode cX6_way 120 = .ok (.iload 5, 2) := by decide +kernel
theorem dX6_way_122 : decode cX6_way 122 = .ok (.invokevirtual 110, 3) := by decide +kernel
theorem dX6_way_125 : decode cX6_way 125 = .ok (.goto 12, 3) := by decide +kernel
theorem dX6_way_128 : decode cX6_way 128 = .ok (.aload_n 0, 1) := by decide +kernel
theorem dX6_way_129 : decode cX6_way 129 = .ok (.iload_n 1, 1) := by decide +kernel
theorem dX6_way_130 : decode cX6_way 130 = .ok (.iconst 1, 1) := by decide +kernel
theorem dX6_way_131 : decode cX6_way 131 = .ok (.isub, 1) := by decide +kernel
theorem dX6_way_132 : decode cX6_way 132 = .ok (.iload 5, 2) := by decide +kernel
theorem dX6_way_134 : decode cX6_way 134 = .ok (.invokevirtual 117, 3) := by decide +kernel
theorem dX6_way_137 : decode cX6_way 137 = .ok (.istore 7, 2) := by decide +kernel
theorem dX6_way_139 : decode cX6_way 139 = .ok (.iload 4, 2) := by decide +kernel
theorem dX6_way_141 : decode cX6_way 141 = .ok (.iconst 2, 1) := by decide +kernel
theorem dX6_way_142 : decode cX6_way 142 = .ok (.if_icmp .ge 13, 3) := by decide +kernel
theorem dX6_way_145 : decode cX6_way 145 = .ok (.aload_n 0, 1) := by decide +kernel
theorem dX6_way_146 : decode cX6_way 146 = .ok (.iload_n 1, 1) := by decide +kernel
theorem dX6_way_147 : decode cX6_way 147 = .ok (.iload 6, 2) := by decide +kernel
theorem dX6_way_149 : decode cX6_way 149 = .ok (.invokevirtual 110, 3) := by decide +kernel
theorem dX6_way_152 : decode cX6_way 152 = .ok (.goto 10, 3) := by decide +kernel
theorem dX6_way_155 : decode cX6_way 155 = .ok (.aload_n 0, 1) := by decide +kernel
theorem dX6_way_156 : decode cX6_way 156 = .ok (.iload_n 1, 1) := by decide +kernel
theorem dX6_way_157 : decode cX6_way 157 = .ok (.iload 6, 2) := by decide +kernel
theorem dX6_way_159 : decode cX6_way 159 = .ok (.invokevirtual 117, 3) := by decide +kernel
theorem dX6_way_162 : decode cX6_way 162 = .ok (.istore 8, 2) := by decide +kernel
theorem dX6_way_164 : decode cX6_way 164 = .ok (.iconst 2, 1) := by decide +kernel
theorem dX6_way_165 : decode cX6_way 165 = .ok (.aload_n 0, 1) := by decide +kernel
theorem dX6_way_166 : decode cX6_way 166 = .ok (.getfield 16, 3) := by decide +kernel
theorem dX6_way_169 : decode cX6_way 169 = .ok (.iconst 2, 1) := by decide +kernel
theorem dX6_way_170 : decode cX6_way 170 = .ok (.iload_n 1, 1) := by decide +kernel
theorem dX6_way_171 : decode cX6_way 171 = .ok (.imul, 1) := by decide +kernel
theorem dX6_way_172 : decode cX6_way 172 = .ok (.iaload, 1) := by decide +kernel
theorem dX6_way_173 : decode cX6_way 173 = .ok (.imul, 1) := by decide +kernel
theorem dX6_way_174 : decode cX6_way 174 = .ok (.istore 9, 2) := by decide +kernel
theorem dX6_way_176 : decode cX6_way 176 = .ok (.iload 9, 2) := by decide +kernel
theorem dX6_way_178 : decode cX6_way 178 = .ok (.iload 7, 2) := by decide +kernel
theorem dX6_way_180 : decode cX6_way 180 = .ok (.imul, 1) := by decide +kernel
theorem dX6_way_181 : decode cX6_way 181 = .ok (.iload_n 3, 1) := by decide +kernel
theorem dX6_way_182 : decode cX6_way 182 = .ok (.iload 8, 2) := by decide +kernel
theorem dX6_way_184 : decode cX6_way 184 = .ok (.iload 7, 2) := by decide +kernel
theorem dX6_way_186 : decode cX6_way 186 = .ok (.isub, 1) := by decide +kernel
theorem dX6_way_187 : decode cX6_way 187 = .ok (.imul, 1) := by decide +kernel
theorem dX6_way_188 : decode cX6_way 188 = .ok (.iadd, 1) := by decide +kernel
theorem dX6_way_189 : decode cX6_way 189 = .ok (.istore 10, 2) := by decide +kernel
theorem dX6_way_191 : decode cX6_way 191 = .ok (.iload 10, 2) := by decide +kernel
theorem dX6_way_193 : decode cX6_way 193 = .ok (.iload 9, 2) := by decide +kernel
theorem dX6_way_195 : decode cX6_way 195 = .ok (.invokestatic 155, 3) := by decide +kernel
theorem dX6_way_198 : decode cX6_way 198 = .ok (.istore 11, 2) := by decide +kernel
theorem dX6_way_200 : decode cX6_way 200 = .ok (.iload 4, 2) := by decide +kernel
theorem dX6_way_202 : decode cX6_way 202 = .ok (.iconst 2, 1) := by decide +kernel
theorem dX6_way_203 : decode cX6_way 203 = .ok (.irem, 1) := by decide +kernel
theorem dX6_way_204 : decode cX6_way 204 = .ok (.ifCond .ne 11, 3) := by decide +kernel
theorem dX6_way_207 : decode cX6_way 207 = .ok (.iload 10, 2) := by decide +kernel
theorem dX6_way_209 : decode cX6_way 209 = .ok (.iload 11, 2) := by decide +kernel
theorem dX6_way_211 : decode cX6_way 211 = .ok (.idiv, 1) := by decide +kernel
theorem dX6_way_212 : decode cX6_way 212 = .ok (.goto 8, 3) := by decide +kernel
theorem dX6_way_215 : decode cX6_way 215 = .ok (.iload 9, 2) := by decide +kernel
theorem dX6_way_217 : decode cX6_way 217 = .ok (.iload 11, 2) := by decide +kernel
theorem dX6_way_219 : decode cX6_way 219 = .ok (.idiv, 1) := by decide +kernel
theorem dX6_way_220 : decode cX6_way 220 = .ok (.ireturn, 1) := by decide +kernel
theorem dX6_closest_0 : decode cX6_closest 0 = .ok (.aload_n 0, 1) := by decide +kernel
theorem dX6_closest_1 : decode cX6_closest 1 = .ok (.iload_n 1, 1) := by decide +kernel
theorem dX6_closest_2 : decode cX6_closest 2 = .ok (.invokevirtual 61, 3) := by decide +kernel
theorem dX6_closest_5 : decode cX6_closest 5 = .ok (.ifCond .eq 28, 3) := by decide +kernel
theorem dX6_closest_8 : decode cX6_closest 8 = .ok (.iload_n 1, 1) := by decide +kernel
theorem dX6_closest_9 : decode cX6_closest 9 = .ok (.ifCond .eq 24, 3) := by decide +kernel
theorem dX6_closest_12 : decode cX6_closest 12 = .ok (.aload_n 0, 1) := by decide +kernel
theorem dX6_closest_13 : decode cX6_closest 13 = .ok (.iload_n 2, 1) := by decide +kernel
theorem dX6_closest_14 : decode cX6_closest 14 = .ok (.invokevirtual 71, 3) := by decide +kernel
theorem dX6_closest_17 : decode cX6_closest 17 = .ok (.ifCond .eq 16, 3) := by decide +kernel
theorem dX6_closest_20 : decode cX6_closest 20 = .ok (.aload_n 0, 1) := by decide +kernel
theorem dX6_closest_21 : decode cX6_closest 21 = .ok (.iload_n 3, 1) := by decide +kernel
theorem dX6_closest_22 : decode cX6_closest 22 = .ok (.invokevirtual 71, 3) := by decide +kernel
theorem dX6_closest_25 : decode cX6_closest 25 = .ok (.ifCond .eq 8, 3) := by decide +kernel
theorem dX6_closest_28 : decode cX6_closest 28 = .ok (.iload_n 2, 1) := by decide +kernel
theorem dX6_closest_29 : decode cX6_closest 29 = .ok (.iload_n 3, 1) := by decide +kernel
theorem dX6_closest_30 : decode cX6_closest 30 = .ok (.if_icmp .ne 5, 3) := by decide +kernel
theorem dX6_closest_33 : decode cX6_closest 33 = .ok (.iconst (-1), 1) := by decide +kernel
theorem dX6_closest_34 : decode cX6_closest 34 = .ok (.ireturn, 1) := by decide +kernel
theorem dX6_closest_35 : decode cX6_closest 35 = .ok (.aload_n 0, 1) := by decide +kernel
theorem dX6_closest_36 : decode cX6_closest 36 = .ok (.iload_n 2, 1) := by decide +kernel
theorem dX6_closest_37 : decode cX6_closest 37 = .ok (.invokevirtual 124, 3) := by decide +kernel
theorem dX6_closest_40 : decode cX6_closest 40 = .ok (.ifCond .ne 11, 3) := by decide +kernel
theorem dX6_closest_43 : decode cX6_closest 43 = .ok (.aload_n 0, 1) := by decide +kernel
theorem dX6_closest_44 : decode cX6_closest 44 = .ok (.iload_n 3, 1) := by decide +kernel
theorem dX6_closest_45 : decode cX6_closest 45 = .ok (.invokevirtual 124, 3) := by decide +kernel
theorem dX6_closest_48 : decode cX6_closest 48 = .ok (.ifCond .eq 6, 3) := by decide +kernel
theorem dX6_closest_51 : decode cX6_closest 51 = .ok (.bipush (-5), 2) := by decide +kernel
theorem dX6_closest_53 : decode cX6_closest 53 = .ok (.ireturn, 1) := by decide +kernel
theorem dX6_closest_54 : decode cX6_closest 54 = .ok (.aload_n 0, 1) := by decide +kernel
theorem dX6_closest_55 : decode cX6_closest 55 = .ok (.invokevirtual 148, 3) := by decide +kernel
theorem dX6_closest_58 : decode cX6_closest 58 = .ok (.aload_n 0, 1) := by decide +kernel
theorem dX6_closest_59 : decode cX6_closest 59 = .ok (.getfield 35, 3) := by decide +kernel
theorem dX6_closest_62 : decode cX6_closest 62 = .ok (.iload_n 1, 1) := by decide +kernel
theorem dX6_closest_63 : decode cX6_closest 63 = .ok (.baload, 1) := by decide +kernel
theorem dX6_closest_64 : decode cX6_closest 64 = .ok (.ifCond .eq 35, 3) := by decide +kernel
theorem dX6_closest_67 : decode cX6_closest 67 = .ok (.aload_n 0, 1) := by decide +kernel
theorem dX6_closest_68 : decode cX6_closest 68 = .ok (.iload_n 1, 1) := by decide +kernel
theorem dX6_closest_69 : decode cX6_closest 69 = .ok (.iload_n 2, 1) := by decide +kernel
theorem dX6_closest_70 : decode cX6_closest 70 = .ok (.aload_n 0, 1) := by decide +kernel
theorem dX6_closest_71 : decode cX6_closest 71 = .ok (.getfield 32, 3) := by decide +kernel
theorem dX6_closest_74 : decode cX6_closest 74 = .ok (.bipush 6, 2) := by decide +kernel
theorem dX6_closest_76 : decode cX6_closest 76 = .ok (.iload_n 1, 1) := by decide +kernel
theorem dX6_closest_77 : decode cX6_closest 77 = .ok (.imul, 1) := by decide +kernel
theorem dX6_closest_78 : decode cX6_closest 78 = .ok (.iload_n 2, 1) := by decide +kernel
theorem dX6_closest_79 : decode cX6_closest 79 = .ok (.iadd, 1) := by decide +kernel
theorem dX6_closest_80 : decode cX6_closest 80 = .ok (.iaload, 1) := by decide +kernel
theorem dX6_closest_81 : decode cX6_closest 81 = .ok (.iload_n 3, 1) := by decide +kernel
theorem dX6_closest_82 : decode cX6_closest 82 = .ok (.aload_n 0, 1) := by decide +kernel
theorem dX6_closest_83 : decode cX6_closest 83 = .ok (.getfield 32, 3) := by decide +kernel
theorem dX6_closest_86 : decode cX6_closest 86 = .ok (.bipush 6, 2) := by decide +kernel
theorem dX6_closest_88 : decode cX6_closest 88 = .ok (.iload_n 1, 1) := by decide +kernel
theorem dX6_closest_89 : decode cX6_closest 89 = .ok (.imul, 1) := by decide +kernel
theorem dX6_closest_90 : decode cX6_closest 90 = .ok (.iload_n 3, 1) := by decide +kernel
theorem dX6_closest_91 : decode cX6_closest 91 = .ok (.iadd, 1) := by decide +kernel
theorem dX6_closest_92 : decode cX6_closest 92 = .ok (.iaload, 1) := by decide +kernel
theorem dX6_closest_93 : decode cX6_closest 93 = .ok (.invokevirtual 131, 3) := by decide +kernel
theorem dX6_closest_96 : decode cX6_closest 96 = .ok (.goto 5, 3) := by decide +kernel
theorem dX6_closest_99 : decode cX6_closest 99 = .ok (.bipush (-3), 2) := by decide +kernel
theorem dX6_closest_101 : decode cX6_closest 101 = .ok (.ireturn, 1) := by decide +kernel
theorem dX6_late_0 : decode cX6_late 0 = .ok (.aload_n 0, 1) := by decide +kernel
theorem dX6_late_1 : decode cX6_late 1 = .ok (.iload_n 1, 1) := by decide +kernel
theorem dX6_late_2 : decode cX6_late 2 = .ok (.invokevirtual 61, 3) := by decide +kernel
theorem dX6_late_5 : decode cX6_late 5 = .ok (.ifCond .eq 11, 3) := by decide +kernel
theorem dX6_late_8 : decode cX6_late 8 = .ok (.aload_n 0, 1) := by decide +kernel
theorem dX6_late_9 : decode cX6_late 9 = .ok (.iload_n 2, 1) := by decide +kernel
theorem dX6_late_10 : decode cX6_late 10 = .ok (.invokevirtual 71, 3) := by decide +kernel
theorem dX6_late_13 : decode cX6_late 13 = .ok (.ifCond .ne 5, 3) := by decide +kernel
theorem dX6_late_16 : decode cX6_late 16 = .ok (.iconst (-1), 1) := by decide +kernel
theorem dX6_late_17 : decode cX6_late 17 = .ok (.ireturn, 1) := by decide +kernel
theorem dX6_late_18 : decode cX6_late 18 = .ok (.aload_n 0, 1) := by decide +kernel
theorem dX6_late_19 : decode cX6_late 19 = .ok (.iload_n 2, 1) := by decide +kernel
theorem dX6_late_20 : decode cX6_late 20 = .ok (.invokevirtual 124, 3) := by decide +kernel
theorem dX6_late_23 : decode cX6_late 23 = .ok (.ifCond .eq 6, 3) := by decide +kernel
theorem dX6_late_26 : decode cX6_late 26 = .ok (.bipush (-5), 2) := by decide +kernel
theorem dX6_late_28 : decode cX6_late 28 = .ok (.ireturn, 1) := by decide +kernel
theorem dX6_late_29 : decode cX6_late 29 = .ok (.aload_n 0, 1) := by decide +kernel
theorem dX6_late_30 : decode cX6_late 30 = .ok (.invokevirtual 148, 3) := by decide +kernel
theorem dX6_late_33 : decode cX6_late 33 = .ok (.aload_n 0, 1) := by decide +kernel
theorem dX6_late_34 : decode cX6_late 34 = .ok (.getfield 35, 3) := by decide +kernel
theorem dX6_late_37 : decode cX6_late 37 = .ok (.iload_n 1, 1) := by decide +kernel
theorem dX6_late_38 : decode cX6_late 38 = .ok (.baload, 1) := by decide +kernel
theorem dX6_late_39 : decode cX6_late 39 = .ok (.ifCond .ne 6, 3) := by decide +kernel
theorem dX6_late_42 : decode cX6_late 42 = .ok (.bipush (-3), 2) := by decide +kernel
theorem dX6_late_44 : decode cX6_late 44 = .ok (.ireturn, 1) := by decide +kernel
theorem dX6_late_45 : decode cX6_late 45 = .ok (.aload_n 0, 1) := by decide +kernel
theorem dX6_late_46 : decode cX6_late 46 = .ok (.getfield 32, 3) := by decide +kernel
theorem dX6_late_49 : decode cX6_late 49 = .ok (.bipush 6, 2) := by decide +kernel
theorem dX6_late_51 : decode cX6_late 51 = .ok (.iload_n 1, 1) := by decide +kernel
theorem dX6_late_52 : decode cX6_late 52 = .ok (.imul, 1) := by decide +kernel
theorem dX6_late_53 : decode cX6_late 53 = .ok (.iload_n 2, 1) := by decide +kernel
theorem dX6_late_54 : decode cX6_late 54 = .ok (.iadd, 1) := by decide +kernel
theorem dX6_late_55 : decode cX6_late 55 = .ok (.iaload, 1) := by decide +kernel
theorem dX6_late_56 : decode cX6_late 56 = .ok (.istore_n 3, 1) := by decide +kernel
theorem dX6_late_57 : decode cX6_late 57 = .ok (.aload_n 0, 1) := by decide +kernel
theorem dX6_late_58 : decode cX6_late 58 = .ok (.iload_n 1, 1) := by decide +kernel
theorem dX6_late_59 : decode cX6_late 59 = .ok (.iload_n 3, 1) := by decide +kernel
theorem dX6_late_60 : decode cX6_late 60 = .ok (.invokevirtual 110, 3) := by decide +kernel
theorem dX6_late_63 : decode cX6_late 63 = .ok (.aload_n 0, 1) := by decide +kernel
theorem dX6_late_64 : decode cX6_late 64 = .ok (.getfield 7, 3) := by decide +kernel
theorem dX6_late_67 : decode cX6_late 67 = .ok (.iconst 4, 1) := by decide +kernel
theorem dX6_late_68 : decode cX6_late 68 = .ok (.iaload, 1) := by decide +kernel
theorem dX6_late_69 : decode cX6_late 69 = .ok (.isub, 1) := by decide +kernel
theorem dX6_late_70 : decode cX6_late 70 = .ok (.invokestatic 114, 3) := by decide +kernel
theorem dX6_late_73 : decode cX6_late 73 = .ok (.aload_n 0, 1) := by decide +kernel
theorem dX6_late_74 : decode cX6_late 74 = .ok (.iload_n 1, 1) := by decide +kernel
theorem dX6_late_75 : decode cX6_late 75 = .ok (.iload_n 3, 1) := by decide +kernel
theorem dX6_late_76 : decode cX6_late 76 = .ok (.invokevirtual 117, 3) := by decide +kernel
theorem dX6_late_79 : decode cX6_late 79 = .ok (.aload_n 0, 1) := by decide +kernel
theorem dX6_late_80 : decode cX6_late 80 = .ok (.getfield 7, 3) := by decide +kernel
theorem dX6_late_83 : decode cX6_late 83 = .ok (.iconst 5, 1) := by decide +kernel
theorem dX6_late_84 : decode cX6_late 84 = .ok (.iaload, 1) := by decide +kernel
theorem dX6_late_85 : decode cX6_late 85 = .ok (.isub, 1) := by decide +kernel
theorem dX6_late_86 : decode cX6_late 86 = .ok (.invokestatic 114, 3) := by decide +kernel
theorem dX6_late_89 : decode cX6_late 89 = .ok (.iadd, 1) := by decide +kernel
theorem dX6_late_90 : decode cX6_late 90 = .ok (.aload_n 0, 1) := by decide +kernel
theorem dX6_late_91 : decode cX6_late 91 = .ok (.getfield 7, 3) := by decide +kernel
theorem dX6_late_94 : decode cX6_late 94 = .ok (.iconst 3, 1) := by decide +kernel
theorem dX6_late_95 : decode cX6_late 95 = .ok (.iaload, 1) := by decide +kernel
theorem dX6_late_96 : decode cX6_late 96 = .ok (.idiv, 1) := by decide +kernel
theorem dX6_late_97 : decode cX6_late 97 = .ok (.ireturn, 1) := by decide +kernel
theorem dX6_hole_0 : decode cX6_hole 0 = .ok (.aload_n 0, 1) := by decide +kernel
theorem dX6_hole_1 : decode cX6_hole 1 = .ok (.iload_n 1, 1) := by decide +kernel
theorem dX6_hole_2 : decode cX6_hole 2 = .ok (.invokevirtual 71, 3) := by decide +kernel
theorem dX6_hole_5 : decode cX6_hole 5 = .ok (.ifCond .ne 5, 3) := by decide +kernel
theorem dX6_hole_8 : decode cX6_hole 8 = .ok (.iconst (-1), 1) := by decide +kernel
theorem dX6_hole_9 : decode cX6_hole 9 = .ok (.ireturn, 1) := by decide +kernel
theorem dX6_hole_10 : decode cX6_hole 10 = .ok (.aload_n 0, 1) := by decide +kernel
theorem dX6_hole_11 : decode cX6_hole 11 = .ok (.iload_n 1, 1) := by decide +kernel
theorem dX6_hole_12 : decode cX6_hole 12 = .ok (.invokevirtual 124, 3) := by decide +kernel
theorem dX6_hole_15 : decode cX6_hole 15 = .ok (.ifCond .eq 6, 3) := by decide +kernel
theorem dX6_hole_18 : decode cX6_hole 18 = .ok (.bipush (-5), 2) := by decide +kernel
theorem dX6_hole_20 : decode cX6_hole 20 = .ok (.ireturn, 1) := by decide +kernel
theorem dX6_hole_21 : decode cX6_hole 21 = .ok (.aload_n 0, 1) := by decide +kernel
theorem dX6_hole_22 : decode cX6_hole 22 = .ok (.invokevirtual 148, 3) := by decide +kernel
theorem dX6_hole_25 : decode cX6_hole 25 = .ok (.iconst 0, 1) := by decide +kernel
theorem dX6_hole_26 : decode cX6_hole 26 = .ok (.istore_n 2, 1) := by decide +kernel
theorem dX6_hole_27 : decode cX6_hole 27 = .ok (.iload_n 2, 1) := by decide +kernel
theorem dX6_hole_28 : decode cX6_hole 28 = .ok (.bipush 30, 2) := by decide +kernel
theorem dX6_hole_30 : decode cX6_hole 30 = .ok (.if_icmp .ge 21, 3) := by decide +kernel
theorem dX6_hole_33 : decode cX6_hole 33 = .ok (.aload_n 0, 1) := by decide +kernel
theorem dX6_hole_34 : decode cX6_hole 34 = .ok (.getfield 51, 3) := by decide +kernel
theorem dX6_hole_37 : decode cX6_hole 37 = .ok (.iload_n 2, 1) := by decide +kernel
theorem dX6_hole_38 : decode cX6_hole 38 = .ok (.aload_n 0, 1) := by decide +kernel
theorem dX6_hole_39 : decode cX6_hole 39 = .ok (.getfield 32, 3) := by decide +kernel
theorem dX6_hole_42 : decode cX6_hole 42 = .ok (.iload_n 2, 1) := by decide +kernel
theorem dX6_hole_43 : decode cX6_hole 43 = .ok (.iaload, 1) := by decide +kernel
theorem dX6_hole_44 : decode cX6_hole 44 = .ok (.iastore, 1) := by decide +kernel
theorem dX6_hole_45 : decode cX6_hole 45 = .ok (.iinc 2 1, 3) := by decide +kernel
theorem dX6_hole_48 : decode cX6_hole 48 = .ok (.goto (-21), 3) := by decide +kernel
theorem dX6_hole_51 : decode cX6_hole 51 = .ok (.iconst 0, 1) := by decide +kernel
theorem dX6_hole_52 : decode cX6_hole 52 = .ok (.istore_n 2, 1) := by decide +kernel
theorem dX6_hole_53 : decode cX6_hole 53 = .ok (.iload_n 2, 1) := by decide +kernel
theorem dX6_hole_54 : decode cX6_hole 54 = .ok (.aload_n 0, 1) := by decide +kernel
theorem dX6_hole_55 : decode cX6_hole 55 = .ok (.getfield 7, 3) := by decide +kernel
theorem dX6_hole_58 : decode cX6_hole 58 = .ok (.iconst 1, 1) := by decide +kernel
theorem dX6_hole_59 : decode cX6_hole 59 = .ok (.iaload, 1) := by decide +kernel
theorem dX6_hole_60 : decode cX6_hole 60 = .ok (.if_icmp .ge 21, 3) := by decide +kernel
theorem dX6_hole_63 : decode cX6_hole 63 = .ok (.aload_n 0, 1) := by decide +kernel
theorem dX6_hole_64 : decode cX6_hole 64 = .ok (.getfield 54, 3) := by decide +kernel
theorem dX6_hole_67 : decode cX6_hole 67 = .ok (.iload_n 2, 1) := by decide +kernel
theorem dX6_hole_68 : decode cX6_hole 68 = .ok (.aload_n 0, 1) := by decide +kernel
theorem dX6_hole_69 : decode cX6_hole 69 = .ok (.getfield 35, 3) := by decide +kernel
theorem dX6_hole_72 : decode cX6_hole 72 = .ok (.iload_n 2, 1) := by decide +kernel
theorem dX6_hole_73 : decode cX6_hole 73 = .ok (.baload, 1) := by decide +kernel
theorem dX6_hole_74 : decode cX6_hole 74 = .ok (.bastore, 1) := by decide +kernel
theorem dX6_hole_75 : decode cX6_hole 75 = .ok (.iinc 2 1, 3) := by decide +kernel
theorem dX6_hole_78 : decode cX6_hole 78 = .ok (.goto (-25), 3) := by decide +kernel
theorem dX6_hole_81 : decode cX6_hole 81 = .ok (.aload_n 0, 1) := by decide +kernel
theorem dX6_hole_82 : decode cX6_hole 82 = .ok (.getfield 13, 3) := by decide +kernel
theorem dX6_hole_85 : decode cX6_hole 85 = .ok (.iconst 2, 1) := by decide +kernel
theorem dX6_hole_86 : decode cX6_hole 86 = .ok (.iload_n 1, 1) := by decide +kernel
theorem dX6_hole_87 : decode cX6_hole 87 = .ok (.imul, 1) := by decide +kernel
theorem dX6_hole_88 : decode cX6_hole 88 = .ok (.iconst 1, 1) := by decide +kernel
theorem dX6_hole_89 : decode cX6_hole 89 = .ok (.iadd, 1) := by decide +kernel
theorem dX6_hole_90 : decode cX6_hole 90 = .ok (.iconst 1, 1) := by decide +kernel
theorem dX6_hole_91 : decode cX6_hole 91 = .ok (.iastore, 1) := by decide +kernel
theorem dX6_hole_92 : decode cX6_hole 92 = .ok (.aload_n 0, 1) := by decide +kernel
theorem dX6_hole_93 : decode cX6_hole 93 = .ok (.invokevirtual 148, 3) := by decide +kernel
theorem dX6_hole_96 : decode cX6_hole 96 = .ok (.iconst 0, 1) := by decide +kernel
theorem dX6_hole_97 : decode cX6_hole 97 = .ok (.istore_n 2, 1) := by decide +kernel
theorem dX6_hole_98 : decode cX6_hole 98 = .ok (.iconst 0, 1) := by decide +kernel
theorem dX6_hole_99 : decode cX6_hole 99 = .ok (.istore_n 3, 1) := by decide +kernel
theorem dX6_hole_100 : decode cX6_hole 100 = .ok (.iload_n 3, 1) := by decide +kernel
theorem dX6_hole_101 : decode cX6_hole 101 = .ok (.aload_n 0, 1) := by decide +kernel
theorem dX6_hole_102 : decode cX6_hole 102 = .ok (.getfield 7, 3) := by decide +kernel
theorem dX6_hole_105 : decode cX6_hole 105 = .ok (.iconst 1, 1) := by decide +kernel
theorem dX6_hole_106 : decode cX6_hole 106 = .ok (.iaload, 1) := by decide +kernel
theorem dX6_hole_107 : decode cX6_hole 107 = .ok (.if_icmp .ge 109, 3) := by decide +kernel
theorem dX6_hole_110 : decode cX6_hole 110 = .ok (.iconst 0, 1) := by decide +kernel
theorem dX6_hole_111 : decode cX6_hole 111 = .ok (.istore 4, 2) := by decide +kernel
theorem dX6_hole_113 : decode cX6_hole 113 = .ok (.iload 4, 2) := by decide +kernel
theorem dX6_hole_115 : decode cX6_hole 115 = .ok (.aload_n 0, 1) := by decide +kernel
theorem dX6_hole_116 : decode cX6_hole 116 = .ok (.getfield 7, 3) := by decide +kernel
theorem dX6_hole_119 : decode cX6_hole 119 = .ok (.iconst 0, 1) := by decide +kernel
theorem dX6_hole_120 : decode cX6_hole 120 = .ok (.iaload, 1) := by decide +kernel
theorem dX6_hole_121 : decode cX6_hole 121 = .ok (.if_icmp .ge 89, 3) := by decide +kernel
theorem dX6_hole_124 : decode cX6_hole 124 = .ok (.aload_n 0, 1) := by decide +kernel
theorem dX6_hole_125 : decode cX6_hole 125 = .ok (.getfield 54, 3) := by decide +kernel
theorem dX6_hole_128 : decode cX6_hole 128 = .ok (.iload_n 3, 1) := by decide +kernel
theorem dX6_hole_129 : decode cX6_hole 129 = .ok (.baload, 1) := by decide +kernel
theorem dX6_hole_130 : decode cX6_hole 130 = .ok (.aload_n 0, 1) := by decide +kernel
theorem dX6_hole_131 : decode cX6_hole 131 = .ok (.getfield 35, 3) := by decide +kernel
theorem dX6_hole_134 : decode cX6_hole 134 = .ok (.iload_n 3, 1) := by decide +kernel
theorem dX6_hole_135 : decode cX6_hole 135 = .ok (.baload, 1) := by decide +kernel
theorem dX6_hole_136 : decode cX6_hole 136 = .ok (.if_icmp .ne 39, 3) := by decide +kernel
theorem dX6_hole_139 : decode cX6_hole 139 = .ok (.aload_n 0, 1) := by decide +kernel
theorem dX6_hole_140 : decode cX6_hole 140 = .ok (.getfield 35, 3) := by decide +kernel
theorem dX6_hole_143 : decode cX6_hole 143 = .ok (.iload_n 3, 1) := by decide +kernel
theorem dX6_hole_144 : decode cX6_hole 144 = .ok (.baload, 1) := by decide +kernel
theorem dX6_hole_145 : decode cX6_hole 145 = .ok (.ifCond .eq 34, 3) := by decide +kernel
theorem dX6_hole_148 : decode cX6_hole 148 = .ok (.aload_n 0, 1) := by decide +kernel
theorem dX6_hole_149 : decode cX6_hole 149 = .ok (.getfield 51, 3) := by decide +kernel
theorem dX6_hole_152 : decode cX6_hole 152 = .ok (.bipush 6, 2) := by decide +kernel
theorem dX6_hole_154 : decode cX6_hole 154 = .ok (.iload_n 3, 1) := by decide +kernel
theorem dX6_hole_155 : decode cX6_hole 155 = .ok (.imul, 1) := by decide +kernel
theorem dX6_hole_156 : decode cX6_hole 156 = .ok (.iload 4, 2) := by decide +kernel
theorem dX6_hole_158 : decode cX6_hole 158 = .ok (.iadd, 1) := by decide +kernel
theorem dX6_hole_159 : decode cX6_hole 159 = .ok (.iaload, 1) := by decide +kernel
theorem dX6_hole_160 : decode cX6_hole 160 = .ok (.aload_n 0, 1) := by decide +kernel
theorem dX6_hole_161 : decode cX6_hole 161 = .ok (.getfield 32, 3) := by decide +kernel
theorem dX6_hole_164 : decode cX6_hole 164 = .ok (.bipush 6, 2) := by decide +kernel
theorem dX6_hole_166 : decode cX6_hole 166 = .ok (.iload_n 3, 1) := by decide +kernel
theorem dX6_hole_167 : decode cX6_hole 167 = .ok (.imul, 1) := by decide +kernel
theorem dX6_hole_168 : decode cX6_hole 168 = .ok (.iload 4, 2) := by decide +kernel
theorem dX6_hole_170 : decode cX6_hole 170 = .ok (.iadd, 1) := by decide +kernel
theorem dX6_hole_171 : decode cX6_hole 171 = .ok (.iaload, 1) := by decide +kernel
theorem dX6_hole_172 : decode cX6_hole 172 = .ok (.if_icmp .eq 7, 3) := by decide +kernel
theorem dX6_hole_175 : decode cX6_hole 175 = .ok (.iconst 1, 1) := by decide +kernel
theorem dX6_hole_176 : decode cX6_hole 176 = .ok (.goto 4, 3) := by decide +kernel
theorem dX6_hole_179 : decode cX6_hole 179 = .ok (.iconst 0, 1) := by decide +kernel
theorem dX6_hole_180 : decode cX6_hole 180 = .ok (.istore 5, 2) := by decide +kernel
theorem dX6_hole_182 : decode cX6_hole 182 = .ok (.iload_n 2, 1) := by decide +kernel
theorem dX6_hole_183 : decode cX6_hole 183 = .ok (.aload_n 0, 1) := by decide +kernel
theorem dX6_hole_184 : decode cX6_hole 184 = .ok (.iload 4, 2) := by decide +kernel
theorem dX6_hole_186 : decode cX6_hole 186 = .ok (.invokevirtual 124, 3) := by decide +kernel
theorem dX6_hole_189 : decode cX6_hole 189 = .ok (.ifCond .ne 12, 3) := by decide +kernel
theorem dX6_hole_192 : decode cX6_hole 192 = .ok (.iload 5, 2) := by decide +kernel
theorem dX6_hole_194 : decode cX6_hole 194 = .ok (.ifCond .eq 7, 3) := by decide +kernel
theorem dX6_hole_197 : decode cX6_hole 197 = .ok (.iconst 1, 1) := by decide +kernel
theorem dX6_hole_198 : decode cX6_hole 198 = .ok (.goto 4, 3) := by decide +kernel
theorem dX6_hole_201 : decode cX6_hole 201 = .ok (.iconst 0, 1) := by decide +kernel
theorem dX6_hole_202 : decode cX6_hole 202 = .ok (.iadd, 1) := by decide +kernel
theorem dX6_hole_203 : decode cX6_hole 203 = .ok (.istore_n 2, 1) := by decide +kernel
theorem dX6_hole_204 : decode cX6_hole 204 = .ok (.iinc 4 1, 3) := by decide +kernel
theorem dX6_hole_207 : decode cX6_hole 207 = .ok (.goto (-94), 3) := by decide +kernel
theorem dX6_hole_210 : decode cX6_hole 210 = .ok (.iinc 3 1, 3) := by decide +kernel
theorem dX6_hole_213 : decode cX6_hole 213 = .ok (.goto (-113), 3) := by decide +kernel
theorem dX6_hole_216 : decode cX6_hole 216 = .ok (.aload_n 0, 1) := by decide +kernel
theorem dX6_hole_217 : decode cX6_hole 217 = .ok (.getfield 13, 3) := by decide +kernel
theorem dX6_hole_220 : decode cX6_hole 220 = .ok (.iconst 2, 1) := by decide +kernel
theorem dX6_hole_221 : decode cX6_hole 221 = .ok (.iload_n 1, 1) := by decide +kernel
theorem dX6_hole_222 : decode cX6_hole 222 = .ok (.imul, 1) := by decide +kernel
theorem dX6_hole_223 : decode cX6_hole 223 = .ok (.iconst 1, 1) := by decide +kernel
theorem dX6_hole_224 : decode cX6_hole 224 = .ok (.iadd, 1) := by decide +kernel
theorem dX6_hole_225 : decode cX6_hole 225 = .ok (.iconst 0, 1) := by decide +kernel
theorem dX6_hole_226 : decode cX6_hole 226 = .ok (.iastore, 1) := by decide +kernel
theorem dX6_hole_227 : decode cX6_hole 227 = .ok (.iload_n 2, 1) := by decide +kernel
theorem dX6_hole_228 : decode cX6_hole 228 = .ok (.ireturn, 1) := by decide +kernel
theorem dX6_ready_0 : decode cX6_ready 0 = .ok (.aload_n 0, 1) := by decide +kernel
theorem dX6_ready_1 : decode cX6_ready 1 = .ok (.invokevirtual 148, 3) := by decide +kernel
theorem dX6_ready_4 : decode cX6_ready 4 = .ok (.iconst 0, 1) := by decide +kernel
theorem dX6_ready_5 : decode cX6_ready 5 = .ok (.istore_n 1, 1) := by decide +kernel
theorem dX6_ready_6 : decode cX6_ready 6 = .ok (.iload_n 1, 1) := by decide +kernel
theorem dX6_ready_7 : decode cX6_ready 7 = .ok (.aload_n 0, 1) := by decide +kernel
theorem dX6_ready_8 : decode cX6_ready 8 = .ok (.getfield 7, 3) := by decide +kernel
theorem dX6_ready_11 : decode cX6_ready 11 = .ok (.iconst 1, 1) := by decide +kernel
theorem dX6_ready_12 : decode cX6_ready 12 = .ok (.iaload, 1) := by decide +kernel
theorem dX6_ready_13 : decode cX6_ready 13 = .ok (.if_icmp .ge 18, 3) := by decide +kernel
theorem dX6_ready_16 : decode cX6_ready 16 = .ok (.aload_n 0, 1) := by decide +kernel
theorem dX6_ready_17 : decode cX6_ready 17 = .ok (.getfield 35, 3) := by decide +kernel
theorem dX6_ready_20 : decode cX6_ready 20 = .ok (.iload_n 1, 1) := by decide +kernel
theorem dX6_ready_21 : decode cX6_ready 21 = .ok (.baload, 1) := by decide +kernel
theorem dX6_ready_22 : decode cX6_ready 22 = .ok (.ifCond .eq 9, 3) := by decide +kernel
theorem dX6_ready_25 : decode cX6_ready 25 = .ok (.iinc 1 1, 3) := by decide +kernel
theorem dX6_ready_28 : decode cX6_ready 28 = .ok (.goto (-22), 3) := by decide +kernel
theorem dX6_ready_31 : decode cX6_ready 31 = .ok (.iload_n 1, 1) := by decide +kernel
theorem dX6_ready_32 : decode cX6_ready 32 = .ok (.ireturn, 1) := by decide +kernel
theorem dX6_soloMany_0 : decode cX6_soloMany 0 = .ok (.iconst 0, 1) := by decide +kernel
theorem dX6_soloMany_1 : decode cX6_soloMany 1 = .ok (.istore_n 1, 1) := by decide +kernel
theorem dX6_soloMany_2 : decode cX6_soloMany 2 = .ok (.iconst 0, 1) := by decide +kernel
theorem dX6_soloMany_3 : decode cX6_soloMany 3 = .ok (.istore_n 2, 1) := by decide +kernel
theorem dX6_soloMany_4 : decode cX6_soloMany 4 = .ok (.iload_n 2, 1) := by decide +kernel
theorem dX6_soloMany_5 : decode cX6_soloMany 5 = .ok (.aload_n 0, 1) := by decide +kernel
theorem dX6_soloMany_6 : decode cX6_soloMany 6 = .ok (.getfield 7, 3) := by decide +kernel
theorem dX6_soloMany_9 : decode cX6_soloMany 9 = .ok (.iconst 1, 1) := by decide +kernel
theorem dX6_soloMany_10 : decode cX6_soloMany 10 = .ok (.iaload, 1) := by decide +kernel
theorem dX6_soloMany_11 : decode cX6_soloMany 11 = .ok (.if_icmp .ge 44, 3) := by decide +kernel
theorem dX6_soloMany_14 : decode cX6_soloMany 14 = .ok (.iconst 0, 1) := by decide +kernel
theorem dX6_soloMany_15 : decode cX6_soloMany 15 = .ok (.istore_n 3, 1) := by decide +kernel
theorem dX6_soloMany_16 : decode cX6_soloMany 16 = .ok (.iload_n 3, 1) := by decide +kernel
theorem dX6_soloMany_17 : decode cX6_soloMany 17 = .ok (.aload_n 0, 1) := by decide +kernel
theorem dX6_soloMany_18 : decode cX6_soloMany 18 = .ok (.iload_n 2, 1) := by decide +kernel
theorem dX6_soloMany_19 : decode cX6_soloMany 19 = .ok (.invokevirtual 65, 3) := by decide +kernel
theorem dX6_soloMany_22 : decode cX6_soloMany 22 = .ok (.if_icmp .ge 27, 3) := by decide +kernel
theorem dX6_soloMany_25 : decode cX6_soloMany 25 = .ok (.iload_n 1, 1) := by decide +kernel
theorem dX6_soloMany_26 : decode cX6_soloMany 26 = .ok (.aload_n 0, 1) := by decide +kernel
theorem dX6_soloMany_27 : decode cX6_soloMany 27 = .ok (.getfield 19, 3) := by decide +kernel
theorem dX6_soloMany_30 : decode cX6_soloMany 30 = .ok (.iconst 3, 1) := by decide +kernel
theorem dX6_soloMany_31 : decode cX6_soloMany 31 = .ok (.bipush 7, 2) := by decide +kernel
theorem dX6_soloMany_33 : decode cX6_soloMany 33 = .ok (.iload_n 2, 1) := by decide +kernel
theorem dX6_soloMany_34 : decode cX6_soloMany 34 = .ok (.imul, 1) := by decide +kernel
theorem dX6_soloMany_35 : decode cX6_soloMany 35 = .ok (.iload_n 3, 1) := by decide +kernel
theorem dX6_soloMany_36 : decode cX6_soloMany 36 = .ok (.iadd, 1) := by decide +kernel
theorem dX6_soloMany_37 : decode cX6_soloMany 37 = .ok (.imul, 1) := by decide +kernel
theorem dX6_soloMany_38 : decode cX6_soloMany 38 = .ok (.iconst 2, 1) := by decide +kernel
theorem dX6_soloMany_39 : decode cX6_soloMany 39 = .ok (.iadd, 1) := by decide +kernel
theorem dX6_soloMany_40 : decode cX6_soloMany 40 = .ok (.iaload, 1) := by decide +kernel
theorem dX6_soloMany_41 : decode cX6_soloMany 41 = .ok (.iadd, 1) := by decide +kernel
theorem dX6_soloMany_42 : decode cX6_soloMany 42 = .ok (.istore_n 1, 1) := by decide +kernel
theorem dX6_soloMany_43 : decode cX6_soloMany 43 = .ok (.iinc 3 1, 3) := by decide +kernel
theorem dX6_soloMany_46 : decode cX6_soloMany 46 = .ok (.goto (-30), 3) := by decide +kernel
theorem dX6_soloMany_49 : decode cX6_soloMany 49 = .ok (.iinc 2 1, 3) := by decide +kernel
theorem dX6_soloMany_52 : decode cX6_soloMany 52 = .ok (.goto (-48), 3) := by decide +kernel
theorem dX6_soloMany_55 : decode cX6_soloMany 55 = .ok (.iload_n 1, 1) := by decide +kernel
theorem dX6_soloMany_56 : decode cX6_soloMany 56 = .ok (.ireturn, 1) := by decide +kernel
theorem dX6_allDots_0 : decode cX6_allDots 0 = .ok (.iconst 0, 1) := by decide +kernel
theorem dX6_allDots_1 : decode cX6_allDots 1 = .ok (.istore_n 1, 1) := by decide +kernel
theorem dX6_allDots_2 : decode cX6_allDots 2 = .ok (.iconst 0, 1) := by decide +kernel
theorem dX6_allDots_3 : decode cX6_allDots 3 = .ok (.istore_n 2, 1) := by decide +kernel
theorem dX6_allDots_4 : decode cX6_allDots 4 = .ok (.iload_n 2, 1) := by decide +kernel
theorem dX6_allDots_5 : decode cX6_allDots 5 = .ok (.aload_n 0, 1) := by decide +kernel
theorem dX6_allDots_6 : decode cX6_allDots 6 = .ok (.getfield 7, 3) := by decide +kernel
theorem dX6_allDots_9 : decode cX6_allDots 9 = .ok (.iconst 1, 1) := by decide +kernel
theorem dX6_allDots_10 : decode cX6_allDots 10 = .ok (.iaload, 1) := by decide +kernel
theorem dX6_allDots_11 : decode cX6_allDots 11 = .ok (.if_icmp .ge 17, 3) := by decide +kernel
theorem dX6_allDots_14 : decode cX6_allDots 14 = .ok (.iload_n 1, 1) := by decide +kernel
theorem dX6_allDots_15 : decode cX6_allDots 15 = .ok (.aload_n 0, 1) := by decide +kernel
theorem dX6_allDots_16 : decode cX6_allDots 16 = .ok (.iload_n 2, 1) := by decide +kernel
theorem dX6_allDots_17 : decode cX6_allDots 17 = .ok (.invokevirtual 65, 3) := by decide +kernel
theorem dX6_allDots_20 : decode cX6_allDots 20 = .ok (.iadd, 1) := by decide +kernel
theorem dX6_allDots_21 : decode cX6_allDots 21 = .ok (.istore_n 1, 1) := by decide +kernel
theorem dX6_allDots_22 : decode cX6_allDots 22 = .ok (.iinc 2 1, 3) := by decide +kernel
theorem dX6_allDots_25 : decode cX6_allDots 25 = .ok (.goto (-21), 3) := by decide +kernel
theorem dX6_allDots_28 : decode cX6_allDots 28 = .ok (.iload_n 1, 1) := by decide +kernel
theorem dX6_allDots_29 : decode cX6_allDots 29 = .ok (.ireturn, 1) := by decide +kernel
theorem dX6_allSteps_0 : decode cX6_allSteps 0 = .ok (.aload_n 0, 1) := by decide +kernel
theorem dX6_allSteps_1 : decode cX6_allSteps 1 = .ok (.invokevirtual 148, 3) := by decide +kernel
theorem dX6_allSteps_4 : decode cX6_allSteps 4 = .ok (.iconst 0, 1) := by decide +kernel
theorem dX6_allSteps_5 : decode cX6_allSteps 5 = .ok (.istore_n 1, 1) := by decide +kernel
theorem dX6_allSteps_6 : decode cX6_allSteps 6 = .ok (.iconst 0, 1) := by decide +kernel
theorem dX6_allSteps_7 : decode cX6_allSteps 7 = .ok (.istore_n 2, 1) := by decide +kernel
theorem dX6_allSteps_8 : decode cX6_allSteps 8 = .ok (.iload_n 2, 1) := by decide +kernel
theorem dX6_allSteps_9 : decode cX6_allSteps 9 = .ok (.aload_n 0, 1) := by decide +kernel
theorem dX6_allSteps_10 : decode cX6_allSteps 10 = .ok (.getfield 7, 3) := by decide +kernel
theorem dX6_allSteps_13 : decode cX6_allSteps 13 = .ok (.iconst 1, 1) := by decide +kernel
theorem dX6_allSteps_14 : decode cX6_allSteps 14 = .ok (.iaload, 1) := by decide +kernel
theorem dX6_allSteps_15 : decode cX6_allSteps 15 = .ok (.if_icmp .ge 31, 3) := by decide +kernel
theorem dX6_allSteps_18 : decode cX6_allSteps 18 = .ok (.iload_n 1, 1) := by decide +kernel
theorem dX6_allSteps_19 : decode cX6_allSteps 19 = .ok (.aload_n 0, 1) := by decide +kernel
theorem dX6_allSteps_20 : decode cX6_allSteps 20 = .ok (.getfield 35, 3) := by decide +kernel
theorem dX6_allSteps_23 : decode cX6_allSteps 23 = .ok (.iload_n 2, 1) := by decide +kernel
theorem dX6_allSteps_24 : decode cX6_allSteps 24 = .ok (.baload, 1) := by decide +kernel
theorem dX6_allSteps_25 : decode cX6_allSteps 25 = .ok (.ifCond .eq 12, 3) := by decide +kernel
theorem dX6_allSteps_28 : decode cX6_allSteps 28 = .ok (.aload_n 0, 1) := by decide +kernel
theorem dX6_allSteps_29 : decode cX6_allSteps 29 = .ok (.getfield 42, 3) := by decide +kernel
theorem dX6_allSteps_32 : decode cX6_allSteps 32 = .ok (.iload_n 2, 1) := by decide +kernel
theorem dX6_allSteps_33 : decode cX6_allSteps 33 = .ok (.iaload, 1) := by decide +kernel
theorem dX6_allSteps_34 : decode cX6_allSteps 34 = .ok (.goto 4, 3) := by decide +kernel
theorem dX6_allSteps_37 : decode cX6_allSteps 37 = .ok (.iconst 0, 1) := by decide +kernel
theorem dX6_allSteps_38 : decode cX6_allSteps 38 = .ok (.iadd, 1) := by decide +kernel
theorem dX6_allSteps_39 : decode cX6_allSteps 39 = .ok (.istore_n 1, 1) := by decide +kernel
theorem dX6_allSteps_40 : decode cX6_allSteps 40 = .ok (.iinc 2 1, 3) := by decide +kernel
theorem dX6_allSteps_43 : decode cX6_allSteps 43 = .ok (.goto (-35), 3) := by decide +kernel
theorem dX6_allSteps_46 : decode cX6_allSteps 46 = .ok (.iload_n 1, 1) := by decide +kernel
theorem dX6_allSteps_47 : decode cX6_allSteps 47 = .ok (.ireturn, 1) := by decide +kernel
theorem dX6_many_0 : decode cX6_many 0 = .ok (.iload_n 1, 1) := by decide +kernel
theorem dX6_many_1 : decode cX6_many 1 = .ok (.tableswitch 73 0 5 #[39, 46, 51, 58, 63, 68], 39) := by decide +kernel
theorem dX6_many_40 : decode cX6_many 40 = .ok (.aload_n 0, 1) := by decide +kernel
theorem dX6_many_41 : decode cX6_many 41 = .ok (.getfield 7, 3) := by decide +kernel
theorem dX6_many_44 : decode cX6_many 44 = .ok (.iconst 0, 1) := by decide +kernel
theorem dX6_many_45 : decode cX6_many 45 = .ok (.iaload, 1) := by decide +kernel
theorem dX6_many_46 : decode cX6_many 46 = .ok (.ireturn, 1) := by decide +kernel
theorem dX6_many_47 : decode cX6_many 47 = .ok (.aload_n 0, 1) := by decide +kernel
theorem dX6_many_48 : decode cX6_many 48 = .ok (.invokevirtual 151, 3) := by decide +kernel
theorem dX6_many_51 : decode cX6_many 51 = .ok (.ireturn, 1) := by decide +kernel
theorem dX6_many_52 : decode cX6_many 52 = .ok (.aload_n 0, 1) := by decide +kernel
theorem dX6_many_53 : decode cX6_many 53 = .ok (.getfield 7, 3) := by decide +kernel
theorem dX6_many_56 : decode cX6_many 56 = .ok (.iconst 1, 1) := by decide +kernel
theorem dX6_many_57 : decode cX6_many 57 = .ok (.iaload, 1) := by decide +kernel
theorem dX6_many_58 : decode cX6_many 58 = .ok (.ireturn, 1) := by decide +kernel
theorem dX6_many_59 : decode cX6_many 59 = .ok (.aload_n 0, 1) := by decide +kernel
theorem dX6_many_60 : decode cX6_many 60 = .ok (.invokevirtual 158, 3) := by decide +kernel
theorem dX6_many_63 : decode cX6_many 63 = .ok (.ireturn, 1) := by decide +kernel
theorem dX6_many_64 : decode cX6_many 64 = .ok (.aload_n 0, 1) := by decide +kernel
theorem dX6_many_65 : decode cX6_many 65 = .ok (.invokevirtual 161, 3) := by decide +kernel
theorem dX6_many_68 : decode cX6_many 68 = .ok (.ireturn, 1) := by decide +kernel
theorem dX6_many_69 : decode cX6_many 69 = .ok (.aload_n 0, 1) := by decide +kernel
theorem dX6_many_70 : decode cX6_many 70 = .ok (.invokevirtual 164, 3) := by decide +kernel
theorem dX6_many_73 : decode cX6_many 73 = .ok (.ireturn, 1) := by decide +kernel
theorem dX6_many_74 : decode cX6_many 74 = .ok (.iconst (-1), 1) := by decide +kernel
theorem dX6_many_75 : decode cX6_many 75 = .ok (.ireturn, 1) := by decide +kernel
theorem dX6_move_0 : decode cX6_move 0 = .ok (.iconst 0, 1) := by decide +kernel
theorem dX6_move_1 : decode cX6_move 1 = .ok (.istore 4, 2) := by decide +kernel
theorem dX6_move_3 : decode cX6_move 3 = .ok (.iload 4, 2) := by decide +kernel
theorem dX6_move_5 : decode cX6_move 5 = .ok (.iload_n 2, 1) := by decide +kernel
theorem dX6_move_6 : decode cX6_move 6 = .ok (.if_icmp .ge 52, 3) := by decide +kernel
theorem dX6_move_9 : decode cX6_move 9 = .ok (.iload_n 3, 1) := by decide +kernel
theorem dX6_move_10 : decode cX6_move 10 = .ok (.ifCond .eq 19, 3) := by decide +kernel
theorem dX6_move_13 : decode cX6_move 13 = .ok (.aload_n 0, 1) := by decide +kernel
theorem dX6_move_14 : decode cX6_move 14 = .ok (.getfield 22, 3) := by decide +kernel
theorem dX6_move_17 : decode cX6_move 17 = .ok (.aload_n 0, 1) := by decide +kernel
theorem dX6_move_18 : decode cX6_move 18 = .ok (.getfield 167, 3) := by decide +kernel
theorem dX6_move_21 : decode cX6_move 21 = .ok (.aload_n 1, 1) := by decide +kernel
theorem dX6_move_22 : decode cX6_move 22 = .ok (.iload 4, 2) := by decide +kernel
theorem dX6_move_24 : decode cX6_move 24 = .ok (.iaload, 1) := by decide +kernel
theorem dX6_move_25 : decode cX6_move 25 = .ok (.iastore, 1) := by decide +kernel
theorem dX6_move_26 : decode cX6_move 26 = .ok (.goto 16, 3) := by decide +kernel
theorem dX6_move_29 : decode cX6_move 29 = .ok (.aload_n 1, 1) := by decide +kernel
theorem dX6_move_30 : decode cX6_move 30 = .ok (.iload 4, 2) := by decide +kernel
theorem dX6_move_32 : decode cX6_move 32 = .ok (.aload_n 0, 1) := by decide +kernel
theorem dX6_move_33 : decode cX6_move 33 = .ok (.getfield 22, 3) := by decide +kernel
theorem dX6_move_36 : decode cX6_move 36 = .ok (.aload_n 0, 1) := by decide +kernel
theorem dX6_move_37 : decode cX6_move 37 = .ok (.getfield 167, 3) := by decide +kernel
theorem dX6_move_40 : decode cX6_move 40 = .ok (.iaload, 1) := by decide +kernel
theorem dX6_move_41 : decode cX6_move 41 = .ok (.iastore, 1) := by decide +kernel
theorem dX6_move_42 : decode cX6_move 42 = .ok (.aload_n 0, 1) := by decide +kernel
theorem dX6_move_43 : decode cX6_move 43 = .ok (.dup, 1) := by decide +kernel
theorem dX6_move_44 : decode cX6_move 44 = .ok (.getfield 167, 3) := by decide +kernel
theorem dX6_move_47 : decode cX6_move 47 = .ok (.iconst 1, 1) := by decide +kernel
theorem dX6_move_48 : decode cX6_move 48 = .ok (.iadd, 1) := by decide +kernel
theorem dX6_move_49 : decode cX6_move 49 = .ok (.putfield 167, 3) := by decide +kernel
theorem dX6_move_52 : decode cX6_move 52 = .ok (.iinc 4 1, 3) := by decide +kernel
theorem dX6_move_55 : decode cX6_move 55 = .ok (.goto (-52), 3) := by decide +kernel
theorem dX6_move_58 : decode cX6_move 58 = .ok (.return_, 1) := by decide +kernel
theorem dX6_moveAll_0 : decode cX6_moveAll 0 = .ok (.aload_n 0, 1) := by decide +kernel
theorem dX6_moveAll_1 : decode cX6_moveAll 1 = .ok (.iconst 0, 1) := by decide +kernel
theorem dX6_moveAll_2 : decode cX6_moveAll 2 = .ok (.putfield 167, 3) := by decide +kernel
theorem dX6_moveAll_5 : decode cX6_moveAll 5 = .ok (.aload_n 0, 1) := by decide +kernel
theorem dX6_moveAll_6 : decode cX6_moveAll 6 = .ok (.aload_n 0, 1) := by decide +kernel
theorem dX6_moveAll_7 : decode cX6_moveAll 7 = .ok (.getfield 7, 3) := by decide +kernel
theorem dX6_moveAll_10 : decode cX6_moveAll 10 = .ok (.bipush 6, 2) := by decide +kernel
theorem dX6_moveAll_12 : decode cX6_moveAll 12 = .ok (.iload_n 1, 1) := by decide +kernel
theorem dX6_moveAll_13 : decode cX6_moveAll 13 = .ok (.invokevirtual 170, 3) := by decide +kernel
theorem dX6_moveAll_16 : decode cX6_moveAll 16 = .ok (.aload_n 0, 1) := by decide +kernel
theorem dX6_moveAll_17 : decode cX6_moveAll 17 = .ok (.aload_n 0, 1) := by decide +kernel
theorem dX6_moveAll_18 : decode cX6_moveAll 18 = .ok (.getfield 13, 3) := by decide +kernel
theorem dX6_moveAll_21 : decode cX6_moveAll 21 = .ok (.bipush 12, 2) := by decide +kernel
theorem dX6_moveAll_23 : decode cX6_moveAll 23 = .ok (.iload_n 1, 1) := by decide +kernel
theorem dX6_moveAll_24 : decode cX6_moveAll 24 = .ok (.invokevirtual 170, 3) := by decide +kernel
theorem dX6_moveAll_27 : decode cX6_moveAll 27 = .ok (.aload_n 0, 1) := by decide +kernel
theorem dX6_moveAll_28 : decode cX6_moveAll 28 = .ok (.aload_n 0, 1) := by decide +kernel
theorem dX6_moveAll_29 : decode cX6_moveAll 29 = .ok (.getfield 16, 3) := by decide +kernel
theorem dX6_moveAll_32 : decode cX6_moveAll 32 = .ok (.bipush 10, 2) := by decide +kernel
theorem dX6_moveAll_34 : decode cX6_moveAll 34 = .ok (.iload_n 1, 1) := by decide +kernel
theorem dX6_moveAll_35 : decode cX6_moveAll 35 = .ok (.invokevirtual 170, 3) := by decide +kernel
theorem dX6_moveAll_38 : decode cX6_moveAll 38 = .ok (.aload_n 0, 1) := by decide +kernel
theorem dX6_moveAll_39 : decode cX6_moveAll 39 = .ok (.aload_n 0, 1) := by decide +kernel
theorem dX6_moveAll_40 : decode cX6_moveAll 40 = .ok (.getfield 19, 3) := by decide +kernel
theorem dX6_moveAll_43 : decode cX6_moveAll 43 = .ok (.bipush 105, 2) := by decide +kernel
theorem dX6_moveAll_45 : decode cX6_moveAll 45 = .ok (.iload_n 1, 1) := by decide +kernel
theorem dX6_moveAll_46 : decode cX6_moveAll 46 = .ok (.invokevirtual 170, 3) := by decide +kernel
theorem dX6_moveAll_49 : decode cX6_moveAll 49 = .ok (.return_, 1) := by decide +kernel
theorem dX6_keep_0 : decode cX6_keep 0 = .ok (.aload_n 0, 1) := by decide +kernel
theorem dX6_keep_1 : decode cX6_keep 1 = .ok (.iconst 1, 1) := by decide +kernel
theorem dX6_keep_2 : decode cX6_keep 2 = .ok (.invokevirtual 174, 3) := by decide +kernel
theorem dX6_keep_5 : decode cX6_keep 5 = .ok (.aload_n 0, 1) := by decide +kernel
theorem dX6_keep_6 : decode cX6_keep 6 = .ok (.iconst 1, 1) := by decide +kernel
theorem dX6_keep_7 : decode cX6_keep 7 = .ok (.putfield 178, 3) := by decide +kernel
theorem dX6_keep_10 : decode cX6_keep 10 = .ok (.iconst 1, 1) := by decide +kernel
theorem dX6_keep_11 : decode cX6_keep 11 = .ok (.ireturn, 1) := by decide +kernel
theorem dX6_back_0 : decode cX6_back 0 = .ok (.aload_n 0, 1) := by decide +kernel
theorem dX6_back_1 : decode cX6_back 1 = .ok (.getfield 178, 3) := by decide +kernel
theorem dX6_back_4 : decode cX6_back 4 = .ok (.ifCond .ne 6, 3) := by decide +kernel
theorem dX6_back_7 : decode cX6_back 7 = .ok (.bipush (-3), 2) := by decide +kernel
theorem dX6_back_9 : decode cX6_back 9 = .ok (.ireturn, 1) := by decide +kernel
theorem dX6_back_10 : decode cX6_back 10 = .ok (.aload_n 0, 1) := by decide +kernel
theorem dX6_back_11 : decode cX6_back 11 = .ok (.iconst 0, 1) := by decide +kernel
theorem dX6_back_12 : decode cX6_back 12 = .ok (.invokevirtual 174, 3) := by decide +kernel
theorem dX6_back_15 : decode cX6_back 15 = .ok (.iconst 1, 1) := by decide +kernel
theorem dX6_back_16 : decode cX6_back 16 = .ok (.ireturn, 1) := by decide +kernel
