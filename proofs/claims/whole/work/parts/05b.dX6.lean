theorem dX6_greater_0 : decode cX6_greater 0 = .ok (.iload_n 0, 1) := by decide +kernel
theorem dX6_greater_1 : decode cX6_greater 1 = .ok (.iload_n 1, 1) := by decide +kernel
theorem dX6_greater_2 : decode cX6_greater 2 = .ok (.if_icmp .le 7, 3) := by decide +kernel
theorem dX6_greater_5 : decode cX6_greater 5 = .ok (.iload_n 0, 1) := by decide +kernel
theorem dX6_greater_6 : decode cX6_greater 6 = .ok (.goto 4, 3) := by decide +kernel
theorem dX6_greater_9 : decode cX6_greater 9 = .ok (.iload_n 1, 1) := by decide +kernel
theorem dX6_greater_10 : decode cX6_greater 10 = .ok (.ireturn, 1) := by decide +kernel
theorem dX6_x_0 : decode cX6_x 0 = .ok (.aload_n 0, 1) := by decide +kernel
theorem dX6_x_1 : decode cX6_x 1 = .ok (.getfield 19, 3) := by decide +kernel
theorem dX6_x_4 : decode cX6_x 4 = .ok (.iconst 3, 1) := by decide +kernel
theorem dX6_x_5 : decode cX6_x 5 = .ok (.bipush 7, 2) := by decide +kernel
theorem dX6_x_7 : decode cX6_x 7 = .ok (.iload_n 1, 1) := by decide +kernel
theorem dX6_x_8 : decode cX6_x 8 = .ok (.imul, 1) := by decide +kernel
theorem dX6_x_9 : decode cX6_x 9 = .ok (.iload_n 2, 1) := by decide +kernel
theorem dX6_x_10 : decode cX6_x 10 = .ok (.iadd, 1) := by decide +kernel
theorem dX6_x_11 : decode cX6_x 11 = .ok (.imul, 1) := by decide +kernel
theorem dX6_x_12 : decode cX6_x 12 = .ok (.iaload, 1) := by decide +kernel
theorem dX6_x_13 : decode cX6_x 13 = .ok (.ireturn, 1) := by decide +kernel
theorem dX6_y_0 : decode cX6_y 0 = .ok (.aload_n 0, 1) := by decide +kernel
theorem dX6_y_1 : decode cX6_y 1 = .ok (.getfield 19, 3) := by decide +kernel
theorem dX6_y_4 : decode cX6_y 4 = .ok (.iconst 3, 1) := by decide +kernel
theorem dX6_y_5 : decode cX6_y 5 = .ok (.bipush 7, 2) := by decide +kernel
theorem dX6_y_7 : decode cX6_y 7 = .ok (.iload_n 1, 1) := by decide +kernel
theorem dX6_y_8 : decode cX6_y 8 = .ok (.imul, 1) := by decide +kernel
theorem dX6_y_9 : decode cX6_y 9 = .ok (.iload_n 2, 1) := by decide +kernel
theorem dX6_y_10 : decode cX6_y 10 = .ok (.iadd, 1) := by decide +kernel
theorem dX6_y_11 : decode cX6_y 11 = .ok (.imul, 1) := by decide +kernel
theorem dX6_y_12 : decode cX6_y 12 = .ok (.iconst 1, 1) := by decide +kernel
theorem dX6_y_13 : decode cX6_y 13 = .ok (.iadd, 1) := by decide +kernel
theorem dX6_y_14 : decode cX6_y 14 = .ok (.iaload, 1) := by decide +kernel
theorem dX6_y_15 : decode cX6_y 15 = .ok (.ireturn, 1) := by decide +kernel
theorem dX6_stepTo_0 : decode cX6_stepTo 0 = .ok (.aload_n 0, 1) := by decide +kernel
theorem dX6_stepTo_1 : decode cX6_stepTo 1 = .ok (.getfield 32, 3) := by decide +kernel
theorem dX6_stepTo_4 : decode cX6_stepTo 4 = .ok (.bipush 6, 2) := by decide +kernel
theorem dX6_stepTo_6 : decode cX6_stepTo 6 = .ok (.iload_n 1, 1) := by decide +kernel
theorem dX6_stepTo_7 : decode cX6_stepTo 7 = .ok (.iconst 1, 1) := by decide +kernel
theorem dX6_stepTo_8 : decode cX6_stepTo 8 = .ok (.isub, 1) := by decide +kernel
theorem dX6_stepTo_9 : decode cX6_stepTo 9 = .ok (.imul, 1) := by decide +kernel
theorem dX6_stepTo_10 : decode cX6_stepTo 10 = .ok (.iload_n 2, 1) := by decide +kernel
theorem dX6_stepTo_11 : decode cX6_stepTo 11 = .ok (.iadd, 1) := by decide +kernel
theorem dX6_stepTo_12 : decode cX6_stepTo 12 = .ok (.iaload, 1) := by decide +kernel
theorem dX6_stepTo_13 : decode cX6_stepTo 13 = .ok (.istore 4, 2) := by decide +kernel
theorem dX6_stepTo_15 : decode cX6_stepTo 15 = .ok (.aload_n 0, 1) := by decide +kernel
theorem dX6_stepTo_16 : decode cX6_stepTo 16 = .ok (.iload_n 1, 1) := by decide +kernel
theorem dX6_stepTo_17 : decode cX6_stepTo 17 = .ok (.iload_n 3, 1) := by decide +kernel
theorem dX6_stepTo_18 : decode cX6_stepTo 18 = .ok (.invokevirtual 110, 3) := by decide +kernel
theorem dX6_stepTo_21 : decode cX6_stepTo 21 = .ok (.aload_n 0, 1) := by decide +kernel
theorem dX6_stepTo_22 : decode cX6_stepTo 22 = .ok (.iload_n 1, 1) := by decide +kernel
theorem dX6_stepTo_23 : decode cX6_stepTo 23 = .ok (.iconst 1, 1) := by decide +kernel
theorem dX6_stepTo_24 : decode cX6_stepTo 24 = .ok (.isub, 1) := by decide +kernel
theorem dX6_stepTo_25 : decode cX6_stepTo 25 = .ok (.iload 4, 2) := by decide +kernel
theorem dX6_stepTo_27 : decode cX6_stepTo 27 = .ok (.invokevirtual 110, 3) := by decide +kernel
theorem dX6_stepTo_30 : decode cX6_stepTo 30 = .ok (.isub, 1) := by decide +kernel
theorem dX6_stepTo_31 : decode cX6_stepTo 31 = .ok (.invokestatic 114, 3) := by decide +kernel
theorem dX6_stepTo_34 : decode cX6_stepTo 34 = .ok (.aload_n 0, 1) := by decide +kernel
theorem dX6_stepTo_35 : decode cX6_stepTo 35 = .ok (.iload_n 1, 1) := by decide +kernel
theorem dX6_stepTo_36 : decode cX6_stepTo 36 = .ok (.iload_n 3, 1) := by decide +kernel
theorem dX6_stepTo_37 : decode cX6_stepTo 37 = .ok (.invokevirtual 117, 3) := by decide +kernel
theorem dX6_stepTo_40 : decode cX6_stepTo 40 = .ok (.aload_n 0, 1) := by decide +kernel
theorem dX6_stepTo_41 : decode cX6_stepTo 41 = .ok (.iload_n 1, 1) := by decide +kernel
theorem dX6_stepTo_42 : decode cX6_stepTo 42 = .ok (.iconst 1, 1) := by decide +kernel
theorem dX6_stepTo_43 : decode cX6_stepTo 43 = .ok (.isub, 1) := by decide +kernel
theorem dX6_stepTo_44 : decode cX6_stepTo 44 = .ok (.iload 4, 2) := by decide +kernel
theorem dX6_stepTo_46 : decode cX6_stepTo 46 = .ok (.invokevirtual 117, 3) := by decide +kernel
theorem dX6_stepTo_49 : decode cX6_stepTo 49 = .ok (.isub, 1) := by decide +kernel
theorem dX6_stepTo_50 : decode cX6_stepTo 50 = .ok (.invokestatic 114, 3) := by decide +kernel
theorem dX6_stepTo_53 : decode cX6_stepTo 53 = .ok (.invokestatic 120, 3) := by decide +kernel
theorem dX6_stepTo_56 : decode cX6_stepTo 56 = .ok (.ireturn, 1) := by decide +kernel
theorem dX6_nearest_0 : decode cX6_nearest 0 = .ok (.iconst 2, 1) := by decide +kernel
theorem dX6_nearest_1 : decode cX6_nearest 1 = .ok (.aload_n 0, 1) := by decide +kernel
theorem dX6_nearest_2 : decode cX6_nearest 2 = .ok (.getfield 16, 3) := by decide +kernel
theorem dX6_nearest_5 : decode cX6_nearest 5 = .ok (.iconst 2, 1) := by decide +kernel
theorem dX6_nearest_6 : decode cX6_nearest 6 = .ok (.iload_n 1, 1) := by decide +kernel
theorem dX6_nearest_7 : decode cX6_nearest 7 = .ok (.imul, 1) := by decide +kernel
theorem dX6_nearest_8 : decode cX6_nearest 8 = .ok (.iaload, 1) := by decide +kernel
theorem dX6_nearest_9 : decode cX6_nearest 9 = .ok (.imul, 1) := by decide +kernel
theorem dX6_nearest_10 : decode cX6_nearest 10 = .ok (.istore 6, 2) := by decide +kernel
theorem dX6_nearest_12 : decode cX6_nearest 12 = .ok (.aload_n 0, 1) := by decide +kernel
theorem dX6_nearest_13 : decode cX6_nearest 13 = .ok (.getfield 32, 3) := by decide +kernel
theorem dX6_nearest_16 : decode cX6_nearest 16 = .ok (.bipush 6, 2) := by decide +kernel
theorem dX6_nearest_18 : decode cX6_nearest 18 = .ok (.iload_n 1, 1) := by decide +kernel
theorem dX6_nearest_19 : decode cX6_nearest 19 = .ok (.iconst 1, 1) := by decide +kernel
theorem dX6_nearest_20 : decode cX6_nearest 20 = .ok (.isub, 1) := by decide +kernel
theorem dX6_nearest_21 : decode cX6_nearest 21 = .ok (.imul, 1) := by decide +kernel
theorem dX6_nearest_22 : decode cX6_nearest 22 = .ok (.iload_n 2, 1) := by decide +kernel
theorem dX6_nearest_23 : decode cX6_nearest 23 = .ok (.iadd, 1) := by decide +kernel
theorem dX6_nearest_24 : decode cX6_nearest 24 = .ok (.iaload, 1) := by decide +kernel
theorem dX6_nearest_25 : decode cX6_nearest 25 = .ok (.istore 7, 2) := by decide +kernel
theorem dX6_nearest_27 : decode cX6_nearest 27 = .ok (.aload_n 0, 1) := by decide +kernel
theorem dX6_nearest_28 : decode cX6_nearest 28 = .ok (.getfield 32, 3) := by decide +kernel
theorem dX6_nearest_31 : decode cX6_nearest 31 = .ok (.bipush 6, 2) := by decide +kernel
theorem dX6_nearest_33 : decode cX6_nearest 33 = .ok (.iload_n 1, 1) := by decide +kernel
theorem dX6_nearest_34 : decode cX6_nearest 34 = .ok (.iconst 1, 1) := by decide +kernel
theorem dX6_nearest_35 : decode cX6_nearest 35 = .ok (.isub, 1) := by decide +kernel
theorem dX6_nearest_36 : decode cX6_nearest 36 = .ok (.imul, 1) := by decide +kernel
theorem dX6_nearest_37 : decode cX6_nearest 37 = .ok (.iload 4, 2) := by decide +kernel
theorem dX6_nearest_39 : decode cX6_nearest 39 = .ok (.iadd, 1) := by decide +kernel
theorem dX6_nearest_40 : decode cX6_nearest 40 = .ok (.iaload, 1) := by decide +kernel
theorem dX6_nearest_41 : decode cX6_nearest 41 = .ok (.istore 8, 2) := by decide +kernel
theorem dX6_nearest_43 : decode cX6_nearest 43 = .ok (.aload_n 0, 1) := by decide +kernel
theorem dX6_nearest_44 : decode cX6_nearest 44 = .ok (.iload_n 1, 1) := by decide +kernel
theorem dX6_nearest_45 : decode cX6_nearest 45 = .ok (.iconst 1, 1) := by decide +kernel
theorem dX6_nearest_46 : decode cX6_nearest 46 = .ok (.isub, 1) := by decide +kernel
theorem dX6_nearest_47 : decode cX6_nearest 47 = .ok (.iload 7, 2) := by decide +kernel
theorem dX6_nearest_49 : decode cX6_nearest 49 = .ok (.invokevirtual 110, 3) := by decide +kernel
theorem dX6_nearest_52 : decode cX6_nearest 52 = .ok (.aload_n 0, 1) := by decide +kernel
theorem dX6_nearest_53 : decode cX6_nearest 53 = .ok (.iload_n 1, 1) := by decide +kernel
theorem dX6_nearest_54 : decode cX6_nearest 54 = .ok (.iconst 1, 1) := by decide +kernel
theorem dX6_nearest_55 : decode cX6_nearest 55 = .ok (.isub, 1) := by decide +kernel
theorem dX6_nearest_56 : decode cX6_nearest 56 = .ok (.iload 8, 2) := by decide +kernel
theorem dX6_nearest_58 : decode cX6_nearest 58 = .ok (.invokevirtual 110, 3) := by decide +kernel
theorem dX6_nearest_61 : decode cX6_nearest 61 = .ok (.isub, 1) := by decide +kernel
theorem dX6_nearest_62 : decode cX6_nearest 62 = .ok (.istore 9, 2) := by decide +kernel
theorem dX6_nearest_64 : decode cX6_nearest 64 = .ok (.aload_n 0, 1) := by decide +kernel
theorem dX6_nearest_65 : decode cX6_nearest 65 = .ok (.iload_n 1, 1) := by decide +kernel
theorem dX6_nearest_66 : decode cX6_nearest 66 = .ok (.iconst 1, 1) := by decide +kernel
theorem dX6_nearest_67 : decode cX6_nearest 67 = .ok (.isub, 1) := by decide +kernel
theorem dX6_nearest_68 : decode cX6_nearest 68 = .ok (.iload 7, 2) := by decide +kernel
theorem dX6_nearest_70 : decode cX6_nearest 70 = .ok (.invokevirtual 117, 3) := by decide +kernel
theorem dX6_nearest_73 : decode cX6_nearest 73 = .ok (.aload_n 0, 1) := by decide +kernel
theorem dX6_nearest_74 : decode cX6_nearest 74 = .ok (.iload_n 1, 1) := by decide +kernel
theorem dX6_nearest_75 : decode cX6_nearest 75 = .ok (.iconst 1, 1) := by decide +kernel
theorem dX6_nearest_76 : decode cX6_nearest 76 = .ok (.isub, 1) := by decide +kernel
theorem dX6_nearest_77 : decode cX6_nearest 77 = .ok (.iload 8, 2) := by decide +kernel
theorem dX6_nearest_79 : decode cX6_nearest 79 = .ok (.invokevirtual 117, 3) := by decide +kernel
theorem dX6_nearest_82 : decode cX6_nearest 82 = .ok (.isub, 1) := by decide +kernel
theorem dX6_nearest_83 : decode cX6_nearest 83 = .ok (.istore 10, 2) := by decide +kernel
theorem dX6_nearest_85 : decode cX6_nearest 85 = .ok (.aload_n 0, 1) := by decide +kernel
theorem dX6_nearest_86 : decode cX6_nearest 86 = .ok (.iload_n 1, 1) := by decide +kernel
theorem dX6_nearest_87 : decode cX6_nearest 87 = .ok (.iload_n 3, 1) := by decide +kernel
theorem dX6_nearest_88 : decode cX6_nearest 88 = .ok (.invokevirtual 110, 3) := by decide +kernel
theorem dX6_nearest_91 : decode cX6_nearest 91 = .ok (.aload_n 0, 1) := by decide +kernel
theorem dX6_nearest_92 : decode cX6_nearest 92 = .ok (.iload_n 1, 1) := by decide +kernel
theorem dX6_nearest_93 : decode cX6_nearest 93 = .ok (.iload 5, 2) := by decide +kernel
theorem dX6_nearest_95 : decode cX6_nearest 95 = .ok (.invokevirtual 110, 3) := by decide +kernel
theorem dX6_nearest_98 : decode cX6_nearest 98 = .ok (.isub, 1) := by decide +kernel
theorem dX6_nearest_99 : decode cX6_nearest 99 = .ok (.istore 11, 2) := by decide +kernel
theorem dX6_nearest_101 : decode cX6_nearest 101 = .ok (.aload_n 0, 1) := by decide +kernel
theorem dX6_nearest_102 : decode cX6_nearest 102 = .ok (.iload_n 1, 1) := by decide +kernel
theorem dX6_nearest_103 : decode cX6_nearest 103 = .ok (.iload_n 3, 1) := by decide +kernel
theorem dX6_nearest_104 : decode cX6_nearest 104 = .ok (.invokevirtual 117, 3) := by decide +kernel
theorem dX6_nearest_107 : decode cX6_nearest 107 = .ok (.aload_n 0, 1) := by decide +kernel
theorem dX6_nearest_108 : decode cX6_nearest 108 = .ok (.iload_n 1, 1) := by decide +kernel
theorem dX6_nearest_109 : decode cX6_nearest 109 = .ok (.iload 5, 2) := by decide +kernel
theorem dX6_nearest_111 : decode cX6_nearest 111 = .ok (.invokevirtual 117, 3) := by decide +kernel
theorem dX6_nearest_114 : decode cX6_nearest 114 = .ok (.isub, 1) := by decide +kernel
theorem dX6_nearest_115 : decode cX6_nearest 115 = .ok (.istore 12, 2) := by decide +kernel
theorem dX6_nearest_117 : decode cX6_nearest 117 = .ok (.ldc 123, 2) := by decide +kernel
theorem dX6_nearest_119 : decode cX6_nearest 119 = .ok (.istore 13, 2) := by decide +kernel
theorem dX6_nearest_121 : decode cX6_nearest 121 = .ok (.iconst 1, 1) := by decide +kernel
theorem dX6_nearest_122 : decode cX6_nearest 122 = .ok (.istore 14, 2) := by decide +kernel
theorem dX6_nearest_124 : decode cX6_nearest 124 = .ok (.iload 14, 2) := by decide +kernel
theorem dX6_nearest_126 : decode cX6_nearest 126 = .ok (.iload 6, 2) := by decide +kernel
theorem dX6_nearest_128 : decode cX6_nearest 128 = .ok (.if_icmp .ge 64, 3) := by decide +kernel
theorem dX6_nearest_131 : decode cX6_nearest 131 = .ok (.iload 6, 2) := by decide +kernel
theorem dX6_nearest_133 : decode cX6_nearest 133 = .ok (.iload 9, 2) := by decide +kernel
theorem dX6_nearest_135 : decode cX6_nearest 135 = .ok (.imul, 1) := by decide +kernel
theorem dX6_nearest_136 : decode cX6_nearest 136 = .ok (.iload 14, 2) := by decide +kernel
theorem dX6_nearest_138 : decode cX6_nearest 138 = .ok (.iload 11, 2) := by decide +kernel
theorem dX6_nearest_140 : decode cX6_nearest 140 = .ok (.iload 9, 2) := by decide +kernel
theorem dX6_nearest_142 : decode cX6_nearest 142 = .ok (.isub, 1) := by decide +kernel
theorem dX6_nearest_143 : decode cX6_nearest 143 = .ok (.imul, 1) := by decide +kernel
theorem dX6_nearest_144 : decode cX6_nearest 144 = .ok (.iadd, 1) := by decide +kernel
theorem dX6_nearest_145 : decode cX6_nearest 145 = .ok (.invokestatic 114, 3) := by decide +kernel
theorem dX6_nearest_148 : decode cX6_nearest 148 = .ok (.iload 6, 2) := by decide +kernel
theorem dX6_nearest_150 : decode cX6_nearest 150 = .ok (.iload 10, 2) := by decide +kernel
theorem dX6_nearest_152 : decode cX6_nearest 152 = .ok (.imul, 1) := by decide +kernel
theorem dX6_nearest_153 : decode cX6_nearest 153 = .ok (.iload 14, 2) := by decide +kernel
theorem dX6_nearest_155 : decode cX6_nearest 155 = .ok (.iload 12, 2) := by decide +kernel
theorem dX6_nearest_157 : decode cX6_nearest 157 = .ok (.iload 10, 2) := by decide +kernel
theorem dX6_nearest_159 : decode cX6_nearest 159 = .ok (.isub, 1) := by decide +kernel
theorem dX6_nearest_160 : decode cX6_nearest 160 = .ok (.imul, 1) := by decide +kernel
theorem dX6_nearest_161 : decode cX6_nearest 161 = .ok (.iadd, 1) := by decide +kernel
theorem dX6_nearest_162 : decode cX6_nearest 162 = .ok (.invokestatic 114, 3) := by decide +kernel
theorem dX6_nearest_165 : decode cX6_nearest 165 = .ok (.invokestatic 120, 3) := by decide +kernel
theorem dX6_nearest_168 : decode cX6_nearest 168 = .ok (.istore 15, 2) := by decide +kernel
theorem dX6_nearest_170 : decode cX6_nearest 170 = .ok (.iload 15, 2) := by decide +kernel
theorem dX6_nearest_172 : decode cX6_nearest 172 = .ok (.iload 13, 2) := by decide +kernel
theorem dX6_nearest_174 : decode cX6_nearest 174 = .ok (.if_icmp .ge 8, 3) := by decide +kernel
theorem dX6_nearest_177 : decode cX6_nearest 177 = .ok (.iload 15, 2) := by decide +kernel
theorem dX6_nearest_179 : decode cX6_nearest 179 = .ok (.goto 5, 3) := by decide +kernel
theorem dX6_nearest_182 : decode cX6_nearest 182 = .ok (.iload 13, 2) := by decide +kernel
theorem dX6_nearest_184 : decode cX6_nearest 184 = .ok (.istore 13, 2) := by decide +kernel
theorem dX6_nearest_186 : decode cX6_nearest 186 = .ok (.iinc 14 1, 3) := by decide +kernel
theorem dX6_nearest_189 : decode cX6_nearest 189 = .ok (.goto (-65), 3) := by decide +kernel
theorem dX6_nearest_192 : decode cX6_nearest 192 = .ok (.iload 13, 2) := by decide +kernel
theorem dX6_nearest_194 : decode cX6_nearest 194 = .ok (.ireturn, 1) := by decide +kernel
theorem dX6_mayGo_0 : decode cX6_mayGo 0 = .ok (.aload_n 0, 1) := by decide +kernel
theorem dX6_mayGo_1 : decode cX6_mayGo 1 = .ok (.getfield 45, 3) := by decide +kernel
theorem dX6_mayGo_4 : decode cX6_mayGo 4 = .ok (.iload_n 2, 1) := by decide +kernel
theorem dX6_mayGo_5 : decode cX6_mayGo 5 = .ok (.iaload, 1) := by decide +kernel
theorem dX6_mayGo_6 : decode cX6_mayGo 6 = .ok (.istore_n 3, 1) := by decide +kernel
theorem dX6_mayGo_7 : decode cX6_mayGo 7 = .ok (.iconst 0, 1) := by decide +kernel
theorem dX6_mayGo_8 : decode cX6_mayGo 8 = .ok (.istore 4, 2) := by decide +kernel
theorem dX6_mayGo_10 : decode cX6_mayGo 10 = .ok (.iload 4, 2) := by decide +kernel
theorem dX6_mayGo_12 : decode cX6_mayGo 12 = .ok (.iload_n 2, 1) := by decide +kernel
theorem dX6_mayGo_13 : decode cX6_mayGo 13 = .ok (.if_icmp .ge 31, 3) := by decide +kernel
theorem dX6_mayGo_16 : decode cX6_mayGo 16 = .ok (.aload_n 0, 1) := by decide +kernel
theorem dX6_mayGo_17 : decode cX6_mayGo 17 = .ok (.iload 4, 2) := by decide +kernel
theorem dX6_mayGo_19 : decode cX6_mayGo 19 = .ok (.invokevirtual 124, 3) := by decide +kernel
theorem dX6_mayGo_22 : decode cX6_mayGo 22 = .ok (.ifCond .ne 16, 3) := by decide +kernel
theorem dX6_mayGo_25 : decode cX6_mayGo 25 = .ok (.aload_n 0, 1) := by decide +kernel
theorem dX6_mayGo_26 : decode cX6_mayGo 26 = .ok (.getfield 45, 3) := by decide +kernel
theorem dX6_mayGo_29 : decode cX6_mayGo 29 = .ok (.iload 4, 2) := by decide +kernel
theorem dX6_mayGo_31 : decode cX6_mayGo 31 = .ok (.iaload, 1) := by decide +kernel
theorem dX6_mayGo_32 : decode cX6_mayGo 32 = .ok (.iload_n 3, 1) := by decide +kernel
theorem dX6_mayGo_33 : decode cX6_mayGo 33 = .ok (.if_icmp .ne 5, 3) := by decide +kernel
theorem dX6_mayGo_36 : decode cX6_mayGo 36 = .ok (.iconst 0, 1) := by decide +kernel
theorem dX6_mayGo_37 : decode cX6_mayGo 37 = .ok (.ireturn, 1) := by decide +kernel
theorem dX6_mayGo_38 : decode cX6_mayGo 38 = .ok (.iinc 4 1, 3) := by decide +kernel
theorem dX6_mayGo_41 : decode cX6_mayGo 41 = .ok (.goto (-31), 3) := by decide +kernel
theorem dX6_mayGo_44 : decode cX6_mayGo 44 = .ok (.iload_n 1, 1) := by decide +kernel
theorem dX6_mayGo_45 : decode cX6_mayGo 45 = .ok (.ifCond .ne 5, 3) := by decide +kernel
theorem dX6_mayGo_48 : decode cX6_mayGo 48 = .ok (.iconst 1, 1) := by decide +kernel
theorem dX6_mayGo_49 : decode cX6_mayGo 49 = .ok (.ireturn, 1) := by decide +kernel
theorem dX6_mayGo_50 : decode cX6_mayGo 50 = .ok (.aload_n 0, 1) := by decide +kernel
theorem dX6_mayGo_51 : decode cX6_mayGo 51 = .ok (.iload_n 1, 1) := by decide +kernel
theorem dX6_mayGo_52 : decode cX6_mayGo 52 = .ok (.iload_n 2, 1) := by decide +kernel
theorem dX6_mayGo_53 : decode cX6_mayGo 53 = .ok (.iload_n 3, 1) := by decide +kernel
theorem dX6_mayGo_54 : decode cX6_mayGo 54 = .ok (.invokevirtual 127, 3) := by decide +kernel
theorem dX6_mayGo_57 : decode cX6_mayGo 57 = .ok (.aload_n 0, 1) := by decide +kernel
theorem dX6_mayGo_58 : decode cX6_mayGo 58 = .ok (.getfield 13, 3) := by decide +kernel
theorem dX6_mayGo_61 : decode cX6_mayGo 61 = .ok (.iconst 2, 1) := by decide +kernel
theorem dX6_mayGo_62 : decode cX6_mayGo 62 = .ok (.iload_n 2, 1) := by decide +kernel
theorem dX6_mayGo_63 : decode cX6_mayGo 63 = .ok (.imul, 1) := by decide +kernel
theorem dX6_mayGo_64 : decode cX6_mayGo 64 = .ok (.iaload, 1) := by decide +kernel
theorem dX6_mayGo_65 : decode cX6_mayGo 65 = .ok (.aload_n 0, 1) := by decide +kernel
theorem dX6_mayGo_66 : decode cX6_mayGo 66 = .ok (.getfield 16, 3) := by decide +kernel
theorem dX6_mayGo_69 : decode cX6_mayGo 69 = .ok (.iconst 2, 1) := by decide +kernel
theorem dX6_mayGo_70 : decode cX6_mayGo 70 = .ok (.iload_n 1, 1) := by decide +kernel
theorem dX6_mayGo_71 : decode cX6_mayGo 71 = .ok (.imul, 1) := by decide +kernel
theorem dX6_mayGo_72 : decode cX6_mayGo 72 = .ok (.iaload, 1) := by decide +kernel
theorem dX6_mayGo_73 : decode cX6_mayGo 73 = .ok (.imul, 1) := by decide +kernel
theorem dX6_mayGo_74 : decode cX6_mayGo 74 = .ok (.if_icmp .le 5, 3) := by decide +kernel
theorem dX6_mayGo_77 : decode cX6_mayGo 77 = .ok (.iconst 0, 1) := by decide +kernel
theorem dX6_mayGo_78 : decode cX6_mayGo 78 = .ok (.ireturn, 1) := by decide +kernel
theorem dX6_mayGo_79 : decode cX6_mayGo 79 = .ok (.iconst 2, 1) := by decide +kernel
theorem dX6_mayGo_80 : decode cX6_mayGo 80 = .ok (.aload_n 0, 1) := by decide +kernel
theorem dX6_mayGo_81 : decode cX6_mayGo 81 = .ok (.getfield 16, 3) := by decide +kernel
theorem dX6_mayGo_84 : decode cX6_mayGo 84 = .ok (.iconst 2, 1) := by decide +kernel
theorem dX6_mayGo_85 : decode cX6_mayGo 85 = .ok (.iload_n 1, 1) := by decide +kernel
theorem dX6_mayGo_86 : decode cX6_mayGo 86 = .ok (.imul, 1) := by decide +kernel
theorem dX6_mayGo_87 : decode cX6_mayGo 87 = .ok (.iaload, 1) := by decide +kernel
theorem dX6_mayGo_88 : decode cX6_mayGo 88 = .ok (.imul, 1) := by decide +kernel
theorem dX6_mayGo_89 : decode cX6_mayGo 89 = .ok (.aload_n 0, 1) := by decide +kernel
theorem dX6_mayGo_90 : decode cX6_mayGo 90 = .ok (.getfield 7, 3) := by decide +kernel
theorem dX6_mayGo_93 : decode cX6_mayGo 93 = .ok (.iconst 2, 1) := by decide +kernel
theorem dX6_mayGo_94 : decode cX6_mayGo 94 = .ok (.iaload, 1) := by decide +kernel
theorem dX6_mayGo_95 : decode cX6_mayGo 95 = .ok (.imul, 1) := by decide +kernel
theorem dX6_mayGo_96 : decode cX6_mayGo 96 = .ok (.istore 4, 2) := by decide +kernel
theorem dX6_mayGo_98 : decode cX6_mayGo 98 = .ok (.iconst 0, 1) := by decide +kernel
theorem dX6_mayGo_99 : decode cX6_mayGo 99 = .ok (.istore 5, 2) := by decide +kernel
theorem dX6_mayGo_101 : decode cX6_mayGo 101 = .ok (.iload 5, 2) := by decide +kernel
theorem dX6_mayGo_103 : decode cX6_mayGo 103 = .ok (.iload_n 2, 1) := by decide +kernel
theorem dX6_mayGo_104 : decode cX6_mayGo 104 = .ok (.if_icmp .ge 41, 3) := by decide +kernel
theorem dX6_mayGo_107 : decode cX6_mayGo 107 = .ok (.aload_n 0, 1) := by decide +kernel
theorem dX6_mayGo_108 : decode cX6_mayGo 108 = .ok (.iload 5, 2) := by decide +kernel
theorem dX6_mayGo_110 : decode cX6_mayGo 110 = .ok (.invokevirtual 124, 3) := by decide +kernel
theorem dX6_mayGo_113 : decode cX6_mayGo 113 = .ok (.ifCond .ne 26, 3) := by decide +kernel
theorem dX6_mayGo_116 : decode cX6_mayGo 116 = .ok (.aload_n 0, 1) := by decide +kernel
theorem dX6_mayGo_117 : decode cX6_mayGo 117 = .ok (.iload_n 1, 1) := by decide +kernel
theorem dX6_mayGo_118 : decode cX6_mayGo 118 = .ok (.iload 5, 2) := by decide +kernel
theorem dX6_mayGo_120 : decode cX6_mayGo 120 = .ok (.aload_n 0, 1) := by decide +kernel
theorem dX6_mayGo_121 : decode cX6_mayGo 121 = .ok (.getfield 45, 3) := by decide +kernel
theorem dX6_mayGo_124 : decode cX6_mayGo 124 = .ok (.iload 5, 2) := by decide +kernel
theorem dX6_mayGo_126 : decode cX6_mayGo 126 = .ok (.iaload, 1) := by decide +kernel
theorem dX6_mayGo_127 : decode cX6_mayGo 127 = .ok (.iload_n 2, 1) := by decide +kernel
theorem dX6_mayGo_128 : decode cX6_mayGo 128 = .ok (.iload_n 3, 1) := by decide +kernel
theorem dX6_mayGo_129 : decode cX6_mayGo 129 = .ok (.invokevirtual 131, 3) := by decide +kernel
theorem dX6_mayGo_132 : decode cX6_mayGo 132 = .ok (.iload 4, 2) := by decide +kernel
theorem dX6_mayGo_134 : decode cX6_mayGo 134 = .ok (.if_icmp .ge 5, 3) := by decide +kernel
theorem dX6_mayGo_137 : decode cX6_mayGo 137 = .ok (.iconst 0, 1) := by decide +kernel
theorem dX6_mayGo_138 : decode cX6_mayGo 138 = .ok (.ireturn, 1) := by decide +kernel
theorem dX6_mayGo_139 : decode cX6_mayGo 139 = .ok (.iinc 5 1, 3) := by decide +kernel
theorem dX6_mayGo_142 : decode cX6_mayGo 142 = .ok (.goto (-41), 3) := by decide +kernel
theorem dX6_mayGo_145 : decode cX6_mayGo 145 = .ok (.iconst 1, 1) := by decide +kernel
theorem dX6_mayGo_146 : decode cX6_mayGo 146 = .ok (.ireturn, 1) := by decide +kernel
theorem dX6_areSolosGiven_0 : decode cX6_areSolosGiven 0 = .ok (.iconst 1, 1) := by decide +kernel
theorem dX6_areSolosGiven_1 : decode cX6_areSolosGiven 1 = .ok (.istore_n 2, 1) := by decide +kernel
theorem dX6_areSolosGiven_2 : decode cX6_areSolosGiven 2 = .ok (.iconst 0, 1) := by decide +kernel
theorem dX6_areSolosGiven_3 : decode cX6_areSolosGiven 3 = .ok (.istore_n 3, 1) := by decide +kernel
theorem dX6_areSolosGiven_4 : decode cX6_areSolosGiven 4 = .ok (.iload_n 3, 1) := by decide +kernel
theorem dX6_areSolosGiven_5 : decode cX6_areSolosGiven 5 = .ok (.aload_n 0, 1) := by decide +kernel
theorem dX6_areSolosGiven_6 : decode cX6_areSolosGiven 6 = .ok (.iload_n 1, 1) := by decide +kernel
theorem dX6_areSolosGiven_7 : decode cX6_areSolosGiven 7 = .ok (.invokevirtual 65, 3) := by decide +kernel
theorem dX6_areSolosGiven_10 : decode cX6_areSolosGiven 10 = .ok (.if_icmp .ge 101, 3) := by decide +kernel
theorem dX6_areSolosGiven_13 : decode cX6_areSolosGiven 13 = .ok (.aload_n 0, 1) := by decide +kernel
theorem dX6_areSolosGiven_14 : decode cX6_areSolosGiven 14 = .ok (.getfield 19, 3) := by decide +kernel
theorem dX6_areSolosGiven_17 : decode cX6_areSolosGiven 17 = .ok (.iconst 3, 1) := by decide +kernel
theorem dX6_areSolosGiven_18 : decode cX6_areSolosGiven 18 = .ok (.bipush 7, 2) := by decide +kernel
theorem dX6_areSolosGiven_20 : decode cX6_areSolosGiven 20 = .ok (.iload_n 1, 1) := by decide +kernel
theorem dX6_areSolosGiven_21 : decode cX6_areSolosGiven 21 = .ok (.imul, 1) := by decide +kernel
theorem dX6_areSolosGiven_22 : decode cX6_areSolosGiven 22 = .ok (.iload_n 3, 1) := by decide +kernel
theorem dX6_areSolosGiven_23 : decode cX6_areSolosGiven 23 = .ok (.iadd, 1) := by decide +kernel
theorem dX6_areSolosGiven_24 : decode cX6_areSolosGiven 24 = .ok (.imul, 1) := by decide +kernel
theorem dX6_areSolosGiven_25 : decode cX6_areSolosGiven 25 = .ok (.iconst 2, 1) := by decide +kernel
theorem dX6_areSolosGiven_26 : decode cX6_areSolosGiven 26 = .ok (.iadd, 1) := by decide +kernel
theorem dX6_areSolosGiven_27 : decode cX6_areSolosGiven 27 = .ok (.iaload, 1) := by decide +kernel
theorem dX6_areSolosGiven_28 : decode cX6_areSolosGiven 28 = .ok (.ifCond .ne 7, 3) := by decide +kernel
theorem dX6_areSolosGiven_31 : decode cX6_areSolosGiven 31 = .ok (.iconst 1, 1) := by decide +kernel
theorem dX6_areSolosGiven_32 : decode cX6_areSolosGiven 32 = .ok (.goto 4, 3) := by decide +kernel
theorem dX6_areSolosGiven_35 : decode cX6_areSolosGiven 35 = .ok (.iconst 0, 1) := by decide +kernel
theorem dX6_areSolosGiven_36 : decode cX6_areSolosGiven 36 = .ok (.istore 4, 2) := by decide +kernel
theorem dX6_areSolosGiven_38 : decode cX6_areSolosGiven 38 = .ok (.iconst 0, 1) := by decide +kernel
theorem dX6_areSolosGiven_39 : decode cX6_areSolosGiven 39 = .ok (.istore 5, 2) := by decide +kernel
theorem dX6_areSolosGiven_41 : decode cX6_areSolosGiven 41 = .ok (.iload 5, 2) := by decide +kernel
theorem dX6_areSolosGiven_43 : decode cX6_areSolosGiven 43 = .ok (.aload_n 0, 1) := by decide +kernel
theorem dX6_areSolosGiven_44 : decode cX6_areSolosGiven 44 = .ok (.getfield 7, 3) := by decide +kernel
theorem dX6_areSolosGiven_47 : decode cX6_areSolosGiven 47 = .ok (.iconst 0, 1) := by decide +kernel
theorem dX6_areSolosGiven_48 : decode cX6_areSolosGiven 48 = .ok (.iaload, 1) := by decide +kernel
theorem dX6_areSolosGiven_49 : decode cX6_areSolosGiven 49 = .ok (.if_icmp .ge 41, 3) := by decide +kernel
theorem dX6_areSolosGiven_52 : decode cX6_areSolosGiven 52 = .ok (.iload 4, 2) := by decide +kernel
theorem dX6_areSolosGiven_54 : decode cX6_areSolosGiven 54 = .ok (.ifCond .ne 23, 3) := by decide +kernel
theorem dX6_areSolosGiven_57 : decode cX6_areSolosGiven 57 = .ok (.aload_n 0, 1) := by decide +kernel
theorem dX6_areSolosGiven_58 : decode cX6_areSolosGiven 58 = .ok (.iload 5, 2) := by decide +kernel
theorem dX6_areSolosGiven_60 : decode cX6_areSolosGiven 60 = .ok (.invokevirtual 124, 3) := by decide +kernel
theorem dX6_areSolosGiven_63 : decode cX6_areSolosGiven 63 = .ok (.ifCond .ne 18, 3) := by decide +kernel
theorem dX6_areSolosGiven_66 : decode cX6_areSolosGiven 66 = .ok (.aload_n 0, 1) := by decide +kernel
theorem dX6_areSolosGiven_67 : decode cX6_areSolosGiven 67 = .ok (.getfield 45, 3) := by decide +kernel
theorem dX6_areSolosGiven_70 : decode cX6_areSolosGiven 70 = .ok (.iload 5, 2) := by decide +kernel
theorem dX6_areSolosGiven_72 : decode cX6_areSolosGiven 72 = .ok (.iaload, 1) := by decide +kernel
theorem dX6_areSolosGiven_73 : decode cX6_areSolosGiven 73 = .ok (.iload_n 3, 1) := by decide +kernel
theorem dX6_areSolosGiven_74 : decode cX6_areSolosGiven 74 = .ok (.if_icmp .ne 7, 3) := by decide +kernel
theorem dX6_areSolosGiven_77 : decode cX6_areSolosGiven 77 = .ok (.iconst 1, 1) := by decide +kernel
theorem dX6_areSolosGiven_78 : decode cX6_areSolosGiven 78 = .ok (.goto 4, 3) := by decide +kernel
theorem dX6_areSolosGiven_81 : decode cX6_areSolosGiven 81 = .ok (.iconst 0, 1) := by decide +kernel
theorem dX6_areSolosGiven_82 : decode cX6_areSolosGiven 82 = .ok (.istore 4, 2) := by decide +kernel
theorem dX6_areSolosGiven_84 : decode cX6_areSolosGiven 84 = .ok (.iinc 5 1, 3) := by decide +kernel
theorem dX6_areSolosGiven_87 : decode cX6_areSolosGiven 87 = .ok (.goto (-46), 3) := by decide +kernel
theorem dX6_areSolosGiven_90 : decode cX6_areSolosGiven 90 = .ok (.iload_n 2, 1) := by decide +kernel
theorem dX6_areSolosGiven_91 : decode cX6_areSolosGiven 91 = .ok (.ifCond .eq 12, 3) := by decide +kernel
theorem dX6_areSolosGiven_94 : decode cX6_areSolosGiven 94 = .ok (.iload 4, 2) := by decide +kernel
theorem dX6_areSolosGiven_96 : decode cX6_areSolosGiven 96 = .ok (.ifCond .eq 7, 3) := by decide +kernel
theorem dX6_areSolosGiven_99 : decode cX6_areSolosGiven 99 = .ok (.iconst 1, 1) := by decide +kernel
theorem dX6_areSolosGiven_100 : decode cX6_areSolosGiven 100 = .ok (.goto 4, 3) := by decide +kernel
theorem dX6_areSolosGiven_103 : decode cX6_areSolosGiven 103 = .ok (.iconst 0, 1) := by decide +kernel
theorem dX6_areSolosGiven_104 : decode cX6_areSolosGiven 104 = .ok (.istore_n 2, 1) := by decide +kernel
theorem dX6_areSolosGiven_105 : decode cX6_areSolosGiven 105 = .ok (.iinc 3 1, 3) := by decide +kernel
theorem dX6_areSolosGiven_108 : decode cX6_areSolosGiven 108 = .ok (.goto (-104), 3) := by decide +kernel
theorem dX6_areSolosGiven_111 : decode cX6_areSolosGiven 111 = .ok (.iload_n 2, 1) := by decide +kernel
theorem dX6_areSolosGiven_112 : decode cX6_areSolosGiven 112 = .ok (.ireturn, 1) := by decide +kernel
theorem dX6_takes_0 : decode cX6_takes 0 = .ok (.aload_n 0, 1) := by decide +kernel
theorem dX6_takes_1 : decode cX6_takes 1 = .ok (.iload_n 1, 1) := by decide +kernel
theorem dX6_takes_2 : decode cX6_takes 2 = .ok (.invokevirtual 135, 3) := by decide +kernel
theorem dX6_takes_5 : decode cX6_takes 5 = .ok (.ifCond .ne 4, 3) := by decide +kernel
theorem dX6_takes_8 : decode cX6_takes 8 = .ok (.return_, 1) := by decide +kernel
theorem dX6_takes_9 : decode cX6_takes 9 = .ok (.iconst 0, 1) := by decide +kernel
theorem dX6_takes_10 : decode cX6_takes 10 = .ok (.istore_n 2, 1) := by decide +kernel
theorem dX6_takes_11 : decode cX6_takes 11 = .ok (.iconst 0, 1) := by decide +kernel
theorem dX6_takes_12 : decode cX6_takes 12 = .ok (.istore_n 3, 1) := by decide +kernel
theorem dX6_takes_13 : decode cX6_takes 13 = .ok (.iconst 0, 1) := by decide +kernel
theorem dX6_takes_14 : decode cX6_takes 14 = .ok (.istore 4, 2) := by decide +kernel
theorem dX6_takes_16 : decode cX6_takes 16 = .ok (.iload 4, 2) := by decide +kernel
theorem dX6_takes_18 : decode cX6_takes 18 = .ok (.aload_n 0, 1) := by decide +kernel
theorem dX6_takes_19 : decode cX6_takes 19 = .ok (.getfield 7, 3) := by decide +kernel
theorem dX6_takes_22 : decode cX6_takes 22 = .ok (.iconst 0, 1) := by decide +kernel
theorem dX6_takes_23 : decode cX6_takes 23 = .ok (.iaload, 1) := by decide +kernel
theorem dX6_takes_24 : decode cX6_takes 24 = .ok (.if_icmp .ge 54, 3) := by decide +kernel
theorem dX6_takes_27 : decode cX6_takes 27 = .ok (.iload_n 1, 1) := by decide +kernel
theorem dX6_takes_28 : decode cX6_takes 28 = .ok (.ifCond .le 50, 3) := by decide +kernel
theorem dX6_takes_31 : decode cX6_takes 31 = .ok (.aload_n 0, 1) := by decide +kernel
theorem dX6_takes_32 : decode cX6_takes 32 = .ok (.iload 4, 2) := by decide +kernel
theorem dX6_takes_34 : decode cX6_takes 34 = .ok (.invokevirtual 124, 3) := by decide +kernel
theorem dX6_takes_37 : decode cX6_takes 37 = .ok (.ifCond .eq 7, 3) := by decide +kernel
theorem dX6_takes_40 : decode cX6_takes 40 = .ok (.iconst 0, 1) := by decide +kernel
theorem dX6_takes_41 : decode cX6_takes 41 = .ok (.goto 17, 3) := by decide +kernel
theorem dX6_takes_44 : decode cX6_takes 44 = .ok (.aload_n 0, 1) := by decide +kernel
theorem dX6_takes_45 : decode cX6_takes 45 = .ok (.iload_n 1, 1) := by decide +kernel
theorem dX6_takes_46 : decode cX6_takes 46 = .ok (.iload 4, 2) := by decide +kernel
theorem dX6_takes_48 : decode cX6_takes 48 = .ok (.aload_n 0, 1) := by decide +kernel
theorem dX6_takes_49 : decode cX6_takes 49 = .ok (.getfield 45, 3) := by decide +kernel
theorem dX6_takes_52 : decode cX6_takes 52 = .ok (.iload 4, 2) := by decide +kernel
theorem dX6_takes_54 : decode cX6_takes 54 = .ok (.iaload, 1) := by decide +kernel
theorem dX6_takes_55 : decode cX6_takes 55 = .ok (.invokevirtual 127, 3) := by decide +kernel
theorem dX6_takes_58 : decode cX6_takes 58 = .ok (.istore 5, 2) := by decide +kernel
theorem dX6_takes_60 : decode cX6_takes 60 = .ok (.iload_n 2, 1) := by decide +kernel
theorem dX6_takes_61 : decode cX6_takes 61 = .ok (.iload 5, 2) := by decide +kernel
theorem dX6_takes_63 : decode cX6_takes 63 = .ok (.invokestatic 120, 3) := by decide +kernel
theorem dX6_takes_66 : decode cX6_takes 66 = .ok (.istore_n 2, 1) := by decide +kernel
theorem dX6_takes_67 : decode cX6_takes 67 = .ok (.iload_n 3, 1) := by decide +kernel
theorem dX6_takes_68 : decode cX6_takes 68 = .ok (.iload 5, 2) := by decide +kernel
theorem dX6_takes_70 : decode cX6_takes 70 = .ok (.iadd, 1) := by decide +kernel
theorem dX6_takes_71 : decode cX6_takes 71 = .ok (.istore_n 3, 1) := by decide +kernel
theorem dX6_takes_72 : decode cX6_takes 72 = .ok (.iinc 4 1, 3) := by decide +kernel
theorem dX6_takes_75 : decode cX6_takes 75 = .ok (.goto (-59), 3) := by decide +kernel
theorem dX6_takes_78 : decode cX6_takes 78 = .ok (.aload_n 0, 1) := by decide +kernel
theorem dX6_takes_79 : decode cX6_takes 79 = .ok (.getfield 35, 3) := by decide +kernel
theorem dX6_takes_82 : decode cX6_takes 82 = .ok (.iload_n 1, 1) := by decide +kernel
theorem dX6_takes_83 : decode cX6_takes 83 = .ok (.baload, 1) := by decide +kernel
theorem dX6_takes_84 : decode cX6_takes 84 = .ok (.ifCond .eq 33, 3) := by decide +kernel
theorem dX6_takes_87 : decode cX6_takes 87 = .ok (.iload_n 2, 1) := by decide +kernel
theorem dX6_takes_88 : decode cX6_takes 88 = .ok (.aload_n 0, 1) := by decide +kernel
theorem dX6_takes_89 : decode cX6_takes 89 = .ok (.getfield 39, 3) := by decide +kernel
theorem dX6_takes_92 : decode cX6_takes 92 = .ok (.iload_n 1, 1) := by decide +kernel
theorem dX6_takes_93 : decode cX6_takes 93 = .ok (.iaload, 1) := by decide +kernel
theorem dX6_takes_94 : decode cX6_takes 94 = .ok (.if_icmp .lt 23, 3) := by decide +kernel
theorem dX6_takes_97 : decode cX6_takes 97 = .ok (.iload_n 2, 1) := by decide +kernel
theorem dX6_takes_98 : decode cX6_takes 98 = .ok (.aload_n 0, 1) := by decide +kernel
theorem dX6_takes_99 : decode cX6_takes 99 = .ok (.getfield 39, 3) := by decide +kernel
theorem dX6_takes_102 : decode cX6_takes 102 = .ok (.iload_n 1, 1) := by decide +kernel
theorem dX6_takes_103 : decode cX6_takes 103 = .ok (.iaload, 1) := by decide +kernel
theorem dX6_takes_104 : decode cX6_takes 104 = .ok (.if_icmp .ne 73, 3) := by decide +kernel
theorem dX6_takes_107 : decode cX6_takes 107 = .ok (.iload_n 3, 1) := by decide +kernel
theorem dX6_takes_108 : decode cX6_takes 108 = .ok (.aload_n 0, 1) := by decide +kernel
theorem dX6_takes_109 : decode cX6_takes 109 = .ok (.getfield 42, 3) := by decide +kernel
theorem dX6_takes_112 : decode cX6_takes 112 = .ok (.iload_n 1, 1) := by decide +kernel
theorem dX6_takes_113 : decode cX6_takes 113 = .ok (.iaload, 1) := by decide +kernel
theorem dX6_takes_114 : decode cX6_takes 114 = .ok (.if_icmp .ge 63, 3) := by decide +kernel
theorem dX6_takes_117 : decode cX6_takes 117 = .ok (.aload_n 0, 1) := by decide +kernel
theorem dX6_takes_118 : decode cX6_takes 118 = .ok (.getfield 35, 3) := by decide +kernel
theorem dX6_takes_121 : decode cX6_takes 121 = .ok (.iload_n 1, 1) := by decide +kernel
theorem dX6_takes_122 : decode cX6_takes 122 = .ok (.iconst 1, 1) := by decide +kernel
theorem dX6_takes_123 : decode cX6_takes 123 = .ok (.bastore, 1) := by decide +kernel
theorem dX6_takes_124 : decode cX6_takes 124 = .ok (.aload_n 0, 1) := by decide +kernel
theorem dX6_takes_125 : decode cX6_takes 125 = .ok (.getfield 39, 3) := by decide +kernel
theorem dX6_takes_128 : decode cX6_takes 128 = .ok (.iload_n 1, 1) := by decide +kernel
theorem dX6_takes_129 : decode cX6_takes 129 = .ok (.iload_n 2, 1) := by decide +kernel
theorem dX6_takes_130 : decode cX6_takes 130 = .ok (.iastore, 1) := by decide +kernel
theorem dX6_takes_131 : decode cX6_takes 131 = .ok (.aload_n 0, 1) := by decide +kernel
theorem dX6_takes_132 : decode cX6_takes 132 = .ok (.getfield 42, 3) := by decide +kernel
theorem dX6_takes_135 : decode cX6_takes 135 = .ok (.iload_n 1, 1) := by decide +kernel
theorem dX6_takes_136 : decode cX6_takes 136 = .ok (.iload_n 3, 1) := by decide +kernel
theorem dX6_takes_137 : decode cX6_takes 137 = .ok (.iastore, 1) := by decide +kernel
theorem dX6_takes_138 : decode cX6_takes 138 = .ok (.iconst 0, 1) := by decide +kernel
theorem dX6_takes_139 : decode cX6_takes 139 = .ok (.istore 4, 2) := by decide +kernel
theorem dX6_takes_141 : decode cX6_takes 141 = .ok (.iload 4, 2) := by decide +kernel
theorem dX6_takes_143 : decode cX6_takes 143 = .ok (.aload_n 0, 1) := by decide +kernel
theorem dX6_takes_144 : decode cX6_takes 144 = .ok (.getfield 7, 3) := by decide +kernel
theorem dX6_takes_147 : decode cX6_takes 147 = .ok (.iconst 0, 1) := by decide +kernel
theorem dX6_takes_148 : decode cX6_takes 148 = .ok (.iaload, 1) := by decide +kernel
theorem dX6_takes_149 : decode cX6_takes 149 = .ok (.if_icmp .ge 28, 3) := by decide +kernel
theorem dX6_takes_152 : decode cX6_takes 152 = .ok (.aload_n 0, 1) := by decide +kernel
theorem dX6_takes_153 : decode cX6_takes 153 = .ok (.getfield 32, 3) := by decide +kernel
theorem dX6_takes_156 : decode cX6_takes 156 = .ok (.bipush 6, 2) := by decide +kernel
theorem dX6_takes_158 : decode cX6_takes 158 = .ok (.iload_n 1, 1) := by decide +kernel
theorem dX6_takes_159 : decode cX6_takes 159 = .ok (.imul, 1) := by decide +kernel
theorem dX6_takes_160 : decode cX6_takes 160 = .ok (.iload 4, 2) := by decide +kernel
theorem dX6_takes_162 : decode cX6_takes 162 = .ok (.iadd, 1) := by decide +kernel
theorem dX6_takes_163 : decode cX6_takes 163 = .ok (.aload_n 0, 1) := by decide +kernel
theorem dX6_takes_164 : decode cX6_takes 164 = .ok (.getfield 45, 3) := by decide +kernel
theorem dX6_takes_167 : decode cX6_takes 167 = .ok (.iload 4, 2) := by decide +kernel
theorem dX6_takes_169 : decode cX6_takes 169 = .ok (.iaload, 1) := by decide +kernel
theorem dX6_takes_170 : decode cX6_takes 170 = .ok (.iastore, 1) := by decide +kernel
theorem dX6_takes_171 : decode cX6_takes 171 = .ok (.iinc 4 1, 3) := by decide +kernel
theorem dX6_takes_174 : decode cX6_takes 174 = .ok (.goto (-33), 3) := by decide +kernel
theorem dX6_takes_177 : decode cX6_takes 177 = .ok (.return_, 1) := by decide +kernel
theorem dX6_seek_0 : decode cX6_seek 0 = .ok (.aload_n 0, 1) := by decide +kernel
theorem dX6_seek_1 : decode cX6_seek 1 = .ok (.getfield 35, 3) := by decide +kernel
theorem dX6_seek_4 : decode cX6_seek 4 = .ok (.iload_n 1, 1) := by decide +kernel
theorem dX6_seek_5 : decode cX6_seek 5 = .ok (.iconst 0, 1) := by decide +kernel
theorem dX6_seek_6 : decode cX6_seek 6 = .ok (.bastore, 1) := by decide +kernel
theorem dX6_seek_7 : decode cX6_seek 7 = .ok (.iload_n 1, 1) := by decide +kernel
theorem dX6_seek_8 : decode cX6_seek 8 = .ok (.ifCond .le 15, 3) := by decide +kernel
theorem dX6_seek_11 : decode cX6_seek 11 = .ok (.aload_n 0, 1) := by decide +kernel
theorem dX6_seek_12 : decode cX6_seek 12 = .ok (.getfield 35, 3) := by decide +kernel
theorem dX6_seek_15 : decode cX6_seek 15 = .ok (.iload_n 1, 1) := by decide +kernel
theorem dX6_seek_16 : decode cX6_seek 16 = .ok (.iconst 1, 1) := by decide +kernel
theorem dX6_seek_17 : decode cX6_seek 17 = .ok (.isub, 1) := by decide +kernel
theorem dX6_seek_18 : decode cX6_seek 18 = .ok (.baload, 1) := by decide +kernel
theorem dX6_seek_19 : decode cX6_seek 19 = .ok (.ifCond .ne 4, 3) := by decide +kernel
theorem dX6_seek_22 : decode cX6_seek 22 = .ok (.return_, 1) := by decide +kernel
theorem dX6_seek_23 : decode cX6_seek 23 = .ok (.iconst 0, 1) := by decide +kernel
theorem dX6_seek_24 : decode cX6_seek 24 = .ok (.istore_n 2, 1) := by decide +kernel
theorem dX6_seek_25 : decode cX6_seek 25 = .ok (.iconst 0, 1) := by decide +kernel
theorem dX6_seek_26 : decode cX6_seek 26 = .ok (.istore_n 3, 1) := by decide +kernel
theorem dX6_seek_27 : decode cX6_seek 27 = .ok (.iload_n 3, 1) := by decide +kernel
theorem dX6_seek_28 : decode cX6_seek 28 = .ok (.aload_n 0, 1) := by decide +kernel
theorem dX6_seek_29 : decode cX6_seek 29 = .ok (.getfield 7, 3) := by decide +kernel
theorem dX6_seek_32 : decode cX6_seek 32 = .ok (.iconst 0, 1) := by decide +kernel
theorem dX6_seek_33 : decode cX6_seek 33 = .ok (.iaload, 1) := by decide +kernel
theorem dX6_seek_34 : decode cX6_seek 34 = .ok (.if_icmp .ge 27, 3) := by decide +kernel
theorem dX6_seek_37 : decode cX6_seek 37 = .ok (.aload_n 0, 1) := by decide +kernel
theorem dX6_seek_38 : decode cX6_seek 38 = .ok (.iload_n 3, 1) := by decide +kernel
theorem dX6_seek_39 : decode cX6_seek 39 = .ok (.invokevirtual 124, 3) := by decide +kernel
theorem dX6_seek_42 : decode cX6_seek 42 = .ok (.ifCond .ne 13, 3) := by decide +kernel
theorem dX6_seek_45 : decode cX6_seek 45 = .ok (.aload_n 0, 1) := by decide +kernel
theorem dX6_seek_46 : decode cX6_seek 46 = .ok (.getfield 48, 3) := by decide +kernel
theorem dX6_seek_49 : decode cX6_seek 49 = .ok (.iload_n 2, 1) := by decide +kernel
theorem dX6_seek_50 : decode cX6_seek 50 = .ok (.iload_n 3, 1) := by decide +kernel
theorem dX6_seek_51 : decode cX6_seek 51 = .ok (.iastore, 1) := by decide +kernel
theorem dX6_seek_52 : decode cX6_seek 52 = .ok (.iinc 2 1, 3) := by decide +kernel
theorem dX6_seek_55 : decode cX6_seek 55 = .ok (.iinc 3 1, 3) := by decide +kernel
theorem dX6_seek_58 : decode cX6_seek 58 = .ok (.goto (-31), 3) := by decide +kernel
theorem dX6_seek_61 : decode cX6_seek 61 = .ok (.iconst 0, 1) := by decide +kernel
theorem dX6_seek_62 : decode cX6_seek 62 = .ok (.istore_n 3, 1) := by decide +kernel
theorem dX6_seek_63 : decode cX6_seek 63 = .ok (.aload_n 0, 1) := by decide +kernel
theorem dX6_seek_64 : decode cX6_seek 64 = .ok (.getfield 45, 3) := by decide +kernel
theorem dX6_seek_67 : decode cX6_seek 67 = .ok (.aload_n 0, 1) := by decide +kernel
theorem dX6_seek_68 : decode cX6_seek 68 = .ok (.getfield 48, 3) := by decide +kernel
theorem dX6_seek_71 : decode cX6_seek 71 = .ok (.iconst 0, 1) := by decide +kernel
theorem dX6_seek_72 : decode cX6_seek 72 = .ok (.iaload, 1) := by decide +kernel
theorem dX6_seek_73 : decode cX6_seek 73 = .ok (.iconst (-1), 1) := by decide +kernel
theorem dX6_seek_74 : decode cX6_seek 74 = .ok (.iastore, 1) := by decide +kernel
theorem dX6_seek_75 : decode cX6_seek 75 = .ok (.iload_n 3, 1) := by decide +kernel
theorem dX6_seek_76 : decode cX6_seek 76 = .ok (.ifCond .lt 110, 3) := by decide +kernel
theorem dX6_seek_79 : decode cX6_seek 79 = .ok (.iload_n 3, 1) := by decide +kernel
theorem dX6_seek_80 : decode cX6_seek 80 = .ok (.iload_n 2, 1) := by decide +kernel
theorem dX6_seek_81 : decode cX6_seek 81 = .ok (.if_icmp .ne 32, 3) := by decide +kernel
theorem dX6_seek_84 : decode cX6_seek 84 = .ok (.aload_n 0, 1) := by decide +kernel
theorem dX6_seek_85 : decode cX6_seek 85 = .ok (.iload_n 1, 1) := by decide +kernel
theorem dX6_seek_86 : decode cX6_seek 86 = .ok (.invokevirtual 138, 3) := by decide +kernel
theorem dX6_seek_89 : decode cX6_seek 89 = .ok (.iload_n 1, 1) := by decide +kernel
theorem dX6_seek_90 : decode cX6_seek 90 = .ok (.ifCond .ne 16, 3) := by decide +kernel
theorem dX6_seek_93 : decode cX6_seek 93 = .ok (.aload_n 0, 1) := by decide +kernel
theorem dX6_seek_94 : decode cX6_seek 94 = .ok (.getfield 35, 3) := by decide +kernel
theorem dX6_seek_97 : decode cX6_seek 97 = .ok (.iconst 0, 1) := by decide +kernel
theorem dX6_seek_98 : decode cX6_seek 98 = .ok (.baload, 1) := by decide +kernel
theorem dX6_seek_99 : decode cX6_seek 99 = .ok (.ifCond .eq 7, 3) := by decide +kernel
theorem dX6_seek_102 : decode cX6_seek 102 = .ok (.iconst (-1), 1) := by decide +kernel
theorem dX6_seek_103 : decode cX6_seek 103 = .ok (.goto 6, 3) := by decide +kernel
theorem dX6_seek_106 : decode cX6_seek 106 = .ok (.iload_n 3, 1) := by decide +kernel
theorem dX6_seek_107 : decode cX6_seek 107 = .ok (.iconst 1, 1) := by decide +kernel
theorem dX6_seek_108 : decode cX6_seek 108 = .ok (.isub, 1) := by decide +kernel
theorem dX6_seek_109 : decode cX6_seek 109 = .ok (.istore_n 3, 1) := by decide +kernel
theorem dX6_seek_110 : decode cX6_seek 110 = .ok (.goto (-35), 3) := by decide +kernel
theorem dX6_seek_113 : decode cX6_seek 113 = .ok (.aload_n 0, 1) := by decide +kernel
theorem dX6_seek_114 : decode cX6_seek 114 = .ok (.getfield 48, 3) := by decide +kernel
theorem dX6_seek_117 : decode cX6_seek 117 = .ok (.iload_n 3, 1) := by decide +kernel
theorem dX6_seek_118 : decode cX6_seek 118 = .ok (.iaload, 1) := by decide +kernel
theorem dX6_seek_119 : decode cX6_seek 119 = .ok (.istore 4, 2) := by decide +kernel
theorem dX6_seek_121 : decode cX6_seek 121 = .ok (.aload_n 0, 1) := by decide +kernel
theorem dX6_seek_122 : decode cX6_seek 122 = .ok (.getfield 45, 3) := by decide +kernel
theorem dX6_seek_125 : decode cX6_seek 125 = .ok (.iload 4, 2) := by decide +kernel
theorem dX6_seek_127 : decode cX6_seek 127 = .ok (.dup2, 1) := by decide +kernel
theorem dX6_seek_128 : decode cX6_seek 128 = .ok (.iaload, 1) := by decide +kernel
theorem dX6_seek_129 : decode cX6_seek 129 = .ok (.iconst 1, 1) := by decide +kernel
theorem dX6_seek_130 : decode cX6_seek 130 = .ok (.iadd, 1) := by decide +kernel
theorem dX6_seek_131 : decode cX6_seek 131 = .ok (.iastore, 1) := by decide +kernel
theorem dX6_seek_132 : decode cX6_seek 132 = .ok (.aload_n 0, 1) := by decide +kernel
theorem dX6_seek_133 : decode cX6_seek 133 = .ok (.getfield 45, 3) := by decide +kernel
theorem dX6_seek_136 : decode cX6_seek 136 = .ok (.iload 4, 2) := by decide +kernel
theorem dX6_seek_138 : decode cX6_seek 138 = .ok (.iaload, 1) := by decide +kernel
theorem dX6_seek_139 : decode cX6_seek 139 = .ok (.aload_n 0, 1) := by decide +kernel
theorem dX6_seek_140 : decode cX6_seek 140 = .ok (.iload_n 1, 1) := by decide +kernel
theorem dX6_seek_141 : decode cX6_seek 141 = .ok (.invokevirtual 65, 3) := by decide +kernel
theorem dX6_seek_144 : decode cX6_seek 144 = .ok (.if_icmp .ne 9, 3) := by decide +kernel
theorem dX6_seek_147 : decode cX6_seek 147 = .ok (.iinc 3 (-1), 3) := by decide +kernel
theorem dX6_seek_150 : decode cX6_seek 150 = .ok (.goto 33, 3) := by decide +kernel
theorem dX6_seek_153 : decode cX6_seek 153 = .ok (.aload_n 0, 1) := by decide +kernel
theorem dX6_seek_154 : decode cX6_seek 154 = .ok (.iload_n 1, 1) := by decide +kernel
theorem dX6_seek_155 : decode cX6_seek 155 = .ok (.iload 4, 2) := by decide +kernel
theorem dX6_seek_157 : decode cX6_seek 157 = .ok (.invokevirtual 142, 3) := by decide +kernel
theorem dX6_seek_160 : decode cX6_seek 160 = .ok (.ifCond .eq 23, 3) := by decide +kernel
theorem dX6_seek_163 : decode cX6_seek 163 = .ok (.iinc 3 1, 3) := by decide +kernel
theorem dX6_seek_166 : decode cX6_seek 166 = .ok (.iload_n 3, 1) := by decide +kernel
theorem dX6_seek_167 : decode cX6_seek 167 = .ok (.iload_n 2, 1) := by decide +kernel
theorem dX6_seek_168 : decode cX6_seek 168 = .ok (.if_icmp .ge 15, 3) := by decide +kernel
theorem dX6_seek_171 : decode cX6_seek 171 = .ok (.aload_n 0, 1) := by decide +kernel
theorem dX6_seek_172 : decode cX6_seek 172 = .ok (.getfield 45, 3) := by decide +kernel
theorem dX6_seek_175 : decode cX6_seek 175 = .ok (.aload_n 0, 1) := by decide +kernel
theorem dX6_seek_176 : decode cX6_seek 176 = .ok (.getfield 48, 3) := by decide +kernel
theorem dX6_seek_179 : decode cX6_seek 179 = .ok (.iload_n 3, 1) := by decide +kernel
theorem dX6_seek_180 : decode cX6_seek 180 = .ok (.iaload, 1) := by decide +kernel
theorem dX6_seek_181 : decode cX6_seek 181 = .ok (.iconst (-1), 1) := by decide +kernel
theorem dX6_seek_182 : decode cX6_seek 182 = .ok (.iastore, 1) := by decide +kernel
theorem dX6_seek_183 : decode cX6_seek 183 = .ok (.goto (-108), 3) := by decide +kernel
theorem dX6_seek_186 : decode cX6_seek 186 = .ok (.return_, 1) := by decide +kernel
theorem dX6_findAll_0 : decode cX6_findAll 0 = .ok (.iconst 0, 1) := by decide +kernel
theorem dX6_findAll_1 : decode cX6_findAll 1 = .ok (.istore_n 1, 1) := by decide +kernel
theorem dX6_findAll_2 : decode cX6_findAll 2 = .ok (.iload_n 1, 1) := by decide +kernel
theorem dX6_findAll_3 : decode cX6_findAll 3 = .ok (.aload_n 0, 1) := by decide +kernel
theorem dX6_findAll_4 : decode cX6_findAll 4 = .ok (.getfield 7, 3) := by decide +kernel
theorem dX6_findAll_7 : decode cX6_findAll 7 = .ok (.iconst 1, 1) := by decide +kernel
theorem dX6_findAll_8 : decode cX6_findAll 8 = .ok (.iaload, 1) := by decide +kernel
theorem dX6_findAll_9 : decode cX6_findAll 9 = .ok (.if_icmp .ge 14, 3) := by decide +kernel
theorem dX6_findAll_12 : decode cX6_findAll 12 = .ok (.aload_n 0, 1) := by decide +kernel
theorem dX6_findAll_13 : decode cX6_findAll 13 = .ok (.iload_n 1, 1) := by decide +kernel
theorem dX6_findAll_14 : decode cX6_findAll 14 = .ok (.invokevirtual 145, 3) := by decide +kernel
theorem dX6_findAll_17 : decode cX6_findAll 17 = .ok (.iinc 1 1, 3) := by decide +kernel
theorem dX6_findAll_20 : decode cX6_findAll 20 = .ok (.goto (-18), 3) := by decide +kernel
theorem dX6_findAll_23 : decode cX6_findAll 23 = .ok (.return_, 1) := by decide +kernel
