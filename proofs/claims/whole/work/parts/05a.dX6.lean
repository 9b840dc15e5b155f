theorem dX6_init_0 : decode cX6_init 0 = .ok (.aload_n 0, 1) := by decide +kernel
theorem dX6_init_1 : decode cX6_init 1 = .ok (.invokespecial 1, 3) := by decide +kernel
theorem dX6_init_4 : decode cX6_init 4 = .ok (.aload_n 0, 1) := by decide +kernel
theorem dX6_init_5 : decode cX6_init 5 = .ok (.bipush 6, 2) := by decide +kernel
theorem dX6_init_7 : decode cX6_init 7 = .ok (.newarray .int, 2) := by decide +kernel
theorem dX6_init_9 : decode cX6_init 9 = .ok (.dup, 1) := by decide +kernel
theorem dX6_init_10 : decode cX6_init 10 = .ok (.iconst 0, 1) := by decide +kernel
theorem dX6_init_11 : decode cX6_init 11 = .ok (.iconst 0, 1) := by decide +kernel
theorem dX6_init_12 : decode cX6_init 12 = .ok (.iastore, 1) := by decide +kernel
theorem dX6_init_13 : decode cX6_init 13 = .ok (.dup, 1) := by decide +kernel
theorem dX6_init_14 : decode cX6_init 14 = .ok (.iconst 1, 1) := by decide +kernel
theorem dX6_init_15 : decode cX6_init 15 = .ok (.iconst 0, 1) := by decide +kernel
theorem dX6_init_16 : decode cX6_init 16 = .ok (.iastore, 1) := by decide +kernel
theorem dX6_init_17 : decode cX6_init 17 = .ok (.dup, 1) := by decide +kernel
theorem dX6_init_18 : decode cX6_init 18 = .ok (.iconst 2, 1) := by decide +kernel
theorem dX6_init_19 : decode cX6_init 19 = .ok (.iconst 1, 1) := by decide +kernel
theorem dX6_init_20 : decode cX6_init 20 = .ok (.iastore, 1) := by decide +kernel
theorem dX6_init_21 : decode cX6_init 21 = .ok (.dup, 1) := by decide +kernel
theorem dX6_init_22 : decode cX6_init 22 = .ok (.iconst 3, 1) := by decide +kernel
theorem dX6_init_23 : decode cX6_init 23 = .ok (.bipush 10, 2) := by decide +kernel
theorem dX6_init_25 : decode cX6_init 25 = .ok (.iastore, 1) := by decide +kernel
theorem dX6_init_26 : decode cX6_init 26 = .ok (.dup, 1) := by decide +kernel
theorem dX6_init_27 : decode cX6_init 27 = .ok (.iconst 4, 1) := by decide +kernel
theorem dX6_init_28 : decode cX6_init 28 = .ok (.bipush 20, 2) := by decide +kernel
theorem dX6_init_30 : decode cX6_init 30 = .ok (.iastore, 1) := by decide +kernel
theorem dX6_init_31 : decode cX6_init 31 = .ok (.dup, 1) := by decide +kernel
theorem dX6_init_32 : decode cX6_init 32 = .ok (.iconst 5, 1) := by decide +kernel
theorem dX6_init_33 : decode cX6_init 33 = .ok (.iconst 0, 1) := by decide +kernel
theorem dX6_init_34 : decode cX6_init 34 = .ok (.iastore, 1) := by decide +kernel
theorem dX6_init_35 : decode cX6_init 35 = .ok (.putfield 7, 3) := by decide +kernel
theorem dX6_init_38 : decode cX6_init 38 = .ok (.aload_n 0, 1) := by decide +kernel
theorem dX6_init_39 : decode cX6_init 39 = .ok (.bipush 12, 2) := by decide +kernel
theorem dX6_init_41 : decode cX6_init 41 = .ok (.newarray .int, 2) := by decide +kernel
theorem dX6_init_43 : decode cX6_init 43 = .ok (.putfield 13, 3) := by decide +kernel
theorem dX6_init_46 : decode cX6_init 46 = .ok (.aload_n 0, 1) := by decide +kernel
theorem dX6_init_47 : decode cX6_init 47 = .ok (.bipush 10, 2) := by decide +kernel
theorem dX6_init_49 : decode cX6_init 49 = .ok (.newarray .int, 2) := by decide +kernel
theorem dX6_init_51 : decode cX6_init 51 = .ok (.putfield 16, 3) := by decide +kernel
theorem dX6_init_54 : decode cX6_init 54 = .ok (.aload_n 0, 1) := by decide +kernel
theorem dX6_init_55 : decode cX6_init 55 = .ok (.bipush 105, 2) := by decide +kernel
theorem dX6_init_57 : decode cX6_init 57 = .ok (.newarray .int, 2) := by decide +kernel
theorem dX6_init_59 : decode cX6_init 59 = .ok (.putfield 19, 3) := by decide +kernel
theorem dX6_init_62 : decode cX6_init 62 = .ok (.aload_n 0, 1) := by decide +kernel
theorem dX6_init_63 : decode cX6_init 63 = .ok (.sipush 133, 3) := by decide +kernel
theorem dX6_init_66 : decode cX6_init 66 = .ok (.newarray .int, 2) := by decide +kernel
theorem dX6_init_68 : decode cX6_init 68 = .ok (.putfield 22, 3) := by decide +kernel
theorem dX6_init_71 : decode cX6_init 71 = .ok (.aload_n 0, 1) := by decide +kernel
theorem dX6_init_72 : decode cX6_init 72 = .ok (.bipush 16, 2) := by decide +kernel
theorem dX6_init_74 : decode cX6_init 74 = .ok (.newarray .long, 2) := by decide +kernel
theorem dX6_init_76 : decode cX6_init 76 = .ok (.putfield 25, 3) := by decide +kernel
theorem dX6_init_79 : decode cX6_init 79 = .ok (.aload_n 0, 1) := by decide +kernel
theorem dX6_init_80 : decode cX6_init 80 = .ok (.bipush 16, 2) := by decide +kernel
theorem dX6_init_82 : decode cX6_init 82 = .ok (.newarray .long, 2) := by decide +kernel
theorem dX6_init_84 : decode cX6_init 84 = .ok (.putfield 29, 3) := by decide +kernel
theorem dX6_init_87 : decode cX6_init 87 = .ok (.aload_n 0, 1) := by decide +kernel
theorem dX6_init_88 : decode cX6_init 88 = .ok (.bipush 30, 2) := by decide +kernel
theorem dX6_init_90 : decode cX6_init 90 = .ok (.newarray .int, 2) := by decide +kernel
theorem dX6_init_92 : decode cX6_init 92 = .ok (.putfield 32, 3) := by decide +kernel
theorem dX6_init_95 : decode cX6_init 95 = .ok (.aload_n 0, 1) := by decide +kernel
theorem dX6_init_96 : decode cX6_init 96 = .ok (.iconst 5, 1) := by decide +kernel
theorem dX6_init_97 : decode cX6_init 97 = .ok (.newarray .boolean, 2) := by decide +kernel
theorem dX6_init_99 : decode cX6_init 99 = .ok (.putfield 35, 3) := by decide +kernel
theorem dX6_init_102 : decode cX6_init 102 = .ok (.aload_n 0, 1) := by decide +kernel
theorem dX6_init_103 : decode cX6_init 103 = .ok (.iconst 5, 1) := by decide +kernel
theorem dX6_init_104 : decode cX6_init 104 = .ok (.newarray .int, 2) := by decide +kernel
theorem dX6_init_106 : decode cX6_init 106 = .ok (.putfield 39, 3) := by decide +kernel
theorem dX6_init_109 : decode cX6_init 109 = .ok (.aload_n 0, 1) := by decide +kernel
theorem dX6_init_110 : decode cX6_init 110 = .ok (.iconst 5, 1) := by decide +kernel
theorem dX6_init_111 : decode cX6_init 111 = .ok (.newarray .int, 2) := by decide +kernel
theorem dX6_init_113 : decode cX6_init 113 = .ok (.putfield 42, 3) := by decide +kernel
theorem dX6_init_116 : decode cX6_init 116 = .ok (.aload_n 0, 1) := by decide +kernel
theorem dX6_init_117 : decode cX6_init 117 = .ok (.bipush 6, 2) := by decide +kernel
theorem dX6_init_119 : decode cX6_init 119 = .ok (.newarray .int, 2) := by decide +kernel
theorem dX6_init_121 : decode cX6_init 121 = .ok (.putfield 45, 3) := by decide +kernel
theorem dX6_init_124 : decode cX6_init 124 = .ok (.aload_n 0, 1) := by decide +kernel
theorem dX6_init_125 : decode cX6_init 125 = .ok (.bipush 6, 2) := by decide +kernel
theorem dX6_init_127 : decode cX6_init 127 = .ok (.newarray .int, 2) := by decide +kernel
theorem dX6_init_129 : decode cX6_init 129 = .ok (.putfield 48, 3) := by decide +kernel
theorem dX6_init_132 : decode cX6_init 132 = .ok (.aload_n 0, 1) := by decide +kernel
theorem dX6_init_133 : decode cX6_init 133 = .ok (.bipush 30, 2) := by decide +kernel
theorem dX6_init_135 : decode cX6_init 135 = .ok (.newarray .int, 2) := by decide +kernel
theorem dX6_init_137 : decode cX6_init 137 = .ok (.putfield 51, 3) := by decide +kernel
theorem dX6_init_140 : decode cX6_init 140 = .ok (.aload_n 0, 1) := by decide +kernel
theorem dX6_init_141 : decode cX6_init 141 = .ok (.iconst 5, 1) := by decide +kernel
theorem dX6_init_142 : decode cX6_init 142 = .ok (.newarray .boolean, 2) := by decide +kernel
theorem dX6_init_144 : decode cX6_init 144 = .ok (.putfield 54, 3) := by decide +kernel
theorem dX6_init_147 : decode cX6_init 147 = .ok (.return_, 1) := by decide +kernel
theorem dX6_in_0 : decode cX6_in 0 = .ok (.lload_n 0, 1) := by decide +kernel
theorem dX6_in_1 : decode cX6_in 1 = .ok (.lload_n 2, 1) := by decide +kernel
theorem dX6_in_2 : decode cX6_in 2 = .ok (.lcmp, 1) := by decide +kernel
theorem dX6_in_3 : decode cX6_in 3 = .ok (.ifCond .lt 14, 3) := by decide +kernel
theorem dX6_in_6 : decode cX6_in 6 = .ok (.lload_n 0, 1) := by decide +kernel
theorem dX6_in_7 : decode cX6_in 7 = .ok (.lload 4, 2) := by decide +kernel
theorem dX6_in_9 : decode cX6_in 9 = .ok (.lcmp, 1) := by decide +kernel
theorem dX6_in_10 : decode cX6_in 10 = .ok (.ifCond .gt 7, 3) := by decide +kernel
theorem dX6_in_13 : decode cX6_in 13 = .ok (.iconst 1, 1) := by decide +kernel
theorem dX6_in_14 : decode cX6_in 14 = .ok (.goto 4, 3) := by decide +kernel
theorem dX6_in_17 : decode cX6_in 17 = .ok (.iconst 0, 1) := by decide +kernel
theorem dX6_in_18 : decode cX6_in 18 = .ok (.ireturn, 1) := by decide +kernel
theorem dX6_isMarcher_0 : decode cX6_isMarcher 0 = .ok (.iload_n 1, 1) := by decide +kernel
theorem dX6_isMarcher_1 : decode cX6_isMarcher 1 = .ok (.i2l, 1) := by decide +kernel
theorem dX6_isMarcher_2 : decode cX6_isMarcher 2 = .ok (.lconst 0, 1) := by decide +kernel
theorem dX6_isMarcher_3 : decode cX6_isMarcher 3 = .ok (.aload_n 0, 1) := by decide +kernel
theorem dX6_isMarcher_4 : decode cX6_isMarcher 4 = .ok (.getfield 7, 3) := by decide +kernel
theorem dX6_isMarcher_7 : decode cX6_isMarcher 7 = .ok (.iconst 0, 1) := by decide +kernel
theorem dX6_isMarcher_8 : decode cX6_isMarcher 8 = .ok (.iaload, 1) := by decide +kernel
theorem dX6_isMarcher_9 : decode cX6_isMarcher 9 = .ok (.iconst 1, 1) := by decide +kernel
theorem dX6_isMarcher_10 : decode cX6_isMarcher 10 = .ok (.isub, 1) := by decide +kernel
theorem dX6_isMarcher_11 : decode cX6_isMarcher 11 = .ok (.i2l, 1) := by decide +kernel
theorem dX6_isMarcher_12 : decode cX6_isMarcher 12 = .ok (.invokestatic 57, 3) := by decide +kernel
theorem dX6_isMarcher_15 : decode cX6_isMarcher 15 = .ok (.ireturn, 1) := by decide +kernel
theorem dX6_isPicture_0 : decode cX6_isPicture 0 = .ok (.iload_n 1, 1) := by decide +kernel
theorem dX6_isPicture_1 : decode cX6_isPicture 1 = .ok (.i2l, 1) := by decide +kernel
theorem dX6_isPicture_2 : decode cX6_isPicture 2 = .ok (.lconst 0, 1) := by decide +kernel
theorem dX6_isPicture_3 : decode cX6_isPicture 3 = .ok (.aload_n 0, 1) := by decide +kernel
theorem dX6_isPicture_4 : decode cX6_isPicture 4 = .ok (.getfield 7, 3) := by decide +kernel
theorem dX6_isPicture_7 : decode cX6_isPicture 7 = .ok (.iconst 1, 1) := by decide +kernel
theorem dX6_isPicture_8 : decode cX6_isPicture 8 = .ok (.iaload, 1) := by decide +kernel
theorem dX6_isPicture_9 : decode cX6_isPicture 9 = .ok (.iconst 1, 1) := by decide +kernel
theorem dX6_isPicture_10 : decode cX6_isPicture 10 = .ok (.isub, 1) := by decide +kernel
theorem dX6_isPicture_11 : decode cX6_isPicture 11 = .ok (.i2l, 1) := by decide +kernel
theorem dX6_isPicture_12 : decode cX6_isPicture 12 = .ok (.invokestatic 57, 3) := by decide +kernel
theorem dX6_isPicture_15 : decode cX6_isPicture 15 = .ok (.ireturn, 1) := by decide +kernel
theorem dX6_dotMany_0 : decode cX6_dotMany 0 = .ok (.aload_n 0, 1) := by decide +kernel
theorem dX6_dotMany_1 : decode cX6_dotMany 1 = .ok (.getfield 16, 3) := by decide +kernel
theorem dX6_dotMany_4 : decode cX6_dotMany 4 = .ok (.iconst 2, 1) := by decide +kernel
theorem dX6_dotMany_5 : decode cX6_dotMany 5 = .ok (.iload_n 1, 1) := by decide +kernel
theorem dX6_dotMany_6 : decode cX6_dotMany 6 = .ok (.imul, 1) := by decide +kernel
theorem dX6_dotMany_7 : decode cX6_dotMany 7 = .ok (.iconst 1, 1) := by decide +kernel
theorem dX6_dotMany_8 : decode cX6_dotMany 8 = .ok (.iadd, 1) := by decide +kernel
theorem dX6_dotMany_9 : decode cX6_dotMany 9 = .ok (.iaload, 1) := by decide +kernel
theorem dX6_dotMany_10 : decode cX6_dotMany 10 = .ok (.ireturn, 1) := by decide +kernel
theorem dX6_isDot_0 : decode cX6_isDot 0 = .ok (.aload_n 0, 1) := by decide +kernel
theorem dX6_isDot_1 : decode cX6_isDot 1 = .ok (.iload_n 1, 1) := by decide +kernel
theorem dX6_isDot_2 : decode cX6_isDot 2 = .ok (.invokevirtual 61, 3) := by decide +kernel
theorem dX6_isDot_5 : decode cX6_isDot 5 = .ok (.ifCond .eq 24, 3) := by decide +kernel
theorem dX6_isDot_8 : decode cX6_isDot 8 = .ok (.iload_n 2, 1) := by decide +kernel
theorem dX6_isDot_9 : decode cX6_isDot 9 = .ok (.i2l, 1) := by decide +kernel
theorem dX6_isDot_10 : decode cX6_isDot 10 = .ok (.lconst 0, 1) := by decide +kernel
theorem dX6_isDot_11 : decode cX6_isDot 11 = .ok (.aload_n 0, 1) := by decide +kernel
theorem dX6_isDot_12 : decode cX6_isDot 12 = .ok (.iload_n 1, 1) := by decide +kernel
theorem dX6_isDot_13 : decode cX6_isDot 13 = .ok (.invokevirtual 65, 3) := by decide +kernel
theorem dX6_isDot_16 : decode cX6_isDot 16 = .ok (.iconst 1, 1) := by decide +kernel
theorem dX6_isDot_17 : decode cX6_isDot 17 = .ok (.isub, 1) := by decide +kernel
theorem dX6_isDot_18 : decode cX6_isDot 18 = .ok (.i2l, 1) := by decide +kernel
theorem dX6_isDot_19 : decode cX6_isDot 19 = .ok (.invokestatic 57, 3) := by decide +kernel
theorem dX6_isDot_22 : decode cX6_isDot 22 = .ok (.ifCond .eq 7, 3) := by decide +kernel
theorem dX6_isDot_25 : decode cX6_isDot 25 = .ok (.iconst 1, 1) := by decide +kernel
theorem dX6_isDot_26 : decode cX6_isDot 26 = .ok (.goto 4, 3) := by decide +kernel
theorem dX6_isDot_29 : decode cX6_isDot 29 = .ok (.iconst 0, 1) := by decide +kernel
theorem dX6_isDot_30 : decode cX6_isDot 30 = .ok (.ireturn, 1) := by decide +kernel
theorem dX6_isIll_0 : decode cX6_isIll 0 = .ok (.aload_n 0, 1) := by decide +kernel
theorem dX6_isIll_1 : decode cX6_isIll 1 = .ok (.getfield 13, 3) := by decide +kernel
theorem dX6_isIll_4 : decode cX6_isIll 4 = .ok (.iconst 2, 1) := by decide +kernel
theorem dX6_isIll_5 : decode cX6_isIll 5 = .ok (.iload_n 1, 1) := by decide +kernel
theorem dX6_isIll_6 : decode cX6_isIll 6 = .ok (.imul, 1) := by decide +kernel
theorem dX6_isIll_7 : decode cX6_isIll 7 = .ok (.iconst 1, 1) := by decide +kernel
theorem dX6_isIll_8 : decode cX6_isIll 8 = .ok (.iadd, 1) := by decide +kernel
theorem dX6_isIll_9 : decode cX6_isIll 9 = .ok (.iaload, 1) := by decide +kernel
theorem dX6_isIll_10 : decode cX6_isIll 10 = .ok (.iconst 1, 1) := by decide +kernel
theorem dX6_isIll_11 : decode cX6_isIll 11 = .ok (.if_icmp .ne 7, 3) := by decide +kernel
theorem dX6_isIll_14 : decode cX6_isIll 14 = .ok (.iconst 1, 1) := by decide +kernel
theorem dX6_isIll_15 : decode cX6_isIll 15 = .ok (.goto 4, 3) := by decide +kernel
theorem dX6_isIll_18 : decode cX6_isIll 18 = .ok (.iconst 0, 1) := by decide +kernel
theorem dX6_isIll_19 : decode cX6_isIll 19 = .ok (.ireturn, 1) := by decide +kernel
theorem dX6_marcher_0 : decode cX6_marcher 0 = .ok (.iload_n 1, 1) := by decide +kernel
theorem dX6_marcher_1 : decode cX6_marcher 1 = .ok (.i2l, 1) := by decide +kernel
theorem dX6_marcher_2 : decode cX6_marcher 2 = .ok (.lconst 1, 1) := by decide +kernel
theorem dX6_marcher_3 : decode cX6_marcher 3 = .ok (.ldc2_w 69, 3) := by decide +kernel
theorem dX6_marcher_6 : decode cX6_marcher 6 = .ok (.invokestatic 57, 3) := by decide +kernel
theorem dX6_marcher_9 : decode cX6_marcher 9 = .ok (.ifCond .ne 5, 3) := by decide +kernel
theorem dX6_marcher_12 : decode cX6_marcher 12 = .ok (.iconst (-1), 1) := by decide +kernel
theorem dX6_marcher_13 : decode cX6_marcher 13 = .ok (.ireturn, 1) := by decide +kernel
theorem dX6_marcher_14 : decode cX6_marcher 14 = .ok (.aload_n 0, 1) := by decide +kernel
theorem dX6_marcher_15 : decode cX6_marcher 15 = .ok (.getfield 7, 3) := by decide +kernel
theorem dX6_marcher_18 : decode cX6_marcher 18 = .ok (.iconst 0, 1) := by decide +kernel
theorem dX6_marcher_19 : decode cX6_marcher 19 = .ok (.iaload, 1) := by decide +kernel
theorem dX6_marcher_20 : decode cX6_marcher 20 = .ok (.bipush 6, 2) := by decide +kernel
theorem dX6_marcher_22 : decode cX6_marcher 22 = .ok (.if_icmp .ne 6, 3) := by decide +kernel
theorem dX6_marcher_25 : decode cX6_marcher 25 = .ok (.bipush (-2), 2) := by decide +kernel
theorem dX6_marcher_27 : decode cX6_marcher 27 = .ok (.ireturn, 1) := by decide +kernel
theorem dX6_marcher_28 : decode cX6_marcher 28 = .ok (.aload_n 0, 1) := by decide +kernel
theorem dX6_marcher_29 : decode cX6_marcher 29 = .ok (.getfield 13, 3) := by decide +kernel
theorem dX6_marcher_32 : decode cX6_marcher 32 = .ok (.iconst 2, 1) := by decide +kernel
theorem dX6_marcher_33 : decode cX6_marcher 33 = .ok (.aload_n 0, 1) := by decide +kernel
theorem dX6_marcher_34 : decode cX6_marcher 34 = .ok (.getfield 7, 3) := by decide +kernel
theorem dX6_marcher_37 : decode cX6_marcher 37 = .ok (.iconst 0, 1) := by decide +kernel
theorem dX6_marcher_38 : decode cX6_marcher 38 = .ok (.iaload, 1) := by decide +kernel
theorem dX6_marcher_39 : decode cX6_marcher 39 = .ok (.imul, 1) := by decide +kernel
theorem dX6_marcher_40 : decode cX6_marcher 40 = .ok (.iload_n 1, 1) := by decide +kernel
theorem dX6_marcher_41 : decode cX6_marcher 41 = .ok (.iastore, 1) := by decide +kernel
theorem dX6_marcher_42 : decode cX6_marcher 42 = .ok (.aload_n 0, 1) := by decide +kernel
theorem dX6_marcher_43 : decode cX6_marcher 43 = .ok (.getfield 13, 3) := by decide +kernel
theorem dX6_marcher_46 : decode cX6_marcher 46 = .ok (.iconst 2, 1) := by decide +kernel
theorem dX6_marcher_47 : decode cX6_marcher 47 = .ok (.aload_n 0, 1) := by decide +kernel
theorem dX6_marcher_48 : decode cX6_marcher 48 = .ok (.getfield 7, 3) := by decide +kernel
theorem dX6_marcher_51 : decode cX6_marcher 51 = .ok (.iconst 0, 1) := by decide +kernel
theorem dX6_marcher_52 : decode cX6_marcher 52 = .ok (.iaload, 1) := by decide +kernel
theorem dX6_marcher_53 : decode cX6_marcher 53 = .ok (.imul, 1) := by decide +kernel
theorem dX6_marcher_54 : decode cX6_marcher 54 = .ok (.iconst 1, 1) := by decide +kernel
theorem dX6_marcher_55 : decode cX6_marcher 55 = .ok (.iadd, 1) := by decide +kernel
theorem dX6_marcher_56 : decode cX6_marcher 56 = .ok (.iconst 0, 1) := by decide +kernel
theorem dX6_marcher_57 : decode cX6_marcher 57 = .ok (.iastore, 1) := by decide +kernel
theorem dX6_marcher_58 : decode cX6_marcher 58 = .ok (.aload_n 0, 1) := by decide +kernel
theorem dX6_marcher_59 : decode cX6_marcher 59 = .ok (.getfield 7, 3) := by decide +kernel
theorem dX6_marcher_62 : decode cX6_marcher 62 = .ok (.iconst 0, 1) := by decide +kernel
theorem dX6_marcher_63 : decode cX6_marcher 63 = .ok (.dup2, 1) := by decide +kernel
theorem dX6_marcher_64 : decode cX6_marcher 64 = .ok (.iaload, 1) := by decide +kernel
theorem dX6_marcher_65 : decode cX6_marcher 65 = .ok (.iconst 1, 1) := by decide +kernel
theorem dX6_marcher_66 : decode cX6_marcher 66 = .ok (.iadd, 1) := by decide +kernel
theorem dX6_marcher_67 : decode cX6_marcher 67 = .ok (.iastore, 1) := by decide +kernel
theorem dX6_marcher_68 : decode cX6_marcher 68 = .ok (.aload_n 0, 1) := by decide +kernel
theorem dX6_marcher_69 : decode cX6_marcher 69 = .ok (.getfield 7, 3) := by decide +kernel
theorem dX6_marcher_72 : decode cX6_marcher 72 = .ok (.iconst 0, 1) := by decide +kernel
theorem dX6_marcher_73 : decode cX6_marcher 73 = .ok (.iaload, 1) := by decide +kernel
theorem dX6_marcher_74 : decode cX6_marcher 74 = .ok (.iconst 1, 1) := by decide +kernel
theorem dX6_marcher_75 : decode cX6_marcher 75 = .ok (.isub, 1) := by decide +kernel
theorem dX6_marcher_76 : decode cX6_marcher 76 = .ok (.ireturn, 1) := by decide +kernel
theorem dX6_ill_0 : decode cX6_ill 0 = .ok (.aload_n 0, 1) := by decide +kernel
theorem dX6_ill_1 : decode cX6_ill 1 = .ok (.iload_n 1, 1) := by decide +kernel
theorem dX6_ill_2 : decode cX6_ill 2 = .ok (.invokevirtual 71, 3) := by decide +kernel
theorem dX6_ill_5 : decode cX6_ill 5 = .ok (.ifCond .ne 5, 3) := by decide +kernel
theorem dX6_ill_8 : decode cX6_ill 8 = .ok (.iconst (-1), 1) := by decide +kernel
theorem dX6_ill_9 : decode cX6_ill 9 = .ok (.ireturn, 1) := by decide +kernel
theorem dX6_ill_10 : decode cX6_ill 10 = .ok (.iload_n 2, 1) := by decide +kernel
theorem dX6_ill_11 : decode cX6_ill 11 = .ok (.ifCond .eq 7, 3) := by decide +kernel
theorem dX6_ill_14 : decode cX6_ill 14 = .ok (.iconst 1, 1) := by decide +kernel
theorem dX6_ill_15 : decode cX6_ill 15 = .ok (.goto 4, 3) := by decide +kernel
theorem dX6_ill_18 : decode cX6_ill 18 = .ok (.iconst 0, 1) := by decide +kernel
theorem dX6_ill_19 : decode cX6_ill 19 = .ok (.istore_n 3, 1) := by decide +kernel
theorem dX6_ill_20 : decode cX6_ill 20 = .ok (.aload_n 0, 1) := by decide +kernel
theorem dX6_ill_21 : decode cX6_ill 21 = .ok (.getfield 13, 3) := by decide +kernel
theorem dX6_ill_24 : decode cX6_ill 24 = .ok (.iconst 2, 1) := by decide +kernel
theorem dX6_ill_25 : decode cX6_ill 25 = .ok (.iload_n 1, 1) := by decide +kernel
theorem dX6_ill_26 : decode cX6_ill 26 = .ok (.imul, 1) := by decide +kernel
theorem dX6_ill_27 : decode cX6_ill 27 = .ok (.iconst 1, 1) := by decide +kernel
theorem dX6_ill_28 : decode cX6_ill 28 = .ok (.iadd, 1) := by decide +kernel
theorem dX6_ill_29 : decode cX6_ill 29 = .ok (.iaload, 1) := by decide +kernel
theorem dX6_ill_30 : decode cX6_ill 30 = .ok (.iload_n 3, 1) := by decide +kernel
theorem dX6_ill_31 : decode cX6_ill 31 = .ok (.if_icmp .ne 7, 3) := by decide +kernel
theorem dX6_ill_34 : decode cX6_ill 34 = .ok (.iconst 0, 1) := by decide +kernel
theorem dX6_ill_35 : decode cX6_ill 35 = .ok (.goto 4, 3) := by decide +kernel
theorem dX6_ill_38 : decode cX6_ill 38 = .ok (.iconst 1, 1) := by decide +kernel
theorem dX6_ill_39 : decode cX6_ill 39 = .ok (.istore 4, 2) := by decide +kernel
theorem dX6_ill_41 : decode cX6_ill 41 = .ok (.aload_n 0, 1) := by decide +kernel
theorem dX6_ill_42 : decode cX6_ill 42 = .ok (.getfield 13, 3) := by decide +kernel
theorem dX6_ill_45 : decode cX6_ill 45 = .ok (.iconst 2, 1) := by decide +kernel
theorem dX6_ill_46 : decode cX6_ill 46 = .ok (.iload_n 1, 1) := by decide +kernel
theorem dX6_ill_47 : decode cX6_ill 47 = .ok (.imul, 1) := by decide +kernel
theorem dX6_ill_48 : decode cX6_ill 48 = .ok (.iconst 1, 1) := by decide +kernel
theorem dX6_ill_49 : decode cX6_ill 49 = .ok (.iadd, 1) := by decide +kernel
theorem dX6_ill_50 : decode cX6_ill 50 = .ok (.iload_n 3, 1) := by decide +kernel
theorem dX6_ill_51 : decode cX6_ill 51 = .ok (.iastore, 1) := by decide +kernel
theorem dX6_ill_52 : decode cX6_ill 52 = .ok (.iload 4, 2) := by decide +kernel
theorem dX6_ill_54 : decode cX6_ill 54 = .ok (.ireturn, 1) := by decide +kernel
theorem dX6_bound_0 : decode cX6_bound 0 = .ok (.aload_n 0, 1) := by decide +kernel
theorem dX6_bound_1 : decode cX6_bound 1 = .ok (.iload_n 1, 1) := by decide +kernel
theorem dX6_bound_2 : decode cX6_bound 2 = .ok (.invokevirtual 71, 3) := by decide +kernel
theorem dX6_bound_5 : decode cX6_bound 5 = .ok (.ifCond .eq 15, 3) := by decide +kernel
theorem dX6_bound_8 : decode cX6_bound 8 = .ok (.iload_n 2, 1) := by decide +kernel
theorem dX6_bound_9 : decode cX6_bound 9 = .ok (.i2l, 1) := by decide +kernel
theorem dX6_bound_10 : decode cX6_bound 10 = .ok (.lconst 1, 1) := by decide +kernel
theorem dX6_bound_11 : decode cX6_bound 11 = .ok (.ldc2_w 69, 3) := by decide +kernel
theorem dX6_bound_14 : decode cX6_bound 14 = .ok (.invokestatic 57, 3) := by decide +kernel
theorem dX6_bound_17 : decode cX6_bound 17 = .ok (.ifCond .ne 5, 3) := by decide +kernel
theorem dX6_bound_20 : decode cX6_bound 20 = .ok (.iconst (-1), 1) := by decide +kernel
theorem dX6_bound_21 : decode cX6_bound 21 = .ok (.ireturn, 1) := by decide +kernel
theorem dX6_bound_22 : decode cX6_bound 22 = .ok (.aload_n 0, 1) := by decide +kernel
theorem dX6_bound_23 : decode cX6_bound 23 = .ok (.getfield 13, 3) := by decide +kernel
theorem dX6_bound_26 : decode cX6_bound 26 = .ok (.iconst 2, 1) := by decide +kernel
theorem dX6_bound_27 : decode cX6_bound 27 = .ok (.iload_n 1, 1) := by decide +kernel
theorem dX6_bound_28 : decode cX6_bound 28 = .ok (.imul, 1) := by decide +kernel
theorem dX6_bound_29 : decode cX6_bound 29 = .ok (.iaload, 1) := by decide +kernel
theorem dX6_bound_30 : decode cX6_bound 30 = .ok (.istore_n 3, 1) := by decide +kernel
theorem dX6_bound_31 : decode cX6_bound 31 = .ok (.aload_n 0, 1) := by decide +kernel
theorem dX6_bound_32 : decode cX6_bound 32 = .ok (.getfield 13, 3) := by decide +kernel
theorem dX6_bound_35 : decode cX6_bound 35 = .ok (.iconst 2, 1) := by decide +kernel
theorem dX6_bound_36 : decode cX6_bound 36 = .ok (.iload_n 1, 1) := by decide +kernel
theorem dX6_bound_37 : decode cX6_bound 37 = .ok (.imul, 1) := by decide +kernel
theorem dX6_bound_38 : decode cX6_bound 38 = .ok (.iload_n 2, 1) := by decide +kernel
theorem dX6_bound_39 : decode cX6_bound 39 = .ok (.iastore, 1) := by decide +kernel
theorem dX6_bound_40 : decode cX6_bound 40 = .ok (.iload_n 3, 1) := by decide +kernel
theorem dX6_bound_41 : decode cX6_bound 41 = .ok (.ireturn, 1) := by decide +kernel
theorem dX6_picture_0 : decode cX6_picture 0 = .ok (.iload_n 1, 1) := by decide +kernel
theorem dX6_picture_1 : decode cX6_picture 1 = .ok (.i2l, 1) := by decide +kernel
theorem dX6_picture_2 : decode cX6_picture 2 = .ok (.lconst 1, 1) := by decide +kernel
theorem dX6_picture_3 : decode cX6_picture 3 = .ok (.ldc2_w 74, 3) := by decide +kernel
theorem dX6_picture_6 : decode cX6_picture 6 = .ok (.invokestatic 57, 3) := by decide +kernel
theorem dX6_picture_9 : decode cX6_picture 9 = .ok (.ifCond .ne 5, 3) := by decide +kernel
theorem dX6_picture_12 : decode cX6_picture 12 = .ok (.iconst (-1), 1) := by decide +kernel
theorem dX6_picture_13 : decode cX6_picture 13 = .ok (.ireturn, 1) := by decide +kernel
theorem dX6_picture_14 : decode cX6_picture 14 = .ok (.aload_n 0, 1) := by decide +kernel
theorem dX6_picture_15 : decode cX6_picture 15 = .ok (.getfield 7, 3) := by decide +kernel
theorem dX6_picture_18 : decode cX6_picture 18 = .ok (.iconst 1, 1) := by decide +kernel
theorem dX6_picture_19 : decode cX6_picture 19 = .ok (.iaload, 1) := by decide +kernel
theorem dX6_picture_20 : decode cX6_picture 20 = .ok (.iconst 5, 1) := by decide +kernel
theorem dX6_picture_21 : decode cX6_picture 21 = .ok (.if_icmp .ne 6, 3) := by decide +kernel
theorem dX6_picture_24 : decode cX6_picture 24 = .ok (.bipush (-2), 2) := by decide +kernel
theorem dX6_picture_26 : decode cX6_picture 26 = .ok (.ireturn, 1) := by decide +kernel
theorem dX6_picture_27 : decode cX6_picture 27 = .ok (.aload_n 0, 1) := by decide +kernel
theorem dX6_picture_28 : decode cX6_picture 28 = .ok (.getfield 16, 3) := by decide +kernel
theorem dX6_picture_31 : decode cX6_picture 31 = .ok (.iconst 2, 1) := by decide +kernel
theorem dX6_picture_32 : decode cX6_picture 32 = .ok (.aload_n 0, 1) := by decide +kernel
theorem dX6_picture_33 : decode cX6_picture 33 = .ok (.getfield 7, 3) := by decide +kernel
theorem dX6_picture_36 : decode cX6_picture 36 = .ok (.iconst 1, 1) := by decide +kernel
theorem dX6_picture_37 : decode cX6_picture 37 = .ok (.iaload, 1) := by decide +kernel
theorem dX6_picture_38 : decode cX6_picture 38 = .ok (.imul, 1) := by decide +kernel
theorem dX6_picture_39 : decode cX6_picture 39 = .ok (.iload_n 1, 1) := by decide +kernel
theorem dX6_picture_40 : decode cX6_picture 40 = .ok (.iastore, 1) := by decide +kernel
theorem dX6_picture_41 : decode cX6_picture 41 = .ok (.aload_n 0, 1) := by decide +kernel
theorem dX6_picture_42 : decode cX6_picture 42 = .ok (.getfield 16, 3) := by decide +kernel
theorem dX6_picture_45 : decode cX6_picture 45 = .ok (.iconst 2, 1) := by decide +kernel
theorem dX6_picture_46 : decode cX6_picture 46 = .ok (.aload_n 0, 1) := by decide +kernel
theorem dX6_picture_47 : decode cX6_picture 47 = .ok (.getfield 7, 3) := by decide +kernel
theorem dX6_picture_50 : decode cX6_picture 50 = .ok (.iconst 1, 1) := by decide +kernel
theorem dX6_picture_51 : decode cX6_picture 51 = .ok (.iaload, 1) := by decide +kernel
theorem dX6_picture_52 : decode cX6_picture 52 = .ok (.imul, 1) := by decide +kernel
theorem dX6_picture_53 : decode cX6_picture 53 = .ok (.iconst 1, 1) := by decide +kernel
theorem dX6_picture_54 : decode cX6_picture 54 = .ok (.iadd, 1) := by decide +kernel
theorem dX6_picture_55 : decode cX6_picture 55 = .ok (.iconst 0, 1) := by decide +kernel
theorem dX6_picture_56 : decode cX6_picture 56 = .ok (.iastore, 1) := by decide +kernel
theorem dX6_picture_57 : decode cX6_picture 57 = .ok (.aload_n 0, 1) := by decide +kernel
theorem dX6_picture_58 : decode cX6_picture 58 = .ok (.getfield 7, 3) := by decide +kernel
theorem dX6_picture_61 : decode cX6_picture 61 = .ok (.iconst 1, 1) := by decide +kernel
theorem dX6_picture_62 : decode cX6_picture 62 = .ok (.dup2, 1) := by decide +kernel
theorem dX6_picture_63 : decode cX6_picture 63 = .ok (.iaload, 1) := by decide +kernel
theorem dX6_picture_64 : decode cX6_picture 64 = .ok (.iconst 1, 1) := by decide +kernel
theorem dX6_picture_65 : decode cX6_picture 65 = .ok (.iadd, 1) := by decide +kernel
theorem dX6_picture_66 : decode cX6_picture 66 = .ok (.iastore, 1) := by decide +kernel
theorem dX6_picture_67 : decode cX6_picture 67 = .ok (.aload_n 0, 1) := by decide +kernel
theorem dX6_picture_68 : decode cX6_picture 68 = .ok (.getfield 7, 3) := by decide +kernel
theorem dX6_picture_71 : decode cX6_picture 71 = .ok (.iconst 1, 1) := by decide +kernel
theorem dX6_picture_72 : decode cX6_picture 72 = .ok (.iaload, 1) := by decide +kernel
theorem dX6_picture_73 : decode cX6_picture 73 = .ok (.iconst 1, 1) := by decide +kernel
theorem dX6_picture_74 : decode cX6_picture 74 = .ok (.isub, 1) := by decide +kernel
theorem dX6_picture_75 : decode cX6_picture 75 = .ok (.ireturn, 1) := by decide +kernel
theorem dX6_counts_0 : decode cX6_counts 0 = .ok (.aload_n 0, 1) := by decide +kernel
theorem dX6_counts_1 : decode cX6_counts 1 = .ok (.iload_n 1, 1) := by decide +kernel
theorem dX6_counts_2 : decode cX6_counts 2 = .ok (.invokevirtual 61, 3) := by decide +kernel
theorem dX6_counts_5 : decode cX6_counts 5 = .ok (.ifCond .eq 15, 3) := by decide +kernel
theorem dX6_counts_8 : decode cX6_counts 8 = .ok (.iload_n 2, 1) := by decide +kernel
theorem dX6_counts_9 : decode cX6_counts 9 = .ok (.i2l, 1) := by decide +kernel
theorem dX6_counts_10 : decode cX6_counts 10 = .ok (.lconst 1, 1) := by decide +kernel
theorem dX6_counts_11 : decode cX6_counts 11 = .ok (.ldc2_w 74, 3) := by decide +kernel
theorem dX6_counts_14 : decode cX6_counts 14 = .ok (.invokestatic 57, 3) := by decide +kernel
theorem dX6_counts_17 : decode cX6_counts 17 = .ok (.ifCond .ne 5, 3) := by decide +kernel
theorem dX6_counts_20 : decode cX6_counts 20 = .ok (.iconst (-1), 1) := by decide +kernel
theorem dX6_counts_21 : decode cX6_counts 21 = .ok (.ireturn, 1) := by decide +kernel
theorem dX6_counts_22 : decode cX6_counts 22 = .ok (.aload_n 0, 1) := by decide +kernel
theorem dX6_counts_23 : decode cX6_counts 23 = .ok (.getfield 16, 3) := by decide +kernel
theorem dX6_counts_26 : decode cX6_counts 26 = .ok (.iconst 2, 1) := by decide +kernel
theorem dX6_counts_27 : decode cX6_counts 27 = .ok (.iload_n 1, 1) := by decide +kernel
theorem dX6_counts_28 : decode cX6_counts 28 = .ok (.imul, 1) := by decide +kernel
theorem dX6_counts_29 : decode cX6_counts 29 = .ok (.iaload, 1) := by decide +kernel
theorem dX6_counts_30 : decode cX6_counts 30 = .ok (.istore_n 3, 1) := by decide +kernel
theorem dX6_counts_31 : decode cX6_counts 31 = .ok (.aload_n 0, 1) := by decide +kernel
theorem dX6_counts_32 : decode cX6_counts 32 = .ok (.getfield 16, 3) := by decide +kernel
theorem dX6_counts_35 : decode cX6_counts 35 = .ok (.iconst 2, 1) := by decide +kernel
theorem dX6_counts_36 : decode cX6_counts 36 = .ok (.iload_n 1, 1) := by decide +kernel
theorem dX6_counts_37 : decode cX6_counts 37 = .ok (.imul, 1) := by decide +kernel
theorem dX6_counts_38 : decode cX6_counts 38 = .ok (.iload_n 2, 1) := by decide +kernel
theorem dX6_counts_39 : decode cX6_counts 39 = .ok (.iastore, 1) := by decide +kernel
theorem dX6_counts_40 : decode cX6_counts 40 = .ok (.iload_n 3, 1) := by decide +kernel
theorem dX6_counts_41 : decode cX6_counts 41 = .ok (.ireturn, 1) := by decide +kernel
theorem dX6_lay_0 : decode cX6_lay 0 = .ok (.aload_n 0, 1) := by decide +kernel
theorem dX6_lay_1 : decode cX6_lay 1 = .ok (.getfield 25, 3) := by decide +kernel
theorem dX6_lay_4 : decode cX6_lay 4 = .ok (.aload_n 0, 1) := by decide +kernel
theorem dX6_lay_5 : decode cX6_lay 5 = .ok (.getfield 76, 3) := by decide +kernel
theorem dX6_lay_8 : decode cX6_lay 8 = .ok (.lload_n 1, 1) := by decide +kernel
theorem dX6_lay_9 : decode cX6_lay 9 = .ok (.lastore, 1) := by decide +kernel
theorem dX6_lay_10 : decode cX6_lay 10 = .ok (.aload_n 0, 1) := by decide +kernel
theorem dX6_lay_11 : decode cX6_lay 11 = .ok (.getfield 29, 3) := by decide +kernel
theorem dX6_lay_14 : decode cX6_lay 14 = .ok (.aload_n 0, 1) := by decide +kernel
theorem dX6_lay_15 : decode cX6_lay 15 = .ok (.getfield 76, 3) := by decide +kernel
theorem dX6_lay_18 : decode cX6_lay 18 = .ok (.lload_n 3, 1) := by decide +kernel
theorem dX6_lay_19 : decode cX6_lay 19 = .ok (.lastore, 1) := by decide +kernel
theorem dX6_lay_20 : decode cX6_lay 20 = .ok (.aload_n 0, 1) := by decide +kernel
theorem dX6_lay_21 : decode cX6_lay 21 = .ok (.dup, 1) := by decide +kernel
theorem dX6_lay_22 : decode cX6_lay 22 = .ok (.getfield 76, 3) := by decide +kernel
theorem dX6_lay_25 : decode cX6_lay 25 = .ok (.iconst 1, 1) := by decide +kernel
theorem dX6_lay_26 : decode cX6_lay 26 = .ok (.iadd, 1) := by decide +kernel
theorem dX6_lay_27 : decode cX6_lay 27 = .ok (.putfield 76, 3) := by decide +kernel
theorem dX6_lay_30 : decode cX6_lay 30 = .ok (.return_, 1) := by decide +kernel
theorem dX6_isFree_0 : decode cX6_isFree 0 = .ok (.aload_n 0, 1) := by decide +kernel
theorem dX6_isFree_1 : decode cX6_isFree 1 = .ok (.getfield 25, 3) := by decide +kernel
theorem dX6_isFree_4 : decode cX6_isFree 4 = .ok (.iload_n 2, 1) := by decide +kernel
theorem dX6_isFree_5 : decode cX6_isFree 5 = .ok (.laload, 1) := by decide +kernel
theorem dX6_isFree_6 : decode cX6_isFree 6 = .ok (.lconst 0, 1) := by decide +kernel
theorem dX6_isFree_7 : decode cX6_isFree 7 = .ok (.ldc2_w 80, 3) := by decide +kernel
theorem dX6_isFree_10 : decode cX6_isFree 10 = .ok (.invokestatic 57, 3) := by decide +kernel
theorem dX6_isFree_13 : decode cX6_isFree 13 = .ok (.ifCond .eq 23, 3) := by decide +kernel
theorem dX6_isFree_16 : decode cX6_isFree 16 = .ok (.aload_n 0, 1) := by decide +kernel
theorem dX6_isFree_17 : decode cX6_isFree 17 = .ok (.getfield 29, 3) := by decide +kernel
theorem dX6_isFree_20 : decode cX6_isFree 20 = .ok (.iload_n 2, 1) := by decide +kernel
theorem dX6_isFree_21 : decode cX6_isFree 21 = .ok (.laload, 1) := by decide +kernel
theorem dX6_isFree_22 : decode cX6_isFree 22 = .ok (.lconst 0, 1) := by decide +kernel
theorem dX6_isFree_23 : decode cX6_isFree 23 = .ok (.ldc2_w 80, 3) := by decide +kernel
theorem dX6_isFree_26 : decode cX6_isFree 26 = .ok (.invokestatic 57, 3) := by decide +kernel
theorem dX6_isFree_29 : decode cX6_isFree 29 = .ok (.ifCond .eq 7, 3) := by decide +kernel
theorem dX6_isFree_32 : decode cX6_isFree 32 = .ok (.iconst 1, 1) := by decide +kernel
theorem dX6_isFree_33 : decode cX6_isFree 33 = .ok (.goto 4, 3) := by decide +kernel
theorem dX6_isFree_36 : decode cX6_isFree 36 = .ok (.iconst 0, 1) := by decide +kernel
theorem dX6_isFree_37 : decode cX6_isFree 37 = .ok (.istore_n 3, 1) := by decide +kernel
theorem dX6_isFree_38 : decode cX6_isFree 38 = .ok (.iconst 0, 1) := by decide +kernel
theorem dX6_isFree_39 : decode cX6_isFree 39 = .ok (.istore 4, 2) := by decide +kernel
theorem dX6_isFree_41 : decode cX6_isFree 41 = .ok (.iload 4, 2) := by decide +kernel
theorem dX6_isFree_43 : decode cX6_isFree 43 = .ok (.iload_n 2, 1) := by decide +kernel
theorem dX6_isFree_44 : decode cX6_isFree 44 = .ok (.if_icmp .ge 53, 3) := by decide +kernel
theorem dX6_isFree_47 : decode cX6_isFree 47 = .ok (.iload_n 3, 1) := by decide +kernel
theorem dX6_isFree_48 : decode cX6_isFree 48 = .ok (.ifCond .eq 41, 3) := by decide +kernel
theorem dX6_isFree_51 : decode cX6_isFree 51 = .ok (.aload_n 0, 1) := by decide +kernel
theorem dX6_isFree_52 : decode cX6_isFree 52 = .ok (.getfield 25, 3) := by decide +kernel
theorem dX6_isFree_55 : decode cX6_isFree 55 = .ok (.iload 4, 2) := by decide +kernel
theorem dX6_isFree_57 : decode cX6_isFree 57 = .ok (.laload, 1) := by decide +kernel
theorem dX6_isFree_58 : decode cX6_isFree 58 = .ok (.aload_n 0, 1) := by decide +kernel
theorem dX6_isFree_59 : decode cX6_isFree 59 = .ok (.getfield 25, 3) := by decide +kernel
theorem dX6_isFree_62 : decode cX6_isFree 62 = .ok (.iload_n 2, 1) := by decide +kernel
theorem dX6_isFree_63 : decode cX6_isFree 63 = .ok (.laload, 1) := by decide +kernel
theorem dX6_isFree_64 : decode cX6_isFree 64 = .ok (.lcmp, 1) := by decide +kernel
theorem dX6_isFree_65 : decode cX6_isFree 65 = .ok (.ifCond .ne 20, 3) := by decide +kernel
theorem dX6_isFree_68 : decode cX6_isFree 68 = .ok (.aload_n 0, 1) := by decide +kernel
theorem dX6_isFree_69 : decode cX6_isFree 69 = .ok (.getfield 29, 3) := by decide +kernel
theorem dX6_isFree_72 : decode cX6_isFree 72 = .ok (.iload 4, 2) := by decide +kernel
theorem dX6_isFree_74 : decode cX6_isFree 74 = .ok (.laload, 1) := by decide +kernel
theorem dX6_isFree_75 : decode cX6_isFree 75 = .ok (.aload_n 0, 1) := by decide +kernel
theorem dX6_isFree_76 : decode cX6_isFree 76 = .ok (.getfield 29, 3) := by decide +kernel
theorem dX6_isFree_79 : decode cX6_isFree 79 = .ok (.iload_n 2, 1) := by decide +kernel
theorem dX6_isFree_80 : decode cX6_isFree 80 = .ok (.laload, 1) := by decide +kernel
theorem dX6_isFree_81 : decode cX6_isFree 81 = .ok (.lcmp, 1) := by decide +kernel
theorem dX6_isFree_82 : decode cX6_isFree 82 = .ok (.ifCond .eq 7, 3) := by decide +kernel
theorem dX6_isFree_85 : decode cX6_isFree 85 = .ok (.iconst 1, 1) := by decide +kernel
theorem dX6_isFree_86 : decode cX6_isFree 86 = .ok (.goto 4, 3) := by decide +kernel
theorem dX6_isFree_89 : decode cX6_isFree 89 = .ok (.iconst 0, 1) := by decide +kernel
theorem dX6_isFree_90 : decode cX6_isFree 90 = .ok (.istore_n 3, 1) := by decide +kernel
theorem dX6_isFree_91 : decode cX6_isFree 91 = .ok (.iinc 4 1, 3) := by decide +kernel
theorem dX6_isFree_94 : decode cX6_isFree 94 = .ok (.goto (-53), 3) := by decide +kernel
theorem dX6_isFree_97 : decode cX6_isFree 97 = .ok (.iconst 0, 1) := by decide +kernel
theorem dX6_isFree_98 : decode cX6_isFree 98 = .ok (.istore 4, 2) := by decide +kernel
theorem dX6_isFree_100 : decode cX6_isFree 100 = .ok (.iload 4, 2) := by decide +kernel
theorem dX6_isFree_102 : decode cX6_isFree 102 = .ok (.aload_n 0, 1) := by decide +kernel
theorem dX6_isFree_103 : decode cX6_isFree 103 = .ok (.iload_n 1, 1) := by decide +kernel
theorem dX6_isFree_104 : decode cX6_isFree 104 = .ok (.invokevirtual 65, 3) := by decide +kernel
theorem dX6_isFree_107 : decode cX6_isFree 107 = .ok (.if_icmp .ge 68, 3) := by decide +kernel
theorem dX6_isFree_110 : decode cX6_isFree 110 = .ok (.iconst 3, 1) := by decide +kernel
theorem dX6_isFree_111 : decode cX6_isFree 111 = .ok (.bipush 7, 2) := by decide +kernel
theorem dX6_isFree_113 : decode cX6_isFree 113 = .ok (.iload_n 1, 1) := by decide +kernel
theorem dX6_isFree_114 : decode cX6_isFree 114 = .ok (.imul, 1) := by decide +kernel
theorem dX6_isFree_115 : decode cX6_isFree 115 = .ok (.iload 4, 2) := by decide +kernel
theorem dX6_isFree_117 : decode cX6_isFree 117 = .ok (.iadd, 1) := by decide +kernel
theorem dX6_isFree_118 : decode cX6_isFree 118 = .ok (.imul, 1) := by decide +kernel
theorem dX6_isFree_119 : decode cX6_isFree 119 = .ok (.istore 5, 2) := by decide +kernel
theorem dX6_isFree_121 : decode cX6_isFree 121 = .ok (.iload_n 3, 1) := by decide +kernel
theorem dX6_isFree_122 : decode cX6_isFree 122 = .ok (.ifCond .eq 45, 3) := by decide +kernel
theorem dX6_isFree_125 : decode cX6_isFree 125 = .ok (.aload_n 0, 1) := by decide +kernel
theorem dX6_isFree_126 : decode cX6_isFree 126 = .ok (.getfield 19, 3) := by decide +kernel
theorem dX6_isFree_129 : decode cX6_isFree 129 = .ok (.iload 5, 2) := by decide +kernel
theorem dX6_isFree_131 : decode cX6_isFree 131 = .ok (.iaload, 1) := by decide +kernel
theorem dX6_isFree_132 : decode cX6_isFree 132 = .ok (.i2l, 1) := by decide +kernel
theorem dX6_isFree_133 : decode cX6_isFree 133 = .ok (.aload_n 0, 1) := by decide +kernel
theorem dX6_isFree_134 : decode cX6_isFree 134 = .ok (.getfield 25, 3) := by decide +kernel
theorem dX6_isFree_137 : decode cX6_isFree 137 = .ok (.iload_n 2, 1) := by decide +kernel
theorem dX6_isFree_138 : decode cX6_isFree 138 = .ok (.laload, 1) := by decide +kernel
theorem dX6_isFree_139 : decode cX6_isFree 139 = .ok (.lcmp, 1) := by decide +kernel
theorem dX6_isFree_140 : decode cX6_isFree 140 = .ok (.ifCond .ne 23, 3) := by decide +kernel
theorem dX6_isFree_143 : decode cX6_isFree 143 = .ok (.aload_n 0, 1) := by decide +kernel
theorem dX6_isFree_144 : decode cX6_isFree 144 = .ok (.getfield 19, 3) := by decide +kernel
theorem dX6_isFree_147 : decode cX6_isFree 147 = .ok (.iload 5, 2) := by decide +kernel
theorem dX6_isFree_149 : decode cX6_isFree 149 = .ok (.iconst 1, 1) := by decide +kernel
theorem dX6_isFree_150 : decode cX6_isFree 150 = .ok (.iadd, 1) := by decide +kernel
theorem dX6_isFree_151 : decode cX6_isFree 151 = .ok (.iaload, 1) := by decide +kernel
theorem dX6_isFree_152 : decode cX6_isFree 152 = .ok (.i2l, 1) := by decide +kernel
theorem dX6_isFree_153 : decode cX6_isFree 153 = .ok (.aload_n 0, 1) := by decide +kernel
theorem dX6_isFree_154 : decode cX6_isFree 154 = .ok (.getfield 29, 3) := by decide +kernel
theorem dX6_isFree_157 : decode cX6_isFree 157 = .ok (.iload_n 2, 1) := by decide +kernel
theorem dX6_isFree_158 : decode cX6_isFree 158 = .ok (.laload, 1) := by decide +kernel
theorem dX6_isFree_159 : decode cX6_isFree 159 = .ok (.lcmp, 1) := by decide +kernel
theorem dX6_isFree_160 : decode cX6_isFree 160 = .ok (.ifCond .eq 7, 3) := by decide +kernel
theorem dX6_isFree_163 : decode cX6_isFree 163 = .ok (.iconst 1, 1) := by decide +kernel
theorem dX6_isFree_164 : decode cX6_isFree 164 = .ok (.goto 4, 3) := by decide +kernel
theorem dX6_isFree_167 : decode cX6_isFree 167 = .ok (.iconst 0, 1) := by decide +kernel
theorem dX6_isFree_168 : decode cX6_isFree 168 = .ok (.istore_n 3, 1) := by decide +kernel
theorem dX6_isFree_169 : decode cX6_isFree 169 = .ok (.iinc 4 1, 3) := by decide +kernel
theorem dX6_isFree_172 : decode cX6_isFree 172 = .ok (.goto (-72), 3) := by decide +kernel
theorem dX6_isFree_175 : decode cX6_isFree 175 = .ok (.iload_n 3, 1) := by decide +kernel
theorem dX6_isFree_176 : decode cX6_isFree 176 = .ok (.ireturn, 1) := by decide +kernel
theorem dX6_comes_0 : decode cX6_comes 0 = .ok (.aload_n 0, 1) := by decide +kernel
theorem dX6_comes_1 : decode cX6_comes 1 = .ok (.iload_n 1, 1) := by decide +kernel
theorem dX6_comes_2 : decode cX6_comes 2 = .ok (.invokevirtual 65, 3) := by decide +kernel
theorem dX6_comes_5 : decode cX6_comes 5 = .ok (.aload_n 0, 1) := by decide +kernel
theorem dX6_comes_6 : decode cX6_comes 6 = .ok (.getfield 76, 3) := by decide +kernel
theorem dX6_comes_9 : decode cX6_comes 9 = .ok (.iadd, 1) := by decide +kernel
theorem dX6_comes_10 : decode cX6_comes 10 = .ok (.bipush 7, 2) := by decide +kernel
theorem dX6_comes_12 : decode cX6_comes 12 = .ok (.if_icmp .le 6, 3) := by decide +kernel
theorem dX6_comes_15 : decode cX6_comes 15 = .ok (.bipush (-2), 2) := by decide +kernel
theorem dX6_comes_17 : decode cX6_comes 17 = .ok (.ireturn, 1) := by decide +kernel
theorem dX6_comes_18 : decode cX6_comes 18 = .ok (.iconst 0, 1) := by decide +kernel
theorem dX6_comes_19 : decode cX6_comes 19 = .ok (.istore_n 2, 1) := by decide +kernel
theorem dX6_comes_20 : decode cX6_comes 20 = .ok (.iload_n 2, 1) := by decide +kernel
theorem dX6_comes_21 : decode cX6_comes 21 = .ok (.aload_n 0, 1) := by decide +kernel
theorem dX6_comes_22 : decode cX6_comes 22 = .ok (.getfield 76, 3) := by decide +kernel
theorem dX6_comes_25 : decode cX6_comes 25 = .ok (.if_icmp .ge 21, 3) := by decide +kernel
theorem dX6_comes_28 : decode cX6_comes 28 = .ok (.aload_n 0, 1) := by decide +kernel
theorem dX6_comes_29 : decode cX6_comes 29 = .ok (.iload_n 1, 1) := by decide +kernel
theorem dX6_comes_30 : decode cX6_comes 30 = .ok (.iload_n 2, 1) := by decide +kernel
theorem dX6_comes_31 : decode cX6_comes 31 = .ok (.invokevirtual 82, 3) := by decide +kernel
theorem dX6_comes_34 : decode cX6_comes 34 = .ok (.ifCond .ne 6, 3) := by decide +kernel
theorem dX6_comes_37 : decode cX6_comes 37 = .ok (.bipush (-4), 2) := by decide +kernel
theorem dX6_comes_39 : decode cX6_comes 39 = .ok (.ireturn, 1) := by decide +kernel
theorem dX6_comes_40 : decode cX6_comes 40 = .ok (.iinc 2 1, 3) := by decide +kernel
theorem dX6_comes_43 : decode cX6_comes 43 = .ok (.goto (-23), 3) := by decide +kernel
theorem dX6_comes_46 : decode cX6_comes 46 = .ok (.iconst 0, 1) := by decide +kernel
theorem dX6_comes_47 : decode cX6_comes 47 = .ok (.istore_n 2, 1) := by decide +kernel
theorem dX6_comes_48 : decode cX6_comes 48 = .ok (.iload_n 2, 1) := by decide +kernel
theorem dX6_comes_49 : decode cX6_comes 49 = .ok (.aload_n 0, 1) := by decide +kernel
theorem dX6_comes_50 : decode cX6_comes 50 = .ok (.getfield 76, 3) := by decide +kernel
theorem dX6_comes_53 : decode cX6_comes 53 = .ok (.if_icmp .ge 73, 3) := by decide +kernel
theorem dX6_comes_56 : decode cX6_comes 56 = .ok (.iconst 3, 1) := by decide +kernel
theorem dX6_comes_57 : decode cX6_comes 57 = .ok (.bipush 7, 2) := by decide +kernel
theorem dX6_comes_59 : decode cX6_comes 59 = .ok (.iload_n 1, 1) := by decide +kernel
theorem dX6_comes_60 : decode cX6_comes 60 = .ok (.imul, 1) := by decide +kernel
theorem dX6_comes_61 : decode cX6_comes 61 = .ok (.aload_n 0, 1) := by decide +kernel
theorem dX6_comes_62 : decode cX6_comes 62 = .ok (.iload_n 1, 1) := by decide +kernel
theorem dX6_comes_63 : decode cX6_comes 63 = .ok (.invokevirtual 65, 3) := by decide +kernel
theorem dX6_comes_66 : decode cX6_comes 66 = .ok (.iadd, 1) := by decide +kernel
theorem dX6_comes_67 : decode cX6_comes 67 = .ok (.imul, 1) := by decide +kernel
theorem dX6_comes_68 : decode cX6_comes 68 = .ok (.istore_n 3, 1) := by decide +kernel
theorem dX6_comes_69 : decode cX6_comes 69 = .ok (.aload_n 0, 1) := by decide +kernel
theorem dX6_comes_70 : decode cX6_comes 70 = .ok (.getfield 19, 3) := by decide +kernel
theorem dX6_comes_73 : decode cX6_comes 73 = .ok (.iload_n 3, 1) := by decide +kernel
theorem dX6_comes_74 : decode cX6_comes 74 = .ok (.aload_n 0, 1) := by decide +kernel
theorem dX6_comes_75 : decode cX6_comes 75 = .ok (.getfield 25, 3) := by decide +kernel
theorem dX6_comes_78 : decode cX6_comes 78 = .ok (.iload_n 2, 1) := by decide +kernel
theorem dX6_comes_79 : decode cX6_comes 79 = .ok (.laload, 1) := by decide +kernel
theorem dX6_comes_80 : decode cX6_comes 80 = .ok (.l2i, 1) := by decide +kernel
theorem dX6_comes_81 : decode cX6_comes 81 = .ok (.iastore, 1) := by decide +kernel
theorem dX6_comes_82 : decode cX6_comes 82 = .ok (.aload_n 0, 1) := by decide +kernel
theorem dX6_comes_83 : decode cX6_comes 83 = .ok (.getfield 19, 3) := by decide +kernel
theorem dX6_comes_86 : decode cX6_comes 86 = .ok (.iload_n 3, 1) := by decide +kernel
theorem dX6_comes_87 : decode cX6_comes 87 = .ok (.iconst 1, 1) := by decide +kernel
theorem dX6_comes_88 : decode cX6_comes 88 = .ok (.iadd, 1) := by decide +kernel
theorem dX6_comes_89 : decode cX6_comes 89 = .ok (.aload_n 0, 1) := by decide +kernel
theorem dX6_comes_90 : decode cX6_comes 90 = .ok (.getfield 29, 3) := by decide +kernel
theorem dX6_comes_93 : decode cX6_comes 93 = .ok (.iload_n 2, 1) := by decide +kernel
theorem dX6_comes_94 : decode cX6_comes 94 = .ok (.laload, 1) := by decide +kernel
theorem dX6_comes_95 : decode cX6_comes 95 = .ok (.l2i, 1) := by decide +kernel
theorem dX6_comes_96 : decode cX6_comes 96 = .ok (.iastore, 1) := by decide +kernel
theorem dX6_comes_97 : decode cX6_comes 97 = .ok (.aload_n 0, 1) := by decide +kernel
theorem dX6_comes_98 : decode cX6_comes 98 = .ok (.getfield 19, 3) := by decide +kernel
theorem dX6_comes_101 : decode cX6_comes 101 = .ok (.iload_n 3, 1) := by decide +kernel
theorem dX6_comes_102 : decode cX6_comes 102 = .ok (.iconst 2, 1) := by decide +kernel
theorem dX6_comes_103 : decode cX6_comes 103 = .ok (.iadd, 1) := by decide +kernel
theorem dX6_comes_104 : decode cX6_comes 104 = .ok (.iconst 0, 1) := by decide +kernel
theorem dX6_comes_105 : decode cX6_comes 105 = .ok (.iastore, 1) := by decide +kernel
theorem dX6_comes_106 : decode cX6_comes 106 = .ok (.aload_n 0, 1) := by decide +kernel
theorem dX6_comes_107 : decode cX6_comes 107 = .ok (.getfield 16, 3) := by decide +kernel
theorem dX6_comes_110 : decode cX6_comes 110 = .ok (.iconst 2, 1) := by decide +kernel
theorem dX6_comes_111 : decode cX6_comes 111 = .ok (.iload_n 1, 1) := by decide +kernel
theorem dX6_comes_112 : decode cX6_comes 112 = .ok (.imul, 1) := by decide +kernel
theorem dX6_comes_113 : decode cX6_comes 113 = .ok (.iconst 1, 1) := by decide +kernel
theorem dX6_comes_114 : decode cX6_comes 114 = .ok (.iadd, 1) := by decide +kernel
theorem dX6_comes_115 : decode cX6_comes 115 = .ok (.dup2, 1) := by decide +kernel
theorem dX6_comes_116 : decode cX6_comes 116 = .ok (.iaload, 1) := by decide +kernel
theorem dX6_comes_117 : decode cX6_comes 117 = .ok (.iconst 1, 1) := by decide +kernel
theorem dX6_comes_118 : decode cX6_comes 118 = .ok (.iadd, 1) := by decide +kernel
theorem dX6_comes_119 : decode cX6_comes 119 = .ok (.iastore, 1) := by decide +kernel
theorem dX6_comes_120 : decode cX6_comes 120 = .ok (.iinc 2 1, 3) := by decide +kernel
theorem dX6_comes_123 : decode cX6_comes 123 = .ok (.goto (-75), 3) := by decide +kernel
theorem dX6_comes_126 : decode cX6_comes 126 = .ok (.aload_n 0, 1) := by decide +kernel
theorem dX6_comes_127 : decode cX6_comes 127 = .ok (.iload_n 1, 1) := by decide +kernel
theorem dX6_comes_128 : decode cX6_comes 128 = .ok (.invokevirtual 65, 3) := by decide +kernel
theorem dX6_comes_131 : decode cX6_comes 131 = .ok (.ireturn, 1) := by decide +kernel
theorem dX6_line_0 : decode cX6_line 0 = .ok (.aload_n 0, 1) := by decide +kernel
theorem dX6_line_1 : decode cX6_line 1 = .ok (.iload_n 1, 1) := by decide +kernel
theorem dX6_line_2 : decode cX6_line 2 = .ok (.invokevirtual 61, 3) := by decide +kernel
theorem dX6_line_5 : decode cX6_line 5 = .ok (.ifCond .eq 45, 3) := by decide +kernel
theorem dX6_line_8 : decode cX6_line 8 = .ok (.iload_n 2, 1) := by decide +kernel
theorem dX6_line_9 : decode cX6_line 9 = .ok (.i2l, 1) := by decide +kernel
theorem dX6_line_10 : decode cX6_line 10 = .ok (.lconst 1, 1) := by decide +kernel
theorem dX6_line_11 : decode cX6_line 11 = .ok (.ldc2_w 86, 3) := by decide +kernel
theorem dX6_line_14 : decode cX6_line 14 = .ok (.invokestatic 57, 3) := by decide +kernel
theorem dX6_line_17 : decode cX6_line 17 = .ok (.ifCond .eq 33, 3) := by decide +kernel
theorem dX6_line_20 : decode cX6_line 20 = .ok (.iload 5, 2) := by decide +kernel
theorem dX6_line_22 : decode cX6_line 22 = .ok (.i2l, 1) := by decide +kernel
theorem dX6_line_23 : decode cX6_line 23 = .ok (.ldc2_w 88, 3) := by decide +kernel
theorem dX6_line_26 : decode cX6_line 26 = .ok (.ldc2_w 90, 3) := by decide +kernel
theorem dX6_line_29 : decode cX6_line 29 = .ok (.invokestatic 57, 3) := by decide +kernel
theorem dX6_line_32 : decode cX6_line 32 = .ok (.ifCond .eq 18, 3) := by decide +kernel
theorem dX6_line_35 : decode cX6_line 35 = .ok (.iload 6, 2) := by decide +kernel
theorem dX6_line_37 : decode cX6_line 37 = .ok (.i2l, 1) := by decide +kernel
theorem dX6_line_38 : decode cX6_line 38 = .ok (.ldc2_w 88, 3) := by decide +kernel
theorem dX6_line_41 : decode cX6_line 41 = .ok (.ldc2_w 90, 3) := by decide +kernel
theorem dX6_line_44 : decode cX6_line 44 = .ok (.invokestatic 57, 3) := by decide +kernel
theorem dX6_line_47 : decode cX6_line 47 = .ok (.ifCond .ne 5, 3) := by decide +kernel
theorem dX6_line_50 : decode cX6_line 50 = .ok (.iconst (-1), 1) := by decide +kernel
theorem dX6_line_51 : decode cX6_line 51 = .ok (.ireturn, 1) := by decide +kernel
theorem dX6_line_52 : decode cX6_line 52 = .ok (.aload_n 0, 1) := by decide +kernel
theorem dX6_line_53 : decode cX6_line 53 = .ok (.iconst 0, 1) := by decide +kernel
theorem dX6_line_54 : decode cX6_line 54 = .ok (.putfield 76, 3) := by decide +kernel
theorem dX6_line_57 : decode cX6_line 57 = .ok (.iconst 0, 1) := by decide +kernel
theorem dX6_line_58 : decode cX6_line 58 = .ok (.istore 7, 2) := by decide +kernel
theorem dX6_line_60 : decode cX6_line 60 = .ok (.iload 7, 2) := by decide +kernel
theorem dX6_line_62 : decode cX6_line 62 = .ok (.iload_n 2, 1) := by decide +kernel
theorem dX6_line_63 : decode cX6_line 63 = .ok (.if_icmp .ge 32, 3) := by decide +kernel
theorem dX6_line_66 : decode cX6_line 66 = .ok (.aload_n 0, 1) := by decide +kernel
theorem dX6_line_67 : decode cX6_line 67 = .ok (.iload_n 3, 1) := by decide +kernel
theorem dX6_line_68 : decode cX6_line 68 = .ok (.i2l, 1) := by decide +kernel
theorem dX6_line_69 : decode cX6_line 69 = .ok (.iload 7, 2) := by decide +kernel
theorem dX6_line_71 : decode cX6_line 71 = .ok (.iload 5, 2) := by decide +kernel
theorem dX6_line_73 : decode cX6_line 73 = .ok (.imul, 1) := by decide +kernel
theorem dX6_line_74 : decode cX6_line 74 = .ok (.i2l, 1) := by decide +kernel
theorem dX6_line_75 : decode cX6_line 75 = .ok (.ladd, 1) := by decide +kernel
theorem dX6_line_76 : decode cX6_line 76 = .ok (.iload 4, 2) := by decide +kernel
theorem dX6_line_78 : decode cX6_line 78 = .ok (.i2l, 1) := by decide +kernel
theorem dX6_line_79 : decode cX6_line 79 = .ok (.iload 7, 2) := by decide +kernel
theorem dX6_line_81 : decode cX6_line 81 = .ok (.iload 6, 2) := by decide +kernel
theorem dX6_line_83 : decode cX6_line 83 = .ok (.imul, 1) := by decide +kernel
theorem dX6_line_84 : decode cX6_line 84 = .ok (.i2l, 1) := by decide +kernel
theorem dX6_line_85 : decode cX6_line 85 = .ok (.ladd, 1) := by decide +kernel
theorem dX6_line_86 : decode cX6_line 86 = .ok (.invokevirtual 92, 3) := by decide +kernel
theorem dX6_line_89 : decode cX6_line 89 = .ok (.iinc 7 1, 3) := by decide +kernel
theorem dX6_line_92 : decode cX6_line 92 = .ok (.goto (-32), 3) := by decide +kernel
theorem dX6_line_95 : decode cX6_line 95 = .ok (.aload_n 0, 1) := by decide +kernel
theorem dX6_line_96 : decode cX6_line 96 = .ok (.iload_n 1, 1) := by decide +kernel
theorem dX6_line_97 : decode cX6_line 97 = .ok (.invokevirtual 96, 3) := by decide +kernel
theorem dX6_line_100 : decode cX6_line 100 = .ok (.ireturn, 1) := by decide +kernel
theorem dX6_block_0 : decode cX6_block 0 = .ok (.aload_n 0, 1) := by decide +kernel
theorem dX6_block_1 : decode cX6_block 1 = .ok (.iload_n 1, 1) := by decide +kernel
theorem dX6_block_2 : decode cX6_block 2 = .ok (.invokevirtual 61, 3) := by decide +kernel
theorem dX6_block_5 : decode cX6_block 5 = .ok (.ifCond .eq 42, 3) := by decide +kernel
theorem dX6_block_8 : decode cX6_block 8 = .ok (.iload 4, 2) := by decide +kernel
theorem dX6_block_10 : decode cX6_block 10 = .ok (.i2l, 1) := by decide +kernel
theorem dX6_block_11 : decode cX6_block 11 = .ok (.lconst 1, 1) := by decide +kernel
theorem dX6_block_12 : decode cX6_block 12 = .ok (.ldc2_w 69, 3) := by decide +kernel
theorem dX6_block_15 : decode cX6_block 15 = .ok (.invokestatic 57, 3) := by decide +kernel
theorem dX6_block_18 : decode cX6_block 18 = .ok (.ifCond .eq 29, 3) := by decide +kernel
theorem dX6_block_21 : decode cX6_block 21 = .ok (.iload 5, 2) := by decide +kernel
theorem dX6_block_23 : decode cX6_block 23 = .ok (.i2l, 1) := by decide +kernel
theorem dX6_block_24 : decode cX6_block 24 = .ok (.lconst 1, 1) := by decide +kernel
theorem dX6_block_25 : decode cX6_block 25 = .ok (.ldc2_w 69, 3) := by decide +kernel
theorem dX6_block_28 : decode cX6_block 28 = .ok (.invokestatic 57, 3) := by decide +kernel
theorem dX6_block_31 : decode cX6_block 31 = .ok (.ifCond .eq 16, 3) := by decide +kernel
theorem dX6_block_34 : decode cX6_block 34 = .ok (.iload 6, 2) := by decide +kernel
theorem dX6_block_36 : decode cX6_block 36 = .ok (.i2l, 1) := by decide +kernel
theorem dX6_block_37 : decode cX6_block 37 = .ok (.lconst 1, 1) := by decide +kernel
theorem dX6_block_38 : decode cX6_block 38 = .ok (.ldc2_w 99, 3) := by decide +kernel
theorem dX6_block_41 : decode cX6_block 41 = .ok (.invokestatic 57, 3) := by decide +kernel
theorem dX6_block_44 : decode cX6_block 44 = .ok (.ifCond .ne 5, 3) := by decide +kernel
theorem dX6_block_47 : decode cX6_block 47 = .ok (.iconst (-1), 1) := by decide +kernel
theorem dX6_block_48 : decode cX6_block 48 = .ok (.ireturn, 1) := by decide +kernel
theorem dX6_block_49 : decode cX6_block 49 = .ok (.aload_n 0, 1) := by decide +kernel
theorem dX6_block_50 : decode cX6_block 50 = .ok (.iconst 0, 1) := by decide +kernel
theorem dX6_block_51 : decode cX6_block 51 = .ok (.putfield 76, 3) := by decide +kernel
theorem dX6_block_54 : decode cX6_block 54 = .ok (.iconst 0, 1) := by decide +kernel
theorem dX6_block_55 : decode cX6_block 55 = .ok (.istore 7, 2) := by decide +kernel
theorem dX6_block_57 : decode cX6_block 57 = .ok (.iload 7, 2) := by decide +kernel
theorem dX6_block_59 : decode cX6_block 59 = .ok (.iload 4, 2) := by decide +kernel
theorem dX6_block_61 : decode cX6_block 61 = .ok (.iload 5, 2) := by decide +kernel
theorem dX6_block_63 : decode cX6_block 63 = .ok (.imul, 1) := by decide +kernel
theorem dX6_block_64 : decode cX6_block 64 = .ok (.if_icmp .ge 37, 3) := by decide +kernel
theorem dX6_block_67 : decode cX6_block 67 = .ok (.aload_n 0, 1) := by decide +kernel
theorem dX6_block_68 : decode cX6_block 68 = .ok (.iload_n 2, 1) := by decide +kernel
theorem dX6_block_69 : decode cX6_block 69 = .ok (.i2l, 1) := by decide +kernel
theorem dX6_block_70 : decode cX6_block 70 = .ok (.iload 7, 2) := by decide +kernel
theorem dX6_block_72 : decode cX6_block 72 = .ok (.iload 4, 2) := by decide +kernel
theorem dX6_block_74 : decode cX6_block 74 = .ok (.irem, 1) := by decide +kernel
theorem dX6_block_75 : decode cX6_block 75 = .ok (.iload 6, 2) := by decide +kernel
theorem dX6_block_77 : decode cX6_block 77 = .ok (.imul, 1) := by decide +kernel
theorem dX6_block_78 : decode cX6_block 78 = .ok (.i2l, 1) := by decide +kernel
theorem dX6_block_79 : decode cX6_block 79 = .ok (.ladd, 1) := by decide +kernel
theorem dX6_block_80 : decode cX6_block 80 = .ok (.iload_n 3, 1) := by decide +kernel
theorem dX6_block_81 : decode cX6_block 81 = .ok (.i2l, 1) := by decide +kernel
theorem dX6_block_82 : decode cX6_block 82 = .ok (.iload 7, 2) := by decide +kernel
theorem dX6_block_84 : decode cX6_block 84 = .ok (.iload 4, 2) := by decide +kernel
theorem dX6_block_86 : decode cX6_block 86 = .ok (.idiv, 1) := by decide +kernel
theorem dX6_block_87 : decode cX6_block 87 = .ok (.iload 6, 2) := by decide +kernel
theorem dX6_block_89 : decode cX6_block 89 = .ok (.imul, 1) := by decide +kernel
theorem dX6_block_90 : decode cX6_block 90 = .ok (.i2l, 1) := by decide +kernel
theorem dX6_block_91 : decode cX6_block 91 = .ok (.ladd, 1) := by decide +kernel
theorem dX6_block_92 : decode cX6_block 92 = .ok (.invokevirtual 92, 3) := by decide +kernel
theorem dX6_block_95 : decode cX6_block 95 = .ok (.iinc 7 1, 3) := by decide +kernel
theorem dX6_block_98 : decode cX6_block 98 = .ok (.goto (-41), 3) := by decide +kernel
theorem dX6_block_101 : decode cX6_block 101 = .ok (.aload_n 0, 1) := by decide +kernel
theorem dX6_block_102 : decode cX6_block 102 = .ok (.iload_n 1, 1) := by decide +kernel
theorem dX6_block_103 : decode cX6_block 103 = .ok (.invokevirtual 96, 3) := by decide +kernel
theorem dX6_block_106 : decode cX6_block 106 = .ok (.ireturn, 1) := by decide +kernel
theorem dX6_corner_0 : decode cX6_corner 0 = .ok (.aload_n 0, 1) := by decide +kernel
theorem dX6_corner_1 : decode cX6_corner 1 = .ok (.iload_n 1, 1) := by decide +kernel
theorem dX6_corner_2 : decode cX6_corner 2 = .ok (.invokevirtual 61, 3) := by decide +kernel
theorem dX6_corner_5 : decode cX6_corner 5 = .ok (.ifCond .eq 29, 3) := by decide +kernel
theorem dX6_corner_8 : decode cX6_corner 8 = .ok (.iload 4, 2) := by decide +kernel
theorem dX6_corner_10 : decode cX6_corner 10 = .ok (.i2l, 1) := by decide +kernel
theorem dX6_corner_11 : decode cX6_corner 11 = .ok (.lconst 1, 1) := by decide +kernel
theorem dX6_corner_12 : decode cX6_corner 12 = .ok (.ldc2_w 69, 3) := by decide +kernel
theorem dX6_corner_15 : decode cX6_corner 15 = .ok (.invokestatic 57, 3) := by decide +kernel
theorem dX6_corner_18 : decode cX6_corner 18 = .ok (.ifCond .eq 16, 3) := by decide +kernel
theorem dX6_corner_21 : decode cX6_corner 21 = .ok (.iload 5, 2) := by decide +kernel
theorem dX6_corner_23 : decode cX6_corner 23 = .ok (.i2l, 1) := by decide +kernel
theorem dX6_corner_24 : decode cX6_corner 24 = .ok (.lconst 1, 1) := by decide +kernel
theorem dX6_corner_25 : decode cX6_corner 25 = .ok (.ldc2_w 99, 3) := by decide +kernel
theorem dX6_corner_28 : decode cX6_corner 28 = .ok (.invokestatic 57, 3) := by decide +kernel
theorem dX6_corner_31 : decode cX6_corner 31 = .ok (.ifCond .ne 5, 3) := by decide +kernel
theorem dX6_corner_34 : decode cX6_corner 34 = .ok (.iconst (-1), 1) := by decide +kernel
theorem dX6_corner_35 : decode cX6_corner 35 = .ok (.ireturn, 1) := by decide +kernel
theorem dX6_corner_36 : decode cX6_corner 36 = .ok (.aload_n 0, 1) := by decide +kernel
theorem dX6_corner_37 : decode cX6_corner 37 = .ok (.iconst 0, 1) := by decide +kernel
theorem dX6_corner_38 : decode cX6_corner 38 = .ok (.putfield 76, 3) := by decide +kernel
theorem dX6_corner_41 : decode cX6_corner 41 = .ok (.iconst 0, 1) := by decide +kernel
theorem dX6_corner_42 : decode cX6_corner 42 = .ok (.istore 6, 2) := by decide +kernel
theorem dX6_corner_44 : decode cX6_corner 44 = .ok (.iload 6, 2) := by decide +kernel
theorem dX6_corner_46 : decode cX6_corner 46 = .ok (.iconst 2, 1) := by decide +kernel
theorem dX6_corner_47 : decode cX6_corner 47 = .ok (.iload 4, 2) := by decide +kernel
theorem dX6_corner_49 : decode cX6_corner 49 = .ok (.imul, 1) := by decide +kernel
theorem dX6_corner_50 : decode cX6_corner 50 = .ok (.iconst 1, 1) := by decide +kernel
theorem dX6_corner_51 : decode cX6_corner 51 = .ok (.isub, 1) := by decide +kernel
theorem dX6_corner_52 : decode cX6_corner 52 = .ok (.if_icmp .ge 61, 3) := by decide +kernel
theorem dX6_corner_55 : decode cX6_corner 55 = .ok (.aload_n 0, 1) := by decide +kernel
theorem dX6_corner_56 : decode cX6_corner 56 = .ok (.iload_n 2, 1) := by decide +kernel
theorem dX6_corner_57 : decode cX6_corner 57 = .ok (.i2l, 1) := by decide +kernel
theorem dX6_corner_58 : decode cX6_corner 58 = .ok (.iload 6, 2) := by decide +kernel
theorem dX6_corner_60 : decode cX6_corner 60 = .ok (.iload 4, 2) := by decide +kernel
theorem dX6_corner_62 : decode cX6_corner 62 = .ok (.if_icmp .ge 8, 3) := by decide +kernel
theorem dX6_corner_65 : decode cX6_corner 65 = .ok (.iload 6, 2) := by decide +kernel
theorem dX6_corner_67 : decode cX6_corner 67 = .ok (.goto 7, 3) := by decide +kernel
theorem dX6_corner_70 : decode cX6_corner 70 = .ok (.iload 4, 2) := by decide +kernel
theorem dX6_corner_72 : decode cX6_corner 72 = .ok (.iconst 1, 1) := by decide +kernel
theorem dX6_corner_73 : decode cX6_corner 73 = .ok (.isub, 1) := by decide +kernel
theorem dX6_corner_74 : decode cX6_corner 74 = .ok (.iload 5, 2) := by decide +kernel
theorem dX6_corner_76 : decode cX6_corner 76 = .ok (.imul, 1) := by decide +kernel
theorem dX6_corner_77 : decode cX6_corner 77 = .ok (.i2l, 1) := by decide +kernel
theorem dX6_corner_78 : decode cX6_corner 78 = .ok (.ladd, 1) := by decide +kernel
theorem dX6_corner_79 : decode cX6_corner 79 = .ok (.iload_n 3, 1) := by decide +kernel
theorem dX6_corner_80 : decode cX6_corner 80 = .ok (.i2l, 1) := by decide +kernel
theorem dX6_corner_81 : decode cX6_corner 81 = .ok (.iload 6, 2) := by decide +kernel
theorem dX6_corner_83 : decode cX6_corner 83 = .ok (.iload 4, 2) := by decide +kernel
theorem dX6_corner_85 : decode cX6_corner 85 = .ok (.if_icmp .ge 7, 3) := by decide +kernel
theorem dX6_corner_88 : decode cX6_corner 88 = .ok (.iconst 0, 1) := by decide +kernel
theorem dX6_corner_89 : decode cX6_corner 89 = .ok (.goto 10, 3) := by decide +kernel
theorem dX6_corner_92 : decode cX6_corner 92 = .ok (.iload 6, 2) := by decide +kernel
theorem dX6_corner_94 : decode cX6_corner 94 = .ok (.iload 4, 2) := by decide +kernel
theorem dX6_corner_96 : decode cX6_corner 96 = .ok (.isub, 1) := by decide +kernel
theorem dX6_corner_97 : decode cX6_corner 97 = .ok (.iconst 1, 1) := by decide +kernel
theorem dX6_corner_98 : decode cX6_corner 98 = .ok (.iadd, 1) := by decide +kernel
theorem dX6_corner_99 : decode cX6_corner 99 = .ok (.iload 5, 2) := by decide +kernel
theorem dX6_corner_101 : decode cX6_corner 101 = .ok (.imul, 1) := by decide +kernel
theorem dX6_corner_102 : decode cX6_corner 102 = .ok (.i2l, 1) := by decide +kernel
theorem dX6_corner_103 : decode cX6_corner 103 = .ok (.ladd, 1) := by decide +kernel
theorem dX6_corner_104 : decode cX6_corner 104 = .ok (.invokevirtual 92, 3) := by decide +kernel
theorem dX6_corner_107 : decode cX6_corner 107 = .ok (.iinc 6 1, 3) := by decide +kernel
theorem dX6_corner_110 : decode cX6_corner 110 = .ok (.goto (-66), 3) := by decide +kernel
theorem dX6_corner_113 : decode cX6_corner 113 = .ok (.aload_n 0, 1) := by decide +kernel
theorem dX6_corner_114 : decode cX6_corner 114 = .ok (.iload_n 1, 1) := by decide +kernel
theorem dX6_corner_115 : decode cX6_corner 115 = .ok (.invokevirtual 96, 3) := by decide +kernel
theorem dX6_corner_118 : decode cX6_corner 118 = .ok (.ireturn, 1) := by decide +kernel
theorem dX6_solo_0 : decode cX6_solo 0 = .ok (.aload_n 0, 1) := by decide +kernel
theorem dX6_solo_1 : decode cX6_solo 1 = .ok (.iload_n 1, 1) := by decide +kernel
theorem dX6_solo_2 : decode cX6_solo 2 = .ok (.iload_n 2, 1) := by decide +kernel
theorem dX6_solo_3 : decode cX6_solo 3 = .ok (.invokevirtual 101, 3) := by decide +kernel
theorem dX6_solo_6 : decode cX6_solo 6 = .ok (.ifCond .ne 5, 3) := by decide +kernel
theorem dX6_solo_9 : decode cX6_solo 9 = .ok (.iconst (-1), 1) := by decide +kernel
theorem dX6_solo_10 : decode cX6_solo 10 = .ok (.ireturn, 1) := by decide +kernel
theorem dX6_solo_11 : decode cX6_solo 11 = .ok (.iconst 3, 1) := by decide +kernel
theorem dX6_solo_12 : decode cX6_solo 12 = .ok (.bipush 7, 2) := by decide +kernel
theorem dX6_solo_14 : decode cX6_solo 14 = .ok (.iload_n 1, 1) := by decide +kernel
theorem dX6_solo_15 : decode cX6_solo 15 = .ok (.imul, 1) := by decide +kernel
theorem dX6_solo_16 : decode cX6_solo 16 = .ok (.iload_n 2, 1) := by decide +kernel
theorem dX6_solo_17 : decode cX6_solo 17 = .ok (.iadd, 1) := by decide +kernel
theorem dX6_solo_18 : decode cX6_solo 18 = .ok (.imul, 1) := by decide +kernel
theorem dX6_solo_19 : decode cX6_solo 19 = .ok (.iconst 2, 1) := by decide +kernel
theorem dX6_solo_20 : decode cX6_solo 20 = .ok (.iadd, 1) := by decide +kernel
theorem dX6_solo_21 : decode cX6_solo 21 = .ok (.istore 4, 2) := by decide +kernel
theorem dX6_solo_23 : decode cX6_solo 23 = .ok (.iload_n 3, 1) := by decide +kernel
theorem dX6_solo_24 : decode cX6_solo 24 = .ok (.ifCond .eq 7, 3) := by decide +kernel
theorem dX6_solo_27 : decode cX6_solo 27 = .ok (.iconst 1, 1) := by decide +kernel
theorem dX6_solo_28 : decode cX6_solo 28 = .ok (.goto 4, 3) := by decide +kernel
theorem dX6_solo_31 : decode cX6_solo 31 = .ok (.iconst 0, 1) := by decide +kernel
theorem dX6_solo_32 : decode cX6_solo 32 = .ok (.istore 5, 2) := by decide +kernel
theorem dX6_solo_34 : decode cX6_solo 34 = .ok (.aload_n 0, 1) := by decide +kernel
theorem dX6_solo_35 : decode cX6_solo 35 = .ok (.getfield 19, 3) := by decide +kernel
theorem dX6_solo_38 : decode cX6_solo 38 = .ok (.iload 4, 2) := by decide +kernel
theorem dX6_solo_40 : decode cX6_solo 40 = .ok (.iaload, 1) := by decide +kernel
theorem dX6_solo_41 : decode cX6_solo 41 = .ok (.iload 5, 2) := by decide +kernel
theorem dX6_solo_43 : decode cX6_solo 43 = .ok (.if_icmp .ne 7, 3) := by decide +kernel
theorem dX6_solo_46 : decode cX6_solo 46 = .ok (.iconst 0, 1) := by decide +kernel
theorem dX6_solo_47 : decode cX6_solo 47 = .ok (.goto 4, 3) := by decide +kernel
theorem dX6_solo_50 : decode cX6_solo 50 = .ok (.iconst 1, 1) := by decide +kernel
theorem dX6_solo_51 : decode cX6_solo 51 = .ok (.istore 6, 2) := by decide +kernel
theorem dX6_solo_53 : decode cX6_solo 53 = .ok (.aload_n 0, 1) := by decide +kernel
theorem dX6_solo_54 : decode cX6_solo 54 = .ok (.getfield 19, 3) := by decide +kernel
theorem dX6_solo_57 : decode cX6_solo 57 = .ok (.iload 4, 2) := by decide +kernel
theorem dX6_solo_59 : decode cX6_solo 59 = .ok (.iload 5, 2) := by decide +kernel
theorem dX6_solo_61 : decode cX6_solo 61 = .ok (.iastore, 1) := by decide +kernel
theorem dX6_solo_62 : decode cX6_solo 62 = .ok (.iload 6, 2) := by decide +kernel
theorem dX6_solo_64 : decode cX6_solo 64 = .ok (.ireturn, 1) := by decide +kernel
theorem dX6_scrub_0 : decode cX6_scrub 0 = .ok (.aload_n 0, 1) := by decide +kernel
theorem dX6_scrub_1 : decode cX6_scrub 1 = .ok (.iload_n 1, 1) := by decide +kernel
theorem dX6_scrub_2 : decode cX6_scrub 2 = .ok (.invokevirtual 61, 3) := by decide +kernel
theorem dX6_scrub_5 : decode cX6_scrub 5 = .ok (.ifCond .ne 5, 3) := by decide +kernel
theorem dX6_scrub_8 : decode cX6_scrub 8 = .ok (.iconst (-1), 1) := by decide +kernel
theorem dX6_scrub_9 : decode cX6_scrub 9 = .ok (.ireturn, 1) := by decide +kernel
theorem dX6_scrub_10 : decode cX6_scrub 10 = .ok (.aload_n 0, 1) := by decide +kernel
theorem dX6_scrub_11 : decode cX6_scrub 11 = .ok (.iload_n 1, 1) := by decide +kernel
theorem dX6_scrub_12 : decode cX6_scrub 12 = .ok (.invokevirtual 65, 3) := by decide +kernel
theorem dX6_scrub_15 : decode cX6_scrub 15 = .ok (.ifCond .ne 6, 3) := by decide +kernel
theorem dX6_scrub_18 : decode cX6_scrub 18 = .ok (.bipush (-3), 2) := by decide +kernel
theorem dX6_scrub_20 : decode cX6_scrub 20 = .ok (.ireturn, 1) := by decide +kernel
theorem dX6_scrub_21 : decode cX6_scrub 21 = .ok (.aload_n 0, 1) := by decide +kernel
theorem dX6_scrub_22 : decode cX6_scrub 22 = .ok (.getfield 16, 3) := by decide +kernel
theorem dX6_scrub_25 : decode cX6_scrub 25 = .ok (.iconst 2, 1) := by decide +kernel
theorem dX6_scrub_26 : decode cX6_scrub 26 = .ok (.iload_n 1, 1) := by decide +kernel
theorem dX6_scrub_27 : decode cX6_scrub 27 = .ok (.imul, 1) := by decide +kernel
theorem dX6_scrub_28 : decode cX6_scrub 28 = .ok (.iconst 1, 1) := by decide +kernel
theorem dX6_scrub_29 : decode cX6_scrub 29 = .ok (.iadd, 1) := by decide +kernel
theorem dX6_scrub_30 : decode cX6_scrub 30 = .ok (.dup2, 1) := by decide +kernel
theorem dX6_scrub_31 : decode cX6_scrub 31 = .ok (.iaload, 1) := by decide +kernel
theorem dX6_scrub_32 : decode cX6_scrub 32 = .ok (.iconst 1, 1) := by decide +kernel
theorem dX6_scrub_33 : decode cX6_scrub 33 = .ok (.isub, 1) := by decide +kernel
theorem dX6_scrub_34 : decode cX6_scrub 34 = .ok (.iastore, 1) := by decide +kernel
theorem dX6_scrub_35 : decode cX6_scrub 35 = .ok (.aload_n 0, 1) := by decide +kernel
theorem dX6_scrub_36 : decode cX6_scrub 36 = .ok (.iload_n 1, 1) := by decide +kernel
theorem dX6_scrub_37 : decode cX6_scrub 37 = .ok (.invokevirtual 65, 3) := by decide +kernel
theorem dX6_scrub_40 : decode cX6_scrub 40 = .ok (.ireturn, 1) := by decide +kernel
theorem dX6_rule_0 : decode cX6_rule 0 = .ok (.iload_n 1, 1) := by decide +kernel
theorem dX6_rule_1 : decode cX6_rule 1 = .ok (.i2l, 1) := by decide +kernel
theorem dX6_rule_2 : decode cX6_rule 2 = .ok (.lconst 0, 1) := by decide +kernel
theorem dX6_rule_3 : decode cX6_rule 3 = .ok (.lconst 1, 1) := by decide +kernel
theorem dX6_rule_4 : decode cX6_rule 4 = .ok (.invokestatic 57, 3) := by decide +kernel
theorem dX6_rule_7 : decode cX6_rule 7 = .ok (.ifCond .eq 26, 3) := by decide +kernel
theorem dX6_rule_10 : decode cX6_rule 10 = .ok (.iload_n 2, 1) := by decide +kernel
theorem dX6_rule_11 : decode cX6_rule 11 = .ok (.i2l, 1) := by decide +kernel
theorem dX6_rule_12 : decode cX6_rule 12 = .ok (.iload_n 1, 1) := by decide +kernel
theorem dX6_rule_13 : decode cX6_rule 13 = .ok (.i2l, 1) := by decide +kernel
theorem dX6_rule_14 : decode cX6_rule 14 = .ok (.iload_n 1, 1) := by decide +kernel
theorem dX6_rule_15 : decode cX6_rule 15 = .ok (.ifCond .ne 9, 3) := by decide +kernel
theorem dX6_rule_18 : decode cX6_rule 18 = .ok (.ldc2_w 104, 3) := by decide +kernel
theorem dX6_rule_21 : decode cX6_rule 21 = .ok (.goto 6, 3) := by decide +kernel
theorem dX6_rule_24 : decode cX6_rule 24 = .ok (.ldc2_w 106, 3) := by decide +kernel
theorem dX6_rule_27 : decode cX6_rule 27 = .ok (.invokestatic 57, 3) := by decide +kernel
theorem dX6_rule_30 : decode cX6_rule 30 = .ok (.ifCond .ne 5, 3) := by decide +kernel
theorem dX6_rule_33 : decode cX6_rule 33 = .ok (.iconst (-1), 1) := by decide +kernel
theorem dX6_rule_34 : decode cX6_rule 34 = .ok (.ireturn, 1) := by decide +kernel
theorem dX6_rule_35 : decode cX6_rule 35 = .ok (.aload_n 0, 1) := by decide +kernel
theorem dX6_rule_36 : decode cX6_rule 36 = .ok (.getfield 7, 3) := by decide +kernel
theorem dX6_rule_39 : decode cX6_rule 39 = .ok (.iconst 2, 1) := by decide +kernel
theorem dX6_rule_40 : decode cX6_rule 40 = .ok (.iload_n 1, 1) := by decide +kernel
theorem dX6_rule_41 : decode cX6_rule 41 = .ok (.iadd, 1) := by decide +kernel
theorem dX6_rule_42 : decode cX6_rule 42 = .ok (.iaload, 1) := by decide +kernel
theorem dX6_rule_43 : decode cX6_rule 43 = .ok (.istore_n 3, 1) := by decide +kernel
theorem dX6_rule_44 : decode cX6_rule 44 = .ok (.aload_n 0, 1) := by decide +kernel
theorem dX6_rule_45 : decode cX6_rule 45 = .ok (.getfield 7, 3) := by decide +kernel
theorem dX6_rule_48 : decode cX6_rule 48 = .ok (.iconst 2, 1) := by decide +kernel
theorem dX6_rule_49 : decode cX6_rule 49 = .ok (.iload_n 1, 1) := by decide +kernel
theorem dX6_rule_50 : decode cX6_rule 50 = .ok (.iadd, 1) := by decide +kernel
theorem dX6_rule_51 : decode cX6_rule 51 = .ok (.iload_n 2, 1) := by decide +kernel
theorem dX6_rule_52 : decode cX6_rule 52 = .ok (.iastore, 1) := by decide +kernel
theorem dX6_rule_53 : decode cX6_rule 53 = .ok (.iload_n 3, 1) := by decide +kernel
theorem dX6_rule_54 : decode cX6_rule 54 = .ok (.ireturn, 1) := by decide +kernel
theorem dX6_drums_0 : decode cX6_drums 0 = .ok (.iload_n 1, 1) := by decide +kernel
theorem dX6_drums_1 : decode cX6_drums 1 = .ok (.i2l, 1) := by decide +kernel
theorem dX6_drums_2 : decode cX6_drums 2 = .ok (.lconst 0, 1) := by decide +kernel
theorem dX6_drums_3 : decode cX6_drums 3 = .ok (.ldc2_w 80, 3) := by decide +kernel
theorem dX6_drums_6 : decode cX6_drums 6 = .ok (.invokestatic 57, 3) := by decide +kernel
theorem dX6_drums_9 : decode cX6_drums 9 = .ok (.ifCond .eq 15, 3) := by decide +kernel
theorem dX6_drums_12 : decode cX6_drums 12 = .ok (.iload_n 2, 1) := by decide +kernel
theorem dX6_drums_13 : decode cX6_drums 13 = .ok (.i2l, 1) := by decide +kernel
theorem dX6_drums_14 : decode cX6_drums 14 = .ok (.lconst 0, 1) := by decide +kernel
theorem dX6_drums_15 : decode cX6_drums 15 = .ok (.ldc2_w 80, 3) := by decide +kernel
theorem dX6_drums_18 : decode cX6_drums 18 = .ok (.invokestatic 57, 3) := by decide +kernel
theorem dX6_drums_21 : decode cX6_drums 21 = .ok (.ifCond .ne 6, 3) := by decide +kernel
theorem dX6_drums_24 : decode cX6_drums 24 = .ok (.bipush (-4), 2) := by decide +kernel
theorem dX6_drums_26 : decode cX6_drums 26 = .ok (.ireturn, 1) := by decide +kernel
theorem dX6_drums_27 : decode cX6_drums 27 = .ok (.aload_n 0, 1) := by decide +kernel
theorem dX6_drums_28 : decode cX6_drums 28 = .ok (.getfield 7, 3) := by decide +kernel
theorem dX6_drums_31 : decode cX6_drums 31 = .ok (.iconst 4, 1) := by decide +kernel
theorem dX6_drums_32 : decode cX6_drums 32 = .ok (.iload_n 1, 1) := by decide +kernel
theorem dX6_drums_33 : decode cX6_drums 33 = .ok (.iastore, 1) := by decide +kernel
theorem dX6_drums_34 : decode cX6_drums 34 = .ok (.aload_n 0, 1) := by decide +kernel
theorem dX6_drums_35 : decode cX6_drums 35 = .ok (.getfield 7, 3) := by decide +kernel
theorem dX6_drums_38 : decode cX6_drums 38 = .ok (.iconst 5, 1) := by decide +kernel
theorem dX6_drums_39 : decode cX6_drums 39 = .ok (.iload_n 2, 1) := by decide +kernel
theorem dX6_drums_40 : decode cX6_drums 40 = .ok (.iastore, 1) := by decide +kernel
theorem dX6_drums_41 : decode cX6_drums 41 = .ok (.iconst 1, 1) := by decide +kernel
theorem dX6_drums_42 : decode cX6_drums 42 = .ok (.ireturn, 1) := by decide +kernel
theorem dX6_dot_0 : decode cX6_dot 0 = .ok (.aload_n 0, 1) := by decide +kernel
theorem dX6_dot_1 : decode cX6_dot 1 = .ok (.iload_n 1, 1) := by decide +kernel
theorem dX6_dot_2 : decode cX6_dot 2 = .ok (.iload_n 2, 1) := by decide +kernel
theorem dX6_dot_3 : decode cX6_dot 3 = .ok (.invokevirtual 101, 3) := by decide +kernel
theorem dX6_dot_6 : decode cX6_dot 6 = .ok (.ifCond .eq 33, 3) := by decide +kernel
theorem dX6_dot_9 : decode cX6_dot 9 = .ok (.iload_n 3, 1) := by decide +kernel
theorem dX6_dot_10 : decode cX6_dot 10 = .ok (.i2l, 1) := by decide +kernel
theorem dX6_dot_11 : decode cX6_dot 11 = .ok (.lconst 0, 1) := by decide +kernel
theorem dX6_dot_12 : decode cX6_dot 12 = .ok (.ldc2_w 108, 3) := by decide +kernel
theorem dX6_dot_15 : decode cX6_dot 15 = .ok (.invokestatic 57, 3) := by decide +kernel
theorem dX6_dot_18 : decode cX6_dot 18 = .ok (.ifCond .eq 21, 3) := by decide +kernel
theorem dX6_dot_21 : decode cX6_dot 21 = .ok (.aload_n 0, 1) := by decide +kernel
theorem dX6_dot_22 : decode cX6_dot 22 = .ok (.getfield 19, 3) := by decide +kernel
theorem dX6_dot_25 : decode cX6_dot 25 = .ok (.iconst 3, 1) := by decide +kernel
theorem dX6_dot_26 : decode cX6_dot 26 = .ok (.bipush 7, 2) := by decide +kernel
theorem dX6_dot_28 : decode cX6_dot 28 = .ok (.iload_n 1, 1) := by decide +kernel
theorem dX6_dot_29 : decode cX6_dot 29 = .ok (.imul, 1) := by decide +kernel
theorem dX6_dot_30 : decode cX6_dot 30 = .ok (.iload_n 2, 1) := by decide +kernel
theorem dX6_dot_31 : decode cX6_dot 31 = .ok (.iadd, 1) := by decide +kernel
theorem dX6_dot_32 : decode cX6_dot 32 = .ok (.imul, 1) := by decide +kernel
theorem dX6_dot_33 : decode cX6_dot 33 = .ok (.iload_n 3, 1) := by decide +kernel
theorem dX6_dot_34 : decode cX6_dot 34 = .ok (.iadd, 1) := by decide +kernel
theorem dX6_dot_35 : decode cX6_dot 35 = .ok (.iaload, 1) := by decide +kernel
theorem dX6_dot_36 : decode cX6_dot 36 = .ok (.goto 4, 3) := by decide +kernel
theorem dX6_dot_39 : decode cX6_dot 39 = .ok (.iconst (-1), 1) := by decide +kernel
theorem dX6_dot_40 : decode cX6_dot 40 = .ok (.ireturn, 1) := by decide +kernel
theorem dX6_size_0 : decode cX6_size 0 = .ok (.iload_n 0, 1) := by decide +kernel
theorem dX6_size_1 : decode cX6_size 1 = .ok (.ifCond .ge 8, 3) := by decide +kernel
theorem dX6_size_4 : decode cX6_size 4 = .ok (.iload_n 0, 1) := by decide +kernel
theorem dX6_size_5 : decode cX6_size 5 = .ok (.ineg, 1) := by decide +kernel
theorem dX6_size_6 : decode cX6_size 6 = .ok (.goto 4, 3) := by decide +kernel
theorem dX6_size_9 : decode cX6_size 9 = .ok (.iload_n 0, 1) := by decide +kernel
theorem dX6_size_10 : decode cX6_size 10 = .ok (.ireturn, 1) := by decide +kernel
