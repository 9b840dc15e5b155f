theorem dX5_init_0 : decode cX5_init 0 = .ok (.aload_n 0, 1) := by decide +kernel
theorem dX5_init_1 : decode cX5_init 1 = .ok (.invokespecial 1, 3) := by decide +kernel
theorem dX5_init_4 : decode cX5_init 4 = .ok (.aload_n 0, 1) := by decide +kernel
theorem dX5_init_5 : decode cX5_init 5 = .ok (.new 7, 3) := by decide +kernel
theorem dX5_init_8 : decode cX5_init 8 = .ok (.dup, 1) := by decide +kernel
theorem dX5_init_9 : decode cX5_init 9 = .ok (.invokespecial 9, 3) := by decide +kernel
theorem dX5_init_12 : decode cX5_init 12 = .ok (.putfield 10, 3) := by decide +kernel
theorem dX5_init_15 : decode cX5_init 15 = .ok (.aload_n 0, 1) := by decide +kernel
theorem dX5_init_16 : decode cX5_init 16 = .ok (.new 7, 3) := by decide +kernel
theorem dX5_init_19 : decode cX5_init 19 = .ok (.dup, 1) := by decide +kernel
theorem dX5_init_20 : decode cX5_init 20 = .ok (.invokespecial 9, 3) := by decide +kernel
theorem dX5_init_23 : decode cX5_init 23 = .ok (.putfield 16, 3) := by decide +kernel
theorem dX5_init_26 : decode cX5_init 26 = .ok (.aload_n 0, 1) := by decide +kernel
theorem dX5_init_27 : decode cX5_init 27 = .ok (.iconst 0, 1) := by decide +kernel
theorem dX5_init_28 : decode cX5_init 28 = .ok (.putfield 19, 3) := by decide +kernel
theorem dX5_init_31 : decode cX5_init 31 = .ok (.aload_n 0, 1) := by decide +kernel
theorem dX5_init_32 : decode cX5_init 32 = .ok (.new 23, 3) := by decide +kernel
theorem dX5_init_35 : decode cX5_init 35 = .ok (.dup, 1) := by decide +kernel
theorem dX5_init_36 : decode cX5_init 36 = .ok (.invokespecial 25, 3) := by decide +kernel
theorem dX5_init_39 : decode cX5_init 39 = .ok (.putfield 26, 3) := by decide +kernel
theorem dX5_init_42 : decode cX5_init 42 = .ok (.new 30, 3) := by decide +kernel
theorem dX5_init_45 : decode cX5_init 45 = .ok (.dup, 1) := by decide +kernel
theorem dX5_init_46 : decode cX5_init 46 = .ok (.invokespecial 32, 3) := by decide +kernel
theorem dX5_init_49 : decode cX5_init 49 = .ok (.astore_n 1, 1) := by decide +kernel
theorem dX5_init_50 : decode cX5_init 50 = .ok (.aload_n 0, 1) := by decide +kernel
theorem dX5_init_51 : decode cX5_init 51 = .ok (.new 33, 3) := by decide +kernel
theorem dX5_init_54 : decode cX5_init 54 = .ok (.dup, 1) := by decide +kernel
theorem dX5_init_55 : decode cX5_init 55 = .ok (.aload_n 1, 1) := by decide +kernel
theorem dX5_init_56 : decode cX5_init 56 = .ok (.invokespecial 35, 3) := by decide +kernel
theorem dX5_init_59 : decode cX5_init 59 = .ok (.putfield 38, 3) := by decide +kernel
theorem dX5_init_62 : decode cX5_init 62 = .ok (.aload_n 0, 1) := by decide +kernel
theorem dX5_init_63 : decode cX5_init 63 = .ok (.new 33, 3) := by decide +kernel
theorem dX5_init_66 : decode cX5_init 66 = .ok (.dup, 1) := by decide +kernel
theorem dX5_init_67 : decode cX5_init 67 = .ok (.aload_n 1, 1) := by decide +kernel
theorem dX5_init_68 : decode cX5_init 68 = .ok (.invokespecial 35, 3) := by decide +kernel
theorem dX5_init_71 : decode cX5_init 71 = .ok (.putfield 42, 3) := by decide +kernel
theorem dX5_init_74 : decode cX5_init 74 = .ok (.return_, 1) := by decide +kernel
theorem dX5_marcher_0 : decode cX5_marcher 0 = .ok (.iload_n 1, 1) := by decide +kernel
theorem dX5_marcher_1 : decode cX5_marcher 1 = .ok (.iconst 1, 1) := by decide +kernel
theorem dX5_marcher_2 : decode cX5_marcher 2 = .ok (.iconst 4, 1) := by decide +kernel
theorem dX5_marcher_3 : decode cX5_marcher 3 = .ok (.invokestatic 45, 3) := by decide +kernel
theorem dX5_marcher_6 : decode cX5_marcher 6 = .ok (.ifCond .eq 5, 3) := by decide +kernel
theorem dX5_marcher_9 : decode cX5_marcher 9 = .ok (.iconst (-1), 1) := by decide +kernel
theorem dX5_marcher_10 : decode cX5_marcher 10 = .ok (.ireturn, 1) := by decide +kernel
theorem dX5_marcher_11 : decode cX5_marcher 11 = .ok (.aload_n 0, 1) := by decide +kernel
theorem dX5_marcher_12 : decode cX5_marcher 12 = .ok (.getfield 10, 3) := by decide +kernel
theorem dX5_marcher_15 : decode cX5_marcher 15 = .ok (.getfield 49, 3) := by decide +kernel
theorem dX5_marcher_18 : decode cX5_marcher 18 = .ok (.bipush 6, 2) := by decide +kernel
theorem dX5_marcher_20 : decode cX5_marcher 20 = .ok (.if_icmp .lt 6, 3) := by decide +kernel
theorem dX5_marcher_23 : decode cX5_marcher 23 = .ok (.bipush (-2), 2) := by decide +kernel
theorem dX5_marcher_25 : decode cX5_marcher 25 = .ok (.ireturn, 1) := by decide +kernel
theorem dX5_marcher_26 : decode cX5_marcher 26 = .ok (.aload_n 0, 1) := by decide +kernel
theorem dX5_marcher_27 : decode cX5_marcher 27 = .ok (.getfield 10, 3) := by decide +kernel
theorem dX5_marcher_30 : decode cX5_marcher 30 = .ok (.getfield 49, 3) := by decide +kernel
theorem dX5_marcher_33 : decode cX5_marcher 33 = .ok (.istore_n 2, 1) := by decide +kernel
theorem dX5_marcher_34 : decode cX5_marcher 34 = .ok (.aload_n 0, 1) := by decide +kernel
theorem dX5_marcher_35 : decode cX5_marcher 35 = .ok (.getfield 10, 3) := by decide +kernel
theorem dX5_marcher_38 : decode cX5_marcher 38 = .ok (.getfield 53, 3) := by decide +kernel
theorem dX5_marcher_41 : decode cX5_marcher 41 = .ok (.iload_n 2, 1) := by decide +kernel
theorem dX5_marcher_42 : decode cX5_marcher 42 = .ok (.iload_n 1, 1) := by decide +kernel
theorem dX5_marcher_43 : decode cX5_marcher 43 = .ok (.iastore, 1) := by decide +kernel
theorem dX5_marcher_44 : decode cX5_marcher 44 = .ok (.aload_n 0, 1) := by decide +kernel
theorem dX5_marcher_45 : decode cX5_marcher 45 = .ok (.getfield 10, 3) := by decide +kernel
theorem dX5_marcher_48 : decode cX5_marcher 48 = .ok (.getfield 57, 3) := by decide +kernel
theorem dX5_marcher_51 : decode cX5_marcher 51 = .ok (.iload_n 2, 1) := by decide +kernel
theorem dX5_marcher_52 : decode cX5_marcher 52 = .ok (.iconst 0, 1) := by decide +kernel
theorem dX5_marcher_53 : decode cX5_marcher 53 = .ok (.bastore, 1) := by decide +kernel
theorem dX5_marcher_54 : decode cX5_marcher 54 = .ok (.aload_n 0, 1) := by decide +kernel
theorem dX5_marcher_55 : decode cX5_marcher 55 = .ok (.getfield 10, 3) := by decide +kernel
theorem dX5_marcher_58 : decode cX5_marcher 58 = .ok (.iload_n 2, 1) := by decide +kernel
theorem dX5_marcher_59 : decode cX5_marcher 59 = .ok (.iconst 1, 1) := by decide +kernel
theorem dX5_marcher_60 : decode cX5_marcher 60 = .ok (.iadd, 1) := by decide +kernel
theorem dX5_marcher_61 : decode cX5_marcher 61 = .ok (.putfield 49, 3) := by decide +kernel
theorem dX5_marcher_64 : decode cX5_marcher 64 = .ok (.aload_n 0, 1) := by decide +kernel
theorem dX5_marcher_65 : decode cX5_marcher 65 = .ok (.getfield 38, 3) := by decide +kernel
theorem dX5_marcher_68 : decode cX5_marcher 68 = .ok (.iconst 0, 1) := by decide +kernel
theorem dX5_marcher_69 : decode cX5_marcher 69 = .ok (.invokevirtual 61, 3) := by decide +kernel
theorem dX5_marcher_72 : decode cX5_marcher 72 = .ok (.iload_n 2, 1) := by decide +kernel
theorem dX5_marcher_73 : decode cX5_marcher 73 = .ok (.ireturn, 1) := by decide +kernel
theorem dX5_ill_0 : decode cX5_ill 0 = .ok (.aload_n 0, 1) := by decide +kernel
theorem dX5_ill_1 : decode cX5_ill 1 = .ok (.getfield 10, 3) := by decide +kernel
theorem dX5_ill_4 : decode cX5_ill 4 = .ok (.iload_n 1, 1) := by decide +kernel
theorem dX5_ill_5 : decode cX5_ill 5 = .ok (.invokevirtual 65, 3) := by decide +kernel
theorem dX5_ill_8 : decode cX5_ill 8 = .ok (.ifCond .ne 5, 3) := by decide +kernel
theorem dX5_ill_11 : decode cX5_ill 11 = .ok (.iconst (-1), 1) := by decide +kernel
theorem dX5_ill_12 : decode cX5_ill 12 = .ok (.ireturn, 1) := by decide +kernel
theorem dX5_ill_13 : decode cX5_ill 13 = .ok (.aload_n 0, 1) := by decide +kernel
theorem dX5_ill_14 : decode cX5_ill 14 = .ok (.getfield 10, 3) := by decide +kernel
theorem dX5_ill_17 : decode cX5_ill 17 = .ok (.getfield 57, 3) := by decide +kernel
theorem dX5_ill_20 : decode cX5_ill 20 = .ok (.iload_n 1, 1) := by decide +kernel
theorem dX5_ill_21 : decode cX5_ill 21 = .ok (.baload, 1) := by decide +kernel
theorem dX5_ill_22 : decode cX5_ill 22 = .ok (.iload_n 2, 1) := by decide +kernel
theorem dX5_ill_23 : decode cX5_ill 23 = .ok (.if_icmp .ne 5, 3) := by decide +kernel
theorem dX5_ill_26 : decode cX5_ill 26 = .ok (.iconst 0, 1) := by decide +kernel
theorem dX5_ill_27 : decode cX5_ill 27 = .ok (.ireturn, 1) := by decide +kernel
theorem dX5_ill_28 : decode cX5_ill 28 = .ok (.aload_n 0, 1) := by decide +kernel
theorem dX5_ill_29 : decode cX5_ill 29 = .ok (.getfield 10, 3) := by decide +kernel
theorem dX5_ill_32 : decode cX5_ill 32 = .ok (.getfield 57, 3) := by decide +kernel
theorem dX5_ill_35 : decode cX5_ill 35 = .ok (.iload_n 1, 1) := by decide +kernel
theorem dX5_ill_36 : decode cX5_ill 36 = .ok (.iload_n 2, 1) := by decide +kernel
theorem dX5_ill_37 : decode cX5_ill 37 = .ok (.bastore, 1) := by decide +kernel
theorem dX5_ill_38 : decode cX5_ill 38 = .ok (.aload_n 0, 1) := by decide +kernel
theorem dX5_ill_39 : decode cX5_ill 39 = .ok (.getfield 38, 3) := by decide +kernel
theorem dX5_ill_42 : decode cX5_ill 42 = .ok (.iconst 0, 1) := by decide +kernel
theorem dX5_ill_43 : decode cX5_ill 43 = .ok (.invokevirtual 61, 3) := by decide +kernel
theorem dX5_ill_46 : decode cX5_ill 46 = .ok (.iconst 1, 1) := by decide +kernel
theorem dX5_ill_47 : decode cX5_ill 47 = .ok (.ireturn, 1) := by decide +kernel
theorem dX5_bound_0 : decode cX5_bound 0 = .ok (.aload_n 0, 1) := by decide +kernel
theorem dX5_bound_1 : decode cX5_bound 1 = .ok (.getfield 10, 3) := by decide +kernel
theorem dX5_bound_4 : decode cX5_bound 4 = .ok (.iload_n 1, 1) := by decide +kernel
theorem dX5_bound_5 : decode cX5_bound 5 = .ok (.invokevirtual 65, 3) := by decide +kernel
theorem dX5_bound_8 : decode cX5_bound 8 = .ok (.ifCond .eq 12, 3) := by decide +kernel
theorem dX5_bound_11 : decode cX5_bound 11 = .ok (.iload_n 2, 1) := by decide +kernel
theorem dX5_bound_12 : decode cX5_bound 12 = .ok (.iconst 1, 1) := by decide +kernel
theorem dX5_bound_13 : decode cX5_bound 13 = .ok (.iconst 4, 1) := by decide +kernel
theorem dX5_bound_14 : decode cX5_bound 14 = .ok (.invokestatic 45, 3) := by decide +kernel
theorem dX5_bound_17 : decode cX5_bound 17 = .ok (.ifCond .eq 5, 3) := by decide +kernel
theorem dX5_bound_20 : decode cX5_bound 20 = .ok (.iconst (-1), 1) := by decide +kernel
theorem dX5_bound_21 : decode cX5_bound 21 = .ok (.ireturn, 1) := by decide +kernel
theorem dX5_bound_22 : decode cX5_bound 22 = .ok (.aload_n 0, 1) := by decide +kernel
theorem dX5_bound_23 : decode cX5_bound 23 = .ok (.getfield 10, 3) := by decide +kernel
theorem dX5_bound_26 : decode cX5_bound 26 = .ok (.getfield 53, 3) := by decide +kernel
theorem dX5_bound_29 : decode cX5_bound 29 = .ok (.iload_n 1, 1) := by decide +kernel
theorem dX5_bound_30 : decode cX5_bound 30 = .ok (.iaload, 1) := by decide +kernel
theorem dX5_bound_31 : decode cX5_bound 31 = .ok (.istore_n 3, 1) := by decide +kernel
theorem dX5_bound_32 : decode cX5_bound 32 = .ok (.aload_n 0, 1) := by decide +kernel
theorem dX5_bound_33 : decode cX5_bound 33 = .ok (.getfield 10, 3) := by decide +kernel
theorem dX5_bound_36 : decode cX5_bound 36 = .ok (.getfield 53, 3) := by decide +kernel
theorem dX5_bound_39 : decode cX5_bound 39 = .ok (.iload_n 1, 1) := by decide +kernel
theorem dX5_bound_40 : decode cX5_bound 40 = .ok (.iload_n 2, 1) := by decide +kernel
theorem dX5_bound_41 : decode cX5_bound 41 = .ok (.iastore, 1) := by decide +kernel
theorem dX5_bound_42 : decode cX5_bound 42 = .ok (.aload_n 0, 1) := by decide +kernel
theorem dX5_bound_43 : decode cX5_bound 43 = .ok (.getfield 38, 3) := by decide +kernel
theorem dX5_bound_46 : decode cX5_bound 46 = .ok (.iconst 1, 1) := by decide +kernel
theorem dX5_bound_47 : decode cX5_bound 47 = .ok (.invokevirtual 61, 3) := by decide +kernel
theorem dX5_bound_50 : decode cX5_bound 50 = .ok (.iload_n 3, 1) := by decide +kernel
theorem dX5_bound_51 : decode cX5_bound 51 = .ok (.ireturn, 1) := by decide +kernel
theorem dX5_picture_0 : decode cX5_picture 0 = .ok (.iload_n 1, 1) := by decide +kernel
theorem dX5_picture_1 : decode cX5_picture 1 = .ok (.iconst 1, 1) := by decide +kernel
theorem dX5_picture_2 : decode cX5_picture 2 = .ok (.bipush 16, 2) := by decide +kernel
theorem dX5_picture_4 : decode cX5_picture 4 = .ok (.invokestatic 45, 3) := by decide +kernel
theorem dX5_picture_7 : decode cX5_picture 7 = .ok (.ifCond .eq 5, 3) := by decide +kernel
theorem dX5_picture_10 : decode cX5_picture 10 = .ok (.iconst (-1), 1) := by decide +kernel
theorem dX5_picture_11 : decode cX5_picture 11 = .ok (.ireturn, 1) := by decide +kernel
theorem dX5_picture_12 : decode cX5_picture 12 = .ok (.aload_n 0, 1) := by decide +kernel
theorem dX5_picture_13 : decode cX5_picture 13 = .ok (.getfield 10, 3) := by decide +kernel
theorem dX5_picture_16 : decode cX5_picture 16 = .ok (.getfield 69, 3) := by decide +kernel
theorem dX5_picture_19 : decode cX5_picture 19 = .ok (.iconst 5, 1) := by decide +kernel
theorem dX5_picture_20 : decode cX5_picture 20 = .ok (.if_icmp .lt 6, 3) := by decide +kernel
theorem dX5_picture_23 : decode cX5_picture 23 = .ok (.bipush (-2), 2) := by decide +kernel
theorem dX5_picture_25 : decode cX5_picture 25 = .ok (.ireturn, 1) := by decide +kernel
theorem dX5_picture_26 : decode cX5_picture 26 = .ok (.aload_n 0, 1) := by decide +kernel
theorem dX5_picture_27 : decode cX5_picture 27 = .ok (.getfield 10, 3) := by decide +kernel
theorem dX5_picture_30 : decode cX5_picture 30 = .ok (.getfield 69, 3) := by decide +kernel
theorem dX5_picture_33 : decode cX5_picture 33 = .ok (.istore_n 2, 1) := by decide +kernel
theorem dX5_picture_34 : decode cX5_picture 34 = .ok (.aload_n 0, 1) := by decide +kernel
theorem dX5_picture_35 : decode cX5_picture 35 = .ok (.getfield 10, 3) := by decide +kernel
theorem dX5_picture_38 : decode cX5_picture 38 = .ok (.getfield 72, 3) := by decide +kernel
theorem dX5_picture_41 : decode cX5_picture 41 = .ok (.iload_n 2, 1) := by decide +kernel
theorem dX5_picture_42 : decode cX5_picture 42 = .ok (.aaload, 1) := by decide +kernel
theorem dX5_picture_43 : decode cX5_picture 43 = .ok (.iload_n 1, 1) := by decide +kernel
theorem dX5_picture_44 : decode cX5_picture 44 = .ok (.invokevirtual 76, 3) := by decide +kernel
theorem dX5_picture_47 : decode cX5_picture 47 = .ok (.aload_n 0, 1) := by decide +kernel
theorem dX5_picture_48 : decode cX5_picture 48 = .ok (.getfield 10, 3) := by decide +kernel
theorem dX5_picture_51 : decode cX5_picture 51 = .ok (.iload_n 2, 1) := by decide +kernel
theorem dX5_picture_52 : decode cX5_picture 52 = .ok (.iconst 1, 1) := by decide +kernel
theorem dX5_picture_53 : decode cX5_picture 53 = .ok (.iadd, 1) := by decide +kernel
theorem dX5_picture_54 : decode cX5_picture 54 = .ok (.putfield 69, 3) := by decide +kernel
theorem dX5_picture_57 : decode cX5_picture 57 = .ok (.aload_n 0, 1) := by decide +kernel
theorem dX5_picture_58 : decode cX5_picture 58 = .ok (.getfield 38, 3) := by decide +kernel
theorem dX5_picture_61 : decode cX5_picture 61 = .ok (.iload_n 2, 1) := by decide +kernel
theorem dX5_picture_62 : decode cX5_picture 62 = .ok (.invokevirtual 61, 3) := by decide +kernel
theorem dX5_picture_65 : decode cX5_picture 65 = .ok (.iload_n 2, 1) := by decide +kernel
theorem dX5_picture_66 : decode cX5_picture 66 = .ok (.ireturn, 1) := by decide +kernel
theorem dX5_counts_0 : decode cX5_counts 0 = .ok (.aload_n 0, 1) := by decide +kernel
theorem dX5_counts_1 : decode cX5_counts 1 = .ok (.getfield 10, 3) := by decide +kernel
theorem dX5_counts_4 : decode cX5_counts 4 = .ok (.iload_n 1, 1) := by decide +kernel
theorem dX5_counts_5 : decode cX5_counts 5 = .ok (.invokevirtual 81, 3) := by decide +kernel
theorem dX5_counts_8 : decode cX5_counts 8 = .ok (.ifCond .eq 13, 3) := by decide +kernel
theorem dX5_counts_11 : decode cX5_counts 11 = .ok (.iload_n 2, 1) := by decide +kernel
theorem dX5_counts_12 : decode cX5_counts 12 = .ok (.iconst 1, 1) := by decide +kernel
theorem dX5_counts_13 : decode cX5_counts 13 = .ok (.bipush 16, 2) := by decide +kernel
theorem dX5_counts_15 : decode cX5_counts 15 = .ok (.invokestatic 45, 3) := by decide +kernel
theorem dX5_counts_18 : decode cX5_counts 18 = .ok (.ifCond .eq 5, 3) := by decide +kernel
theorem dX5_counts_21 : decode cX5_counts 21 = .ok (.iconst (-1), 1) := by decide +kernel
theorem dX5_counts_22 : decode cX5_counts 22 = .ok (.ireturn, 1) := by decide +kernel
theorem dX5_counts_23 : decode cX5_counts 23 = .ok (.aload_n 0, 1) := by decide +kernel
theorem dX5_counts_24 : decode cX5_counts 24 = .ok (.getfield 10, 3) := by decide +kernel
theorem dX5_counts_27 : decode cX5_counts 27 = .ok (.getfield 72, 3) := by decide +kernel
theorem dX5_counts_30 : decode cX5_counts 30 = .ok (.iload_n 1, 1) := by decide +kernel
theorem dX5_counts_31 : decode cX5_counts 31 = .ok (.aaload, 1) := by decide +kernel
theorem dX5_counts_32 : decode cX5_counts 32 = .ok (.astore_n 3, 1) := by decide +kernel
theorem dX5_counts_33 : decode cX5_counts 33 = .ok (.aload_n 3, 1) := by decide +kernel
theorem dX5_counts_34 : decode cX5_counts 34 = .ok (.getfield 84, 3) := by decide +kernel
theorem dX5_counts_37 : decode cX5_counts 37 = .ok (.istore 4, 2) := by decide +kernel
theorem dX5_counts_39 : decode cX5_counts 39 = .ok (.aload_n 3, 1) := by decide +kernel
theorem dX5_counts_40 : decode cX5_counts 40 = .ok (.iload_n 2, 1) := by decide +kernel
theorem dX5_counts_41 : decode cX5_counts 41 = .ok (.putfield 84, 3) := by decide +kernel
theorem dX5_counts_44 : decode cX5_counts 44 = .ok (.aload_n 0, 1) := by decide +kernel
theorem dX5_counts_45 : decode cX5_counts 45 = .ok (.getfield 38, 3) := by decide +kernel
theorem dX5_counts_48 : decode cX5_counts 48 = .ok (.iload_n 1, 1) := by decide +kernel
theorem dX5_counts_49 : decode cX5_counts 49 = .ok (.invokevirtual 61, 3) := by decide +kernel
theorem dX5_counts_52 : decode cX5_counts 52 = .ok (.iload 4, 2) := by decide +kernel
theorem dX5_counts_54 : decode cX5_counts 54 = .ok (.ireturn, 1) := by decide +kernel
theorem dX5_line_0 : decode cX5_line 0 = .ok (.aload_n 0, 1) := by decide +kernel
theorem dX5_line_1 : decode cX5_line 1 = .ok (.getfield 10, 3) := by decide +kernel
theorem dX5_line_4 : decode cX5_line 4 = .ok (.iload_n 1, 1) := by decide +kernel
theorem dX5_line_5 : decode cX5_line 5 = .ok (.invokevirtual 81, 3) := by decide +kernel
theorem dX5_line_8 : decode cX5_line 8 = .ok (.ifCond .eq 37, 3) := by decide +kernel
theorem dX5_line_11 : decode cX5_line 11 = .ok (.iload_n 2, 1) := by decide +kernel
theorem dX5_line_12 : decode cX5_line 12 = .ok (.iconst 1, 1) := by decide +kernel
theorem dX5_line_13 : decode cX5_line 13 = .ok (.bipush 7, 2) := by decide +kernel
theorem dX5_line_15 : decode cX5_line 15 = .ok (.invokestatic 45, 3) := by decide +kernel
theorem dX5_line_18 : decode cX5_line 18 = .ok (.ifCond .ne 27, 3) := by decide +kernel
theorem dX5_line_21 : decode cX5_line 21 = .ok (.iload 5, 2) := by decide +kernel
theorem dX5_line_23 : decode cX5_line 23 = .ok (.bipush (-10), 2) := by decide +kernel
theorem dX5_line_25 : decode cX5_line 25 = .ok (.bipush 10, 2) := by decide +kernel
theorem dX5_line_27 : decode cX5_line 27 = .ok (.invokestatic 45, 3) := by decide +kernel
theorem dX5_line_30 : decode cX5_line 30 = .ok (.ifCond .ne 15, 3) := by decide +kernel
theorem dX5_line_33 : decode cX5_line 33 = .ok (.iload 6, 2) := by decide +kernel
theorem dX5_line_35 : decode cX5_line 35 = .ok (.bipush (-10), 2) := by decide +kernel
theorem dX5_line_37 : decode cX5_line 37 = .ok (.bipush 10, 2) := by decide +kernel
theorem dX5_line_39 : decode cX5_line 39 = .ok (.invokestatic 45, 3) := by decide +kernel
theorem dX5_line_42 : decode cX5_line 42 = .ok (.ifCond .eq 5, 3) := by decide +kernel
theorem dX5_line_45 : decode cX5_line 45 = .ok (.iconst (-1), 1) := by decide +kernel
theorem dX5_line_46 : decode cX5_line 46 = .ok (.ireturn, 1) := by decide +kernel
theorem dX5_line_47 : decode cX5_line 47 = .ok (.aload_n 0, 1) := by decide +kernel
theorem dX5_line_48 : decode cX5_line 48 = .ok (.getfield 10, 3) := by decide +kernel
theorem dX5_line_51 : decode cX5_line 51 = .ok (.getfield 72, 3) := by decide +kernel
theorem dX5_line_54 : decode cX5_line 54 = .ok (.iload_n 1, 1) := by decide +kernel
theorem dX5_line_55 : decode cX5_line 55 = .ok (.aaload, 1) := by decide +kernel
theorem dX5_line_56 : decode cX5_line 56 = .ok (.iload_n 2, 1) := by decide +kernel
theorem dX5_line_57 : decode cX5_line 57 = .ok (.invokevirtual 87, 3) := by decide +kernel
theorem dX5_line_60 : decode cX5_line 60 = .ok (.ifCond .ne 6, 3) := by decide +kernel
theorem dX5_line_63 : decode cX5_line 63 = .ok (.bipush (-2), 2) := by decide +kernel
theorem dX5_line_65 : decode cX5_line 65 = .ok (.ireturn, 1) := by decide +kernel
theorem dX5_line_66 : decode cX5_line 66 = .ok (.aload_n 0, 1) := by decide +kernel
theorem dX5_line_67 : decode cX5_line 67 = .ok (.getfield 26, 3) := by decide +kernel
theorem dX5_line_70 : decode cX5_line 70 = .ok (.iload_n 2, 1) := by decide +kernel
theorem dX5_line_71 : decode cX5_line 71 = .ok (.iload_n 3, 1) := by decide +kernel
theorem dX5_line_72 : decode cX5_line 72 = .ok (.iload 4, 2) := by decide +kernel
theorem dX5_line_74 : decode cX5_line 74 = .ok (.iload 5, 2) := by decide +kernel
theorem dX5_line_76 : decode cX5_line 76 = .ok (.iload 6, 2) := by decide +kernel
theorem dX5_line_78 : decode cX5_line 78 = .ok (.invokevirtual 90, 3) := by decide +kernel
theorem dX5_line_81 : decode cX5_line 81 = .ok (.aload_n 0, 1) := by decide +kernel
theorem dX5_line_82 : decode cX5_line 82 = .ok (.iload_n 1, 1) := by decide +kernel
theorem dX5_line_83 : decode cX5_line 83 = .ok (.invokevirtual 94, 3) := by decide +kernel
theorem dX5_line_86 : decode cX5_line 86 = .ok (.ireturn, 1) := by decide +kernel
theorem dX5_block_0 : decode cX5_block 0 = .ok (.aload_n 0, 1) := by decide +kernel
theorem dX5_block_1 : decode cX5_block 1 = .ok (.getfield 10, 3) := by decide +kernel
theorem dX5_block_4 : decode cX5_block 4 = .ok (.iload_n 1, 1) := by decide +kernel
theorem dX5_block_5 : decode cX5_block 5 = .ok (.invokevirtual 81, 3) := by decide +kernel
theorem dX5_block_8 : decode cX5_block 8 = .ok (.ifCond .eq 33, 3) := by decide +kernel
theorem dX5_block_11 : decode cX5_block 11 = .ok (.iload 4, 2) := by decide +kernel
theorem dX5_block_13 : decode cX5_block 13 = .ok (.iconst 1, 1) := by decide +kernel
theorem dX5_block_14 : decode cX5_block 14 = .ok (.iconst 4, 1) := by decide +kernel
theorem dX5_block_15 : decode cX5_block 15 = .ok (.invokestatic 45, 3) := by decide +kernel
theorem dX5_block_18 : decode cX5_block 18 = .ok (.ifCond .ne 23, 3) := by decide +kernel
theorem dX5_block_21 : decode cX5_block 21 = .ok (.iload 5, 2) := by decide +kernel
theorem dX5_block_23 : decode cX5_block 23 = .ok (.iconst 1, 1) := by decide +kernel
theorem dX5_block_24 : decode cX5_block 24 = .ok (.iconst 4, 1) := by decide +kernel
theorem dX5_block_25 : decode cX5_block 25 = .ok (.invokestatic 45, 3) := by decide +kernel
theorem dX5_block_28 : decode cX5_block 28 = .ok (.ifCond .ne 13, 3) := by decide +kernel
theorem dX5_block_31 : decode cX5_block 31 = .ok (.iload 6, 2) := by decide +kernel
theorem dX5_block_33 : decode cX5_block 33 = .ok (.iconst 1, 1) := by decide +kernel
theorem dX5_block_34 : decode cX5_block 34 = .ok (.iconst 5, 1) := by decide +kernel
theorem dX5_block_35 : decode cX5_block 35 = .ok (.invokestatic 45, 3) := by decide +kernel
theorem dX5_block_38 : decode cX5_block 38 = .ok (.ifCond .eq 5, 3) := by decide +kernel
theorem dX5_block_41 : decode cX5_block 41 = .ok (.iconst (-1), 1) := by decide +kernel
theorem dX5_block_42 : decode cX5_block 42 = .ok (.ireturn, 1) := by decide +kernel
theorem dX5_block_43 : decode cX5_block 43 = .ok (.aload_n 0, 1) := by decide +kernel
theorem dX5_block_44 : decode cX5_block 44 = .ok (.getfield 10, 3) := by decide +kernel
theorem dX5_block_47 : decode cX5_block 47 = .ok (.getfield 72, 3) := by decide +kernel
theorem dX5_block_50 : decode cX5_block 50 = .ok (.iload_n 1, 1) := by decide +kernel
theorem dX5_block_51 : decode cX5_block 51 = .ok (.aaload, 1) := by decide +kernel
theorem dX5_block_52 : decode cX5_block 52 = .ok (.iload 4, 2) := by decide +kernel
theorem dX5_block_54 : decode cX5_block 54 = .ok (.iload 5, 2) := by decide +kernel
theorem dX5_block_56 : decode cX5_block 56 = .ok (.imul, 1) := by decide +kernel
theorem dX5_block_57 : decode cX5_block 57 = .ok (.invokevirtual 87, 3) := by decide +kernel
theorem dX5_block_60 : decode cX5_block 60 = .ok (.ifCond .ne 6, 3) := by decide +kernel
theorem dX5_block_63 : decode cX5_block 63 = .ok (.bipush (-2), 2) := by decide +kernel
theorem dX5_block_65 : decode cX5_block 65 = .ok (.ireturn, 1) := by decide +kernel
theorem dX5_block_66 : decode cX5_block 66 = .ok (.aload_n 0, 1) := by decide +kernel
theorem dX5_block_67 : decode cX5_block 67 = .ok (.getfield 26, 3) := by decide +kernel
theorem dX5_block_70 : decode cX5_block 70 = .ok (.iload_n 2, 1) := by decide +kernel
theorem dX5_block_71 : decode cX5_block 71 = .ok (.iload_n 3, 1) := by decide +kernel
theorem dX5_block_72 : decode cX5_block 72 = .ok (.iload 4, 2) := by decide +kernel
theorem dX5_block_74 : decode cX5_block 74 = .ok (.iload 5, 2) := by decide +kernel
theorem dX5_block_76 : decode cX5_block 76 = .ok (.iload 6, 2) := by decide +kernel
theorem dX5_block_78 : decode cX5_block 78 = .ok (.invokevirtual 98, 3) := by decide +kernel
theorem dX5_block_81 : decode cX5_block 81 = .ok (.aload_n 0, 1) := by decide +kernel
theorem dX5_block_82 : decode cX5_block 82 = .ok (.iload_n 1, 1) := by decide +kernel
theorem dX5_block_83 : decode cX5_block 83 = .ok (.invokevirtual 94, 3) := by decide +kernel
theorem dX5_block_86 : decode cX5_block 86 = .ok (.ireturn, 1) := by decide +kernel
theorem dX5_corner_0 : decode cX5_corner 0 = .ok (.aload_n 0, 1) := by decide +kernel
theorem dX5_corner_1 : decode cX5_corner 1 = .ok (.getfield 10, 3) := by decide +kernel
theorem dX5_corner_4 : decode cX5_corner 4 = .ok (.iload_n 1, 1) := by decide +kernel
theorem dX5_corner_5 : decode cX5_corner 5 = .ok (.invokevirtual 81, 3) := by decide +kernel
theorem dX5_corner_8 : decode cX5_corner 8 = .ok (.ifCond .eq 23, 3) := by decide +kernel
theorem dX5_corner_11 : decode cX5_corner 11 = .ok (.iload 4, 2) := by decide +kernel
theorem dX5_corner_13 : decode cX5_corner 13 = .ok (.iconst 1, 1) := by decide +kernel
theorem dX5_corner_14 : decode cX5_corner 14 = .ok (.iconst 4, 1) := by decide +kernel
theorem dX5_corner_15 : decode cX5_corner 15 = .ok (.invokestatic 45, 3) := by decide +kernel
theorem dX5_corner_18 : decode cX5_corner 18 = .ok (.ifCond .ne 13, 3) := by decide +kernel
theorem dX5_corner_21 : decode cX5_corner 21 = .ok (.iload 5, 2) := by decide +kernel
theorem dX5_corner_23 : decode cX5_corner 23 = .ok (.iconst 1, 1) := by decide +kernel
theorem dX5_corner_24 : decode cX5_corner 24 = .ok (.iconst 5, 1) := by decide +kernel
theorem dX5_corner_25 : decode cX5_corner 25 = .ok (.invokestatic 45, 3) := by decide +kernel
theorem dX5_corner_28 : decode cX5_corner 28 = .ok (.ifCond .eq 5, 3) := by decide +kernel
theorem dX5_corner_31 : decode cX5_corner 31 = .ok (.iconst (-1), 1) := by decide +kernel
theorem dX5_corner_32 : decode cX5_corner 32 = .ok (.ireturn, 1) := by decide +kernel
theorem dX5_corner_33 : decode cX5_corner 33 = .ok (.aload_n 0, 1) := by decide +kernel
theorem dX5_corner_34 : decode cX5_corner 34 = .ok (.getfield 10, 3) := by decide +kernel
theorem dX5_corner_37 : decode cX5_corner 37 = .ok (.getfield 72, 3) := by decide +kernel
theorem dX5_corner_40 : decode cX5_corner 40 = .ok (.iload_n 1, 1) := by decide +kernel
theorem dX5_corner_41 : decode cX5_corner 41 = .ok (.aaload, 1) := by decide +kernel
theorem dX5_corner_42 : decode cX5_corner 42 = .ok (.iload 4, 2) := by decide +kernel
theorem dX5_corner_44 : decode cX5_corner 44 = .ok (.iload 4, 2) := by decide +kernel
theorem dX5_corner_46 : decode cX5_corner 46 = .ok (.iadd, 1) := by decide +kernel
theorem dX5_corner_47 : decode cX5_corner 47 = .ok (.iconst 1, 1) := by decide +kernel
theorem dX5_corner_48 : decode cX5_corner 48 = .ok (.isub, 1) := by decide +kernel
theorem dX5_corner_49 : decode cX5_corner 49 = .ok (.invokevirtual 87, 3) := by decide +kernel
theorem dX5_corner_52 : decode cX5_corner 52 = .ok (.ifCond .ne 6, 3) := by decide +kernel
theorem dX5_corner_55 : decode cX5_corner 55 = .ok (.bipush (-2), 2) := by decide +kernel
theorem dX5_corner_57 : decode cX5_corner 57 = .ok (.ireturn, 1) := by decide +kernel
theorem dX5_corner_58 : decode cX5_corner 58 = .ok (.aload_n 0, 1) := by decide +kernel
theorem dX5_corner_59 : decode cX5_corner 59 = .ok (.getfield 26, 3) := by decide +kernel
theorem dX5_corner_62 : decode cX5_corner 62 = .ok (.iload_n 2, 1) := by decide +kernel
theorem dX5_corner_63 : decode cX5_corner 63 = .ok (.iload_n 3, 1) := by decide +kernel
theorem dX5_corner_64 : decode cX5_corner 64 = .ok (.iload 4, 2) := by decide +kernel
theorem dX5_corner_66 : decode cX5_corner 66 = .ok (.iload 5, 2) := by decide +kernel
theorem dX5_corner_68 : decode cX5_corner 68 = .ok (.invokevirtual 101, 3) := by decide +kernel
theorem dX5_corner_71 : decode cX5_corner 71 = .ok (.aload_n 0, 1) := by decide +kernel
theorem dX5_corner_72 : decode cX5_corner 72 = .ok (.iload_n 1, 1) := by decide +kernel
theorem dX5_corner_73 : decode cX5_corner 73 = .ok (.invokevirtual 94, 3) := by decide +kernel
theorem dX5_corner_76 : decode cX5_corner 76 = .ok (.ireturn, 1) := by decide +kernel
theorem dX5_solo_0 : decode cX5_solo 0 = .ok (.aload_n 0, 1) := by decide +kernel
theorem dX5_solo_1 : decode cX5_solo 1 = .ok (.getfield 10, 3) := by decide +kernel
theorem dX5_solo_4 : decode cX5_solo 4 = .ok (.iload_n 1, 1) := by decide +kernel
theorem dX5_solo_5 : decode cX5_solo 5 = .ok (.invokevirtual 81, 3) := by decide +kernel
theorem dX5_solo_8 : decode cX5_solo 8 = .ok (.ifCond .eq 19, 3) := by decide +kernel
theorem dX5_solo_11 : decode cX5_solo 11 = .ok (.aload_n 0, 1) := by decide +kernel
theorem dX5_solo_12 : decode cX5_solo 12 = .ok (.getfield 10, 3) := by decide +kernel
theorem dX5_solo_15 : decode cX5_solo 15 = .ok (.getfield 72, 3) := by decide +kernel
theorem dX5_solo_18 : decode cX5_solo 18 = .ok (.iload_n 1, 1) := by decide +kernel
theorem dX5_solo_19 : decode cX5_solo 19 = .ok (.aaload, 1) := by decide +kernel
theorem dX5_solo_20 : decode cX5_solo 20 = .ok (.iload_n 2, 1) := by decide +kernel
theorem dX5_solo_21 : decode cX5_solo 21 = .ok (.invokevirtual 105, 3) := by decide +kernel
theorem dX5_solo_24 : decode cX5_solo 24 = .ok (.ifCond .ne 5, 3) := by decide +kernel
theorem dX5_solo_27 : decode cX5_solo 27 = .ok (.iconst (-1), 1) := by decide +kernel
theorem dX5_solo_28 : decode cX5_solo 28 = .ok (.ireturn, 1) := by decide +kernel
theorem dX5_solo_29 : decode cX5_solo 29 = .ok (.aload_n 0, 1) := by decide +kernel
theorem dX5_solo_30 : decode cX5_solo 30 = .ok (.getfield 10, 3) := by decide +kernel
theorem dX5_solo_33 : decode cX5_solo 33 = .ok (.getfield 72, 3) := by decide +kernel
theorem dX5_solo_36 : decode cX5_solo 36 = .ok (.iload_n 1, 1) := by decide +kernel
theorem dX5_solo_37 : decode cX5_solo 37 = .ok (.aaload, 1) := by decide +kernel
theorem dX5_solo_38 : decode cX5_solo 38 = .ok (.astore 4, 2) := by decide +kernel
theorem dX5_solo_40 : decode cX5_solo 40 = .ok (.aload 4, 2) := by decide +kernel
theorem dX5_solo_42 : decode cX5_solo 42 = .ok (.getfield 108, 3) := by decide +kernel
theorem dX5_solo_45 : decode cX5_solo 45 = .ok (.iload_n 2, 1) := by decide +kernel
theorem dX5_solo_46 : decode cX5_solo 46 = .ok (.baload, 1) := by decide +kernel
theorem dX5_solo_47 : decode cX5_solo 47 = .ok (.iload_n 3, 1) := by decide +kernel
theorem dX5_solo_48 : decode cX5_solo 48 = .ok (.if_icmp .ne 5, 3) := by decide +kernel
theorem dX5_solo_51 : decode cX5_solo 51 = .ok (.iconst 0, 1) := by decide +kernel
theorem dX5_solo_52 : decode cX5_solo 52 = .ok (.ireturn, 1) := by decide +kernel
theorem dX5_solo_53 : decode cX5_solo 53 = .ok (.aload 4, 2) := by decide +kernel
theorem dX5_solo_55 : decode cX5_solo 55 = .ok (.getfield 108, 3) := by decide +kernel
theorem dX5_solo_58 : decode cX5_solo 58 = .ok (.iload_n 2, 1) := by decide +kernel
theorem dX5_solo_59 : decode cX5_solo 59 = .ok (.iload_n 3, 1) := by decide +kernel
theorem dX5_solo_60 : decode cX5_solo 60 = .ok (.bastore, 1) := by decide +kernel
theorem dX5_solo_61 : decode cX5_solo 61 = .ok (.aload_n 0, 1) := by decide +kernel
theorem dX5_solo_62 : decode cX5_solo 62 = .ok (.getfield 38, 3) := by decide +kernel
theorem dX5_solo_65 : decode cX5_solo 65 = .ok (.iload_n 1, 1) := by decide +kernel
theorem dX5_solo_66 : decode cX5_solo 66 = .ok (.invokevirtual 61, 3) := by decide +kernel
theorem dX5_solo_69 : decode cX5_solo 69 = .ok (.iconst 1, 1) := by decide +kernel
theorem dX5_solo_70 : decode cX5_solo 70 = .ok (.ireturn, 1) := by decide +kernel
theorem dX5_scrub_0 : decode cX5_scrub 0 = .ok (.aload_n 0, 1) := by decide +kernel
theorem dX5_scrub_1 : decode cX5_scrub 1 = .ok (.getfield 10, 3) := by decide +kernel
theorem dX5_scrub_4 : decode cX5_scrub 4 = .ok (.iload_n 1, 1) := by decide +kernel
theorem dX5_scrub_5 : decode cX5_scrub 5 = .ok (.invokevirtual 81, 3) := by decide +kernel
theorem dX5_scrub_8 : decode cX5_scrub 8 = .ok (.ifCond .ne 5, 3) := by decide +kernel
theorem dX5_scrub_11 : decode cX5_scrub 11 = .ok (.iconst (-1), 1) := by decide +kernel
theorem dX5_scrub_12 : decode cX5_scrub 12 = .ok (.ireturn, 1) := by decide +kernel
theorem dX5_scrub_13 : decode cX5_scrub 13 = .ok (.aload_n 0, 1) := by decide +kernel
theorem dX5_scrub_14 : decode cX5_scrub 14 = .ok (.getfield 10, 3) := by decide +kernel
theorem dX5_scrub_17 : decode cX5_scrub 17 = .ok (.getfield 72, 3) := by decide +kernel
theorem dX5_scrub_20 : decode cX5_scrub 20 = .ok (.iload_n 1, 1) := by decide +kernel
theorem dX5_scrub_21 : decode cX5_scrub 21 = .ok (.aaload, 1) := by decide +kernel
theorem dX5_scrub_22 : decode cX5_scrub 22 = .ok (.astore_n 2, 1) := by decide +kernel
theorem dX5_scrub_23 : decode cX5_scrub 23 = .ok (.aload_n 2, 1) := by decide +kernel
theorem dX5_scrub_24 : decode cX5_scrub 24 = .ok (.getfield 111, 3) := by decide +kernel
theorem dX5_scrub_27 : decode cX5_scrub 27 = .ok (.iconst 1, 1) := by decide +kernel
theorem dX5_scrub_28 : decode cX5_scrub 28 = .ok (.if_icmp .ge 6, 3) := by decide +kernel
theorem dX5_scrub_31 : decode cX5_scrub 31 = .ok (.bipush (-3), 2) := by decide +kernel
theorem dX5_scrub_33 : decode cX5_scrub 33 = .ok (.ireturn, 1) := by decide +kernel
theorem dX5_scrub_34 : decode cX5_scrub 34 = .ok (.aload_n 2, 1) := by decide +kernel
theorem dX5_scrub_35 : decode cX5_scrub 35 = .ok (.dup, 1) := by decide +kernel
theorem dX5_scrub_36 : decode cX5_scrub 36 = .ok (.getfield 111, 3) := by decide +kernel
theorem dX5_scrub_39 : decode cX5_scrub 39 = .ok (.iconst 1, 1) := by decide +kernel
theorem dX5_scrub_40 : decode cX5_scrub 40 = .ok (.isub, 1) := by decide +kernel
theorem dX5_scrub_41 : decode cX5_scrub 41 = .ok (.putfield 111, 3) := by decide +kernel
theorem dX5_scrub_44 : decode cX5_scrub 44 = .ok (.aload_n 0, 1) := by decide +kernel
theorem dX5_scrub_45 : decode cX5_scrub 45 = .ok (.getfield 38, 3) := by decide +kernel
theorem dX5_scrub_48 : decode cX5_scrub 48 = .ok (.iload_n 1, 1) := by decide +kernel
theorem dX5_scrub_49 : decode cX5_scrub 49 = .ok (.invokevirtual 61, 3) := by decide +kernel
theorem dX5_scrub_52 : decode cX5_scrub 52 = .ok (.aload_n 2, 1) := by decide +kernel
theorem dX5_scrub_53 : decode cX5_scrub 53 = .ok (.getfield 111, 3) := by decide +kernel
theorem dX5_scrub_56 : decode cX5_scrub 56 = .ok (.ireturn, 1) := by decide +kernel
theorem dX5_rule_0 : decode cX5_rule 0 = .ok (.iload_n 1, 1) := by decide +kernel
theorem dX5_rule_1 : decode cX5_rule 1 = .ok (.ifCond .ne 38, 3) := by decide +kernel
theorem dX5_rule_4 : decode cX5_rule 4 = .ok (.iload_n 2, 1) := by decide +kernel
theorem dX5_rule_5 : decode cX5_rule 5 = .ok (.iconst 0, 1) := by decide +kernel
theorem dX5_rule_6 : decode cX5_rule 6 = .ok (.iconst 3, 1) := by decide +kernel
theorem dX5_rule_7 : decode cX5_rule 7 = .ok (.invokestatic 45, 3) := by decide +kernel
theorem dX5_rule_10 : decode cX5_rule 10 = .ok (.ifCond .ne 29, 3) := by decide +kernel
theorem dX5_rule_13 : decode cX5_rule 13 = .ok (.aload_n 0, 1) := by decide +kernel
theorem dX5_rule_14 : decode cX5_rule 14 = .ok (.getfield 10, 3) := by decide +kernel
theorem dX5_rule_17 : decode cX5_rule 17 = .ok (.getfield 114, 3) := by decide +kernel
theorem dX5_rule_20 : decode cX5_rule 20 = .ok (.istore_n 3, 1) := by decide +kernel
theorem dX5_rule_21 : decode cX5_rule 21 = .ok (.aload_n 0, 1) := by decide +kernel
theorem dX5_rule_22 : decode cX5_rule 22 = .ok (.getfield 10, 3) := by decide +kernel
theorem dX5_rule_25 : decode cX5_rule 25 = .ok (.iload_n 2, 1) := by decide +kernel
theorem dX5_rule_26 : decode cX5_rule 26 = .ok (.putfield 114, 3) := by decide +kernel
theorem dX5_rule_29 : decode cX5_rule 29 = .ok (.aload_n 0, 1) := by decide +kernel
theorem dX5_rule_30 : decode cX5_rule 30 = .ok (.getfield 38, 3) := by decide +kernel
theorem dX5_rule_33 : decode cX5_rule 33 = .ok (.iconst 1, 1) := by decide +kernel
theorem dX5_rule_34 : decode cX5_rule 34 = .ok (.invokevirtual 61, 3) := by decide +kernel
theorem dX5_rule_37 : decode cX5_rule 37 = .ok (.iload_n 3, 1) := by decide +kernel
theorem dX5_rule_38 : decode cX5_rule 38 = .ok (.ireturn, 1) := by decide +kernel
theorem dX5_rule_39 : decode cX5_rule 39 = .ok (.iload_n 1, 1) := by decide +kernel
theorem dX5_rule_40 : decode cX5_rule 40 = .ok (.iconst 1, 1) := by decide +kernel
theorem dX5_rule_41 : decode cX5_rule 41 = .ok (.if_icmp .ne 31, 3) := by decide +kernel
theorem dX5_rule_44 : decode cX5_rule 44 = .ok (.iload_n 2, 1) := by decide +kernel
theorem dX5_rule_45 : decode cX5_rule 45 = .ok (.iconst 1, 1) := by decide +kernel
theorem dX5_rule_46 : decode cX5_rule 46 = .ok (.bipush 20, 2) := by decide +kernel
theorem dX5_rule_48 : decode cX5_rule 48 = .ok (.invokestatic 45, 3) := by decide +kernel
theorem dX5_rule_51 : decode cX5_rule 51 = .ok (.ifCond .ne 21, 3) := by decide +kernel
theorem dX5_rule_54 : decode cX5_rule 54 = .ok (.aload_n 0, 1) := by decide +kernel
theorem dX5_rule_55 : decode cX5_rule 55 = .ok (.getfield 10, 3) := by decide +kernel
theorem dX5_rule_58 : decode cX5_rule 58 = .ok (.getfield 117, 3) := by decide +kernel
theorem dX5_rule_61 : decode cX5_rule 61 = .ok (.istore_n 3, 1) := by decide +kernel
theorem dX5_rule_62 : decode cX5_rule 62 = .ok (.aload_n 0, 1) := by decide +kernel
theorem dX5_rule_63 : decode cX5_rule 63 = .ok (.getfield 10, 3) := by decide +kernel
theorem dX5_rule_66 : decode cX5_rule 66 = .ok (.iload_n 2, 1) := by decide +kernel
theorem dX5_rule_67 : decode cX5_rule 67 = .ok (.putfield 117, 3) := by decide +kernel
theorem dX5_rule_70 : decode cX5_rule 70 = .ok (.iload_n 3, 1) := by decide +kernel
theorem dX5_rule_71 : decode cX5_rule 71 = .ok (.ireturn, 1) := by decide +kernel
theorem dX5_rule_72 : decode cX5_rule 72 = .ok (.iconst (-1), 1) := by decide +kernel
theorem dX5_rule_73 : decode cX5_rule 73 = .ok (.ireturn, 1) := by decide +kernel
theorem dX5_drums_0 : decode cX5_drums 0 = .ok (.iload_n 1, 1) := by decide +kernel
theorem dX5_drums_1 : decode cX5_drums 1 = .ok (.iload_n 2, 1) := by decide +kernel
theorem dX5_drums_2 : decode cX5_drums 2 = .ok (.invokestatic 120, 3) := by decide +kernel
theorem dX5_drums_5 : decode cX5_drums 5 = .ok (.ifCond .ne 6, 3) := by decide +kernel
theorem dX5_drums_8 : decode cX5_drums 8 = .ok (.bipush (-4), 2) := by decide +kernel
theorem dX5_drums_10 : decode cX5_drums 10 = .ok (.ireturn, 1) := by decide +kernel
theorem dX5_drums_11 : decode cX5_drums 11 = .ok (.aload_n 0, 1) := by decide +kernel
theorem dX5_drums_12 : decode cX5_drums 12 = .ok (.getfield 10, 3) := by decide +kernel
theorem dX5_drums_15 : decode cX5_drums 15 = .ok (.iload_n 1, 1) := by decide +kernel
theorem dX5_drums_16 : decode cX5_drums 16 = .ok (.putfield 124, 3) := by decide +kernel
theorem dX5_drums_19 : decode cX5_drums 19 = .ok (.aload_n 0, 1) := by decide +kernel
theorem dX5_drums_20 : decode cX5_drums 20 = .ok (.getfield 10, 3) := by decide +kernel
theorem dX5_drums_23 : decode cX5_drums 23 = .ok (.iload_n 2, 1) := by decide +kernel
theorem dX5_drums_24 : decode cX5_drums 24 = .ok (.putfield 127, 3) := by decide +kernel
theorem dX5_drums_27 : decode cX5_drums 27 = .ok (.iconst 1, 1) := by decide +kernel
theorem dX5_drums_28 : decode cX5_drums 28 = .ok (.ireturn, 1) := by decide +kernel
theorem dX5_dot_0 : decode cX5_dot 0 = .ok (.aload_n 0, 1) := by decide +kernel
theorem dX5_dot_1 : decode cX5_dot 1 = .ok (.getfield 10, 3) := by decide +kernel
theorem dX5_dot_4 : decode cX5_dot 4 = .ok (.iload_n 1, 1) := by decide +kernel
theorem dX5_dot_5 : decode cX5_dot 5 = .ok (.invokevirtual 81, 3) := by decide +kernel
theorem dX5_dot_8 : decode cX5_dot 8 = .ok (.ifCond .eq 28, 3) := by decide +kernel
theorem dX5_dot_11 : decode cX5_dot 11 = .ok (.aload_n 0, 1) := by decide +kernel
theorem dX5_dot_12 : decode cX5_dot 12 = .ok (.getfield 10, 3) := by decide +kernel
theorem dX5_dot_15 : decode cX5_dot 15 = .ok (.getfield 72, 3) := by decide +kernel
theorem dX5_dot_18 : decode cX5_dot 18 = .ok (.iload_n 1, 1) := by decide +kernel
theorem dX5_dot_19 : decode cX5_dot 19 = .ok (.aaload, 1) := by decide +kernel
theorem dX5_dot_20 : decode cX5_dot 20 = .ok (.iload_n 2, 1) := by decide +kernel
theorem dX5_dot_21 : decode cX5_dot 21 = .ok (.invokevirtual 105, 3) := by decide +kernel
theorem dX5_dot_24 : decode cX5_dot 24 = .ok (.ifCond .eq 12, 3) := by decide +kernel
theorem dX5_dot_27 : decode cX5_dot 27 = .ok (.iload_n 3, 1) := by decide +kernel
theorem dX5_dot_28 : decode cX5_dot 28 = .ok (.iconst 0, 1) := by decide +kernel
theorem dX5_dot_29 : decode cX5_dot 29 = .ok (.iconst 2, 1) := by decide +kernel
theorem dX5_dot_30 : decode cX5_dot 30 = .ok (.invokestatic 45, 3) := by decide +kernel
theorem dX5_dot_33 : decode cX5_dot 33 = .ok (.ifCond .eq 5, 3) := by decide +kernel
theorem dX5_dot_36 : decode cX5_dot 36 = .ok (.iconst (-1), 1) := by decide +kernel
theorem dX5_dot_37 : decode cX5_dot 37 = .ok (.ireturn, 1) := by decide +kernel
theorem dX5_dot_38 : decode cX5_dot 38 = .ok (.aload_n 0, 1) := by decide +kernel
theorem dX5_dot_39 : decode cX5_dot 39 = .ok (.getfield 10, 3) := by decide +kernel
theorem dX5_dot_42 : decode cX5_dot 42 = .ok (.getfield 72, 3) := by decide +kernel
theorem dX5_dot_45 : decode cX5_dot 45 = .ok (.iload_n 1, 1) := by decide +kernel
theorem dX5_dot_46 : decode cX5_dot 46 = .ok (.aaload, 1) := by decide +kernel
theorem dX5_dot_47 : decode cX5_dot 47 = .ok (.astore 4, 2) := by decide +kernel
theorem dX5_dot_49 : decode cX5_dot 49 = .ok (.iload_n 3, 1) := by decide +kernel
theorem dX5_dot_50 : decode cX5_dot 50 = .ok (.iconst 2, 1) := by decide +kernel
theorem dX5_dot_51 : decode cX5_dot 51 = .ok (.if_icmp .ne 19, 3) := by decide +kernel
theorem dX5_dot_54 : decode cX5_dot 54 = .ok (.aload 4, 2) := by decide +kernel
theorem dX5_dot_56 : decode cX5_dot 56 = .ok (.getfield 108, 3) := by decide +kernel
theorem dX5_dot_59 : decode cX5_dot 59 = .ok (.iload_n 2, 1) := by decide +kernel
theorem dX5_dot_60 : decode cX5_dot 60 = .ok (.baload, 1) := by decide +kernel
theorem dX5_dot_61 : decode cX5_dot 61 = .ok (.ifCond .eq 7, 3) := by decide +kernel
theorem dX5_dot_64 : decode cX5_dot 64 = .ok (.iconst 1, 1) := by decide +kernel
theorem dX5_dot_65 : decode cX5_dot 65 = .ok (.goto 4, 3) := by decide +kernel
theorem dX5_dot_68 : decode cX5_dot 68 = .ok (.iconst 0, 1) := by decide +kernel
theorem dX5_dot_69 : decode cX5_dot 69 = .ok (.ireturn, 1) := by decide +kernel
theorem dX5_dot_70 : decode cX5_dot 70 = .ok (.iload_n 3, 1) := by decide +kernel
theorem dX5_dot_71 : decode cX5_dot 71 = .ok (.ifCond .ne 12, 3) := by decide +kernel
theorem dX5_dot_74 : decode cX5_dot 74 = .ok (.aload 4, 2) := by decide +kernel
theorem dX5_dot_76 : decode cX5_dot 76 = .ok (.iload_n 2, 1) := by decide +kernel
theorem dX5_dot_77 : decode cX5_dot 77 = .ok (.invokevirtual 130, 3) := by decide +kernel
theorem dX5_dot_80 : decode cX5_dot 80 = .ok (.goto 9, 3) := by decide +kernel
theorem dX5_dot_83 : decode cX5_dot 83 = .ok (.aload 4, 2) := by decide +kernel
theorem dX5_dot_85 : decode cX5_dot 85 = .ok (.iload_n 2, 1) := by decide +kernel
theorem dX5_dot_86 : decode cX5_dot 86 = .ok (.invokevirtual 133, 3) := by decide +kernel
theorem dX5_dot_89 : decode cX5_dot 89 = .ok (.ireturn, 1) := by decide +kernel
theorem dX5_set_0 : decode cX5_set 0 = .ok (.aload_n 0, 1) := by decide +kernel
theorem dX5_set_1 : decode cX5_set 1 = .ok (.iload_n 1, 1) := by decide +kernel
theorem dX5_set_2 : decode cX5_set 2 = .ok (.iload_n 2, 1) := by decide +kernel
theorem dX5_set_3 : decode cX5_set 3 = .ok (.invokevirtual 136, 3) := by decide +kernel
theorem dX5_set_6 : decode cX5_set 6 = .ok (.istore_n 3, 1) := by decide +kernel
theorem dX5_set_7 : decode cX5_set 7 = .ok (.iload_n 3, 1) := by decide +kernel
theorem dX5_set_8 : decode cX5_set 8 = .ok (.ifCond .ge 7, 3) := by decide +kernel
theorem dX5_set_11 : decode cX5_set 11 = .ok (.iload_n 3, 1) := by decide +kernel
theorem dX5_set_12 : decode cX5_set 12 = .ok (.goto 12, 3) := by decide +kernel
theorem dX5_set_15 : decode cX5_set 15 = .ok (.aload_n 0, 1) := by decide +kernel
theorem dX5_set_16 : decode cX5_set 16 = .ok (.getfield 38, 3) := by decide +kernel
theorem dX5_set_19 : decode cX5_set 19 = .ok (.iload_n 1, 1) := by decide +kernel
theorem dX5_set_20 : decode cX5_set 20 = .ok (.iload_n 2, 1) := by decide +kernel
theorem dX5_set_21 : decode cX5_set 21 = .ok (.invokevirtual 140, 3) := by decide +kernel
theorem dX5_set_24 : decode cX5_set 24 = .ok (.ireturn, 1) := by decide +kernel
theorem dX5_steps_0 : decode cX5_steps 0 = .ok (.aload_n 0, 1) := by decide +kernel
theorem dX5_steps_1 : decode cX5_steps 1 = .ok (.getfield 10, 3) := by decide +kernel
theorem dX5_steps_4 : decode cX5_steps 4 = .ok (.iload_n 1, 1) := by decide +kernel
theorem dX5_steps_5 : decode cX5_steps 5 = .ok (.invokevirtual 81, 3) := by decide +kernel
theorem dX5_steps_8 : decode cX5_steps 8 = .ok (.ifCond .eq 12, 3) := by decide +kernel
theorem dX5_steps_11 : decode cX5_steps 11 = .ok (.iload_n 2, 1) := by decide +kernel
theorem dX5_steps_12 : decode cX5_steps 12 = .ok (.iconst 0, 1) := by decide +kernel
theorem dX5_steps_13 : decode cX5_steps 13 = .ok (.iconst 2, 1) := by decide +kernel
theorem dX5_steps_14 : decode cX5_steps 14 = .ok (.invokestatic 45, 3) := by decide +kernel
theorem dX5_steps_17 : decode cX5_steps 17 = .ok (.ifCond .eq 5, 3) := by decide +kernel
theorem dX5_steps_20 : decode cX5_steps 20 = .ok (.iconst (-1), 1) := by decide +kernel
theorem dX5_steps_21 : decode cX5_steps 21 = .ok (.ireturn, 1) := by decide +kernel
theorem dX5_steps_22 : decode cX5_steps 22 = .ok (.aload_n 0, 1) := by decide +kernel
theorem dX5_steps_23 : decode cX5_steps 23 = .ok (.getfield 38, 3) := by decide +kernel
theorem dX5_steps_26 : decode cX5_steps 26 = .ok (.aload_n 0, 1) := by decide +kernel
theorem dX5_steps_27 : decode cX5_steps 27 = .ok (.getfield 10, 3) := by decide +kernel
theorem dX5_steps_30 : decode cX5_steps 30 = .ok (.iload_n 1, 1) := by decide +kernel
theorem dX5_steps_31 : decode cX5_steps 31 = .ok (.iconst (-1), 1) := by decide +kernel
theorem dX5_steps_32 : decode cX5_steps 32 = .ok (.invokevirtual 143, 3) := by decide +kernel
theorem dX5_steps_35 : decode cX5_steps 35 = .ok (.aload_n 0, 1) := by decide +kernel
theorem dX5_steps_36 : decode cX5_steps 36 = .ok (.getfield 38, 3) := by decide +kernel
theorem dX5_steps_39 : decode cX5_steps 39 = .ok (.getfield 147, 3) := by decide +kernel
theorem dX5_steps_42 : decode cX5_steps 42 = .ok (.iload_n 1, 1) := by decide +kernel
theorem dX5_steps_43 : decode cX5_steps 43 = .ok (.baload, 1) := by decide +kernel
theorem dX5_steps_44 : decode cX5_steps 44 = .ok (.ifCond .ne 6, 3) := by decide +kernel
theorem dX5_steps_47 : decode cX5_steps 47 = .ok (.bipush (-3), 2) := by decide +kernel
theorem dX5_steps_49 : decode cX5_steps 49 = .ok (.ireturn, 1) := by decide +kernel
theorem dX5_steps_50 : decode cX5_steps 50 = .ok (.iload_n 2, 1) := by decide +kernel
theorem dX5_steps_51 : decode cX5_steps 51 = .ok (.iconst 2, 1) := by decide +kernel
theorem dX5_steps_52 : decode cX5_steps 52 = .ok (.if_icmp .ne 24, 3) := by decide +kernel
theorem dX5_steps_55 : decode cX5_steps 55 = .ok (.aload_n 0, 1) := by decide +kernel
theorem dX5_steps_56 : decode cX5_steps 56 = .ok (.getfield 10, 3) := by decide +kernel
theorem dX5_steps_59 : decode cX5_steps 59 = .ok (.getfield 72, 3) := by decide +kernel
theorem dX5_steps_62 : decode cX5_steps 62 = .ok (.iload_n 1, 1) := by decide +kernel
theorem dX5_steps_63 : decode cX5_steps 63 = .ok (.aaload, 1) := by decide +kernel
theorem dX5_steps_64 : decode cX5_steps 64 = .ok (.getfield 111, 3) := by decide +kernel
theorem dX5_steps_67 : decode cX5_steps 67 = .ok (.aload_n 0, 1) := by decide +kernel
theorem dX5_steps_68 : decode cX5_steps 68 = .ok (.getfield 10, 3) := by decide +kernel
theorem dX5_steps_71 : decode cX5_steps 71 = .ok (.invokevirtual 150, 3) := by decide +kernel
theorem dX5_steps_74 : decode cX5_steps 74 = .ok (.isub, 1) := by decide +kernel
theorem dX5_steps_75 : decode cX5_steps 75 = .ok (.ireturn, 1) := by decide +kernel
theorem dX5_steps_76 : decode cX5_steps 76 = .ok (.iload_n 2, 1) := by decide +kernel
theorem dX5_steps_77 : decode cX5_steps 77 = .ok (.ifCond .ne 15, 3) := by decide +kernel
theorem dX5_steps_80 : decode cX5_steps 80 = .ok (.aload_n 0, 1) := by decide +kernel
theorem dX5_steps_81 : decode cX5_steps 81 = .ok (.getfield 38, 3) := by decide +kernel
theorem dX5_steps_84 : decode cX5_steps 84 = .ok (.getfield 154, 3) := by decide +kernel
theorem dX5_steps_87 : decode cX5_steps 87 = .ok (.iload_n 1, 1) := by decide +kernel
theorem dX5_steps_88 : decode cX5_steps 88 = .ok (.iaload, 1) := by decide +kernel
theorem dX5_steps_89 : decode cX5_steps 89 = .ok (.goto 12, 3) := by decide +kernel
theorem dX5_steps_92 : decode cX5_steps 92 = .ok (.aload_n 0, 1) := by decide +kernel
theorem dX5_steps_93 : decode cX5_steps 93 = .ok (.getfield 38, 3) := by decide +kernel
theorem dX5_steps_96 : decode cX5_steps 96 = .ok (.getfield 157, 3) := by decide +kernel
theorem dX5_steps_99 : decode cX5_steps 99 = .ok (.iload_n 1, 1) := by decide +kernel
theorem dX5_steps_100 : decode cX5_steps 100 = .ok (.iaload, 1) := by decide +kernel
theorem dX5_steps_101 : decode cX5_steps 101 = .ok (.ireturn, 1) := by decide +kernel
theorem dX5_way_0 : decode cX5_way 0 = .ok (.aload_n 0, 1) := by decide +kernel
theorem dX5_way_1 : decode cX5_way 1 = .ok (.getfield 10, 3) := by decide +kernel
theorem dX5_way_4 : decode cX5_way 4 = .ok (.iload_n 1, 1) := by decide +kernel
theorem dX5_way_5 : decode cX5_way 5 = .ok (.invokevirtual 81, 3) := by decide +kernel
theorem dX5_way_8 : decode cX5_way 8 = .ok (.ifCond .eq 17, 3) := by decide +kernel
theorem dX5_way_11 : decode cX5_way 11 = .ok (.iload_n 1, 1) := by decide +kernel
theorem dX5_way_12 : decode cX5_way 12 = .ok (.ifCond .eq 13, 3) := by decide +kernel
theorem dX5_way_15 : decode cX5_way 15 = .ok (.iload 4, 2) := by decide +kernel
theorem dX5_way_17 : decode cX5_way 17 = .ok (.iconst 0, 1) := by decide +kernel
theorem dX5_way_18 : decode cX5_way 18 = .ok (.iconst 3, 1) := by decide +kernel
theorem dX5_way_19 : decode cX5_way 19 = .ok (.invokestatic 45, 3) := by decide +kernel
theorem dX5_way_22 : decode cX5_way 22 = .ok (.ifCond .eq 5, 3) := by decide +kernel
theorem dX5_way_25 : decode cX5_way 25 = .ok (.iconst (-1), 1) := by decide +kernel
theorem dX5_way_26 : decode cX5_way 26 = .ok (.ireturn, 1) := by decide +kernel
theorem dX5_way_27 : decode cX5_way 27 = .ok (.iconst 2, 1) := by decide +kernel
theorem dX5_way_28 : decode cX5_way 28 = .ok (.aload_n 0, 1) := by decide +kernel
theorem dX5_way_29 : decode cX5_way 29 = .ok (.getfield 10, 3) := by decide +kernel
theorem dX5_way_32 : decode cX5_way 32 = .ok (.getfield 72, 3) := by decide +kernel
theorem dX5_way_35 : decode cX5_way 35 = .ok (.iload_n 1, 1) := by decide +kernel
theorem dX5_way_36 : decode cX5_way 36 = .ok (.aaload, 1) := by decide +kernel
theorem dX5_way_37 : decode cX5_way 37 = .ok (.getfield 84, 3) := by decide +kernel
theorem dX5_way_40 : decode cX5_way 40 = .ok (.imul, 1) := by decide +kernel
theorem dX5_way_41 : decode cX5_way 41 = .ok (.istore 5, 2) := by decide +kernel
theorem dX5_way_43 : decode cX5_way 43 = .ok (.iload_n 3, 1) := by decide +kernel
theorem dX5_way_44 : decode cX5_way 44 = .ok (.iconst 0, 1) := by decide +kernel
theorem dX5_way_45 : decode cX5_way 45 = .ok (.iload 5, 2) := by decide +kernel
theorem dX5_way_47 : decode cX5_way 47 = .ok (.invokestatic 45, 3) := by decide +kernel
theorem dX5_way_50 : decode cX5_way 50 = .ok (.ifCond .eq 5, 3) := by decide +kernel
theorem dX5_way_53 : decode cX5_way 53 = .ok (.iconst (-1), 1) := by decide +kernel
theorem dX5_way_54 : decode cX5_way 54 = .ok (.ireturn, 1) := by decide +kernel
theorem dX5_way_55 : decode cX5_way 55 = .ok (.aload_n 0, 1) := by decide +kernel
theorem dX5_way_56 : decode cX5_way 56 = .ok (.iload_n 1, 1) := by decide +kernel
theorem dX5_way_57 : decode cX5_way 57 = .ok (.iload_n 2, 1) := by decide +kernel
theorem dX5_way_58 : decode cX5_way 58 = .ok (.invokevirtual 136, 3) := by decide +kernel
theorem dX5_way_61 : decode cX5_way 61 = .ok (.istore 6, 2) := by decide +kernel
theorem dX5_way_63 : decode cX5_way 63 = .ok (.iload 6, 2) := by decide +kernel
theorem dX5_way_65 : decode cX5_way 65 = .ok (.ifCond .ge 6, 3) := by decide +kernel
theorem dX5_way_68 : decode cX5_way 68 = .ok (.iload 6, 2) := by decide +kernel
theorem dX5_way_70 : decode cX5_way 70 = .ok (.ireturn, 1) := by decide +kernel
theorem dX5_way_71 : decode cX5_way 71 = .ok (.iload 4, 2) := by decide +kernel
theorem dX5_way_73 : decode cX5_way 73 = .ok (.iconst 2, 1) := by decide +kernel
theorem dX5_way_74 : decode cX5_way 74 = .ok (.if_icmp .ge 7, 3) := by decide +kernel
theorem dX5_way_77 : decode cX5_way 77 = .ok (.iconst 1, 1) := by decide +kernel
theorem dX5_way_78 : decode cX5_way 78 = .ok (.goto 4, 3) := by decide +kernel
theorem dX5_way_81 : decode cX5_way 81 = .ok (.iconst 0, 1) := by decide +kernel
theorem dX5_way_82 : decode cX5_way 82 = .ok (.istore 7, 2) := by decide +kernel
theorem dX5_way_84 : decode cX5_way 84 = .ok (.iload 7, 2) := by decide +kernel
theorem dX5_way_86 : decode cX5_way 86 = .ok (.ifCond .eq 14, 3) := by decide +kernel
theorem dX5_way_89 : decode cX5_way 89 = .ok (.aload_n 0, 1) := by decide +kernel
theorem dX5_way_90 : decode cX5_way 90 = .ok (.iload_n 1, 1) := by decide +kernel
theorem dX5_way_91 : decode cX5_way 91 = .ok (.iconst 1, 1) := by decide +kernel
theorem dX5_way_92 : decode cX5_way 92 = .ok (.isub, 1) := by decide +kernel
theorem dX5_way_93 : decode cX5_way 93 = .ok (.iload_n 2, 1) := by decide +kernel
theorem dX5_way_94 : decode cX5_way 94 = .ok (.invokevirtual 160, 3) := by decide +kernel
theorem dX5_way_97 : decode cX5_way 97 = .ok (.goto 11, 3) := by decide +kernel
theorem dX5_way_100 : decode cX5_way 100 = .ok (.aload_n 0, 1) := by decide +kernel
theorem dX5_way_101 : decode cX5_way 101 = .ok (.iload_n 1, 1) := by decide +kernel
theorem dX5_way_102 : decode cX5_way 102 = .ok (.iconst 1, 1) := by decide +kernel
theorem dX5_way_103 : decode cX5_way 103 = .ok (.isub, 1) := by decide +kernel
theorem dX5_way_104 : decode cX5_way 104 = .ok (.iload_n 2, 1) := by decide +kernel
theorem dX5_way_105 : decode cX5_way 105 = .ok (.invokevirtual 163, 3) := by decide +kernel
theorem dX5_way_108 : decode cX5_way 108 = .ok (.istore 8, 2) := by decide +kernel
theorem dX5_way_110 : decode cX5_way 110 = .ok (.iload 7, 2) := by decide +kernel
theorem dX5_way_112 : decode cX5_way 112 = .ok (.ifCond .eq 12, 3) := by decide +kernel
theorem dX5_way_115 : decode cX5_way 115 = .ok (.aload_n 0, 1) := by decide +kernel
theorem dX5_way_116 : decode cX5_way 116 = .ok (.iload_n 1, 1) := by decide +kernel
theorem dX5_way_117 : decode cX5_way 117 = .ok (.iload_n 2, 1) := by decide +kernel
theorem dX5_way_118 : decode cX5_way 118 = .ok (.invokevirtual 160, 3) := by decide +kernel
theorem dX5_way_121 : decode cX5_way 121 = .ok (.goto 9, 3) := by decide +kernel
theorem dX5_way_124 : decode cX5_way 124 = .ok (.aload_n 0, 1) := by decide +kernel
theorem dX5_way_125 : decode cX5_way 125 = .ok (.iload_n 1, 1) := by decide +kernel
theorem dX5_way_126 : decode cX5_way 126 = .ok (.iload_n 2, 1) := by decide +kernel
theorem dX5_way_127 : decode cX5_way 127 = .ok (.invokevirtual 163, 3) := by decide +kernel
theorem dX5_way_130 : decode cX5_way 130 = .ok (.istore 9, 2) := by decide +kernel
theorem dX5_way_132 : decode cX5_way 132 = .ok (.iload 8, 2) := by decide +kernel
theorem dX5_way_134 : decode cX5_way 134 = .ok (.iload 5, 2) := by decide +kernel
theorem dX5_way_136 : decode cX5_way 136 = .ok (.iload_n 3, 1) := by decide +kernel
theorem dX5_way_137 : decode cX5_way 137 = .ok (.isub, 1) := by decide +kernel
theorem dX5_way_138 : decode cX5_way 138 = .ok (.imul, 1) := by decide +kernel
theorem dX5_way_139 : decode cX5_way 139 = .ok (.iload 9, 2) := by decide +kernel
theorem dX5_way_141 : decode cX5_way 141 = .ok (.iload_n 3, 1) := by decide +kernel
theorem dX5_way_142 : decode cX5_way 142 = .ok (.imul, 1) := by decide +kernel
theorem dX5_way_143 : decode cX5_way 143 = .ok (.iadd, 1) := by decide +kernel
theorem dX5_way_144 : decode cX5_way 144 = .ok (.istore 10, 2) := by decide +kernel
theorem dX5_way_146 : decode cX5_way 146 = .ok (.iload 4, 2) := by decide +kernel
theorem dX5_way_148 : decode cX5_way 148 = .ok (.ifCond .eq 9, 3) := by decide +kernel
theorem dX5_way_151 : decode cX5_way 151 = .ok (.iload 4, 2) := by decide +kernel
theorem dX5_way_153 : decode cX5_way 153 = .ok (.iconst 2, 1) := by decide +kernel
theorem dX5_way_154 : decode cX5_way 154 = .ok (.if_icmp .ne 7, 3) := by decide +kernel
theorem dX5_way_157 : decode cX5_way 157 = .ok (.iconst 1, 1) := by decide +kernel
theorem dX5_way_158 : decode cX5_way 158 = .ok (.goto 4, 3) := by decide +kernel
theorem dX5_way_161 : decode cX5_way 161 = .ok (.iconst 0, 1) := by decide +kernel
theorem dX5_way_162 : decode cX5_way 162 = .ok (.istore 11, 2) := by decide +kernel
theorem dX5_way_164 : decode cX5_way 164 = .ok (.iload 11, 2) := by decide +kernel
theorem dX5_way_166 : decode cX5_way 166 = .ok (.ifCond .eq 8, 3) := by decide +kernel
theorem dX5_way_169 : decode cX5_way 169 = .ok (.iload 10, 2) := by decide +kernel
theorem dX5_way_171 : decode cX5_way 171 = .ok (.goto 5, 3) := by decide +kernel
theorem dX5_way_174 : decode cX5_way 174 = .ok (.iload 5, 2) := by decide +kernel
theorem dX5_way_176 : decode cX5_way 176 = .ok (.iload 10, 2) := by decide +kernel
theorem dX5_way_178 : decode cX5_way 178 = .ok (.iload 5, 2) := by decide +kernel
theorem dX5_way_180 : decode cX5_way 180 = .ok (.invokestatic 166, 3) := by decide +kernel
theorem dX5_way_183 : decode cX5_way 183 = .ok (.ireturn, 1) := by decide +kernel
theorem dX5_closest_0 : decode cX5_closest 0 = .ok (.aload_n 0, 1) := by decide +kernel
theorem dX5_closest_1 : decode cX5_closest 1 = .ok (.getfield 10, 3) := by decide +kernel
theorem dX5_closest_4 : decode cX5_closest 4 = .ok (.iload_n 1, 1) := by decide +kernel
theorem dX5_closest_5 : decode cX5_closest 5 = .ok (.invokevirtual 81, 3) := by decide +kernel
theorem dX5_closest_8 : decode cX5_closest 8 = .ok (.ifCond .eq 34, 3) := by decide +kernel
theorem dX5_closest_11 : decode cX5_closest 11 = .ok (.iload_n 1, 1) := by decide +kernel
theorem dX5_closest_12 : decode cX5_closest 12 = .ok (.ifCond .eq 30, 3) := by decide +kernel
theorem dX5_closest_15 : decode cX5_closest 15 = .ok (.aload_n 0, 1) := by decide +kernel
theorem dX5_closest_16 : decode cX5_closest 16 = .ok (.getfield 10, 3) := by decide +kernel
theorem dX5_closest_19 : decode cX5_closest 19 = .ok (.iload_n 2, 1) := by decide +kernel
theorem dX5_closest_20 : decode cX5_closest 20 = .ok (.invokevirtual 65, 3) := by decide +kernel
theorem dX5_closest_23 : decode cX5_closest 23 = .ok (.ifCond .eq 19, 3) := by decide +kernel
theorem dX5_closest_26 : decode cX5_closest 26 = .ok (.aload_n 0, 1) := by decide +kernel
theorem dX5_closest_27 : decode cX5_closest 27 = .ok (.getfield 10, 3) := by decide +kernel
theorem dX5_closest_30 : decode cX5_closest 30 = .ok (.iload_n 3, 1) := by decide +kernel
theorem dX5_closest_31 : decode cX5_closest 31 = .ok (.invokevirtual 65, 3) := by decide +kernel
theorem dX5_closest_34 : decode cX5_closest 34 = .ok (.ifCond .eq 8, 3) := by decide +kernel
theorem dX5_closest_37 : decode cX5_closest 37 = .ok (.iload_n 2, 1) := by decide +kernel
theorem dX5_closest_38 : decode cX5_closest 38 = .ok (.iload_n 3, 1) := by decide +kernel
theorem dX5_closest_39 : decode cX5_closest 39 = .ok (.if_icmp .ne 5, 3) := by decide +kernel
theorem dX5_closest_42 : decode cX5_closest 42 = .ok (.iconst (-1), 1) := by decide +kernel
theorem dX5_closest_43 : decode cX5_closest 43 = .ok (.ireturn, 1) := by decide +kernel
theorem dX5_closest_44 : decode cX5_closest 44 = .ok (.aload_n 0, 1) := by decide +kernel
theorem dX5_closest_45 : decode cX5_closest 45 = .ok (.getfield 10, 3) := by decide +kernel
theorem dX5_closest_48 : decode cX5_closest 48 = .ok (.getfield 57, 3) := by decide +kernel
theorem dX5_closest_51 : decode cX5_closest 51 = .ok (.iload_n 2, 1) := by decide +kernel
theorem dX5_closest_52 : decode cX5_closest 52 = .ok (.baload, 1) := by decide +kernel
theorem dX5_closest_53 : decode cX5_closest 53 = .ok (.ifCond .ne 15, 3) := by decide +kernel
theorem dX5_closest_56 : decode cX5_closest 56 = .ok (.aload_n 0, 1) := by decide +kernel
theorem dX5_closest_57 : decode cX5_closest 57 = .ok (.getfield 10, 3) := by decide +kernel
theorem dX5_closest_60 : decode cX5_closest 60 = .ok (.getfield 57, 3) := by decide +kernel
theorem dX5_closest_63 : decode cX5_closest 63 = .ok (.iload_n 3, 1) := by decide +kernel
theorem dX5_closest_64 : decode cX5_closest 64 = .ok (.baload, 1) := by decide +kernel
theorem dX5_closest_65 : decode cX5_closest 65 = .ok (.ifCond .eq 6, 3) := by decide +kernel
theorem dX5_closest_68 : decode cX5_closest 68 = .ok (.bipush (-5), 2) := by decide +kernel
theorem dX5_closest_70 : decode cX5_closest 70 = .ok (.ireturn, 1) := by decide +kernel
theorem dX5_closest_71 : decode cX5_closest 71 = .ok (.aload_n 0, 1) := by decide +kernel
theorem dX5_closest_72 : decode cX5_closest 72 = .ok (.getfield 38, 3) := by decide +kernel
theorem dX5_closest_75 : decode cX5_closest 75 = .ok (.aload_n 0, 1) := by decide +kernel
theorem dX5_closest_76 : decode cX5_closest 76 = .ok (.getfield 10, 3) := by decide +kernel
theorem dX5_closest_79 : decode cX5_closest 79 = .ok (.iload_n 1, 1) := by decide +kernel
theorem dX5_closest_80 : decode cX5_closest 80 = .ok (.iconst (-1), 1) := by decide +kernel
theorem dX5_closest_81 : decode cX5_closest 81 = .ok (.invokevirtual 143, 3) := by decide +kernel
theorem dX5_closest_84 : decode cX5_closest 84 = .ok (.aload_n 0, 1) := by decide +kernel
theorem dX5_closest_85 : decode cX5_closest 85 = .ok (.getfield 38, 3) := by decide +kernel
theorem dX5_closest_88 : decode cX5_closest 88 = .ok (.getfield 147, 3) := by decide +kernel
theorem dX5_closest_91 : decode cX5_closest 91 = .ok (.iload_n 1, 1) := by decide +kernel
theorem dX5_closest_92 : decode cX5_closest 92 = .ok (.baload, 1) := by decide +kernel
theorem dX5_closest_93 : decode cX5_closest 93 = .ok (.ifCond .ne 6, 3) := by decide +kernel
theorem dX5_closest_96 : decode cX5_closest 96 = .ok (.bipush (-3), 2) := by decide +kernel
theorem dX5_closest_98 : decode cX5_closest 98 = .ok (.ireturn, 1) := by decide +kernel
theorem dX5_closest_99 : decode cX5_closest 99 = .ok (.aload_n 0, 1) := by decide +kernel
theorem dX5_closest_100 : decode cX5_closest 100 = .ok (.getfield 10, 3) := by decide +kernel
theorem dX5_closest_103 : decode cX5_closest 103 = .ok (.getfield 72, 3) := by decide +kernel
theorem dX5_closest_106 : decode cX5_closest 106 = .ok (.iload_n 1, 1) := by decide +kernel
theorem dX5_closest_107 : decode cX5_closest 107 = .ok (.aaload, 1) := by decide +kernel
theorem dX5_closest_108 : decode cX5_closest 108 = .ok (.getfield 84, 3) := by decide +kernel
theorem dX5_closest_111 : decode cX5_closest 111 = .ok (.aload_n 0, 1) := by decide +kernel
theorem dX5_closest_112 : decode cX5_closest 112 = .ok (.iload_n 1, 1) := by decide +kernel
theorem dX5_closest_113 : decode cX5_closest 113 = .ok (.iconst 1, 1) := by decide +kernel
theorem dX5_closest_114 : decode cX5_closest 114 = .ok (.isub, 1) := by decide +kernel
theorem dX5_closest_115 : decode cX5_closest 115 = .ok (.iload_n 2, 1) := by decide +kernel
theorem dX5_closest_116 : decode cX5_closest 116 = .ok (.invokevirtual 160, 3) := by decide +kernel
theorem dX5_closest_119 : decode cX5_closest 119 = .ok (.aload_n 0, 1) := by decide +kernel
theorem dX5_closest_120 : decode cX5_closest 120 = .ok (.iload_n 1, 1) := by decide +kernel
theorem dX5_closest_121 : decode cX5_closest 121 = .ok (.iconst 1, 1) := by decide +kernel
theorem dX5_closest_122 : decode cX5_closest 122 = .ok (.isub, 1) := by decide +kernel
theorem dX5_closest_123 : decode cX5_closest 123 = .ok (.iload_n 3, 1) := by decide +kernel
theorem dX5_closest_124 : decode cX5_closest 124 = .ok (.invokevirtual 160, 3) := by decide +kernel
theorem dX5_closest_127 : decode cX5_closest 127 = .ok (.isub, 1) := by decide +kernel
theorem dX5_closest_128 : decode cX5_closest 128 = .ok (.aload_n 0, 1) := by decide +kernel
theorem dX5_closest_129 : decode cX5_closest 129 = .ok (.iload_n 1, 1) := by decide +kernel
theorem dX5_closest_130 : decode cX5_closest 130 = .ok (.iconst 1, 1) := by decide +kernel
theorem dX5_closest_131 : decode cX5_closest 131 = .ok (.isub, 1) := by decide +kernel
theorem dX5_closest_132 : decode cX5_closest 132 = .ok (.iload_n 2, 1) := by decide +kernel
theorem dX5_closest_133 : decode cX5_closest 133 = .ok (.invokevirtual 163, 3) := by decide +kernel
theorem dX5_closest_136 : decode cX5_closest 136 = .ok (.aload_n 0, 1) := by decide +kernel
theorem dX5_closest_137 : decode cX5_closest 137 = .ok (.iload_n 1, 1) := by decide +kernel
theorem dX5_closest_138 : decode cX5_closest 138 = .ok (.iconst 1, 1) := by decide +kernel
theorem dX5_closest_139 : decode cX5_closest 139 = .ok (.isub, 1) := by decide +kernel
theorem dX5_closest_140 : decode cX5_closest 140 = .ok (.iload_n 3, 1) := by decide +kernel
theorem dX5_closest_141 : decode cX5_closest 141 = .ok (.invokevirtual 163, 3) := by decide +kernel
theorem dX5_closest_144 : decode cX5_closest 144 = .ok (.isub, 1) := by decide +kernel
theorem dX5_closest_145 : decode cX5_closest 145 = .ok (.aload_n 0, 1) := by decide +kernel
theorem dX5_closest_146 : decode cX5_closest 146 = .ok (.iload_n 1, 1) := by decide +kernel
theorem dX5_closest_147 : decode cX5_closest 147 = .ok (.iload_n 2, 1) := by decide +kernel
theorem dX5_closest_148 : decode cX5_closest 148 = .ok (.invokevirtual 160, 3) := by decide +kernel
theorem dX5_closest_151 : decode cX5_closest 151 = .ok (.aload_n 0, 1) := by decide +kernel
theorem dX5_closest_152 : decode cX5_closest 152 = .ok (.iload_n 1, 1) := by decide +kernel
theorem dX5_closest_153 : decode cX5_closest 153 = .ok (.iload_n 3, 1) := by decide +kernel
theorem dX5_closest_154 : decode cX5_closest 154 = .ok (.invokevirtual 160, 3) := by decide +kernel
theorem dX5_closest_157 : decode cX5_closest 157 = .ok (.isub, 1) := by decide +kernel
theorem dX5_closest_158 : decode cX5_closest 158 = .ok (.aload_n 0, 1) := by decide +kernel
theorem dX5_closest_159 : decode cX5_closest 159 = .ok (.iload_n 1, 1) := by decide +kernel
theorem dX5_closest_160 : decode cX5_closest 160 = .ok (.iload_n 2, 1) := by decide +kernel
theorem dX5_closest_161 : decode cX5_closest 161 = .ok (.invokevirtual 163, 3) := by decide +kernel
theorem dX5_closest_164 : decode cX5_closest 164 = .ok (.aload_n 0, 1) := by decide +kernel
theorem dX5_closest_165 : decode cX5_closest 165 = .ok (.iload_n 1, 1) := by decide +kernel
theorem dX5_closest_166 : decode cX5_closest 166 = .ok (.iload_n 3, 1) := by decide +kernel
theorem dX5_closest_167 : decode cX5_closest 167 = .ok (.invokevirtual 163, 3) := by decide +kernel
theorem dX5_closest_170 : decode cX5_closest 170 = .ok (.isub, 1) := by decide +kernel
theorem dX5_closest_171 : decode cX5_closest 171 = .ok (.invokestatic 170, 3) := by decide +kernel
theorem dX5_closest_174 : decode cX5_closest 174 = .ok (.ireturn, 1) := by decide +kernel
