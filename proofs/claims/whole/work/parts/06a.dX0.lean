theorem dX0_init_0 : decode cX0_init 0 = .ok (.aload_n 0, 1) := by decide +kernel
theorem dX0_init_1 : decode cX0_init 1 = .ok (.invokespecial 3, 3) := by decide +kernel
theorem dX0_init_4 : decode cX0_init 4 = .ok (.aload_n 0, 1) := by decide +kernel
theorem dX0_init_5 : decode cX0_init 5 = .ok (.bipush 7, 2) := by decide +kernel
theorem dX0_init_7 : decode cX0_init 7 = .ok (.newarray .int, 2) := by decide +kernel
theorem dX0_init_9 : decode cX0_init 9 = .ok (.putfield 9, 3) := by decide +kernel
theorem dX0_init_12 : decode cX0_init 12 = .ok (.aload_n 0, 1) := by decide +kernel
theorem dX0_init_13 : decode cX0_init 13 = .ok (.bipush 7, 2) := by decide +kernel
theorem dX0_init_15 : decode cX0_init 15 = .ok (.newarray .int, 2) := by decide +kernel
theorem dX0_init_17 : decode cX0_init 17 = .ok (.putfield 15, 3) := by decide +kernel
theorem dX0_init_20 : decode cX0_init 20 = .ok (.aload_n 0, 1) := by decide +kernel
theorem dX0_init_21 : decode cX0_init 21 = .ok (.bipush 7, 2) := by decide +kernel
theorem dX0_init_23 : decode cX0_init 23 = .ok (.newarray .boolean, 2) := by decide +kernel
theorem dX0_init_25 : decode cX0_init 25 = .ok (.putfield 18, 3) := by decide +kernel
theorem dX0_init_28 : decode cX0_init 28 = .ok (.aload_n 0, 1) := by decide +kernel
theorem dX0_init_29 : decode cX0_init 29 = .ok (.iconst 1, 1) := by decide +kernel
theorem dX0_init_30 : decode cX0_init 30 = .ok (.putfield 22, 3) := by decide +kernel
theorem dX0_init_33 : decode cX0_init 33 = .ok (.return_, 1) := by decide +kernel
theorem dX0_begin_0 : decode cX0_begin 0 = .ok (.aload_n 0, 1) := by decide +kernel
theorem dX0_begin_1 : decode cX0_begin 1 = .ok (.iload_n 1, 1) := by decide +kernel
theorem dX0_begin_2 : decode cX0_begin 2 = .ok (.putfield 22, 3) := by decide +kernel
theorem dX0_begin_5 : decode cX0_begin 5 = .ok (.aload_n 0, 1) := by decide +kernel
theorem dX0_begin_6 : decode cX0_begin 6 = .ok (.iconst 0, 1) := by decide +kernel
theorem dX0_begin_7 : decode cX0_begin 7 = .ok (.putfield 26, 3) := by decide +kernel
theorem dX0_begin_10 : decode cX0_begin 10 = .ok (.return_, 1) := by decide +kernel
theorem dX0_become_0 : decode cX0_become 0 = .ok (.aload_n 0, 1) := by decide +kernel
theorem dX0_become_1 : decode cX0_become 1 = .ok (.aload_n 1, 1) := by decide +kernel
theorem dX0_become_2 : decode cX0_become 2 = .ok (.getfield 22, 3) := by decide +kernel
theorem dX0_become_5 : decode cX0_become 5 = .ok (.putfield 22, 3) := by decide +kernel
theorem dX0_become_8 : decode cX0_become 8 = .ok (.aload_n 0, 1) := by decide +kernel
theorem dX0_become_9 : decode cX0_become 9 = .ok (.aload_n 1, 1) := by decide +kernel
theorem dX0_become_10 : decode cX0_become 10 = .ok (.getfield 26, 3) := by decide +kernel
theorem dX0_become_13 : decode cX0_become 13 = .ok (.putfield 26, 3) := by decide +kernel
theorem dX0_become_16 : decode cX0_become 16 = .ok (.aload_n 1, 1) := by decide +kernel
theorem dX0_become_17 : decode cX0_become 17 = .ok (.getfield 9, 3) := by decide +kernel
theorem dX0_become_20 : decode cX0_become 20 = .ok (.iconst 0, 1) := by decide +kernel
theorem dX0_become_21 : decode cX0_become 21 = .ok (.aload_n 0, 1) := by decide +kernel
theorem dX0_become_22 : decode cX0_become 22 = .ok (.getfield 9, 3) := by decide +kernel
theorem dX0_become_25 : decode cX0_become 25 = .ok (.iconst 0, 1) := by decide +kernel
theorem dX0_become_26 : decode cX0_become 26 = .ok (.bipush 7, 2) := by decide +kernel
theorem dX0_become_28 : decode cX0_become 28 = .ok (.invokestatic 29, 3) := by decide +kernel
theorem dX0_become_31 : decode cX0_become 31 = .ok (.aload_n 1, 1) := by decide +kernel
theorem dX0_become_32 : decode cX0_become 32 = .ok (.getfield 15, 3) := by decide +kernel
theorem dX0_become_35 : decode cX0_become 35 = .ok (.iconst 0, 1) := by decide +kernel
theorem dX0_become_36 : decode cX0_become 36 = .ok (.aload_n 0, 1) := by decide +kernel
theorem dX0_become_37 : decode cX0_become 37 = .ok (.getfield 15, 3) := by decide +kernel
theorem dX0_become_40 : decode cX0_become 40 = .ok (.iconst 0, 1) := by decide +kernel
theorem dX0_become_41 : decode cX0_become 41 = .ok (.bipush 7, 2) := by decide +kernel
theorem dX0_become_43 : decode cX0_become 43 = .ok (.invokestatic 29, 3) := by decide +kernel
theorem dX0_become_46 : decode cX0_become 46 = .ok (.aload_n 1, 1) := by decide +kernel
theorem dX0_become_47 : decode cX0_become 47 = .ok (.getfield 18, 3) := by decide +kernel
theorem dX0_become_50 : decode cX0_become 50 = .ok (.aload_n 0, 1) := by decide +kernel
theorem dX0_become_51 : decode cX0_become 51 = .ok (.getfield 18, 3) := by decide +kernel
theorem dX0_become_54 : decode cX0_become 54 = .ok (.invokestatic 35, 3) := by decide +kernel
theorem dX0_become_57 : decode cX0_become 57 = .ok (.return_, 1) := by decide +kernel
theorem dX0_hasDot_0 : decode cX0_hasDot 0 = .ok (.iload_n 1, 1) := by decide +kernel
theorem dX0_hasDot_1 : decode cX0_hasDot 1 = .ok (.ifCond .lt 15, 3) := by decide +kernel
theorem dX0_hasDot_4 : decode cX0_hasDot 4 = .ok (.iload_n 1, 1) := by decide +kernel
theorem dX0_hasDot_5 : decode cX0_hasDot 5 = .ok (.aload_n 0, 1) := by decide +kernel
theorem dX0_hasDot_6 : decode cX0_hasDot 6 = .ok (.getfield 26, 3) := by decide +kernel
theorem dX0_hasDot_9 : decode cX0_hasDot 9 = .ok (.if_icmp .ge 7, 3) := by decide +kernel
theorem dX0_hasDot_12 : decode cX0_hasDot 12 = .ok (.iconst 1, 1) := by decide +kernel
theorem dX0_hasDot_13 : decode cX0_hasDot 13 = .ok (.goto 4, 3) := by decide +kernel
theorem dX0_hasDot_16 : decode cX0_hasDot 16 = .ok (.iconst 0, 1) := by decide +kernel
theorem dX0_hasDot_17 : decode cX0_hasDot 17 = .ok (.ireturn, 1) := by decide +kernel
theorem dX0_xOf_0 : decode cX0_xOf 0 = .ok (.aload_n 0, 1) := by decide +kernel
theorem dX0_xOf_1 : decode cX0_xOf 1 = .ok (.iload_n 1, 1) := by decide +kernel
theorem dX0_xOf_2 : decode cX0_xOf 2 = .ok (.invokevirtual 39, 3) := by decide +kernel
theorem dX0_xOf_5 : decode cX0_xOf 5 = .ok (.ifCond .eq 12, 3) := by decide +kernel
theorem dX0_xOf_8 : decode cX0_xOf 8 = .ok (.aload_n 0, 1) := by decide +kernel
theorem dX0_xOf_9 : decode cX0_xOf 9 = .ok (.getfield 9, 3) := by decide +kernel
theorem dX0_xOf_12 : decode cX0_xOf 12 = .ok (.iload_n 1, 1) := by decide +kernel
theorem dX0_xOf_13 : decode cX0_xOf 13 = .ok (.iaload, 1) := by decide +kernel
theorem dX0_xOf_14 : decode cX0_xOf 14 = .ok (.goto 4, 3) := by decide +kernel
theorem dX0_xOf_17 : decode cX0_xOf 17 = .ok (.iconst 0, 1) := by decide +kernel
theorem dX0_xOf_18 : decode cX0_xOf 18 = .ok (.ireturn, 1) := by decide +kernel
theorem dX0_yOf_0 : decode cX0_yOf 0 = .ok (.aload_n 0, 1) := by decide +kernel
theorem dX0_yOf_1 : decode cX0_yOf 1 = .ok (.iload_n 1, 1) := by decide +kernel
theorem dX0_yOf_2 : decode cX0_yOf 2 = .ok (.invokevirtual 39, 3) := by decide +kernel
theorem dX0_yOf_5 : decode cX0_yOf 5 = .ok (.ifCond .eq 12, 3) := by decide +kernel
theorem dX0_yOf_8 : decode cX0_yOf 8 = .ok (.aload_n 0, 1) := by decide +kernel
theorem dX0_yOf_9 : decode cX0_yOf 9 = .ok (.getfield 15, 3) := by decide +kernel
theorem dX0_yOf_12 : decode cX0_yOf 12 = .ok (.iload_n 1, 1) := by decide +kernel
theorem dX0_yOf_13 : decode cX0_yOf 13 = .ok (.iaload, 1) := by decide +kernel
theorem dX0_yOf_14 : decode cX0_yOf 14 = .ok (.goto 4, 3) := by decide +kernel
theorem dX0_yOf_17 : decode cX0_yOf 17 = .ok (.iconst 0, 1) := by decide +kernel
theorem dX0_yOf_18 : decode cX0_yOf 18 = .ok (.ireturn, 1) := by decide +kernel
theorem dX0_solos_0 : decode cX0_solos 0 = .ok (.iconst 0, 1) := by decide +kernel
theorem dX0_solos_1 : decode cX0_solos 1 = .ok (.istore_n 1, 1) := by decide +kernel
theorem dX0_solos_2 : decode cX0_solos 2 = .ok (.iconst 0, 1) := by decide +kernel
theorem dX0_solos_3 : decode cX0_solos 3 = .ok (.istore_n 2, 1) := by decide +kernel
theorem dX0_solos_4 : decode cX0_solos 4 = .ok (.iload_n 2, 1) := by decide +kernel
theorem dX0_solos_5 : decode cX0_solos 5 = .ok (.aload_n 0, 1) := by decide +kernel
theorem dX0_solos_6 : decode cX0_solos 6 = .ok (.getfield 26, 3) := by decide +kernel
theorem dX0_solos_9 : decode cX0_solos 9 = .ok (.if_icmp .ge 21, 3) := by decide +kernel
theorem dX0_solos_12 : decode cX0_solos 12 = .ok (.aload_n 0, 1) := by decide +kernel
theorem dX0_solos_13 : decode cX0_solos 13 = .ok (.getfield 18, 3) := by decide +kernel
theorem dX0_solos_16 : decode cX0_solos 16 = .ok (.iload_n 2, 1) := by decide +kernel
theorem dX0_solos_17 : decode cX0_solos 17 = .ok (.baload, 1) := by decide +kernel
theorem dX0_solos_18 : decode cX0_solos 18 = .ok (.ifCond .eq 6, 3) := by decide +kernel
theorem dX0_solos_21 : decode cX0_solos 21 = .ok (.iinc 1 1, 3) := by decide +kernel
theorem dX0_solos_24 : decode cX0_solos 24 = .ok (.iinc 2 1, 3) := by decide +kernel
theorem dX0_solos_27 : decode cX0_solos 27 = .ok (.goto (-23), 3) := by decide +kernel
theorem dX0_solos_30 : decode cX0_solos 30 = .ok (.iload_n 1, 1) := by decide +kernel
theorem dX0_solos_31 : decode cX0_solos 31 = .ok (.ireturn, 1) := by decide +kernel
theorem dX0_hasRoomFor_0 : decode cX0_hasRoomFor 0 = .ok (.aload_n 0, 1) := by decide +kernel
theorem dX0_hasRoomFor_1 : decode cX0_hasRoomFor 1 = .ok (.getfield 26, 3) := by decide +kernel
theorem dX0_hasRoomFor_4 : decode cX0_hasRoomFor 4 = .ok (.iload_n 1, 1) := by decide +kernel
theorem dX0_hasRoomFor_5 : decode cX0_hasRoomFor 5 = .ok (.iadd, 1) := by decide +kernel
theorem dX0_hasRoomFor_6 : decode cX0_hasRoomFor 6 = .ok (.bipush 7, 2) := by decide +kernel
theorem dX0_hasRoomFor_8 : decode cX0_hasRoomFor 8 = .ok (.if_icmp .gt 7, 3) := by decide +kernel
theorem dX0_hasRoomFor_11 : decode cX0_hasRoomFor 11 = .ok (.iconst 1, 1) := by decide +kernel
theorem dX0_hasRoomFor_12 : decode cX0_hasRoomFor 12 = .ok (.goto 4, 3) := by decide +kernel
theorem dX0_hasRoomFor_15 : decode cX0_hasRoomFor 15 = .ok (.iconst 0, 1) := by decide +kernel
theorem dX0_hasRoomFor_16 : decode cX0_hasRoomFor 16 = .ok (.ireturn, 1) := by decide +kernel
theorem dX0_canTake_0 : decode cX0_canTake 0 = .ok (.iconst 0, 1) := by decide +kernel
theorem dX0_canTake_1 : decode cX0_canTake 1 = .ok (.istore_n 2, 1) := by decide +kernel
theorem dX0_canTake_2 : decode cX0_canTake 2 = .ok (.iload_n 2, 1) := by decide +kernel
theorem dX0_canTake_3 : decode cX0_canTake 3 = .ok (.aload_n 1, 1) := by decide +kernel
theorem dX0_canTake_4 : decode cX0_canTake 4 = .ok (.getfield 43, 3) := by decide +kernel
theorem dX0_canTake_7 : decode cX0_canTake 7 = .ok (.if_icmp .ge 48, 3) := by decide +kernel
theorem dX0_canTake_10 : decode cX0_canTake 10 = .ok (.aload_n 1, 1) := by decide +kernel
theorem dX0_canTake_11 : decode cX0_canTake 11 = .ok (.getfield 46, 3) := by decide +kernel
theorem dX0_canTake_14 : decode cX0_canTake 14 = .ok (.iload_n 2, 1) := by decide +kernel
theorem dX0_canTake_15 : decode cX0_canTake 15 = .ok (.iaload, 1) := by decide +kernel
theorem dX0_canTake_16 : decode cX0_canTake 16 = .ok (.aload_n 1, 1) := by decide +kernel
theorem dX0_canTake_17 : decode cX0_canTake 17 = .ok (.getfield 47, 3) := by decide +kernel
theorem dX0_canTake_20 : decode cX0_canTake 20 = .ok (.iload_n 2, 1) := by decide +kernel
theorem dX0_canTake_21 : decode cX0_canTake 21 = .ok (.iaload, 1) := by decide +kernel
theorem dX0_canTake_22 : decode cX0_canTake 22 = .ok (.invokestatic 48, 3) := by decide +kernel
theorem dX0_canTake_25 : decode cX0_canTake 25 = .ok (.ifCond .eq 22, 3) := by decide +kernel
theorem dX0_canTake_28 : decode cX0_canTake 28 = .ok (.aload_n 0, 1) := by decide +kernel
theorem dX0_canTake_29 : decode cX0_canTake 29 = .ok (.aload_n 1, 1) := by decide +kernel
theorem dX0_canTake_30 : decode cX0_canTake 30 = .ok (.getfield 46, 3) := by decide +kernel
theorem dX0_canTake_33 : decode cX0_canTake 33 = .ok (.iload_n 2, 1) := by decide +kernel
theorem dX0_canTake_34 : decode cX0_canTake 34 = .ok (.iaload, 1) := by decide +kernel
theorem dX0_canTake_35 : decode cX0_canTake 35 = .ok (.aload_n 1, 1) := by decide +kernel
theorem dX0_canTake_36 : decode cX0_canTake 36 = .ok (.getfield 47, 3) := by decide +kernel
theorem dX0_canTake_39 : decode cX0_canTake 39 = .ok (.iload_n 2, 1) := by decide +kernel
theorem dX0_canTake_40 : decode cX0_canTake 40 = .ok (.iaload, 1) := by decide +kernel
theorem dX0_canTake_41 : decode cX0_canTake 41 = .ok (.invokevirtual 52, 3) := by decide +kernel
theorem dX0_canTake_44 : decode cX0_canTake 44 = .ok (.ifCond .eq 5, 3) := by decide +kernel
theorem dX0_canTake_47 : decode cX0_canTake 47 = .ok (.iconst 0, 1) := by decide +kernel
theorem dX0_canTake_48 : decode cX0_canTake 48 = .ok (.ireturn, 1) := by decide +kernel
theorem dX0_canTake_49 : decode cX0_canTake 49 = .ok (.iinc 2 1, 3) := by decide +kernel
theorem dX0_canTake_52 : decode cX0_canTake 52 = .ok (.goto (-50), 3) := by decide +kernel
theorem dX0_canTake_55 : decode cX0_canTake 55 = .ok (.aload_n 1, 1) := by decide +kernel
theorem dX0_canTake_56 : decode cX0_canTake 56 = .ok (.invokevirtual 55, 3) := by decide +kernel
theorem dX0_canTake_59 : decode cX0_canTake 59 = .ok (.ifCond .ne 7, 3) := by decide +kernel
theorem dX0_canTake_62 : decode cX0_canTake 62 = .ok (.iconst 1, 1) := by decide +kernel
theorem dX0_canTake_63 : decode cX0_canTake 63 = .ok (.goto 4, 3) := by decide +kernel
theorem dX0_canTake_66 : decode cX0_canTake 66 = .ok (.iconst 0, 1) := by decide +kernel
theorem dX0_canTake_67 : decode cX0_canTake 67 = .ok (.ireturn, 1) := by decide +kernel
theorem dX0_hasDotAt_0 : decode cX0_hasDotAt 0 = .ok (.iconst 0, 1) := by decide +kernel
theorem dX0_hasDotAt_1 : decode cX0_hasDotAt 1 = .ok (.istore_n 3, 1) := by decide +kernel
theorem dX0_hasDotAt_2 : decode cX0_hasDotAt 2 = .ok (.iload_n 3, 1) := by decide +kernel
theorem dX0_hasDotAt_3 : decode cX0_hasDotAt 3 = .ok (.aload_n 0, 1) := by decide +kernel
theorem dX0_hasDotAt_4 : decode cX0_hasDotAt 4 = .ok (.getfield 26, 3) := by decide +kernel
theorem dX0_hasDotAt_7 : decode cX0_hasDotAt 7 = .ok (.if_icmp .ge 31, 3) := by decide +kernel
theorem dX0_hasDotAt_10 : decode cX0_hasDotAt 10 = .ok (.aload_n 0, 1) := by decide +kernel
theorem dX0_hasDotAt_11 : decode cX0_hasDotAt 11 = .ok (.getfield 9, 3) := by decide +kernel
theorem dX0_hasDotAt_14 : decode cX0_hasDotAt 14 = .ok (.iload_n 3, 1) := by decide +kernel
theorem dX0_hasDotAt_15 : decode cX0_hasDotAt 15 = .ok (.iaload, 1) := by decide +kernel
theorem dX0_hasDotAt_16 : decode cX0_hasDotAt 16 = .ok (.iload_n 1, 1) := by decide +kernel
theorem dX0_hasDotAt_17 : decode cX0_hasDotAt 17 = .ok (.if_icmp .ne 15, 3) := by decide +kernel
theorem dX0_hasDotAt_20 : decode cX0_hasDotAt 20 = .ok (.aload_n 0, 1) := by decide +kernel
theorem dX0_hasDotAt_21 : decode cX0_hasDotAt 21 = .ok (.getfield 15, 3) := by decide +kernel
theorem dX0_hasDotAt_24 : decode cX0_hasDotAt 24 = .ok (.iload_n 3, 1) := by decide +kernel
theorem dX0_hasDotAt_25 : decode cX0_hasDotAt 25 = .ok (.iaload, 1) := by decide +kernel
theorem dX0_hasDotAt_26 : decode cX0_hasDotAt 26 = .ok (.iload_n 2, 1) := by decide +kernel
theorem dX0_hasDotAt_27 : decode cX0_hasDotAt 27 = .ok (.if_icmp .ne 5, 3) := by decide +kernel
theorem dX0_hasDotAt_30 : decode cX0_hasDotAt 30 = .ok (.iconst 1, 1) := by decide +kernel
theorem dX0_hasDotAt_31 : decode cX0_hasDotAt 31 = .ok (.ireturn, 1) := by decide +kernel
theorem dX0_hasDotAt_32 : decode cX0_hasDotAt 32 = .ok (.iinc 3 1, 3) := by decide +kernel
theorem dX0_hasDotAt_35 : decode cX0_hasDotAt 35 = .ok (.goto (-33), 3) := by decide +kernel
theorem dX0_hasDotAt_38 : decode cX0_hasDotAt 38 = .ok (.iconst 0, 1) := by decide +kernel
theorem dX0_hasDotAt_39 : decode cX0_hasDotAt 39 = .ok (.ireturn, 1) := by decide +kernel
theorem dX0_take_0 : decode cX0_take 0 = .ok (.iconst 0, 1) := by decide +kernel
theorem dX0_take_1 : decode cX0_take 1 = .ok (.istore_n 2, 1) := by decide +kernel
theorem dX0_take_2 : decode cX0_take 2 = .ok (.iload_n 2, 1) := by decide +kernel
theorem dX0_take_3 : decode cX0_take 3 = .ok (.aload_n 1, 1) := by decide +kernel
theorem dX0_take_4 : decode cX0_take 4 = .ok (.getfield 43, 3) := by decide +kernel
theorem dX0_take_7 : decode cX0_take 7 = .ok (.if_icmp .ge 68, 3) := by decide +kernel
theorem dX0_take_10 : decode cX0_take 10 = .ok (.aload_n 0, 1) := by decide +kernel
theorem dX0_take_11 : decode cX0_take 11 = .ok (.getfield 26, 3) := by decide +kernel
theorem dX0_take_14 : decode cX0_take 14 = .ok (.bipush 7, 2) := by decide +kernel
theorem dX0_take_16 : decode cX0_take 16 = .ok (.if_icmp .ge 59, 3) := by decide +kernel
theorem dX0_take_19 : decode cX0_take 19 = .ok (.aload_n 0, 1) := by decide +kernel
theorem dX0_take_20 : decode cX0_take 20 = .ok (.getfield 9, 3) := by decide +kernel
theorem dX0_take_23 : decode cX0_take 23 = .ok (.aload_n 0, 1) := by decide +kernel
theorem dX0_take_24 : decode cX0_take 24 = .ok (.getfield 26, 3) := by decide +kernel
theorem dX0_take_27 : decode cX0_take 27 = .ok (.aload_n 1, 1) := by decide +kernel
theorem dX0_take_28 : decode cX0_take 28 = .ok (.getfield 46, 3) := by decide +kernel
theorem dX0_take_31 : decode cX0_take 31 = .ok (.iload_n 2, 1) := by decide +kernel
theorem dX0_take_32 : decode cX0_take 32 = .ok (.iaload, 1) := by decide +kernel
theorem dX0_take_33 : decode cX0_take 33 = .ok (.iastore, 1) := by decide +kernel
theorem dX0_take_34 : decode cX0_take 34 = .ok (.aload_n 0, 1) := by decide +kernel
theorem dX0_take_35 : decode cX0_take 35 = .ok (.getfield 15, 3) := by decide +kernel
theorem dX0_take_38 : decode cX0_take 38 = .ok (.aload_n 0, 1) := by decide +kernel
theorem dX0_take_39 : decode cX0_take 39 = .ok (.getfield 26, 3) := by decide +kernel
theorem dX0_take_42 : decode cX0_take 42 = .ok (.aload_n 1, 1) := by decide +kernel
theorem dX0_take_43 : decode cX0_take 43 = .ok (.getfield 47, 3) := by decide +kernel
theorem dX0_take_46 : decode cX0_take 46 = .ok (.iload_n 2, 1) := by decide +kernel
theorem dX0_take_47 : decode cX0_take 47 = .ok (.iaload, 1) := by decide +kernel
theorem dX0_take_48 : decode cX0_take 48 = .ok (.iastore, 1) := by decide +kernel
theorem dX0_take_49 : decode cX0_take 49 = .ok (.aload_n 0, 1) := by decide +kernel
theorem dX0_take_50 : decode cX0_take 50 = .ok (.getfield 18, 3) := by decide +kernel
theorem dX0_take_53 : decode cX0_take 53 = .ok (.aload_n 0, 1) := by decide +kernel
theorem dX0_take_54 : decode cX0_take 54 = .ok (.getfield 26, 3) := by decide +kernel
theorem dX0_take_57 : decode cX0_take 57 = .ok (.iconst 0, 1) := by decide +kernel
theorem dX0_take_58 : decode cX0_take 58 = .ok (.bastore, 1) := by decide +kernel
theorem dX0_take_59 : decode cX0_take 59 = .ok (.aload_n 0, 1) := by decide +kernel
theorem dX0_take_60 : decode cX0_take 60 = .ok (.dup, 1) := by decide +kernel
theorem dX0_take_61 : decode cX0_take 61 = .ok (.getfield 26, 3) := by decide +kernel
theorem dX0_take_64 : decode cX0_take 64 = .ok (.iconst 1, 1) := by decide +kernel
theorem dX0_take_65 : decode cX0_take 65 = .ok (.iadd, 1) := by decide +kernel
theorem dX0_take_66 : decode cX0_take 66 = .ok (.putfield 26, 3) := by decide +kernel
theorem dX0_take_69 : decode cX0_take 69 = .ok (.iinc 2 1, 3) := by decide +kernel
theorem dX0_take_72 : decode cX0_take 72 = .ok (.goto (-70), 3) := by decide +kernel
theorem dX0_take_75 : decode cX0_take 75 = .ok (.return_, 1) := by decide +kernel
theorem dX1_init_0 : decode cX1_init 0 = .ok (.aload_n 0, 1) := by decide +kernel
theorem dX1_init_1 : decode cX1_init 1 = .ok (.invokespecial 3, 3) := by decide +kernel
theorem dX1_init_4 : decode cX1_init 4 = .ok (.aload_n 0, 1) := by decide +kernel
theorem dX1_init_5 : decode cX1_init 5 = .ok (.iconst 5, 1) := by decide +kernel
theorem dX1_init_6 : decode cX1_init 6 = .ok (.newarray .boolean, 2) := by decide +kernel
theorem dX1_init_8 : decode cX1_init 8 = .ok (.putfield 9, 3) := by decide +kernel
theorem dX1_init_11 : decode cX1_init 11 = .ok (.aload_n 0, 1) := by decide +kernel
theorem dX1_init_12 : decode cX1_init 12 = .ok (.iconst 5, 1) := by decide +kernel
theorem dX1_init_13 : decode cX1_init 13 = .ok (.newarray .int, 2) := by decide +kernel
theorem dX1_init_15 : decode cX1_init 15 = .ok (.putfield 15, 3) := by decide +kernel
theorem dX1_init_18 : decode cX1_init 18 = .ok (.aload_n 0, 1) := by decide +kernel
theorem dX1_init_19 : decode cX1_init 19 = .ok (.iconst 5, 1) := by decide +kernel
theorem dX1_init_20 : decode cX1_init 20 = .ok (.newarray .int, 2) := by decide +kernel
theorem dX1_init_22 : decode cX1_init 22 = .ok (.putfield 19, 3) := by decide +kernel
theorem dX1_init_25 : decode cX1_init 25 = .ok (.aload_n 0, 1) := by decide +kernel
theorem dX1_init_26 : decode cX1_init 26 = .ok (.iconst 5, 1) := by decide +kernel
theorem dX1_init_27 : decode cX1_init 27 = .ok (.bipush 6, 2) := by decide +kernel
theorem dX1_init_29 : decode cX1_init 29 = .ok (.multianewarray 22 2, 4) := by decide +kernel
theorem dX1_init_33 : decode cX1_init 33 = .ok (.putfield 24, 3) := by decide +kernel
theorem dX1_init_36 : decode cX1_init 36 = .ok (.aload_n 0, 1) := by decide +kernel
theorem dX1_init_37 : decode cX1_init 37 = .ok (.aload_n 1, 1) := by decide +kernel
theorem dX1_init_38 : decode cX1_init 38 = .ok (.putfield 27, 3) := by decide +kernel
theorem dX1_init_41 : decode cX1_init 41 = .ok (.return_, 1) := by decide +kernel
theorem dX1_forgetFrom_0 : decode cX1_forgetFrom 0 = .ok (.aload_n 0, 1) := by decide +kernel
theorem dX1_forgetFrom_1 : decode cX1_forgetFrom 1 = .ok (.aload_n 0, 1) := by decide +kernel
theorem dX1_forgetFrom_2 : decode cX1_forgetFrom 2 = .ok (.getfield 31, 3) := by decide +kernel
theorem dX1_forgetFrom_5 : decode cX1_forgetFrom 5 = .ok (.iload_n 1, 1) := by decide +kernel
theorem dX1_forgetFrom_6 : decode cX1_forgetFrom 6 = .ok (.invokestatic 35, 3) := by decide +kernel
theorem dX1_forgetFrom_9 : decode cX1_forgetFrom 9 = .ok (.putfield 31, 3) := by decide +kernel
theorem dX1_forgetFrom_12 : decode cX1_forgetFrom 12 = .ok (.return_, 1) := by decide +kernel
theorem dX1_dotOf_0 : decode cX1_dotOf 0 = .ok (.aload_n 0, 1) := by decide +kernel
theorem dX1_dotOf_1 : decode cX1_dotOf 1 = .ok (.getfield 24, 3) := by decide +kernel
theorem dX1_dotOf_4 : decode cX1_dotOf 4 = .ok (.iload_n 1, 1) := by decide +kernel
theorem dX1_dotOf_5 : decode cX1_dotOf 5 = .ok (.aaload, 1) := by decide +kernel
theorem dX1_dotOf_6 : decode cX1_dotOf 6 = .ok (.iload_n 2, 1) := by decide +kernel
theorem dX1_dotOf_7 : decode cX1_dotOf 7 = .ok (.iaload, 1) := by decide +kernel
theorem dX1_dotOf_8 : decode cX1_dotOf 8 = .ok (.ireturn, 1) := by decide +kernel
theorem dX1_settleTo_0 : decode cX1_settleTo 0 = .ok (.aload_n 0, 1) := by decide +kernel
theorem dX1_settleTo_1 : decode cX1_settleTo 1 = .ok (.getfield 31, 3) := by decide +kernel
theorem dX1_settleTo_4 : decode cX1_settleTo 4 = .ok (.istore 4, 2) := by decide +kernel
theorem dX1_settleTo_6 : decode cX1_settleTo 6 = .ok (.iload 4, 2) := by decide +kernel
theorem dX1_settleTo_8 : decode cX1_settleTo 8 = .ok (.iload_n 2, 1) := by decide +kernel
theorem dX1_settleTo_9 : decode cX1_settleTo 9 = .ok (.if_icmp .gt 34, 3) := by decide +kernel
theorem dX1_settleTo_12 : decode cX1_settleTo 12 = .ok (.iload 4, 2) := by decide +kernel
theorem dX1_settleTo_14 : decode cX1_settleTo 14 = .ok (.aload_n 1, 1) := by decide +kernel
theorem dX1_settleTo_15 : decode cX1_settleTo 15 = .ok (.getfield 41, 3) := by decide +kernel
theorem dX1_settleTo_18 : decode cX1_settleTo 18 = .ok (.if_icmp .ge 25, 3) := by decide +kernel
theorem dX1_settleTo_21 : decode cX1_settleTo 21 = .ok (.aload_n 0, 1) := by decide +kernel
theorem dX1_settleTo_22 : decode cX1_settleTo 22 = .ok (.aload_n 1, 1) := by decide +kernel
theorem dX1_settleTo_23 : decode cX1_settleTo 23 = .ok (.iload 4, 2) := by decide +kernel
theorem dX1_settleTo_25 : decode cX1_settleTo 25 = .ok (.iload_n 3, 1) := by decide +kernel
theorem dX1_settleTo_26 : decode cX1_settleTo 26 = .ok (.invokevirtual 46, 3) := by decide +kernel
theorem dX1_settleTo_29 : decode cX1_settleTo 29 = .ok (.aload_n 0, 1) := by decide +kernel
theorem dX1_settleTo_30 : decode cX1_settleTo 30 = .ok (.iload 4, 2) := by decide +kernel
theorem dX1_settleTo_32 : decode cX1_settleTo 32 = .ok (.iconst 1, 1) := by decide +kernel
theorem dX1_settleTo_33 : decode cX1_settleTo 33 = .ok (.iadd, 1) := by decide +kernel
theorem dX1_settleTo_34 : decode cX1_settleTo 34 = .ok (.putfield 31, 3) := by decide +kernel
theorem dX1_settleTo_37 : decode cX1_settleTo 37 = .ok (.iinc 4 1, 3) := by decide +kernel
theorem dX1_settleTo_40 : decode cX1_settleTo 40 = .ok (.goto (-34), 3) := by decide +kernel
theorem dX1_settleTo_43 : decode cX1_settleTo 43 = .ok (.return_, 1) := by decide +kernel
theorem dX1_settle_0 : decode cX1_settle 0 = .ok (.aload_n 0, 1) := by decide +kernel
theorem dX1_settle_1 : decode cX1_settle 1 = .ok (.getfield 9, 3) := by decide +kernel
theorem dX1_settle_4 : decode cX1_settle 4 = .ok (.iload_n 2, 1) := by decide +kernel
theorem dX1_settle_5 : decode cX1_settle 5 = .ok (.iconst 0, 1) := by decide +kernel
theorem dX1_settle_6 : decode cX1_settle 6 = .ok (.bastore, 1) := by decide +kernel
theorem dX1_settle_7 : decode cX1_settle 7 = .ok (.aload_n 0, 1) := by decide +kernel
theorem dX1_settle_8 : decode cX1_settle 8 = .ok (.getfield 24, 3) := by decide +kernel
theorem dX1_settle_11 : decode cX1_settle 11 = .ok (.iload_n 2, 1) := by decide +kernel
theorem dX1_settle_12 : decode cX1_settle 12 = .ok (.aaload, 1) := by decide +kernel
theorem dX1_settle_13 : decode cX1_settle 13 = .ok (.iconst (-1), 1) := by decide +kernel
theorem dX1_settle_14 : decode cX1_settle 14 = .ok (.invokestatic 50, 3) := by decide +kernel
theorem dX1_settle_17 : decode cX1_settle 17 = .ok (.aload_n 0, 1) := by decide +kernel
theorem dX1_settle_18 : decode cX1_settle 18 = .ok (.getfield 27, 3) := by decide +kernel
theorem dX1_settle_21 : decode cX1_settle 21 = .ok (.aload_n 1, 1) := by decide +kernel
theorem dX1_settle_22 : decode cX1_settle 22 = .ok (.iload_n 3, 1) := by decide +kernel
theorem dX1_settle_23 : decode cX1_settle 23 = .ok (.invokevirtual 56, 3) := by decide +kernel
theorem dX1_settle_26 : decode cX1_settle 26 = .ok (.iload_n 2, 1) := by decide +kernel
theorem dX1_settle_27 : decode cX1_settle 27 = .ok (.ifCond .ne 13, 3) := by decide +kernel
theorem dX1_settle_30 : decode cX1_settle 30 = .ok (.aload_n 0, 1) := by decide +kernel
theorem dX1_settle_31 : decode cX1_settle 31 = .ok (.getfield 27, 3) := by decide +kernel
theorem dX1_settle_34 : decode cX1_settle 34 = .ok (.invokevirtual 62, 3) := by decide +kernel
theorem dX1_settle_37 : decode cX1_settle 37 = .ok (.goto 35, 3) := by decide +kernel
theorem dX1_settle_40 : decode cX1_settle 40 = .ok (.aload_n 0, 1) := by decide +kernel
theorem dX1_settle_41 : decode cX1_settle 41 = .ok (.getfield 9, 3) := by decide +kernel
theorem dX1_settle_44 : decode cX1_settle 44 = .ok (.iload_n 2, 1) := by decide +kernel
theorem dX1_settle_45 : decode cX1_settle 45 = .ok (.iconst 1, 1) := by decide +kernel
theorem dX1_settle_46 : decode cX1_settle 46 = .ok (.isub, 1) := by decide +kernel
theorem dX1_settle_47 : decode cX1_settle 47 = .ok (.baload, 1) := by decide +kernel
theorem dX1_settle_48 : decode cX1_settle 48 = .ok (.ifCond .eq 23, 3) := by decide +kernel
theorem dX1_settle_51 : decode cX1_settle 51 = .ok (.aload_n 0, 1) := by decide +kernel
theorem dX1_settle_52 : decode cX1_settle 52 = .ok (.getfield 27, 3) := by decide +kernel
theorem dX1_settle_55 : decode cX1_settle 55 = .ok (.aload_n 1, 1) := by decide +kernel
theorem dX1_settle_56 : decode cX1_settle 56 = .ok (.iload_n 2, 1) := by decide +kernel
theorem dX1_settle_57 : decode cX1_settle 57 = .ok (.aload_n 0, 1) := by decide +kernel
theorem dX1_settle_58 : decode cX1_settle 58 = .ok (.getfield 24, 3) := by decide +kernel
theorem dX1_settle_61 : decode cX1_settle 61 = .ok (.iload_n 2, 1) := by decide +kernel
theorem dX1_settle_62 : decode cX1_settle 62 = .ok (.iconst 1, 1) := by decide +kernel
theorem dX1_settle_63 : decode cX1_settle 63 = .ok (.isub, 1) := by decide +kernel
theorem dX1_settle_64 : decode cX1_settle 64 = .ok (.aaload, 1) := by decide +kernel
theorem dX1_settle_65 : decode cX1_settle 65 = .ok (.invokevirtual 65, 3) := by decide +kernel
theorem dX1_settle_68 : decode cX1_settle 68 = .ok (.goto 4, 3) := by decide +kernel
theorem dX1_settle_71 : decode cX1_settle 71 = .ok (.return_, 1) := by decide +kernel
theorem dX1_settle_72 : decode cX1_settle 72 = .ok (.aload_n 1, 1) := by decide +kernel
theorem dX1_settle_73 : decode cX1_settle 73 = .ok (.getfield 69, 3) := by decide +kernel
theorem dX1_settle_76 : decode cX1_settle 76 = .ok (.iload_n 2, 1) := by decide +kernel
theorem dX1_settle_77 : decode cX1_settle 77 = .ok (.aaload, 1) := by decide +kernel
theorem dX1_settle_78 : decode cX1_settle 78 = .ok (.astore 4, 2) := by decide +kernel
theorem dX1_settle_80 : decode cX1_settle 80 = .ok (.aload_n 0, 1) := by decide +kernel
theorem dX1_settle_81 : decode cX1_settle 81 = .ok (.getfield 27, 3) := by decide +kernel
theorem dX1_settle_84 : decode cX1_settle 84 = .ok (.aload 4, 2) := by decide +kernel
theorem dX1_settle_86 : decode cX1_settle 86 = .ok (.iconst 0, 1) := by decide +kernel
theorem dX1_settle_87 : decode cX1_settle 87 = .ok (.iconst 0, 1) := by decide +kernel
theorem dX1_settle_88 : decode cX1_settle 88 = .ok (.aload 4, 2) := by decide +kernel
theorem dX1_settle_90 : decode cX1_settle 90 = .ok (.invokevirtual 73, 3) := by decide +kernel
theorem dX1_settle_93 : decode cX1_settle 93 = .ok (.iconst 0, 1) := by decide +kernel
theorem dX1_settle_94 : decode cX1_settle 94 = .ok (.iconst 0, 1) := by decide +kernel
theorem dX1_settle_95 : decode cX1_settle 95 = .ok (.invokevirtual 79, 3) := by decide +kernel
theorem dX1_settle_98 : decode cX1_settle 98 = .ok (.aload_n 0, 1) := by decide +kernel
theorem dX1_settle_99 : decode cX1_settle 99 = .ok (.getfield 9, 3) := by decide +kernel
theorem dX1_settle_102 : decode cX1_settle 102 = .ok (.iload_n 2, 1) := by decide +kernel
theorem dX1_settle_103 : decode cX1_settle 103 = .ok (.aload_n 0, 1) := by decide +kernel
theorem dX1_settle_104 : decode cX1_settle 104 = .ok (.getfield 27, 3) := by decide +kernel
theorem dX1_settle_107 : decode cX1_settle 107 = .ok (.getfield 83, 3) := by decide +kernel
theorem dX1_settle_110 : decode cX1_settle 110 = .ok (.bastore, 1) := by decide +kernel
theorem dX1_settle_111 : decode cX1_settle 111 = .ok (.aload_n 0, 1) := by decide +kernel
theorem dX1_settle_112 : decode cX1_settle 112 = .ok (.getfield 15, 3) := by decide +kernel
theorem dX1_settle_115 : decode cX1_settle 115 = .ok (.iload_n 2, 1) := by decide +kernel
theorem dX1_settle_116 : decode cX1_settle 116 = .ok (.aload_n 0, 1) := by decide +kernel
theorem dX1_settle_117 : decode cX1_settle 117 = .ok (.getfield 27, 3) := by decide +kernel
theorem dX1_settle_120 : decode cX1_settle 120 = .ok (.getfield 86, 3) := by decide +kernel
theorem dX1_settle_123 : decode cX1_settle 123 = .ok (.iastore, 1) := by decide +kernel
theorem dX1_settle_124 : decode cX1_settle 124 = .ok (.aload_n 0, 1) := by decide +kernel
theorem dX1_settle_125 : decode cX1_settle 125 = .ok (.getfield 19, 3) := by decide +kernel
theorem dX1_settle_128 : decode cX1_settle 128 = .ok (.iload_n 2, 1) := by decide +kernel
theorem dX1_settle_129 : decode cX1_settle 129 = .ok (.aload_n 0, 1) := by decide +kernel
theorem dX1_settle_130 : decode cX1_settle 130 = .ok (.getfield 27, 3) := by decide +kernel
theorem dX1_settle_133 : decode cX1_settle 133 = .ok (.getfield 89, 3) := by decide +kernel
theorem dX1_settle_136 : decode cX1_settle 136 = .ok (.iastore, 1) := by decide +kernel
theorem dX1_settle_137 : decode cX1_settle 137 = .ok (.aload_n 0, 1) := by decide +kernel
theorem dX1_settle_138 : decode cX1_settle 138 = .ok (.getfield 27, 3) := by decide +kernel
theorem dX1_settle_141 : decode cX1_settle 141 = .ok (.aload_n 0, 1) := by decide +kernel
theorem dX1_settle_142 : decode cX1_settle 142 = .ok (.getfield 24, 3) := by decide +kernel
theorem dX1_settle_145 : decode cX1_settle 145 = .ok (.iload_n 2, 1) := by decide +kernel
theorem dX1_settle_146 : decode cX1_settle 146 = .ok (.aaload, 1) := by decide +kernel
theorem dX1_settle_147 : decode cX1_settle 147 = .ok (.invokevirtual 92, 3) := by decide +kernel
theorem dX1_settle_150 : decode cX1_settle 150 = .ok (.return_, 1) := by decide +kernel
theorem dX2_init_0 : decode cX2_init 0 = .ok (.aload_n 0, 1) := by decide +kernel
theorem dX2_init_1 : decode cX2_init 1 = .ok (.invokespecial 3, 3) := by decide +kernel
theorem dX2_init_4 : decode cX2_init 4 = .ok (.aload_n 0, 1) := by decide +kernel
theorem dX2_init_5 : decode cX2_init 5 = .ok (.bipush 6, 2) := by decide +kernel
theorem dX2_init_7 : decode cX2_init 7 = .ok (.newarray .int, 2) := by decide +kernel
theorem dX2_init_9 : decode cX2_init 9 = .ok (.putfield 9, 3) := by decide +kernel
theorem dX2_init_12 : decode cX2_init 12 = .ok (.aload_n 0, 1) := by decide +kernel
theorem dX2_init_13 : decode cX2_init 13 = .ok (.bipush 6, 2) := by decide +kernel
theorem dX2_init_15 : decode cX2_init 15 = .ok (.newarray .int, 2) := by decide +kernel
theorem dX2_init_17 : decode cX2_init 17 = .ok (.putfield 15, 3) := by decide +kernel
theorem dX2_init_20 : decode cX2_init 20 = .ok (.aload_n 0, 1) := by decide +kernel
theorem dX2_init_21 : decode cX2_init 21 = .ok (.bipush 6, 2) := by decide +kernel
theorem dX2_init_23 : decode cX2_init 23 = .ok (.newarray .int, 2) := by decide +kernel
theorem dX2_init_25 : decode cX2_init 25 = .ok (.putfield 18, 3) := by decide +kernel
theorem dX2_init_28 : decode cX2_init 28 = .ok (.aload_n 0, 1) := by decide +kernel
theorem dX2_init_29 : decode cX2_init 29 = .ok (.bipush 6, 2) := by decide +kernel
theorem dX2_init_31 : decode cX2_init 31 = .ok (.newarray .int, 2) := by decide +kernel
theorem dX2_init_33 : decode cX2_init 33 = .ok (.putfield 21, 3) := by decide +kernel
theorem dX2_init_36 : decode cX2_init 36 = .ok (.aload_n 0, 1) := by decide +kernel
theorem dX2_init_37 : decode cX2_init 37 = .ok (.bipush 6, 2) := by decide +kernel
theorem dX2_init_39 : decode cX2_init 39 = .ok (.newarray .int, 2) := by decide +kernel
theorem dX2_init_41 : decode cX2_init 41 = .ok (.putfield 24, 3) := by decide +kernel
theorem dX2_init_44 : decode cX2_init 44 = .ok (.aload_n 0, 1) := by decide +kernel
theorem dX2_init_45 : decode cX2_init 45 = .ok (.bipush 42, 2) := by decide +kernel
theorem dX2_init_47 : decode cX2_init 47 = .ok (.newarray .int, 2) := by decide +kernel
theorem dX2_init_49 : decode cX2_init 49 = .ok (.putfield 27, 3) := by decide +kernel
theorem dX2_init_52 : decode cX2_init 52 = .ok (.aload_n 0, 1) := by decide +kernel
theorem dX2_init_53 : decode cX2_init 53 = .ok (.sipush 1764, 3) := by decide +kernel
theorem dX2_init_56 : decode cX2_init 56 = .ok (.newarray .int, 2) := by decide +kernel
theorem dX2_init_58 : decode cX2_init 58 = .ok (.putfield 30, 3) := by decide +kernel
theorem dX2_init_61 : decode cX2_init 61 = .ok (.return_, 1) := by decide +kernel
theorem dX2_begin_0 : decode cX2_begin 0 = .ok (.aload_n 0, 1) := by decide +kernel
theorem dX2_begin_1 : decode cX2_begin 1 = .ok (.iconst 0, 1) := by decide +kernel
theorem dX2_begin_2 : decode cX2_begin 2 = .ok (.putfield 33, 3) := by decide +kernel
theorem dX2_begin_5 : decode cX2_begin 5 = .ok (.aload_n 0, 1) := by decide +kernel
theorem dX2_begin_6 : decode cX2_begin 6 = .ok (.iconst 0, 1) := by decide +kernel
theorem dX2_begin_7 : decode cX2_begin 7 = .ok (.putfield 37, 3) := by decide +kernel
theorem dX2_begin_10 : decode cX2_begin 10 = .ok (.aload_n 0, 1) := by decide +kernel
theorem dX2_begin_11 : decode cX2_begin 11 = .ok (.iconst 0, 1) := by decide +kernel
theorem dX2_begin_12 : decode cX2_begin 12 = .ok (.putfield 41, 3) := by decide +kernel
theorem dX2_begin_15 : decode cX2_begin 15 = .ok (.aload_n 0, 1) := by decide +kernel
theorem dX2_begin_16 : decode cX2_begin 16 = .ok (.iconst 0, 1) := by decide +kernel
theorem dX2_begin_17 : decode cX2_begin 17 = .ok (.putfield 44, 3) := by decide +kernel
theorem dX2_begin_20 : decode cX2_begin 20 = .ok (.iconst 0, 1) := by decide +kernel
theorem dX2_begin_21 : decode cX2_begin 21 = .ok (.istore_n 3, 1) := by decide +kernel
theorem dX2_begin_22 : decode cX2_begin 22 = .ok (.iload_n 3, 1) := by decide +kernel
theorem dX2_begin_23 : decode cX2_begin 23 = .ok (.aload_n 1, 1) := by decide +kernel
theorem dX2_begin_24 : decode cX2_begin 24 = .ok (.getfield 47, 3) := by decide +kernel
theorem dX2_begin_27 : decode cX2_begin 27 = .ok (.if_icmp .ge 43, 3) := by decide +kernel
theorem dX2_begin_30 : decode cX2_begin 30 = .ok (.aload_n 1, 1) := by decide +kernel
theorem dX2_begin_31 : decode cX2_begin 31 = .ok (.getfield 52, 3) := by decide +kernel
theorem dX2_begin_34 : decode cX2_begin 34 = .ok (.iload_n 3, 1) := by decide +kernel
theorem dX2_begin_35 : decode cX2_begin 35 = .ok (.baload, 1) := by decide +kernel
theorem dX2_begin_36 : decode cX2_begin 36 = .ok (.ifCond .ne 28, 3) := by decide +kernel
theorem dX2_begin_39 : decode cX2_begin 39 = .ok (.iload_n 3, 1) := by decide +kernel
theorem dX2_begin_40 : decode cX2_begin 40 = .ok (.iload_n 2, 1) := by decide +kernel
theorem dX2_begin_41 : decode cX2_begin 41 = .ok (.if_icmp .eq 23, 3) := by decide +kernel
theorem dX2_begin_44 : decode cX2_begin 44 = .ok (.aload_n 0, 1) := by decide +kernel
theorem dX2_begin_45 : decode cX2_begin 45 = .ok (.getfield 15, 3) := by decide +kernel
theorem dX2_begin_48 : decode cX2_begin 48 = .ok (.aload_n 0, 1) := by decide +kernel
theorem dX2_begin_49 : decode cX2_begin 49 = .ok (.getfield 44, 3) := by decide +kernel
theorem dX2_begin_52 : decode cX2_begin 52 = .ok (.iload_n 3, 1) := by decide +kernel
theorem dX2_begin_53 : decode cX2_begin 53 = .ok (.iastore, 1) := by decide +kernel
theorem dX2_begin_54 : decode cX2_begin 54 = .ok (.aload_n 0, 1) := by decide +kernel
theorem dX2_begin_55 : decode cX2_begin 55 = .ok (.dup, 1) := by decide +kernel
theorem dX2_begin_56 : decode cX2_begin 56 = .ok (.getfield 44, 3) := by decide +kernel
theorem dX2_begin_59 : decode cX2_begin 59 = .ok (.iconst 1, 1) := by decide +kernel
theorem dX2_begin_60 : decode cX2_begin 60 = .ok (.iadd, 1) := by decide +kernel
theorem dX2_begin_61 : decode cX2_begin 61 = .ok (.putfield 44, 3) := by decide +kernel
theorem dX2_begin_64 : decode cX2_begin 64 = .ok (.iinc 3 1, 3) := by decide +kernel
theorem dX2_begin_67 : decode cX2_begin 67 = .ok (.goto (-45), 3) := by decide +kernel
theorem dX2_begin_70 : decode cX2_begin 70 = .ok (.return_, 1) := by decide +kernel
theorem dX2_startAnywhere_0 : decode cX2_startAnywhere 0 = .ok (.aload_n 0, 1) := by decide +kernel
theorem dX2_startAnywhere_1 : decode cX2_startAnywhere 1 = .ok (.getfield 27, 3) := by decide +kernel
theorem dX2_startAnywhere_4 : decode cX2_startAnywhere 4 = .ok (.iconst 0, 1) := by decide +kernel
theorem dX2_startAnywhere_5 : decode cX2_startAnywhere 5 = .ok (.invokestatic 56, 3) := by decide +kernel
theorem dX2_startAnywhere_8 : decode cX2_startAnywhere 8 = .ok (.aload_n 0, 1) := by decide +kernel
theorem dX2_startAnywhere_9 : decode cX2_startAnywhere 9 = .ok (.getfield 30, 3) := by decide +kernel
theorem dX2_startAnywhere_12 : decode cX2_startAnywhere 12 = .ok (.iconst 1, 1) := by decide +kernel
theorem dX2_startAnywhere_13 : decode cX2_startAnywhere 13 = .ok (.invokestatic 56, 3) := by decide +kernel
theorem dX2_startAnywhere_16 : decode cX2_startAnywhere 16 = .ok (.return_, 1) := by decide +kernel
theorem dX2_startFrom_0 : decode cX2_startFrom 0 = .ok (.aload_n 1, 1) := by decide +kernel
theorem dX2_startFrom_1 : decode cX2_startFrom 1 = .ok (.getfield 62, 3) := by decide +kernel
theorem dX2_startFrom_4 : decode cX2_startFrom 4 = .ok (.iload_n 2, 1) := by decide +kernel
theorem dX2_startFrom_5 : decode cX2_startFrom 5 = .ok (.iconst 1, 1) := by decide +kernel
theorem dX2_startFrom_6 : decode cX2_startFrom 6 = .ok (.isub, 1) := by decide +kernel
theorem dX2_startFrom_7 : decode cX2_startFrom 7 = .ok (.aaload, 1) := by decide +kernel
theorem dX2_startFrom_8 : decode cX2_startFrom 8 = .ok (.astore 4, 2) := by decide +kernel
theorem dX2_startFrom_10 : decode cX2_startFrom 10 = .ok (.aload_n 1, 1) := by decide +kernel
theorem dX2_startFrom_11 : decode cX2_startFrom 11 = .ok (.getfield 62, 3) := by decide +kernel
theorem dX2_startFrom_14 : decode cX2_startFrom 14 = .ok (.iload_n 2, 1) := by decide +kernel
theorem dX2_startFrom_15 : decode cX2_startFrom 15 = .ok (.aaload, 1) := by decide +kernel
theorem dX2_startFrom_16 : decode cX2_startFrom 16 = .ok (.astore 5, 2) := by decide +kernel
theorem dX2_startFrom_18 : decode cX2_startFrom 18 = .ok (.aload_n 0, 1) := by decide +kernel
theorem dX2_startFrom_19 : decode cX2_startFrom 19 = .ok (.aload_n 1, 1) := by decide +kernel
theorem dX2_startFrom_20 : decode cX2_startFrom 20 = .ok (.getfield 66, 3) := by decide +kernel
theorem dX2_startFrom_23 : decode cX2_startFrom 23 = .ok (.putfield 69, 3) := by decide +kernel
theorem dX2_startFrom_26 : decode cX2_startFrom 26 = .ok (.aload_n 0, 1) := by decide +kernel
theorem dX2_startFrom_27 : decode cX2_startFrom 27 = .ok (.getfield 30, 3) := by decide +kernel
theorem dX2_startFrom_30 : decode cX2_startFrom 30 = .ok (.aload_n 0, 1) := by decide +kernel
theorem dX2_startFrom_31 : decode cX2_startFrom 31 = .ok (.getfield 69, 3) := by decide +kernel
theorem dX2_startFrom_34 : decode cX2_startFrom 34 = .ok (.ifCond .ne 7, 3) := by decide +kernel
theorem dX2_startFrom_37 : decode cX2_startFrom 37 = .ok (.iconst 1, 1) := by decide +kernel
theorem dX2_startFrom_38 : decode cX2_startFrom 38 = .ok (.goto 4, 3) := by decide +kernel
theorem dX2_startFrom_41 : decode cX2_startFrom 41 = .ok (.iconst 0, 1) := by decide +kernel
theorem dX2_startFrom_42 : decode cX2_startFrom 42 = .ok (.invokestatic 56, 3) := by decide +kernel
theorem dX2_startFrom_45 : decode cX2_startFrom 45 = .ok (.iconst 0, 1) := by decide +kernel
theorem dX2_startFrom_46 : decode cX2_startFrom 46 = .ok (.istore 6, 2) := by decide +kernel
theorem dX2_startFrom_48 : decode cX2_startFrom 48 = .ok (.iload 6, 2) := by decide +kernel
theorem dX2_startFrom_50 : decode cX2_startFrom 50 = .ok (.aload_n 0, 1) := by decide +kernel
theorem dX2_startFrom_51 : decode cX2_startFrom 51 = .ok (.getfield 44, 3) := by decide +kernel
theorem dX2_startFrom_54 : decode cX2_startFrom 54 = .ok (.if_icmp .ge 77, 3) := by decide +kernel
theorem dX2_startFrom_57 : decode cX2_startFrom 57 = .ok (.aload_n 0, 1) := by decide +kernel
theorem dX2_startFrom_58 : decode cX2_startFrom 58 = .ok (.getfield 18, 3) := by decide +kernel
theorem dX2_startFrom_61 : decode cX2_startFrom 61 = .ok (.iload 6, 2) := by decide +kernel
theorem dX2_startFrom_63 : decode cX2_startFrom 63 = .ok (.aload 4, 2) := by decide +kernel
theorem dX2_startFrom_65 : decode cX2_startFrom 65 = .ok (.aload_n 3, 1) := by decide +kernel
theorem dX2_startFrom_66 : decode cX2_startFrom 66 = .ok (.aload_n 0, 1) := by decide +kernel
theorem dX2_startFrom_67 : decode cX2_startFrom 67 = .ok (.getfield 15, 3) := by decide +kernel
theorem dX2_startFrom_70 : decode cX2_startFrom 70 = .ok (.iload 6, 2) := by decide +kernel
theorem dX2_startFrom_72 : decode cX2_startFrom 72 = .ok (.iaload, 1) := by decide +kernel
theorem dX2_startFrom_73 : decode cX2_startFrom 73 = .ok (.iaload, 1) := by decide +kernel
theorem dX2_startFrom_74 : decode cX2_startFrom 74 = .ok (.invokevirtual 70, 3) := by decide +kernel
theorem dX2_startFrom_77 : decode cX2_startFrom 77 = .ok (.iastore, 1) := by decide +kernel
theorem dX2_startFrom_78 : decode cX2_startFrom 78 = .ok (.aload_n 0, 1) := by decide +kernel
theorem dX2_startFrom_79 : decode cX2_startFrom 79 = .ok (.getfield 21, 3) := by decide +kernel
theorem dX2_startFrom_82 : decode cX2_startFrom 82 = .ok (.iload 6, 2) := by decide +kernel
theorem dX2_startFrom_84 : decode cX2_startFrom 84 = .ok (.aload 4, 2) := by decide +kernel
theorem dX2_startFrom_86 : decode cX2_startFrom 86 = .ok (.aload_n 3, 1) := by decide +kernel
theorem dX2_startFrom_87 : decode cX2_startFrom 87 = .ok (.aload_n 0, 1) := by decide +kernel
theorem dX2_startFrom_88 : decode cX2_startFrom 88 = .ok (.getfield 15, 3) := by decide +kernel
theorem dX2_startFrom_91 : decode cX2_startFrom 91 = .ok (.iload 6, 2) := by decide +kernel
theorem dX2_startFrom_93 : decode cX2_startFrom 93 = .ok (.iaload, 1) := by decide +kernel
theorem dX2_startFrom_94 : decode cX2_startFrom 94 = .ok (.iaload, 1) := by decide +kernel
theorem dX2_startFrom_95 : decode cX2_startFrom 95 = .ok (.invokevirtual 76, 3) := by decide +kernel
theorem dX2_startFrom_98 : decode cX2_startFrom 98 = .ok (.iastore, 1) := by decide +kernel
theorem dX2_startFrom_99 : decode cX2_startFrom 99 = .ok (.aload_n 0, 1) := by decide +kernel
theorem dX2_startFrom_100 : decode cX2_startFrom 100 = .ok (.aload 5, 2) := by decide +kernel
theorem dX2_startFrom_102 : decode cX2_startFrom 102 = .ok (.iload 6, 2) := by decide +kernel
theorem dX2_startFrom_104 : decode cX2_startFrom 104 = .ok (.aload_n 1, 1) := by decide +kernel
theorem dX2_startFrom_105 : decode cX2_startFrom 105 = .ok (.getfield 79, 3) := by decide +kernel
theorem dX2_startFrom_108 : decode cX2_startFrom 108 = .ok (.aload_n 0, 1) := by decide +kernel
theorem dX2_startFrom_109 : decode cX2_startFrom 109 = .ok (.getfield 15, 3) := by decide +kernel
theorem dX2_startFrom_112 : decode cX2_startFrom 112 = .ok (.iload 6, 2) := by decide +kernel
theorem dX2_startFrom_114 : decode cX2_startFrom 114 = .ok (.iaload, 1) := by decide +kernel
theorem dX2_startFrom_115 : decode cX2_startFrom 115 = .ok (.iaload, 1) := by decide +kernel
theorem dX2_startFrom_116 : decode cX2_startFrom 116 = .ok (.aload 5, 2) := by decide +kernel
theorem dX2_startFrom_118 : decode cX2_startFrom 118 = .ok (.getfield 82, 3) := by decide +kernel
theorem dX2_startFrom_121 : decode cX2_startFrom 121 = .ok (.imul, 1) := by decide +kernel
theorem dX2_startFrom_122 : decode cX2_startFrom 122 = .ok (.invokevirtual 85, 3) := by decide +kernel
theorem dX2_startFrom_125 : decode cX2_startFrom 125 = .ok (.iinc 6 1, 3) := by decide +kernel
theorem dX2_startFrom_128 : decode cX2_startFrom 128 = .ok (.goto (-80), 3) := by decide +kernel
theorem dX2_startFrom_131 : decode cX2_startFrom 131 = .ok (.return_, 1) := by decide +kernel
theorem dX2_measureSteps_0 : decode cX2_measureSteps 0 = .ok (.iconst 0, 1) := by decide +kernel
theorem dX2_measureSteps_1 : decode cX2_measureSteps 1 = .ok (.istore 4, 2) := by decide +kernel
theorem dX2_measureSteps_3 : decode cX2_measureSteps 3 = .ok (.iload 4, 2) := by decide +kernel
theorem dX2_measureSteps_5 : decode cX2_measureSteps 5 = .ok (.aload_n 1, 1) := by decide +kernel
theorem dX2_measureSteps_6 : decode cX2_measureSteps 6 = .ok (.getfield 89, 3) := by decide +kernel
theorem dX2_measureSteps_9 : decode cX2_measureSteps 9 = .ok (.if_icmp .ge 80, 3) := by decide +kernel
theorem dX2_measureSteps_12 : decode cX2_measureSteps 12 = .ok (.aload_n 1, 1) := by decide +kernel
theorem dX2_measureSteps_13 : decode cX2_measureSteps 13 = .ok (.getfield 92, 3) := by decide +kernel
theorem dX2_measureSteps_16 : decode cX2_measureSteps 16 = .ok (.iload 4, 2) := by decide +kernel
theorem dX2_measureSteps_18 : decode cX2_measureSteps 18 = .ok (.iaload, 1) := by decide +kernel
theorem dX2_measureSteps_19 : decode cX2_measureSteps 19 = .ok (.aload_n 0, 1) := by decide +kernel
theorem dX2_measureSteps_20 : decode cX2_measureSteps 20 = .ok (.getfield 18, 3) := by decide +kernel
theorem dX2_measureSteps_23 : decode cX2_measureSteps 23 = .ok (.iload_n 2, 1) := by decide +kernel
theorem dX2_measureSteps_24 : decode cX2_measureSteps 24 = .ok (.iaload, 1) := by decide +kernel
theorem dX2_measureSteps_25 : decode cX2_measureSteps 25 = .ok (.isub, 1) := by decide +kernel
theorem dX2_measureSteps_26 : decode cX2_measureSteps 26 = .ok (.invokestatic 95, 3) := by decide +kernel
theorem dX2_measureSteps_29 : decode cX2_measureSteps 29 = .ok (.istore 5, 2) := by decide +kernel
theorem dX2_measureSteps_31 : decode cX2_measureSteps 31 = .ok (.aload_n 1, 1) := by decide +kernel
theorem dX2_measureSteps_32 : decode cX2_measureSteps 32 = .ok (.getfield 100, 3) := by decide +kernel
theorem dX2_measureSteps_35 : decode cX2_measureSteps 35 = .ok (.iload 4, 2) := by decide +kernel
theorem dX2_measureSteps_37 : decode cX2_measureSteps 37 = .ok (.iaload, 1) := by decide +kernel
theorem dX2_measureSteps_38 : decode cX2_measureSteps 38 = .ok (.aload_n 0, 1) := by decide +kernel
theorem dX2_measureSteps_39 : decode cX2_measureSteps 39 = .ok (.getfield 21, 3) := by decide +kernel
theorem dX2_measureSteps_42 : decode cX2_measureSteps 42 = .ok (.iload_n 2, 1) := by decide +kernel
theorem dX2_measureSteps_43 : decode cX2_measureSteps 43 = .ok (.iaload, 1) := by decide +kernel
theorem dX2_measureSteps_44 : decode cX2_measureSteps 44 = .ok (.isub, 1) := by decide +kernel
theorem dX2_measureSteps_45 : decode cX2_measureSteps 45 = .ok (.invokestatic 95, 3) := by decide +kernel
theorem dX2_measureSteps_48 : decode cX2_measureSteps 48 = .ok (.istore 6, 2) := by decide +kernel
theorem dX2_measureSteps_50 : decode cX2_measureSteps 50 = .ok (.iload 5, 2) := by decide +kernel
theorem dX2_measureSteps_52 : decode cX2_measureSteps 52 = .ok (.iload 6, 2) := by decide +kernel
theorem dX2_measureSteps_54 : decode cX2_measureSteps 54 = .ok (.invokestatic 103, 3) := by decide +kernel
theorem dX2_measureSteps_57 : decode cX2_measureSteps 57 = .ok (.istore 7, 2) := by decide +kernel
theorem dX2_measureSteps_59 : decode cX2_measureSteps 59 = .ok (.aload_n 0, 1) := by decide +kernel
theorem dX2_measureSteps_60 : decode cX2_measureSteps 60 = .ok (.getfield 27, 3) := by decide +kernel
theorem dX2_measureSteps_63 : decode cX2_measureSteps 63 = .ok (.iload_n 2, 1) := by decide +kernel
theorem dX2_measureSteps_64 : decode cX2_measureSteps 64 = .ok (.bipush 7, 2) := by decide +kernel
theorem dX2_measureSteps_66 : decode cX2_measureSteps 66 = .ok (.imul, 1) := by decide +kernel
theorem dX2_measureSteps_67 : decode cX2_measureSteps 67 = .ok (.iload 4, 2) := by decide +kernel
theorem dX2_measureSteps_69 : decode cX2_measureSteps 69 = .ok (.iadd, 1) := by decide +kernel
theorem dX2_measureSteps_70 : decode cX2_measureSteps 70 = .ok (.iload 7, 2) := by decide +kernel
theorem dX2_measureSteps_72 : decode cX2_measureSteps 72 = .ok (.iload_n 3, 1) := by decide +kernel
theorem dX2_measureSteps_73 : decode cX2_measureSteps 73 = .ok (.if_icmp .gt 8, 3) := by decide +kernel
theorem dX2_measureSteps_76 : decode cX2_measureSteps 76 = .ok (.iload 7, 2) := by decide +kernel
theorem dX2_measureSteps_78 : decode cX2_measureSteps 78 = .ok (.goto 4, 3) := by decide +kernel
theorem dX2_measureSteps_81 : decode cX2_measureSteps 81 = .ok (.iconst (-1), 1) := by decide +kernel
theorem dX2_measureSteps_82 : decode cX2_measureSteps 82 = .ok (.iastore, 1) := by decide +kernel
theorem dX2_measureSteps_83 : decode cX2_measureSteps 83 = .ok (.iinc 4 1, 3) := by decide +kernel
theorem dX2_measureSteps_86 : decode cX2_measureSteps 86 = .ok (.goto (-83), 3) := by decide +kernel
theorem dX2_measureSteps_89 : decode cX2_measureSteps 89 = .ok (.return_, 1) := by decide +kernel
theorem dX2_tell_0 : decode cX2_tell 0 = .ok (.iconst 0, 1) := by decide +kernel
theorem dX2_tell_1 : decode cX2_tell 1 = .ok (.istore_n 2, 1) := by decide +kernel
theorem dX2_tell_2 : decode cX2_tell 2 = .ok (.aload_n 0, 1) := by decide +kernel
theorem dX2_tell_3 : decode cX2_tell 3 = .ok (.getfield 33, 3) := by decide +kernel
theorem dX2_tell_6 : decode cX2_tell 6 = .ok (.ifCond .eq 31, 3) := by decide +kernel
theorem dX2_tell_9 : decode cX2_tell 9 = .ok (.iload_n 2, 1) := by decide +kernel
theorem dX2_tell_10 : decode cX2_tell 10 = .ok (.aload_n 0, 1) := by decide +kernel
theorem dX2_tell_11 : decode cX2_tell 11 = .ok (.getfield 44, 3) := by decide +kernel
theorem dX2_tell_14 : decode cX2_tell 14 = .ok (.if_icmp .ge 23, 3) := by decide +kernel
theorem dX2_tell_17 : decode cX2_tell 17 = .ok (.aload_n 1, 1) := by decide +kernel
theorem dX2_tell_18 : decode cX2_tell 18 = .ok (.aload_n 0, 1) := by decide +kernel
theorem dX2_tell_19 : decode cX2_tell 19 = .ok (.getfield 15, 3) := by decide +kernel
theorem dX2_tell_22 : decode cX2_tell 22 = .ok (.iload_n 2, 1) := by decide +kernel
theorem dX2_tell_23 : decode cX2_tell 23 = .ok (.iaload, 1) := by decide +kernel
theorem dX2_tell_24 : decode cX2_tell 24 = .ok (.aload_n 0, 1) := by decide +kernel
theorem dX2_tell_25 : decode cX2_tell 25 = .ok (.getfield 9, 3) := by decide +kernel
theorem dX2_tell_28 : decode cX2_tell 28 = .ok (.iload_n 2, 1) := by decide +kernel
theorem dX2_tell_29 : decode cX2_tell 29 = .ok (.iaload, 1) := by decide +kernel
theorem dX2_tell_30 : decode cX2_tell 30 = .ok (.iastore, 1) := by decide +kernel
theorem dX2_tell_31 : decode cX2_tell 31 = .ok (.iinc 2 1, 3) := by decide +kernel
theorem dX2_tell_34 : decode cX2_tell 34 = .ok (.goto (-32), 3) := by decide +kernel
theorem dX2_tell_37 : decode cX2_tell 37 = .ok (.return_, 1) := by decide +kernel
theorem dX2_choose_0 : decode cX2_choose 0 = .ok (.iload 4, 2) := by decide +kernel
theorem dX2_choose_2 : decode cX2_choose 2 = .ok (.aload_n 0, 1) := by decide +kernel
theorem dX2_choose_3 : decode cX2_choose 3 = .ok (.getfield 44, 3) := by decide +kernel
theorem dX2_choose_6 : decode cX2_choose 6 = .ok (.iload_n 2, 1) := by decide +kernel
theorem dX2_choose_7 : decode cX2_choose 7 = .ok (.isub, 1) := by decide +kernel
theorem dX2_choose_8 : decode cX2_choose 8 = .ok (.if_icmp .le 4, 3) := by decide +kernel
theorem dX2_choose_11 : decode cX2_choose 11 = .ok (.return_, 1) := by decide +kernel
theorem dX2_choose_12 : decode cX2_choose 12 = .ok (.iload_n 2, 1) := by decide +kernel
theorem dX2_choose_13 : decode cX2_choose 13 = .ok (.aload_n 0, 1) := by decide +kernel
theorem dX2_choose_14 : decode cX2_choose 14 = .ok (.getfield 44, 3) := by decide +kernel
theorem dX2_choose_17 : decode cX2_choose 17 = .ok (.if_icmp .lt 12, 3) := by decide +kernel
theorem dX2_choose_20 : decode cX2_choose 20 = .ok (.aload_n 0, 1) := by decide +kernel
theorem dX2_choose_21 : decode cX2_choose 21 = .ok (.iload 5, 2) := by decide +kernel
theorem dX2_choose_23 : decode cX2_choose 23 = .ok (.iload 6, 2) := by decide +kernel
theorem dX2_choose_25 : decode cX2_choose 25 = .ok (.invokevirtual 107, 3) := by decide +kernel
theorem dX2_choose_28 : decode cX2_choose 28 = .ok (.return_, 1) := by decide +kernel
theorem dX2_choose_29 : decode cX2_choose 29 = .ok (.iconst 0, 1) := by decide +kernel
theorem dX2_choose_30 : decode cX2_choose 30 = .ok (.istore 7, 2) := by decide +kernel
theorem dX2_choose_32 : decode cX2_choose 32 = .ok (.iload 7, 2) := by decide +kernel
theorem dX2_choose_34 : decode cX2_choose 34 = .ok (.aload_n 1, 1) := by decide +kernel
theorem dX2_choose_35 : decode cX2_choose 35 = .ok (.getfield 89, 3) := by decide +kernel
theorem dX2_choose_38 : decode cX2_choose 38 = .ok (.if_icmp .ge 121, 3) := by decide +kernel
theorem dX2_choose_41 : decode cX2_choose 41 = .ok (.aload_n 0, 1) := by decide +kernel
theorem dX2_choose_42 : decode cX2_choose 42 = .ok (.getfield 27, 3) := by decide +kernel
theorem dX2_choose_45 : decode cX2_choose 45 = .ok (.iload_n 2, 1) := by decide +kernel
theorem dX2_choose_46 : decode cX2_choose 46 = .ok (.bipush 7, 2) := by decide +kernel
theorem dX2_choose_48 : decode cX2_choose 48 = .ok (.imul, 1) := by decide +kernel
theorem dX2_choose_49 : decode cX2_choose 49 = .ok (.iload 7, 2) := by decide +kernel
theorem dX2_choose_51 : decode cX2_choose 51 = .ok (.iadd, 1) := by decide +kernel
theorem dX2_choose_52 : decode cX2_choose 52 = .ok (.iaload, 1) := by decide +kernel
theorem dX2_choose_53 : decode cX2_choose 53 = .ok (.istore 8, 2) := by decide +kernel
theorem dX2_choose_55 : decode cX2_choose 55 = .ok (.iload_n 3, 1) := by decide +kernel
theorem dX2_choose_56 : decode cX2_choose 56 = .ok (.iload 7, 2) := by decide +kernel
theorem dX2_choose_58 : decode cX2_choose 58 = .ok (.ishr, 1) := by decide +kernel
theorem dX2_choose_59 : decode cX2_choose 59 = .ok (.iconst 1, 1) := by decide +kernel
theorem dX2_choose_60 : decode cX2_choose 60 = .ok (.iand, 1) := by decide +kernel
theorem dX2_choose_61 : decode cX2_choose 61 = .ok (.ifCond .ne 92, 3) := by decide +kernel
theorem dX2_choose_64 : decode cX2_choose 64 = .ok (.iload 8, 2) := by decide +kernel
theorem dX2_choose_66 : decode cX2_choose 66 = .ok (.iconst (-1), 1) := by decide +kernel
theorem dX2_choose_67 : decode cX2_choose 67 = .ok (.if_icmp .eq 86, 3) := by decide +kernel
theorem dX2_choose_70 : decode cX2_choose 70 = .ok (.aload_n 0, 1) := by decide +kernel
theorem dX2_choose_71 : decode cX2_choose 71 = .ok (.iload 5, 2) := by decide +kernel
theorem dX2_choose_73 : decode cX2_choose 73 = .ok (.iload 8, 2) := by decide +kernel
theorem dX2_choose_75 : decode cX2_choose 75 = .ok (.invokestatic 103, 3) := by decide +kernel
theorem dX2_choose_78 : decode cX2_choose 78 = .ok (.iload 6, 2) := by decide +kernel
theorem dX2_choose_80 : decode cX2_choose 80 = .ok (.iload 8, 2) := by decide +kernel
theorem dX2_choose_82 : decode cX2_choose 82 = .ok (.iadd, 1) := by decide +kernel
theorem dX2_choose_83 : decode cX2_choose 83 = .ok (.invokevirtual 111, 3) := by decide +kernel
theorem dX2_choose_86 : decode cX2_choose 86 = .ok (.ifCond .eq 67, 3) := by decide +kernel
theorem dX2_choose_89 : decode cX2_choose 89 = .ok (.aload_n 0, 1) := by decide +kernel
theorem dX2_choose_90 : decode cX2_choose 90 = .ok (.aload_n 1, 1) := by decide +kernel
theorem dX2_choose_91 : decode cX2_choose 91 = .ok (.iload_n 2, 1) := by decide +kernel
theorem dX2_choose_92 : decode cX2_choose 92 = .ok (.iload 7, 2) := by decide +kernel
theorem dX2_choose_94 : decode cX2_choose 94 = .ok (.invokevirtual 115, 3) := by decide +kernel
theorem dX2_choose_97 : decode cX2_choose 97 = .ok (.ifCond .eq 56, 3) := by decide +kernel
theorem dX2_choose_100 : decode cX2_choose 100 = .ok (.aload_n 0, 1) := by decide +kernel
theorem dX2_choose_101 : decode cX2_choose 101 = .ok (.getfield 24, 3) := by decide +kernel
theorem dX2_choose_104 : decode cX2_choose 104 = .ok (.iload_n 2, 1) := by decide +kernel
theorem dX2_choose_105 : decode cX2_choose 105 = .ok (.iload 7, 2) := by decide +kernel
theorem dX2_choose_107 : decode cX2_choose 107 = .ok (.iastore, 1) := by decide +kernel
theorem dX2_choose_108 : decode cX2_choose 108 = .ok (.aload_n 0, 1) := by decide +kernel
theorem dX2_choose_109 : decode cX2_choose 109 = .ok (.aload_n 1, 1) := by decide +kernel
theorem dX2_choose_110 : decode cX2_choose 110 = .ok (.iload_n 2, 1) := by decide +kernel
theorem dX2_choose_111 : decode cX2_choose 111 = .ok (.iconst 1, 1) := by decide +kernel
theorem dX2_choose_112 : decode cX2_choose 112 = .ok (.iadd, 1) := by decide +kernel
theorem dX2_choose_113 : decode cX2_choose 113 = .ok (.iload_n 3, 1) := by decide +kernel
theorem dX2_choose_114 : decode cX2_choose 114 = .ok (.iconst 1, 1) := by decide +kernel
theorem dX2_choose_115 : decode cX2_choose 115 = .ok (.iload 7, 2) := by decide +kernel
theorem dX2_choose_117 : decode cX2_choose 117 = .ok (.ishl, 1) := by decide +kernel
theorem dX2_choose_118 : decode cX2_choose 118 = .ok (.ior, 1) := by decide +kernel
theorem dX2_choose_119 : decode cX2_choose 119 = .ok (.aload_n 1, 1) := by decide +kernel
theorem dX2_choose_120 : decode cX2_choose 120 = .ok (.getfield 119, 3) := by decide +kernel
theorem dX2_choose_123 : decode cX2_choose 123 = .ok (.iload 7, 2) := by decide +kernel
theorem dX2_choose_125 : decode cX2_choose 125 = .ok (.baload, 1) := by decide +kernel
theorem dX2_choose_126 : decode cX2_choose 126 = .ok (.ifCond .eq 10, 3) := by decide +kernel
theorem dX2_choose_129 : decode cX2_choose 129 = .ok (.iload 4, 2) := by decide +kernel
theorem dX2_choose_131 : decode cX2_choose 131 = .ok (.iconst 1, 1) := by decide +kernel
theorem dX2_choose_132 : decode cX2_choose 132 = .ok (.isub, 1) := by decide +kernel
theorem dX2_choose_133 : decode cX2_choose 133 = .ok (.goto 5, 3) := by decide +kernel
theorem dX2_choose_136 : decode cX2_choose 136 = .ok (.iload 4, 2) := by decide +kernel
theorem dX2_choose_138 : decode cX2_choose 138 = .ok (.iload 5, 2) := by decide +kernel
theorem dX2_choose_140 : decode cX2_choose 140 = .ok (.iload 8, 2) := by decide +kernel
theorem dX2_choose_142 : decode cX2_choose 142 = .ok (.invokestatic 103, 3) := by decide +kernel
theorem dX2_choose_145 : decode cX2_choose 145 = .ok (.iload 6, 2) := by decide +kernel
theorem dX2_choose_147 : decode cX2_choose 147 = .ok (.iload 8, 2) := by decide +kernel
theorem dX2_choose_149 : decode cX2_choose 149 = .ok (.iadd, 1) := by decide +kernel
theorem dX2_choose_150 : decode cX2_choose 150 = .ok (.invokevirtual 122, 3) := by decide +kernel
theorem dX2_choose_153 : decode cX2_choose 153 = .ok (.iinc 7 1, 3) := by decide +kernel
theorem dX2_choose_156 : decode cX2_choose 156 = .ok (.goto (-124), 3) := by decide +kernel
theorem dX2_choose_159 : decode cX2_choose 159 = .ok (.return_, 1) := by decide +kernel
theorem dX2_isBetter_0 : decode cX2_isBetter 0 = .ok (.aload_n 0, 1) := by decide +kernel
theorem dX2_isBetter_1 : decode cX2_isBetter 1 = .ok (.getfield 33, 3) := by decide +kernel
theorem dX2_isBetter_4 : decode cX2_isBetter 4 = .ok (.ifCond .eq 27, 3) := by decide +kernel
theorem dX2_isBetter_7 : decode cX2_isBetter 7 = .ok (.iload_n 1, 1) := by decide +kernel
theorem dX2_isBetter_8 : decode cX2_isBetter 8 = .ok (.aload_n 0, 1) := by decide +kernel
theorem dX2_isBetter_9 : decode cX2_isBetter 9 = .ok (.getfield 37, 3) := by decide +kernel
theorem dX2_isBetter_12 : decode cX2_isBetter 12 = .ok (.if_icmp .lt 19, 3) := by decide +kernel
theorem dX2_isBetter_15 : decode cX2_isBetter 15 = .ok (.iload_n 1, 1) := by decide +kernel
theorem dX2_isBetter_16 : decode cX2_isBetter 16 = .ok (.aload_n 0, 1) := by decide +kernel
theorem dX2_isBetter_17 : decode cX2_isBetter 17 = .ok (.getfield 37, 3) := by decide +kernel
theorem dX2_isBetter_20 : decode cX2_isBetter 20 = .ok (.if_icmp .ne 15, 3) := by decide +kernel
theorem dX2_isBetter_23 : decode cX2_isBetter 23 = .ok (.iload_n 2, 1) := by decide +kernel
theorem dX2_isBetter_24 : decode cX2_isBetter 24 = .ok (.aload_n 0, 1) := by decide +kernel
theorem dX2_isBetter_25 : decode cX2_isBetter 25 = .ok (.getfield 41, 3) := by decide +kernel
theorem dX2_isBetter_28 : decode cX2_isBetter 28 = .ok (.if_icmp .ge 7, 3) := by decide +kernel
theorem dX2_isBetter_31 : decode cX2_isBetter 31 = .ok (.iconst 1, 1) := by decide +kernel
theorem dX2_isBetter_32 : decode cX2_isBetter 32 = .ok (.goto 4, 3) := by decide +kernel
theorem dX2_isBetter_35 : decode cX2_isBetter 35 = .ok (.iconst 0, 1) := by decide +kernel
theorem dX2_isBetter_36 : decode cX2_isBetter 36 = .ok (.ireturn, 1) := by decide +kernel
theorem dX2_remember_0 : decode cX2_remember 0 = .ok (.aload_n 0, 1) := by decide +kernel
theorem dX2_remember_1 : decode cX2_remember 1 = .ok (.iconst 1, 1) := by decide +kernel
theorem dX2_remember_2 : decode cX2_remember 2 = .ok (.putfield 33, 3) := by decide +kernel
theorem dX2_remember_5 : decode cX2_remember 5 = .ok (.aload_n 0, 1) := by decide +kernel
theorem dX2_remember_6 : decode cX2_remember 6 = .ok (.iload_n 1, 1) := by decide +kernel
theorem dX2_remember_7 : decode cX2_remember 7 = .ok (.putfield 37, 3) := by decide +kernel
theorem dX2_remember_10 : decode cX2_remember 10 = .ok (.aload_n 0, 1) := by decide +kernel
theorem dX2_remember_11 : decode cX2_remember 11 = .ok (.iload_n 2, 1) := by decide +kernel
theorem dX2_remember_12 : decode cX2_remember 12 = .ok (.putfield 41, 3) := by decide +kernel
theorem dX2_remember_15 : decode cX2_remember 15 = .ok (.aload_n 0, 1) := by decide +kernel
theorem dX2_remember_16 : decode cX2_remember 16 = .ok (.getfield 24, 3) := by decide +kernel
theorem dX2_remember_19 : decode cX2_remember 19 = .ok (.iconst 0, 1) := by decide +kernel
theorem dX2_remember_20 : decode cX2_remember 20 = .ok (.aload_n 0, 1) := by decide +kernel
theorem dX2_remember_21 : decode cX2_remember 21 = .ok (.getfield 9, 3) := by decide +kernel
theorem dX2_remember_24 : decode cX2_remember 24 = .ok (.iconst 0, 1) := by decide +kernel
theorem dX2_remember_25 : decode cX2_remember 25 = .ok (.bipush 6, 2) := by decide +kernel
theorem dX2_remember_27 : decode cX2_remember 27 = .ok (.invokestatic 126, 3) := by decide +kernel
theorem dX2_remember_30 : decode cX2_remember 30 = .ok (.return_, 1) := by decide +kernel
theorem dX2_isClear_0 : decode cX2_isClear 0 = .ok (.iconst 0, 1) := by decide +kernel
theorem dX2_isClear_1 : decode cX2_isClear 1 = .ok (.istore 4, 2) := by decide +kernel
theorem dX2_isClear_3 : decode cX2_isClear 3 = .ok (.iload 4, 2) := by decide +kernel
theorem dX2_isClear_5 : decode cX2_isClear 5 = .ok (.iload_n 2, 1) := by decide +kernel
theorem dX2_isClear_6 : decode cX2_isClear 6 = .ok (.if_icmp .ge 154, 3) := by decide +kernel
theorem dX2_isClear_9 : decode cX2_isClear 9 = .ok (.aload_n 0, 1) := by decide +kernel
theorem dX2_isClear_10 : decode cX2_isClear 10 = .ok (.getfield 24, 3) := by decide +kernel
theorem dX2_isClear_13 : decode cX2_isClear 13 = .ok (.iload 4, 2) := by decide +kernel
theorem dX2_isClear_15 : decode cX2_isClear 15 = .ok (.iaload, 1) := by decide +kernel
theorem dX2_isClear_16 : decode cX2_isClear 16 = .ok (.istore 5, 2) := by decide +kernel
theorem dX2_isClear_18 : decode cX2_isClear 18 = .ok (.iload 4, 2) := by decide +kernel
theorem dX2_isClear_20 : decode cX2_isClear 20 = .ok (.bipush 7, 2) := by decide +kernel
theorem dX2_isClear_22 : decode cX2_isClear 22 = .ok (.imul, 1) := by decide +kernel
theorem dX2_isClear_23 : decode cX2_isClear 23 = .ok (.iload 5, 2) := by decide +kernel
theorem dX2_isClear_25 : decode cX2_isClear 25 = .ok (.iadd, 1) := by decide +kernel
theorem dX2_isClear_26 : decode cX2_isClear 26 = .ok (.bipush 6, 2) := by decide +kernel
theorem dX2_isClear_28 : decode cX2_isClear 28 = .ok (.imul, 1) := by decide +kernel
theorem dX2_isClear_29 : decode cX2_isClear 29 = .ok (.iload_n 2, 1) := by decide +kernel
theorem dX2_isClear_30 : decode cX2_isClear 30 = .ok (.iadd, 1) := by decide +kernel
theorem dX2_isClear_31 : decode cX2_isClear 31 = .ok (.bipush 7, 2) := by decide +kernel
theorem dX2_isClear_33 : decode cX2_isClear 33 = .ok (.imul, 1) := by decide +kernel
theorem dX2_isClear_34 : decode cX2_isClear 34 = .ok (.iload_n 3, 1) := by decide +kernel
theorem dX2_isClear_35 : decode cX2_isClear 35 = .ok (.iadd, 1) := by decide +kernel
theorem dX2_isClear_36 : decode cX2_isClear 36 = .ok (.istore 6, 2) := by decide +kernel
theorem dX2_isClear_38 : decode cX2_isClear 38 = .ok (.aload_n 0, 1) := by decide +kernel
theorem dX2_isClear_39 : decode cX2_isClear 39 = .ok (.getfield 30, 3) := by decide +kernel
theorem dX2_isClear_42 : decode cX2_isClear 42 = .ok (.iload 6, 2) := by decide +kernel
theorem dX2_isClear_44 : decode cX2_isClear 44 = .ok (.iaload, 1) := by decide +kernel
theorem dX2_isClear_45 : decode cX2_isClear 45 = .ok (.ifCond .ne 96, 3) := by decide +kernel
theorem dX2_isClear_48 : decode cX2_isClear 48 = .ok (.aload_n 1, 1) := by decide +kernel
theorem dX2_isClear_49 : decode cX2_isClear 49 = .ok (.getfield 82, 3) := by decide +kernel
theorem dX2_isClear_52 : decode cX2_isClear 52 = .ok (.aload_n 0, 1) := by decide +kernel
theorem dX2_isClear_53 : decode cX2_isClear 53 = .ok (.getfield 18, 3) := by decide +kernel
theorem dX2_isClear_56 : decode cX2_isClear 56 = .ok (.iload_n 2, 1) := by decide +kernel
theorem dX2_isClear_57 : decode cX2_isClear 57 = .ok (.iaload, 1) := by decide +kernel
theorem dX2_isClear_58 : decode cX2_isClear 58 = .ok (.aload_n 0, 1) := by decide +kernel
theorem dX2_isClear_59 : decode cX2_isClear 59 = .ok (.getfield 18, 3) := by decide +kernel
theorem dX2_isClear_62 : decode cX2_isClear 62 = .ok (.iload 4, 2) := by decide +kernel
theorem dX2_isClear_64 : decode cX2_isClear 64 = .ok (.iaload, 1) := by decide +kernel
theorem dX2_isClear_65 : decode cX2_isClear 65 = .ok (.isub, 1) := by decide +kernel
theorem dX2_isClear_66 : decode cX2_isClear 66 = .ok (.aload_n 0, 1) := by decide +kernel
theorem dX2_isClear_67 : decode cX2_isClear 67 = .ok (.getfield 21, 3) := by decide +kernel
theorem dX2_isClear_70 : decode cX2_isClear 70 = .ok (.iload_n 2, 1) := by decide +kernel
theorem dX2_isClear_71 : decode cX2_isClear 71 = .ok (.iaload, 1) := by decide +kernel
theorem dX2_isClear_72 : decode cX2_isClear 72 = .ok (.aload_n 0, 1) := by decide +kernel
theorem dX2_isClear_73 : decode cX2_isClear 73 = .ok (.getfield 21, 3) := by decide +kernel
theorem dX2_isClear_76 : decode cX2_isClear 76 = .ok (.iload 4, 2) := by decide +kernel
theorem dX2_isClear_78 : decode cX2_isClear 78 = .ok (.iaload, 1) := by decide +kernel
theorem dX2_isClear_79 : decode cX2_isClear 79 = .ok (.isub, 1) := by decide +kernel
theorem dX2_isClear_80 : decode cX2_isClear 80 = .ok (.aload_n 1, 1) := by decide +kernel
theorem dX2_isClear_81 : decode cX2_isClear 81 = .ok (.getfield 92, 3) := by decide +kernel
theorem dX2_isClear_84 : decode cX2_isClear 84 = .ok (.iload_n 3, 1) := by decide +kernel
theorem dX2_isClear_85 : decode cX2_isClear 85 = .ok (.iaload, 1) := by decide +kernel
theorem dX2_isClear_86 : decode cX2_isClear 86 = .ok (.aload_n 1, 1) := by decide +kernel
theorem dX2_isClear_87 : decode cX2_isClear 87 = .ok (.getfield 92, 3) := by decide +kernel
theorem dX2_isClear_90 : decode cX2_isClear 90 = .ok (.iload 5, 2) := by decide +kernel
theorem dX2_isClear_92 : decode cX2_isClear 92 = .ok (.iaload, 1) := by decide +kernel
theorem dX2_isClear_93 : decode cX2_isClear 93 = .ok (.isub, 1) := by decide +kernel
theorem dX2_isClear_94 : decode cX2_isClear 94 = .ok (.aload_n 1, 1) := by decide +kernel
theorem dX2_isClear_95 : decode cX2_isClear 95 = .ok (.getfield 100, 3) := by decide +kernel
theorem dX2_isClear_98 : decode cX2_isClear 98 = .ok (.iload_n 3, 1) := by decide +kernel
theorem dX2_isClear_99 : decode cX2_isClear 99 = .ok (.iaload, 1) := by decide +kernel
theorem dX2_isClear_100 : decode cX2_isClear 100 = .ok (.aload_n 1, 1) := by decide +kernel
theorem dX2_isClear_101 : decode cX2_isClear 101 = .ok (.getfield 100, 3) := by decide +kernel
theorem dX2_isClear_104 : decode cX2_isClear 104 = .ok (.iload 5, 2) := by decide +kernel
theorem dX2_isClear_106 : decode cX2_isClear 106 = .ok (.iaload, 1) := by decide +kernel
theorem dX2_isClear_107 : decode cX2_isClear 107 = .ok (.isub, 1) := by decide +kernel
theorem dX2_isClear_108 : decode cX2_isClear 108 = .ok (.invokestatic 132, 3) := by decide +kernel
theorem dX2_isClear_111 : decode cX2_isClear 111 = .ok (.istore 7, 2) := by decide +kernel
theorem dX2_isClear_113 : decode cX2_isClear 113 = .ok (.aload_n 0, 1) := by decide +kernel
theorem dX2_isClear_114 : decode cX2_isClear 114 = .ok (.getfield 30, 3) := by decide +kernel
theorem dX2_isClear_117 : decode cX2_isClear 117 = .ok (.iload 6, 2) := by decide +kernel
theorem dX2_isClear_119 : decode cX2_isClear 119 = .ok (.iload 7, 2) := by decide +kernel
theorem dX2_isClear_121 : decode cX2_isClear 121 = .ok (.aload_n 0, 1) := by decide +kernel
theorem dX2_isClear_122 : decode cX2_isClear 122 = .ok (.getfield 69, 3) := by decide +kernel
theorem dX2_isClear_125 : decode cX2_isClear 125 = .ok (.iconst 2, 1) := by decide +kernel
theorem dX2_isClear_126 : decode cX2_isClear 126 = .ok (.imul, 1) := by decide +kernel
theorem dX2_isClear_127 : decode cX2_isClear 127 = .ok (.aload_n 1, 1) := by decide +kernel
theorem dX2_isClear_128 : decode cX2_isClear 128 = .ok (.getfield 82, 3) := by decide +kernel
theorem dX2_isClear_131 : decode cX2_isClear 131 = .ok (.imul, 1) := by decide +kernel
theorem dX2_isClear_132 : decode cX2_isClear 132 = .ok (.if_icmp .ge 7, 3) := by decide +kernel
theorem dX2_isClear_135 : decode cX2_isClear 135 = .ok (.iconst 2, 1) := by decide +kernel
theorem dX2_isClear_136 : decode cX2_isClear 136 = .ok (.goto 4, 3) := by decide +kernel
theorem dX2_isClear_139 : decode cX2_isClear 139 = .ok (.iconst 1, 1) := by decide +kernel
theorem dX2_isClear_140 : decode cX2_isClear 140 = .ok (.iastore, 1) := by decide +kernel
theorem dX2_isClear_141 : decode cX2_isClear 141 = .ok (.aload_n 0, 1) := by decide +kernel
theorem dX2_isClear_142 : decode cX2_isClear 142 = .ok (.getfield 30, 3) := by decide +kernel
theorem dX2_isClear_145 : decode cX2_isClear 145 = .ok (.iload 6, 2) := by decide +kernel
theorem dX2_isClear_147 : decode cX2_isClear 147 = .ok (.iaload, 1) := by decide +kernel
theorem dX2_isClear_148 : decode cX2_isClear 148 = .ok (.iconst 2, 1) := by decide +kernel
theorem dX2_isClear_149 : decode cX2_isClear 149 = .ok (.if_icmp .ne 5, 3) := by decide +kernel
theorem dX2_isClear_152 : decode cX2_isClear 152 = .ok (.iconst 0, 1) := by decide +kernel
theorem dX2_isClear_153 : decode cX2_isClear 153 = .ok (.ireturn, 1) := by decide +kernel
theorem dX2_isClear_154 : decode cX2_isClear 154 = .ok (.iinc 4 1, 3) := by decide +kernel
theorem dX2_isClear_157 : decode cX2_isClear 157 = .ok (.goto (-154), 3) := by decide +kernel
theorem dX2_isClear_160 : decode cX2_isClear 160 = .ok (.iconst 1, 1) := by decide +kernel
theorem dX2_isClear_161 : decode cX2_isClear 161 = .ok (.ireturn, 1) := by decide +kernel
theorem dX3_init_0 : decode cX3_init 0 = .ok (.aload_n 0, 1) := by decide +kernel
theorem dX3_init_1 : decode cX3_init 1 = .ok (.invokespecial 3, 3) := by decide +kernel
theorem dX3_init_4 : decode cX3_init 4 = .ok (.aload_n 0, 1) := by decide +kernel
theorem dX3_init_5 : decode cX3_init 5 = .ok (.bipush 7, 2) := by decide +kernel
theorem dX3_init_7 : decode cX3_init 7 = .ok (.newarray .int, 2) := by decide +kernel
theorem dX3_init_9 : decode cX3_init 9 = .ok (.putfield 9, 3) := by decide +kernel
theorem dX3_init_12 : decode cX3_init 12 = .ok (.aload_n 0, 1) := by decide +kernel
theorem dX3_init_13 : decode cX3_init 13 = .ok (.bipush 7, 2) := by decide +kernel
theorem dX3_init_15 : decode cX3_init 15 = .ok (.newarray .int, 2) := by decide +kernel
theorem dX3_init_17 : decode cX3_init 17 = .ok (.putfield 15, 3) := by decide +kernel
theorem dX3_init_20 : decode cX3_init 20 = .ok (.return_, 1) := by decide +kernel
theorem dX3_becomeLine_0 : decode cX3_becomeLine 0 = .ok (.aload_n 0, 1) := by decide +kernel
theorem dX3_becomeLine_1 : decode cX3_becomeLine 1 = .ok (.iconst 0, 1) := by decide +kernel
theorem dX3_becomeLine_2 : decode cX3_becomeLine 2 = .ok (.putfield 18, 3) := by decide +kernel
theorem dX3_becomeLine_5 : decode cX3_becomeLine 5 = .ok (.iconst 0, 1) := by decide +kernel
theorem dX3_becomeLine_6 : decode cX3_becomeLine 6 = .ok (.istore 6, 2) := by decide +kernel
theorem dX3_becomeLine_8 : decode cX3_becomeLine 8 = .ok (.iload 6, 2) := by decide +kernel
theorem dX3_becomeLine_10 : decode cX3_becomeLine 10 = .ok (.iload_n 1, 1) := by decide +kernel
theorem dX3_becomeLine_11 : decode cX3_becomeLine 11 = .ok (.if_icmp .ge 27, 3) := by decide +kernel
theorem dX3_becomeLine_14 : decode cX3_becomeLine 14 = .ok (.aload_n 0, 1) := by decide +kernel
theorem dX3_becomeLine_15 : decode cX3_becomeLine 15 = .ok (.iload_n 2, 1) := by decide +kernel
theorem dX3_becomeLine_16 : decode cX3_becomeLine 16 = .ok (.iload 6, 2) := by decide +kernel
theorem dX3_becomeLine_18 : decode cX3_becomeLine 18 = .ok (.iload 4, 2) := by decide +kernel
theorem dX3_becomeLine_20 : decode cX3_becomeLine 20 = .ok (.imul, 1) := by decide +kernel
theorem dX3_becomeLine_21 : decode cX3_becomeLine 21 = .ok (.iadd, 1) := by decide +kernel
theorem dX3_becomeLine_22 : decode cX3_becomeLine 22 = .ok (.iload_n 3, 1) := by decide +kernel
theorem dX3_becomeLine_23 : decode cX3_becomeLine 23 = .ok (.iload 6, 2) := by decide +kernel
theorem dX3_becomeLine_25 : decode cX3_becomeLine 25 = .ok (.iload 5, 2) := by decide +kernel
theorem dX3_becomeLine_27 : decode cX3_becomeLine 27 = .ok (.imul, 1) := by decide +kernel
theorem dX3_becomeLine_28 : decode cX3_becomeLine 28 = .ok (.iadd, 1) := by decide +kernel
theorem dX3_becomeLine_29 : decode cX3_becomeLine 29 = .ok (.invokevirtual 22, 3) := by decide +kernel
theorem dX3_becomeLine_32 : decode cX3_becomeLine 32 = .ok (.iinc 6 1, 3) := by decide +kernel
theorem dX3_becomeLine_35 : decode cX3_becomeLine 35 = .ok (.goto (-27), 3) := by decide +kernel
theorem dX3_becomeLine_38 : decode cX3_becomeLine 38 = .ok (.return_, 1) := by decide +kernel
theorem dX3_becomeBlock_0 : decode cX3_becomeBlock 0 = .ok (.aload_n 0, 1) := by decide +kernel
theorem dX3_becomeBlock_1 : decode cX3_becomeBlock 1 = .ok (.iconst 0, 1) := by decide +kernel
theorem dX3_becomeBlock_2 : decode cX3_becomeBlock 2 = .ok (.putfield 18, 3) := by decide +kernel
theorem dX3_becomeBlock_5 : decode cX3_becomeBlock 5 = .ok (.iconst 0, 1) := by decide +kernel
theorem dX3_becomeBlock_6 : decode cX3_becomeBlock 6 = .ok (.istore 6, 2) := by decide +kernel
theorem dX3_becomeBlock_8 : decode cX3_becomeBlock 8 = .ok (.iload 6, 2) := by decide +kernel
theorem dX3_becomeBlock_10 : decode cX3_becomeBlock 10 = .ok (.iload 4, 2) := by decide +kernel
theorem dX3_becomeBlock_12 : decode cX3_becomeBlock 12 = .ok (.if_icmp .ge 42, 3) := by decide +kernel
theorem dX3_becomeBlock_15 : decode cX3_becomeBlock 15 = .ok (.iconst 0, 1) := by decide +kernel
theorem dX3_becomeBlock_16 : decode cX3_becomeBlock 16 = .ok (.istore 7, 2) := by decide +kernel
theorem dX3_becomeBlock_18 : decode cX3_becomeBlock 18 = .ok (.iload 7, 2) := by decide +kernel
theorem dX3_becomeBlock_20 : decode cX3_becomeBlock 20 = .ok (.iload_n 3, 1) := by decide +kernel
theorem dX3_becomeBlock_21 : decode cX3_becomeBlock 21 = .ok (.if_icmp .ge 27, 3) := by decide +kernel
theorem dX3_becomeBlock_24 : decode cX3_becomeBlock 24 = .ok (.aload_n 0, 1) := by decide +kernel
theorem dX3_becomeBlock_25 : decode cX3_becomeBlock 25 = .ok (.iload_n 1, 1) := by decide +kernel
theorem dX3_becomeBlock_26 : decode cX3_becomeBlock 26 = .ok (.iload 7, 2) := by decide +kernel
theorem dX3_becomeBlock_28 : decode cX3_becomeBlock 28 = .ok (.iload 5, 2) := by decide +kernel
theorem dX3_becomeBlock_30 : decode cX3_becomeBlock 30 = .ok (.imul, 1) := by decide +kernel
theorem dX3_becomeBlock_31 : decode cX3_becomeBlock 31 = .ok (.iadd, 1) := by decide +kernel
theorem dX3_becomeBlock_32 : decode cX3_becomeBlock 32 = .ok (.iload_n 2, 1) := by decide +kernel
theorem dX3_becomeBlock_33 : decode cX3_becomeBlock 33 = .ok (.iload 6, 2) := by decide +kernel
theorem dX3_becomeBlock_35 : decode cX3_becomeBlock 35 = .ok (.iload 5, 2) := by decide +kernel
theorem dX3_becomeBlock_37 : decode cX3_becomeBlock 37 = .ok (.imul, 1) := by decide +kernel
theorem dX3_becomeBlock_38 : decode cX3_becomeBlock 38 = .ok (.iadd, 1) := by decide +kernel
theorem dX3_becomeBlock_39 : decode cX3_becomeBlock 39 = .ok (.invokevirtual 22, 3) := by decide +kernel
theorem dX3_becomeBlock_42 : decode cX3_becomeBlock 42 = .ok (.iinc 7 1, 3) := by decide +kernel
theorem dX3_becomeBlock_45 : decode cX3_becomeBlock 45 = .ok (.goto (-27), 3) := by decide +kernel
theorem dX3_becomeBlock_48 : decode cX3_becomeBlock 48 = .ok (.iinc 6 1, 3) := by decide +kernel
theorem dX3_becomeBlock_51 : decode cX3_becomeBlock 51 = .ok (.goto (-43), 3) := by decide +kernel
theorem dX3_becomeBlock_54 : decode cX3_becomeBlock 54 = .ok (.return_, 1) := by decide +kernel
theorem dX3_becomeCorner_0 : decode cX3_becomeCorner 0 = .ok (.aload_n 0, 1) := by decide +kernel
theorem dX3_becomeCorner_1 : decode cX3_becomeCorner 1 = .ok (.iconst 0, 1) := by decide +kernel
theorem dX3_becomeCorner_2 : decode cX3_becomeCorner 2 = .ok (.putfield 18, 3) := by decide +kernel
theorem dX3_becomeCorner_5 : decode cX3_becomeCorner 5 = .ok (.iconst 0, 1) := by decide +kernel
theorem dX3_becomeCorner_6 : decode cX3_becomeCorner 6 = .ok (.istore 5, 2) := by decide +kernel
theorem dX3_becomeCorner_8 : decode cX3_becomeCorner 8 = .ok (.iload 5, 2) := by decide +kernel
theorem dX3_becomeCorner_10 : decode cX3_becomeCorner 10 = .ok (.iload_n 3, 1) := by decide +kernel
theorem dX3_becomeCorner_11 : decode cX3_becomeCorner 11 = .ok (.if_icmp .ge 21, 3) := by decide +kernel
theorem dX3_becomeCorner_14 : decode cX3_becomeCorner 14 = .ok (.aload_n 0, 1) := by decide +kernel
theorem dX3_becomeCorner_15 : decode cX3_becomeCorner 15 = .ok (.iload_n 1, 1) := by decide +kernel
theorem dX3_becomeCorner_16 : decode cX3_becomeCorner 16 = .ok (.iload 5, 2) := by decide +kernel
theorem dX3_becomeCorner_18 : decode cX3_becomeCorner 18 = .ok (.iload 4, 2) := by decide +kernel
theorem dX3_becomeCorner_20 : decode cX3_becomeCorner 20 = .ok (.imul, 1) := by decide +kernel
theorem dX3_becomeCorner_21 : decode cX3_becomeCorner 21 = .ok (.iadd, 1) := by decide +kernel
theorem dX3_becomeCorner_22 : decode cX3_becomeCorner 22 = .ok (.iload_n 2, 1) := by decide +kernel
theorem dX3_becomeCorner_23 : decode cX3_becomeCorner 23 = .ok (.invokevirtual 22, 3) := by decide +kernel
theorem dX3_becomeCorner_26 : decode cX3_becomeCorner 26 = .ok (.iinc 5 1, 3) := by decide +kernel
theorem dX3_becomeCorner_29 : decode cX3_becomeCorner 29 = .ok (.goto (-21), 3) := by decide +kernel
theorem dX3_becomeCorner_32 : decode cX3_becomeCorner 32 = .ok (.iconst 1, 1) := by decide +kernel
theorem dX3_becomeCorner_33 : decode cX3_becomeCorner 33 = .ok (.istore 5, 2) := by decide +kernel
theorem dX3_becomeCorner_35 : decode cX3_becomeCorner 35 = .ok (.iload 5, 2) := by decide +kernel
theorem dX3_becomeCorner_37 : decode cX3_becomeCorner 37 = .ok (.iload_n 3, 1) := by decide +kernel
theorem dX3_becomeCorner_38 : decode cX3_becomeCorner 38 = .ok (.if_icmp .ge 28, 3) := by decide +kernel
theorem dX3_becomeCorner_41 : decode cX3_becomeCorner 41 = .ok (.aload_n 0, 1) := by decide +kernel
theorem dX3_becomeCorner_42 : decode cX3_becomeCorner 42 = .ok (.iload_n 1, 1) := by decide +kernel
theorem dX3_becomeCorner_43 : decode cX3_becomeCorner 43 = .ok (.iload_n 3, 1) := by decide +kernel
theorem dX3_becomeCorner_44 : decode cX3_becomeCorner 44 = .ok (.iconst 1, 1) := by decide +kernel
theorem dX3_becomeCorner_45 : decode cX3_becomeCorner 45 = .ok (.isub, 1) := by decide +kernel
theorem dX3_becomeCorner_46 : decode cX3_becomeCorner 46 = .ok (.iload 4, 2) := by decide +kernel
theorem dX3_becomeCorner_48 : decode cX3_becomeCorner 48 = .ok (.imul, 1) := by decide +kernel
theorem dX3_becomeCorner_49 : decode cX3_becomeCorner 49 = .ok (.iadd, 1) := by decide +kernel
theorem dX3_becomeCorner_50 : decode cX3_becomeCorner 50 = .ok (.iload_n 2, 1) := by decide +kernel
theorem dX3_becomeCorner_51 : decode cX3_becomeCorner 51 = .ok (.iload 5, 2) := by decide +kernel
theorem dX3_becomeCorner_53 : decode cX3_becomeCorner 53 = .ok (.iload 4, 2) := by decide +kernel
theorem dX3_becomeCorner_55 : decode cX3_becomeCorner 55 = .ok (.imul, 1) := by decide +kernel
theorem dX3_becomeCorner_56 : decode cX3_becomeCorner 56 = .ok (.iadd, 1) := by decide +kernel
theorem dX3_becomeCorner_57 : decode cX3_becomeCorner 57 = .ok (.invokevirtual 22, 3) := by decide +kernel
theorem dX3_becomeCorner_60 : decode cX3_becomeCorner 60 = .ok (.iinc 5 1, 3) := by decide +kernel
theorem dX3_becomeCorner_63 : decode cX3_becomeCorner 63 = .ok (.goto (-28), 3) := by decide +kernel
theorem dX3_becomeCorner_66 : decode cX3_becomeCorner 66 = .ok (.return_, 1) := by decide +kernel
theorem dX3_put_0 : decode cX3_put 0 = .ok (.aload_n 0, 1) := by decide +kernel
theorem dX3_put_1 : decode cX3_put 1 = .ok (.getfield 18, 3) := by decide +kernel
theorem dX3_put_4 : decode cX3_put 4 = .ok (.bipush 7, 2) := by decide +kernel
theorem dX3_put_6 : decode cX3_put 6 = .ok (.if_icmp .ge 33, 3) := by decide +kernel
theorem dX3_put_9 : decode cX3_put 9 = .ok (.aload_n 0, 1) := by decide +kernel
theorem dX3_put_10 : decode cX3_put 10 = .ok (.getfield 9, 3) := by decide +kernel
theorem dX3_put_13 : decode cX3_put 13 = .ok (.aload_n 0, 1) := by decide +kernel
theorem dX3_put_14 : decode cX3_put 14 = .ok (.getfield 18, 3) := by decide +kernel
theorem dX3_put_17 : decode cX3_put 17 = .ok (.iload_n 1, 1) := by decide +kernel
theorem dX3_put_18 : decode cX3_put 18 = .ok (.iastore, 1) := by decide +kernel
theorem dX3_put_19 : decode cX3_put 19 = .ok (.aload_n 0, 1) := by decide +kernel
theorem dX3_put_20 : decode cX3_put 20 = .ok (.getfield 15, 3) := by decide +kernel
theorem dX3_put_23 : decode cX3_put 23 = .ok (.aload_n 0, 1) := by decide +kernel
theorem dX3_put_24 : decode cX3_put 24 = .ok (.getfield 18, 3) := by decide +kernel
theorem dX3_put_27 : decode cX3_put 27 = .ok (.iload_n 2, 1) := by decide +kernel
theorem dX3_put_28 : decode cX3_put 28 = .ok (.iastore, 1) := by decide +kernel
theorem dX3_put_29 : decode cX3_put 29 = .ok (.aload_n 0, 1) := by decide +kernel
theorem dX3_put_30 : decode cX3_put 30 = .ok (.dup, 1) := by decide +kernel
theorem dX3_put_31 : decode cX3_put 31 = .ok (.getfield 18, 3) := by decide +kernel
theorem dX3_put_34 : decode cX3_put 34 = .ok (.iconst 1, 1) := by decide +kernel
theorem dX3_put_35 : decode cX3_put 35 = .ok (.iadd, 1) := by decide +kernel
theorem dX3_put_36 : decode cX3_put 36 = .ok (.putfield 18, 3) := by decide +kernel
theorem dX3_put_39 : decode cX3_put 39 = .ok (.return_, 1) := by decide +kernel
theorem dX3_hasTwins_0 : decode cX3_hasTwins 0 = .ok (.iconst 0, 1) := by decide +kernel
theorem dX3_hasTwins_1 : decode cX3_hasTwins 1 = .ok (.istore_n 1, 1) := by decide +kernel
theorem dX3_hasTwins_2 : decode cX3_hasTwins 2 = .ok (.iload_n 1, 1) := by decide +kernel
theorem dX3_hasTwins_3 : decode cX3_hasTwins 3 = .ok (.aload_n 0, 1) := by decide +kernel
theorem dX3_hasTwins_4 : decode cX3_hasTwins 4 = .ok (.getfield 18, 3) := by decide +kernel
theorem dX3_hasTwins_7 : decode cX3_hasTwins 7 = .ok (.if_icmp .ge 54, 3) := by decide +kernel
theorem dX3_hasTwins_10 : decode cX3_hasTwins 10 = .ok (.iconst 0, 1) := by decide +kernel
theorem dX3_hasTwins_11 : decode cX3_hasTwins 11 = .ok (.istore_n 2, 1) := by decide +kernel
theorem dX3_hasTwins_12 : decode cX3_hasTwins 12 = .ok (.iload_n 2, 1) := by decide +kernel
theorem dX3_hasTwins_13 : decode cX3_hasTwins 13 = .ok (.iload_n 1, 1) := by decide +kernel
theorem dX3_hasTwins_14 : decode cX3_hasTwins 14 = .ok (.if_icmp .ge 41, 3) := by decide +kernel
theorem dX3_hasTwins_17 : decode cX3_hasTwins 17 = .ok (.aload_n 0, 1) := by decide +kernel
theorem dX3_hasTwins_18 : decode cX3_hasTwins 18 = .ok (.getfield 9, 3) := by decide +kernel
theorem dX3_hasTwins_21 : decode cX3_hasTwins 21 = .ok (.iload_n 1, 1) := by decide +kernel
theorem dX3_hasTwins_22 : decode cX3_hasTwins 22 = .ok (.iaload, 1) := by decide +kernel
theorem dX3_hasTwins_23 : decode cX3_hasTwins 23 = .ok (.aload_n 0, 1) := by decide +kernel
theorem dX3_hasTwins_24 : decode cX3_hasTwins 24 = .ok (.getfield 9, 3) := by decide +kernel
theorem dX3_hasTwins_27 : decode cX3_hasTwins 27 = .ok (.iload_n 2, 1) := by decide +kernel
theorem dX3_hasTwins_28 : decode cX3_hasTwins 28 = .ok (.iaload, 1) := by decide +kernel
theorem dX3_hasTwins_29 : decode cX3_hasTwins 29 = .ok (.if_icmp .ne 20, 3) := by decide +kernel
theorem dX3_hasTwins_32 : decode cX3_hasTwins 32 = .ok (.aload_n 0, 1) := by decide +kernel
theorem dX3_hasTwins_33 : decode cX3_hasTwins 33 = .ok (.getfield 15, 3) := by decide +kernel
theorem dX3_hasTwins_36 : decode cX3_hasTwins 36 = .ok (.iload_n 1, 1) := by decide +kernel
theorem dX3_hasTwins_37 : decode cX3_hasTwins 37 = .ok (.iaload, 1) := by decide +kernel
theorem dX3_hasTwins_38 : decode cX3_hasTwins 38 = .ok (.aload_n 0, 1) := by decide +kernel
theorem dX3_hasTwins_39 : decode cX3_hasTwins 39 = .ok (.getfield 15, 3) := by decide +kernel
theorem dX3_hasTwins_42 : decode cX3_hasTwins 42 = .ok (.iload_n 2, 1) := by decide +kernel
theorem dX3_hasTwins_43 : decode cX3_hasTwins 43 = .ok (.iaload, 1) := by decide +kernel
theorem dX3_hasTwins_44 : decode cX3_hasTwins 44 = .ok (.if_icmp .ne 5, 3) := by decide +kernel
theorem dX3_hasTwins_47 : decode cX3_hasTwins 47 = .ok (.iconst 1, 1) := by decide +kernel
theorem dX3_hasTwins_48 : decode cX3_hasTwins 48 = .ok (.ireturn, 1) := by decide +kernel
theorem dX3_hasTwins_49 : decode cX3_hasTwins 49 = .ok (.iinc 2 1, 3) := by decide +kernel
theorem dX3_hasTwins_52 : decode cX3_hasTwins 52 = .ok (.goto (-40), 3) := by decide +kernel
theorem dX3_hasTwins_55 : decode cX3_hasTwins 55 = .ok (.iinc 1 1, 3) := by decide +kernel
theorem dX3_hasTwins_58 : decode cX3_hasTwins 58 = .ok (.goto (-56), 3) := by decide +kernel
theorem dX3_hasTwins_61 : decode cX3_hasTwins 61 = .ok (.iconst 0, 1) := by decide +kernel
theorem dX3_hasTwins_62 : decode cX3_hasTwins 62 = .ok (.ireturn, 1) := by decide +kernel
theorem dX4_init_0 : decode cX4_init 0 = .ok (.aload_n 0, 1) := by decide +kernel
theorem dX4_init_1 : decode cX4_init 1 = .ok (.invokespecial 3, 3) := by decide +kernel
theorem dX4_init_4 : decode cX4_init 4 = .ok (.aload_n 0, 1) := by decide +kernel
theorem dX4_init_5 : decode cX4_init 5 = .ok (.bipush 6, 2) := by decide +kernel
theorem dX4_init_7 : decode cX4_init 7 = .ok (.newarray .int, 2) := by decide +kernel
theorem dX4_init_9 : decode cX4_init 9 = .ok (.putfield 9, 3) := by decide +kernel
theorem dX4_init_12 : decode cX4_init 12 = .ok (.aload_n 0, 1) := by decide +kernel
theorem dX4_init_13 : decode cX4_init 13 = .ok (.bipush 6, 2) := by decide +kernel
theorem dX4_init_15 : decode cX4_init 15 = .ok (.newarray .boolean, 2) := by decide +kernel
theorem dX4_init_17 : decode cX4_init 17 = .ok (.putfield 15, 3) := by decide +kernel
theorem dX4_init_20 : decode cX4_init 20 = .ok (.aload_n 0, 1) := by decide +kernel
theorem dX4_init_21 : decode cX4_init 21 = .ok (.iconst 5, 1) := by decide +kernel
theorem dX4_init_22 : decode cX4_init 22 = .ok (.anewarray 19, 3) := by decide +kernel
theorem dX4_init_25 : decode cX4_init 25 = .ok (.putfield 21, 3) := by decide +kernel
theorem dX4_init_28 : decode cX4_init 28 = .ok (.aload_n 0, 1) := by decide +kernel
theorem dX4_init_29 : decode cX4_init 29 = .ok (.iconst 1, 1) := by decide +kernel
theorem dX4_init_30 : decode cX4_init 30 = .ok (.putfield 25, 3) := by decide +kernel
theorem dX4_init_33 : decode cX4_init 33 = .ok (.aload_n 0, 1) := by decide +kernel
theorem dX4_init_34 : decode cX4_init 34 = .ok (.bipush 10, 2) := by decide +kernel
theorem dX4_init_36 : decode cX4_init 36 = .ok (.putfield 29, 3) := by decide +kernel
theorem dX4_init_39 : decode cX4_init 39 = .ok (.aload_n 0, 1) := by decide +kernel
theorem dX4_init_40 : decode cX4_init 40 = .ok (.bipush 20, 2) := by decide +kernel
theorem dX4_init_42 : decode cX4_init 42 = .ok (.putfield 32, 3) := by decide +kernel
theorem dX4_init_45 : decode cX4_init 45 = .ok (.iconst 0, 1) := by decide +kernel
theorem dX4_init_46 : decode cX4_init 46 = .ok (.istore_n 1, 1) := by decide +kernel
theorem dX4_init_47 : decode cX4_init 47 = .ok (.iload_n 1, 1) := by decide +kernel
theorem dX4_init_48 : decode cX4_init 48 = .ok (.iconst 5, 1) := by decide +kernel
theorem dX4_init_49 : decode cX4_init 49 = .ok (.if_icmp .ge 22, 3) := by decide +kernel
theorem dX4_init_52 : decode cX4_init 52 = .ok (.aload_n 0, 1) := by decide +kernel
theorem dX4_init_53 : decode cX4_init 53 = .ok (.getfield 21, 3) := by decide +kernel
theorem dX4_init_56 : decode cX4_init 56 = .ok (.iload_n 1, 1) := by decide +kernel
theorem dX4_init_57 : decode cX4_init 57 = .ok (.new 19, 3) := by decide +kernel
theorem dX4_init_60 : decode cX4_init 60 = .ok (.dup, 1) := by decide +kernel
theorem dX4_init_61 : decode cX4_init 61 = .ok (.invokespecial 35, 3) := by decide +kernel
theorem dX4_init_64 : decode cX4_init 64 = .ok (.aastore, 1) := by decide +kernel
theorem dX4_init_65 : decode cX4_init 65 = .ok (.iinc 1 1, 3) := by decide +kernel
theorem dX4_init_68 : decode cX4_init 68 = .ok (.goto (-21), 3) := by decide +kernel
theorem dX4_init_71 : decode cX4_init 71 = .ok (.return_, 1) := by decide +kernel
theorem dX4_become_0 : decode cX4_become 0 = .ok (.aload_n 1, 1) := by decide +kernel
theorem dX4_become_1 : decode cX4_become 1 = .ok (.getfield 9, 3) := by decide +kernel
theorem dX4_become_4 : decode cX4_become 4 = .ok (.iconst 0, 1) := by decide +kernel
theorem dX4_become_5 : decode cX4_become 5 = .ok (.aload_n 0, 1) := by decide +kernel
theorem dX4_become_6 : decode cX4_become 6 = .ok (.getfield 9, 3) := by decide +kernel
theorem dX4_become_9 : decode cX4_become 9 = .ok (.iconst 0, 1) := by decide +kernel
theorem dX4_become_10 : decode cX4_become 10 = .ok (.bipush 6, 2) := by decide +kernel
theorem dX4_become_12 : decode cX4_become 12 = .ok (.invokestatic 36, 3) := by decide +kernel
theorem dX4_become_15 : decode cX4_become 15 = .ok (.aload_n 1, 1) := by decide +kernel
theorem dX4_become_16 : decode cX4_become 16 = .ok (.getfield 15, 3) := by decide +kernel
theorem dX4_become_19 : decode cX4_become 19 = .ok (.aload_n 0, 1) := by decide +kernel
theorem dX4_become_20 : decode cX4_become 20 = .ok (.getfield 15, 3) := by decide +kernel
theorem dX4_become_23 : decode cX4_become 23 = .ok (.invokestatic 42, 3) := by decide +kernel
theorem dX4_become_26 : decode cX4_become 26 = .ok (.aload_n 0, 1) := by decide +kernel
theorem dX4_become_27 : decode cX4_become 27 = .ok (.aload_n 1, 1) := by decide +kernel
theorem dX4_become_28 : decode cX4_become 28 = .ok (.getfield 46, 3) := by decide +kernel
theorem dX4_become_31 : decode cX4_become 31 = .ok (.putfield 46, 3) := by decide +kernel
theorem dX4_become_34 : decode cX4_become 34 = .ok (.iconst 0, 1) := by decide +kernel
theorem dX4_become_35 : decode cX4_become 35 = .ok (.istore_n 2, 1) := by decide +kernel
theorem dX4_become_36 : decode cX4_become 36 = .ok (.iload_n 2, 1) := by decide +kernel
theorem dX4_become_37 : decode cX4_become 37 = .ok (.iconst 5, 1) := by decide +kernel
theorem dX4_become_38 : decode cX4_become 38 = .ok (.if_icmp .ge 24, 3) := by decide +kernel
theorem dX4_become_41 : decode cX4_become 41 = .ok (.aload_n 0, 1) := by decide +kernel
theorem dX4_become_42 : decode cX4_become 42 = .ok (.getfield 21, 3) := by decide +kernel
theorem dX4_become_45 : decode cX4_become 45 = .ok (.iload_n 2, 1) := by decide +kernel
theorem dX4_become_46 : decode cX4_become 46 = .ok (.aaload, 1) := by decide +kernel
theorem dX4_become_47 : decode cX4_become 47 = .ok (.aload_n 1, 1) := by decide +kernel
theorem dX4_become_48 : decode cX4_become 48 = .ok (.getfield 21, 3) := by decide +kernel
theorem dX4_become_51 : decode cX4_become 51 = .ok (.iload_n 2, 1) := by decide +kernel
theorem dX4_become_52 : decode cX4_become 52 = .ok (.aaload, 1) := by decide +kernel
theorem dX4_become_53 : decode cX4_become 53 = .ok (.invokevirtual 49, 3) := by decide +kernel
theorem dX4_become_56 : decode cX4_become 56 = .ok (.iinc 2 1, 3) := by decide +kernel
theorem dX4_become_59 : decode cX4_become 59 = .ok (.goto (-23), 3) := by decide +kernel
theorem dX4_become_62 : decode cX4_become 62 = .ok (.aload_n 0, 1) := by decide +kernel
theorem dX4_become_63 : decode cX4_become 63 = .ok (.aload_n 1, 1) := by decide +kernel
theorem dX4_become_64 : decode cX4_become 64 = .ok (.getfield 53, 3) := by decide +kernel
theorem dX4_become_67 : decode cX4_become 67 = .ok (.putfield 53, 3) := by decide +kernel
theorem dX4_become_70 : decode cX4_become 70 = .ok (.aload_n 0, 1) := by decide +kernel
theorem dX4_become_71 : decode cX4_become 71 = .ok (.aload_n 1, 1) := by decide +kernel
theorem dX4_become_72 : decode cX4_become 72 = .ok (.getfield 25, 3) := by decide +kernel
theorem dX4_become_75 : decode cX4_become 75 = .ok (.putfield 25, 3) := by decide +kernel
theorem dX4_become_78 : decode cX4_become 78 = .ok (.aload_n 0, 1) := by decide +kernel
theorem dX4_become_79 : decode cX4_become 79 = .ok (.aload_n 1, 1) := by decide +kernel
theorem dX4_become_80 : decode cX4_become 80 = .ok (.getfield 29, 3) := by decide +kernel
theorem dX4_become_83 : decode cX4_become 83 = .ok (.putfield 29, 3) := by decide +kernel
theorem dX4_become_86 : decode cX4_become 86 = .ok (.aload_n 0, 1) := by decide +kernel
theorem dX4_become_87 : decode cX4_become 87 = .ok (.aload_n 1, 1) := by decide +kernel
theorem dX4_become_88 : decode cX4_become 88 = .ok (.getfield 32, 3) := by decide +kernel
theorem dX4_become_91 : decode cX4_become 91 = .ok (.putfield 32, 3) := by decide +kernel
theorem dX4_become_94 : decode cX4_become 94 = .ok (.aload_n 0, 1) := by decide +kernel
theorem dX4_become_95 : decode cX4_become 95 = .ok (.aload_n 1, 1) := by decide +kernel
theorem dX4_become_96 : decode cX4_become 96 = .ok (.getfield 56, 3) := by decide +kernel
theorem dX4_become_99 : decode cX4_become 99 = .ok (.putfield 56, 3) := by decide +kernel
theorem dX4_become_102 : decode cX4_become 102 = .ok (.return_, 1) := by decide +kernel
theorem dX4_hasMarcher_0 : decode cX4_hasMarcher 0 = .ok (.iload_n 1, 1) := by decide +kernel
theorem dX4_hasMarcher_1 : decode cX4_hasMarcher 1 = .ok (.ifCond .lt 15, 3) := by decide +kernel
theorem dX4_hasMarcher_4 : decode cX4_hasMarcher 4 = .ok (.iload_n 1, 1) := by decide +kernel
theorem dX4_hasMarcher_5 : decode cX4_hasMarcher 5 = .ok (.aload_n 0, 1) := by decide +kernel
theorem dX4_hasMarcher_6 : decode cX4_hasMarcher 6 = .ok (.getfield 46, 3) := by decide +kernel
theorem dX4_hasMarcher_9 : decode cX4_hasMarcher 9 = .ok (.if_icmp .ge 7, 3) := by decide +kernel
theorem dX4_hasMarcher_12 : decode cX4_hasMarcher 12 = .ok (.iconst 1, 1) := by decide +kernel
theorem dX4_hasMarcher_13 : decode cX4_hasMarcher 13 = .ok (.goto 4, 3) := by decide +kernel
theorem dX4_hasMarcher_16 : decode cX4_hasMarcher 16 = .ok (.iconst 0, 1) := by decide +kernel
theorem dX4_hasMarcher_17 : decode cX4_hasMarcher 17 = .ok (.ireturn, 1) := by decide +kernel
theorem dX4_hasPicture_0 : decode cX4_hasPicture 0 = .ok (.iload_n 1, 1) := by decide +kernel
theorem dX4_hasPicture_1 : decode cX4_hasPicture 1 = .ok (.ifCond .lt 15, 3) := by decide +kernel
theorem dX4_hasPicture_4 : decode cX4_hasPicture 4 = .ok (.iload_n 1, 1) := by decide +kernel
theorem dX4_hasPicture_5 : decode cX4_hasPicture 5 = .ok (.aload_n 0, 1) := by decide +kernel
theorem dX4_hasPicture_6 : decode cX4_hasPicture 6 = .ok (.getfield 53, 3) := by decide +kernel
theorem dX4_hasPicture_9 : decode cX4_hasPicture 9 = .ok (.if_icmp .ge 7, 3) := by decide +kernel
theorem dX4_hasPicture_12 : decode cX4_hasPicture 12 = .ok (.iconst 1, 1) := by decide +kernel
theorem dX4_hasPicture_13 : decode cX4_hasPicture 13 = .ok (.goto 4, 3) := by decide +kernel
theorem dX4_hasPicture_16 : decode cX4_hasPicture 16 = .ok (.iconst 0, 1) := by decide +kernel
theorem dX4_hasPicture_17 : decode cX4_hasPicture 17 = .ok (.ireturn, 1) := by decide +kernel
theorem dX4_present_0 : decode cX4_present 0 = .ok (.iconst 0, 1) := by decide +kernel
theorem dX4_present_1 : decode cX4_present 1 = .ok (.istore_n 1, 1) := by decide +kernel
theorem dX4_present_2 : decode cX4_present 2 = .ok (.iconst 0, 1) := by decide +kernel
theorem dX4_present_3 : decode cX4_present 3 = .ok (.istore_n 2, 1) := by decide +kernel
theorem dX4_present_4 : decode cX4_present 4 = .ok (.iload_n 2, 1) := by decide +kernel
theorem dX4_present_5 : decode cX4_present 5 = .ok (.aload_n 0, 1) := by decide +kernel
theorem dX4_present_6 : decode cX4_present 6 = .ok (.getfield 46, 3) := by decide +kernel
theorem dX4_present_9 : decode cX4_present 9 = .ok (.if_icmp .ge 21, 3) := by decide +kernel
theorem dX4_present_12 : decode cX4_present 12 = .ok (.aload_n 0, 1) := by decide +kernel
theorem dX4_present_13 : decode cX4_present 13 = .ok (.getfield 15, 3) := by decide +kernel
theorem dX4_present_16 : decode cX4_present 16 = .ok (.iload_n 2, 1) := by decide +kernel
theorem dX4_present_17 : decode cX4_present 17 = .ok (.baload, 1) := by decide +kernel
theorem dX4_present_18 : decode cX4_present 18 = .ok (.ifCond .ne 6, 3) := by decide +kernel
theorem dX4_present_21 : decode cX4_present 21 = .ok (.iinc 1 1, 3) := by decide +kernel
theorem dX4_present_24 : decode cX4_present 24 = .ok (.iinc 2 1, 3) := by decide +kernel
theorem dX4_present_27 : decode cX4_present 27 = .ok (.goto (-23), 3) := by decide +kernel
theorem dX4_present_30 : decode cX4_present 30 = .ok (.iload_n 1, 1) := by decide +kernel
theorem dX4_present_31 : decode cX4_present 31 = .ok (.ireturn, 1) := by decide +kernel
theorem dJ7_fill_53178_0 : decode cJ7_fill_53178 0 = .ok (.iconst 0, 1) := by decide +kernel
theorem dJ7_fill_53178_1 : decode cJ7_fill_53178 1 = .ok (.istore_n 2, 1) := by decide +kernel
theorem dJ7_fill_53178_2 : decode cJ7_fill_53178 2 = .ok (.aload_n 0, 1) := by decide +kernel
theorem dJ7_fill_53178_3 : decode cJ7_fill_53178 3 = .ok (.arraylength, 1) := by decide +kernel
theorem dJ7_fill_53178_4 : decode cJ7_fill_53178 4 = .ok (.istore_n 3, 1) := by decide +kernel
theorem dJ7_fill_53178_5 : decode cJ7_fill_53178 5 = .ok (.iload_n 2, 1) := by decide +kernel
theorem dJ7_fill_53178_6 : decode cJ7_fill_53178 6 = .ok (.iload_n 3, 1) := by decide +kernel
theorem dJ7_fill_53178_7 : decode cJ7_fill_53178 7 = .ok (.if_icmp .ge 13, 3) := by decide +kernel
theorem dJ7_fill_53178_10 : decode cJ7_fill_53178 10 = .ok (.aload_n 0, 1) := by decide +kernel
theorem dJ7_fill_53178_11 : decode cJ7_fill_53178 11 = .ok (.iload_n 2, 1) := by decide +kernel
theorem dJ7_fill_53178_12 : decode cJ7_fill_53178 12 = .ok (.iload_n 1, 1) := by decide +kernel
theorem dJ7_fill_53178_13 : decode cJ7_fill_53178 13 = .ok (.iastore, 1) := by decide +kernel
theorem dJ7_fill_53178_14 : decode cJ7_fill_53178 14 = .ok (.iinc 2 1, 3) := by decide +kernel
theorem dJ7_fill_53178_17 : decode cJ7_fill_53178 17 = .ok (.goto (-12), 3) := by decide +kernel
theorem dJ7_fill_53178_20 : decode cJ7_fill_53178 20 = .ok (.return_, 1) := by decide +kernel
