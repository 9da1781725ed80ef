theorem dX2_setPoured_52 : decode cX2_setPoured 52 = .ok (.iconst 1, 1) := by decide +kernel
theorem dX2_setPoured_53 : decode cX2_setPoured 53 = .ok (.iastore, 1) := by decide +kernel
theorem dX2_setPoured_54 : decode cX2_setPoured 54 = .ok (.return_, 1) := by decide +kernel
theorem dX2_part_0 : decode cX2_part 0 = .ok (.aload_n 0, 1) := by decide +kernel
theorem dX2_part_1 : decode cX2_part 1 = .ok (.iload_n 1, 1) := by decide +kernel
theorem dX2_part_2 : decode cX2_part 2 = .ok (.invokevirtual 58, 3) := by decide +kernel
theorem dX2_part_5 : decode cX2_part 5 = .ok (.ifCond .ne 4, 3) := by decide +kernel
theorem dX2_part_8 : decode cX2_part 8 = .ok (.return_, 1) := by decide +kernel
theorem dX2_part_9 : decode cX2_part 9 = .ok (.aload_n 0, 1) := by decide +kernel
theorem dX2_part_10 : decode cX2_part 10 = .ok (.aload_n 0, 1) := by decide +kernel
theorem dX2_part_11 : decode cX2_part 11 = .ok (.getfield 9, 3) := by decide +kernel
theorem dX2_part_14 : decode cX2_part 14 = .ok (.iload_n 1, 1) := by decide +kernel
theorem dX2_part_15 : decode cX2_part 15 = .ok (.iaload, 1) := by decide +kernel
theorem dX2_part_16 : decode cX2_part 16 = .ok (.iload_n 2, 1) := by decide +kernel
theorem dX2_part_17 : decode cX2_part 17 = .ok (.aload_n 0, 1) := by decide +kernel
theorem dX2_part_18 : decode cX2_part 18 = .ok (.getfield 18, 3) := by decide +kernel
theorem dX2_part_21 : decode cX2_part 21 = .ok (.iload_n 1, 1) := by decide +kernel
theorem dX2_part_22 : decode cX2_part 22 = .ok (.iaload, 1) := by decide +kernel
theorem dX2_part_23 : decode cX2_part 23 = .ok (.aload_n 0, 1) := by decide +kernel
theorem dX2_part_24 : decode cX2_part 24 = .ok (.getfield 21, 3) := by decide +kernel
theorem dX2_part_27 : decode cX2_part 27 = .ok (.iload_n 1, 1) := by decide +kernel
theorem dX2_part_28 : decode cX2_part 28 = .ok (.iaload, 1) := by decide +kernel
theorem dX2_part_29 : decode cX2_part 29 = .ok (.invokevirtual 85, 3) := by decide +kernel
theorem dX2_part_32 : decode cX2_part 32 = .ok (.aload_n 0, 1) := by decide +kernel
theorem dX2_part_33 : decode cX2_part 33 = .ok (.getfield 15, 3) := by decide +kernel
theorem dX2_part_36 : decode cX2_part 36 = .ok (.iload_n 1, 1) := by decide +kernel
theorem dX2_part_37 : decode cX2_part 37 = .ok (.dup2, 1) := by decide +kernel
theorem dX2_part_38 : decode cX2_part 38 = .ok (.iaload, 1) := by decide +kernel
theorem dX2_part_39 : decode cX2_part 39 = .ok (.iload_n 2, 1) := by decide +kernel
theorem dX2_part_40 : decode cX2_part 40 = .ok (.isub, 1) := by decide +kernel
theorem dX2_part_41 : decode cX2_part 41 = .ok (.iastore, 1) := by decide +kernel
theorem dX2_part_42 : decode cX2_part 42 = .ok (.aload_n 0, 1) := by decide +kernel
theorem dX2_part_43 : decode cX2_part 43 = .ok (.dup, 1) := by decide +kernel
theorem dX2_part_44 : decode cX2_part 44 = .ok (.getfield 49, 3) := by decide +kernel
theorem dX2_part_47 : decode cX2_part 47 = .ok (.aload_n 0, 1) := by decide +kernel
theorem dX2_part_48 : decode cX2_part 48 = .ok (.getfield 34, 3) := by decide +kernel
theorem dX2_part_51 : decode cX2_part 51 = .ok (.iadd, 1) := by decide +kernel
theorem dX2_part_52 : decode cX2_part 52 = .ok (.putfield 49, 3) := by decide +kernel
theorem dX2_part_55 : decode cX2_part 55 = .ok (.return_, 1) := by decide +kernel
theorem dX2_howMany_0 : decode cX2_howMany 0 = .ok (.iconst 0, 1) := by decide +kernel
theorem dX2_howMany_1 : decode cX2_howMany 1 = .ok (.istore_n 2, 1) := by decide +kernel
theorem dX2_howMany_2 : decode cX2_howMany 2 = .ok (.iconst 0, 1) := by decide +kernel
theorem dX2_howMany_3 : decode cX2_howMany 3 = .ok (.istore_n 3, 1) := by decide +kernel
theorem dX2_howMany_4 : decode cX2_howMany 4 = .ok (.iload_n 3, 1) := by decide +kernel
theorem dX2_howMany_5 : decode cX2_howMany 5 = .ok (.bipush 10, 2) := by decide +kernel
theorem dX2_howMany_7 : decode cX2_howMany 7 = .ok (.if_icmp .ge 30, 3) := by decide +kernel
theorem dX2_howMany_10 : decode cX2_howMany 10 = .ok (.aload_n 0, 1) := by decide +kernel
theorem dX2_howMany_11 : decode cX2_howMany 11 = .ok (.iload_n 3, 1) := by decide +kernel
theorem dX2_howMany_12 : decode cX2_howMany 12 = .ok (.invokevirtual 58, 3) := by decide +kernel
theorem dX2_howMany_15 : decode cX2_howMany 15 = .ok (.ifCond .eq 16, 3) := by decide +kernel
theorem dX2_howMany_18 : decode cX2_howMany 18 = .ok (.aload_n 0, 1) := by decide +kernel
theorem dX2_howMany_19 : decode cX2_howMany 19 = .ok (.getfield 24, 3) := by decide +kernel
theorem dX2_howMany_22 : decode cX2_howMany 22 = .ok (.iload_n 3, 1) := by decide +kernel
theorem dX2_howMany_23 : decode cX2_howMany 23 = .ok (.iaload, 1) := by decide +kernel
theorem dX2_howMany_24 : decode cX2_howMany 24 = .ok (.iload_n 1, 1) := by decide +kernel
theorem dX2_howMany_25 : decode cX2_howMany 25 = .ok (.if_icmp .ne 6, 3) := by decide +kernel
theorem dX2_howMany_28 : decode cX2_howMany 28 = .ok (.iinc 2 1, 3) := by decide +kernel
theorem dX2_howMany_31 : decode cX2_howMany 31 = .ok (.iinc 3 1, 3) := by decide +kernel
theorem dX2_howMany_34 : decode cX2_howMany 34 = .ok (.goto (-30), 3) := by decide +kernel
theorem dX2_howMany_37 : decode cX2_howMany 37 = .ok (.iload_n 2, 1) := by decide +kernel
theorem dX2_howMany_38 : decode cX2_howMany 38 = .ok (.ireturn, 1) := by decide +kernel
theorem dX2_isWaitedFor_0 : decode cX2_isWaitedFor 0 = .ok (.iconst 0, 1) := by decide +kernel
theorem dX2_isWaitedFor_1 : decode cX2_isWaitedFor 1 = .ok (.istore_n 2, 1) := by decide +kernel
theorem dX2_isWaitedFor_2 : decode cX2_isWaitedFor 2 = .ok (.iload_n 2, 1) := by decide +kernel
theorem dX2_isWaitedFor_3 : decode cX2_isWaitedFor 3 = .ok (.bipush 10, 2) := by decide +kernel
theorem dX2_isWaitedFor_5 : decode cX2_isWaitedFor 5 = .ok (.if_icmp .ge 29, 3) := by decide +kernel
theorem dX2_isWaitedFor_8 : decode cX2_isWaitedFor 8 = .ok (.aload_n 0, 1) := by decide +kernel
theorem dX2_isWaitedFor_9 : decode cX2_isWaitedFor 9 = .ok (.iload_n 2, 1) := by decide +kernel
theorem dX2_isWaitedFor_10 : decode cX2_isWaitedFor 10 = .ok (.invokevirtual 89, 3) := by decide +kernel
theorem dX2_isWaitedFor_13 : decode cX2_isWaitedFor 13 = .ok (.ifCond .eq 15, 3) := by decide +kernel
theorem dX2_isWaitedFor_16 : decode cX2_isWaitedFor 16 = .ok (.aload_n 0, 1) := by decide +kernel
theorem dX2_isWaitedFor_17 : decode cX2_isWaitedFor 17 = .ok (.getfield 18, 3) := by decide +kernel
theorem dX2_isWaitedFor_20 : decode cX2_isWaitedFor 20 = .ok (.iload_n 2, 1) := by decide +kernel
theorem dX2_isWaitedFor_21 : decode cX2_isWaitedFor 21 = .ok (.iaload, 1) := by decide +kernel
theorem dX2_isWaitedFor_22 : decode cX2_isWaitedFor 22 = .ok (.iload_n 1, 1) := by decide +kernel
theorem dX2_isWaitedFor_23 : decode cX2_isWaitedFor 23 = .ok (.if_icmp .ne 5, 3) := by decide +kernel
theorem dX2_isWaitedFor_26 : decode cX2_isWaitedFor 26 = .ok (.iconst 1, 1) := by decide +kernel
theorem dX2_isWaitedFor_27 : decode cX2_isWaitedFor 27 = .ok (.ireturn, 1) := by decide +kernel
theorem dX2_isWaitedFor_28 : decode cX2_isWaitedFor 28 = .ok (.iinc 2 1, 3) := by decide +kernel
theorem dX2_isWaitedFor_31 : decode cX2_isWaitedFor 31 = .ok (.goto (-29), 3) := by decide +kernel
theorem dX2_isWaitedFor_34 : decode cX2_isWaitedFor 34 = .ok (.iconst 0, 1) := by decide +kernel
theorem dX2_isWaitedFor_35 : decode cX2_isWaitedFor 35 = .ok (.ireturn, 1) := by decide +kernel
theorem dX3_init_0 : decode cX3_init 0 = .ok (.aload_n 0, 1) := by decide +kernel
theorem dX3_init_1 : decode cX3_init 1 = .ok (.invokespecial 3, 3) := by decide +kernel
theorem dX3_init_4 : decode cX3_init 4 = .ok (.aload_n 0, 1) := by decide +kernel
theorem dX3_init_5 : decode cX3_init 5 = .ok (.bipush 25, 2) := by decide +kernel
theorem dX3_init_7 : decode cX3_init 7 = .ok (.newarray .boolean, 2) := by decide +kernel
theorem dX3_init_9 : decode cX3_init 9 = .ok (.putfield 9, 3) := by decide +kernel
theorem dX3_init_12 : decode cX3_init 12 = .ok (.aload_n 0, 1) := by decide +kernel
theorem dX3_init_13 : decode cX3_init 13 = .ok (.iconst 5, 1) := by decide +kernel
theorem dX3_init_14 : decode cX3_init 14 = .ok (.newarray .int, 2) := by decide +kernel
theorem dX3_init_16 : decode cX3_init 16 = .ok (.putfield 15, 3) := by decide +kernel
theorem dX3_init_19 : decode cX3_init 19 = .ok (.aload_n 0, 1) := by decide +kernel
theorem dX3_init_20 : decode cX3_init 20 = .ok (.iconst 5, 1) := by decide +kernel
theorem dX3_init_21 : decode cX3_init 21 = .ok (.newarray .int, 2) := by decide +kernel
theorem dX3_init_23 : decode cX3_init 23 = .ok (.putfield 19, 3) := by decide +kernel
theorem dX3_init_26 : decode cX3_init 26 = .ok (.return_, 1) := by decide +kernel
theorem dX3_find_0 : decode cX3_find 0 = .ok (.iconst 0, 1) := by decide +kernel
theorem dX3_find_1 : decode cX3_find 1 = .ok (.istore_n 3, 1) := by decide +kernel
theorem dX3_find_2 : decode cX3_find 2 = .ok (.iload_n 3, 1) := by decide +kernel
theorem dX3_find_3 : decode cX3_find 3 = .ok (.iconst 5, 1) := by decide +kernel
theorem dX3_find_4 : decode cX3_find 4 = .ok (.if_icmp .ge 45, 3) := by decide +kernel
theorem dX3_find_7 : decode cX3_find 7 = .ok (.iload_n 3, 1) := by decide +kernel
theorem dX3_find_8 : decode cX3_find 8 = .ok (.iconst 1, 1) := by decide +kernel
theorem dX3_find_9 : decode cX3_find 9 = .ok (.iadd, 1) := by decide +kernel
theorem dX3_find_10 : decode cX3_find 10 = .ok (.istore 4, 2) := by decide +kernel
theorem dX3_find_12 : decode cX3_find 12 = .ok (.iload 4, 2) := by decide +kernel
theorem dX3_find_14 : decode cX3_find 14 = .ok (.iconst 5, 1) := by decide +kernel
theorem dX3_find_15 : decode cX3_find 15 = .ok (.if_icmp .ge 28, 3) := by decide +kernel
theorem dX3_find_18 : decode cX3_find 18 = .ok (.aload_n 0, 1) := by decide +kernel
theorem dX3_find_19 : decode cX3_find 19 = .ok (.getfield 9, 3) := by decide +kernel
theorem dX3_find_22 : decode cX3_find 22 = .ok (.iload_n 3, 1) := by decide +kernel
theorem dX3_find_23 : decode cX3_find 23 = .ok (.iconst 5, 1) := by decide +kernel
theorem dX3_find_24 : decode cX3_find 24 = .ok (.imul, 1) := by decide +kernel
theorem dX3_find_25 : decode cX3_find 25 = .ok (.iload 4, 2) := by decide +kernel
theorem dX3_find_27 : decode cX3_find 27 = .ok (.iadd, 1) := by decide +kernel
theorem dX3_find_28 : decode cX3_find 28 = .ok (.aload_n 1, 1) := by decide +kernel
theorem dX3_find_29 : decode cX3_find 29 = .ok (.aload_n 2, 1) := by decide +kernel
theorem dX3_find_30 : decode cX3_find 30 = .ok (.iload_n 3, 1) := by decide +kernel
theorem dX3_find_31 : decode cX3_find 31 = .ok (.iload 4, 2) := by decide +kernel
theorem dX3_find_33 : decode cX3_find 33 = .ok (.invokestatic 22, 3) := by decide +kernel
theorem dX3_find_36 : decode cX3_find 36 = .ok (.bastore, 1) := by decide +kernel
theorem dX3_find_37 : decode cX3_find 37 = .ok (.iinc 4 1, 3) := by decide +kernel
theorem dX3_find_40 : decode cX3_find 40 = .ok (.goto (-28), 3) := by decide +kernel
theorem dX3_find_43 : decode cX3_find 43 = .ok (.iinc 3 1, 3) := by decide +kernel
theorem dX3_find_46 : decode cX3_find 46 = .ok (.goto (-44), 3) := by decide +kernel
theorem dX3_find_49 : decode cX3_find 49 = .ok (.aload_n 0, 1) := by decide +kernel
theorem dX3_find_50 : decode cX3_find 50 = .ok (.getfield 15, 3) := by decide +kernel
theorem dX3_find_53 : decode cX3_find 53 = .ok (.bipush (-4), 2) := by decide +kernel
theorem dX3_find_55 : decode cX3_find 55 = .ok (.invokestatic 26, 3) := by decide +kernel
theorem dX3_find_58 : decode cX3_find 58 = .ok (.aload_n 0, 1) := by decide +kernel
theorem dX3_find_59 : decode cX3_find 59 = .ok (.iconst (-1), 1) := by decide +kernel
theorem dX3_find_60 : decode cX3_find 60 = .ok (.putfield 32, 3) := by decide +kernel
theorem dX3_find_63 : decode cX3_find 63 = .ok (.aload_n 0, 1) := by decide +kernel
theorem dX3_find_64 : decode cX3_find 64 = .ok (.iconst 0, 1) := by decide +kernel
theorem dX3_find_65 : decode cX3_find 65 = .ok (.iconst 0, 1) := by decide +kernel
theorem dX3_find_66 : decode cX3_find 66 = .ok (.invokevirtual 36, 3) := by decide +kernel
theorem dX3_find_69 : decode cX3_find 69 = .ok (.return_, 1) := by decide +kernel
theorem dX3_isPair_0 : decode cX3_isPair 0 = .ok (.aload_n 0, 1) := by decide +kernel
theorem dX3_isPair_1 : decode cX3_isPair 1 = .ok (.iload_n 2, 1) := by decide +kernel
theorem dX3_isPair_2 : decode cX3_isPair 2 = .ok (.invokevirtual 40, 3) := by decide +kernel
theorem dX3_isPair_5 : decode cX3_isPair 5 = .ok (.ifCond .eq 11, 3) := by decide +kernel
theorem dX3_isPair_8 : decode cX3_isPair 8 = .ok (.aload_n 0, 1) := by decide +kernel
theorem dX3_isPair_9 : decode cX3_isPair 9 = .ok (.iload_n 3, 1) := by decide +kernel
theorem dX3_isPair_10 : decode cX3_isPair 10 = .ok (.invokevirtual 40, 3) := by decide +kernel
theorem dX3_isPair_13 : decode cX3_isPair 13 = .ok (.ifCond .ne 5, 3) := by decide +kernel
theorem dX3_isPair_16 : decode cX3_isPair 16 = .ok (.iconst 0, 1) := by decide +kernel
theorem dX3_isPair_17 : decode cX3_isPair 17 = .ok (.ireturn, 1) := by decide +kernel
theorem dX3_isPair_18 : decode cX3_isPair 18 = .ok (.aload_n 1, 1) := by decide +kernel
theorem dX3_isPair_19 : decode cX3_isPair 19 = .ok (.aload_n 0, 1) := by decide +kernel
theorem dX3_isPair_20 : decode cX3_isPair 20 = .ok (.iload_n 2, 1) := by decide +kernel
theorem dX3_isPair_21 : decode cX3_isPair 21 = .ok (.iload_n 3, 1) := by decide +kernel
theorem dX3_isPair_22 : decode cX3_isPair 22 = .ok (.invokevirtual 46, 3) := by decide +kernel
theorem dX3_isPair_25 : decode cX3_isPair 25 = .ok (.aload_n 1, 1) := by decide +kernel
theorem dX3_isPair_26 : decode cX3_isPair 26 = .ok (.aload_n 0, 1) := by decide +kernel
theorem dX3_isPair_27 : decode cX3_isPair 27 = .ok (.invokevirtual 52, 3) := by decide +kernel
theorem dX3_isPair_30 : decode cX3_isPair 30 = .ok (.aload_n 1, 1) := by decide +kernel
theorem dX3_isPair_31 : decode cX3_isPair 31 = .ok (.invokevirtual 56, 3) := by decide +kernel
theorem dX3_isPair_34 : decode cX3_isPair 34 = .ok (.if_icmp .ne 7, 3) := by decide +kernel
theorem dX3_isPair_37 : decode cX3_isPair 37 = .ok (.iconst 1, 1) := by decide +kernel
theorem dX3_isPair_38 : decode cX3_isPair 38 = .ok (.goto 4, 3) := by decide +kernel
theorem dX3_isPair_41 : decode cX3_isPair 41 = .ok (.iconst 0, 1) := by decide +kernel
theorem dX3_isPair_42 : decode cX3_isPair 42 = .ok (.ireturn, 1) := by decide +kernel
theorem dX3_choose_0 : decode cX3_choose 0 = .ok (.iload_n 1, 1) := by decide +kernel
theorem dX3_choose_1 : decode cX3_choose 1 = .ok (.iconst 5, 1) := by decide +kernel
theorem dX3_choose_2 : decode cX3_choose 2 = .ok (.if_icmp .lt 31, 3) := by decide +kernel
theorem dX3_choose_5 : decode cX3_choose 5 = .ok (.iload_n 2, 1) := by decide +kernel
theorem dX3_choose_6 : decode cX3_choose 6 = .ok (.aload_n 0, 1) := by decide +kernel
theorem dX3_choose_7 : decode cX3_choose 7 = .ok (.getfield 32, 3) := by decide +kernel
theorem dX3_choose_10 : decode cX3_choose 10 = .ok (.if_icmp .le 22, 3) := by decide +kernel
theorem dX3_choose_13 : decode cX3_choose 13 = .ok (.aload_n 0, 1) := by decide +kernel
theorem dX3_choose_14 : decode cX3_choose 14 = .ok (.iload_n 2, 1) := by decide +kernel
theorem dX3_choose_15 : decode cX3_choose 15 = .ok (.putfield 32, 3) := by decide +kernel
theorem dX3_choose_18 : decode cX3_choose 18 = .ok (.aload_n 0, 1) := by decide +kernel
theorem dX3_choose_19 : decode cX3_choose 19 = .ok (.getfield 15, 3) := by decide +kernel
theorem dX3_choose_22 : decode cX3_choose 22 = .ok (.iconst 0, 1) := by decide +kernel
theorem dX3_choose_23 : decode cX3_choose 23 = .ok (.aload_n 0, 1) := by decide +kernel
theorem dX3_choose_24 : decode cX3_choose 24 = .ok (.getfield 19, 3) := by decide +kernel
theorem dX3_choose_27 : decode cX3_choose 27 = .ok (.iconst 0, 1) := by decide +kernel
theorem dX3_choose_28 : decode cX3_choose 28 = .ok (.iconst 5, 1) := by decide +kernel
theorem dX3_choose_29 : decode cX3_choose 29 = .ok (.invokestatic 60, 3) := by decide +kernel
theorem dX3_choose_32 : decode cX3_choose 32 = .ok (.return_, 1) := by decide +kernel
theorem dX3_choose_33 : decode cX3_choose 33 = .ok (.aload_n 0, 1) := by decide +kernel
theorem dX3_choose_34 : decode cX3_choose 34 = .ok (.getfield 15, 3) := by decide +kernel
theorem dX3_choose_37 : decode cX3_choose 37 = .ok (.iload_n 1, 1) := by decide +kernel
theorem dX3_choose_38 : decode cX3_choose 38 = .ok (.iaload, 1) := by decide +kernel
theorem dX3_choose_39 : decode cX3_choose 39 = .ok (.bipush (-4), 2) := by decide +kernel
theorem dX3_choose_41 : decode cX3_choose 41 = .ok (.if_icmp .ne 82, 3) := by decide +kernel
theorem dX3_choose_44 : decode cX3_choose 44 = .ok (.iload_n 1, 1) := by decide +kernel
theorem dX3_choose_45 : decode cX3_choose 45 = .ok (.iconst 1, 1) := by decide +kernel
theorem dX3_choose_46 : decode cX3_choose 46 = .ok (.iadd, 1) := by decide +kernel
theorem dX3_choose_47 : decode cX3_choose 47 = .ok (.istore_n 3, 1) := by decide +kernel
theorem dX3_choose_48 : decode cX3_choose 48 = .ok (.iload_n 3, 1) := by decide +kernel
theorem dX3_choose_49 : decode cX3_choose 49 = .ok (.iconst 5, 1) := by decide +kernel
theorem dX3_choose_50 : decode cX3_choose 50 = .ok (.if_icmp .ge 73, 3) := by decide +kernel
theorem dX3_choose_53 : decode cX3_choose 53 = .ok (.aload_n 0, 1) := by decide +kernel
theorem dX3_choose_54 : decode cX3_choose 54 = .ok (.getfield 15, 3) := by decide +kernel
theorem dX3_choose_57 : decode cX3_choose 57 = .ok (.iload_n 3, 1) := by decide +kernel
theorem dX3_choose_58 : decode cX3_choose 58 = .ok (.iaload, 1) := by decide +kernel
theorem dX3_choose_59 : decode cX3_choose 59 = .ok (.bipush (-4), 2) := by decide +kernel
theorem dX3_choose_61 : decode cX3_choose 61 = .ok (.if_icmp .ne 56, 3) := by decide +kernel
theorem dX3_choose_64 : decode cX3_choose 64 = .ok (.aload_n 0, 1) := by decide +kernel
theorem dX3_choose_65 : decode cX3_choose 65 = .ok (.getfield 9, 3) := by decide +kernel
theorem dX3_choose_68 : decode cX3_choose 68 = .ok (.iload_n 1, 1) := by decide +kernel
theorem dX3_choose_69 : decode cX3_choose 69 = .ok (.iconst 5, 1) := by decide +kernel
theorem dX3_choose_70 : decode cX3_choose 70 = .ok (.imul, 1) := by decide +kernel
theorem dX3_choose_71 : decode cX3_choose 71 = .ok (.iload_n 3, 1) := by decide +kernel
theorem dX3_choose_72 : decode cX3_choose 72 = .ok (.iadd, 1) := by decide +kernel
theorem dX3_choose_73 : decode cX3_choose 73 = .ok (.baload, 1) := by decide +kernel
theorem dX3_choose_74 : decode cX3_choose 74 = .ok (.ifCond .eq 43, 3) := by decide +kernel
theorem dX3_choose_77 : decode cX3_choose 77 = .ok (.aload_n 0, 1) := by decide +kernel
theorem dX3_choose_78 : decode cX3_choose 78 = .ok (.getfield 15, 3) := by decide +kernel
theorem dX3_choose_81 : decode cX3_choose 81 = .ok (.iload_n 1, 1) := by decide +kernel
theorem dX3_choose_82 : decode cX3_choose 82 = .ok (.iload_n 3, 1) := by decide +kernel
theorem dX3_choose_83 : decode cX3_choose 83 = .ok (.iastore, 1) := by decide +kernel
theorem dX3_choose_84 : decode cX3_choose 84 = .ok (.aload_n 0, 1) := by decide +kernel
theorem dX3_choose_85 : decode cX3_choose 85 = .ok (.getfield 15, 3) := by decide +kernel
theorem dX3_choose_88 : decode cX3_choose 88 = .ok (.iload_n 3, 1) := by decide +kernel
theorem dX3_choose_89 : decode cX3_choose 89 = .ok (.iload_n 1, 1) := by decide +kernel
theorem dX3_choose_90 : decode cX3_choose 90 = .ok (.iastore, 1) := by decide +kernel
theorem dX3_choose_91 : decode cX3_choose 91 = .ok (.aload_n 0, 1) := by decide +kernel
theorem dX3_choose_92 : decode cX3_choose 92 = .ok (.iload_n 1, 1) := by decide +kernel
theorem dX3_choose_93 : decode cX3_choose 93 = .ok (.iconst 1, 1) := by decide +kernel
theorem dX3_choose_94 : decode cX3_choose 94 = .ok (.iadd, 1) := by decide +kernel
theorem dX3_choose_95 : decode cX3_choose 95 = .ok (.iload_n 2, 1) := by decide +kernel
theorem dX3_choose_96 : decode cX3_choose 96 = .ok (.iconst 1, 1) := by decide +kernel
theorem dX3_choose_97 : decode cX3_choose 97 = .ok (.iadd, 1) := by decide +kernel
theorem dX3_choose_98 : decode cX3_choose 98 = .ok (.invokevirtual 36, 3) := by decide +kernel
theorem dX3_choose_101 : decode cX3_choose 101 = .ok (.aload_n 0, 1) := by decide +kernel
theorem dX3_choose_102 : decode cX3_choose 102 = .ok (.getfield 15, 3) := by decide +kernel
theorem dX3_choose_105 : decode cX3_choose 105 = .ok (.iload_n 1, 1) := by decide +kernel
theorem dX3_choose_106 : decode cX3_choose 106 = .ok (.bipush (-4), 2) := by decide +kernel
theorem dX3_choose_108 : decode cX3_choose 108 = .ok (.iastore, 1) := by decide +kernel
theorem dX3_choose_109 : decode cX3_choose 109 = .ok (.aload_n 0, 1) := by decide +kernel
theorem dX3_choose_110 : decode cX3_choose 110 = .ok (.getfield 15, 3) := by decide +kernel
theorem dX3_choose_113 : decode cX3_choose 113 = .ok (.iload_n 3, 1) := by decide +kernel
theorem dX3_choose_114 : decode cX3_choose 114 = .ok (.bipush (-4), 2) := by decide +kernel
theorem dX3_choose_116 : decode cX3_choose 116 = .ok (.iastore, 1) := by decide +kernel
theorem dX3_choose_117 : decode cX3_choose 117 = .ok (.iinc 3 1, 3) := by decide +kernel
theorem dX3_choose_120 : decode cX3_choose 120 = .ok (.goto (-72), 3) := by decide +kernel
theorem dX3_choose_123 : decode cX3_choose 123 = .ok (.aload_n 0, 1) := by decide +kernel
theorem dX3_choose_124 : decode cX3_choose 124 = .ok (.iload_n 1, 1) := by decide +kernel
theorem dX3_choose_125 : decode cX3_choose 125 = .ok (.iconst 1, 1) := by decide +kernel
theorem dX3_choose_126 : decode cX3_choose 126 = .ok (.iadd, 1) := by decide +kernel
theorem dX3_choose_127 : decode cX3_choose 127 = .ok (.iload_n 2, 1) := by decide +kernel
theorem dX3_choose_128 : decode cX3_choose 128 = .ok (.invokevirtual 36, 3) := by decide +kernel
theorem dX3_choose_131 : decode cX3_choose 131 = .ok (.return_, 1) := by decide +kernel
theorem dX3_partnerOf_0 : decode cX3_partnerOf 0 = .ok (.iload_n 1, 1) := by decide +kernel
theorem dX3_partnerOf_1 : decode cX3_partnerOf 1 = .ok (.invokestatic 66, 3) := by decide +kernel
theorem dX3_partnerOf_4 : decode cX3_partnerOf 4 = .ok (.ifCond .eq 12, 3) := by decide +kernel
theorem dX3_partnerOf_7 : decode cX3_partnerOf 7 = .ok (.aload_n 0, 1) := by decide +kernel
theorem dX3_partnerOf_8 : decode cX3_partnerOf 8 = .ok (.getfield 19, 3) := by decide +kernel
theorem dX3_partnerOf_11 : decode cX3_partnerOf 11 = .ok (.iload_n 1, 1) := by decide +kernel
theorem dX3_partnerOf_12 : decode cX3_partnerOf 12 = .ok (.iaload, 1) := by decide +kernel
theorem dX3_partnerOf_13 : decode cX3_partnerOf 13 = .ok (.goto 5, 3) := by decide +kernel
theorem dX3_partnerOf_16 : decode cX3_partnerOf 16 = .ok (.bipush (-4), 2) := by decide +kernel
theorem dX3_partnerOf_18 : decode cX3_partnerOf 18 = .ok (.ireturn, 1) := by decide +kernel
theorem dX4_init_0 : decode cX4_init 0 = .ok (.aload_n 0, 1) := by decide +kernel
theorem dX4_init_1 : decode cX4_init 1 = .ok (.invokespecial 3, 3) := by decide +kernel
theorem dX4_init_4 : decode cX4_init 4 = .ok (.aload_n 0, 1) := by decide +kernel
theorem dX4_init_5 : decode cX4_init 5 = .ok (.iconst 4, 1) := by decide +kernel
theorem dX4_init_6 : decode cX4_init 6 = .ok (.newarray .int, 2) := by decide +kernel
theorem dX4_init_8 : decode cX4_init 8 = .ok (.putfield 11, 3) := by decide +kernel
theorem dX4_init_11 : decode cX4_init 11 = .ok (.return_, 1) := by decide +kernel
theorem dX4_read_0 : decode cX4_read 0 = .ok (.aload_n 3, 1) := by decide +kernel
theorem dX4_read_1 : decode cX4_read 1 = .ok (.invokevirtual 15, 3) := by decide +kernel
theorem dX4_read_4 : decode cX4_read 4 = .ok (.aload_n 0, 1) := by decide +kernel
theorem dX4_read_5 : decode cX4_read 5 = .ok (.iconst 0, 1) := by decide +kernel
theorem dX4_read_6 : decode cX4_read 6 = .ok (.putfield 20, 3) := by decide +kernel
theorem dX4_read_9 : decode cX4_read 9 = .ok (.iconst 0, 1) := by decide +kernel
theorem dX4_read_10 : decode cX4_read 10 = .ok (.istore 4, 2) := by decide +kernel
theorem dX4_read_12 : decode cX4_read 12 = .ok (.iload 4, 2) := by decide +kernel
theorem dX4_read_14 : decode cX4_read 14 = .ok (.sipush 300, 3) := by decide +kernel
theorem dX4_read_17 : decode cX4_read 17 = .ok (.if_icmp .ge 36, 3) := by decide +kernel
theorem dX4_read_20 : decode cX4_read 20 = .ok (.aload_n 0, 1) := by decide +kernel
theorem dX4_read_21 : decode cX4_read 21 = .ok (.getfield 20, 3) := by decide +kernel
theorem dX4_read_24 : decode cX4_read 24 = .ok (.iload_n 2, 1) := by decide +kernel
theorem dX4_read_25 : decode cX4_read 25 = .ok (.if_icmp .ge 28, 3) := by decide +kernel
theorem dX4_read_28 : decode cX4_read 28 = .ok (.aload_n 0, 1) := by decide +kernel
theorem dX4_read_29 : decode cX4_read 29 = .ok (.getfield 20, 3) := by decide +kernel
theorem dX4_read_32 : decode cX4_read 32 = .ok (.istore 5, 2) := by decide +kernel
theorem dX4_read_34 : decode cX4_read 34 = .ok (.aload_n 0, 1) := by decide +kernel
theorem dX4_read_35 : decode cX4_read 35 = .ok (.aload_n 1, 1) := by decide +kernel
theorem dX4_read_36 : decode cX4_read 36 = .ok (.iload_n 2, 1) := by decide +kernel
theorem dX4_read_37 : decode cX4_read 37 = .ok (.aload_n 3, 1) := by decide +kernel
theorem dX4_read_38 : decode cX4_read 38 = .ok (.invokevirtual 24, 3) := by decide +kernel
theorem dX4_read_41 : decode cX4_read 41 = .ok (.ifCond .ne 6, 3) := by decide +kernel
theorem dX4_read_44 : decode cX4_read 44 = .ok (.iload 5, 2) := by decide +kernel
theorem dX4_read_46 : decode cX4_read 46 = .ok (.ireturn, 1) := by decide +kernel
theorem dX4_read_47 : decode cX4_read 47 = .ok (.iinc 4 1, 3) := by decide +kernel
theorem dX4_read_50 : decode cX4_read 50 = .ok (.goto (-38), 3) := by decide +kernel
theorem dX4_read_53 : decode cX4_read 53 = .ok (.bipush (-4), 2) := by decide +kernel
theorem dX4_read_55 : decode cX4_read 55 = .ok (.ireturn, 1) := by decide +kernel
theorem dX4_readItem_0 : decode cX4_readItem 0 = .ok (.aload_n 0, 1) := by decide +kernel
theorem dX4_readItem_1 : decode cX4_readItem 1 = .ok (.getfield 20, 3) := by decide +kernel
theorem dX4_readItem_4 : decode cX4_readItem 4 = .ok (.iload_n 2, 1) := by decide +kernel
theorem dX4_readItem_5 : decode cX4_readItem 5 = .ok (.if_icmp .ge 12, 3) := by decide +kernel
theorem dX4_readItem_8 : decode cX4_readItem 8 = .ok (.aload_n 0, 1) := by decide +kernel
theorem dX4_readItem_9 : decode cX4_readItem 9 = .ok (.getfield 20, 3) := by decide +kernel
theorem dX4_readItem_12 : decode cX4_readItem 12 = .ok (.aload_n 1, 1) := by decide +kernel
theorem dX4_readItem_13 : decode cX4_readItem 13 = .ok (.arraylength, 1) := by decide +kernel
theorem dX4_readItem_14 : decode cX4_readItem 14 = .ok (.if_icmp .lt 5, 3) := by decide +kernel
theorem dX4_readItem_17 : decode cX4_readItem 17 = .ok (.iconst 0, 1) := by decide +kernel
theorem dX4_readItem_18 : decode cX4_readItem 18 = .ok (.ireturn, 1) := by decide +kernel
theorem dX4_readItem_19 : decode cX4_readItem 19 = .ok (.aload_n 1, 1) := by decide +kernel
theorem dX4_readItem_20 : decode cX4_readItem 20 = .ok (.aload_n 0, 1) := by decide +kernel
theorem dX4_readItem_21 : decode cX4_readItem 21 = .ok (.getfield 20, 3) := by decide +kernel
theorem dX4_readItem_24 : decode cX4_readItem 24 = .ok (.baload, 1) := by decide +kernel
theorem dX4_readItem_25 : decode cX4_readItem 25 = .ok (.istore 4, 2) := by decide +kernel
theorem dX4_readItem_27 : decode cX4_readItem 27 = .ok (.aload_n 0, 1) := by decide +kernel
theorem dX4_readItem_28 : decode cX4_readItem 28 = .ok (.dup, 1) := by decide +kernel
theorem dX4_readItem_29 : decode cX4_readItem 29 = .ok (.getfield 20, 3) := by decide +kernel
theorem dX4_readItem_32 : decode cX4_readItem 32 = .ok (.iconst 1, 1) := by decide +kernel
theorem dX4_readItem_33 : decode cX4_readItem 33 = .ok (.iadd, 1) := by decide +kernel
theorem dX4_readItem_34 : decode cX4_readItem 34 = .ok (.putfield 20, 3) := by decide +kernel
theorem dX4_readItem_37 : decode cX4_readItem 37 = .ok (.iload 4, 2) := by decide +kernel
theorem dX4_readItem_39 : decode cX4_readItem 39 = .ok (.lookupswitch 105 #[(99, 81), (108, 57), (115, 33)], 33) := by decide +kernel
theorem dX4_readItem_72 : decode cX4_readItem 72 = .ok (.aload_n 0, 1) := by decide +kernel
theorem dX4_readItem_73 : decode cX4_readItem 73 = .ok (.aload_n 1, 1) := by decide +kernel
theorem dX4_readItem_74 : decode cX4_readItem 74 = .ok (.iload_n 2, 1) := by decide +kernel
theorem dX4_readItem_75 : decode cX4_readItem 75 = .ok (.iconst 4, 1) := by decide +kernel
theorem dX4_readItem_76 : decode cX4_readItem 76 = .ok (.invokevirtual 28, 3) := by decide +kernel
theorem dX4_readItem_79 : decode cX4_readItem 79 = .ok (.ifCond .eq 15, 3) := by decide +kernel
theorem dX4_readItem_82 : decode cX4_readItem 82 = .ok (.aload_n 0, 1) := by decide +kernel
theorem dX4_readItem_83 : decode cX4_readItem 83 = .ok (.aload_n 3, 1) := by decide +kernel
theorem dX4_readItem_84 : decode cX4_readItem 84 = .ok (.invokevirtual 32, 3) := by decide +kernel
theorem dX4_readItem_87 : decode cX4_readItem 87 = .ok (.ifCond .eq 7, 3) := by decide +kernel
theorem dX4_readItem_90 : decode cX4_readItem 90 = .ok (.iconst 1, 1) := by decide +kernel
theorem dX4_readItem_91 : decode cX4_readItem 91 = .ok (.goto 4, 3) := by decide +kernel
theorem dX4_readItem_94 : decode cX4_readItem 94 = .ok (.iconst 0, 1) := by decide +kernel
theorem dX4_readItem_95 : decode cX4_readItem 95 = .ok (.ireturn, 1) := by decide +kernel
theorem dX4_readItem_96 : decode cX4_readItem 96 = .ok (.aload_n 0, 1) := by decide +kernel
theorem dX4_readItem_97 : decode cX4_readItem 97 = .ok (.aload_n 1, 1) := by decide +kernel
theorem dX4_readItem_98 : decode cX4_readItem 98 = .ok (.iload_n 2, 1) := by decide +kernel
theorem dX4_readItem_99 : decode cX4_readItem 99 = .ok (.iconst 1, 1) := by decide +kernel
theorem dX4_readItem_100 : decode cX4_readItem 100 = .ok (.invokevirtual 28, 3) := by decide +kernel
theorem dX4_readItem_103 : decode cX4_readItem 103 = .ok (.ifCond .eq 15, 3) := by decide +kernel
theorem dX4_readItem_106 : decode cX4_readItem 106 = .ok (.aload_n 0, 1) := by decide +kernel
theorem dX4_readItem_107 : decode cX4_readItem 107 = .ok (.aload_n 3, 1) := by decide +kernel
theorem dX4_readItem_108 : decode cX4_readItem 108 = .ok (.invokevirtual 36, 3) := by decide +kernel
theorem dX4_readItem_111 : decode cX4_readItem 111 = .ok (.ifCond .eq 7, 3) := by decide +kernel
theorem dX4_readItem_114 : decode cX4_readItem 114 = .ok (.iconst 1, 1) := by decide +kernel
theorem dX4_readItem_115 : decode cX4_readItem 115 = .ok (.goto 4, 3) := by decide +kernel
theorem dX4_readItem_118 : decode cX4_readItem 118 = .ok (.iconst 0, 1) := by decide +kernel
theorem dX4_readItem_119 : decode cX4_readItem 119 = .ok (.ireturn, 1) := by decide +kernel
theorem dX4_readItem_120 : decode cX4_readItem 120 = .ok (.aload_n 0, 1) := by decide +kernel
theorem dX4_readItem_121 : decode cX4_readItem 121 = .ok (.aload_n 1, 1) := by decide +kernel
theorem dX4_readItem_122 : decode cX4_readItem 122 = .ok (.iload_n 2, 1) := by decide +kernel
theorem dX4_readItem_123 : decode cX4_readItem 123 = .ok (.iconst 1, 1) := by decide +kernel
theorem dX4_readItem_124 : decode cX4_readItem 124 = .ok (.invokevirtual 28, 3) := by decide +kernel
theorem dX4_readItem_127 : decode cX4_readItem 127 = .ok (.ifCond .eq 15, 3) := by decide +kernel
theorem dX4_readItem_130 : decode cX4_readItem 130 = .ok (.aload_n 0, 1) := by decide +kernel
theorem dX4_readItem_131 : decode cX4_readItem 131 = .ok (.aload_n 3, 1) := by decide +kernel
theorem dX4_readItem_132 : decode cX4_readItem 132 = .ok (.invokevirtual 39, 3) := by decide +kernel
theorem dX4_readItem_135 : decode cX4_readItem 135 = .ok (.ifCond .eq 7, 3) := by decide +kernel
theorem dX4_readItem_138 : decode cX4_readItem 138 = .ok (.iconst 1, 1) := by decide +kernel
theorem dX4_readItem_139 : decode cX4_readItem 139 = .ok (.goto 4, 3) := by decide +kernel
theorem dX4_readItem_142 : decode cX4_readItem 142 = .ok (.iconst 0, 1) := by decide +kernel
theorem dX4_readItem_143 : decode cX4_readItem 143 = .ok (.ireturn, 1) := by decide +kernel
theorem dX4_readItem_144 : decode cX4_readItem 144 = .ok (.iconst 0, 1) := by decide +kernel
theorem dX4_readItem_145 : decode cX4_readItem 145 = .ok (.ireturn, 1) := by decide +kernel
theorem dX4_readNumbers_0 : decode cX4_readNumbers 0 = .ok (.iconst 0, 1) := by decide +kernel
theorem dX4_readNumbers_1 : decode cX4_readNumbers 1 = .ok (.istore 4, 2) := by decide +kernel
theorem dX4_readNumbers_3 : decode cX4_readNumbers 3 = .ok (.iload 4, 2) := by decide +kernel
theorem dX4_readNumbers_5 : decode cX4_readNumbers 5 = .ok (.iload_n 3, 1) := by decide +kernel
theorem dX4_readNumbers_6 : decode cX4_readNumbers 6 = .ok (.if_icmp .ge 78, 3) := by decide +kernel
theorem dX4_readNumbers_9 : decode cX4_readNumbers 9 = .ok (.iload 4, 2) := by decide +kernel
theorem dX4_readNumbers_11 : decode cX4_readNumbers 11 = .ok (.iconst 4, 1) := by decide +kernel
theorem dX4_readNumbers_12 : decode cX4_readNumbers 12 = .ok (.if_icmp .ge 72, 3) := by decide +kernel
theorem dX4_readNumbers_15 : decode cX4_readNumbers 15 = .ok (.aload_n 0, 1) := by decide +kernel
theorem dX4_readNumbers_16 : decode cX4_readNumbers 16 = .ok (.getfield 11, 3) := by decide +kernel
theorem dX4_readNumbers_19 : decode cX4_readNumbers 19 = .ok (.iload 4, 2) := by decide +kernel
theorem dX4_readNumbers_21 : decode cX4_readNumbers 21 = .ok (.aload_n 0, 1) := by decide +kernel
theorem dX4_readNumbers_22 : decode cX4_readNumbers 22 = .ok (.aload_n 1, 1) := by decide +kernel
theorem dX4_readNumbers_23 : decode cX4_readNumbers 23 = .ok (.iload_n 2, 1) := by decide +kernel
theorem dX4_readNumbers_24 : decode cX4_readNumbers 24 = .ok (.invokevirtual 42, 3) := by decide +kernel
theorem dX4_readNumbers_27 : decode cX4_readNumbers 27 = .ok (.iastore, 1) := by decide +kernel
theorem dX4_readNumbers_28 : decode cX4_readNumbers 28 = .ok (.iload 4, 2) := by decide +kernel
theorem dX4_readNumbers_30 : decode cX4_readNumbers 30 = .ok (.iconst 1, 1) := by decide +kernel
theorem dX4_readNumbers_31 : decode cX4_readNumbers 31 = .ok (.iadd, 1) := by decide +kernel
theorem dX4_readNumbers_32 : decode cX4_readNumbers 32 = .ok (.iload_n 3, 1) := by decide +kernel
theorem dX4_readNumbers_33 : decode cX4_readNumbers 33 = .ok (.if_icmp .ge 8, 3) := by decide +kernel
theorem dX4_readNumbers_36 : decode cX4_readNumbers 36 = .ok (.bipush 44, 2) := by decide +kernel
theorem dX4_readNumbers_38 : decode cX4_readNumbers 38 = .ok (.goto 5, 3) := by decide +kernel
theorem dX4_readNumbers_41 : decode cX4_readNumbers 41 = .ok (.bipush 59, 2) := by decide +kernel
theorem dX4_readNumbers_43 : decode cX4_readNumbers 43 = .ok (.istore 5, 2) := by decide +kernel
theorem dX4_readNumbers_45 : decode cX4_readNumbers 45 = .ok (.aload_n 0, 1) := by decide +kernel
theorem dX4_readNumbers_46 : decode cX4_readNumbers 46 = .ok (.getfield 11, 3) := by decide +kernel
theorem dX4_readNumbers_49 : decode cX4_readNumbers 49 = .ok (.iload 4, 2) := by decide +kernel
theorem dX4_readNumbers_51 : decode cX4_readNumbers 51 = .ok (.iaload, 1) := by decide +kernel
theorem dX4_readNumbers_52 : decode cX4_readNumbers 52 = .ok (.ifCond .lt 14, 3) := by decide +kernel
theorem dX4_readNumbers_55 : decode cX4_readNumbers 55 = .ok (.aload_n 0, 1) := by decide +kernel
theorem dX4_readNumbers_56 : decode cX4_readNumbers 56 = .ok (.aload_n 1, 1) := by decide +kernel
theorem dX4_readNumbers_57 : decode cX4_readNumbers 57 = .ok (.iload_n 2, 1) := by decide +kernel
theorem dX4_readNumbers_58 : decode cX4_readNumbers 58 = .ok (.iload 5, 2) := by decide +kernel
theorem dX4_readNumbers_60 : decode cX4_readNumbers 60 = .ok (.invokevirtual 46, 3) := by decide +kernel
theorem dX4_readNumbers_63 : decode cX4_readNumbers 63 = .ok (.ifCond .ne 5, 3) := by decide +kernel
theorem dX4_readNumbers_66 : decode cX4_readNumbers 66 = .ok (.iconst 0, 1) := by decide +kernel
theorem dX4_readNumbers_67 : decode cX4_readNumbers 67 = .ok (.ireturn, 1) := by decide +kernel
theorem dX4_readNumbers_68 : decode cX4_readNumbers 68 = .ok (.aload_n 0, 1) := by decide +kernel
theorem dX4_readNumbers_69 : decode cX4_readNumbers 69 = .ok (.dup, 1) := by decide +kernel
theorem dX4_readNumbers_70 : decode cX4_readNumbers 70 = .ok (.getfield 20, 3) := by decide +kernel
theorem dX4_readNumbers_73 : decode cX4_readNumbers 73 = .ok (.iconst 1, 1) := by decide +kernel
theorem dX4_readNumbers_74 : decode cX4_readNumbers 74 = .ok (.iadd, 1) := by decide +kernel
theorem dX4_readNumbers_75 : decode cX4_readNumbers 75 = .ok (.putfield 20, 3) := by decide +kernel
theorem dX4_readNumbers_78 : decode cX4_readNumbers 78 = .ok (.iinc 4 1, 3) := by decide +kernel
theorem dX4_readNumbers_81 : decode cX4_readNumbers 81 = .ok (.goto (-78), 3) := by decide +kernel
theorem dX4_readNumbers_84 : decode cX4_readNumbers 84 = .ok (.iconst 1, 1) := by decide +kernel
theorem dX4_readNumbers_85 : decode cX4_readNumbers 85 = .ok (.ireturn, 1) := by decide +kernel
theorem dX4_readNumber_0 : decode cX4_readNumber 0 = .ok (.iconst (-1), 1) := by decide +kernel
theorem dX4_readNumber_1 : decode cX4_readNumber 1 = .ok (.istore_n 3, 1) := by decide +kernel
theorem dX4_readNumber_2 : decode cX4_readNumber 2 = .ok (.iconst 0, 1) := by decide +kernel
theorem dX4_readNumber_3 : decode cX4_readNumber 3 = .ok (.istore 4, 2) := by decide +kernel
theorem dX4_readNumber_5 : decode cX4_readNumber 5 = .ok (.iload 4, 2) := by decide +kernel
theorem dX4_readNumber_7 : decode cX4_readNumber 7 = .ok (.iconst 2, 1) := by decide +kernel
theorem dX4_readNumber_8 : decode cX4_readNumber 8 = .ok (.if_icmp .ge 47, 3) := by decide +kernel
theorem dX4_readNumber_11 : decode cX4_readNumber 11 = .ok (.aload_n 0, 1) := by decide +kernel
theorem dX4_readNumber_12 : decode cX4_readNumber 12 = .ok (.aload_n 1, 1) := by decide +kernel
theorem dX4_readNumber_13 : decode cX4_readNumber 13 = .ok (.iload_n 2, 1) := by decide +kernel
theorem dX4_readNumber_14 : decode cX4_readNumber 14 = .ok (.invokevirtual 49, 3) := by decide +kernel
theorem dX4_readNumber_17 : decode cX4_readNumber 17 = .ok (.ifCond .eq 38, 3) := by decide +kernel
theorem dX4_readNumber_20 : decode cX4_readNumber 20 = .ok (.iload_n 3, 1) := by decide +kernel
theorem dX4_readNumber_21 : decode cX4_readNumber 21 = .ok (.iconst 0, 1) := by decide +kernel
theorem dX4_readNumber_22 : decode cX4_readNumber 22 = .ok (.invokestatic 53, 3) := by decide +kernel
theorem dX4_readNumber_25 : decode cX4_readNumber 25 = .ok (.bipush 10, 2) := by decide +kernel
theorem dX4_readNumber_27 : decode cX4_readNumber 27 = .ok (.imul, 1) := by decide +kernel
theorem dX4_readNumber_28 : decode cX4_readNumber 28 = .ok (.aload_n 1, 1) := by decide +kernel
theorem dX4_readNumber_29 : decode cX4_readNumber 29 = .ok (.aload_n 0, 1) := by decide +kernel
theorem dX4_readNumber_30 : decode cX4_readNumber 30 = .ok (.getfield 20, 3) := by decide +kernel
theorem dX4_readNumber_33 : decode cX4_readNumber 33 = .ok (.baload, 1) := by decide +kernel
theorem dX4_readNumber_34 : decode cX4_readNumber 34 = .ok (.bipush 48, 2) := by decide +kernel
theorem dX4_readNumber_36 : decode cX4_readNumber 36 = .ok (.isub, 1) := by decide +kernel
theorem dX4_readNumber_37 : decode cX4_readNumber 37 = .ok (.iadd, 1) := by decide +kernel
theorem dX4_readNumber_38 : decode cX4_readNumber 38 = .ok (.istore_n 3, 1) := by decide +kernel
theorem dX4_readNumber_39 : decode cX4_readNumber 39 = .ok (.aload_n 0, 1) := by decide +kernel
theorem dX4_readNumber_40 : decode cX4_readNumber 40 = .ok (.dup, 1) := by decide +kernel
theorem dX4_readNumber_41 : decode cX4_readNumber 41 = .ok (.getfield 20, 3) := by decide +kernel
theorem dX4_readNumber_44 : decode cX4_readNumber 44 = .ok (.iconst 1, 1) := by decide +kernel
theorem dX4_readNumber_45 : decode cX4_readNumber 45 = .ok (.iadd, 1) := by decide +kernel
theorem dX4_readNumber_46 : decode cX4_readNumber 46 = .ok (.putfield 20, 3) := by decide +kernel
theorem dX4_readNumber_49 : decode cX4_readNumber 49 = .ok (.iinc 4 1, 3) := by decide +kernel
theorem dX4_readNumber_52 : decode cX4_readNumber 52 = .ok (.goto (-47), 3) := by decide +kernel
theorem dX4_readNumber_55 : decode cX4_readNumber 55 = .ok (.iload_n 3, 1) := by decide +kernel
theorem dX4_readNumber_56 : decode cX4_readNumber 56 = .ok (.ireturn, 1) := by decide +kernel
theorem dX4_isFigure_0 : decode cX4_isFigure 0 = .ok (.aload_n 0, 1) := by decide +kernel
theorem dX4_isFigure_1 : decode cX4_isFigure 1 = .ok (.getfield 20, 3) := by decide +kernel
theorem dX4_isFigure_4 : decode cX4_isFigure 4 = .ok (.iload_n 2, 1) := by decide +kernel
theorem dX4_isFigure_5 : decode cX4_isFigure 5 = .ok (.if_icmp .ge 38, 3) := by decide +kernel
theorem dX4_isFigure_8 : decode cX4_isFigure 8 = .ok (.aload_n 0, 1) := by decide +kernel
theorem dX4_isFigure_9 : decode cX4_isFigure 9 = .ok (.getfield 20, 3) := by decide +kernel
theorem dX4_isFigure_12 : decode cX4_isFigure 12 = .ok (.aload_n 1, 1) := by decide +kernel
theorem dX4_isFigure_13 : decode cX4_isFigure 13 = .ok (.arraylength, 1) := by decide +kernel
theorem dX4_isFigure_14 : decode cX4_isFigure 14 = .ok (.if_icmp .ge 29, 3) := by decide +kernel
theorem dX4_isFigure_17 : decode cX4_isFigure 17 = .ok (.aload_n 1, 1) := by decide +kernel
theorem dX4_isFigure_18 : decode cX4_isFigure 18 = .ok (.aload_n 0, 1) := by decide +kernel
theorem dX4_isFigure_19 : decode cX4_isFigure 19 = .ok (.getfield 20, 3) := by decide +kernel
theorem dX4_isFigure_22 : decode cX4_isFigure 22 = .ok (.baload, 1) := by decide +kernel
theorem dX4_isFigure_23 : decode cX4_isFigure 23 = .ok (.bipush 48, 2) := by decide +kernel
theorem dX4_isFigure_25 : decode cX4_isFigure 25 = .ok (.if_icmp .lt 18, 3) := by decide +kernel
theorem dX4_isFigure_28 : decode cX4_isFigure 28 = .ok (.aload_n 1, 1) := by decide +kernel
theorem dX4_isFigure_29 : decode cX4_isFigure 29 = .ok (.aload_n 0, 1) := by decide +kernel
theorem dX4_isFigure_30 : decode cX4_isFigure 30 = .ok (.getfield 20, 3) := by decide +kernel
theorem dX4_isFigure_33 : decode cX4_isFigure 33 = .ok (.baload, 1) := by decide +kernel
theorem dX4_isFigure_34 : decode cX4_isFigure 34 = .ok (.bipush 57, 2) := by decide +kernel
theorem dX4_isFigure_36 : decode cX4_isFigure 36 = .ok (.if_icmp .gt 7, 3) := by decide +kernel
theorem dX4_isFigure_39 : decode cX4_isFigure 39 = .ok (.iconst 1, 1) := by decide +kernel
theorem dX4_isFigure_40 : decode cX4_isFigure 40 = .ok (.goto 4, 3) := by decide +kernel
theorem dX4_isFigure_43 : decode cX4_isFigure 43 = .ok (.iconst 0, 1) := by decide +kernel
theorem dX4_isFigure_44 : decode cX4_isFigure 44 = .ok (.ireturn, 1) := by decide +kernel
theorem dX4_isSign_0 : decode cX4_isSign 0 = .ok (.aload_n 0, 1) := by decide +kernel
theorem dX4_isSign_1 : decode cX4_isSign 1 = .ok (.getfield 20, 3) := by decide +kernel
theorem dX4_isSign_4 : decode cX4_isSign 4 = .ok (.iload_n 2, 1) := by decide +kernel
theorem dX4_isSign_5 : decode cX4_isSign 5 = .ok (.if_icmp .ge 26, 3) := by decide +kernel
theorem dX4_isSign_8 : decode cX4_isSign 8 = .ok (.aload_n 0, 1) := by decide +kernel
theorem dX4_isSign_9 : decode cX4_isSign 9 = .ok (.getfield 20, 3) := by decide +kernel
theorem dX4_isSign_12 : decode cX4_isSign 12 = .ok (.aload_n 1, 1) := by decide +kernel
theorem dX4_isSign_13 : decode cX4_isSign 13 = .ok (.arraylength, 1) := by decide +kernel
theorem dX4_isSign_14 : decode cX4_isSign 14 = .ok (.if_icmp .ge 17, 3) := by decide +kernel
theorem dX4_isSign_17 : decode cX4_isSign 17 = .ok (.aload_n 1, 1) := by decide +kernel
theorem dX4_isSign_18 : decode cX4_isSign 18 = .ok (.aload_n 0, 1) := by decide +kernel
theorem dX4_isSign_19 : decode cX4_isSign 19 = .ok (.getfield 20, 3) := by decide +kernel
theorem dX4_isSign_22 : decode cX4_isSign 22 = .ok (.baload, 1) := by decide +kernel
theorem dX4_isSign_23 : decode cX4_isSign 23 = .ok (.iload_n 3, 1) := by decide +kernel
theorem dX4_isSign_24 : decode cX4_isSign 24 = .ok (.if_icmp .ne 7, 3) := by decide +kernel
theorem dX4_isSign_27 : decode cX4_isSign 27 = .ok (.iconst 1, 1) := by decide +kernel
theorem dX4_isSign_28 : decode cX4_isSign 28 = .ok (.goto 4, 3) := by decide +kernel
theorem dX4_isSign_31 : decode cX4_isSign 31 = .ok (.iconst 0, 1) := by decide +kernel
theorem dX4_isSign_32 : decode cX4_isSign 32 = .ok (.ireturn, 1) := by decide +kernel
theorem dX4_takeSack_0 : decode cX4_takeSack 0 = .ok (.aload_n 1, 1) := by decide +kernel
theorem dX4_takeSack_1 : decode cX4_takeSack 1 = .ok (.getfield 59, 3) := by decide +kernel
theorem dX4_takeSack_4 : decode cX4_takeSack 4 = .ok (.bipush 8, 2) := by decide +kernel
theorem dX4_takeSack_6 : decode cX4_takeSack 6 = .ok (.if_icmp .ge 48, 3) := by decide +kernel
theorem dX4_takeSack_9 : decode cX4_takeSack 9 = .ok (.aload_n 0, 1) := by decide +kernel
theorem dX4_takeSack_10 : decode cX4_takeSack 10 = .ok (.getfield 11, 3) := by decide +kernel
theorem dX4_takeSack_13 : decode cX4_takeSack 13 = .ok (.iconst 0, 1) := by decide +kernel
theorem dX4_takeSack_14 : decode cX4_takeSack 14 = .ok (.iaload, 1) := by decide +kernel
theorem dX4_takeSack_15 : decode cX4_takeSack 15 = .ok (.invokestatic 62, 3) := by decide +kernel
theorem dX4_takeSack_18 : decode cX4_takeSack 18 = .ok (.ifCond .eq 36, 3) := by decide +kernel
theorem dX4_takeSack_21 : decode cX4_takeSack 21 = .ok (.aload_n 0, 1) := by decide +kernel
theorem dX4_takeSack_22 : decode cX4_takeSack 22 = .ok (.getfield 11, 3) := by decide +kernel
theorem dX4_takeSack_25 : decode cX4_takeSack 25 = .ok (.iconst 2, 1) := by decide +kernel
theorem dX4_takeSack_26 : decode cX4_takeSack 26 = .ok (.iaload, 1) := by decide +kernel
theorem dX4_takeSack_27 : decode cX4_takeSack 27 = .ok (.invokestatic 66, 3) := by decide +kernel
theorem dX4_takeSack_30 : decode cX4_takeSack 30 = .ok (.ifCond .eq 24, 3) := by decide +kernel
theorem dX4_takeSack_33 : decode cX4_takeSack 33 = .ok (.aload_n 0, 1) := by decide +kernel
theorem dX4_takeSack_34 : decode cX4_takeSack 34 = .ok (.getfield 11, 3) := by decide +kernel
theorem dX4_takeSack_37 : decode cX4_takeSack 37 = .ok (.iconst 1, 1) := by decide +kernel
theorem dX4_takeSack_38 : decode cX4_takeSack 38 = .ok (.iaload, 1) := by decide +kernel
theorem dX4_takeSack_39 : decode cX4_takeSack 39 = .ok (.iconst 1, 1) := by decide +kernel
theorem dX4_takeSack_40 : decode cX4_takeSack 40 = .ok (.if_icmp .lt 14, 3) := by decide +kernel
theorem dX4_takeSack_43 : decode cX4_takeSack 43 = .ok (.aload_n 0, 1) := by decide +kernel
theorem dX4_takeSack_44 : decode cX4_takeSack 44 = .ok (.getfield 11, 3) := by decide +kernel
theorem dX4_takeSack_47 : decode cX4_takeSack 47 = .ok (.iconst 1, 1) := by decide +kernel
theorem dX4_takeSack_48 : decode cX4_takeSack 48 = .ok (.iaload, 1) := by decide +kernel
theorem dX4_takeSack_49 : decode cX4_takeSack 49 = .ok (.bipush 9, 2) := by decide +kernel
theorem dX4_takeSack_51 : decode cX4_takeSack 51 = .ok (.if_icmp .le 5, 3) := by decide +kernel
theorem dX4_takeSack_54 : decode cX4_takeSack 54 = .ok (.iconst 0, 1) := by decide +kernel
theorem dX4_takeSack_55 : decode cX4_takeSack 55 = .ok (.ireturn, 1) := by decide +kernel
theorem dX4_takeSack_56 : decode cX4_takeSack 56 = .ok (.aload_n 1, 1) := by decide +kernel
theorem dX4_takeSack_57 : decode cX4_takeSack 57 = .ok (.aload_n 0, 1) := by decide +kernel
theorem dX4_takeSack_58 : decode cX4_takeSack 58 = .ok (.getfield 11, 3) := by decide +kernel
theorem dX4_takeSack_61 : decode cX4_takeSack 61 = .ok (.iconst 0, 1) := by decide +kernel
theorem dX4_takeSack_62 : decode cX4_takeSack 62 = .ok (.iaload, 1) := by decide +kernel
theorem dX4_takeSack_63 : decode cX4_takeSack 63 = .ok (.aload_n 0, 1) := by decide +kernel
theorem dX4_takeSack_64 : decode cX4_takeSack 64 = .ok (.getfield 11, 3) := by decide +kernel
theorem dX4_takeSack_67 : decode cX4_takeSack 67 = .ok (.iconst 1, 1) := by decide +kernel
theorem dX4_takeSack_68 : decode cX4_takeSack 68 = .ok (.iaload, 1) := by decide +kernel
theorem dX4_takeSack_69 : decode cX4_takeSack 69 = .ok (.aload_n 0, 1) := by decide +kernel
theorem dX4_takeSack_70 : decode cX4_takeSack 70 = .ok (.getfield 11, 3) := by decide +kernel
theorem dX4_takeSack_73 : decode cX4_takeSack 73 = .ok (.iconst 2, 1) := by decide +kernel
theorem dX4_takeSack_74 : decode cX4_takeSack 74 = .ok (.iaload, 1) := by decide +kernel
theorem dX4_takeSack_75 : decode cX4_takeSack 75 = .ok (.aload_n 0, 1) := by decide +kernel
theorem dX4_takeSack_76 : decode cX4_takeSack 76 = .ok (.getfield 11, 3) := by decide +kernel
theorem dX4_takeSack_79 : decode cX4_takeSack 79 = .ok (.iconst 3, 1) := by decide +kernel
theorem dX4_takeSack_80 : decode cX4_takeSack 80 = .ok (.iaload, 1) := by decide +kernel
theorem dX4_takeSack_81 : decode cX4_takeSack 81 = .ok (.invokevirtual 69, 3) := by decide +kernel
theorem dX4_takeSack_84 : decode cX4_takeSack 84 = .ok (.iconst 1, 1) := by decide +kernel
theorem dX4_takeSack_85 : decode cX4_takeSack 85 = .ok (.ireturn, 1) := by decide +kernel
theorem dX4_takeLaw_0 : decode cX4_takeLaw 0 = .ok (.aload_n 0, 1) := by decide +kernel
theorem dX4_takeLaw_1 : decode cX4_takeLaw 1 = .ok (.getfield 11, 3) := by decide +kernel
theorem dX4_takeLaw_4 : decode cX4_takeLaw 4 = .ok (.iconst 0, 1) := by decide +kernel
theorem dX4_takeLaw_5 : decode cX4_takeLaw 5 = .ok (.iaload, 1) := by decide +kernel
theorem dX4_takeLaw_6 : decode cX4_takeLaw 6 = .ok (.ifCond .eq 15, 3) := by decide +kernel
theorem dX4_takeLaw_9 : decode cX4_takeLaw 9 = .ok (.aload_n 0, 1) := by decide +kernel
theorem dX4_takeLaw_10 : decode cX4_takeLaw 10 = .ok (.getfield 11, 3) := by decide +kernel
theorem dX4_takeLaw_13 : decode cX4_takeLaw 13 = .ok (.iconst 0, 1) := by decide +kernel
theorem dX4_takeLaw_14 : decode cX4_takeLaw 14 = .ok (.iaload, 1) := by decide +kernel
theorem dX4_takeLaw_15 : decode cX4_takeLaw 15 = .ok (.iconst 1, 1) := by decide +kernel
theorem dX4_takeLaw_16 : decode cX4_takeLaw 16 = .ok (.if_icmp .eq 5, 3) := by decide +kernel
theorem dX4_takeLaw_19 : decode cX4_takeLaw 19 = .ok (.iconst 0, 1) := by decide +kernel
theorem dX4_takeLaw_20 : decode cX4_takeLaw 20 = .ok (.ireturn, 1) := by decide +kernel
theorem dX4_takeLaw_21 : decode cX4_takeLaw 21 = .ok (.aload_n 1, 1) := by decide +kernel
theorem dX4_takeLaw_22 : decode cX4_takeLaw 22 = .ok (.aload_n 0, 1) := by decide +kernel
theorem dX4_takeLaw_23 : decode cX4_takeLaw 23 = .ok (.getfield 11, 3) := by decide +kernel
theorem dX4_takeLaw_26 : decode cX4_takeLaw 26 = .ok (.iconst 0, 1) := by decide +kernel
theorem dX4_takeLaw_27 : decode cX4_takeLaw 27 = .ok (.iaload, 1) := by decide +kernel
theorem dX4_takeLaw_28 : decode cX4_takeLaw 28 = .ok (.putfield 73, 3) := by decide +kernel
theorem dX4_takeLaw_31 : decode cX4_takeLaw 31 = .ok (.iconst 1, 1) := by decide +kernel
theorem dX4_takeLaw_32 : decode cX4_takeLaw 32 = .ok (.ireturn, 1) := by decide +kernel
theorem dX4_takePrice_0 : decode cX4_takePrice 0 = .ok (.aload_n 1, 1) := by decide +kernel
theorem dX4_takePrice_1 : decode cX4_takePrice 1 = .ok (.aload_n 0, 1) := by decide +kernel
theorem dX4_takePrice_2 : decode cX4_takePrice 2 = .ok (.getfield 11, 3) := by decide +kernel
theorem dX4_takePrice_5 : decode cX4_takePrice 5 = .ok (.iconst 0, 1) := by decide +kernel
theorem dX4_takePrice_6 : decode cX4_takePrice 6 = .ok (.iaload, 1) := by decide +kernel
theorem dX4_takePrice_7 : decode cX4_takePrice 7 = .ok (.putfield 76, 3) := by decide +kernel
theorem dX4_takePrice_10 : decode cX4_takePrice 10 = .ok (.iconst 1, 1) := by decide +kernel
theorem dX4_takePrice_11 : decode cX4_takePrice 11 = .ok (.ireturn, 1) := by decide +kernel
theorem dX5_init_0 : decode cX5_init 0 = .ok (.aload_n 0, 1) := by decide +kernel
theorem dX5_init_1 : decode cX5_init 1 = .ok (.invokespecial 3, 3) := by decide +kernel
theorem dX5_init_4 : decode cX5_init 4 = .ok (.aload_n 0, 1) := by decide +kernel
theorem dX5_init_5 : decode cX5_init 5 = .ok (.iconst 5, 1) := by decide +kernel
theorem dX5_init_6 : decode cX5_init 6 = .ok (.newarray .int, 2) := by decide +kernel
theorem dX5_init_8 : decode cX5_init 8 = .ok (.putfield 9, 3) := by decide +kernel
theorem dX5_init_11 : decode cX5_init 11 = .ok (.return_, 1) := by decide +kernel
theorem dX5_start_0 : decode cX5_start 0 = .ok (.aload_n 0, 1) := by decide +kernel
theorem dX5_start_1 : decode cX5_start 1 = .ok (.iload_n 1, 1) := by decide +kernel
theorem dX5_start_2 : decode cX5_start 2 = .ok (.putfield 15, 3) := by decide +kernel
theorem dX5_start_5 : decode cX5_start 5 = .ok (.aload_n 0, 1) := by decide +kernel
theorem dX5_start_6 : decode cX5_start 6 = .ok (.getfield 9, 3) := by decide +kernel
theorem dX5_start_9 : decode cX5_start 9 = .ok (.iconst 0, 1) := by decide +kernel
theorem dX5_start_10 : decode cX5_start 10 = .ok (.invokestatic 19, 3) := by decide +kernel
theorem dX5_start_13 : decode cX5_start 13 = .ok (.aload_n 0, 1) := by decide +kernel
theorem dX5_start_14 : decode cX5_start 14 = .ok (.iconst 5, 1) := by decide +kernel
theorem dX5_start_15 : decode cX5_start 15 = .ok (.putfield 25, 3) := by decide +kernel
theorem dX5_start_18 : decode cX5_start 18 = .ok (.aload_n 0, 1) := by decide +kernel
theorem dX5_start_19 : decode cX5_start 19 = .ok (.iconst 5, 1) := by decide +kernel
theorem dX5_start_20 : decode cX5_start 20 = .ok (.putfield 28, 3) := by decide +kernel
theorem dX5_start_23 : decode cX5_start 23 = .ok (.aload_n 0, 1) := by decide +kernel
theorem dX5_start_24 : decode cX5_start 24 = .ok (.iconst 0, 1) := by decide +kernel
theorem dX5_start_25 : decode cX5_start 25 = .ok (.putfield 31, 3) := by decide +kernel
theorem dX5_start_28 : decode cX5_start 28 = .ok (.return_, 1) := by decide +kernel
theorem dX5_bring_0 : decode cX5_bring 0 = .ok (.iload_n 1, 1) := by decide +kernel
theorem dX5_bring_1 : decode cX5_bring 1 = .ok (.invokestatic 34, 3) := by decide +kernel
theorem dX5_bring_4 : decode cX5_bring 4 = .ok (.ifCond .ne 4, 3) := by decide +kernel
theorem dX5_bring_7 : decode cX5_bring 7 = .ok (.return_, 1) := by decide +kernel
theorem dX5_bring_8 : decode cX5_bring 8 = .ok (.iload_n 1, 1) := by decide +kernel
theorem dX5_bring_9 : decode cX5_bring 9 = .ok (.aload_n 0, 1) := by decide +kernel
theorem dX5_bring_10 : decode cX5_bring 10 = .ok (.getfield 25, 3) := by decide +kernel
theorem dX5_bring_13 : decode cX5_bring 13 = .ok (.aload_n 0, 1) := by decide +kernel
theorem dX5_bring_14 : decode cX5_bring 14 = .ok (.getfield 28, 3) := by decide +kernel
theorem dX5_bring_17 : decode cX5_bring 17 = .ok (.invokestatic 38, 3) := by decide +kernel
theorem dX5_bring_20 : decode cX5_bring 20 = .ok (.ifCond .ne 14, 3) := by decide +kernel
theorem dX5_bring_23 : decode cX5_bring 23 = .ok (.aload_n 0, 1) := by decide +kernel
theorem dX5_bring_24 : decode cX5_bring 24 = .ok (.getfield 9, 3) := by decide +kernel
theorem dX5_bring_27 : decode cX5_bring 27 = .ok (.iload_n 1, 1) := by decide +kernel
theorem dX5_bring_28 : decode cX5_bring 28 = .ok (.dup2, 1) := by decide +kernel
theorem dX5_bring_29 : decode cX5_bring 29 = .ok (.iaload, 1) := by decide +kernel
theorem dX5_bring_30 : decode cX5_bring 30 = .ok (.iconst 1, 1) := by decide +kernel
theorem dX5_bring_31 : decode cX5_bring 31 = .ok (.iadd, 1) := by decide +kernel
theorem dX5_bring_32 : decode cX5_bring 32 = .ok (.iastore, 1) := by decide +kernel
theorem dX5_bring_33 : decode cX5_bring 33 = .ok (.return_, 1) := by decide +kernel
theorem dX5_bring_34 : decode cX5_bring 34 = .ok (.aload_n 0, 1) := by decide +kernel
theorem dX5_bring_35 : decode cX5_bring 35 = .ok (.iload_n 1, 1) := by decide +kernel
theorem dX5_bring_36 : decode cX5_bring 36 = .ok (.invokevirtual 42, 3) := by decide +kernel
theorem dX5_bring_39 : decode cX5_bring 39 = .ok (.aload_n 0, 1) := by decide +kernel
theorem dX5_bring_40 : decode cX5_bring 40 = .ok (.invokevirtual 46, 3) := by decide +kernel
theorem dX5_bring_43 : decode cX5_bring 43 = .ok (.istore_n 2, 1) := by decide +kernel
theorem dX5_bring_44 : decode cX5_bring 44 = .ok (.iconst 0, 1) := by decide +kernel
theorem dX5_bring_45 : decode cX5_bring 45 = .ok (.istore_n 3, 1) := by decide +kernel
theorem dX5_bring_46 : decode cX5_bring 46 = .ok (.iload_n 3, 1) := by decide +kernel
theorem dX5_bring_47 : decode cX5_bring 47 = .ok (.bipush 100, 2) := by decide +kernel
theorem dX5_bring_49 : decode cX5_bring 49 = .ok (.if_icmp .ge 36, 3) := by decide +kernel
theorem dX5_bring_52 : decode cX5_bring 52 = .ok (.iload_n 2, 1) := by decide +kernel
theorem dX5_bring_53 : decode cX5_bring 53 = .ok (.invokestatic 34, 3) := by decide +kernel
theorem dX5_bring_56 : decode cX5_bring 56 = .ok (.ifCond .eq 29, 3) := by decide +kernel
theorem dX5_bring_59 : decode cX5_bring 59 = .ok (.aload_n 0, 1) := by decide +kernel
theorem dX5_bring_60 : decode cX5_bring 60 = .ok (.getfield 9, 3) := by decide +kernel
theorem dX5_bring_63 : decode cX5_bring 63 = .ok (.iload_n 2, 1) := by decide +kernel
theorem dX5_bring_64 : decode cX5_bring 64 = .ok (.dup2, 1) := by decide +kernel
theorem dX5_bring_65 : decode cX5_bring 65 = .ok (.iaload, 1) := by decide +kernel
theorem dX5_bring_66 : decode cX5_bring 66 = .ok (.iconst 1, 1) := by decide +kernel
theorem dX5_bring_67 : decode cX5_bring 67 = .ok (.isub, 1) := by decide +kernel
theorem dX5_bring_68 : decode cX5_bring 68 = .ok (.iastore, 1) := by decide +kernel
theorem dX5_bring_69 : decode cX5_bring 69 = .ok (.aload_n 0, 1) := by decide +kernel
theorem dX5_bring_70 : decode cX5_bring 70 = .ok (.iload_n 2, 1) := by decide +kernel
theorem dX5_bring_71 : decode cX5_bring 71 = .ok (.invokevirtual 42, 3) := by decide +kernel
theorem dX5_bring_74 : decode cX5_bring 74 = .ok (.aload_n 0, 1) := by decide +kernel
theorem dX5_bring_75 : decode cX5_bring 75 = .ok (.invokevirtual 46, 3) := by decide +kernel
theorem dX5_bring_78 : decode cX5_bring 78 = .ok (.istore_n 2, 1) := by decide +kernel
theorem dX5_bring_79 : decode cX5_bring 79 = .ok (.iinc 3 1, 3) := by decide +kernel
theorem dX5_bring_82 : decode cX5_bring 82 = .ok (.goto (-36), 3) := by decide +kernel
theorem dX5_bring_85 : decode cX5_bring 85 = .ok (.return_, 1) := by decide +kernel
theorem dX5_take_0 : decode cX5_take 0 = .ok (.aload_n 0, 1) := by decide +kernel
theorem dX5_take_1 : decode cX5_take 1 = .ok (.aload_n 0, 1) := by decide +kernel
theorem dX5_take_2 : decode cX5_take 2 = .ok (.getfield 15, 3) := by decide +kernel
theorem dX5_take_5 : decode cX5_take 5 = .ok (.aload_n 0, 1) := by decide +kernel
theorem dX5_take_6 : decode cX5_take 6 = .ok (.getfield 25, 3) := by decide +kernel
theorem dX5_take_9 : decode cX5_take 9 = .ok (.invokestatic 50, 3) := by decide +kernel
theorem dX5_take_12 : decode cX5_take 12 = .ok (.putfield 28, 3) := by decide +kernel
theorem dX5_take_15 : decode cX5_take 15 = .ok (.aload_n 0, 1) := by decide +kernel
theorem dX5_take_16 : decode cX5_take 16 = .ok (.iload_n 1, 1) := by decide +kernel
theorem dX5_take_17 : decode cX5_take 17 = .ok (.putfield 25, 3) := by decide +kernel
theorem dX5_take_20 : decode cX5_take 20 = .ok (.aload_n 0, 1) := by decide +kernel
theorem dX5_take_21 : decode cX5_take 21 = .ok (.dup, 1) := by decide +kernel
theorem dX5_take_22 : decode cX5_take 22 = .ok (.getfield 31, 3) := by decide +kernel
theorem dX5_take_25 : decode cX5_take 25 = .ok (.iconst 1, 1) := by decide +kernel
theorem dX5_take_26 : decode cX5_take 26 = .ok (.iadd, 1) := by decide +kernel
theorem dX5_take_27 : decode cX5_take 27 = .ok (.putfield 31, 3) := by decide +kernel
theorem dX5_take_30 : decode cX5_take 30 = .ok (.return_, 1) := by decide +kernel
theorem dX5_lowestPutBy_0 : decode cX5_lowestPutBy 0 = .ok (.iconst 0, 1) := by decide +kernel
theorem dX5_lowestPutBy_1 : decode cX5_lowestPutBy 1 = .ok (.istore_n 1, 1) := by decide +kernel
theorem dX5_lowestPutBy_2 : decode cX5_lowestPutBy 2 = .ok (.iload_n 1, 1) := by decide +kernel
theorem dX5_lowestPutBy_3 : decode cX5_lowestPutBy 3 = .ok (.iconst 5, 1) := by decide +kernel
theorem dX5_lowestPutBy_4 : decode cX5_lowestPutBy 4 = .ok (.if_icmp .ge 35, 3) := by decide +kernel
theorem dX5_lowestPutBy_7 : decode cX5_lowestPutBy 7 = .ok (.aload_n 0, 1) := by decide +kernel
theorem dX5_lowestPutBy_8 : decode cX5_lowestPutBy 8 = .ok (.getfield 9, 3) := by decide +kernel
theorem dX5_lowestPutBy_11 : decode cX5_lowestPutBy 11 = .ok (.iload_n 1, 1) := by decide +kernel
theorem dX5_lowestPutBy_12 : decode cX5_lowestPutBy 12 = .ok (.iaload, 1) := by decide +kernel
theorem dX5_lowestPutBy_13 : decode cX5_lowestPutBy 13 = .ok (.ifCond .le 20, 3) := by decide +kernel
theorem dX5_lowestPutBy_16 : decode cX5_lowestPutBy 16 = .ok (.iload_n 1, 1) := by decide +kernel
theorem dX5_lowestPutBy_17 : decode cX5_lowestPutBy 17 = .ok (.aload_n 0, 1) := by decide +kernel
theorem dX5_lowestPutBy_18 : decode cX5_lowestPutBy 18 = .ok (.getfield 25, 3) := by decide +kernel
theorem dX5_lowestPutBy_21 : decode cX5_lowestPutBy 21 = .ok (.aload_n 0, 1) := by decide +kernel
theorem dX5_lowestPutBy_22 : decode cX5_lowestPutBy 22 = .ok (.getfield 28, 3) := by decide +kernel
theorem dX5_lowestPutBy_25 : decode cX5_lowestPutBy 25 = .ok (.invokestatic 38, 3) := by decide +kernel
theorem dX5_lowestPutBy_28 : decode cX5_lowestPutBy 28 = .ok (.ifCond .eq 5, 3) := by decide +kernel
theorem dX5_lowestPutBy_31 : decode cX5_lowestPutBy 31 = .ok (.iload_n 1, 1) := by decide +kernel
theorem dX5_lowestPutBy_32 : decode cX5_lowestPutBy 32 = .ok (.ireturn, 1) := by decide +kernel
theorem dX5_lowestPutBy_33 : decode cX5_lowestPutBy 33 = .ok (.iinc 1 1, 3) := by decide +kernel
theorem dX5_lowestPutBy_36 : decode cX5_lowestPutBy 36 = .ok (.goto (-34), 3) := by decide +kernel
theorem dX5_lowestPutBy_39 : decode cX5_lowestPutBy 39 = .ok (.bipush (-4), 2) := by decide +kernel
theorem dX5_lowestPutBy_41 : decode cX5_lowestPutBy 41 = .ok (.ireturn, 1) := by decide +kernel
theorem dX6_init_0 : decode cX6_init 0 = .ok (.aload_n 0, 1) := by decide +kernel
theorem dX6_init_1 : decode cX6_init 1 = .ok (.invokespecial 3, 3) := by decide +kernel
theorem dX6_init_4 : decode cX6_init 4 = .ok (.aload_n 0, 1) := by decide +kernel
theorem dX6_init_5 : decode cX6_init 5 = .ok (.sipush 300, 3) := by decide +kernel
theorem dX6_init_8 : decode cX6_init 8 = .ok (.newarray .byte, 2) := by decide +kernel
theorem dX6_init_10 : decode cX6_init 10 = .ok (.putfield 9, 3) := by decide +kernel
theorem dX6_init_13 : decode cX6_init 13 = .ok (.aload_n 0, 1) := by decide +kernel
theorem dX6_init_14 : decode cX6_init 14 = .ok (.new 13, 3) := by decide +kernel
theorem dX6_init_17 : decode cX6_init 17 = .ok (.dup, 1) := by decide +kernel
theorem dX6_init_18 : decode cX6_init 18 = .ok (.invokespecial 15, 3) := by decide +kernel
theorem dX6_init_21 : decode cX6_init 21 = .ok (.putfield 16, 3) := by decide +kernel
theorem dX6_init_24 : decode cX6_init 24 = .ok (.aload_n 0, 1) := by decide +kernel
theorem dX6_init_25 : decode cX6_init 25 = .ok (.new 20, 3) := by decide +kernel
theorem dX6_init_28 : decode cX6_init 28 = .ok (.dup, 1) := by decide +kernel
theorem dX6_init_29 : decode cX6_init 29 = .ok (.invokespecial 22, 3) := by decide +kernel
theorem dX6_init_32 : decode cX6_init 32 = .ok (.putfield 23, 3) := by decide +kernel
theorem dX6_init_35 : decode cX6_init 35 = .ok (.aload_n 0, 1) := by decide +kernel
theorem dX6_init_36 : decode cX6_init 36 = .ok (.new 20, 3) := by decide +kernel
theorem dX6_init_39 : decode cX6_init 39 = .ok (.dup, 1) := by decide +kernel
theorem dX6_init_40 : decode cX6_init 40 = .ok (.invokespecial 22, 3) := by decide +kernel
theorem dX6_init_43 : decode cX6_init 43 = .ok (.putfield 27, 3) := by decide +kernel
theorem dX6_init_46 : decode cX6_init 46 = .ok (.aload_n 0, 1) := by decide +kernel
theorem dX6_init_47 : decode cX6_init 47 = .ok (.bipush 8, 2) := by decide +kernel
theorem dX6_init_49 : decode cX6_init 49 = .ok (.anewarray 20, 3) := by decide +kernel
theorem dX6_init_52 : decode cX6_init 52 = .ok (.putfield 30, 3) := by decide +kernel
theorem dX6_init_55 : decode cX6_init 55 = .ok (.iconst 0, 1) := by decide +kernel
theorem dX6_init_56 : decode cX6_init 56 = .ok (.istore_n 1, 1) := by decide +kernel
theorem dX6_init_57 : decode cX6_init 57 = .ok (.iload_n 1, 1) := by decide +kernel
theorem dX6_init_58 : decode cX6_init 58 = .ok (.bipush 8, 2) := by decide +kernel
theorem dX6_init_60 : decode cX6_init 60 = .ok (.if_icmp .ge 22, 3) := by decide +kernel
theorem dX6_init_63 : decode cX6_init 63 = .ok (.aload_n 0, 1) := by decide +kernel
theorem dX6_init_64 : decode cX6_init 64 = .ok (.getfield 30, 3) := by decide +kernel
theorem dX6_init_67 : decode cX6_init 67 = .ok (.iload_n 1, 1) := by decide +kernel
theorem dX6_init_68 : decode cX6_init 68 = .ok (.new 20, 3) := by decide +kernel
theorem dX6_init_71 : decode cX6_init 71 = .ok (.dup, 1) := by decide +kernel
theorem dX6_init_72 : decode cX6_init 72 = .ok (.invokespecial 22, 3) := by decide +kernel
theorem dX6_init_75 : decode cX6_init 75 = .ok (.aastore, 1) := by decide +kernel
theorem dX6_init_76 : decode cX6_init 76 = .ok (.iinc 1 1, 3) := by decide +kernel
theorem dX6_init_79 : decode cX6_init 79 = .ok (.goto (-22), 3) := by decide +kernel
theorem dX6_init_82 : decode cX6_init 82 = .ok (.aload_n 0, 1) := by decide +kernel
theorem dX6_init_83 : decode cX6_init 83 = .ok (.iconst 2, 1) := by decide +kernel
theorem dX6_init_84 : decode cX6_init 84 = .ok (.anewarray 20, 3) := by decide +kernel
theorem dX6_init_87 : decode cX6_init 87 = .ok (.putfield 34, 3) := by decide +kernel
theorem dX6_init_90 : decode cX6_init 90 = .ok (.iconst 0, 1) := by decide +kernel
theorem dX6_init_91 : decode cX6_init 91 = .ok (.istore_n 1, 1) := by decide +kernel
theorem dX6_init_92 : decode cX6_init 92 = .ok (.iload_n 1, 1) := by decide +kernel
theorem dX6_init_93 : decode cX6_init 93 = .ok (.iconst 2, 1) := by decide +kernel
theorem dX6_init_94 : decode cX6_init 94 = .ok (.if_icmp .ge 22, 3) := by decide +kernel
theorem dX6_init_97 : decode cX6_init 97 = .ok (.aload_n 0, 1) := by decide +kernel
theorem dX6_init_98 : decode cX6_init 98 = .ok (.getfield 34, 3) := by decide +kernel
theorem dX6_init_101 : decode cX6_init 101 = .ok (.iload_n 1, 1) := by decide +kernel
theorem dX6_init_102 : decode cX6_init 102 = .ok (.new 20, 3) := by decide +kernel
theorem dX6_init_105 : decode cX6_init 105 = .ok (.dup, 1) := by decide +kernel
theorem dX6_init_106 : decode cX6_init 106 = .ok (.invokespecial 22, 3) := by decide +kernel
theorem dX6_init_109 : decode cX6_init 109 = .ok (.aastore, 1) := by decide +kernel
theorem dX6_init_110 : decode cX6_init 110 = .ok (.iinc 1 1, 3) := by decide +kernel
theorem dX6_init_113 : decode cX6_init 113 = .ok (.goto (-21), 3) := by decide +kernel
theorem dX6_init_116 : decode cX6_init 116 = .ok (.aload_n 0, 1) := by decide +kernel
theorem dX6_init_117 : decode cX6_init 117 = .ok (.bipush 10, 2) := by decide +kernel
theorem dX6_init_119 : decode cX6_init 119 = .ok (.newarray .int, 2) := by decide +kernel
theorem dX6_init_121 : decode cX6_init 121 = .ok (.putfield 37, 3) := by decide +kernel
theorem dX6_init_124 : decode cX6_init 124 = .ok (.aload_n 0, 1) := by decide +kernel
theorem dX6_init_125 : decode cX6_init 125 = .ok (.new 41, 3) := by decide +kernel
theorem dX6_init_128 : decode cX6_init 128 = .ok (.dup, 1) := by decide +kernel
theorem dX6_init_129 : decode cX6_init 129 = .ok (.invokespecial 43, 3) := by decide +kernel
theorem dX6_init_132 : decode cX6_init 132 = .ok (.putfield 44, 3) := by decide +kernel
theorem dX6_init_135 : decode cX6_init 135 = .ok (.aload_n 0, 1) := by decide +kernel
theorem dX6_init_136 : decode cX6_init 136 = .ok (.new 48, 3) := by decide +kernel
theorem dX6_init_139 : decode cX6_init 139 = .ok (.dup, 1) := by decide +kernel
theorem dX6_init_140 : decode cX6_init 140 = .ok (.invokespecial 50, 3) := by decide +kernel
theorem dX6_init_143 : decode cX6_init 143 = .ok (.putfield 51, 3) := by decide +kernel
theorem dX6_init_146 : decode cX6_init 146 = .ok (.aload_n 0, 1) := by decide +kernel
theorem dX6_init_147 : decode cX6_init 147 = .ok (.new 55, 3) := by decide +kernel
theorem dX6_init_150 : decode cX6_init 150 = .ok (.dup, 1) := by decide +kernel
theorem dX6_init_151 : decode cX6_init 151 = .ok (.invokespecial 57, 3) := by decide +kernel
theorem dX6_init_154 : decode cX6_init 154 = .ok (.putfield 58, 3) := by decide +kernel
theorem dX6_init_157 : decode cX6_init 157 = .ok (.aload_n 0, 1) := by decide +kernel
theorem dX6_init_158 : decode cX6_init 158 = .ok (.new 62, 3) := by decide +kernel
theorem dX6_init_161 : decode cX6_init 161 = .ok (.dup, 1) := by decide +kernel
theorem dX6_init_162 : decode cX6_init 162 = .ok (.invokespecial 64, 3) := by decide +kernel
theorem dX6_init_165 : decode cX6_init 165 = .ok (.putfield 65, 3) := by decide +kernel
theorem dX6_init_168 : decode cX6_init 168 = .ok (.aload_n 0, 1) := by decide +kernel
theorem dX6_init_169 : decode cX6_init 169 = .ok (.getfield 27, 3) := by decide +kernel
theorem dX6_init_172 : decode cX6_init 172 = .ok (.iconst 0, 1) := by decide +kernel
theorem dX6_init_173 : decode cX6_init 173 = .ok (.iconst 2, 1) := by decide +kernel
theorem dX6_init_174 : decode cX6_init 174 = .ok (.iconst 0, 1) := by decide +kernel
theorem dX6_init_175 : decode cX6_init 175 = .ok (.iconst 0, 1) := by decide +kernel
theorem dX6_init_176 : decode cX6_init 176 = .ok (.invokevirtual 69, 3) := by decide +kernel
theorem dX6_init_179 : decode cX6_init 179 = .ok (.aload_n 0, 1) := by decide +kernel
theorem dX6_init_180 : decode cX6_init 180 = .ok (.getfield 27, 3) := by decide +kernel
theorem dX6_init_183 : decode cX6_init 183 = .ok (.iconst 1, 1) := by decide +kernel
theorem dX6_init_184 : decode cX6_init 184 = .ok (.iconst 3, 1) := by decide +kernel
theorem dX6_init_185 : decode cX6_init 185 = .ok (.iconst 1, 1) := by decide +kernel
theorem dX6_init_186 : decode cX6_init 186 = .ok (.iconst 0, 1) := by decide +kernel
theorem dX6_init_187 : decode cX6_init 187 = .ok (.invokevirtual 69, 3) := by decide +kernel
theorem dX6_init_190 : decode cX6_init 190 = .ok (.aload_n 0, 1) := by decide +kernel
theorem dX6_init_191 : decode cX6_init 191 = .ok (.getfield 27, 3) := by decide +kernel
theorem dX6_init_194 : decode cX6_init 194 = .ok (.iconst 0, 1) := by decide +kernel
theorem dX6_init_195 : decode cX6_init 195 = .ok (.iconst 1, 1) := by decide +kernel
theorem dX6_init_196 : decode cX6_init 196 = .ok (.iconst 0, 1) := by decide +kernel
theorem dX6_init_197 : decode cX6_init 197 = .ok (.iconst 5, 1) := by decide +kernel
theorem dX6_init_198 : decode cX6_init 198 = .ok (.invokevirtual 69, 3) := by decide +kernel
theorem dX6_init_201 : decode cX6_init 201 = .ok (.return_, 1) := by decide +kernel
theorem dX6_write_0 : decode cX6_write 0 = .ok (.iload_n 1, 1) := by decide +kernel
theorem dX6_write_1 : decode cX6_write 1 = .ok (.iconst 1, 1) := by decide +kernel
theorem dX6_write_2 : decode cX6_write 2 = .ok (.if_icmp .lt 9, 3) := by decide +kernel
theorem dX6_write_5 : decode cX6_write 5 = .ok (.iload_n 1, 1) := by decide +kernel
theorem dX6_write_6 : decode cX6_write 6 = .ok (.bipush 8, 2) := by decide +kernel
theorem dX6_write_8 : decode cX6_write 8 = .ok (.if_icmp .le 5, 3) := by decide +kernel
theorem dX6_write_11 : decode cX6_write 11 = .ok (.iconst (-1), 1) := by decide +kernel
theorem dX6_write_12 : decode cX6_write 12 = .ok (.ireturn, 1) := by decide +kernel
theorem dX6_write_13 : decode cX6_write 13 = .ok (.aload_n 0, 1) := by decide +kernel
theorem dX6_write_14 : decode cX6_write 14 = .ok (.getfield 73, 3) := by decide +kernel
theorem dX6_write_17 : decode cX6_write 17 = .ok (.iload_n 1, 1) := by decide +kernel
theorem dX6_write_18 : decode cX6_write 18 = .ok (.iadd, 1) := by decide +kernel
theorem dX6_write_19 : decode cX6_write 19 = .ok (.sipush 300, 3) := by decide +kernel
theorem dX6_write_22 : decode cX6_write 22 = .ok (.if_icmp .le 6, 3) := by decide +kernel
theorem dX6_write_25 : decode cX6_write 25 = .ok (.bipush (-3), 2) := by decide +kernel
theorem dX6_write_27 : decode cX6_write 27 = .ok (.ireturn, 1) := by decide +kernel
theorem dX6_write_28 : decode cX6_write 28 = .ok (.iload_n 1, 1) := by decide +kernel
theorem dX6_write_29 : decode cX6_write 29 = .ok (.iconst 1, 1) := by decide +kernel
theorem dX6_write_30 : decode cX6_write 30 = .ok (.isub, 1) := by decide +kernel
theorem dX6_write_31 : decode cX6_write 31 = .ok (.istore 4, 2) := by decide +kernel
theorem dX6_write_33 : decode cX6_write 33 = .ok (.iload 4, 2) := by decide +kernel
theorem dX6_write_35 : decode cX6_write 35 = .ok (.ifCond .lt 37, 3) := by decide +kernel
theorem dX6_write_38 : decode cX6_write 38 = .ok (.aload_n 0, 1) := by decide +kernel
theorem dX6_write_39 : decode cX6_write 39 = .ok (.getfield 9, 3) := by decide +kernel
theorem dX6_write_42 : decode cX6_write 42 = .ok (.aload_n 0, 1) := by decide +kernel
theorem dX6_write_43 : decode cX6_write 43 = .ok (.getfield 73, 3) := by decide +kernel
theorem dX6_write_46 : decode cX6_write 46 = .ok (.lload_n 2, 1) := by decide +kernel
theorem dX6_write_47 : decode cX6_write 47 = .ok (.bipush 8, 2) := by decide +kernel
theorem dX6_write_49 : decode cX6_write 49 = .ok (.iload 4, 2) := by decide +kernel
theorem dX6_write_51 : decode cX6_write 51 = .ok (.imul, 1) := by decide +kernel
theorem dX6_write_52 : decode cX6_write 52 = .ok (.lshr, 1) := by decide +kernel
theorem dX6_write_53 : decode cX6_write 53 = .ok (.l2i, 1) := by decide +kernel
theorem dX6_write_54 : decode cX6_write 54 = .ok (.i2b, 1) := by decide +kernel
theorem dX6_write_55 : decode cX6_write 55 = .ok (.bastore, 1) := by decide +kernel
theorem dX6_write_56 : decode cX6_write 56 = .ok (.aload_n 0, 1) := by decide +kernel
theorem dX6_write_57 : decode cX6_write 57 = .ok (.dup, 1) := by decide +kernel
theorem dX6_write_58 : decode cX6_write 58 = .ok (.getfield 73, 3) := by decide +kernel
theorem dX6_write_61 : decode cX6_write 61 = .ok (.iconst 1, 1) := by decide +kernel
theorem dX6_write_62 : decode cX6_write 62 = .ok (.iadd, 1) := by decide +kernel
theorem dX6_write_63 : decode cX6_write 63 = .ok (.putfield 73, 3) := by decide +kernel
theorem dX6_write_66 : decode cX6_write 66 = .ok (.iinc 4 (-1), 3) := by decide +kernel
theorem dX6_write_69 : decode cX6_write 69 = .ok (.goto (-36), 3) := by decide +kernel
theorem dX6_write_72 : decode cX6_write 72 = .ok (.aload_n 0, 1) := by decide +kernel
theorem dX6_write_73 : decode cX6_write 73 = .ok (.getfield 73, 3) := by decide +kernel
theorem dX6_write_76 : decode cX6_write 76 = .ok (.ireturn, 1) := by decide +kernel
theorem dX6_wipe_0 : decode cX6_wipe 0 = .ok (.aload_n 0, 1) := by decide +kernel
theorem dX6_wipe_1 : decode cX6_wipe 1 = .ok (.getfield 73, 3) := by decide +kernel
theorem dX6_wipe_4 : decode cX6_wipe 4 = .ok (.istore_n 1, 1) := by decide +kernel
theorem dX6_wipe_5 : decode cX6_wipe 5 = .ok (.aload_n 0, 1) := by decide +kernel
theorem dX6_wipe_6 : decode cX6_wipe 6 = .ok (.iconst 0, 1) := by decide +kernel
theorem dX6_wipe_7 : decode cX6_wipe 7 = .ok (.putfield 73, 3) := by decide +kernel
theorem dX6_wipe_10 : decode cX6_wipe 10 = .ok (.iload_n 1, 1) := by decide +kernel
theorem dX6_wipe_11 : decode cX6_wipe 11 = .ok (.ireturn, 1) := by decide +kernel
theorem dX6_fault_0 : decode cX6_fault 0 = .ok (.aload_n 0, 1) := by decide +kernel
theorem dX6_fault_1 : decode cX6_fault 1 = .ok (.getfield 16, 3) := by decide +kernel
theorem dX6_fault_4 : decode cX6_fault 4 = .ok (.aload_n 0, 1) := by decide +kernel
theorem dX6_fault_5 : decode cX6_fault 5 = .ok (.getfield 9, 3) := by decide +kernel
theorem dX6_fault_8 : decode cX6_fault 8 = .ok (.aload_n 0, 1) := by decide +kernel
theorem dX6_fault_9 : decode cX6_fault 9 = .ok (.getfield 73, 3) := by decide +kernel
theorem dX6_fault_12 : decode cX6_fault 12 = .ok (.aload_n 0, 1) := by decide +kernel
theorem dX6_fault_13 : decode cX6_fault 13 = .ok (.getfield 23, 3) := by decide +kernel
theorem dX6_fault_16 : decode cX6_fault 16 = .ok (.invokevirtual 77, 3) := by decide +kernel
theorem dX6_fault_19 : decode cX6_fault 19 = .ok (.ireturn, 1) := by decide +kernel
theorem dX6_lay_0 : decode cX6_lay 0 = .ok (.aload_n 0, 1) := by decide +kernel
theorem dX6_lay_1 : decode cX6_lay 1 = .ok (.getfield 16, 3) := by decide +kernel
theorem dX6_lay_4 : decode cX6_lay 4 = .ok (.aload_n 0, 1) := by decide +kernel
theorem dX6_lay_5 : decode cX6_lay 5 = .ok (.getfield 9, 3) := by decide +kernel
theorem dX6_lay_8 : decode cX6_lay 8 = .ok (.aload_n 0, 1) := by decide +kernel
theorem dX6_lay_9 : decode cX6_lay 9 = .ok (.getfield 73, 3) := by decide +kernel
theorem dX6_lay_12 : decode cX6_lay 12 = .ok (.aload_n 0, 1) := by decide +kernel
theorem dX6_lay_13 : decode cX6_lay 13 = .ok (.getfield 23, 3) := by decide +kernel
theorem dX6_lay_16 : decode cX6_lay 16 = .ok (.invokevirtual 77, 3) := by decide +kernel
theorem dX6_lay_19 : decode cX6_lay 19 = .ok (.bipush (-4), 2) := by decide +kernel
theorem dX6_lay_21 : decode cX6_lay 21 = .ok (.if_icmp .ne 13, 3) := by decide +kernel
theorem dX6_lay_24 : decode cX6_lay 24 = .ok (.aload_n 0, 1) := by decide +kernel
theorem dX6_lay_25 : decode cX6_lay 25 = .ok (.getfield 23, 3) := by decide +kernel
theorem dX6_lay_28 : decode cX6_lay 28 = .ok (.getfield 81, 3) := by decide +kernel
theorem dX6_lay_31 : decode cX6_lay 31 = .ok (.ifCond .ne 6, 3) := by decide +kernel
theorem dX6_lay_34 : decode cX6_lay 34 = .ok (.bipush (-2), 2) := by decide +kernel
theorem dX6_lay_36 : decode cX6_lay 36 = .ok (.ireturn, 1) := by decide +kernel
theorem dX6_lay_37 : decode cX6_lay 37 = .ok (.aload_n 0, 1) := by decide +kernel
theorem dX6_lay_38 : decode cX6_lay 38 = .ok (.getfield 27, 3) := by decide +kernel
theorem dX6_lay_41 : decode cX6_lay 41 = .ok (.aload_n 0, 1) := by decide +kernel
theorem dX6_lay_42 : decode cX6_lay 42 = .ok (.getfield 23, 3) := by decide +kernel
theorem dX6_lay_45 : decode cX6_lay 45 = .ok (.invokevirtual 84, 3) := by decide +kernel
theorem dX6_lay_48 : decode cX6_lay 48 = .ok (.aload_n 0, 1) := by decide +kernel
theorem dX6_lay_49 : decode cX6_lay 49 = .ok (.iconst 0, 1) := by decide +kernel
theorem dX6_lay_50 : decode cX6_lay 50 = .ok (.putfield 88, 3) := by decide +kernel
theorem dX6_lay_53 : decode cX6_lay 53 = .ok (.aload_n 0, 1) := by decide +kernel
theorem dX6_lay_54 : decode cX6_lay 54 = .ok (.iconst 0, 1) := by decide +kernel
theorem dX6_lay_55 : decode cX6_lay 55 = .ok (.putfield 91, 3) := by decide +kernel
theorem dX6_lay_58 : decode cX6_lay 58 = .ok (.aload_n 0, 1) := by decide +kernel
theorem dX6_lay_59 : decode cX6_lay 59 = .ok (.iconst 0, 1) := by decide +kernel
theorem dX6_lay_60 : decode cX6_lay 60 = .ok (.putfield 94, 3) := by decide +kernel
theorem dX6_lay_63 : decode cX6_lay 63 = .ok (.aload_n 0, 1) := by decide +kernel
theorem dX6_lay_64 : decode cX6_lay 64 = .ok (.getfield 27, 3) := by decide +kernel
theorem dX6_lay_67 : decode cX6_lay 67 = .ok (.getfield 81, 3) := by decide +kernel
theorem dX6_lay_70 : decode cX6_lay 70 = .ok (.ireturn, 1) := by decide +kernel
theorem dX6_sack_0 : decode cX6_sack 0 = .ok (.aload_n 0, 1) := by decide +kernel
theorem dX6_sack_1 : decode cX6_sack 1 = .ok (.getfield 27, 3) := by decide +kernel
theorem dX6_sack_4 : decode cX6_sack 4 = .ok (.iload_n 1, 1) := by decide +kernel
theorem dX6_sack_5 : decode cX6_sack 5 = .ok (.invokevirtual 97, 3) := by decide +kernel
theorem dX6_sack_8 : decode cX6_sack 8 = .ok (.ifCond .ne 5, 3) := by decide +kernel
theorem dX6_sack_11 : decode cX6_sack 11 = .ok (.iconst (-1), 1) := by decide +kernel
theorem dX6_sack_12 : decode cX6_sack 12 = .ok (.ireturn, 1) := by decide +kernel
theorem dX6_sack_13 : decode cX6_sack 13 = .ok (.iload_n 2, 1) := by decide +kernel
theorem dX6_sack_14 : decode cX6_sack 14 = .ok (.tableswitch 84 0 4 #[34, 44, 54, 64, 74], 34) := by decide +kernel
theorem dX6_sack_48 : decode cX6_sack 48 = .ok (.aload_n 0, 1) := by decide +kernel
theorem dX6_sack_49 : decode cX6_sack 49 = .ok (.getfield 27, 3) := by decide +kernel
theorem dX6_sack_52 : decode cX6_sack 52 = .ok (.getfield 101, 3) := by decide +kernel
theorem dX6_sack_55 : decode cX6_sack 55 = .ok (.iload_n 1, 1) := by decide +kernel
theorem dX6_sack_56 : decode cX6_sack 56 = .ok (.iaload, 1) := by decide +kernel
theorem dX6_sack_57 : decode cX6_sack 57 = .ok (.ireturn, 1) := by decide +kernel
theorem dX6_sack_58 : decode cX6_sack 58 = .ok (.aload_n 0, 1) := by decide +kernel
theorem dX6_sack_59 : decode cX6_sack 59 = .ok (.getfield 27, 3) := by decide +kernel
theorem dX6_sack_62 : decode cX6_sack 62 = .ok (.getfield 104, 3) := by decide +kernel
theorem dX6_sack_65 : decode cX6_sack 65 = .ok (.iload_n 1, 1) := by decide +kernel
theorem dX6_sack_66 : decode cX6_sack 66 = .ok (.iaload, 1) := by decide +kernel
theorem dX6_sack_67 : decode cX6_sack 67 = .ok (.ireturn, 1) := by decide +kernel
theorem dX6_sack_68 : decode cX6_sack 68 = .ok (.aload_n 0, 1) := by decide +kernel
theorem dX6_sack_69 : decode cX6_sack 69 = .ok (.getfield 27, 3) := by decide +kernel
theorem dX6_sack_72 : decode cX6_sack 72 = .ok (.getfield 107, 3) := by decide +kernel
theorem dX6_sack_75 : decode cX6_sack 75 = .ok (.iload_n 1, 1) := by decide +kernel
theorem dX6_sack_76 : decode cX6_sack 76 = .ok (.iaload, 1) := by decide +kernel
theorem dX6_sack_77 : decode cX6_sack 77 = .ok (.ireturn, 1) := by decide +kernel
theorem dX6_sack_78 : decode cX6_sack 78 = .ok (.aload_n 0, 1) := by decide +kernel
theorem dX6_sack_79 : decode cX6_sack 79 = .ok (.getfield 27, 3) := by decide +kernel
theorem dX6_sack_82 : decode cX6_sack 82 = .ok (.getfield 110, 3) := by decide +kernel
theorem dX6_sack_85 : decode cX6_sack 85 = .ok (.iload_n 1, 1) := by decide +kernel
theorem dX6_sack_86 : decode cX6_sack 86 = .ok (.iaload, 1) := by decide +kernel
theorem dX6_sack_87 : decode cX6_sack 87 = .ok (.ireturn, 1) := by decide +kernel
theorem dX6_sack_88 : decode cX6_sack 88 = .ok (.aload_n 0, 1) := by decide +kernel
theorem dX6_sack_89 : decode cX6_sack 89 = .ok (.getfield 27, 3) := by decide +kernel
theorem dX6_sack_92 : decode cX6_sack 92 = .ok (.getfield 113, 3) := by decide +kernel
theorem dX6_sack_95 : decode cX6_sack 95 = .ok (.iload_n 1, 1) := by decide +kernel
theorem dX6_sack_96 : decode cX6_sack 96 = .ok (.iaload, 1) := by decide +kernel
theorem dX6_sack_97 : decode cX6_sack 97 = .ok (.ireturn, 1) := by decide +kernel
theorem dX6_sack_98 : decode cX6_sack 98 = .ok (.iconst (-1), 1) := by decide +kernel
theorem dX6_sack_99 : decode cX6_sack 99 = .ok (.ireturn, 1) := by decide +kernel
theorem dX6_may_0 : decode cX6_may 0 = .ok (.aload_n 0, 1) := by decide +kernel
theorem dX6_may_1 : decode cX6_may 1 = .ok (.getfield 27, 3) := by decide +kernel
theorem dX6_may_4 : decode cX6_may 4 = .ok (.iload_n 1, 1) := by decide +kernel
theorem dX6_may_5 : decode cX6_may 5 = .ok (.invokevirtual 97, 3) := by decide +kernel
theorem dX6_may_8 : decode cX6_may 8 = .ok (.ifCond .ne 5, 3) := by decide +kernel
theorem dX6_may_11 : decode cX6_may 11 = .ok (.iconst (-1), 1) := by decide +kernel
theorem dX6_may_12 : decode cX6_may 12 = .ok (.ireturn, 1) := by decide +kernel
theorem dX6_may_13 : decode cX6_may 13 = .ok (.aload_n 0, 1) := by decide +kernel
theorem dX6_may_14 : decode cX6_may 14 = .ok (.getfield 27, 3) := by decide +kernel
theorem dX6_may_17 : decode cX6_may 17 = .ok (.iload_n 1, 1) := by decide +kernel
theorem dX6_may_18 : decode cX6_may 18 = .ok (.invokevirtual 116, 3) := by decide +kernel
theorem dX6_may_21 : decode cX6_may 21 = .ok (.ifCond .ne 6, 3) := by decide +kernel
theorem dX6_may_24 : decode cX6_may 24 = .ok (.bipush (-2), 2) := by decide +kernel
theorem dX6_may_26 : decode cX6_may 26 = .ok (.ireturn, 1) := by decide +kernel
theorem dX6_may_27 : decode cX6_may 27 = .ok (.aload_n 0, 1) := by decide +kernel
theorem dX6_may_28 : decode cX6_may 28 = .ok (.getfield 27, 3) := by decide +kernel
theorem dX6_may_31 : decode cX6_may 31 = .ok (.iload_n 1, 1) := by decide +kernel
theorem dX6_may_32 : decode cX6_may 32 = .ok (.invokevirtual 119, 3) := by decide +kernel
theorem dX6_may_35 : decode cX6_may 35 = .ok (.ifCond .eq 7, 3) := by decide +kernel
theorem dX6_may_38 : decode cX6_may 38 = .ok (.iconst 1, 1) := by decide +kernel
theorem dX6_may_39 : decode cX6_may 39 = .ok (.goto 4, 3) := by decide +kernel
theorem dX6_may_42 : decode cX6_may 42 = .ok (.iconst 0, 1) := by decide +kernel
theorem dX6_may_43 : decode cX6_may 43 = .ok (.ireturn, 1) := by decide +kernel
theorem dX6_pour_0 : decode cX6_pour 0 = .ok (.aload_n 0, 1) := by decide +kernel
theorem dX6_pour_1 : decode cX6_pour 1 = .ok (.getfield 27, 3) := by decide +kernel
theorem dX6_pour_4 : decode cX6_pour 4 = .ok (.iload_n 1, 1) := by decide +kernel
theorem dX6_pour_5 : decode cX6_pour 5 = .ok (.invokevirtual 97, 3) := by decide +kernel
theorem dX6_pour_8 : decode cX6_pour 8 = .ok (.ifCond .ne 5, 3) := by decide +kernel
theorem dX6_pour_11 : decode cX6_pour 11 = .ok (.iconst (-1), 1) := by decide +kernel
theorem dX6_pour_12 : decode cX6_pour 12 = .ok (.ireturn, 1) := by decide +kernel
theorem dX6_pour_13 : decode cX6_pour 13 = .ok (.aload_n 0, 1) := by decide +kernel
theorem dX6_pour_14 : decode cX6_pour 14 = .ok (.getfield 27, 3) := by decide +kernel
theorem dX6_pour_17 : decode cX6_pour 17 = .ok (.iload_n 1, 1) := by decide +kernel
theorem dX6_pour_18 : decode cX6_pour 18 = .ok (.invokevirtual 116, 3) := by decide +kernel
theorem dX6_pour_21 : decode cX6_pour 21 = .ok (.ifCond .eq 14, 3) := by decide +kernel
theorem dX6_pour_24 : decode cX6_pour 24 = .ok (.aload_n 0, 1) := by decide +kernel
theorem dX6_pour_25 : decode cX6_pour 25 = .ok (.getfield 27, 3) := by decide +kernel
theorem dX6_pour_28 : decode cX6_pour 28 = .ok (.iload_n 1, 1) := by decide +kernel
theorem dX6_pour_29 : decode cX6_pour 29 = .ok (.invokevirtual 119, 3) := by decide +kernel
theorem dX6_pour_32 : decode cX6_pour 32 = .ok (.ifCond .ne 6, 3) := by decide +kernel
theorem dX6_pour_35 : decode cX6_pour 35 = .ok (.bipush (-2), 2) := by decide +kernel
theorem dX6_pour_37 : decode cX6_pour 37 = .ok (.ireturn, 1) := by decide +kernel
theorem dX6_pour_38 : decode cX6_pour 38 = .ok (.aload_n 0, 1) := by decide +kernel
theorem dX6_pour_39 : decode cX6_pour 39 = .ok (.invokevirtual 122, 3) := by decide +kernel
theorem dX6_pour_42 : decode cX6_pour 42 = .ok (.aload_n 0, 1) := by decide +kernel
theorem dX6_pour_43 : decode cX6_pour 43 = .ok (.iconst 0, 1) := by decide +kernel
theorem dX6_pour_44 : decode cX6_pour 44 = .ok (.putfield 88, 3) := by decide +kernel
theorem dX6_pour_47 : decode cX6_pour 47 = .ok (.aload_n 0, 1) := by decide +kernel
theorem dX6_pour_48 : decode cX6_pour 48 = .ok (.getfield 27, 3) := by decide +kernel
theorem dX6_pour_51 : decode cX6_pour 51 = .ok (.iload_n 1, 1) := by decide +kernel
theorem dX6_pour_52 : decode cX6_pour 52 = .ok (.invokevirtual 125, 3) := by decide +kernel
theorem dX6_pour_55 : decode cX6_pour 55 = .ok (.aload_n 0, 1) := by decide +kernel
theorem dX6_pour_56 : decode cX6_pour 56 = .ok (.getfield 27, 3) := by decide +kernel
theorem dX6_pour_59 : decode cX6_pour 59 = .ok (.getfield 129, 3) := by decide +kernel
theorem dX6_pour_62 : decode cX6_pour 62 = .ok (.ireturn, 1) := by decide +kernel
theorem dX6_halve_0 : decode cX6_halve 0 = .ok (.aload_n 0, 1) := by decide +kernel
theorem dX6_halve_1 : decode cX6_halve 1 = .ok (.getfield 27, 3) := by decide +kernel
theorem dX6_halve_4 : decode cX6_halve 4 = .ok (.iload_n 1, 1) := by decide +kernel
theorem dX6_halve_5 : decode cX6_halve 5 = .ok (.invokevirtual 97, 3) := by decide +kernel
theorem dX6_halve_8 : decode cX6_halve 8 = .ok (.ifCond .eq 14, 3) := by decide +kernel
theorem dX6_halve_11 : decode cX6_halve 11 = .ok (.iload_n 2, 1) := by decide +kernel
theorem dX6_halve_12 : decode cX6_halve 12 = .ok (.iconst 1, 1) := by decide +kernel
theorem dX6_halve_13 : decode cX6_halve 13 = .ok (.if_icmp .lt 9, 3) := by decide +kernel
theorem dX6_halve_16 : decode cX6_halve 16 = .ok (.iload_n 2, 1) := by decide +kernel
theorem dX6_halve_17 : decode cX6_halve 17 = .ok (.bipush 9, 2) := by decide +kernel
theorem dX6_halve_19 : decode cX6_halve 19 = .ok (.if_icmp .lt 5, 3) := by decide +kernel
theorem dX6_halve_22 : decode cX6_halve 22 = .ok (.iconst (-1), 1) := by decide +kernel
theorem dX6_halve_23 : decode cX6_halve 23 = .ok (.ireturn, 1) := by decide +kernel
theorem dX6_halve_24 : decode cX6_halve 24 = .ok (.aload_n 0, 1) := by decide +kernel
theorem dX6_halve_25 : decode cX6_halve 25 = .ok (.getfield 27, 3) := by decide +kernel
theorem dX6_halve_28 : decode cX6_halve 28 = .ok (.iload_n 1, 1) := by decide +kernel
theorem dX6_halve_29 : decode cX6_halve 29 = .ok (.invokevirtual 116, 3) := by decide +kernel
theorem dX6_halve_32 : decode cX6_halve 32 = .ok (.ifCond .eq 16, 3) := by decide +kernel
theorem dX6_halve_35 : decode cX6_halve 35 = .ok (.aload_n 0, 1) := by decide +kernel
theorem dX6_halve_36 : decode cX6_halve 36 = .ok (.getfield 27, 3) := by decide +kernel
theorem dX6_halve_39 : decode cX6_halve 39 = .ok (.getfield 104, 3) := by decide +kernel
theorem dX6_halve_42 : decode cX6_halve 42 = .ok (.iload_n 1, 1) := by decide +kernel
theorem dX6_halve_43 : decode cX6_halve 43 = .ok (.iaload, 1) := by decide +kernel
theorem dX6_halve_44 : decode cX6_halve 44 = .ok (.iload_n 2, 1) := by decide +kernel
theorem dX6_halve_45 : decode cX6_halve 45 = .ok (.if_icmp .gt 6, 3) := by decide +kernel
theorem dX6_halve_48 : decode cX6_halve 48 = .ok (.bipush (-2), 2) := by decide +kernel
theorem dX6_halve_50 : decode cX6_halve 50 = .ok (.ireturn, 1) := by decide +kernel
theorem dX6_halve_51 : decode cX6_halve 51 = .ok (.aload_n 0, 1) := by decide +kernel
theorem dX6_halve_52 : decode cX6_halve 52 = .ok (.getfield 27, 3) := by decide +kernel
theorem dX6_halve_55 : decode cX6_halve 55 = .ok (.getfield 81, 3) := by decide +kernel
theorem dX6_halve_58 : decode cX6_halve 58 = .ok (.bipush 10, 2) := by decide +kernel
theorem dX6_halve_60 : decode cX6_halve 60 = .ok (.if_icmp .lt 6, 3) := by decide +kernel
theorem dX6_halve_63 : decode cX6_halve 63 = .ok (.bipush (-3), 2) := by decide +kernel
theorem dX6_halve_65 : decode cX6_halve 65 = .ok (.ireturn, 1) := by decide +kernel
theorem dX6_halve_66 : decode cX6_halve 66 = .ok (.aload_n 0, 1) := by decide +kernel
theorem dX6_halve_67 : decode cX6_halve 67 = .ok (.invokevirtual 122, 3) := by decide +kernel
theorem dX6_halve_70 : decode cX6_halve 70 = .ok (.aload_n 0, 1) := by decide +kernel
theorem dX6_halve_71 : decode cX6_halve 71 = .ok (.getfield 27, 3) := by decide +kernel
theorem dX6_halve_74 : decode cX6_halve 74 = .ok (.iload_n 1, 1) := by decide +kernel
theorem dX6_halve_75 : decode cX6_halve 75 = .ok (.iload_n 2, 1) := by decide +kernel
theorem dX6_halve_76 : decode cX6_halve 76 = .ok (.invokevirtual 132, 3) := by decide +kernel
theorem dX6_halve_79 : decode cX6_halve 79 = .ok (.aload_n 0, 1) := by decide +kernel
theorem dX6_halve_80 : decode cX6_halve 80 = .ok (.getfield 27, 3) := by decide +kernel
theorem dX6_halve_83 : decode cX6_halve 83 = .ok (.getfield 81, 3) := by decide +kernel
theorem dX6_halve_86 : decode cX6_halve 86 = .ok (.iconst 1, 1) := by decide +kernel
theorem dX6_halve_87 : decode cX6_halve 87 = .ok (.isub, 1) := by decide +kernel
theorem dX6_halve_88 : decode cX6_halve 88 = .ok (.ireturn, 1) := by decide +kernel
theorem dX6_sell_0 : decode cX6_sell 0 = .ok (.aload_n 0, 1) := by decide +kernel
theorem dX6_sell_1 : decode cX6_sell 1 = .ok (.getfield 27, 3) := by decide +kernel
theorem dX6_sell_4 : decode cX6_sell 4 = .ok (.iload_n 1, 1) := by decide +kernel
theorem dX6_sell_5 : decode cX6_sell 5 = .ok (.invokevirtual 97, 3) := by decide +kernel
theorem dX6_sell_8 : decode cX6_sell 8 = .ok (.ifCond .ne 5, 3) := by decide +kernel
theorem dX6_sell_11 : decode cX6_sell 11 = .ok (.iconst (-1), 1) := by decide +kernel
theorem dX6_sell_12 : decode cX6_sell 12 = .ok (.ireturn, 1) := by decide +kernel
theorem dX6_sell_13 : decode cX6_sell 13 = .ok (.aload_n 0, 1) := by decide +kernel
theorem dX6_sell_14 : decode cX6_sell 14 = .ok (.getfield 27, 3) := by decide +kernel
theorem dX6_sell_17 : decode cX6_sell 17 = .ok (.iload_n 1, 1) := by decide +kernel
theorem dX6_sell_18 : decode cX6_sell 18 = .ok (.invokevirtual 116, 3) := by decide +kernel
theorem dX6_sell_21 : decode cX6_sell 21 = .ok (.ifCond .ne 6, 3) := by decide +kernel
theorem dX6_sell_24 : decode cX6_sell 24 = .ok (.bipush (-2), 2) := by decide +kernel
theorem dX6_sell_26 : decode cX6_sell 26 = .ok (.ireturn, 1) := by decide +kernel
theorem dX6_sell_27 : decode cX6_sell 27 = .ok (.aload_n 0, 1) := by decide +kernel
theorem dX6_sell_28 : decode cX6_sell 28 = .ok (.invokevirtual 122, 3) := by decide +kernel
theorem dX6_sell_31 : decode cX6_sell 31 = .ok (.aload_n 0, 1) := by decide +kernel
theorem dX6_sell_32 : decode cX6_sell 32 = .ok (.iconst 0, 1) := by decide +kernel
theorem dX6_sell_33 : decode cX6_sell 33 = .ok (.putfield 88, 3) := by decide +kernel
theorem dX6_sell_36 : decode cX6_sell 36 = .ok (.aload_n 0, 1) := by decide +kernel
theorem dX6_sell_37 : decode cX6_sell 37 = .ok (.getfield 27, 3) := by decide +kernel
theorem dX6_sell_40 : decode cX6_sell 40 = .ok (.getfield 113, 3) := by decide +kernel
theorem dX6_sell_43 : decode cX6_sell 43 = .ok (.iload_n 1, 1) := by decide +kernel
theorem dX6_sell_44 : decode cX6_sell 44 = .ok (.iconst 2, 1) := by decide +kernel
theorem dX6_sell_45 : decode cX6_sell 45 = .ok (.iastore, 1) := by decide +kernel
theorem dX6_sell_46 : decode cX6_sell 46 = .ok (.aload_n 0, 1) := by decide +kernel
theorem dX6_sell_47 : decode cX6_sell 47 = .ok (.getfield 27, 3) := by decide +kernel
theorem dX6_sell_50 : decode cX6_sell 50 = .ok (.getfield 104, 3) := by decide +kernel
theorem dX6_sell_53 : decode cX6_sell 53 = .ok (.iload_n 1, 1) := by decide +kernel
theorem dX6_sell_54 : decode cX6_sell 54 = .ok (.iaload, 1) := by decide +kernel
theorem dX6_sell_55 : decode cX6_sell 55 = .ok (.ireturn, 1) := by decide +kernel
theorem dX6_undo_0 : decode cX6_undo 0 = .ok (.aload_n 0, 1) := by decide +kernel
theorem dX6_undo_1 : decode cX6_undo 1 = .ok (.getfield 91, 3) := by decide +kernel
theorem dX6_undo_4 : decode cX6_undo 4 = .ok (.ifCond .gt 6, 3) := by decide +kernel
theorem dX6_undo_7 : decode cX6_undo 7 = .ok (.bipush (-2), 2) := by decide +kernel
theorem dX6_undo_9 : decode cX6_undo 9 = .ok (.ireturn, 1) := by decide +kernel
theorem dX6_undo_10 : decode cX6_undo 10 = .ok (.aload_n 0, 1) := by decide +kernel
theorem dX6_undo_11 : decode cX6_undo 11 = .ok (.dup, 1) := by decide +kernel
theorem dX6_undo_12 : decode cX6_undo 12 = .ok (.getfield 91, 3) := by decide +kernel
theorem dX6_undo_15 : decode cX6_undo 15 = .ok (.iconst 1, 1) := by decide +kernel
theorem dX6_undo_16 : decode cX6_undo 16 = .ok (.isub, 1) := by decide +kernel
theorem dX6_undo_17 : decode cX6_undo 17 = .ok (.putfield 91, 3) := by decide +kernel
theorem dX6_undo_20 : decode cX6_undo 20 = .ok (.aload_n 0, 1) := by decide +kernel
theorem dX6_undo_21 : decode cX6_undo 21 = .ok (.getfield 27, 3) := by decide +kernel
theorem dX6_undo_24 : decode cX6_undo 24 = .ok (.aload_n 0, 1) := by decide +kernel
theorem dX6_undo_25 : decode cX6_undo 25 = .ok (.getfield 30, 3) := by decide +kernel
theorem dX6_undo_28 : decode cX6_undo 28 = .ok (.aload_n 0, 1) := by decide +kernel
theorem dX6_undo_29 : decode cX6_undo 29 = .ok (.getfield 91, 3) := by decide +kernel
theorem dX6_undo_32 : decode cX6_undo 32 = .ok (.aaload, 1) := by decide +kernel
theorem dX6_undo_33 : decode cX6_undo 33 = .ok (.invokevirtual 84, 3) := by decide +kernel
theorem dX6_undo_36 : decode cX6_undo 36 = .ok (.aload_n 0, 1) := by decide +kernel
theorem dX6_undo_37 : decode cX6_undo 37 = .ok (.iconst 0, 1) := by decide +kernel
theorem dX6_undo_38 : decode cX6_undo 38 = .ok (.putfield 88, 3) := by decide +kernel
theorem dX6_undo_41 : decode cX6_undo 41 = .ok (.aload_n 0, 1) := by decide +kernel
theorem dX6_undo_42 : decode cX6_undo 42 = .ok (.getfield 91, 3) := by decide +kernel
theorem dX6_undo_45 : decode cX6_undo 45 = .ok (.ireturn, 1) := by decide +kernel
theorem dX6_cost_0 : decode cX6_cost 0 = .ok (.aload_n 0, 1) := by decide +kernel
theorem dX6_cost_1 : decode cX6_cost 1 = .ok (.getfield 27, 3) := by decide +kernel
theorem dX6_cost_4 : decode cX6_cost 4 = .ok (.getfield 136, 3) := by decide +kernel
theorem dX6_cost_7 : decode cX6_cost 7 = .ok (.ireturn, 1) := by decide +kernel
theorem dX6_remember_0 : decode cX6_remember 0 = .ok (.aload_n 0, 1) := by decide +kernel
theorem dX6_remember_1 : decode cX6_remember 1 = .ok (.getfield 91, 3) := by decide +kernel
theorem dX6_remember_4 : decode cX6_remember 4 = .ok (.bipush 8, 2) := by decide +kernel
theorem dX6_remember_6 : decode cX6_remember 6 = .ok (.if_icmp .lt 52, 3) := by decide +kernel
theorem dX6_remember_9 : decode cX6_remember 9 = .ok (.aload_n 0, 1) := by decide +kernel
theorem dX6_remember_10 : decode cX6_remember 10 = .ok (.getfield 30, 3) := by decide +kernel
theorem dX6_remember_13 : decode cX6_remember 13 = .ok (.iconst 0, 1) := by decide +kernel
theorem dX6_remember_14 : decode cX6_remember 14 = .ok (.aaload, 1) := by decide +kernel
theorem dX6_remember_15 : decode cX6_remember 15 = .ok (.astore_n 1, 1) := by decide +kernel
theorem dX6_remember_16 : decode cX6_remember 16 = .ok (.iconst 1, 1) := by decide +kernel
theorem dX6_remember_17 : decode cX6_remember 17 = .ok (.istore_n 2, 1) := by decide +kernel
theorem dX6_remember_18 : decode cX6_remember 18 = .ok (.iload_n 2, 1) := by decide +kernel
theorem dX6_remember_19 : decode cX6_remember 19 = .ok (.bipush 8, 2) := by decide +kernel
theorem dX6_remember_21 : decode cX6_remember 21 = .ok (.if_icmp .ge 23, 3) := by decide +kernel
theorem dX6_remember_24 : decode cX6_remember 24 = .ok (.aload_n 0, 1) := by decide +kernel
theorem dX6_remember_25 : decode cX6_remember 25 = .ok (.getfield 30, 3) := by decide +kernel
theorem dX6_remember_28 : decode cX6_remember 28 = .ok (.iload_n 2, 1) := by decide +kernel
theorem dX6_remember_29 : decode cX6_remember 29 = .ok (.iconst 1, 1) := by decide +kernel
theorem dX6_remember_30 : decode cX6_remember 30 = .ok (.isub, 1) := by decide +kernel
theorem dX6_remember_31 : decode cX6_remember 31 = .ok (.aload_n 0, 1) := by decide +kernel
theorem dX6_remember_32 : decode cX6_remember 32 = .ok (.getfield 30, 3) := by decide +kernel
theorem dX6_remember_35 : decode cX6_remember 35 = .ok (.iload_n 2, 1) := by decide +kernel
theorem dX6_remember_36 : decode cX6_remember 36 = .ok (.aaload, 1) := by decide +kernel
theorem dX6_remember_37 : decode cX6_remember 37 = .ok (.aastore, 1) := by decide +kernel
theorem dX6_remember_38 : decode cX6_remember 38 = .ok (.iinc 2 1, 3) := by decide +kernel
theorem dX6_remember_41 : decode cX6_remember 41 = .ok (.goto (-23), 3) := by decide +kernel
theorem dX6_remember_44 : decode cX6_remember 44 = .ok (.aload_n 0, 1) := by decide +kernel
theorem dX6_remember_45 : decode cX6_remember 45 = .ok (.getfield 30, 3) := by decide +kernel
theorem dX6_remember_48 : decode cX6_remember 48 = .ok (.bipush 7, 2) := by decide +kernel
theorem dX6_remember_50 : decode cX6_remember 50 = .ok (.aload_n 1, 1) := by decide +kernel
theorem dX6_remember_51 : decode cX6_remember 51 = .ok (.aastore, 1) := by decide +kernel
theorem dX6_remember_52 : decode cX6_remember 52 = .ok (.aload_n 0, 1) := by decide +kernel
theorem dX6_remember_53 : decode cX6_remember 53 = .ok (.bipush 7, 2) := by decide +kernel
theorem dX6_remember_55 : decode cX6_remember 55 = .ok (.putfield 91, 3) := by decide +kernel
theorem dX6_remember_58 : decode cX6_remember 58 = .ok (.aload_n 0, 1) := by decide +kernel
theorem dX6_remember_59 : decode cX6_remember 59 = .ok (.getfield 30, 3) := by decide +kernel
theorem dX6_remember_62 : decode cX6_remember 62 = .ok (.aload_n 0, 1) := by decide +kernel
theorem dX6_remember_63 : decode cX6_remember 63 = .ok (.getfield 91, 3) := by decide +kernel
theorem dX6_remember_66 : decode cX6_remember 66 = .ok (.aaload, 1) := by decide +kernel
theorem dX6_remember_67 : decode cX6_remember 67 = .ok (.aload_n 0, 1) := by decide +kernel
theorem dX6_remember_68 : decode cX6_remember 68 = .ok (.getfield 27, 3) := by decide +kernel
theorem dX6_remember_71 : decode cX6_remember 71 = .ok (.invokevirtual 84, 3) := by decide +kernel
theorem dX6_remember_74 : decode cX6_remember 74 = .ok (.aload_n 0, 1) := by decide +kernel
theorem dX6_remember_75 : decode cX6_remember 75 = .ok (.dup, 1) := by decide +kernel
theorem dX6_remember_76 : decode cX6_remember 76 = .ok (.getfield 91, 3) := by decide +kernel
theorem dX6_remember_79 : decode cX6_remember 79 = .ok (.iconst 1, 1) := by decide +kernel
theorem dX6_remember_80 : decode cX6_remember 80 = .ok (.iadd, 1) := by decide +kernel
theorem dX6_remember_81 : decode cX6_remember 81 = .ok (.putfield 91, 3) := by decide +kernel
theorem dX6_remember_84 : decode cX6_remember 84 = .ok (.return_, 1) := by decide +kernel
theorem dX6_queue_0 : decode cX6_queue 0 = .ok (.aload_n 0, 1) := by decide +kernel
theorem dX6_queue_1 : decode cX6_queue 1 = .ok (.getfield 27, 3) := by decide +kernel
theorem dX6_queue_4 : decode cX6_queue 4 = .ok (.iload_n 1, 1) := by decide +kernel
theorem dX6_queue_5 : decode cX6_queue 5 = .ok (.invokevirtual 97, 3) := by decide +kernel
theorem dX6_queue_8 : decode cX6_queue 8 = .ok (.ifCond .ne 5, 3) := by decide +kernel
theorem dX6_queue_11 : decode cX6_queue 11 = .ok (.iconst (-1), 1) := by decide +kernel
theorem dX6_queue_12 : decode cX6_queue 12 = .ok (.ireturn, 1) := by decide +kernel
theorem dX6_queue_13 : decode cX6_queue 13 = .ok (.aload_n 0, 1) := by decide +kernel
theorem dX6_queue_14 : decode cX6_queue 14 = .ok (.getfield 27, 3) := by decide +kernel
theorem dX6_queue_17 : decode cX6_queue 17 = .ok (.iload_n 1, 1) := by decide +kernel
theorem dX6_queue_18 : decode cX6_queue 18 = .ok (.invokevirtual 116, 3) := by decide +kernel
theorem dX6_queue_21 : decode cX6_queue 21 = .ok (.ifCond .eq 20, 3) := by decide +kernel
theorem dX6_queue_24 : decode cX6_queue 24 = .ok (.aload_n 0, 1) := by decide +kernel
theorem dX6_queue_25 : decode cX6_queue 25 = .ok (.iload_n 1, 1) := by decide +kernel
theorem dX6_queue_26 : decode cX6_queue 26 = .ok (.invokevirtual 139, 3) := by decide +kernel
theorem dX6_queue_29 : decode cX6_queue 29 = .ok (.ifCond .ne 12, 3) := by decide +kernel
theorem dX6_queue_32 : decode cX6_queue 32 = .ok (.aload_n 0, 1) := by decide +kernel
theorem dX6_queue_33 : decode cX6_queue 33 = .ok (.getfield 88, 3) := by decide +kernel
theorem dX6_queue_36 : decode cX6_queue 36 = .ok (.bipush 10, 2) := by decide +kernel
theorem dX6_queue_38 : decode cX6_queue 38 = .ok (.if_icmp .lt 6, 3) := by decide +kernel
theorem dX6_queue_41 : decode cX6_queue 41 = .ok (.bipush (-2), 2) := by decide +kernel
theorem dX6_queue_43 : decode cX6_queue 43 = .ok (.ireturn, 1) := by decide +kernel
theorem dX6_queue_44 : decode cX6_queue 44 = .ok (.aload_n 0, 1) := by decide +kernel
theorem dX6_queue_45 : decode cX6_queue 45 = .ok (.getfield 37, 3) := by decide +kernel
theorem dX6_queue_48 : decode cX6_queue 48 = .ok (.aload_n 0, 1) := by decide +kernel
theorem dX6_queue_49 : decode cX6_queue 49 = .ok (.getfield 88, 3) := by decide +kernel
theorem dX6_queue_52 : decode cX6_queue 52 = .ok (.iload_n 1, 1) := by decide +kernel
theorem dX6_queue_53 : decode cX6_queue 53 = .ok (.iastore, 1) := by decide +kernel
theorem dX6_queue_54 : decode cX6_queue 54 = .ok (.aload_n 0, 1) := by decide +kernel
theorem dX6_queue_55 : decode cX6_queue 55 = .ok (.dup, 1) := by decide +kernel
theorem dX6_queue_56 : decode cX6_queue 56 = .ok (.getfield 88, 3) := by decide +kernel
theorem dX6_queue_59 : decode cX6_queue 59 = .ok (.iconst 1, 1) := by decide +kernel
theorem dX6_queue_60 : decode cX6_queue 60 = .ok (.iadd, 1) := by decide +kernel
theorem dX6_queue_61 : decode cX6_queue 61 = .ok (.putfield 88, 3) := by decide +kernel
theorem dX6_queue_64 : decode cX6_queue 64 = .ok (.aload_n 0, 1) := by decide +kernel
theorem dX6_queue_65 : decode cX6_queue 65 = .ok (.getfield 88, 3) := by decide +kernel
theorem dX6_queue_68 : decode cX6_queue 68 = .ok (.ireturn, 1) := by decide +kernel
theorem dX6_noQueue_0 : decode cX6_noQueue 0 = .ok (.aload_n 0, 1) := by decide +kernel
theorem dX6_noQueue_1 : decode cX6_noQueue 1 = .ok (.getfield 88, 3) := by decide +kernel
theorem dX6_noQueue_4 : decode cX6_noQueue 4 = .ok (.istore_n 1, 1) := by decide +kernel
theorem dX6_noQueue_5 : decode cX6_noQueue 5 = .ok (.aload_n 0, 1) := by decide +kernel
theorem dX6_noQueue_6 : decode cX6_noQueue 6 = .ok (.iconst 0, 1) := by decide +kernel
theorem dX6_noQueue_7 : decode cX6_noQueue 7 = .ok (.putfield 88, 3) := by decide +kernel
theorem dX6_noQueue_10 : decode cX6_noQueue 10 = .ok (.iload_n 1, 1) := by decide +kernel
theorem dX6_noQueue_11 : decode cX6_noQueue 11 = .ok (.ireturn, 1) := by decide +kernel
theorem dX6_stops_0 : decode cX6_stops 0 = .ok (.iload_n 1, 1) := by decide +kernel
theorem dX6_stops_1 : decode cX6_stops 1 = .ok (.tableswitch 54 0 2 #[27, 44, 49], 27) := by decide +kernel
theorem dX6_stops_28 : decode cX6_stops 28 = .ok (.aload_n 0, 1) := by decide +kernel
theorem dX6_stops_29 : decode cX6_stops 29 = .ok (.invokevirtual 142, 3) := by decide +kernel
theorem dX6_stops_32 : decode cX6_stops 32 = .ok (.ifCond .eq 8, 3) := by decide +kernel
theorem dX6_stops_35 : decode cX6_stops 35 = .ok (.bipush (-4), 2) := by decide +kernel
theorem dX6_stops_37 : decode cX6_stops 37 = .ok (.goto 7, 3) := by decide +kernel
theorem dX6_stops_40 : decode cX6_stops 40 = .ok (.aload_n 0, 1) := by decide +kernel
theorem dX6_stops_41 : decode cX6_stops 41 = .ok (.invokevirtual 146, 3) := by decide +kernel
theorem dX6_stops_44 : decode cX6_stops 44 = .ok (.ireturn, 1) := by decide +kernel
theorem dX6_stops_45 : decode cX6_stops 45 = .ok (.aload_n 0, 1) := by decide +kernel
theorem dX6_stops_46 : decode cX6_stops 46 = .ok (.invokevirtual 150, 3) := by decide +kernel
theorem dX6_stops_49 : decode cX6_stops 49 = .ok (.ireturn, 1) := by decide +kernel
theorem dX6_stops_50 : decode cX6_stops 50 = .ok (.aload_n 0, 1) := by decide +kernel
theorem dX6_stops_51 : decode cX6_stops 51 = .ok (.invokevirtual 153, 3) := by decide +kernel
theorem dX6_stops_54 : decode cX6_stops 54 = .ok (.ireturn, 1) := by decide +kernel
theorem dX6_stops_55 : decode cX6_stops 55 = .ok (.iconst (-1), 1) := by decide +kernel
theorem dX6_stops_56 : decode cX6_stops 56 = .ok (.ireturn, 1) := by decide +kernel
theorem dX6_isInLine_0 : decode cX6_isInLine 0 = .ok (.iconst 0, 1) := by decide +kernel
theorem dX6_isInLine_1 : decode cX6_isInLine 1 = .ok (.istore_n 2, 1) := by decide +kernel
theorem dX6_isInLine_2 : decode cX6_isInLine 2 = .ok (.iload_n 2, 1) := by decide +kernel
theorem dX6_isInLine_3 : decode cX6_isInLine 3 = .ok (.aload_n 0, 1) := by decide +kernel
theorem dX6_isInLine_4 : decode cX6_isInLine 4 = .ok (.getfield 88, 3) := by decide +kernel
theorem dX6_isInLine_7 : decode cX6_isInLine 7 = .ok (.if_icmp .ge 21, 3) := by decide +kernel
theorem dX6_isInLine_10 : decode cX6_isInLine 10 = .ok (.aload_n 0, 1) := by decide +kernel
theorem dX6_isInLine_11 : decode cX6_isInLine 11 = .ok (.getfield 37, 3) := by decide +kernel
theorem dX6_isInLine_14 : decode cX6_isInLine 14 = .ok (.iload_n 2, 1) := by decide +kernel
theorem dX6_isInLine_15 : decode cX6_isInLine 15 = .ok (.iaload, 1) := by decide +kernel
theorem dX6_isInLine_16 : decode cX6_isInLine 16 = .ok (.iload_n 1, 1) := by decide +kernel
theorem dX6_isInLine_17 : decode cX6_isInLine 17 = .ok (.if_icmp .ne 5, 3) := by decide +kernel
theorem dX6_isInLine_20 : decode cX6_isInLine 20 = .ok (.iconst 1, 1) := by decide +kernel
theorem dX6_isInLine_21 : decode cX6_isInLine 21 = .ok (.ireturn, 1) := by decide +kernel
theorem dX6_isInLine_22 : decode cX6_isInLine 22 = .ok (.iinc 2 1, 3) := by decide +kernel
theorem dX6_isInLine_25 : decode cX6_isInLine 25 = .ok (.goto (-23), 3) := by decide +kernel
theorem dX6_isInLine_28 : decode cX6_isInLine 28 = .ok (.iconst 0, 1) := by decide +kernel
theorem dX6_isInLine_29 : decode cX6_isInLine 29 = .ok (.ireturn, 1) := by decide +kernel
theorem dX6_stopPlace_0 : decode cX6_stopPlace 0 = .ok (.aload_n 0, 1) := by decide +kernel
theorem dX6_stopPlace_1 : decode cX6_stopPlace 1 = .ok (.getfield 27, 3) := by decide +kernel
theorem dX6_stopPlace_4 : decode cX6_stopPlace 4 = .ok (.getfield 156, 3) := by decide +kernel
theorem dX6_stopPlace_7 : decode cX6_stopPlace 7 = .ok (.istore_n 1, 1) := by decide +kernel
theorem dX6_stopPlace_8 : decode cX6_stopPlace 8 = .ok (.aload_n 0, 1) := by decide +kernel
theorem dX6_stopPlace_9 : decode cX6_stopPlace 9 = .ok (.getfield 27, 3) := by decide +kernel
theorem dX6_stopPlace_12 : decode cX6_stopPlace 12 = .ok (.getfield 159, 3) := by decide +kernel
theorem dX6_stopPlace_15 : decode cX6_stopPlace 15 = .ok (.istore_n 2, 1) := by decide +kernel
theorem dX6_stopPlace_16 : decode cX6_stopPlace 16 = .ok (.iconst 0, 1) := by decide +kernel
theorem dX6_stopPlace_17 : decode cX6_stopPlace 17 = .ok (.istore_n 3, 1) := by decide +kernel
theorem dX6_stopPlace_18 : decode cX6_stopPlace 18 = .ok (.iload_n 3, 1) := by decide +kernel
theorem dX6_stopPlace_19 : decode cX6_stopPlace 19 = .ok (.aload_n 0, 1) := by decide +kernel
theorem dX6_stopPlace_20 : decode cX6_stopPlace 20 = .ok (.getfield 88, 3) := by decide +kernel
theorem dX6_stopPlace_23 : decode cX6_stopPlace 23 = .ok (.if_icmp .ge 51, 3) := by decide +kernel
theorem dX6_stopPlace_26 : decode cX6_stopPlace 26 = .ok (.aload_n 0, 1) := by decide +kernel
theorem dX6_stopPlace_27 : decode cX6_stopPlace 27 = .ok (.getfield 27, 3) := by decide +kernel
theorem dX6_stopPlace_30 : decode cX6_stopPlace 30 = .ok (.aload_n 0, 1) := by decide +kernel
theorem dX6_stopPlace_31 : decode cX6_stopPlace 31 = .ok (.getfield 37, 3) := by decide +kernel
theorem dX6_stopPlace_34 : decode cX6_stopPlace 34 = .ok (.iload_n 3, 1) := by decide +kernel
theorem dX6_stopPlace_35 : decode cX6_stopPlace 35 = .ok (.iaload, 1) := by decide +kernel
theorem dX6_stopPlace_36 : decode cX6_stopPlace 36 = .ok (.invokevirtual 162, 3) := by decide +kernel
theorem dX6_stopPlace_39 : decode cX6_stopPlace 39 = .ok (.istore 4, 2) := by decide +kernel
theorem dX6_stopPlace_41 : decode cX6_stopPlace 41 = .ok (.iload 4, 2) := by decide +kernel
theorem dX6_stopPlace_43 : decode cX6_stopPlace 43 = .ok (.iload_n 1, 1) := by decide +kernel
theorem dX6_stopPlace_44 : decode cX6_stopPlace 44 = .ok (.iload_n 2, 1) := by decide +kernel
theorem dX6_stopPlace_45 : decode cX6_stopPlace 45 = .ok (.invokestatic 166, 3) := by decide +kernel
theorem dX6_stopPlace_48 : decode cX6_stopPlace 48 = .ok (.ifCond .ne 5, 3) := by decide +kernel
theorem dX6_stopPlace_51 : decode cX6_stopPlace 51 = .ok (.iload_n 3, 1) := by decide +kernel
theorem dX6_stopPlace_52 : decode cX6_stopPlace 52 = .ok (.ireturn, 1) := by decide +kernel
theorem dX6_stopPlace_53 : decode cX6_stopPlace 53 = .ok (.aload_n 0, 1) := by decide +kernel
theorem dX6_stopPlace_54 : decode cX6_stopPlace 54 = .ok (.getfield 27, 3) := by decide +kernel
theorem dX6_stopPlace_57 : decode cX6_stopPlace 57 = .ok (.getfield 170, 3) := by decide +kernel
theorem dX6_stopPlace_60 : decode cX6_stopPlace 60 = .ok (.iload_n 1, 1) := by decide +kernel
theorem dX6_stopPlace_61 : decode cX6_stopPlace 61 = .ok (.invokestatic 173, 3) := by decide +kernel
theorem dX6_stopPlace_64 : decode cX6_stopPlace 64 = .ok (.istore_n 2, 1) := by decide +kernel
theorem dX6_stopPlace_65 : decode cX6_stopPlace 65 = .ok (.iload 4, 2) := by decide +kernel
theorem dX6_stopPlace_67 : decode cX6_stopPlace 67 = .ok (.istore_n 1, 1) := by decide +kernel
theorem dX6_stopPlace_68 : decode cX6_stopPlace 68 = .ok (.iinc 3 1, 3) := by decide +kernel
theorem dX6_stopPlace_71 : decode cX6_stopPlace 71 = .ok (.goto (-53), 3) := by decide +kernel
theorem dX6_stopPlace_74 : decode cX6_stopPlace 74 = .ok (.aload_n 0, 1) := by decide +kernel
theorem dX6_stopPlace_75 : decode cX6_stopPlace 75 = .ok (.getfield 88, 3) := by decide +kernel
theorem dX6_stopPlace_78 : decode cX6_stopPlace 78 = .ok (.ireturn, 1) := by decide +kernel
theorem dX6_stopsNowhere_0 : decode cX6_stopsNowhere 0 = .ok (.aload_n 0, 1) := by decide +kernel
theorem dX6_stopsNowhere_1 : decode cX6_stopsNowhere 1 = .ok (.invokevirtual 146, 3) := by decide +kernel
theorem dX6_stopsNowhere_4 : decode cX6_stopsNowhere 4 = .ok (.aload_n 0, 1) := by decide +kernel
theorem dX6_stopsNowhere_5 : decode cX6_stopsNowhere 5 = .ok (.getfield 88, 3) := by decide +kernel
theorem dX6_stopsNowhere_8 : decode cX6_stopsNowhere 8 = .ok (.if_icmp .lt 7, 3) := by decide +kernel
theorem dX6_stopsNowhere_11 : decode cX6_stopsNowhere 11 = .ok (.iconst 1, 1) := by decide +kernel
theorem dX6_stopsNowhere_12 : decode cX6_stopsNowhere 12 = .ok (.goto 4, 3) := by decide +kernel
theorem dX6_stopsNowhere_15 : decode cX6_stopsNowhere 15 = .ok (.iconst 0, 1) := by decide +kernel
theorem dX6_stopsNowhere_16 : decode cX6_stopsNowhere 16 = .ok (.ireturn, 1) := by decide +kernel
theorem dX6_lineEnds_0 : decode cX6_lineEnds 0 = .ok (.aload_n 0, 1) := by decide +kernel
theorem dX6_lineEnds_1 : decode cX6_lineEnds 1 = .ok (.invokevirtual 146, 3) := by decide +kernel
theorem dX6_lineEnds_4 : decode cX6_lineEnds 4 = .ok (.istore_n 1, 1) := by decide +kernel
theorem dX6_lineEnds_5 : decode cX6_lineEnds 5 = .ok (.aload_n 0, 1) := by decide +kernel
theorem dX6_lineEnds_6 : decode cX6_lineEnds 6 = .ok (.getfield 27, 3) := by decide +kernel
theorem dX6_lineEnds_9 : decode cX6_lineEnds 9 = .ok (.getfield 129, 3) := by decide +kernel
theorem dX6_lineEnds_12 : decode cX6_lineEnds 12 = .ok (.istore_n 2, 1) := by decide +kernel
theorem dX6_lineEnds_13 : decode cX6_lineEnds 13 = .ok (.iconst 0, 1) := by decide +kernel
theorem dX6_lineEnds_14 : decode cX6_lineEnds 14 = .ok (.istore_n 3, 1) := by decide +kernel
theorem dX6_lineEnds_15 : decode cX6_lineEnds 15 = .ok (.iload_n 3, 1) := by decide +kernel
theorem dX6_lineEnds_16 : decode cX6_lineEnds 16 = .ok (.iload_n 1, 1) := by decide +kernel
theorem dX6_lineEnds_17 : decode cX6_lineEnds 17 = .ok (.if_icmp .ge 24, 3) := by decide +kernel
theorem dX6_lineEnds_20 : decode cX6_lineEnds 20 = .ok (.aload_n 0, 1) := by decide +kernel
theorem dX6_lineEnds_21 : decode cX6_lineEnds 21 = .ok (.getfield 27, 3) := by decide +kernel
theorem dX6_lineEnds_24 : decode cX6_lineEnds 24 = .ok (.iload_n 2, 1) := by decide +kernel
theorem dX6_lineEnds_25 : decode cX6_lineEnds 25 = .ok (.aload_n 0, 1) := by decide +kernel
theorem dX6_lineEnds_26 : decode cX6_lineEnds 26 = .ok (.getfield 37, 3) := by decide +kernel
theorem dX6_lineEnds_29 : decode cX6_lineEnds 29 = .ok (.iload_n 3, 1) := by decide +kernel
theorem dX6_lineEnds_30 : decode cX6_lineEnds 30 = .ok (.iaload, 1) := by decide +kernel
