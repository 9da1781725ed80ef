theorem dX0_init_0 : decode cX0_init 0 = .ok (.aload_n 0, 1) := by decide +kernel
theorem dX0_init_1 : decode cX0_init 1 = .ok (.invokespecial 3, 3) := by decide +kernel
theorem dX0_init_4 : decode cX0_init 4 = .ok (.aload_n 0, 1) := by decide +kernel
theorem dX0_init_5 : decode cX0_init 5 = .ok (.iconst 5, 1) := by decide +kernel
theorem dX0_init_6 : decode cX0_init 6 = .ok (.newarray .int, 2) := by decide +kernel
theorem dX0_init_8 : decode cX0_init 8 = .ok (.putfield 9, 3) := by decide +kernel
theorem dX0_init_11 : decode cX0_init 11 = .ok (.aload_n 0, 1) := by decide +kernel
theorem dX0_init_12 : decode cX0_init 12 = .ok (.iconst 5, 1) := by decide +kernel
theorem dX0_init_13 : decode cX0_init 13 = .ok (.newarray .int, 2) := by decide +kernel
theorem dX0_init_15 : decode cX0_init 15 = .ok (.putfield 15, 3) := by decide +kernel
theorem dX0_init_18 : decode cX0_init 18 = .ok (.aload_n 0, 1) := by decide +kernel
theorem dX0_init_19 : decode cX0_init 19 = .ok (.iconst 5, 1) := by decide +kernel
theorem dX0_init_20 : decode cX0_init 20 = .ok (.newarray .int, 2) := by decide +kernel
theorem dX0_init_22 : decode cX0_init 22 = .ok (.putfield 18, 3) := by decide +kernel
theorem dX0_init_25 : decode cX0_init 25 = .ok (.aload_n 0, 1) := by decide +kernel
theorem dX0_init_26 : decode cX0_init 26 = .ok (.iconst 0, 1) := by decide +kernel
theorem dX0_init_27 : decode cX0_init 27 = .ok (.newarray .int, 2) := by decide +kernel
theorem dX0_init_29 : decode cX0_init 29 = .ok (.putfield 21, 3) := by decide +kernel
theorem dX0_init_32 : decode cX0_init 32 = .ok (.return_, 1) := by decide +kernel
theorem dX0_takeNone_0 : decode cX0_takeNone 0 = .ok (.aload_n 0, 1) := by decide +kernel
theorem dX0_takeNone_1 : decode cX0_takeNone 1 = .ok (.getfield 9, 3) := by decide +kernel
theorem dX0_takeNone_4 : decode cX0_takeNone 4 = .ok (.iconst 0, 1) := by decide +kernel
theorem dX0_takeNone_5 : decode cX0_takeNone 5 = .ok (.invokestatic 24, 3) := by decide +kernel
theorem dX0_takeNone_8 : decode cX0_takeNone 8 = .ok (.return_, 1) := by decide +kernel
theorem dX0_addOne_0 : decode cX0_addOne 0 = .ok (.iload_n 1, 1) := by decide +kernel
theorem dX0_addOne_1 : decode cX0_addOne 1 = .ok (.invokestatic 30, 3) := by decide +kernel
theorem dX0_addOne_4 : decode cX0_addOne 4 = .ok (.ifCond .eq 13, 3) := by decide +kernel
theorem dX0_addOne_7 : decode cX0_addOne 7 = .ok (.aload_n 0, 1) := by decide +kernel
theorem dX0_addOne_8 : decode cX0_addOne 8 = .ok (.getfield 9, 3) := by decide +kernel
theorem dX0_addOne_11 : decode cX0_addOne 11 = .ok (.iload_n 1, 1) := by decide +kernel
theorem dX0_addOne_12 : decode cX0_addOne 12 = .ok (.dup2, 1) := by decide +kernel
theorem dX0_addOne_13 : decode cX0_addOne 13 = .ok (.iaload, 1) := by decide +kernel
theorem dX0_addOne_14 : decode cX0_addOne 14 = .ok (.iconst 1, 1) := by decide +kernel
theorem dX0_addOne_15 : decode cX0_addOne 15 = .ok (.iadd, 1) := by decide +kernel
theorem dX0_addOne_16 : decode cX0_addOne 16 = .ok (.iastore, 1) := by decide +kernel
theorem dX0_addOne_17 : decode cX0_addOne 17 = .ok (.return_, 1) := by decide +kernel
theorem dX0_dropKind_0 : decode cX0_dropKind 0 = .ok (.iload_n 1, 1) := by decide +kernel
theorem dX0_dropKind_1 : decode cX0_dropKind 1 = .ok (.invokestatic 30, 3) := by decide +kernel
theorem dX0_dropKind_4 : decode cX0_dropKind 4 = .ok (.ifCond .eq 10, 3) := by decide +kernel
theorem dX0_dropKind_7 : decode cX0_dropKind 7 = .ok (.aload_n 0, 1) := by decide +kernel
theorem dX0_dropKind_8 : decode cX0_dropKind 8 = .ok (.getfield 9, 3) := by decide +kernel
theorem dX0_dropKind_11 : decode cX0_dropKind 11 = .ok (.iload_n 1, 1) := by decide +kernel
theorem dX0_dropKind_12 : decode cX0_dropKind 12 = .ok (.iconst 0, 1) := by decide +kernel
theorem dX0_dropKind_13 : decode cX0_dropKind 13 = .ok (.iastore, 1) := by decide +kernel
theorem dX0_dropKind_14 : decode cX0_dropKind 14 = .ok (.return_, 1) := by decide +kernel
theorem dX0_takeAll_0 : decode cX0_takeAll 0 = .ok (.aload_n 0, 1) := by decide +kernel
theorem dX0_takeAll_1 : decode cX0_takeAll 1 = .ok (.invokevirtual 34, 3) := by decide +kernel
theorem dX0_takeAll_4 : decode cX0_takeAll 4 = .ok (.iconst 0, 1) := by decide +kernel
theorem dX0_takeAll_5 : decode cX0_takeAll 5 = .ok (.istore_n 2, 1) := by decide +kernel
theorem dX0_takeAll_6 : decode cX0_takeAll 6 = .ok (.iload_n 2, 1) := by decide +kernel
theorem dX0_takeAll_7 : decode cX0_takeAll 7 = .ok (.bipush 10, 2) := by decide +kernel
theorem dX0_takeAll_9 : decode cX0_takeAll 9 = .ok (.if_icmp .ge 26, 3) := by decide +kernel
theorem dX0_takeAll_12 : decode cX0_takeAll 12 = .ok (.aload_n 1, 1) := by decide +kernel
theorem dX0_takeAll_13 : decode cX0_takeAll 13 = .ok (.iload_n 2, 1) := by decide +kernel
theorem dX0_takeAll_14 : decode cX0_takeAll 14 = .ok (.invokevirtual 37, 3) := by decide +kernel
theorem dX0_takeAll_17 : decode cX0_takeAll 17 = .ok (.ifCond .eq 12, 3) := by decide +kernel
theorem dX0_takeAll_20 : decode cX0_takeAll 20 = .ok (.aload_n 0, 1) := by decide +kernel
theorem dX0_takeAll_21 : decode cX0_takeAll 21 = .ok (.aload_n 1, 1) := by decide +kernel
theorem dX0_takeAll_22 : decode cX0_takeAll 22 = .ok (.iload_n 2, 1) := by decide +kernel
theorem dX0_takeAll_23 : decode cX0_takeAll 23 = .ok (.invokevirtual 42, 3) := by decide +kernel
theorem dX0_takeAll_26 : decode cX0_takeAll 26 = .ok (.invokevirtual 46, 3) := by decide +kernel
theorem dX0_takeAll_29 : decode cX0_takeAll 29 = .ok (.iinc 2 1, 3) := by decide +kernel
theorem dX0_takeAll_32 : decode cX0_takeAll 32 = .ok (.goto (-26), 3) := by decide +kernel
theorem dX0_takeAll_35 : decode cX0_takeAll 35 = .ok (.return_, 1) := by decide +kernel
theorem dX0_takeOwners_0 : decode cX0_takeOwners 0 = .ok (.aload_n 0, 1) := by decide +kernel
theorem dX0_takeOwners_1 : decode cX0_takeOwners 1 = .ok (.invokevirtual 34, 3) := by decide +kernel
theorem dX0_takeOwners_4 : decode cX0_takeOwners 4 = .ok (.iconst 0, 1) := by decide +kernel
theorem dX0_takeOwners_5 : decode cX0_takeOwners 5 = .ok (.istore 4, 2) := by decide +kernel
theorem dX0_takeOwners_7 : decode cX0_takeOwners 7 = .ok (.iload 4, 2) := by decide +kernel
theorem dX0_takeOwners_9 : decode cX0_takeOwners 9 = .ok (.bipush 10, 2) := by decide +kernel
theorem dX0_takeOwners_11 : decode cX0_takeOwners 11 = .ok (.if_icmp .ge 50, 3) := by decide +kernel
theorem dX0_takeOwners_14 : decode cX0_takeOwners 14 = .ok (.aload_n 1, 1) := by decide +kernel
theorem dX0_takeOwners_15 : decode cX0_takeOwners 15 = .ok (.iload 4, 2) := by decide +kernel
theorem dX0_takeOwners_17 : decode cX0_takeOwners 17 = .ok (.invokevirtual 37, 3) := by decide +kernel
theorem dX0_takeOwners_20 : decode cX0_takeOwners 20 = .ok (.ifCond .eq 35, 3) := by decide +kernel
theorem dX0_takeOwners_23 : decode cX0_takeOwners 23 = .ok (.aload_n 1, 1) := by decide +kernel
theorem dX0_takeOwners_24 : decode cX0_takeOwners 24 = .ok (.getfield 50, 3) := by decide +kernel
theorem dX0_takeOwners_27 : decode cX0_takeOwners 27 = .ok (.iload 4, 2) := by decide +kernel
theorem dX0_takeOwners_29 : decode cX0_takeOwners 29 = .ok (.iaload, 1) := by decide +kernel
theorem dX0_takeOwners_30 : decode cX0_takeOwners 30 = .ok (.iload_n 2, 1) := by decide +kernel
theorem dX0_takeOwners_31 : decode cX0_takeOwners 31 = .ok (.if_icmp .eq 14, 3) := by decide +kernel
theorem dX0_takeOwners_34 : decode cX0_takeOwners 34 = .ok (.aload_n 1, 1) := by decide +kernel
theorem dX0_takeOwners_35 : decode cX0_takeOwners 35 = .ok (.getfield 50, 3) := by decide +kernel
theorem dX0_takeOwners_38 : decode cX0_takeOwners 38 = .ok (.iload 4, 2) := by decide +kernel
theorem dX0_takeOwners_40 : decode cX0_takeOwners 40 = .ok (.iaload, 1) := by decide +kernel
theorem dX0_takeOwners_41 : decode cX0_takeOwners 41 = .ok (.iload_n 3, 1) := by decide +kernel
theorem dX0_takeOwners_42 : decode cX0_takeOwners 42 = .ok (.if_icmp .ne 13, 3) := by decide +kernel
theorem dX0_takeOwners_45 : decode cX0_takeOwners 45 = .ok (.aload_n 0, 1) := by decide +kernel
theorem dX0_takeOwners_46 : decode cX0_takeOwners 46 = .ok (.aload_n 1, 1) := by decide +kernel
theorem dX0_takeOwners_47 : decode cX0_takeOwners 47 = .ok (.iload 4, 2) := by decide +kernel
theorem dX0_takeOwners_49 : decode cX0_takeOwners 49 = .ok (.invokevirtual 42, 3) := by decide +kernel
theorem dX0_takeOwners_52 : decode cX0_takeOwners 52 = .ok (.invokevirtual 46, 3) := by decide +kernel
theorem dX0_takeOwners_55 : decode cX0_takeOwners 55 = .ok (.iinc 4 1, 3) := by decide +kernel
theorem dX0_takeOwners_58 : decode cX0_takeOwners 58 = .ok (.goto (-51), 3) := by decide +kernel
theorem dX0_takeOwners_61 : decode cX0_takeOwners 61 = .ok (.return_, 1) := by decide +kernel
theorem dX0_takeGrown_0 : decode cX0_takeGrown 0 = .ok (.aload_n 0, 1) := by decide +kernel
theorem dX0_takeGrown_1 : decode cX0_takeGrown 1 = .ok (.invokevirtual 34, 3) := by decide +kernel
theorem dX0_takeGrown_4 : decode cX0_takeGrown 4 = .ok (.iconst 0, 1) := by decide +kernel
theorem dX0_takeGrown_5 : decode cX0_takeGrown 5 = .ok (.istore 4, 2) := by decide +kernel
theorem dX0_takeGrown_7 : decode cX0_takeGrown 7 = .ok (.iload 4, 2) := by decide +kernel
theorem dX0_takeGrown_9 : decode cX0_takeGrown 9 = .ok (.bipush 10, 2) := by decide +kernel
theorem dX0_takeGrown_11 : decode cX0_takeGrown 11 = .ok (.if_icmp .ge 43, 3) := by decide +kernel
theorem dX0_takeGrown_14 : decode cX0_takeGrown 14 = .ok (.aload_n 1, 1) := by decide +kernel
theorem dX0_takeGrown_15 : decode cX0_takeGrown 15 = .ok (.iload 4, 2) := by decide +kernel
theorem dX0_takeGrown_17 : decode cX0_takeGrown 17 = .ok (.invokevirtual 37, 3) := by decide +kernel
theorem dX0_takeGrown_20 : decode cX0_takeGrown 20 = .ok (.ifCond .eq 28, 3) := by decide +kernel
theorem dX0_takeGrown_23 : decode cX0_takeGrown 23 = .ok (.aload_n 0, 1) := by decide +kernel
theorem dX0_takeGrown_24 : decode cX0_takeGrown 24 = .ok (.aload_n 1, 1) := by decide +kernel
theorem dX0_takeGrown_25 : decode cX0_takeGrown 25 = .ok (.getfield 50, 3) := by decide +kernel
theorem dX0_takeGrown_28 : decode cX0_takeGrown 28 = .ok (.iload 4, 2) := by decide +kernel
theorem dX0_takeGrown_30 : decode cX0_takeGrown 30 = .ok (.iaload, 1) := by decide +kernel
theorem dX0_takeGrown_31 : decode cX0_takeGrown 31 = .ok (.iload_n 2, 1) := by decide +kernel
theorem dX0_takeGrown_32 : decode cX0_takeGrown 32 = .ok (.if_icmp .ne 7, 3) := by decide +kernel
theorem dX0_takeGrown_35 : decode cX0_takeGrown 35 = .ok (.iload_n 3, 1) := by decide +kernel
theorem dX0_takeGrown_36 : decode cX0_takeGrown 36 = .ok (.goto 9, 3) := by decide +kernel
theorem dX0_takeGrown_39 : decode cX0_takeGrown 39 = .ok (.aload_n 1, 1) := by decide +kernel
theorem dX0_takeGrown_40 : decode cX0_takeGrown 40 = .ok (.iload 4, 2) := by decide +kernel
theorem dX0_takeGrown_42 : decode cX0_takeGrown 42 = .ok (.invokevirtual 42, 3) := by decide +kernel
theorem dX0_takeGrown_45 : decode cX0_takeGrown 45 = .ok (.invokevirtual 46, 3) := by decide +kernel
theorem dX0_takeGrown_48 : decode cX0_takeGrown 48 = .ok (.iinc 4 1, 3) := by decide +kernel
theorem dX0_takeGrown_51 : decode cX0_takeGrown 51 = .ok (.goto (-44), 3) := by decide +kernel
theorem dX0_takeGrown_54 : decode cX0_takeGrown 54 = .ok (.return_, 1) := by decide +kernel
theorem dX0_total_0 : decode cX0_total 0 = .ok (.iconst 0, 1) := by decide +kernel
theorem dX0_total_1 : decode cX0_total 1 = .ok (.istore_n 1, 1) := by decide +kernel
theorem dX0_total_2 : decode cX0_total 2 = .ok (.iconst 0, 1) := by decide +kernel
theorem dX0_total_3 : decode cX0_total 3 = .ok (.istore_n 2, 1) := by decide +kernel
theorem dX0_total_4 : decode cX0_total 4 = .ok (.iload_n 2, 1) := by decide +kernel
theorem dX0_total_5 : decode cX0_total 5 = .ok (.iconst 5, 1) := by decide +kernel
theorem dX0_total_6 : decode cX0_total 6 = .ok (.if_icmp .ge 18, 3) := by decide +kernel
theorem dX0_total_9 : decode cX0_total 9 = .ok (.iload_n 1, 1) := by decide +kernel
theorem dX0_total_10 : decode cX0_total 10 = .ok (.aload_n 0, 1) := by decide +kernel
theorem dX0_total_11 : decode cX0_total 11 = .ok (.getfield 9, 3) := by decide +kernel
theorem dX0_total_14 : decode cX0_total 14 = .ok (.iload_n 2, 1) := by decide +kernel
theorem dX0_total_15 : decode cX0_total 15 = .ok (.iaload, 1) := by decide +kernel
theorem dX0_total_16 : decode cX0_total 16 = .ok (.iadd, 1) := by decide +kernel
theorem dX0_total_17 : decode cX0_total 17 = .ok (.istore_n 1, 1) := by decide +kernel
theorem dX0_total_18 : decode cX0_total 18 = .ok (.iinc 2 1, 3) := by decide +kernel
theorem dX0_total_21 : decode cX0_total 21 = .ok (.goto (-17), 3) := by decide +kernel
theorem dX0_total_24 : decode cX0_total 24 = .ok (.iload_n 1, 1) := by decide +kernel
theorem dX0_total_25 : decode cX0_total 25 = .ok (.ireturn, 1) := by decide +kernel
theorem dX0_weigh_0 : decode cX0_weigh 0 = .ok (.aload_n 0, 1) := by decide +kernel
theorem dX0_weigh_1 : decode cX0_weigh 1 = .ok (.iconst 1, 1) := by decide +kernel
theorem dX0_weigh_2 : decode cX0_weigh 2 = .ok (.putfield 53, 3) := by decide +kernel
theorem dX0_weigh_5 : decode cX0_weigh 5 = .ok (.iconst 0, 1) := by decide +kernel
theorem dX0_weigh_6 : decode cX0_weigh 6 = .ok (.istore_n 1, 1) := by decide +kernel
theorem dX0_weigh_7 : decode cX0_weigh 7 = .ok (.iload_n 1, 1) := by decide +kernel
theorem dX0_weigh_8 : decode cX0_weigh 8 = .ok (.iconst 5, 1) := by decide +kernel
theorem dX0_weigh_9 : decode cX0_weigh 9 = .ok (.if_icmp .ge 36, 3) := by decide +kernel
theorem dX0_weigh_12 : decode cX0_weigh 12 = .ok (.aload_n 0, 1) := by decide +kernel
theorem dX0_weigh_13 : decode cX0_weigh 13 = .ok (.getfield 15, 3) := by decide +kernel
theorem dX0_weigh_16 : decode cX0_weigh 16 = .ok (.iload_n 1, 1) := by decide +kernel
theorem dX0_weigh_17 : decode cX0_weigh 17 = .ok (.aload_n 0, 1) := by decide +kernel
theorem dX0_weigh_18 : decode cX0_weigh 18 = .ok (.getfield 53, 3) := by decide +kernel
theorem dX0_weigh_21 : decode cX0_weigh 21 = .ok (.iastore, 1) := by decide +kernel
theorem dX0_weigh_22 : decode cX0_weigh 22 = .ok (.aload_n 0, 1) := by decide +kernel
theorem dX0_weigh_23 : decode cX0_weigh 23 = .ok (.dup, 1) := by decide +kernel
theorem dX0_weigh_24 : decode cX0_weigh 24 = .ok (.getfield 53, 3) := by decide +kernel
theorem dX0_weigh_27 : decode cX0_weigh 27 = .ok (.aload_n 0, 1) := by decide +kernel
theorem dX0_weigh_28 : decode cX0_weigh 28 = .ok (.getfield 9, 3) := by decide +kernel
theorem dX0_weigh_31 : decode cX0_weigh 31 = .ok (.iload_n 1, 1) := by decide +kernel
theorem dX0_weigh_32 : decode cX0_weigh 32 = .ok (.iaload, 1) := by decide +kernel
theorem dX0_weigh_33 : decode cX0_weigh 33 = .ok (.iconst 1, 1) := by decide +kernel
theorem dX0_weigh_34 : decode cX0_weigh 34 = .ok (.iadd, 1) := by decide +kernel
theorem dX0_weigh_35 : decode cX0_weigh 35 = .ok (.imul, 1) := by decide +kernel
theorem dX0_weigh_36 : decode cX0_weigh 36 = .ok (.putfield 53, 3) := by decide +kernel
theorem dX0_weigh_39 : decode cX0_weigh 39 = .ok (.iinc 1 1, 3) := by decide +kernel
theorem dX0_weigh_42 : decode cX0_weigh 42 = .ok (.goto (-35), 3) := by decide +kernel
theorem dX0_weigh_45 : decode cX0_weigh 45 = .ok (.return_, 1) := by decide +kernel
theorem dX0_unfold_0 : decode cX0_unfold 0 = .ok (.iload_n 1, 1) := by decide +kernel
theorem dX0_unfold_1 : decode cX0_unfold 1 = .ok (.istore_n 2, 1) := by decide +kernel
theorem dX0_unfold_2 : decode cX0_unfold 2 = .ok (.iconst 4, 1) := by decide +kernel
theorem dX0_unfold_3 : decode cX0_unfold 3 = .ok (.istore_n 3, 1) := by decide +kernel
theorem dX0_unfold_4 : decode cX0_unfold 4 = .ok (.iload_n 3, 1) := by decide +kernel
theorem dX0_unfold_5 : decode cX0_unfold 5 = .ok (.ifCond .lt 52, 3) := by decide +kernel
theorem dX0_unfold_8 : decode cX0_unfold 8 = .ok (.aload_n 0, 1) := by decide +kernel
theorem dX0_unfold_9 : decode cX0_unfold 9 = .ok (.getfield 18, 3) := by decide +kernel
theorem dX0_unfold_12 : decode cX0_unfold 12 = .ok (.iload_n 3, 1) := by decide +kernel
theorem dX0_unfold_13 : decode cX0_unfold 13 = .ok (.aload_n 0, 1) := by decide +kernel
theorem dX0_unfold_14 : decode cX0_unfold 14 = .ok (.getfield 15, 3) := by decide +kernel
theorem dX0_unfold_17 : decode cX0_unfold 17 = .ok (.iload_n 3, 1) := by decide +kernel
theorem dX0_unfold_18 : decode cX0_unfold 18 = .ok (.iaload, 1) := by decide +kernel
theorem dX0_unfold_19 : decode cX0_unfold 19 = .ok (.ifCond .le 14, 3) := by decide +kernel
theorem dX0_unfold_22 : decode cX0_unfold 22 = .ok (.iload_n 2, 1) := by decide +kernel
theorem dX0_unfold_23 : decode cX0_unfold 23 = .ok (.aload_n 0, 1) := by decide +kernel
theorem dX0_unfold_24 : decode cX0_unfold 24 = .ok (.getfield 15, 3) := by decide +kernel
theorem dX0_unfold_27 : decode cX0_unfold 27 = .ok (.iload_n 3, 1) := by decide +kernel
theorem dX0_unfold_28 : decode cX0_unfold 28 = .ok (.iaload, 1) := by decide +kernel
theorem dX0_unfold_29 : decode cX0_unfold 29 = .ok (.idiv, 1) := by decide +kernel
theorem dX0_unfold_30 : decode cX0_unfold 30 = .ok (.goto 4, 3) := by decide +kernel
theorem dX0_unfold_33 : decode cX0_unfold 33 = .ok (.iconst 0, 1) := by decide +kernel
theorem dX0_unfold_34 : decode cX0_unfold 34 = .ok (.iastore, 1) := by decide +kernel
theorem dX0_unfold_35 : decode cX0_unfold 35 = .ok (.iload_n 2, 1) := by decide +kernel
theorem dX0_unfold_36 : decode cX0_unfold 36 = .ok (.aload_n 0, 1) := by decide +kernel
theorem dX0_unfold_37 : decode cX0_unfold 37 = .ok (.getfield 18, 3) := by decide +kernel
theorem dX0_unfold_40 : decode cX0_unfold 40 = .ok (.iload_n 3, 1) := by decide +kernel
theorem dX0_unfold_41 : decode cX0_unfold 41 = .ok (.iaload, 1) := by decide +kernel
theorem dX0_unfold_42 : decode cX0_unfold 42 = .ok (.aload_n 0, 1) := by decide +kernel
theorem dX0_unfold_43 : decode cX0_unfold 43 = .ok (.getfield 15, 3) := by decide +kernel
theorem dX0_unfold_46 : decode cX0_unfold 46 = .ok (.iload_n 3, 1) := by decide +kernel
theorem dX0_unfold_47 : decode cX0_unfold 47 = .ok (.iaload, 1) := by decide +kernel
theorem dX0_unfold_48 : decode cX0_unfold 48 = .ok (.imul, 1) := by decide +kernel
theorem dX0_unfold_49 : decode cX0_unfold 49 = .ok (.isub, 1) := by decide +kernel
theorem dX0_unfold_50 : decode cX0_unfold 50 = .ok (.istore_n 2, 1) := by decide +kernel
theorem dX0_unfold_51 : decode cX0_unfold 51 = .ok (.iinc 3 (-1), 3) := by decide +kernel
theorem dX0_unfold_54 : decode cX0_unfold 54 = .ok (.goto (-50), 3) := by decide +kernel
theorem dX0_unfold_57 : decode cX0_unfold 57 = .ok (.return_, 1) := by decide +kernel
theorem dX0_longest_0 : decode cX0_longest 0 = .ok (.aload_n 0, 1) := by decide +kernel
theorem dX0_longest_1 : decode cX0_longest 1 = .ok (.aload_n 1, 1) := by decide +kernel
theorem dX0_longest_2 : decode cX0_longest 2 = .ok (.iconst 0, 1) := by decide +kernel
theorem dX0_longest_3 : decode cX0_longest 3 = .ok (.invokevirtual 57, 3) := by decide +kernel
theorem dX0_longest_6 : decode cX0_longest 6 = .ok (.ireturn, 1) := by decide +kernel
theorem dX0_countWays_0 : decode cX0_countWays 0 = .ok (.aload_n 0, 1) := by decide +kernel
theorem dX0_countWays_1 : decode cX0_countWays 1 = .ok (.aload_n 1, 1) := by decide +kernel
theorem dX0_countWays_2 : decode cX0_countWays 2 = .ok (.iconst 1, 1) := by decide +kernel
theorem dX0_countWays_3 : decode cX0_countWays 3 = .ok (.invokevirtual 57, 3) := by decide +kernel
theorem dX0_countWays_6 : decode cX0_countWays 6 = .ok (.ireturn, 1) := by decide +kernel
theorem dX0_fillAnswers_0 : decode cX0_fillAnswers 0 = .ok (.aload_n 0, 1) := by decide +kernel
theorem dX0_fillAnswers_1 : decode cX0_fillAnswers 1 = .ok (.invokevirtual 61, 3) := by decide +kernel
theorem dX0_fillAnswers_4 : decode cX0_fillAnswers 4 = .ok (.aload_n 0, 1) := by decide +kernel
theorem dX0_fillAnswers_5 : decode cX0_fillAnswers 5 = .ok (.aload_n 0, 1) := by decide +kernel
theorem dX0_fillAnswers_6 : decode cX0_fillAnswers 6 = .ok (.getfield 21, 3) := by decide +kernel
theorem dX0_fillAnswers_9 : decode cX0_fillAnswers 9 = .ok (.aload_n 0, 1) := by decide +kernel
theorem dX0_fillAnswers_10 : decode cX0_fillAnswers 10 = .ok (.getfield 53, 3) := by decide +kernel
theorem dX0_fillAnswers_13 : decode cX0_fillAnswers 13 = .ok (.bipush 36, 2) := by decide +kernel
theorem dX0_fillAnswers_15 : decode cX0_fillAnswers 15 = .ok (.imul, 1) := by decide +kernel
theorem dX0_fillAnswers_16 : decode cX0_fillAnswers 16 = .ok (.invokestatic 64, 3) := by decide +kernel
theorem dX0_fillAnswers_19 : decode cX0_fillAnswers 19 = .ok (.putfield 21, 3) := by decide +kernel
theorem dX0_fillAnswers_22 : decode cX0_fillAnswers 22 = .ok (.iconst 0, 1) := by decide +kernel
theorem dX0_fillAnswers_23 : decode cX0_fillAnswers 23 = .ok (.istore_n 3, 1) := by decide +kernel
theorem dX0_fillAnswers_24 : decode cX0_fillAnswers 24 = .ok (.iload_n 3, 1) := by decide +kernel
theorem dX0_fillAnswers_25 : decode cX0_fillAnswers 25 = .ok (.aload_n 0, 1) := by decide +kernel
theorem dX0_fillAnswers_26 : decode cX0_fillAnswers 26 = .ok (.getfield 53, 3) := by decide +kernel
theorem dX0_fillAnswers_29 : decode cX0_fillAnswers 29 = .ok (.if_icmp .ge 87, 3) := by decide +kernel
theorem dX0_fillAnswers_32 : decode cX0_fillAnswers 32 = .ok (.aload_n 0, 1) := by decide +kernel
theorem dX0_fillAnswers_33 : decode cX0_fillAnswers 33 = .ok (.iload_n 3, 1) := by decide +kernel
theorem dX0_fillAnswers_34 : decode cX0_fillAnswers 34 = .ok (.invokevirtual 68, 3) := by decide +kernel
theorem dX0_fillAnswers_37 : decode cX0_fillAnswers 37 = .ok (.iconst 0, 1) := by decide +kernel
theorem dX0_fillAnswers_38 : decode cX0_fillAnswers 38 = .ok (.istore 4, 2) := by decide +kernel
theorem dX0_fillAnswers_40 : decode cX0_fillAnswers 40 = .ok (.iload 4, 2) := by decide +kernel
theorem dX0_fillAnswers_42 : decode cX0_fillAnswers 42 = .ok (.bipush 6, 2) := by decide +kernel
theorem dX0_fillAnswers_44 : decode cX0_fillAnswers 44 = .ok (.if_icmp .ge 66, 3) := by decide +kernel
theorem dX0_fillAnswers_47 : decode cX0_fillAnswers 47 = .ok (.aload_n 1, 1) := by decide +kernel
theorem dX0_fillAnswers_48 : decode cX0_fillAnswers 48 = .ok (.getfield 71, 3) := by decide +kernel
theorem dX0_fillAnswers_51 : decode cX0_fillAnswers 51 = .ok (.invokestatic 74, 3) := by decide +kernel
theorem dX0_fillAnswers_54 : decode cX0_fillAnswers 54 = .ok (.istore 5, 2) := by decide +kernel
theorem dX0_fillAnswers_56 : decode cX0_fillAnswers 56 = .ok (.iload 5, 2) := by decide +kernel
theorem dX0_fillAnswers_58 : decode cX0_fillAnswers 58 = .ok (.bipush 6, 2) := by decide +kernel
theorem dX0_fillAnswers_60 : decode cX0_fillAnswers 60 = .ok (.if_icmp .ge 44, 3) := by decide +kernel
theorem dX0_fillAnswers_63 : decode cX0_fillAnswers 63 = .ok (.iload_n 3, 1) := by decide +kernel
theorem dX0_fillAnswers_64 : decode cX0_fillAnswers 64 = .ok (.bipush 36, 2) := by decide +kernel
theorem dX0_fillAnswers_66 : decode cX0_fillAnswers 66 = .ok (.imul, 1) := by decide +kernel
theorem dX0_fillAnswers_67 : decode cX0_fillAnswers 67 = .ok (.iload 4, 2) := by decide +kernel
theorem dX0_fillAnswers_69 : decode cX0_fillAnswers 69 = .ok (.iload 5, 2) := by decide +kernel
theorem dX0_fillAnswers_71 : decode cX0_fillAnswers 71 = .ok (.invokestatic 77, 3) := by decide +kernel
theorem dX0_fillAnswers_74 : decode cX0_fillAnswers 74 = .ok (.iadd, 1) := by decide +kernel
theorem dX0_fillAnswers_75 : decode cX0_fillAnswers 75 = .ok (.istore 6, 2) := by decide +kernel
theorem dX0_fillAnswers_77 : decode cX0_fillAnswers 77 = .ok (.aload_n 0, 1) := by decide +kernel
theorem dX0_fillAnswers_78 : decode cX0_fillAnswers 78 = .ok (.getfield 21, 3) := by decide +kernel
theorem dX0_fillAnswers_81 : decode cX0_fillAnswers 81 = .ok (.iload 6, 2) := by decide +kernel
theorem dX0_fillAnswers_83 : decode cX0_fillAnswers 83 = .ok (.aload_n 0, 1) := by decide +kernel
theorem dX0_fillAnswers_84 : decode cX0_fillAnswers 84 = .ok (.iload_n 3, 1) := by decide +kernel
theorem dX0_fillAnswers_85 : decode cX0_fillAnswers 85 = .ok (.aload_n 1, 1) := by decide +kernel
theorem dX0_fillAnswers_86 : decode cX0_fillAnswers 86 = .ok (.getfield 71, 3) := by decide +kernel
theorem dX0_fillAnswers_89 : decode cX0_fillAnswers 89 = .ok (.iload 4, 2) := by decide +kernel
theorem dX0_fillAnswers_91 : decode cX0_fillAnswers 91 = .ok (.iload 5, 2) := by decide +kernel
theorem dX0_fillAnswers_93 : decode cX0_fillAnswers 93 = .ok (.iload_n 2, 1) := by decide +kernel
theorem dX0_fillAnswers_94 : decode cX0_fillAnswers 94 = .ok (.invokevirtual 81, 3) := by decide +kernel
theorem dX0_fillAnswers_97 : decode cX0_fillAnswers 97 = .ok (.iastore, 1) := by decide +kernel
theorem dX0_fillAnswers_98 : decode cX0_fillAnswers 98 = .ok (.iinc 5 1, 3) := by decide +kernel
theorem dX0_fillAnswers_101 : decode cX0_fillAnswers 101 = .ok (.goto (-45), 3) := by decide +kernel
theorem dX0_fillAnswers_104 : decode cX0_fillAnswers 104 = .ok (.iinc 4 1, 3) := by decide +kernel
theorem dX0_fillAnswers_107 : decode cX0_fillAnswers 107 = .ok (.goto (-67), 3) := by decide +kernel
theorem dX0_fillAnswers_110 : decode cX0_fillAnswers 110 = .ok (.iinc 3 1, 3) := by decide +kernel
theorem dX0_fillAnswers_113 : decode cX0_fillAnswers 113 = .ok (.goto (-89), 3) := by decide +kernel
theorem dX0_fillAnswers_116 : decode cX0_fillAnswers 116 = .ok (.aload_n 0, 1) := by decide +kernel
theorem dX0_fillAnswers_117 : decode cX0_fillAnswers 117 = .ok (.aload_n 0, 1) := by decide +kernel
theorem dX0_fillAnswers_118 : decode cX0_fillAnswers 118 = .ok (.getfield 53, 3) := by decide +kernel
theorem dX0_fillAnswers_121 : decode cX0_fillAnswers 121 = .ok (.iconst 1, 1) := by decide +kernel
theorem dX0_fillAnswers_122 : decode cX0_fillAnswers 122 = .ok (.isub, 1) := by decide +kernel
theorem dX0_fillAnswers_123 : decode cX0_fillAnswers 123 = .ok (.aload_n 1, 1) := by decide +kernel
theorem dX0_fillAnswers_124 : decode cX0_fillAnswers 124 = .ok (.invokevirtual 85, 3) := by decide +kernel
theorem dX0_fillAnswers_127 : decode cX0_fillAnswers 127 = .ok (.invokevirtual 89, 3) := by decide +kernel
theorem dX0_fillAnswers_130 : decode cX0_fillAnswers 130 = .ok (.ireturn, 1) := by decide +kernel
theorem dX0_answer_0 : decode cX0_answer 0 = .ok (.iload 5, 2) := by decide +kernel
theorem dX0_answer_2 : decode cX0_answer 2 = .ok (.ifCond .eq 11, 3) := by decide +kernel
theorem dX0_answer_5 : decode cX0_answer 5 = .ok (.iload_n 1, 1) := by decide +kernel
theorem dX0_answer_6 : decode cX0_answer 6 = .ok (.ifCond .ne 7, 3) := by decide +kernel
theorem dX0_answer_9 : decode cX0_answer 9 = .ok (.iconst 1, 1) := by decide +kernel
theorem dX0_answer_10 : decode cX0_answer 10 = .ok (.goto 4, 3) := by decide +kernel
theorem dX0_answer_13 : decode cX0_answer 13 = .ok (.iconst 0, 1) := by decide +kernel
theorem dX0_answer_14 : decode cX0_answer 14 = .ok (.istore 6, 2) := by decide +kernel
theorem dX0_answer_16 : decode cX0_answer 16 = .ok (.iload_n 2, 1) := by decide +kernel
theorem dX0_answer_17 : decode cX0_answer 17 = .ok (.iload_n 3, 1) := by decide +kernel
theorem dX0_answer_18 : decode cX0_answer 18 = .ok (.invokestatic 92, 3) := by decide +kernel
theorem dX0_answer_21 : decode cX0_answer 21 = .ok (.istore 7, 2) := by decide +kernel
theorem dX0_answer_23 : decode cX0_answer 23 = .ok (.iconst 0, 1) := by decide +kernel
theorem dX0_answer_24 : decode cX0_answer 24 = .ok (.istore 8, 2) := by decide +kernel
theorem dX0_answer_26 : decode cX0_answer 26 = .ok (.iload 8, 2) := by decide +kernel
theorem dX0_answer_28 : decode cX0_answer 28 = .ok (.iconst 5, 1) := by decide +kernel
theorem dX0_answer_29 : decode cX0_answer 29 = .ok (.if_icmp .ge 76, 3) := by decide +kernel
theorem dX0_answer_32 : decode cX0_answer 32 = .ok (.aload_n 0, 1) := by decide +kernel
theorem dX0_answer_33 : decode cX0_answer 33 = .ok (.getfield 18, 3) := by decide +kernel
theorem dX0_answer_36 : decode cX0_answer 36 = .ok (.iload 8, 2) := by decide +kernel
theorem dX0_answer_38 : decode cX0_answer 38 = .ok (.iaload, 1) := by decide +kernel
theorem dX0_answer_39 : decode cX0_answer 39 = .ok (.ifCond .le 60, 3) := by decide +kernel
theorem dX0_answer_42 : decode cX0_answer 42 = .ok (.iload 8, 2) := by decide +kernel
theorem dX0_answer_44 : decode cX0_answer 44 = .ok (.iload_n 3, 1) := by decide +kernel
theorem dX0_answer_45 : decode cX0_answer 45 = .ok (.iload 4, 2) := by decide +kernel
theorem dX0_answer_47 : decode cX0_answer 47 = .ok (.invokestatic 95, 3) := by decide +kernel
theorem dX0_answer_50 : decode cX0_answer 50 = .ok (.ifCond .eq 49, 3) := by decide +kernel
theorem dX0_answer_53 : decode cX0_answer 53 = .ok (.aload_n 0, 1) := by decide +kernel
theorem dX0_answer_54 : decode cX0_answer 54 = .ok (.iload_n 1, 1) := by decide +kernel
theorem dX0_answer_55 : decode cX0_answer 55 = .ok (.aload_n 0, 1) := by decide +kernel
theorem dX0_answer_56 : decode cX0_answer 56 = .ok (.getfield 15, 3) := by decide +kernel
theorem dX0_answer_59 : decode cX0_answer 59 = .ok (.iload 8, 2) := by decide +kernel
theorem dX0_answer_61 : decode cX0_answer 61 = .ok (.iaload, 1) := by decide +kernel
theorem dX0_answer_62 : decode cX0_answer 62 = .ok (.isub, 1) := by decide +kernel
theorem dX0_answer_63 : decode cX0_answer 63 = .ok (.iload 8, 2) := by decide +kernel
theorem dX0_answer_65 : decode cX0_answer 65 = .ok (.iload 7, 2) := by decide +kernel
theorem dX0_answer_67 : decode cX0_answer 67 = .ok (.invokestatic 77, 3) := by decide +kernel
theorem dX0_answer_70 : decode cX0_answer 70 = .ok (.invokevirtual 89, 3) := by decide +kernel
theorem dX0_answer_73 : decode cX0_answer 73 = .ok (.istore 9, 2) := by decide +kernel
theorem dX0_answer_75 : decode cX0_answer 75 = .ok (.iload 5, 2) := by decide +kernel
theorem dX0_answer_77 : decode cX0_answer 77 = .ok (.ifCond .eq 11, 3) := by decide +kernel
theorem dX0_answer_80 : decode cX0_answer 80 = .ok (.iload 6, 2) := by decide +kernel
theorem dX0_answer_82 : decode cX0_answer 82 = .ok (.iload 9, 2) := by decide +kernel
theorem dX0_answer_84 : decode cX0_answer 84 = .ok (.iadd, 1) := by decide +kernel
theorem dX0_answer_85 : decode cX0_answer 85 = .ok (.goto 12, 3) := by decide +kernel
theorem dX0_answer_88 : decode cX0_answer 88 = .ok (.iload 6, 2) := by decide +kernel
theorem dX0_answer_90 : decode cX0_answer 90 = .ok (.iconst 1, 1) := by decide +kernel
theorem dX0_answer_91 : decode cX0_answer 91 = .ok (.iload 9, 2) := by decide +kernel
theorem dX0_answer_93 : decode cX0_answer 93 = .ok (.iadd, 1) := by decide +kernel
theorem dX0_answer_94 : decode cX0_answer 94 = .ok (.invokestatic 99, 3) := by decide +kernel
theorem dX0_answer_97 : decode cX0_answer 97 = .ok (.istore 6, 2) := by decide +kernel
theorem dX0_answer_99 : decode cX0_answer 99 = .ok (.iinc 8 1, 3) := by decide +kernel
theorem dX0_answer_102 : decode cX0_answer 102 = .ok (.goto (-76), 3) := by decide +kernel
theorem dX0_answer_105 : decode cX0_answer 105 = .ok (.iload 6, 2) := by decide +kernel
theorem dX0_answer_107 : decode cX0_answer 107 = .ok (.ireturn, 1) := by decide +kernel
theorem dX0_answerAt_0 : decode cX0_answerAt 0 = .ok (.iload_n 1, 1) := by decide +kernel
theorem dX0_answerAt_1 : decode cX0_answerAt 1 = .ok (.bipush 36, 2) := by decide +kernel
theorem dX0_answerAt_3 : decode cX0_answerAt 3 = .ok (.imul, 1) := by decide +kernel
theorem dX0_answerAt_4 : decode cX0_answerAt 4 = .ok (.iload_n 2, 1) := by decide +kernel
theorem dX0_answerAt_5 : decode cX0_answerAt 5 = .ok (.iadd, 1) := by decide +kernel
theorem dX0_answerAt_6 : decode cX0_answerAt 6 = .ok (.istore_n 3, 1) := by decide +kernel
theorem dX0_answerAt_7 : decode cX0_answerAt 7 = .ok (.iload_n 3, 1) := by decide +kernel
theorem dX0_answerAt_8 : decode cX0_answerAt 8 = .ok (.ifCond .lt 21, 3) := by decide +kernel
theorem dX0_answerAt_11 : decode cX0_answerAt 11 = .ok (.iload_n 3, 1) := by decide +kernel
theorem dX0_answerAt_12 : decode cX0_answerAt 12 = .ok (.aload_n 0, 1) := by decide +kernel
theorem dX0_answerAt_13 : decode cX0_answerAt 13 = .ok (.getfield 21, 3) := by decide +kernel
theorem dX0_answerAt_16 : decode cX0_answerAt 16 = .ok (.arraylength, 1) := by decide +kernel
theorem dX0_answerAt_17 : decode cX0_answerAt 17 = .ok (.if_icmp .ge 12, 3) := by decide +kernel
theorem dX0_answerAt_20 : decode cX0_answerAt 20 = .ok (.aload_n 0, 1) := by decide +kernel
theorem dX0_answerAt_21 : decode cX0_answerAt 21 = .ok (.getfield 21, 3) := by decide +kernel
theorem dX0_answerAt_24 : decode cX0_answerAt 24 = .ok (.iload_n 3, 1) := by decide +kernel
theorem dX0_answerAt_25 : decode cX0_answerAt 25 = .ok (.iaload, 1) := by decide +kernel
theorem dX0_answerAt_26 : decode cX0_answerAt 26 = .ok (.goto 4, 3) := by decide +kernel
theorem dX0_answerAt_29 : decode cX0_answerAt 29 = .ok (.iconst 0, 1) := by decide +kernel
theorem dX0_answerAt_30 : decode cX0_answerAt 30 = .ok (.ireturn, 1) := by decide +kernel
theorem dX0_rowSack_0 : decode cX0_rowSack 0 = .ok (.aload_n 1, 1) := by decide +kernel
theorem dX0_rowSack_1 : decode cX0_rowSack 1 = .ok (.getfield 104, 3) := by decide +kernel
theorem dX0_rowSack_4 : decode cX0_rowSack 4 = .ok (.istore_n 3, 1) := by decide +kernel
theorem dX0_rowSack_5 : decode cX0_rowSack 5 = .ok (.aload_n 1, 1) := by decide +kernel
theorem dX0_rowSack_6 : decode cX0_rowSack 6 = .ok (.getfield 107, 3) := by decide +kernel
theorem dX0_rowSack_9 : decode cX0_rowSack 9 = .ok (.istore 4, 2) := by decide +kernel
theorem dX0_rowSack_11 : decode cX0_rowSack 11 = .ok (.aload_n 0, 1) := by decide +kernel
theorem dX0_rowSack_12 : decode cX0_rowSack 12 = .ok (.getfield 53, 3) := by decide +kernel
theorem dX0_rowSack_15 : decode cX0_rowSack 15 = .ok (.iconst 1, 1) := by decide +kernel
theorem dX0_rowSack_16 : decode cX0_rowSack 16 = .ok (.isub, 1) := by decide +kernel
theorem dX0_rowSack_17 : decode cX0_rowSack 17 = .ok (.istore 5, 2) := by decide +kernel
theorem dX0_rowSack_19 : decode cX0_rowSack 19 = .ok (.iconst 0, 1) := by decide +kernel
theorem dX0_rowSack_20 : decode cX0_rowSack 20 = .ok (.istore 6, 2) := by decide +kernel
theorem dX0_rowSack_22 : decode cX0_rowSack 22 = .ok (.bipush (-4), 2) := by decide +kernel
theorem dX0_rowSack_24 : decode cX0_rowSack 24 = .ok (.istore 7, 2) := by decide +kernel
theorem dX0_rowSack_26 : decode cX0_rowSack 26 = .ok (.iconst 0, 1) := by decide +kernel
theorem dX0_rowSack_27 : decode cX0_rowSack 27 = .ok (.istore 8, 2) := by decide +kernel
theorem dX0_rowSack_29 : decode cX0_rowSack 29 = .ok (.iload 8, 2) := by decide +kernel
theorem dX0_rowSack_31 : decode cX0_rowSack 31 = .ok (.iload_n 2, 1) := by decide +kernel
theorem dX0_rowSack_32 : decode cX0_rowSack 32 = .ok (.if_icmp .gt 83, 3) := by decide +kernel
theorem dX0_rowSack_35 : decode cX0_rowSack 35 = .ok (.iload 8, 2) := by decide +kernel
theorem dX0_rowSack_37 : decode cX0_rowSack 37 = .ok (.bipush 10, 2) := by decide +kernel
theorem dX0_rowSack_39 : decode cX0_rowSack 39 = .ok (.if_icmp .ge 76, 3) := by decide +kernel
theorem dX0_rowSack_42 : decode cX0_rowSack 42 = .ok (.aload_n 0, 1) := by decide +kernel
theorem dX0_rowSack_43 : decode cX0_rowSack 43 = .ok (.aload_n 1, 1) := by decide +kernel
theorem dX0_rowSack_44 : decode cX0_rowSack 44 = .ok (.iload 6, 2) := by decide +kernel
theorem dX0_rowSack_46 : decode cX0_rowSack 46 = .ok (.iload 5, 2) := by decide +kernel
theorem dX0_rowSack_48 : decode cX0_rowSack 48 = .ok (.iload_n 3, 1) := by decide +kernel
theorem dX0_rowSack_49 : decode cX0_rowSack 49 = .ok (.iload 4, 2) := by decide +kernel
theorem dX0_rowSack_51 : decode cX0_rowSack 51 = .ok (.invokevirtual 110, 3) := by decide +kernel
theorem dX0_rowSack_54 : decode cX0_rowSack 54 = .ok (.istore 7, 2) := by decide +kernel
theorem dX0_rowSack_56 : decode cX0_rowSack 56 = .ok (.aload_n 1, 1) := by decide +kernel
theorem dX0_rowSack_57 : decode cX0_rowSack 57 = .ok (.iload 7, 2) := by decide +kernel
theorem dX0_rowSack_59 : decode cX0_rowSack 59 = .ok (.invokevirtual 42, 3) := by decide +kernel
theorem dX0_rowSack_62 : decode cX0_rowSack 62 = .ok (.istore 9, 2) := by decide +kernel
theorem dX0_rowSack_64 : decode cX0_rowSack 64 = .ok (.iload 9, 2) := by decide +kernel
theorem dX0_rowSack_66 : decode cX0_rowSack 66 = .ok (.invokestatic 30, 3) := by decide +kernel
theorem dX0_rowSack_69 : decode cX0_rowSack 69 = .ok (.ifCond .ne 6, 3) := by decide +kernel
theorem dX0_rowSack_72 : decode cX0_rowSack 72 = .ok (.bipush (-4), 2) := by decide +kernel
theorem dX0_rowSack_74 : decode cX0_rowSack 74 = .ok (.ireturn, 1) := by decide +kernel
theorem dX0_rowSack_75 : decode cX0_rowSack 75 = .ok (.iload 6, 2) := by decide +kernel
theorem dX0_rowSack_77 : decode cX0_rowSack 77 = .ok (.iconst 1, 1) := by decide +kernel
theorem dX0_rowSack_78 : decode cX0_rowSack 78 = .ok (.iload 7, 2) := by decide +kernel
theorem dX0_rowSack_80 : decode cX0_rowSack 80 = .ok (.ishl, 1) := by decide +kernel
theorem dX0_rowSack_81 : decode cX0_rowSack 81 = .ok (.ior, 1) := by decide +kernel
theorem dX0_rowSack_82 : decode cX0_rowSack 82 = .ok (.istore 6, 2) := by decide +kernel
theorem dX0_rowSack_84 : decode cX0_rowSack 84 = .ok (.iload 5, 2) := by decide +kernel
theorem dX0_rowSack_86 : decode cX0_rowSack 86 = .ok (.aload_n 0, 1) := by decide +kernel
theorem dX0_rowSack_87 : decode cX0_rowSack 87 = .ok (.getfield 15, 3) := by decide +kernel
theorem dX0_rowSack_90 : decode cX0_rowSack 90 = .ok (.iload 9, 2) := by decide +kernel
theorem dX0_rowSack_92 : decode cX0_rowSack 92 = .ok (.iaload, 1) := by decide +kernel
theorem dX0_rowSack_93 : decode cX0_rowSack 93 = .ok (.isub, 1) := by decide +kernel
theorem dX0_rowSack_94 : decode cX0_rowSack 94 = .ok (.istore 5, 2) := by decide +kernel
theorem dX0_rowSack_96 : decode cX0_rowSack 96 = .ok (.aload_n 1, 1) := by decide +kernel
theorem dX0_rowSack_97 : decode cX0_rowSack 97 = .ok (.getfield 71, 3) := by decide +kernel
theorem dX0_rowSack_100 : decode cX0_rowSack 100 = .ok (.iload_n 3, 1) := by decide +kernel
theorem dX0_rowSack_101 : decode cX0_rowSack 101 = .ok (.invokestatic 92, 3) := by decide +kernel
theorem dX0_rowSack_104 : decode cX0_rowSack 104 = .ok (.istore 4, 2) := by decide +kernel
theorem dX0_rowSack_106 : decode cX0_rowSack 106 = .ok (.iload 9, 2) := by decide +kernel
theorem dX0_rowSack_108 : decode cX0_rowSack 108 = .ok (.istore_n 3, 1) := by decide +kernel
theorem dX0_rowSack_109 : decode cX0_rowSack 109 = .ok (.iinc 8 1, 3) := by decide +kernel
theorem dX0_rowSack_112 : decode cX0_rowSack 112 = .ok (.goto (-83), 3) := by decide +kernel
theorem dX0_rowSack_115 : decode cX0_rowSack 115 = .ok (.iload 7, 2) := by decide +kernel
theorem dX0_rowSack_117 : decode cX0_rowSack 117 = .ok (.ireturn, 1) := by decide +kernel
theorem dX0_nextInRow_0 : decode cX0_nextInRow 0 = .ok (.aload_n 0, 1) := by decide +kernel
theorem dX0_nextInRow_1 : decode cX0_nextInRow 1 = .ok (.iload_n 3, 1) := by decide +kernel
theorem dX0_nextInRow_2 : decode cX0_nextInRow 2 = .ok (.iload 4, 2) := by decide +kernel
theorem dX0_nextInRow_4 : decode cX0_nextInRow 4 = .ok (.iload 5, 2) := by decide +kernel
theorem dX0_nextInRow_6 : decode cX0_nextInRow 6 = .ok (.invokestatic 77, 3) := by decide +kernel
theorem dX0_nextInRow_9 : decode cX0_nextInRow 9 = .ok (.invokevirtual 89, 3) := by decide +kernel
theorem dX0_nextInRow_12 : decode cX0_nextInRow 12 = .ok (.istore 6, 2) := by decide +kernel
theorem dX0_nextInRow_14 : decode cX0_nextInRow 14 = .ok (.aload_n 1, 1) := by decide +kernel
theorem dX0_nextInRow_15 : decode cX0_nextInRow 15 = .ok (.getfield 71, 3) := by decide +kernel
theorem dX0_nextInRow_18 : decode cX0_nextInRow 18 = .ok (.iload 4, 2) := by decide +kernel
theorem dX0_nextInRow_20 : decode cX0_nextInRow 20 = .ok (.invokestatic 92, 3) := by decide +kernel
theorem dX0_nextInRow_23 : decode cX0_nextInRow 23 = .ok (.istore 7, 2) := by decide +kernel
theorem dX0_nextInRow_25 : decode cX0_nextInRow 25 = .ok (.iconst 0, 1) := by decide +kernel
theorem dX0_nextInRow_26 : decode cX0_nextInRow 26 = .ok (.istore 8, 2) := by decide +kernel
theorem dX0_nextInRow_28 : decode cX0_nextInRow 28 = .ok (.iload 8, 2) := by decide +kernel
theorem dX0_nextInRow_30 : decode cX0_nextInRow 30 = .ok (.bipush 10, 2) := by decide +kernel
theorem dX0_nextInRow_32 : decode cX0_nextInRow 32 = .ok (.if_icmp .ge 85, 3) := by decide +kernel
theorem dX0_nextInRow_35 : decode cX0_nextInRow 35 = .ok (.aload_n 1, 1) := by decide +kernel
theorem dX0_nextInRow_36 : decode cX0_nextInRow 36 = .ok (.iload 8, 2) := by decide +kernel
theorem dX0_nextInRow_38 : decode cX0_nextInRow 38 = .ok (.invokevirtual 42, 3) := by decide +kernel
theorem dX0_nextInRow_41 : decode cX0_nextInRow 41 = .ok (.istore 9, 2) := by decide +kernel
theorem dX0_nextInRow_43 : decode cX0_nextInRow 43 = .ok (.aload_n 1, 1) := by decide +kernel
theorem dX0_nextInRow_44 : decode cX0_nextInRow 44 = .ok (.iload 8, 2) := by decide +kernel
theorem dX0_nextInRow_46 : decode cX0_nextInRow 46 = .ok (.invokevirtual 37, 3) := by decide +kernel
theorem dX0_nextInRow_49 : decode cX0_nextInRow 49 = .ok (.ifCond .eq 62, 3) := by decide +kernel
theorem dX0_nextInRow_52 : decode cX0_nextInRow 52 = .ok (.iload_n 2, 1) := by decide +kernel
theorem dX0_nextInRow_53 : decode cX0_nextInRow 53 = .ok (.iload 8, 2) := by decide +kernel
theorem dX0_nextInRow_55 : decode cX0_nextInRow 55 = .ok (.ishr, 1) := by decide +kernel
theorem dX0_nextInRow_56 : decode cX0_nextInRow 56 = .ok (.iconst 1, 1) := by decide +kernel
theorem dX0_nextInRow_57 : decode cX0_nextInRow 57 = .ok (.iand, 1) := by decide +kernel
theorem dX0_nextInRow_58 : decode cX0_nextInRow 58 = .ok (.ifCond .ne 53, 3) := by decide +kernel
theorem dX0_nextInRow_61 : decode cX0_nextInRow 61 = .ok (.iload 9, 2) := by decide +kernel
theorem dX0_nextInRow_63 : decode cX0_nextInRow 63 = .ok (.invokestatic 30, 3) := by decide +kernel
theorem dX0_nextInRow_66 : decode cX0_nextInRow 66 = .ok (.ifCond .eq 45, 3) := by decide +kernel
theorem dX0_nextInRow_69 : decode cX0_nextInRow 69 = .ok (.iload 9, 2) := by decide +kernel
theorem dX0_nextInRow_71 : decode cX0_nextInRow 71 = .ok (.iload 4, 2) := by decide +kernel
theorem dX0_nextInRow_73 : decode cX0_nextInRow 73 = .ok (.iload 5, 2) := by decide +kernel
theorem dX0_nextInRow_75 : decode cX0_nextInRow 75 = .ok (.invokestatic 95, 3) := by decide +kernel
theorem dX0_nextInRow_78 : decode cX0_nextInRow 78 = .ok (.ifCond .eq 33, 3) := by decide +kernel
theorem dX0_nextInRow_81 : decode cX0_nextInRow 81 = .ok (.iconst 1, 1) := by decide +kernel
theorem dX0_nextInRow_82 : decode cX0_nextInRow 82 = .ok (.aload_n 0, 1) := by decide +kernel
theorem dX0_nextInRow_83 : decode cX0_nextInRow 83 = .ok (.iload_n 3, 1) := by decide +kernel
theorem dX0_nextInRow_84 : decode cX0_nextInRow 84 = .ok (.aload_n 0, 1) := by decide +kernel
theorem dX0_nextInRow_85 : decode cX0_nextInRow 85 = .ok (.getfield 15, 3) := by decide +kernel
theorem dX0_nextInRow_88 : decode cX0_nextInRow 88 = .ok (.iload 9, 2) := by decide +kernel
theorem dX0_nextInRow_90 : decode cX0_nextInRow 90 = .ok (.iaload, 1) := by decide +kernel
theorem dX0_nextInRow_91 : decode cX0_nextInRow 91 = .ok (.isub, 1) := by decide +kernel
theorem dX0_nextInRow_92 : decode cX0_nextInRow 92 = .ok (.iload 9, 2) := by decide +kernel
theorem dX0_nextInRow_94 : decode cX0_nextInRow 94 = .ok (.iload 7, 2) := by decide +kernel
theorem dX0_nextInRow_96 : decode cX0_nextInRow 96 = .ok (.invokestatic 77, 3) := by decide +kernel
theorem dX0_nextInRow_99 : decode cX0_nextInRow 99 = .ok (.invokevirtual 89, 3) := by decide +kernel
theorem dX0_nextInRow_102 : decode cX0_nextInRow 102 = .ok (.iadd, 1) := by decide +kernel
theorem dX0_nextInRow_103 : decode cX0_nextInRow 103 = .ok (.iload 6, 2) := by decide +kernel
theorem dX0_nextInRow_105 : decode cX0_nextInRow 105 = .ok (.if_icmp .ne 6, 3) := by decide +kernel
theorem dX0_nextInRow_108 : decode cX0_nextInRow 108 = .ok (.iload 8, 2) := by decide +kernel
theorem dX0_nextInRow_110 : decode cX0_nextInRow 110 = .ok (.ireturn, 1) := by decide +kernel
theorem dX0_nextInRow_111 : decode cX0_nextInRow 111 = .ok (.iinc 8 1, 3) := by decide +kernel
theorem dX0_nextInRow_114 : decode cX0_nextInRow 114 = .ok (.goto (-86), 3) := by decide +kernel
theorem dX0_nextInRow_117 : decode cX0_nextInRow 117 = .ok (.bipush (-4), 2) := by decide +kernel
theorem dX0_nextInRow_119 : decode cX0_nextInRow 119 = .ok (.ireturn, 1) := by decide +kernel
theorem dX0_fewestHalvings_0 : decode cX0_fewestHalvings 0 = .ok (.aload_n 0, 1) := by decide +kernel
theorem dX0_fewestHalvings_1 : decode cX0_fewestHalvings 1 = .ok (.aload_n 1, 1) := by decide +kernel
theorem dX0_fewestHalvings_2 : decode cX0_fewestHalvings 2 = .ok (.invokevirtual 114, 3) := by decide +kernel
theorem dX0_fewestHalvings_5 : decode cX0_fewestHalvings 5 = .ok (.aload_n 0, 1) := by decide +kernel
theorem dX0_fewestHalvings_6 : decode cX0_fewestHalvings 6 = .ok (.invokevirtual 118, 3) := by decide +kernel
theorem dX0_fewestHalvings_9 : decode cX0_fewestHalvings 9 = .ok (.istore_n 2, 1) := by decide +kernel
theorem dX0_fewestHalvings_10 : decode cX0_fewestHalvings 10 = .ok (.iconst 0, 1) := by decide +kernel
theorem dX0_fewestHalvings_11 : decode cX0_fewestHalvings 11 = .ok (.istore_n 3, 1) := by decide +kernel
theorem dX0_fewestHalvings_12 : decode cX0_fewestHalvings 12 = .ok (.iload_n 3, 1) := by decide +kernel
theorem dX0_fewestHalvings_13 : decode cX0_fewestHalvings 13 = .ok (.iconst 5, 1) := by decide +kernel
theorem dX0_fewestHalvings_14 : decode cX0_fewestHalvings 14 = .ok (.if_icmp .ge 74, 3) := by decide +kernel
theorem dX0_fewestHalvings_17 : decode cX0_fewestHalvings 17 = .ok (.iload_n 2, 1) := by decide +kernel
theorem dX0_fewestHalvings_18 : decode cX0_fewestHalvings 18 = .ok (.aload_n 0, 1) := by decide +kernel
theorem dX0_fewestHalvings_19 : decode cX0_fewestHalvings 19 = .ok (.getfield 9, 3) := by decide +kernel
theorem dX0_fewestHalvings_22 : decode cX0_fewestHalvings 22 = .ok (.iload_n 3, 1) := by decide +kernel
theorem dX0_fewestHalvings_23 : decode cX0_fewestHalvings 23 = .ok (.iaload, 1) := by decide +kernel
theorem dX0_fewestHalvings_24 : decode cX0_fewestHalvings 24 = .ok (.isub, 1) := by decide +kernel
theorem dX0_fewestHalvings_25 : decode cX0_fewestHalvings 25 = .ok (.istore 4, 2) := by decide +kernel
theorem dX0_fewestHalvings_27 : decode cX0_fewestHalvings 27 = .ok (.iload_n 3, 1) := by decide +kernel
theorem dX0_fewestHalvings_28 : decode cX0_fewestHalvings 28 = .ok (.aload_n 1, 1) := by decide +kernel
theorem dX0_fewestHalvings_29 : decode cX0_fewestHalvings 29 = .ok (.getfield 104, 3) := by decide +kernel
theorem dX0_fewestHalvings_32 : decode cX0_fewestHalvings 32 = .ok (.if_icmp .ne 12, 3) := by decide +kernel
theorem dX0_fewestHalvings_35 : decode cX0_fewestHalvings 35 = .ok (.aload_n 0, 1) := by decide +kernel
theorem dX0_fewestHalvings_36 : decode cX0_fewestHalvings 36 = .ok (.getfield 9, 3) := by decide +kernel
theorem dX0_fewestHalvings_39 : decode cX0_fewestHalvings 39 = .ok (.iload_n 3, 1) := by decide +kernel
theorem dX0_fewestHalvings_40 : decode cX0_fewestHalvings 40 = .ok (.iaload, 1) := by decide +kernel
theorem dX0_fewestHalvings_41 : decode cX0_fewestHalvings 41 = .ok (.goto 11, 3) := by decide +kernel
theorem dX0_fewestHalvings_44 : decode cX0_fewestHalvings 44 = .ok (.aload_n 0, 1) := by decide +kernel
theorem dX0_fewestHalvings_45 : decode cX0_fewestHalvings 45 = .ok (.getfield 9, 3) := by decide +kernel
theorem dX0_fewestHalvings_48 : decode cX0_fewestHalvings 48 = .ok (.iload_n 3, 1) := by decide +kernel
theorem dX0_fewestHalvings_49 : decode cX0_fewestHalvings 49 = .ok (.iaload, 1) := by decide +kernel
theorem dX0_fewestHalvings_50 : decode cX0_fewestHalvings 50 = .ok (.iconst 1, 1) := by decide +kernel
theorem dX0_fewestHalvings_51 : decode cX0_fewestHalvings 51 = .ok (.isub, 1) := by decide +kernel
theorem dX0_fewestHalvings_52 : decode cX0_fewestHalvings 52 = .ok (.istore 5, 2) := by decide +kernel
theorem dX0_fewestHalvings_54 : decode cX0_fewestHalvings 54 = .ok (.iload 5, 2) := by decide +kernel
theorem dX0_fewestHalvings_56 : decode cX0_fewestHalvings 56 = .ok (.iload 4, 2) := by decide +kernel
theorem dX0_fewestHalvings_58 : decode cX0_fewestHalvings 58 = .ok (.if_icmp .le 24, 3) := by decide +kernel
theorem dX0_fewestHalvings_61 : decode cX0_fewestHalvings 61 = .ok (.iload 5, 2) := by decide +kernel
theorem dX0_fewestHalvings_63 : decode cX0_fewestHalvings 63 = .ok (.aload_n 1, 1) := by decide +kernel
theorem dX0_fewestHalvings_64 : decode cX0_fewestHalvings 64 = .ok (.iload_n 3, 1) := by decide +kernel
theorem dX0_fewestHalvings_65 : decode cX0_fewestHalvings 65 = .ok (.invokestatic 121, 3) := by decide +kernel
theorem dX0_fewestHalvings_68 : decode cX0_fewestHalvings 68 = .ok (.if_icmp .gt 11, 3) := by decide +kernel
theorem dX0_fewestHalvings_71 : decode cX0_fewestHalvings 71 = .ok (.iload 5, 2) := by decide +kernel
theorem dX0_fewestHalvings_73 : decode cX0_fewestHalvings 73 = .ok (.iload 4, 2) := by decide +kernel
theorem dX0_fewestHalvings_75 : decode cX0_fewestHalvings 75 = .ok (.isub, 1) := by decide +kernel
theorem dX0_fewestHalvings_76 : decode cX0_fewestHalvings 76 = .ok (.goto 5, 3) := by decide +kernel
theorem dX0_fewestHalvings_79 : decode cX0_fewestHalvings 79 = .ok (.bipush (-4), 2) := by decide +kernel
theorem dX0_fewestHalvings_81 : decode cX0_fewestHalvings 81 = .ok (.ireturn, 1) := by decide +kernel
theorem dX0_fewestHalvings_82 : decode cX0_fewestHalvings 82 = .ok (.iinc 3 1, 3) := by decide +kernel
theorem dX0_fewestHalvings_85 : decode cX0_fewestHalvings 85 = .ok (.goto (-73), 3) := by decide +kernel
theorem dX0_fewestHalvings_88 : decode cX0_fewestHalvings 88 = .ok (.iconst 0, 1) := by decide +kernel
theorem dX0_fewestHalvings_89 : decode cX0_fewestHalvings 89 = .ok (.ireturn, 1) := by decide +kernel
theorem dX0_sizesBeside_0 : decode cX0_sizesBeside 0 = .ok (.iconst 0, 1) := by decide +kernel
theorem dX0_sizesBeside_1 : decode cX0_sizesBeside 1 = .ok (.istore_n 2, 1) := by decide +kernel
theorem dX0_sizesBeside_2 : decode cX0_sizesBeside 2 = .ok (.iconst 0, 1) := by decide +kernel
theorem dX0_sizesBeside_3 : decode cX0_sizesBeside 3 = .ok (.istore_n 3, 1) := by decide +kernel
theorem dX0_sizesBeside_4 : decode cX0_sizesBeside 4 = .ok (.iload_n 3, 1) := by decide +kernel
theorem dX0_sizesBeside_5 : decode cX0_sizesBeside 5 = .ok (.bipush 10, 2) := by decide +kernel
theorem dX0_sizesBeside_7 : decode cX0_sizesBeside 7 = .ok (.if_icmp .ge 36, 3) := by decide +kernel
theorem dX0_sizesBeside_10 : decode cX0_sizesBeside 10 = .ok (.aload_n 0, 1) := by decide +kernel
theorem dX0_sizesBeside_11 : decode cX0_sizesBeside 11 = .ok (.iload_n 3, 1) := by decide +kernel
theorem dX0_sizesBeside_12 : decode cX0_sizesBeside 12 = .ok (.invokevirtual 37, 3) := by decide +kernel
theorem dX0_sizesBeside_15 : decode cX0_sizesBeside 15 = .ok (.ifCond .eq 22, 3) := by decide +kernel
theorem dX0_sizesBeside_18 : decode cX0_sizesBeside 18 = .ok (.aload_n 0, 1) := by decide +kernel
theorem dX0_sizesBeside_19 : decode cX0_sizesBeside 19 = .ok (.getfield 125, 3) := by decide +kernel
theorem dX0_sizesBeside_22 : decode cX0_sizesBeside 22 = .ok (.iload_n 3, 1) := by decide +kernel
theorem dX0_sizesBeside_23 : decode cX0_sizesBeside 23 = .ok (.iaload, 1) := by decide +kernel
theorem dX0_sizesBeside_24 : decode cX0_sizesBeside 24 = .ok (.iload_n 1, 1) := by decide +kernel
theorem dX0_sizesBeside_25 : decode cX0_sizesBeside 25 = .ok (.if_icmp .eq 12, 3) := by decide +kernel
theorem dX0_sizesBeside_28 : decode cX0_sizesBeside 28 = .ok (.iload_n 2, 1) := by decide +kernel
theorem dX0_sizesBeside_29 : decode cX0_sizesBeside 29 = .ok (.aload_n 0, 1) := by decide +kernel
theorem dX0_sizesBeside_30 : decode cX0_sizesBeside 30 = .ok (.getfield 128, 3) := by decide +kernel
theorem dX0_sizesBeside_33 : decode cX0_sizesBeside 33 = .ok (.iload_n 3, 1) := by decide +kernel
theorem dX0_sizesBeside_34 : decode cX0_sizesBeside 34 = .ok (.iaload, 1) := by decide +kernel
theorem dX0_sizesBeside_35 : decode cX0_sizesBeside 35 = .ok (.iadd, 1) := by decide +kernel
theorem dX0_sizesBeside_36 : decode cX0_sizesBeside 36 = .ok (.istore_n 2, 1) := by decide +kernel
theorem dX0_sizesBeside_37 : decode cX0_sizesBeside 37 = .ok (.iinc 3 1, 3) := by decide +kernel
theorem dX0_sizesBeside_40 : decode cX0_sizesBeside 40 = .ok (.goto (-36), 3) := by decide +kernel
theorem dX0_sizesBeside_43 : decode cX0_sizesBeside 43 = .ok (.iload_n 2, 1) := by decide +kernel
theorem dX0_sizesBeside_44 : decode cX0_sizesBeside 44 = .ok (.ireturn, 1) := by decide +kernel
theorem dX1_init_0 : decode cX1_init 0 = .ok (.aload_n 0, 1) := by decide +kernel
theorem dX1_init_1 : decode cX1_init 1 = .ok (.invokespecial 3, 3) := by decide +kernel
theorem dX1_init_4 : decode cX1_init 4 = .ok (.aload_n 0, 1) := by decide +kernel
theorem dX1_init_5 : decode cX1_init 5 = .ok (.bipush 10, 2) := by decide +kernel
theorem dX1_init_7 : decode cX1_init 7 = .ok (.newarray .int, 2) := by decide +kernel
theorem dX1_init_9 : decode cX1_init 9 = .ok (.putfield 9, 3) := by decide +kernel
theorem dX1_init_12 : decode cX1_init 12 = .ok (.aload_n 0, 1) := by decide +kernel
theorem dX1_init_13 : decode cX1_init 13 = .ok (.bipush 10, 2) := by decide +kernel
theorem dX1_init_15 : decode cX1_init 15 = .ok (.newarray .int, 2) := by decide +kernel
theorem dX1_init_17 : decode cX1_init 17 = .ok (.putfield 15, 3) := by decide +kernel
theorem dX1_init_20 : decode cX1_init 20 = .ok (.aload_n 0, 1) := by decide +kernel
theorem dX1_init_21 : decode cX1_init 21 = .ok (.bipush 10, 2) := by decide +kernel
theorem dX1_init_23 : decode cX1_init 23 = .ok (.newarray .int, 2) := by decide +kernel
theorem dX1_init_25 : decode cX1_init 25 = .ok (.putfield 18, 3) := by decide +kernel
theorem dX1_init_28 : decode cX1_init 28 = .ok (.aload_n 0, 1) := by decide +kernel
theorem dX1_init_29 : decode cX1_init 29 = .ok (.bipush 10, 2) := by decide +kernel
theorem dX1_init_31 : decode cX1_init 31 = .ok (.newarray .int, 2) := by decide +kernel
theorem dX1_init_33 : decode cX1_init 33 = .ok (.putfield 21, 3) := by decide +kernel
theorem dX1_init_36 : decode cX1_init 36 = .ok (.aload_n 0, 1) := by decide +kernel
theorem dX1_init_37 : decode cX1_init 37 = .ok (.bipush 10, 2) := by decide +kernel
theorem dX1_init_39 : decode cX1_init 39 = .ok (.newarray .int, 2) := by decide +kernel
theorem dX1_init_41 : decode cX1_init 41 = .ok (.putfield 24, 3) := by decide +kernel
theorem dX1_init_44 : decode cX1_init 44 = .ok (.aload_n 0, 1) := by decide +kernel
theorem dX1_init_45 : decode cX1_init 45 = .ok (.iconst 0, 1) := by decide +kernel
theorem dX1_init_46 : decode cX1_init 46 = .ok (.newarray .int, 2) := by decide +kernel
theorem dX1_init_48 : decode cX1_init 48 = .ok (.putfield 27, 3) := by decide +kernel
theorem dX1_init_51 : decode cX1_init 51 = .ok (.aload_n 0, 1) := by decide +kernel
theorem dX1_init_52 : decode cX1_init 52 = .ok (.iconst 0, 1) := by decide +kernel
theorem dX1_init_53 : decode cX1_init 53 = .ok (.newarray .int, 2) := by decide +kernel
theorem dX1_init_55 : decode cX1_init 55 = .ok (.putfield 30, 3) := by decide +kernel
theorem dX1_init_58 : decode cX1_init 58 = .ok (.aload_n 0, 1) := by decide +kernel
theorem dX1_init_59 : decode cX1_init 59 = .ok (.iconst 0, 1) := by decide +kernel
theorem dX1_init_60 : decode cX1_init 60 = .ok (.newarray .int, 2) := by decide +kernel
theorem dX1_init_62 : decode cX1_init 62 = .ok (.putfield 33, 3) := by decide +kernel
theorem dX1_init_65 : decode cX1_init 65 = .ok (.return_, 1) := by decide +kernel
theorem dX1_soonest_0 : decode cX1_soonest 0 = .ok (.aload_n 0, 1) := by decide +kernel
theorem dX1_soonest_1 : decode cX1_soonest 1 = .ok (.aload_n 1, 1) := by decide +kernel
theorem dX1_soonest_2 : decode cX1_soonest 2 = .ok (.invokevirtual 36, 3) := by decide +kernel
theorem dX1_soonest_5 : decode cX1_soonest 5 = .ok (.aload_n 0, 1) := by decide +kernel
theorem dX1_soonest_6 : decode cX1_soonest 6 = .ok (.aload_n 0, 1) := by decide +kernel
theorem dX1_soonest_7 : decode cX1_soonest 7 = .ok (.getfield 30, 3) := by decide +kernel
theorem dX1_soonest_10 : decode cX1_soonest 10 = .ok (.aload_n 0, 1) := by decide +kernel
theorem dX1_soonest_11 : decode cX1_soonest 11 = .ok (.getfield 40, 3) := by decide +kernel
theorem dX1_soonest_14 : decode cX1_soonest 14 = .ok (.invokestatic 44, 3) := by decide +kernel
theorem dX1_soonest_17 : decode cX1_soonest 17 = .ok (.putfield 30, 3) := by decide +kernel
theorem dX1_soonest_20 : decode cX1_soonest 20 = .ok (.aload_n 0, 1) := by decide +kernel
theorem dX1_soonest_21 : decode cX1_soonest 21 = .ok (.aload_n 1, 1) := by decide +kernel
theorem dX1_soonest_22 : decode cX1_soonest 22 = .ok (.getfield 48, 3) := by decide +kernel
theorem dX1_soonest_25 : decode cX1_soonest 25 = .ok (.aload_n 1, 1) := by decide +kernel
theorem dX1_soonest_26 : decode cX1_soonest 26 = .ok (.getfield 53, 3) := by decide +kernel
theorem dX1_soonest_29 : decode cX1_soonest 29 = .ok (.aload_n 1, 1) := by decide +kernel
theorem dX1_soonest_30 : decode cX1_soonest 30 = .ok (.invokevirtual 56, 3) := by decide +kernel
theorem dX1_soonest_33 : decode cX1_soonest 33 = .ok (.aload_n 0, 1) := by decide +kernel
theorem dX1_soonest_34 : decode cX1_soonest 34 = .ok (.getfield 30, 3) := by decide +kernel
theorem dX1_soonest_37 : decode cX1_soonest 37 = .ok (.invokevirtual 60, 3) := by decide +kernel
theorem dX1_soonest_40 : decode cX1_soonest 40 = .ok (.ldc 64, 2) := by decide +kernel
theorem dX1_soonest_42 : decode cX1_soonest 42 = .ok (.istore_n 3, 1) := by decide +kernel
theorem dX1_soonest_43 : decode cX1_soonest 43 = .ok (.iconst 0, 1) := by decide +kernel
theorem dX1_soonest_44 : decode cX1_soonest 44 = .ok (.istore 4, 2) := by decide +kernel
theorem dX1_soonest_46 : decode cX1_soonest 46 = .ok (.iload 4, 2) := by decide +kernel
theorem dX1_soonest_48 : decode cX1_soonest 48 = .ok (.aload_n 0, 1) := by decide +kernel
theorem dX1_soonest_49 : decode cX1_soonest 49 = .ok (.getfield 40, 3) := by decide +kernel
theorem dX1_soonest_52 : decode cX1_soonest 52 = .ok (.if_icmp .ge 40, 3) := by decide +kernel
theorem dX1_soonest_55 : decode cX1_soonest 55 = .ok (.iload 4, 2) := by decide +kernel
theorem dX1_soonest_57 : decode cX1_soonest 57 = .ok (.aload_n 0, 1) := by decide +kernel
theorem dX1_soonest_58 : decode cX1_soonest 58 = .ok (.getfield 30, 3) := by decide +kernel
theorem dX1_soonest_61 : decode cX1_soonest 61 = .ok (.arraylength, 1) := by decide +kernel
theorem dX1_soonest_62 : decode cX1_soonest 62 = .ok (.if_icmp .ge 30, 3) := by decide +kernel
theorem dX1_soonest_65 : decode cX1_soonest 65 = .ok (.iload 4, 2) := by decide +kernel
theorem dX1_soonest_67 : decode cX1_soonest 67 = .ok (.invokestatic 65, 3) := by decide +kernel
theorem dX1_soonest_70 : decode cX1_soonest 70 = .ok (.iload_n 2, 1) := by decide +kernel
theorem dX1_soonest_71 : decode cX1_soonest 71 = .ok (.if_icmp .ne 15, 3) := by decide +kernel
theorem dX1_soonest_74 : decode cX1_soonest 74 = .ok (.iload_n 3, 1) := by decide +kernel
theorem dX1_soonest_75 : decode cX1_soonest 75 = .ok (.aload_n 0, 1) := by decide +kernel
theorem dX1_soonest_76 : decode cX1_soonest 76 = .ok (.getfield 30, 3) := by decide +kernel
theorem dX1_soonest_79 : decode cX1_soonest 79 = .ok (.iload 4, 2) := by decide +kernel
theorem dX1_soonest_81 : decode cX1_soonest 81 = .ok (.iaload, 1) := by decide +kernel
theorem dX1_soonest_82 : decode cX1_soonest 82 = .ok (.invokestatic 71, 3) := by decide +kernel
theorem dX1_soonest_85 : decode cX1_soonest 85 = .ok (.istore_n 3, 1) := by decide +kernel
theorem dX1_soonest_86 : decode cX1_soonest 86 = .ok (.iinc 4 1, 3) := by decide +kernel
theorem dX1_soonest_89 : decode cX1_soonest 89 = .ok (.goto (-43), 3) := by decide +kernel
theorem dX1_soonest_92 : decode cX1_soonest 92 = .ok (.iload_n 3, 1) := by decide +kernel
theorem dX1_soonest_93 : decode cX1_soonest 93 = .ok (.ireturn, 1) := by decide +kernel
theorem dX1_partBetweenTwo_0 : decode cX1_partBetweenTwo 0 = .ok (.aload_n 0, 1) := by decide +kernel
theorem dX1_partBetweenTwo_1 : decode cX1_partBetweenTwo 1 = .ok (.aload_n 1, 1) := by decide +kernel
theorem dX1_partBetweenTwo_2 : decode cX1_partBetweenTwo 2 = .ok (.invokevirtual 36, 3) := by decide +kernel
theorem dX1_partBetweenTwo_5 : decode cX1_partBetweenTwo 5 = .ok (.aload_n 0, 1) := by decide +kernel
theorem dX1_partBetweenTwo_6 : decode cX1_partBetweenTwo 6 = .ok (.aload_n 0, 1) := by decide +kernel
theorem dX1_partBetweenTwo_7 : decode cX1_partBetweenTwo 7 = .ok (.getfield 30, 3) := by decide +kernel
theorem dX1_partBetweenTwo_10 : decode cX1_partBetweenTwo 10 = .ok (.aload_n 0, 1) := by decide +kernel
theorem dX1_partBetweenTwo_11 : decode cX1_partBetweenTwo 11 = .ok (.getfield 40, 3) := by decide +kernel
theorem dX1_partBetweenTwo_14 : decode cX1_partBetweenTwo 14 = .ok (.invokestatic 44, 3) := by decide +kernel
theorem dX1_partBetweenTwo_17 : decode cX1_partBetweenTwo 17 = .ok (.putfield 30, 3) := by decide +kernel
theorem dX1_partBetweenTwo_20 : decode cX1_partBetweenTwo 20 = .ok (.aload_n 0, 1) := by decide +kernel
theorem dX1_partBetweenTwo_21 : decode cX1_partBetweenTwo 21 = .ok (.aload_n 0, 1) := by decide +kernel
theorem dX1_partBetweenTwo_22 : decode cX1_partBetweenTwo 22 = .ok (.getfield 33, 3) := by decide +kernel
theorem dX1_partBetweenTwo_25 : decode cX1_partBetweenTwo 25 = .ok (.aload_n 0, 1) := by decide +kernel
theorem dX1_partBetweenTwo_26 : decode cX1_partBetweenTwo 26 = .ok (.getfield 40, 3) := by decide +kernel
theorem dX1_partBetweenTwo_29 : decode cX1_partBetweenTwo 29 = .ok (.invokestatic 44, 3) := by decide +kernel
theorem dX1_partBetweenTwo_32 : decode cX1_partBetweenTwo 32 = .ok (.putfield 33, 3) := by decide +kernel
theorem dX1_partBetweenTwo_35 : decode cX1_partBetweenTwo 35 = .ok (.aload_n 0, 1) := by decide +kernel
theorem dX1_partBetweenTwo_36 : decode cX1_partBetweenTwo 36 = .ok (.aload_n 1, 1) := by decide +kernel
theorem dX1_partBetweenTwo_37 : decode cX1_partBetweenTwo 37 = .ok (.getfield 48, 3) := by decide +kernel
theorem dX1_partBetweenTwo_40 : decode cX1_partBetweenTwo 40 = .ok (.aload_n 1, 1) := by decide +kernel
theorem dX1_partBetweenTwo_41 : decode cX1_partBetweenTwo 41 = .ok (.getfield 53, 3) := by decide +kernel
theorem dX1_partBetweenTwo_44 : decode cX1_partBetweenTwo 44 = .ok (.aload_n 1, 1) := by decide +kernel
theorem dX1_partBetweenTwo_45 : decode cX1_partBetweenTwo 45 = .ok (.invokevirtual 56, 3) := by decide +kernel
theorem dX1_partBetweenTwo_48 : decode cX1_partBetweenTwo 48 = .ok (.aload_n 0, 1) := by decide +kernel
theorem dX1_partBetweenTwo_49 : decode cX1_partBetweenTwo 49 = .ok (.getfield 30, 3) := by decide +kernel
theorem dX1_partBetweenTwo_52 : decode cX1_partBetweenTwo 52 = .ok (.invokevirtual 60, 3) := by decide +kernel
theorem dX1_partBetweenTwo_55 : decode cX1_partBetweenTwo 55 = .ok (.aload_n 0, 1) := by decide +kernel
theorem dX1_partBetweenTwo_56 : decode cX1_partBetweenTwo 56 = .ok (.aload_n 1, 1) := by decide +kernel
theorem dX1_partBetweenTwo_57 : decode cX1_partBetweenTwo 57 = .ok (.getfield 48, 3) := by decide +kernel
theorem dX1_partBetweenTwo_60 : decode cX1_partBetweenTwo 60 = .ok (.iconst 0, 1) := by decide +kernel
theorem dX1_partBetweenTwo_61 : decode cX1_partBetweenTwo 61 = .ok (.iconst 5, 1) := by decide +kernel
theorem dX1_partBetweenTwo_62 : decode cX1_partBetweenTwo 62 = .ok (.iconst 5, 1) := by decide +kernel
theorem dX1_partBetweenTwo_63 : decode cX1_partBetweenTwo 63 = .ok (.invokestatic 77, 3) := by decide +kernel
theorem dX1_partBetweenTwo_66 : decode cX1_partBetweenTwo 66 = .ok (.aload_n 0, 1) := by decide +kernel
theorem dX1_partBetweenTwo_67 : decode cX1_partBetweenTwo 67 = .ok (.getfield 33, 3) := by decide +kernel
theorem dX1_partBetweenTwo_70 : decode cX1_partBetweenTwo 70 = .ok (.invokevirtual 60, 3) := by decide +kernel
theorem dX1_partBetweenTwo_73 : decode cX1_partBetweenTwo 73 = .ok (.aload_n 0, 1) := by decide +kernel
theorem dX1_partBetweenTwo_74 : decode cX1_partBetweenTwo 74 = .ok (.ldc 64, 2) := by decide +kernel
theorem dX1_partBetweenTwo_76 : decode cX1_partBetweenTwo 76 = .ok (.putfield 80, 3) := by decide +kernel
theorem dX1_partBetweenTwo_79 : decode cX1_partBetweenTwo 79 = .ok (.aload_n 0, 1) := by decide +kernel
theorem dX1_partBetweenTwo_80 : decode cX1_partBetweenTwo 80 = .ok (.iconst 0, 1) := by decide +kernel
theorem dX1_partBetweenTwo_81 : decode cX1_partBetweenTwo 81 = .ok (.putfield 83, 3) := by decide +kernel
theorem dX1_partBetweenTwo_84 : decode cX1_partBetweenTwo 84 = .ok (.iconst 0, 1) := by decide +kernel
theorem dX1_partBetweenTwo_85 : decode cX1_partBetweenTwo 85 = .ok (.istore_n 2, 1) := by decide +kernel
theorem dX1_partBetweenTwo_86 : decode cX1_partBetweenTwo 86 = .ok (.iload_n 2, 1) := by decide +kernel
theorem dX1_partBetweenTwo_87 : decode cX1_partBetweenTwo 87 = .ok (.aload_n 0, 1) := by decide +kernel
theorem dX1_partBetweenTwo_88 : decode cX1_partBetweenTwo 88 = .ok (.getfield 40, 3) := by decide +kernel
theorem dX1_partBetweenTwo_91 : decode cX1_partBetweenTwo 91 = .ok (.if_icmp .ge 72, 3) := by decide +kernel
theorem dX1_partBetweenTwo_94 : decode cX1_partBetweenTwo 94 = .ok (.iload_n 2, 1) := by decide +kernel
theorem dX1_partBetweenTwo_95 : decode cX1_partBetweenTwo 95 = .ok (.aload_n 0, 1) := by decide +kernel
theorem dX1_partBetweenTwo_96 : decode cX1_partBetweenTwo 96 = .ok (.getfield 30, 3) := by decide +kernel
theorem dX1_partBetweenTwo_99 : decode cX1_partBetweenTwo 99 = .ok (.arraylength, 1) := by decide +kernel
theorem dX1_partBetweenTwo_100 : decode cX1_partBetweenTwo 100 = .ok (.if_icmp .ge 63, 3) := by decide +kernel
theorem dX1_partBetweenTwo_103 : decode cX1_partBetweenTwo 103 = .ok (.iload_n 2, 1) := by decide +kernel
theorem dX1_partBetweenTwo_104 : decode cX1_partBetweenTwo 104 = .ok (.aload_n 0, 1) := by decide +kernel
theorem dX1_partBetweenTwo_105 : decode cX1_partBetweenTwo 105 = .ok (.getfield 33, 3) := by decide +kernel
theorem dX1_partBetweenTwo_108 : decode cX1_partBetweenTwo 108 = .ok (.arraylength, 1) := by decide +kernel
theorem dX1_partBetweenTwo_109 : decode cX1_partBetweenTwo 109 = .ok (.if_icmp .ge 54, 3) := by decide +kernel
theorem dX1_partBetweenTwo_112 : decode cX1_partBetweenTwo 112 = .ok (.aload_n 0, 1) := by decide +kernel
theorem dX1_partBetweenTwo_113 : decode cX1_partBetweenTwo 113 = .ok (.getfield 30, 3) := by decide +kernel
theorem dX1_partBetweenTwo_116 : decode cX1_partBetweenTwo 116 = .ok (.iload_n 2, 1) := by decide +kernel
theorem dX1_partBetweenTwo_117 : decode cX1_partBetweenTwo 117 = .ok (.iaload, 1) := by decide +kernel
theorem dX1_partBetweenTwo_118 : decode cX1_partBetweenTwo 118 = .ok (.aload_n 0, 1) := by decide +kernel
theorem dX1_partBetweenTwo_119 : decode cX1_partBetweenTwo 119 = .ok (.getfield 33, 3) := by decide +kernel
theorem dX1_partBetweenTwo_122 : decode cX1_partBetweenTwo 122 = .ok (.aload_n 0, 1) := by decide +kernel
theorem dX1_partBetweenTwo_123 : decode cX1_partBetweenTwo 123 = .ok (.getfield 40, 3) := by decide +kernel
theorem dX1_partBetweenTwo_126 : decode cX1_partBetweenTwo 126 = .ok (.iconst 1, 1) := by decide +kernel
theorem dX1_partBetweenTwo_127 : decode cX1_partBetweenTwo 127 = .ok (.isub, 1) := by decide +kernel
theorem dX1_partBetweenTwo_128 : decode cX1_partBetweenTwo 128 = .ok (.iload_n 2, 1) := by decide +kernel
theorem dX1_partBetweenTwo_129 : decode cX1_partBetweenTwo 129 = .ok (.isub, 1) := by decide +kernel
theorem dX1_partBetweenTwo_130 : decode cX1_partBetweenTwo 130 = .ok (.iaload, 1) := by decide +kernel
theorem dX1_partBetweenTwo_131 : decode cX1_partBetweenTwo 131 = .ok (.invokestatic 86, 3) := by decide +kernel
theorem dX1_partBetweenTwo_134 : decode cX1_partBetweenTwo 134 = .ok (.istore_n 3, 1) := by decide +kernel
theorem dX1_partBetweenTwo_135 : decode cX1_partBetweenTwo 135 = .ok (.iload_n 3, 1) := by decide +kernel
theorem dX1_partBetweenTwo_136 : decode cX1_partBetweenTwo 136 = .ok (.aload_n 0, 1) := by decide +kernel
theorem dX1_partBetweenTwo_137 : decode cX1_partBetweenTwo 137 = .ok (.getfield 80, 3) := by decide +kernel
theorem dX1_partBetweenTwo_140 : decode cX1_partBetweenTwo 140 = .ok (.if_icmp .ge 17, 3) := by decide +kernel
theorem dX1_partBetweenTwo_143 : decode cX1_partBetweenTwo 143 = .ok (.aload_n 0, 1) := by decide +kernel
theorem dX1_partBetweenTwo_144 : decode cX1_partBetweenTwo 144 = .ok (.iload_n 3, 1) := by decide +kernel
theorem dX1_partBetweenTwo_145 : decode cX1_partBetweenTwo 145 = .ok (.putfield 80, 3) := by decide +kernel
theorem dX1_partBetweenTwo_148 : decode cX1_partBetweenTwo 148 = .ok (.aload_n 0, 1) := by decide +kernel
theorem dX1_partBetweenTwo_149 : decode cX1_partBetweenTwo 149 = .ok (.aload_n 0, 1) := by decide +kernel
theorem dX1_partBetweenTwo_150 : decode cX1_partBetweenTwo 150 = .ok (.iload_n 2, 1) := by decide +kernel
theorem dX1_partBetweenTwo_151 : decode cX1_partBetweenTwo 151 = .ok (.invokevirtual 89, 3) := by decide +kernel
theorem dX1_partBetweenTwo_154 : decode cX1_partBetweenTwo 154 = .ok (.putfield 83, 3) := by decide +kernel
theorem dX1_partBetweenTwo_157 : decode cX1_partBetweenTwo 157 = .ok (.iinc 2 1, 3) := by decide +kernel
theorem dX1_partBetweenTwo_160 : decode cX1_partBetweenTwo 160 = .ok (.goto (-74), 3) := by decide +kernel
theorem dX1_partBetweenTwo_163 : decode cX1_partBetweenTwo 163 = .ok (.aload_n 0, 1) := by decide +kernel
theorem dX1_partBetweenTwo_164 : decode cX1_partBetweenTwo 164 = .ok (.getfield 80, 3) := by decide +kernel
theorem dX1_partBetweenTwo_167 : decode cX1_partBetweenTwo 167 = .ok (.ldc 64, 2) := by decide +kernel
theorem dX1_partBetweenTwo_169 : decode cX1_partBetweenTwo 169 = .ok (.if_icmp .ge 7, 3) := by decide +kernel
theorem dX1_partBetweenTwo_172 : decode cX1_partBetweenTwo 172 = .ok (.iconst 1, 1) := by decide +kernel
theorem dX1_partBetweenTwo_173 : decode cX1_partBetweenTwo 173 = .ok (.goto 4, 3) := by decide +kernel
theorem dX1_partBetweenTwo_176 : decode cX1_partBetweenTwo 176 = .ok (.iconst 0, 1) := by decide +kernel
theorem dX1_partBetweenTwo_177 : decode cX1_partBetweenTwo 177 = .ok (.ireturn, 1) := by decide +kernel
theorem dX1_takeWaiting_0 : decode cX1_takeWaiting 0 = .ok (.aload_n 0, 1) := by decide +kernel
theorem dX1_takeWaiting_1 : decode cX1_takeWaiting 1 = .ok (.iconst 0, 1) := by decide +kernel
theorem dX1_takeWaiting_2 : decode cX1_takeWaiting 2 = .ok (.putfield 92, 3) := by decide +kernel
theorem dX1_takeWaiting_5 : decode cX1_takeWaiting 5 = .ok (.iconst 0, 1) := by decide +kernel
theorem dX1_takeWaiting_6 : decode cX1_takeWaiting 6 = .ok (.istore_n 2, 1) := by decide +kernel
theorem dX1_takeWaiting_7 : decode cX1_takeWaiting 7 = .ok (.iload_n 2, 1) := by decide +kernel
theorem dX1_takeWaiting_8 : decode cX1_takeWaiting 8 = .ok (.bipush 10, 2) := by decide +kernel
theorem dX1_takeWaiting_10 : decode cX1_takeWaiting 10 = .ok (.if_icmp .ge 91, 3) := by decide +kernel
theorem dX1_takeWaiting_13 : decode cX1_takeWaiting 13 = .ok (.aload_n 0, 1) := by decide +kernel
theorem dX1_takeWaiting_14 : decode cX1_takeWaiting 14 = .ok (.getfield 92, 3) := by decide +kernel
theorem dX1_takeWaiting_17 : decode cX1_takeWaiting 17 = .ok (.bipush 10, 2) := by decide +kernel
theorem dX1_takeWaiting_19 : decode cX1_takeWaiting 19 = .ok (.if_icmp .ge 82, 3) := by decide +kernel
theorem dX1_takeWaiting_22 : decode cX1_takeWaiting 22 = .ok (.aload_n 1, 1) := by decide +kernel
theorem dX1_takeWaiting_23 : decode cX1_takeWaiting 23 = .ok (.iload_n 2, 1) := by decide +kernel
theorem dX1_takeWaiting_24 : decode cX1_takeWaiting 24 = .ok (.invokevirtual 95, 3) := by decide +kernel
theorem dX1_takeWaiting_27 : decode cX1_takeWaiting 27 = .ok (.ifCond .eq 68, 3) := by decide +kernel
theorem dX1_takeWaiting_30 : decode cX1_takeWaiting 30 = .ok (.aload_n 0, 1) := by decide +kernel
theorem dX1_takeWaiting_31 : decode cX1_takeWaiting 31 = .ok (.getfield 9, 3) := by decide +kernel
theorem dX1_takeWaiting_34 : decode cX1_takeWaiting 34 = .ok (.aload_n 0, 1) := by decide +kernel
theorem dX1_takeWaiting_35 : decode cX1_takeWaiting 35 = .ok (.getfield 92, 3) := by decide +kernel
theorem dX1_takeWaiting_38 : decode cX1_takeWaiting 38 = .ok (.iload_n 2, 1) := by decide +kernel
theorem dX1_takeWaiting_39 : decode cX1_takeWaiting 39 = .ok (.iastore, 1) := by decide +kernel
theorem dX1_takeWaiting_40 : decode cX1_takeWaiting 40 = .ok (.aload_n 0, 1) := by decide +kernel
theorem dX1_takeWaiting_41 : decode cX1_takeWaiting 41 = .ok (.getfield 15, 3) := by decide +kernel
theorem dX1_takeWaiting_44 : decode cX1_takeWaiting 44 = .ok (.aload_n 0, 1) := by decide +kernel
theorem dX1_takeWaiting_45 : decode cX1_takeWaiting 45 = .ok (.getfield 92, 3) := by decide +kernel
theorem dX1_takeWaiting_48 : decode cX1_takeWaiting 48 = .ok (.aload_n 1, 1) := by decide +kernel
theorem dX1_takeWaiting_49 : decode cX1_takeWaiting 49 = .ok (.getfield 99, 3) := by decide +kernel
theorem dX1_takeWaiting_52 : decode cX1_takeWaiting 52 = .ok (.iload_n 2, 1) := by decide +kernel
theorem dX1_takeWaiting_53 : decode cX1_takeWaiting 53 = .ok (.iaload, 1) := by decide +kernel
theorem dX1_takeWaiting_54 : decode cX1_takeWaiting 54 = .ok (.iastore, 1) := by decide +kernel
theorem dX1_takeWaiting_55 : decode cX1_takeWaiting 55 = .ok (.aload_n 0, 1) := by decide +kernel
theorem dX1_takeWaiting_56 : decode cX1_takeWaiting 56 = .ok (.getfield 18, 3) := by decide +kernel
theorem dX1_takeWaiting_59 : decode cX1_takeWaiting 59 = .ok (.aload_n 0, 1) := by decide +kernel
theorem dX1_takeWaiting_60 : decode cX1_takeWaiting 60 = .ok (.getfield 92, 3) := by decide +kernel
theorem dX1_takeWaiting_63 : decode cX1_takeWaiting 63 = .ok (.aload_n 1, 1) := by decide +kernel
theorem dX1_takeWaiting_64 : decode cX1_takeWaiting 64 = .ok (.getfield 100, 3) := by decide +kernel
theorem dX1_takeWaiting_67 : decode cX1_takeWaiting 67 = .ok (.iload_n 2, 1) := by decide +kernel
theorem dX1_takeWaiting_68 : decode cX1_takeWaiting 68 = .ok (.iaload, 1) := by decide +kernel
theorem dX1_takeWaiting_69 : decode cX1_takeWaiting 69 = .ok (.iastore, 1) := by decide +kernel
theorem dX1_takeWaiting_70 : decode cX1_takeWaiting 70 = .ok (.aload_n 0, 1) := by decide +kernel
theorem dX1_takeWaiting_71 : decode cX1_takeWaiting 71 = .ok (.getfield 21, 3) := by decide +kernel
theorem dX1_takeWaiting_74 : decode cX1_takeWaiting 74 = .ok (.aload_n 0, 1) := by decide +kernel
theorem dX1_takeWaiting_75 : decode cX1_takeWaiting 75 = .ok (.getfield 92, 3) := by decide +kernel
theorem dX1_takeWaiting_78 : decode cX1_takeWaiting 78 = .ok (.aload_n 1, 1) := by decide +kernel
theorem dX1_takeWaiting_79 : decode cX1_takeWaiting 79 = .ok (.getfield 101, 3) := by decide +kernel
theorem dX1_takeWaiting_82 : decode cX1_takeWaiting 82 = .ok (.iload_n 2, 1) := by decide +kernel
theorem dX1_takeWaiting_83 : decode cX1_takeWaiting 83 = .ok (.iaload, 1) := by decide +kernel
theorem dX1_takeWaiting_84 : decode cX1_takeWaiting 84 = .ok (.iastore, 1) := by decide +kernel
theorem dX1_takeWaiting_85 : decode cX1_takeWaiting 85 = .ok (.aload_n 0, 1) := by decide +kernel
theorem dX1_takeWaiting_86 : decode cX1_takeWaiting 86 = .ok (.dup, 1) := by decide +kernel
theorem dX1_takeWaiting_87 : decode cX1_takeWaiting 87 = .ok (.getfield 92, 3) := by decide +kernel
theorem dX1_takeWaiting_90 : decode cX1_takeWaiting 90 = .ok (.iconst 1, 1) := by decide +kernel
theorem dX1_takeWaiting_91 : decode cX1_takeWaiting 91 = .ok (.iadd, 1) := by decide +kernel
theorem dX1_takeWaiting_92 : decode cX1_takeWaiting 92 = .ok (.putfield 92, 3) := by decide +kernel
theorem dX1_takeWaiting_95 : decode cX1_takeWaiting 95 = .ok (.iinc 2 1, 3) := by decide +kernel
theorem dX1_takeWaiting_98 : decode cX1_takeWaiting 98 = .ok (.goto (-91), 3) := by decide +kernel
theorem dX1_takeWaiting_101 : decode cX1_takeWaiting 101 = .ok (.aload_n 0, 1) := by decide +kernel
theorem dX1_takeWaiting_102 : decode cX1_takeWaiting 102 = .ok (.iconst 1, 1) := by decide +kernel
theorem dX1_takeWaiting_103 : decode cX1_takeWaiting 103 = .ok (.aload_n 0, 1) := by decide +kernel
theorem dX1_takeWaiting_104 : decode cX1_takeWaiting 104 = .ok (.getfield 92, 3) := by decide +kernel
theorem dX1_takeWaiting_107 : decode cX1_takeWaiting 107 = .ok (.ishl, 1) := by decide +kernel
theorem dX1_takeWaiting_108 : decode cX1_takeWaiting 108 = .ok (.putfield 40, 3) := by decide +kernel
theorem dX1_takeWaiting_111 : decode cX1_takeWaiting 111 = .ok (.return_, 1) := by decide +kernel
theorem dX1_sackBits_0 : decode cX1_sackBits 0 = .ok (.iconst 0, 1) := by decide +kernel
theorem dX1_sackBits_1 : decode cX1_sackBits 1 = .ok (.istore_n 2, 1) := by decide +kernel
theorem dX1_sackBits_2 : decode cX1_sackBits 2 = .ok (.iconst 0, 1) := by decide +kernel
theorem dX1_sackBits_3 : decode cX1_sackBits 3 = .ok (.istore_n 3, 1) := by decide +kernel
theorem dX1_sackBits_4 : decode cX1_sackBits 4 = .ok (.iload_n 3, 1) := by decide +kernel
theorem dX1_sackBits_5 : decode cX1_sackBits 5 = .ok (.aload_n 0, 1) := by decide +kernel
theorem dX1_sackBits_6 : decode cX1_sackBits 6 = .ok (.getfield 92, 3) := by decide +kernel
theorem dX1_sackBits_9 : decode cX1_sackBits 9 = .ok (.if_icmp .ge 28, 3) := by decide +kernel
theorem dX1_sackBits_12 : decode cX1_sackBits 12 = .ok (.iload_n 1, 1) := by decide +kernel
theorem dX1_sackBits_13 : decode cX1_sackBits 13 = .ok (.iload_n 3, 1) := by decide +kernel
theorem dX1_sackBits_14 : decode cX1_sackBits 14 = .ok (.ishr, 1) := by decide +kernel
theorem dX1_sackBits_15 : decode cX1_sackBits 15 = .ok (.iconst 1, 1) := by decide +kernel
theorem dX1_sackBits_16 : decode cX1_sackBits 16 = .ok (.iand, 1) := by decide +kernel
theorem dX1_sackBits_17 : decode cX1_sackBits 17 = .ok (.ifCond .eq 14, 3) := by decide +kernel
theorem dX1_sackBits_20 : decode cX1_sackBits 20 = .ok (.iload_n 2, 1) := by decide +kernel
theorem dX1_sackBits_21 : decode cX1_sackBits 21 = .ok (.iconst 1, 1) := by decide +kernel
theorem dX1_sackBits_22 : decode cX1_sackBits 22 = .ok (.aload_n 0, 1) := by decide +kernel
theorem dX1_sackBits_23 : decode cX1_sackBits 23 = .ok (.getfield 9, 3) := by decide +kernel
theorem dX1_sackBits_26 : decode cX1_sackBits 26 = .ok (.iload_n 3, 1) := by decide +kernel
theorem dX1_sackBits_27 : decode cX1_sackBits 27 = .ok (.iaload, 1) := by decide +kernel
theorem dX1_sackBits_28 : decode cX1_sackBits 28 = .ok (.ishl, 1) := by decide +kernel
theorem dX1_sackBits_29 : decode cX1_sackBits 29 = .ok (.ior, 1) := by decide +kernel
theorem dX1_sackBits_30 : decode cX1_sackBits 30 = .ok (.istore_n 2, 1) := by decide +kernel
theorem dX1_sackBits_31 : decode cX1_sackBits 31 = .ok (.iinc 3 1, 3) := by decide +kernel
theorem dX1_sackBits_34 : decode cX1_sackBits 34 = .ok (.goto (-30), 3) := by decide +kernel
theorem dX1_sackBits_37 : decode cX1_sackBits 37 = .ok (.iload_n 2, 1) := by decide +kernel
theorem dX1_sackBits_38 : decode cX1_sackBits 38 = .ok (.ireturn, 1) := by decide +kernel
theorem dX1_fillEnds_0 : decode cX1_fillEnds 0 = .ok (.aload_n 0, 1) := by decide +kernel
theorem dX1_fillEnds_1 : decode cX1_fillEnds 1 = .ok (.aload_n 0, 1) := by decide +kernel
theorem dX1_fillEnds_2 : decode cX1_fillEnds 2 = .ok (.getfield 27, 3) := by decide +kernel
theorem dX1_fillEnds_5 : decode cX1_fillEnds 5 = .ok (.aload_n 0, 1) := by decide +kernel
theorem dX1_fillEnds_6 : decode cX1_fillEnds 6 = .ok (.getfield 40, 3) := by decide +kernel
theorem dX1_fillEnds_9 : decode cX1_fillEnds 9 = .ok (.bipush 36, 2) := by decide +kernel
theorem dX1_fillEnds_11 : decode cX1_fillEnds 11 = .ok (.imul, 1) := by decide +kernel
theorem dX1_fillEnds_12 : decode cX1_fillEnds 12 = .ok (.invokestatic 44, 3) := by decide +kernel
theorem dX1_fillEnds_15 : decode cX1_fillEnds 15 = .ok (.putfield 27, 3) := by decide +kernel
theorem dX1_fillEnds_18 : decode cX1_fillEnds 18 = .ok (.aload_n 0, 1) := by decide +kernel
theorem dX1_fillEnds_19 : decode cX1_fillEnds 19 = .ok (.getfield 27, 3) := by decide +kernel
theorem dX1_fillEnds_22 : decode cX1_fillEnds 22 = .ok (.ldc 64, 2) := by decide +kernel
theorem dX1_fillEnds_24 : decode cX1_fillEnds 24 = .ok (.invokestatic 102, 3) := by decide +kernel
theorem dX1_fillEnds_27 : decode cX1_fillEnds 27 = .ok (.iload_n 3, 1) := by decide +kernel
theorem dX1_fillEnds_28 : decode cX1_fillEnds 28 = .ok (.ifCond .lt 16, 3) := by decide +kernel
theorem dX1_fillEnds_31 : decode cX1_fillEnds 31 = .ok (.iload_n 3, 1) := by decide +kernel
theorem dX1_fillEnds_32 : decode cX1_fillEnds 32 = .ok (.bipush 36, 2) := by decide +kernel
theorem dX1_fillEnds_34 : decode cX1_fillEnds 34 = .ok (.if_icmp .ge 10, 3) := by decide +kernel
theorem dX1_fillEnds_37 : decode cX1_fillEnds 37 = .ok (.aload_n 0, 1) := by decide +kernel
theorem dX1_fillEnds_38 : decode cX1_fillEnds 38 = .ok (.getfield 27, 3) := by decide +kernel
theorem dX1_fillEnds_41 : decode cX1_fillEnds 41 = .ok (.iload_n 3, 1) := by decide +kernel
theorem dX1_fillEnds_42 : decode cX1_fillEnds 42 = .ok (.iload_n 2, 1) := by decide +kernel
theorem dX1_fillEnds_43 : decode cX1_fillEnds 43 = .ok (.iastore, 1) := by decide +kernel
theorem dX1_fillEnds_44 : decode cX1_fillEnds 44 = .ok (.iconst 0, 1) := by decide +kernel
theorem dX1_fillEnds_45 : decode cX1_fillEnds 45 = .ok (.istore 5, 2) := by decide +kernel
theorem dX1_fillEnds_47 : decode cX1_fillEnds 47 = .ok (.iload 5, 2) := by decide +kernel
theorem dX1_fillEnds_49 : decode cX1_fillEnds 49 = .ok (.aload_n 0, 1) := by decide +kernel
theorem dX1_fillEnds_50 : decode cX1_fillEnds 50 = .ok (.getfield 40, 3) := by decide +kernel
theorem dX1_fillEnds_53 : decode cX1_fillEnds 53 = .ok (.if_icmp .ge 125, 3) := by decide +kernel
theorem dX1_fillEnds_56 : decode cX1_fillEnds 56 = .ok (.iload 5, 2) := by decide +kernel
theorem dX1_fillEnds_58 : decode cX1_fillEnds 58 = .ok (.aload 4, 2) := by decide +kernel
theorem dX1_fillEnds_60 : decode cX1_fillEnds 60 = .ok (.arraylength, 1) := by decide +kernel
theorem dX1_fillEnds_61 : decode cX1_fillEnds 61 = .ok (.if_icmp .ge 117, 3) := by decide +kernel
theorem dX1_fillEnds_64 : decode cX1_fillEnds 64 = .ok (.aload_n 0, 1) := by decide +kernel
theorem dX1_fillEnds_65 : decode cX1_fillEnds 65 = .ok (.iload 5, 2) := by decide +kernel
theorem dX1_fillEnds_67 : decode cX1_fillEnds 67 = .ok (.invokevirtual 108, 3) := by decide +kernel
theorem dX1_fillEnds_70 : decode cX1_fillEnds 70 = .ok (.aload 4, 2) := by decide +kernel
theorem dX1_fillEnds_72 : decode cX1_fillEnds 72 = .ok (.iload 5, 2) := by decide +kernel
theorem dX1_fillEnds_74 : decode cX1_fillEnds 74 = .ok (.ldc 64, 2) := by decide +kernel
theorem dX1_fillEnds_76 : decode cX1_fillEnds 76 = .ok (.iastore, 1) := by decide +kernel
theorem dX1_fillEnds_77 : decode cX1_fillEnds 77 = .ok (.iconst 0, 1) := by decide +kernel
theorem dX1_fillEnds_78 : decode cX1_fillEnds 78 = .ok (.istore 6, 2) := by decide +kernel
theorem dX1_fillEnds_80 : decode cX1_fillEnds 80 = .ok (.iload 6, 2) := by decide +kernel
theorem dX1_fillEnds_82 : decode cX1_fillEnds 82 = .ok (.bipush 6, 2) := by decide +kernel
theorem dX1_fillEnds_84 : decode cX1_fillEnds 84 = .ok (.if_icmp .ge 88, 3) := by decide +kernel
theorem dX1_fillEnds_87 : decode cX1_fillEnds 87 = .ok (.iload_n 1, 1) := by decide +kernel
theorem dX1_fillEnds_88 : decode cX1_fillEnds 88 = .ok (.invokestatic 112, 3) := by decide +kernel
theorem dX1_fillEnds_91 : decode cX1_fillEnds 91 = .ok (.istore 7, 2) := by decide +kernel
theorem dX1_fillEnds_93 : decode cX1_fillEnds 93 = .ok (.iload 7, 2) := by decide +kernel
theorem dX1_fillEnds_95 : decode cX1_fillEnds 95 = .ok (.bipush 6, 2) := by decide +kernel
theorem dX1_fillEnds_97 : decode cX1_fillEnds 97 = .ok (.if_icmp .ge 69, 3) := by decide +kernel
theorem dX1_fillEnds_100 : decode cX1_fillEnds 100 = .ok (.aload_n 0, 1) := by decide +kernel
theorem dX1_fillEnds_101 : decode cX1_fillEnds 101 = .ok (.getfield 27, 3) := by decide +kernel
theorem dX1_fillEnds_104 : decode cX1_fillEnds 104 = .ok (.iload 5, 2) := by decide +kernel
theorem dX1_fillEnds_106 : decode cX1_fillEnds 106 = .ok (.bipush 36, 2) := by decide +kernel
theorem dX1_fillEnds_108 : decode cX1_fillEnds 108 = .ok (.imul, 1) := by decide +kernel
theorem dX1_fillEnds_109 : decode cX1_fillEnds 109 = .ok (.iload 6, 2) := by decide +kernel
theorem dX1_fillEnds_111 : decode cX1_fillEnds 111 = .ok (.iload 7, 2) := by decide +kernel
theorem dX1_fillEnds_113 : decode cX1_fillEnds 113 = .ok (.invokestatic 77, 3) := by decide +kernel
theorem dX1_fillEnds_116 : decode cX1_fillEnds 116 = .ok (.iadd, 1) := by decide +kernel
theorem dX1_fillEnds_117 : decode cX1_fillEnds 117 = .ok (.iaload, 1) := by decide +kernel
theorem dX1_fillEnds_118 : decode cX1_fillEnds 118 = .ok (.istore 8, 2) := by decide +kernel
theorem dX1_fillEnds_120 : decode cX1_fillEnds 120 = .ok (.iload 8, 2) := by decide +kernel
theorem dX1_fillEnds_122 : decode cX1_fillEnds 122 = .ok (.ldc 64, 2) := by decide +kernel
theorem dX1_fillEnds_124 : decode cX1_fillEnds 124 = .ok (.if_icmp .ge 36, 3) := by decide +kernel
theorem dX1_fillEnds_127 : decode cX1_fillEnds 127 = .ok (.aload 4, 2) := by decide +kernel
theorem dX1_fillEnds_129 : decode cX1_fillEnds 129 = .ok (.iload 5, 2) := by decide +kernel
theorem dX1_fillEnds_131 : decode cX1_fillEnds 131 = .ok (.aload 4, 2) := by decide +kernel
theorem dX1_fillEnds_133 : decode cX1_fillEnds 133 = .ok (.iload 5, 2) := by decide +kernel
theorem dX1_fillEnds_135 : decode cX1_fillEnds 135 = .ok (.iaload, 1) := by decide +kernel
theorem dX1_fillEnds_136 : decode cX1_fillEnds 136 = .ok (.iload 8, 2) := by decide +kernel
theorem dX1_fillEnds_138 : decode cX1_fillEnds 138 = .ok (.invokestatic 71, 3) := by decide +kernel
theorem dX1_fillEnds_141 : decode cX1_fillEnds 141 = .ok (.iastore, 1) := by decide +kernel
theorem dX1_fillEnds_142 : decode cX1_fillEnds 142 = .ok (.aload_n 0, 1) := by decide +kernel
theorem dX1_fillEnds_143 : decode cX1_fillEnds 143 = .ok (.iload 5, 2) := by decide +kernel
theorem dX1_fillEnds_145 : decode cX1_fillEnds 145 = .ok (.iload 6, 2) := by decide +kernel
theorem dX1_fillEnds_147 : decode cX1_fillEnds 147 = .ok (.iload 7, 2) := by decide +kernel
theorem dX1_fillEnds_149 : decode cX1_fillEnds 149 = .ok (.iload_n 1, 1) := by decide +kernel
theorem dX1_fillEnds_150 : decode cX1_fillEnds 150 = .ok (.iload 6, 2) := by decide +kernel
theorem dX1_fillEnds_152 : decode cX1_fillEnds 152 = .ok (.invokestatic 115, 3) := by decide +kernel
theorem dX1_fillEnds_155 : decode cX1_fillEnds 155 = .ok (.iload 8, 2) := by decide +kernel
theorem dX1_fillEnds_157 : decode cX1_fillEnds 157 = .ok (.invokevirtual 118, 3) := by decide +kernel
theorem dX1_fillEnds_160 : decode cX1_fillEnds 160 = .ok (.iinc 7 1, 3) := by decide +kernel
theorem dX1_fillEnds_163 : decode cX1_fillEnds 163 = .ok (.goto (-70), 3) := by decide +kernel
theorem dX1_fillEnds_166 : decode cX1_fillEnds 166 = .ok (.iinc 6 1, 3) := by decide +kernel
theorem dX1_fillEnds_169 : decode cX1_fillEnds 169 = .ok (.goto (-89), 3) := by decide +kernel
theorem dX1_fillEnds_172 : decode cX1_fillEnds 172 = .ok (.iinc 5 1, 3) := by decide +kernel
theorem dX1_fillEnds_175 : decode cX1_fillEnds 175 = .ok (.goto (-128), 3) := by decide +kernel
theorem dX1_fillEnds_178 : decode cX1_fillEnds 178 = .ok (.return_, 1) := by decide +kernel
theorem dX1_takeRest_0 : decode cX1_takeRest 0 = .ok (.aload_n 0, 1) := by decide +kernel
theorem dX1_takeRest_1 : decode cX1_takeRest 1 = .ok (.iconst 0, 1) := by decide +kernel
theorem dX1_takeRest_2 : decode cX1_takeRest 2 = .ok (.putfield 122, 3) := by decide +kernel
theorem dX1_takeRest_5 : decode cX1_takeRest 5 = .ok (.iconst 0, 1) := by decide +kernel
theorem dX1_takeRest_6 : decode cX1_takeRest 6 = .ok (.istore_n 2, 1) := by decide +kernel
theorem dX1_takeRest_7 : decode cX1_takeRest 7 = .ok (.iload_n 2, 1) := by decide +kernel
theorem dX1_takeRest_8 : decode cX1_takeRest 8 = .ok (.aload_n 0, 1) := by decide +kernel
theorem dX1_takeRest_9 : decode cX1_takeRest 9 = .ok (.getfield 92, 3) := by decide +kernel
theorem dX1_takeRest_12 : decode cX1_takeRest 12 = .ok (.if_icmp .ge 37, 3) := by decide +kernel
theorem dX1_takeRest_15 : decode cX1_takeRest 15 = .ok (.iload_n 1, 1) := by decide +kernel
theorem dX1_takeRest_16 : decode cX1_takeRest 16 = .ok (.iload_n 2, 1) := by decide +kernel
theorem dX1_takeRest_17 : decode cX1_takeRest 17 = .ok (.ishr, 1) := by decide +kernel
theorem dX1_takeRest_18 : decode cX1_takeRest 18 = .ok (.iconst 1, 1) := by decide +kernel
theorem dX1_takeRest_19 : decode cX1_takeRest 19 = .ok (.iand, 1) := by decide +kernel
theorem dX1_takeRest_20 : decode cX1_takeRest 20 = .ok (.ifCond .ne 23, 3) := by decide +kernel
theorem dX1_takeRest_23 : decode cX1_takeRest 23 = .ok (.aload_n 0, 1) := by decide +kernel
theorem dX1_takeRest_24 : decode cX1_takeRest 24 = .ok (.getfield 24, 3) := by decide +kernel
theorem dX1_takeRest_27 : decode cX1_takeRest 27 = .ok (.aload_n 0, 1) := by decide +kernel
theorem dX1_takeRest_28 : decode cX1_takeRest 28 = .ok (.getfield 122, 3) := by decide +kernel
theorem dX1_takeRest_31 : decode cX1_takeRest 31 = .ok (.iload_n 2, 1) := by decide +kernel
theorem dX1_takeRest_32 : decode cX1_takeRest 32 = .ok (.iastore, 1) := by decide +kernel
theorem dX1_takeRest_33 : decode cX1_takeRest 33 = .ok (.aload_n 0, 1) := by decide +kernel
theorem dX1_takeRest_34 : decode cX1_takeRest 34 = .ok (.dup, 1) := by decide +kernel
theorem dX1_takeRest_35 : decode cX1_takeRest 35 = .ok (.getfield 122, 3) := by decide +kernel
theorem dX1_takeRest_38 : decode cX1_takeRest 38 = .ok (.iconst 1, 1) := by decide +kernel
theorem dX1_takeRest_39 : decode cX1_takeRest 39 = .ok (.iadd, 1) := by decide +kernel
theorem dX1_takeRest_40 : decode cX1_takeRest 40 = .ok (.putfield 122, 3) := by decide +kernel
theorem dX1_takeRest_43 : decode cX1_takeRest 43 = .ok (.iinc 2 1, 3) := by decide +kernel
theorem dX1_takeRest_46 : decode cX1_takeRest 46 = .ok (.goto (-39), 3) := by decide +kernel
theorem dX1_takeRest_49 : decode cX1_takeRest 49 = .ok (.return_, 1) := by decide +kernel
theorem dX1_pourOneMore_0 : decode cX1_pourOneMore 0 = .ok (.iconst 0, 1) := by decide +kernel
theorem dX1_pourOneMore_1 : decode cX1_pourOneMore 1 = .ok (.istore 6, 2) := by decide +kernel
theorem dX1_pourOneMore_3 : decode cX1_pourOneMore 3 = .ok (.iload 6, 2) := by decide +kernel
theorem dX1_pourOneMore_5 : decode cX1_pourOneMore 5 = .ok (.aload_n 0, 1) := by decide +kernel
theorem dX1_pourOneMore_6 : decode cX1_pourOneMore 6 = .ok (.getfield 122, 3) := by decide +kernel
theorem dX1_pourOneMore_9 : decode cX1_pourOneMore 9 = .ok (.if_icmp .ge 135, 3) := by decide +kernel
theorem dX1_pourOneMore_12 : decode cX1_pourOneMore 12 = .ok (.aload_n 0, 1) := by decide +kernel
theorem dX1_pourOneMore_13 : decode cX1_pourOneMore 13 = .ok (.getfield 24, 3) := by decide +kernel
theorem dX1_pourOneMore_16 : decode cX1_pourOneMore 16 = .ok (.iload 6, 2) := by decide +kernel
theorem dX1_pourOneMore_18 : decode cX1_pourOneMore 18 = .ok (.iaload, 1) := by decide +kernel
theorem dX1_pourOneMore_19 : decode cX1_pourOneMore 19 = .ok (.istore 7, 2) := by decide +kernel
theorem dX1_pourOneMore_21 : decode cX1_pourOneMore 21 = .ok (.aload_n 0, 1) := by decide +kernel
theorem dX1_pourOneMore_22 : decode cX1_pourOneMore 22 = .ok (.getfield 15, 3) := by decide +kernel
theorem dX1_pourOneMore_25 : decode cX1_pourOneMore 25 = .ok (.iload 7, 2) := by decide +kernel
theorem dX1_pourOneMore_27 : decode cX1_pourOneMore 27 = .ok (.iaload, 1) := by decide +kernel
theorem dX1_pourOneMore_28 : decode cX1_pourOneMore 28 = .ok (.iload_n 2, 1) := by decide +kernel
theorem dX1_pourOneMore_29 : decode cX1_pourOneMore 29 = .ok (.if_icmp .eq 109, 3) := by decide +kernel
theorem dX1_pourOneMore_32 : decode cX1_pourOneMore 32 = .ok (.aload_n 0, 1) := by decide +kernel
theorem dX1_pourOneMore_33 : decode cX1_pourOneMore 33 = .ok (.getfield 15, 3) := by decide +kernel
theorem dX1_pourOneMore_36 : decode cX1_pourOneMore 36 = .ok (.iload 7, 2) := by decide +kernel
theorem dX1_pourOneMore_38 : decode cX1_pourOneMore 38 = .ok (.iaload, 1) := by decide +kernel
theorem dX1_pourOneMore_39 : decode cX1_pourOneMore 39 = .ok (.iload_n 3, 1) := by decide +kernel
theorem dX1_pourOneMore_40 : decode cX1_pourOneMore 40 = .ok (.if_icmp .eq 98, 3) := by decide +kernel
theorem dX1_pourOneMore_43 : decode cX1_pourOneMore 43 = .ok (.iload_n 1, 1) := by decide +kernel
theorem dX1_pourOneMore_44 : decode cX1_pourOneMore 44 = .ok (.iconst 1, 1) := by decide +kernel
theorem dX1_pourOneMore_45 : decode cX1_pourOneMore 45 = .ok (.iload 7, 2) := by decide +kernel
theorem dX1_pourOneMore_47 : decode cX1_pourOneMore 47 = .ok (.ishl, 1) := by decide +kernel
theorem dX1_pourOneMore_48 : decode cX1_pourOneMore 48 = .ok (.ior, 1) := by decide +kernel
theorem dX1_pourOneMore_49 : decode cX1_pourOneMore 49 = .ok (.bipush 36, 2) := by decide +kernel
theorem dX1_pourOneMore_51 : decode cX1_pourOneMore 51 = .ok (.imul, 1) := by decide +kernel
theorem dX1_pourOneMore_52 : decode cX1_pourOneMore 52 = .ok (.aload_n 0, 1) := by decide +kernel
theorem dX1_pourOneMore_53 : decode cX1_pourOneMore 53 = .ok (.getfield 15, 3) := by decide +kernel
theorem dX1_pourOneMore_56 : decode cX1_pourOneMore 56 = .ok (.iload 7, 2) := by decide +kernel
theorem dX1_pourOneMore_58 : decode cX1_pourOneMore 58 = .ok (.iaload, 1) := by decide +kernel
theorem dX1_pourOneMore_59 : decode cX1_pourOneMore 59 = .ok (.bipush 6, 2) := by decide +kernel
theorem dX1_pourOneMore_61 : decode cX1_pourOneMore 61 = .ok (.imul, 1) := by decide +kernel
theorem dX1_pourOneMore_62 : decode cX1_pourOneMore 62 = .ok (.iadd, 1) := by decide +kernel
theorem dX1_pourOneMore_63 : decode cX1_pourOneMore 63 = .ok (.iload 4, 2) := by decide +kernel
theorem dX1_pourOneMore_65 : decode cX1_pourOneMore 65 = .ok (.iadd, 1) := by decide +kernel
theorem dX1_pourOneMore_66 : decode cX1_pourOneMore 66 = .ok (.istore 8, 2) := by decide +kernel
theorem dX1_pourOneMore_68 : decode cX1_pourOneMore 68 = .ok (.aload_n 0, 1) := by decide +kernel
theorem dX1_pourOneMore_69 : decode cX1_pourOneMore 69 = .ok (.getfield 21, 3) := by decide +kernel
theorem dX1_pourOneMore_72 : decode cX1_pourOneMore 72 = .ok (.iload 7, 2) := by decide +kernel
theorem dX1_pourOneMore_74 : decode cX1_pourOneMore 74 = .ok (.iaload, 1) := by decide +kernel
theorem dX1_pourOneMore_75 : decode cX1_pourOneMore 75 = .ok (.iload 5, 2) := by decide +kernel
theorem dX1_pourOneMore_77 : decode cX1_pourOneMore 77 = .ok (.if_icmp .le 13, 3) := by decide +kernel
theorem dX1_pourOneMore_80 : decode cX1_pourOneMore 80 = .ok (.aload_n 0, 1) := by decide +kernel
theorem dX1_pourOneMore_81 : decode cX1_pourOneMore 81 = .ok (.getfield 21, 3) := by decide +kernel
theorem dX1_pourOneMore_84 : decode cX1_pourOneMore 84 = .ok (.iload 7, 2) := by decide +kernel
theorem dX1_pourOneMore_86 : decode cX1_pourOneMore 86 = .ok (.iaload, 1) := by decide +kernel
theorem dX1_pourOneMore_87 : decode cX1_pourOneMore 87 = .ok (.goto 5, 3) := by decide +kernel
theorem dX1_pourOneMore_90 : decode cX1_pourOneMore 90 = .ok (.iload 5, 2) := by decide +kernel
theorem dX1_pourOneMore_92 : decode cX1_pourOneMore 92 = .ok (.aload_n 0, 1) := by decide +kernel
theorem dX1_pourOneMore_93 : decode cX1_pourOneMore 93 = .ok (.getfield 18, 3) := by decide +kernel
theorem dX1_pourOneMore_96 : decode cX1_pourOneMore 96 = .ok (.iload 7, 2) := by decide +kernel
theorem dX1_pourOneMore_98 : decode cX1_pourOneMore 98 = .ok (.iaload, 1) := by decide +kernel
theorem dX1_pourOneMore_99 : decode cX1_pourOneMore 99 = .ok (.iadd, 1) := by decide +kernel
theorem dX1_pourOneMore_100 : decode cX1_pourOneMore 100 = .ok (.istore 9, 2) := by decide +kernel
theorem dX1_pourOneMore_102 : decode cX1_pourOneMore 102 = .ok (.iload 8, 2) := by decide +kernel
theorem dX1_pourOneMore_104 : decode cX1_pourOneMore 104 = .ok (.ifCond .lt 34, 3) := by decide +kernel
theorem dX1_pourOneMore_107 : decode cX1_pourOneMore 107 = .ok (.iload 8, 2) := by decide +kernel
theorem dX1_pourOneMore_109 : decode cX1_pourOneMore 109 = .ok (.aload_n 0, 1) := by decide +kernel
theorem dX1_pourOneMore_110 : decode cX1_pourOneMore 110 = .ok (.getfield 27, 3) := by decide +kernel
theorem dX1_pourOneMore_113 : decode cX1_pourOneMore 113 = .ok (.arraylength, 1) := by decide +kernel
theorem dX1_pourOneMore_114 : decode cX1_pourOneMore 114 = .ok (.if_icmp .ge 24, 3) := by decide +kernel
theorem dX1_pourOneMore_117 : decode cX1_pourOneMore 117 = .ok (.iload 9, 2) := by decide +kernel
theorem dX1_pourOneMore_119 : decode cX1_pourOneMore 119 = .ok (.aload_n 0, 1) := by decide +kernel
theorem dX1_pourOneMore_120 : decode cX1_pourOneMore 120 = .ok (.getfield 27, 3) := by decide +kernel
theorem dX1_pourOneMore_123 : decode cX1_pourOneMore 123 = .ok (.iload 8, 2) := by decide +kernel
theorem dX1_pourOneMore_125 : decode cX1_pourOneMore 125 = .ok (.iaload, 1) := by decide +kernel
theorem dX1_pourOneMore_126 : decode cX1_pourOneMore 126 = .ok (.if_icmp .ge 12, 3) := by decide +kernel
theorem dX1_pourOneMore_129 : decode cX1_pourOneMore 129 = .ok (.aload_n 0, 1) := by decide +kernel
theorem dX1_pourOneMore_130 : decode cX1_pourOneMore 130 = .ok (.getfield 27, 3) := by decide +kernel
theorem dX1_pourOneMore_133 : decode cX1_pourOneMore 133 = .ok (.iload 8, 2) := by decide +kernel
theorem dX1_pourOneMore_135 : decode cX1_pourOneMore 135 = .ok (.iload 9, 2) := by decide +kernel
theorem dX1_pourOneMore_137 : decode cX1_pourOneMore 137 = .ok (.iastore, 1) := by decide +kernel
theorem dX1_pourOneMore_138 : decode cX1_pourOneMore 138 = .ok (.iinc 6 1, 3) := by decide +kernel
theorem dX1_pourOneMore_141 : decode cX1_pourOneMore 141 = .ok (.goto (-138), 3) := by decide +kernel
theorem dX1_pourOneMore_144 : decode cX1_pourOneMore 144 = .ok (.return_, 1) := by decide +kernel
theorem dX2_init_0 : decode cX2_init 0 = .ok (.aload_n 0, 1) := by decide +kernel
theorem dX2_init_1 : decode cX2_init 1 = .ok (.invokespecial 3, 3) := by decide +kernel
theorem dX2_init_4 : decode cX2_init 4 = .ok (.aload_n 0, 1) := by decide +kernel
theorem dX2_init_5 : decode cX2_init 5 = .ok (.bipush 10, 2) := by decide +kernel
theorem dX2_init_7 : decode cX2_init 7 = .ok (.newarray .int, 2) := by decide +kernel
theorem dX2_init_9 : decode cX2_init 9 = .ok (.putfield 9, 3) := by decide +kernel
theorem dX2_init_12 : decode cX2_init 12 = .ok (.aload_n 0, 1) := by decide +kernel
theorem dX2_init_13 : decode cX2_init 13 = .ok (.bipush 10, 2) := by decide +kernel
theorem dX2_init_15 : decode cX2_init 15 = .ok (.newarray .int, 2) := by decide +kernel
theorem dX2_init_17 : decode cX2_init 17 = .ok (.putfield 15, 3) := by decide +kernel
theorem dX2_init_20 : decode cX2_init 20 = .ok (.aload_n 0, 1) := by decide +kernel
theorem dX2_init_21 : decode cX2_init 21 = .ok (.bipush 10, 2) := by decide +kernel
theorem dX2_init_23 : decode cX2_init 23 = .ok (.newarray .int, 2) := by decide +kernel
theorem dX2_init_25 : decode cX2_init 25 = .ok (.putfield 18, 3) := by decide +kernel
theorem dX2_init_28 : decode cX2_init 28 = .ok (.aload_n 0, 1) := by decide +kernel
theorem dX2_init_29 : decode cX2_init 29 = .ok (.bipush 10, 2) := by decide +kernel
theorem dX2_init_31 : decode cX2_init 31 = .ok (.newarray .int, 2) := by decide +kernel
theorem dX2_init_33 : decode cX2_init 33 = .ok (.putfield 21, 3) := by decide +kernel
theorem dX2_init_36 : decode cX2_init 36 = .ok (.aload_n 0, 1) := by decide +kernel
theorem dX2_init_37 : decode cX2_init 37 = .ok (.bipush 10, 2) := by decide +kernel
theorem dX2_init_39 : decode cX2_init 39 = .ok (.newarray .int, 2) := by decide +kernel
theorem dX2_init_41 : decode cX2_init 41 = .ok (.putfield 24, 3) := by decide +kernel
theorem dX2_init_44 : decode cX2_init 44 = .ok (.aload_n 0, 1) := by decide +kernel
theorem dX2_init_45 : decode cX2_init 45 = .ok (.invokevirtual 27, 3) := by decide +kernel
theorem dX2_init_48 : decode cX2_init 48 = .ok (.return_, 1) := by decide +kernel
theorem dX2_clear_0 : decode cX2_clear 0 = .ok (.aload_n 0, 1) := by decide +kernel
theorem dX2_clear_1 : decode cX2_clear 1 = .ok (.iconst 0, 1) := by decide +kernel
theorem dX2_clear_2 : decode cX2_clear 2 = .ok (.putfield 30, 3) := by decide +kernel
theorem dX2_clear_5 : decode cX2_clear 5 = .ok (.aload_n 0, 1) := by decide +kernel
theorem dX2_clear_6 : decode cX2_clear 6 = .ok (.iconst 5, 1) := by decide +kernel
theorem dX2_clear_7 : decode cX2_clear 7 = .ok (.putfield 34, 3) := by decide +kernel
theorem dX2_clear_10 : decode cX2_clear 10 = .ok (.aload_n 0, 1) := by decide +kernel
theorem dX2_clear_11 : decode cX2_clear 11 = .ok (.iconst 0, 1) := by decide +kernel
theorem dX2_clear_12 : decode cX2_clear 12 = .ok (.putfield 37, 3) := by decide +kernel
theorem dX2_clear_15 : decode cX2_clear 15 = .ok (.aload_n 0, 1) := by decide +kernel
theorem dX2_clear_16 : decode cX2_clear 16 = .ok (.iconst 0, 1) := by decide +kernel
theorem dX2_clear_17 : decode cX2_clear 17 = .ok (.putfield 40, 3) := by decide +kernel
theorem dX2_clear_20 : decode cX2_clear 20 = .ok (.aload_n 0, 1) := by decide +kernel
theorem dX2_clear_21 : decode cX2_clear 21 = .ok (.iconst 5, 1) := by decide +kernel
theorem dX2_clear_22 : decode cX2_clear 22 = .ok (.putfield 43, 3) := by decide +kernel
theorem dX2_clear_25 : decode cX2_clear 25 = .ok (.aload_n 0, 1) := by decide +kernel
theorem dX2_clear_26 : decode cX2_clear 26 = .ok (.iconst 5, 1) := by decide +kernel
theorem dX2_clear_27 : decode cX2_clear 27 = .ok (.putfield 46, 3) := by decide +kernel
theorem dX2_clear_30 : decode cX2_clear 30 = .ok (.aload_n 0, 1) := by decide +kernel
theorem dX2_clear_31 : decode cX2_clear 31 = .ok (.iconst 0, 1) := by decide +kernel
theorem dX2_clear_32 : decode cX2_clear 32 = .ok (.putfield 49, 3) := by decide +kernel
theorem dX2_clear_35 : decode cX2_clear 35 = .ok (.return_, 1) := by decide +kernel
theorem dX2_copyFrom_0 : decode cX2_copyFrom 0 = .ok (.aload_n 0, 1) := by decide +kernel
theorem dX2_copyFrom_1 : decode cX2_copyFrom 1 = .ok (.aload_n 1, 1) := by decide +kernel
theorem dX2_copyFrom_2 : decode cX2_copyFrom 2 = .ok (.getfield 30, 3) := by decide +kernel
theorem dX2_copyFrom_5 : decode cX2_copyFrom 5 = .ok (.putfield 30, 3) := by decide +kernel
theorem dX2_copyFrom_8 : decode cX2_copyFrom 8 = .ok (.aload_n 0, 1) := by decide +kernel
theorem dX2_copyFrom_9 : decode cX2_copyFrom 9 = .ok (.aload_n 1, 1) := by decide +kernel
theorem dX2_copyFrom_10 : decode cX2_copyFrom 10 = .ok (.getfield 34, 3) := by decide +kernel
theorem dX2_copyFrom_13 : decode cX2_copyFrom 13 = .ok (.putfield 34, 3) := by decide +kernel
theorem dX2_copyFrom_16 : decode cX2_copyFrom 16 = .ok (.aload_n 0, 1) := by decide +kernel
theorem dX2_copyFrom_17 : decode cX2_copyFrom 17 = .ok (.aload_n 1, 1) := by decide +kernel
theorem dX2_copyFrom_18 : decode cX2_copyFrom 18 = .ok (.getfield 37, 3) := by decide +kernel
theorem dX2_copyFrom_21 : decode cX2_copyFrom 21 = .ok (.putfield 37, 3) := by decide +kernel
theorem dX2_copyFrom_24 : decode cX2_copyFrom 24 = .ok (.aload_n 1, 1) := by decide +kernel
theorem dX2_copyFrom_25 : decode cX2_copyFrom 25 = .ok (.getfield 9, 3) := by decide +kernel
theorem dX2_copyFrom_28 : decode cX2_copyFrom 28 = .ok (.iconst 0, 1) := by decide +kernel
theorem dX2_copyFrom_29 : decode cX2_copyFrom 29 = .ok (.aload_n 0, 1) := by decide +kernel
theorem dX2_copyFrom_30 : decode cX2_copyFrom 30 = .ok (.getfield 9, 3) := by decide +kernel
theorem dX2_copyFrom_33 : decode cX2_copyFrom 33 = .ok (.iconst 0, 1) := by decide +kernel
theorem dX2_copyFrom_34 : decode cX2_copyFrom 34 = .ok (.bipush 10, 2) := by decide +kernel
theorem dX2_copyFrom_36 : decode cX2_copyFrom 36 = .ok (.invokestatic 52, 3) := by decide +kernel
theorem dX2_copyFrom_39 : decode cX2_copyFrom 39 = .ok (.aload_n 1, 1) := by decide +kernel
theorem dX2_copyFrom_40 : decode cX2_copyFrom 40 = .ok (.getfield 15, 3) := by decide +kernel
theorem dX2_copyFrom_43 : decode cX2_copyFrom 43 = .ok (.iconst 0, 1) := by decide +kernel
theorem dX2_copyFrom_44 : decode cX2_copyFrom 44 = .ok (.aload_n 0, 1) := by decide +kernel
theorem dX2_copyFrom_45 : decode cX2_copyFrom 45 = .ok (.getfield 15, 3) := by decide +kernel
theorem dX2_copyFrom_48 : decode cX2_copyFrom 48 = .ok (.iconst 0, 1) := by decide +kernel
theorem dX2_copyFrom_49 : decode cX2_copyFrom 49 = .ok (.bipush 10, 2) := by decide +kernel
theorem dX2_copyFrom_51 : decode cX2_copyFrom 51 = .ok (.invokestatic 52, 3) := by decide +kernel
theorem dX2_copyFrom_54 : decode cX2_copyFrom 54 = .ok (.aload_n 1, 1) := by decide +kernel
theorem dX2_copyFrom_55 : decode cX2_copyFrom 55 = .ok (.getfield 18, 3) := by decide +kernel
theorem dX2_copyFrom_58 : decode cX2_copyFrom 58 = .ok (.iconst 0, 1) := by decide +kernel
theorem dX2_copyFrom_59 : decode cX2_copyFrom 59 = .ok (.aload_n 0, 1) := by decide +kernel
theorem dX2_copyFrom_60 : decode cX2_copyFrom 60 = .ok (.getfield 18, 3) := by decide +kernel
theorem dX2_copyFrom_63 : decode cX2_copyFrom 63 = .ok (.iconst 0, 1) := by decide +kernel
theorem dX2_copyFrom_64 : decode cX2_copyFrom 64 = .ok (.bipush 10, 2) := by decide +kernel
theorem dX2_copyFrom_66 : decode cX2_copyFrom 66 = .ok (.invokestatic 52, 3) := by decide +kernel
theorem dX2_copyFrom_69 : decode cX2_copyFrom 69 = .ok (.aload_n 1, 1) := by decide +kernel
theorem dX2_copyFrom_70 : decode cX2_copyFrom 70 = .ok (.getfield 21, 3) := by decide +kernel
theorem dX2_copyFrom_73 : decode cX2_copyFrom 73 = .ok (.iconst 0, 1) := by decide +kernel
theorem dX2_copyFrom_74 : decode cX2_copyFrom 74 = .ok (.aload_n 0, 1) := by decide +kernel
theorem dX2_copyFrom_75 : decode cX2_copyFrom 75 = .ok (.getfield 21, 3) := by decide +kernel
theorem dX2_copyFrom_78 : decode cX2_copyFrom 78 = .ok (.iconst 0, 1) := by decide +kernel
theorem dX2_copyFrom_79 : decode cX2_copyFrom 79 = .ok (.bipush 10, 2) := by decide +kernel
theorem dX2_copyFrom_81 : decode cX2_copyFrom 81 = .ok (.invokestatic 52, 3) := by decide +kernel
theorem dX2_copyFrom_84 : decode cX2_copyFrom 84 = .ok (.aload_n 1, 1) := by decide +kernel
theorem dX2_copyFrom_85 : decode cX2_copyFrom 85 = .ok (.getfield 24, 3) := by decide +kernel
theorem dX2_copyFrom_88 : decode cX2_copyFrom 88 = .ok (.iconst 0, 1) := by decide +kernel
theorem dX2_copyFrom_89 : decode cX2_copyFrom 89 = .ok (.aload_n 0, 1) := by decide +kernel
theorem dX2_copyFrom_90 : decode cX2_copyFrom 90 = .ok (.getfield 24, 3) := by decide +kernel
theorem dX2_copyFrom_93 : decode cX2_copyFrom 93 = .ok (.iconst 0, 1) := by decide +kernel
theorem dX2_copyFrom_94 : decode cX2_copyFrom 94 = .ok (.bipush 10, 2) := by decide +kernel
theorem dX2_copyFrom_96 : decode cX2_copyFrom 96 = .ok (.invokestatic 52, 3) := by decide +kernel
theorem dX2_copyFrom_99 : decode cX2_copyFrom 99 = .ok (.aload_n 0, 1) := by decide +kernel
theorem dX2_copyFrom_100 : decode cX2_copyFrom 100 = .ok (.aload_n 1, 1) := by decide +kernel
theorem dX2_copyFrom_101 : decode cX2_copyFrom 101 = .ok (.getfield 40, 3) := by decide +kernel
theorem dX2_copyFrom_104 : decode cX2_copyFrom 104 = .ok (.putfield 40, 3) := by decide +kernel
theorem dX2_copyFrom_107 : decode cX2_copyFrom 107 = .ok (.aload_n 0, 1) := by decide +kernel
theorem dX2_copyFrom_108 : decode cX2_copyFrom 108 = .ok (.aload_n 1, 1) := by decide +kernel
theorem dX2_copyFrom_109 : decode cX2_copyFrom 109 = .ok (.getfield 43, 3) := by decide +kernel
theorem dX2_copyFrom_112 : decode cX2_copyFrom 112 = .ok (.putfield 43, 3) := by decide +kernel
theorem dX2_copyFrom_115 : decode cX2_copyFrom 115 = .ok (.aload_n 0, 1) := by decide +kernel
theorem dX2_copyFrom_116 : decode cX2_copyFrom 116 = .ok (.aload_n 1, 1) := by decide +kernel
theorem dX2_copyFrom_117 : decode cX2_copyFrom 117 = .ok (.getfield 46, 3) := by decide +kernel
theorem dX2_copyFrom_120 : decode cX2_copyFrom 120 = .ok (.putfield 46, 3) := by decide +kernel
theorem dX2_copyFrom_123 : decode cX2_copyFrom 123 = .ok (.aload_n 0, 1) := by decide +kernel
theorem dX2_copyFrom_124 : decode cX2_copyFrom 124 = .ok (.aload_n 1, 1) := by decide +kernel
theorem dX2_copyFrom_125 : decode cX2_copyFrom 125 = .ok (.getfield 49, 3) := by decide +kernel
theorem dX2_copyFrom_128 : decode cX2_copyFrom 128 = .ok (.putfield 49, 3) := by decide +kernel
theorem dX2_copyFrom_131 : decode cX2_copyFrom 131 = .ok (.return_, 1) := by decide +kernel
theorem dX2_add_0 : decode cX2_add 0 = .ok (.aload_n 0, 1) := by decide +kernel
theorem dX2_add_1 : decode cX2_add 1 = .ok (.getfield 37, 3) := by decide +kernel
theorem dX2_add_4 : decode cX2_add 4 = .ok (.bipush 10, 2) := by decide +kernel
theorem dX2_add_6 : decode cX2_add 6 = .ok (.if_icmp .lt 4, 3) := by decide +kernel
theorem dX2_add_9 : decode cX2_add 9 = .ok (.return_, 1) := by decide +kernel
theorem dX2_add_10 : decode cX2_add 10 = .ok (.aload_n 0, 1) := by decide +kernel
theorem dX2_add_11 : decode cX2_add 11 = .ok (.getfield 9, 3) := by decide +kernel
theorem dX2_add_14 : decode cX2_add 14 = .ok (.aload_n 0, 1) := by decide +kernel
theorem dX2_add_15 : decode cX2_add 15 = .ok (.getfield 37, 3) := by decide +kernel
theorem dX2_add_18 : decode cX2_add 18 = .ok (.iload_n 1, 1) := by decide +kernel
theorem dX2_add_19 : decode cX2_add 19 = .ok (.iastore, 1) := by decide +kernel
theorem dX2_add_20 : decode cX2_add 20 = .ok (.aload_n 0, 1) := by decide +kernel
theorem dX2_add_21 : decode cX2_add 21 = .ok (.getfield 15, 3) := by decide +kernel
theorem dX2_add_24 : decode cX2_add 24 = .ok (.aload_n 0, 1) := by decide +kernel
theorem dX2_add_25 : decode cX2_add 25 = .ok (.getfield 37, 3) := by decide +kernel
theorem dX2_add_28 : decode cX2_add 28 = .ok (.iload_n 2, 1) := by decide +kernel
theorem dX2_add_29 : decode cX2_add 29 = .ok (.iastore, 1) := by decide +kernel
theorem dX2_add_30 : decode cX2_add 30 = .ok (.aload_n 0, 1) := by decide +kernel
theorem dX2_add_31 : decode cX2_add 31 = .ok (.getfield 18, 3) := by decide +kernel
theorem dX2_add_34 : decode cX2_add 34 = .ok (.aload_n 0, 1) := by decide +kernel
theorem dX2_add_35 : decode cX2_add 35 = .ok (.getfield 37, 3) := by decide +kernel
theorem dX2_add_38 : decode cX2_add 38 = .ok (.iload_n 3, 1) := by decide +kernel
theorem dX2_add_39 : decode cX2_add 39 = .ok (.iastore, 1) := by decide +kernel
theorem dX2_add_40 : decode cX2_add 40 = .ok (.aload_n 0, 1) := by decide +kernel
theorem dX2_add_41 : decode cX2_add 41 = .ok (.getfield 21, 3) := by decide +kernel
theorem dX2_add_44 : decode cX2_add 44 = .ok (.aload_n 0, 1) := by decide +kernel
theorem dX2_add_45 : decode cX2_add 45 = .ok (.getfield 37, 3) := by decide +kernel
theorem dX2_add_48 : decode cX2_add 48 = .ok (.iload 4, 2) := by decide +kernel
theorem dX2_add_50 : decode cX2_add 50 = .ok (.iastore, 1) := by decide +kernel
theorem dX2_add_51 : decode cX2_add 51 = .ok (.aload_n 0, 1) := by decide +kernel
theorem dX2_add_52 : decode cX2_add 52 = .ok (.getfield 24, 3) := by decide +kernel
theorem dX2_add_55 : decode cX2_add 55 = .ok (.aload_n 0, 1) := by decide +kernel
theorem dX2_add_56 : decode cX2_add 56 = .ok (.getfield 37, 3) := by decide +kernel
theorem dX2_add_59 : decode cX2_add 59 = .ok (.iconst 0, 1) := by decide +kernel
theorem dX2_add_60 : decode cX2_add 60 = .ok (.iastore, 1) := by decide +kernel
theorem dX2_add_61 : decode cX2_add 61 = .ok (.aload_n 0, 1) := by decide +kernel
theorem dX2_add_62 : decode cX2_add 62 = .ok (.dup, 1) := by decide +kernel
theorem dX2_add_63 : decode cX2_add 63 = .ok (.getfield 37, 3) := by decide +kernel
theorem dX2_add_66 : decode cX2_add 66 = .ok (.iconst 1, 1) := by decide +kernel
theorem dX2_add_67 : decode cX2_add 67 = .ok (.iadd, 1) := by decide +kernel
theorem dX2_add_68 : decode cX2_add 68 = .ok (.putfield 37, 3) := by decide +kernel
theorem dX2_add_71 : decode cX2_add 71 = .ok (.return_, 1) := by decide +kernel
theorem dX2_has_0 : decode cX2_has 0 = .ok (.iload_n 1, 1) := by decide +kernel
theorem dX2_has_1 : decode cX2_has 1 = .ok (.ifCond .lt 21, 3) := by decide +kernel
theorem dX2_has_4 : decode cX2_has 4 = .ok (.iload_n 1, 1) := by decide +kernel
theorem dX2_has_5 : decode cX2_has 5 = .ok (.aload_n 0, 1) := by decide +kernel
theorem dX2_has_6 : decode cX2_has 6 = .ok (.getfield 37, 3) := by decide +kernel
theorem dX2_has_9 : decode cX2_has 9 = .ok (.if_icmp .ge 13, 3) := by decide +kernel
theorem dX2_has_12 : decode cX2_has 12 = .ok (.iload_n 1, 1) := by decide +kernel
theorem dX2_has_13 : decode cX2_has 13 = .ok (.bipush 10, 2) := by decide +kernel
theorem dX2_has_15 : decode cX2_has 15 = .ok (.if_icmp .ge 7, 3) := by decide +kernel
theorem dX2_has_18 : decode cX2_has 18 = .ok (.iconst 1, 1) := by decide +kernel
theorem dX2_has_19 : decode cX2_has 19 = .ok (.goto 4, 3) := by decide +kernel
theorem dX2_has_22 : decode cX2_has 22 = .ok (.iconst 0, 1) := by decide +kernel
theorem dX2_has_23 : decode cX2_has 23 = .ok (.ireturn, 1) := by decide +kernel
theorem dX2_waits_0 : decode cX2_waits 0 = .ok (.aload_n 0, 1) := by decide +kernel
theorem dX2_waits_1 : decode cX2_waits 1 = .ok (.iload_n 1, 1) := by decide +kernel
theorem dX2_waits_2 : decode cX2_waits 2 = .ok (.invokevirtual 58, 3) := by decide +kernel
theorem dX2_waits_5 : decode cX2_waits 5 = .ok (.ifCond .eq 16, 3) := by decide +kernel
theorem dX2_waits_8 : decode cX2_waits 8 = .ok (.aload_n 0, 1) := by decide +kernel
theorem dX2_waits_9 : decode cX2_waits 9 = .ok (.getfield 24, 3) := by decide +kernel
theorem dX2_waits_12 : decode cX2_waits 12 = .ok (.iload_n 1, 1) := by decide +kernel
theorem dX2_waits_13 : decode cX2_waits 13 = .ok (.iaload, 1) := by decide +kernel
theorem dX2_waits_14 : decode cX2_waits 14 = .ok (.ifCond .ne 7, 3) := by decide +kernel
theorem dX2_waits_17 : decode cX2_waits 17 = .ok (.iconst 1, 1) := by decide +kernel
theorem dX2_waits_18 : decode cX2_waits 18 = .ok (.goto 4, 3) := by decide +kernel
theorem dX2_waits_21 : decode cX2_waits 21 = .ok (.iconst 0, 1) := by decide +kernel
theorem dX2_waits_22 : decode cX2_waits 22 = .ok (.ireturn, 1) := by decide +kernel
theorem dX2_kindOf_0 : decode cX2_kindOf 0 = .ok (.aload_n 0, 1) := by decide +kernel
theorem dX2_kindOf_1 : decode cX2_kindOf 1 = .ok (.iload_n 1, 1) := by decide +kernel
theorem dX2_kindOf_2 : decode cX2_kindOf 2 = .ok (.invokevirtual 58, 3) := by decide +kernel
theorem dX2_kindOf_5 : decode cX2_kindOf 5 = .ok (.ifCond .eq 12, 3) := by decide +kernel
theorem dX2_kindOf_8 : decode cX2_kindOf 8 = .ok (.aload_n 0, 1) := by decide +kernel
theorem dX2_kindOf_9 : decode cX2_kindOf 9 = .ok (.getfield 9, 3) := by decide +kernel
theorem dX2_kindOf_12 : decode cX2_kindOf 12 = .ok (.iload_n 1, 1) := by decide +kernel
theorem dX2_kindOf_13 : decode cX2_kindOf 13 = .ok (.iaload, 1) := by decide +kernel
theorem dX2_kindOf_14 : decode cX2_kindOf 14 = .ok (.goto 4, 3) := by decide +kernel
theorem dX2_kindOf_17 : decode cX2_kindOf 17 = .ok (.iconst 5, 1) := by decide +kernel
theorem dX2_kindOf_18 : decode cX2_kindOf 18 = .ok (.ireturn, 1) := by decide +kernel
theorem dX2_fitsNow_0 : decode cX2_fitsNow 0 = .ok (.aload_n 0, 1) := by decide +kernel
theorem dX2_fitsNow_1 : decode cX2_fitsNow 1 = .ok (.iload_n 1, 1) := by decide +kernel
theorem dX2_fitsNow_2 : decode cX2_fitsNow 2 = .ok (.invokevirtual 62, 3) := by decide +kernel
theorem dX2_fitsNow_5 : decode cX2_fitsNow 5 = .ok (.aload_n 0, 1) := by decide +kernel
theorem dX2_fitsNow_6 : decode cX2_fitsNow 6 = .ok (.getfield 43, 3) := by decide +kernel
theorem dX2_fitsNow_9 : decode cX2_fitsNow 9 = .ok (.aload_n 0, 1) := by decide +kernel
theorem dX2_fitsNow_10 : decode cX2_fitsNow 10 = .ok (.getfield 46, 3) := by decide +kernel
theorem dX2_fitsNow_13 : decode cX2_fitsNow 13 = .ok (.invokestatic 66, 3) := by decide +kernel
theorem dX2_fitsNow_16 : decode cX2_fitsNow 16 = .ok (.ireturn, 1) := by decide +kernel
theorem dX2_memoryNow_0 : decode cX2_memoryNow 0 = .ok (.aload_n 0, 1) := by decide +kernel
theorem dX2_memoryNow_1 : decode cX2_memoryNow 1 = .ok (.getfield 43, 3) := by decide +kernel
theorem dX2_memoryNow_4 : decode cX2_memoryNow 4 = .ok (.aload_n 0, 1) := by decide +kernel
theorem dX2_memoryNow_5 : decode cX2_memoryNow 5 = .ok (.getfield 46, 3) := by decide +kernel
theorem dX2_memoryNow_8 : decode cX2_memoryNow 8 = .ok (.invokestatic 70, 3) := by decide +kernel
theorem dX2_memoryNow_11 : decode cX2_memoryNow 11 = .ok (.ireturn, 1) := by decide +kernel
theorem dX2_hourAfter_0 : decode cX2_hourAfter 0 = .ok (.aload_n 0, 1) := by decide +kernel
theorem dX2_hourAfter_1 : decode cX2_hourAfter 1 = .ok (.iload_n 2, 1) := by decide +kernel
theorem dX2_hourAfter_2 : decode cX2_hourAfter 2 = .ok (.invokevirtual 58, 3) := by decide +kernel
theorem dX2_hourAfter_5 : decode cX2_hourAfter 5 = .ok (.ifCond .eq 23, 3) := by decide +kernel
theorem dX2_hourAfter_8 : decode cX2_hourAfter 8 = .ok (.iload_n 1, 1) := by decide +kernel
theorem dX2_hourAfter_9 : decode cX2_hourAfter 9 = .ok (.aload_n 0, 1) := by decide +kernel
theorem dX2_hourAfter_10 : decode cX2_hourAfter 10 = .ok (.getfield 21, 3) := by decide +kernel
theorem dX2_hourAfter_13 : decode cX2_hourAfter 13 = .ok (.iload_n 2, 1) := by decide +kernel
theorem dX2_hourAfter_14 : decode cX2_hourAfter 14 = .ok (.iaload, 1) := by decide +kernel
theorem dX2_hourAfter_15 : decode cX2_hourAfter 15 = .ok (.invokestatic 74, 3) := by decide +kernel
theorem dX2_hourAfter_18 : decode cX2_hourAfter 18 = .ok (.aload_n 0, 1) := by decide +kernel
theorem dX2_hourAfter_19 : decode cX2_hourAfter 19 = .ok (.getfield 15, 3) := by decide +kernel
theorem dX2_hourAfter_22 : decode cX2_hourAfter 22 = .ok (.iload_n 2, 1) := by decide +kernel
theorem dX2_hourAfter_23 : decode cX2_hourAfter 23 = .ok (.iaload, 1) := by decide +kernel
theorem dX2_hourAfter_24 : decode cX2_hourAfter 24 = .ok (.iadd, 1) := by decide +kernel
theorem dX2_hourAfter_25 : decode cX2_hourAfter 25 = .ok (.goto 4, 3) := by decide +kernel
theorem dX2_hourAfter_28 : decode cX2_hourAfter 28 = .ok (.iload_n 1, 1) := by decide +kernel
theorem dX2_hourAfter_29 : decode cX2_hourAfter 29 = .ok (.ireturn, 1) := by decide +kernel
theorem dX2_setPoured_0 : decode cX2_setPoured 0 = .ok (.aload_n 0, 1) := by decide +kernel
theorem dX2_setPoured_1 : decode cX2_setPoured 1 = .ok (.iload_n 1, 1) := by decide +kernel
theorem dX2_setPoured_2 : decode cX2_setPoured 2 = .ok (.invokevirtual 58, 3) := by decide +kernel
theorem dX2_setPoured_5 : decode cX2_setPoured 5 = .ok (.ifCond .ne 4, 3) := by decide +kernel
theorem dX2_setPoured_8 : decode cX2_setPoured 8 = .ok (.return_, 1) := by decide +kernel
theorem dX2_setPoured_9 : decode cX2_setPoured 9 = .ok (.aload_n 0, 1) := by decide +kernel
theorem dX2_setPoured_10 : decode cX2_setPoured 10 = .ok (.aload_n 0, 1) := by decide +kernel
theorem dX2_setPoured_11 : decode cX2_setPoured 11 = .ok (.aload_n 0, 1) := by decide +kernel
theorem dX2_setPoured_12 : decode cX2_setPoured 12 = .ok (.getfield 40, 3) := by decide +kernel
theorem dX2_setPoured_15 : decode cX2_setPoured 15 = .ok (.iload_n 1, 1) := by decide +kernel
theorem dX2_setPoured_16 : decode cX2_setPoured 16 = .ok (.invokevirtual 79, 3) := by decide +kernel
theorem dX2_setPoured_19 : decode cX2_setPoured 19 = .ok (.putfield 40, 3) := by decide +kernel
theorem dX2_setPoured_22 : decode cX2_setPoured 22 = .ok (.aload_n 0, 1) := by decide +kernel
theorem dX2_setPoured_23 : decode cX2_setPoured 23 = .ok (.aload_n 0, 1) := by decide +kernel
theorem dX2_setPoured_24 : decode cX2_setPoured 24 = .ok (.getfield 30, 3) := by decide +kernel
theorem dX2_setPoured_27 : decode cX2_setPoured 27 = .ok (.aload_n 0, 1) := by decide +kernel
theorem dX2_setPoured_28 : decode cX2_setPoured 28 = .ok (.getfield 43, 3) := by decide +kernel
theorem dX2_setPoured_31 : decode cX2_setPoured 31 = .ok (.invokestatic 82, 3) := by decide +kernel
theorem dX2_setPoured_34 : decode cX2_setPoured 34 = .ok (.putfield 46, 3) := by decide +kernel
theorem dX2_setPoured_37 : decode cX2_setPoured 37 = .ok (.aload_n 0, 1) := by decide +kernel
theorem dX2_setPoured_38 : decode cX2_setPoured 38 = .ok (.aload_n 0, 1) := by decide +kernel
theorem dX2_setPoured_39 : decode cX2_setPoured 39 = .ok (.getfield 9, 3) := by decide +kernel
theorem dX2_setPoured_42 : decode cX2_setPoured 42 = .ok (.iload_n 1, 1) := by decide +kernel
theorem dX2_setPoured_43 : decode cX2_setPoured 43 = .ok (.iaload, 1) := by decide +kernel
theorem dX2_setPoured_44 : decode cX2_setPoured 44 = .ok (.putfield 43, 3) := by decide +kernel
theorem dX2_setPoured_47 : decode cX2_setPoured 47 = .ok (.aload_n 0, 1) := by decide +kernel
theorem dX2_setPoured_48 : decode cX2_setPoured 48 = .ok (.getfield 24, 3) := by decide +kernel
theorem dX2_setPoured_51 : decode cX2_setPoured 51 = .ok (.iload_n 1, 1) := by decide +kernel
