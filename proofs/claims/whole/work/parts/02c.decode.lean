theorem dX6_lineEnds_31 : decode cX6_lineEnds 31 = .ok (.invokevirtual 177, 3) := by decide +kernel
theorem dX6_lineEnds_34 : decode cX6_lineEnds 34 = .ok (.istore_n 2, 1) := by decide +kernel
theorem dX6_lineEnds_35 : decode cX6_lineEnds 35 = .ok (.iinc 3 1, 3) := by decide +kernel
theorem dX6_lineEnds_38 : decode cX6_lineEnds 38 = .ok (.goto (-23), 3) := by decide +kernel
theorem dX6_lineEnds_41 : decode cX6_lineEnds 41 = .ok (.iload_n 2, 1) := by decide +kernel
theorem dX6_lineEnds_42 : decode cX6_lineEnds 42 = .ok (.ireturn, 1) := by decide +kernel
theorem dX6_bread_0 : decode cX6_bread 0 = .ok (.iconst 0, 1) := by decide +kernel
theorem dX6_bread_1 : decode cX6_bread 1 = .ok (.istore_n 1, 1) := by decide +kernel
theorem dX6_bread_2 : decode cX6_bread 2 = .ok (.iconst 2, 1) := by decide +kernel
theorem dX6_bread_3 : decode cX6_bread 3 = .ok (.istore_n 2, 1) := by decide +kernel
theorem dX6_bread_4 : decode cX6_bread 4 = .ok (.iload_n 2, 1) := by decide +kernel
theorem dX6_bread_5 : decode cX6_bread 5 = .ok (.aload_n 0, 1) := by decide +kernel
theorem dX6_bread_6 : decode cX6_bread 6 = .ok (.getfield 88, 3) := by decide +kernel
theorem dX6_bread_9 : decode cX6_bread 9 = .ok (.if_icmp .ge 79, 3) := by decide +kernel
theorem dX6_bread_12 : decode cX6_bread 12 = .ok (.aload_n 0, 1) := by decide +kernel
theorem dX6_bread_13 : decode cX6_bread 13 = .ok (.getfield 27, 3) := by decide +kernel
theorem dX6_bread_16 : decode cX6_bread 16 = .ok (.aload_n 0, 1) := by decide +kernel
theorem dX6_bread_17 : decode cX6_bread 17 = .ok (.getfield 37, 3) := by decide +kernel
theorem dX6_bread_20 : decode cX6_bread 20 = .ok (.iload_n 2, 1) := by decide +kernel
theorem dX6_bread_21 : decode cX6_bread 21 = .ok (.iconst 2, 1) := by decide +kernel
theorem dX6_bread_22 : decode cX6_bread 22 = .ok (.isub, 1) := by decide +kernel
theorem dX6_bread_23 : decode cX6_bread 23 = .ok (.iaload, 1) := by decide +kernel
theorem dX6_bread_24 : decode cX6_bread 24 = .ok (.invokevirtual 162, 3) := by decide +kernel
theorem dX6_bread_27 : decode cX6_bread 27 = .ok (.istore_n 3, 1) := by decide +kernel
theorem dX6_bread_28 : decode cX6_bread 28 = .ok (.aload_n 0, 1) := by decide +kernel
theorem dX6_bread_29 : decode cX6_bread 29 = .ok (.getfield 27, 3) := by decide +kernel
theorem dX6_bread_32 : decode cX6_bread 32 = .ok (.aload_n 0, 1) := by decide +kernel
theorem dX6_bread_33 : decode cX6_bread 33 = .ok (.getfield 37, 3) := by decide +kernel
theorem dX6_bread_36 : decode cX6_bread 36 = .ok (.iload_n 2, 1) := by decide +kernel
theorem dX6_bread_37 : decode cX6_bread 37 = .ok (.iconst 1, 1) := by decide +kernel
theorem dX6_bread_38 : decode cX6_bread 38 = .ok (.isub, 1) := by decide +kernel
theorem dX6_bread_39 : decode cX6_bread 39 = .ok (.iaload, 1) := by decide +kernel
theorem dX6_bread_40 : decode cX6_bread 40 = .ok (.invokevirtual 162, 3) := by decide +kernel
theorem dX6_bread_43 : decode cX6_bread 43 = .ok (.istore 4, 2) := by decide +kernel
theorem dX6_bread_45 : decode cX6_bread 45 = .ok (.aload_n 0, 1) := by decide +kernel
theorem dX6_bread_46 : decode cX6_bread 46 = .ok (.getfield 27, 3) := by decide +kernel
theorem dX6_bread_49 : decode cX6_bread 49 = .ok (.aload_n 0, 1) := by decide +kernel
theorem dX6_bread_50 : decode cX6_bread 50 = .ok (.getfield 37, 3) := by decide +kernel
theorem dX6_bread_53 : decode cX6_bread 53 = .ok (.iload_n 2, 1) := by decide +kernel
theorem dX6_bread_54 : decode cX6_bread 54 = .ok (.iaload, 1) := by decide +kernel
theorem dX6_bread_55 : decode cX6_bread 55 = .ok (.invokevirtual 162, 3) := by decide +kernel
theorem dX6_bread_58 : decode cX6_bread 58 = .ok (.istore 5, 2) := by decide +kernel
theorem dX6_bread_60 : decode cX6_bread 60 = .ok (.iload_n 3, 1) := by decide +kernel
theorem dX6_bread_61 : decode cX6_bread 61 = .ok (.iload 4, 2) := by decide +kernel
theorem dX6_bread_63 : decode cX6_bread 63 = .ok (.if_icmp .eq 19, 3) := by decide +kernel
theorem dX6_bread_66 : decode cX6_bread 66 = .ok (.iload 4, 2) := by decide +kernel
theorem dX6_bread_68 : decode cX6_bread 68 = .ok (.iload 5, 2) := by decide +kernel
theorem dX6_bread_70 : decode cX6_bread 70 = .ok (.if_icmp .eq 12, 3) := by decide +kernel
theorem dX6_bread_73 : decode cX6_bread 73 = .ok (.iload_n 3, 1) := by decide +kernel
theorem dX6_bread_74 : decode cX6_bread 74 = .ok (.iload 5, 2) := by decide +kernel
theorem dX6_bread_76 : decode cX6_bread 76 = .ok (.if_icmp .eq 6, 3) := by decide +kernel
theorem dX6_bread_79 : decode cX6_bread 79 = .ok (.iinc 1 1, 3) := by decide +kernel
theorem dX6_bread_82 : decode cX6_bread 82 = .ok (.iinc 2 1, 3) := by decide +kernel
theorem dX6_bread_85 : decode cX6_bread 85 = .ok (.goto (-81), 3) := by decide +kernel
theorem dX6_bread_88 : decode cX6_bread 88 = .ok (.iload_n 1, 1) := by decide +kernel
theorem dX6_bread_89 : decode cX6_bread 89 = .ok (.ireturn, 1) := by decide +kernel
theorem dX6_orders_0 : decode cX6_orders 0 = .ok (.aload_n 0, 1) := by decide +kernel
theorem dX6_orders_1 : decode cX6_orders 1 = .ok (.getfield 44, 3) := by decide +kernel
theorem dX6_orders_4 : decode cX6_orders 4 = .ok (.aload_n 0, 1) := by decide +kernel
theorem dX6_orders_5 : decode cX6_orders 5 = .ok (.getfield 27, 3) := by decide +kernel
theorem dX6_orders_8 : decode cX6_orders 8 = .ok (.invokevirtual 180, 3) := by decide +kernel
theorem dX6_orders_11 : decode cX6_orders 11 = .ok (.aload_n 0, 1) := by decide +kernel
theorem dX6_orders_12 : decode cX6_orders 12 = .ok (.getfield 44, 3) := by decide +kernel
theorem dX6_orders_15 : decode cX6_orders 15 = .ok (.aload_n 0, 1) := by decide +kernel
theorem dX6_orders_16 : decode cX6_orders 16 = .ok (.getfield 27, 3) := by decide +kernel
theorem dX6_orders_19 : decode cX6_orders 19 = .ok (.invokevirtual 183, 3) := by decide +kernel
theorem dX6_orders_22 : decode cX6_orders 22 = .ok (.i2l, 1) := by decide +kernel
theorem dX6_orders_23 : decode cX6_orders 23 = .ok (.lreturn, 1) := by decide +kernel
theorem dX6_most_0 : decode cX6_most 0 = .ok (.iload_n 1, 1) := by decide +kernel
theorem dX6_most_1 : decode cX6_most 1 = .ok (.bipush (-2), 2) := by decide +kernel
theorem dX6_most_3 : decode cX6_most 3 = .ok (.if_icmp .ge 5, 3) := by decide +kernel
theorem dX6_most_6 : decode cX6_most 6 = .ok (.iconst (-1), 1) := by decide +kernel
theorem dX6_most_7 : decode cX6_most 7 = .ok (.ireturn, 1) := by decide +kernel
theorem dX6_most_8 : decode cX6_most 8 = .ok (.aload_n 0, 1) := by decide +kernel
theorem dX6_most_9 : decode cX6_most 9 = .ok (.getfield 44, 3) := by decide +kernel
theorem dX6_most_12 : decode cX6_most 12 = .ok (.aload_n 0, 1) := by decide +kernel
theorem dX6_most_13 : decode cX6_most 13 = .ok (.getfield 27, 3) := by decide +kernel
theorem dX6_most_16 : decode cX6_most 16 = .ok (.invokevirtual 180, 3) := by decide +kernel
theorem dX6_most_19 : decode cX6_most 19 = .ok (.aload_n 0, 1) := by decide +kernel
theorem dX6_most_20 : decode cX6_most 20 = .ok (.getfield 44, 3) := by decide +kernel
theorem dX6_most_23 : decode cX6_most 23 = .ok (.aload_n 0, 1) := by decide +kernel
theorem dX6_most_24 : decode cX6_most 24 = .ok (.getfield 27, 3) := by decide +kernel
theorem dX6_most_27 : decode cX6_most 27 = .ok (.invokevirtual 187, 3) := by decide +kernel
theorem dX6_most_30 : decode cX6_most 30 = .ok (.istore_n 2, 1) := by decide +kernel
theorem dX6_most_31 : decode cX6_most 31 = .ok (.iload_n 1, 1) := by decide +kernel
theorem dX6_most_32 : decode cX6_most 32 = .ok (.iconst (-1), 1) := by decide +kernel
theorem dX6_most_33 : decode cX6_most 33 = .ok (.if_icmp .ne 5, 3) := by decide +kernel
theorem dX6_most_36 : decode cX6_most 36 = .ok (.iload_n 2, 1) := by decide +kernel
theorem dX6_most_37 : decode cX6_most 37 = .ok (.ireturn, 1) := by decide +kernel
theorem dX6_most_38 : decode cX6_most 38 = .ok (.iload_n 1, 1) := by decide +kernel
theorem dX6_most_39 : decode cX6_most 39 = .ok (.bipush (-2), 2) := by decide +kernel
theorem dX6_most_41 : decode cX6_most 41 = .ok (.if_icmp .ne 16, 3) := by decide +kernel
theorem dX6_most_44 : decode cX6_most 44 = .ok (.aload_n 0, 1) := by decide +kernel
theorem dX6_most_45 : decode cX6_most 45 = .ok (.getfield 51, 3) := by decide +kernel
theorem dX6_most_48 : decode cX6_most 48 = .ok (.aload_n 0, 1) := by decide +kernel
theorem dX6_most_49 : decode cX6_most 49 = .ok (.getfield 27, 3) := by decide +kernel
theorem dX6_most_52 : decode cX6_most 52 = .ok (.iload_n 2, 1) := by decide +kernel
theorem dX6_most_53 : decode cX6_most 53 = .ok (.invokevirtual 190, 3) := by decide +kernel
theorem dX6_most_56 : decode cX6_most 56 = .ok (.ireturn, 1) := by decide +kernel
theorem dX6_most_57 : decode cX6_most 57 = .ok (.iload_n 1, 1) := by decide +kernel
theorem dX6_most_58 : decode cX6_most 58 = .ok (.iload_n 2, 1) := by decide +kernel
theorem dX6_most_59 : decode cX6_most 59 = .ok (.if_icmp .ge 18, 3) := by decide +kernel
theorem dX6_most_62 : decode cX6_most 62 = .ok (.aload_n 0, 1) := by decide +kernel
theorem dX6_most_63 : decode cX6_most 63 = .ok (.getfield 44, 3) := by decide +kernel
theorem dX6_most_66 : decode cX6_most 66 = .ok (.aload_n 0, 1) := by decide +kernel
theorem dX6_most_67 : decode cX6_most 67 = .ok (.getfield 27, 3) := by decide +kernel
theorem dX6_most_70 : decode cX6_most 70 = .ok (.iload_n 1, 1) := by decide +kernel
theorem dX6_most_71 : decode cX6_most 71 = .ok (.invokevirtual 194, 3) := by decide +kernel
theorem dX6_most_74 : decode cX6_most 74 = .ok (.goto 5, 3) := by decide +kernel
theorem dX6_most_77 : decode cX6_most 77 = .ok (.bipush (-4), 2) := by decide +kernel
theorem dX6_most_79 : decode cX6_most 79 = .ok (.ireturn, 1) := by decide +kernel
theorem dX6_halvings_0 : decode cX6_halvings 0 = .ok (.aload_n 0, 1) := by decide +kernel
theorem dX6_halvings_1 : decode cX6_halvings 1 = .ok (.getfield 27, 3) := by decide +kernel
theorem dX6_halvings_4 : decode cX6_halvings 4 = .ok (.getfield 170, 3) := by decide +kernel
theorem dX6_halvings_7 : decode cX6_halvings 7 = .ok (.iconst 1, 1) := by decide +kernel
theorem dX6_halvings_8 : decode cX6_halvings 8 = .ok (.if_icmp .ne 6, 3) := by decide +kernel
theorem dX6_halvings_11 : decode cX6_halvings 11 = .ok (.bipush (-2), 2) := by decide +kernel
theorem dX6_halvings_13 : decode cX6_halvings 13 = .ok (.ireturn, 1) := by decide +kernel
theorem dX6_halvings_14 : decode cX6_halvings 14 = .ok (.aload_n 0, 1) := by decide +kernel
theorem dX6_halvings_15 : decode cX6_halvings 15 = .ok (.getfield 44, 3) := by decide +kernel
theorem dX6_halvings_18 : decode cX6_halvings 18 = .ok (.aload_n 0, 1) := by decide +kernel
theorem dX6_halvings_19 : decode cX6_halvings 19 = .ok (.getfield 27, 3) := by decide +kernel
theorem dX6_halvings_22 : decode cX6_halvings 22 = .ok (.invokevirtual 197, 3) := by decide +kernel
theorem dX6_halvings_25 : decode cX6_halvings 25 = .ok (.ireturn, 1) := by decide +kernel
theorem dX6_more_0 : decode cX6_more 0 = .ok (.iload_n 1, 1) := by decide +kernel
theorem dX6_more_1 : decode cX6_more 1 = .ok (.invokestatic 200, 3) := by decide +kernel
theorem dX6_more_4 : decode cX6_more 4 = .ok (.ifCond .ne 5, 3) := by decide +kernel
theorem dX6_more_7 : decode cX6_more 7 = .ok (.iconst (-1), 1) := by decide +kernel
theorem dX6_more_8 : decode cX6_more 8 = .ok (.ireturn, 1) := by decide +kernel
theorem dX6_more_9 : decode cX6_more 9 = .ok (.aload_n 0, 1) := by decide +kernel
theorem dX6_more_10 : decode cX6_more 10 = .ok (.getfield 44, 3) := by decide +kernel
theorem dX6_more_13 : decode cX6_more 13 = .ok (.aload_n 0, 1) := by decide +kernel
theorem dX6_more_14 : decode cX6_more 14 = .ok (.getfield 27, 3) := by decide +kernel
theorem dX6_more_17 : decode cX6_more 17 = .ok (.invokevirtual 180, 3) := by decide +kernel
theorem dX6_more_20 : decode cX6_more 20 = .ok (.aload_n 0, 1) := by decide +kernel
theorem dX6_more_21 : decode cX6_more 21 = .ok (.getfield 44, 3) := by decide +kernel
theorem dX6_more_24 : decode cX6_more 24 = .ok (.aload_n 0, 1) := by decide +kernel
theorem dX6_more_25 : decode cX6_more 25 = .ok (.getfield 27, 3) := by decide +kernel
theorem dX6_more_28 : decode cX6_more 28 = .ok (.invokevirtual 187, 3) := by decide +kernel
theorem dX6_more_31 : decode cX6_more 31 = .ok (.istore_n 2, 1) := by decide +kernel
theorem dX6_more_32 : decode cX6_more 32 = .ok (.aload_n 0, 1) := by decide +kernel
theorem dX6_more_33 : decode cX6_more 33 = .ok (.getfield 44, 3) := by decide +kernel
theorem dX6_more_36 : decode cX6_more 36 = .ok (.iload_n 1, 1) := by decide +kernel
theorem dX6_more_37 : decode cX6_more 37 = .ok (.invokevirtual 203, 3) := by decide +kernel
theorem dX6_more_40 : decode cX6_more 40 = .ok (.aload_n 0, 1) := by decide +kernel
theorem dX6_more_41 : decode cX6_more 41 = .ok (.getfield 44, 3) := by decide +kernel
theorem dX6_more_44 : decode cX6_more 44 = .ok (.aload_n 0, 1) := by decide +kernel
theorem dX6_more_45 : decode cX6_more 45 = .ok (.getfield 27, 3) := by decide +kernel
theorem dX6_more_48 : decode cX6_more 48 = .ok (.invokevirtual 187, 3) := by decide +kernel
theorem dX6_more_51 : decode cX6_more 51 = .ok (.iload_n 2, 1) := by decide +kernel
theorem dX6_more_52 : decode cX6_more 52 = .ok (.isub, 1) := by decide +kernel
theorem dX6_more_53 : decode cX6_more 53 = .ok (.ireturn, 1) := by decide +kernel
theorem dX6_lacks_0 : decode cX6_lacks 0 = .ok (.iload_n 1, 1) := by decide +kernel
theorem dX6_lacks_1 : decode cX6_lacks 1 = .ok (.invokestatic 200, 3) := by decide +kernel
theorem dX6_lacks_4 : decode cX6_lacks 4 = .ok (.ifCond .ne 5, 3) := by decide +kernel
theorem dX6_lacks_7 : decode cX6_lacks 7 = .ok (.iconst (-1), 1) := by decide +kernel
theorem dX6_lacks_8 : decode cX6_lacks 8 = .ok (.ireturn, 1) := by decide +kernel
theorem dX6_lacks_9 : decode cX6_lacks 9 = .ok (.aload_n 0, 1) := by decide +kernel
theorem dX6_lacks_10 : decode cX6_lacks 10 = .ok (.getfield 44, 3) := by decide +kernel
theorem dX6_lacks_13 : decode cX6_lacks 13 = .ok (.aload_n 0, 1) := by decide +kernel
theorem dX6_lacks_14 : decode cX6_lacks 14 = .ok (.getfield 27, 3) := by decide +kernel
theorem dX6_lacks_17 : decode cX6_lacks 17 = .ok (.invokevirtual 180, 3) := by decide +kernel
theorem dX6_lacks_20 : decode cX6_lacks 20 = .ok (.aload_n 0, 1) := by decide +kernel
theorem dX6_lacks_21 : decode cX6_lacks 21 = .ok (.getfield 44, 3) := by decide +kernel
theorem dX6_lacks_24 : decode cX6_lacks 24 = .ok (.aload_n 0, 1) := by decide +kernel
theorem dX6_lacks_25 : decode cX6_lacks 25 = .ok (.getfield 27, 3) := by decide +kernel
theorem dX6_lacks_28 : decode cX6_lacks 28 = .ok (.invokevirtual 187, 3) := by decide +kernel
theorem dX6_lacks_31 : decode cX6_lacks 31 = .ok (.istore_n 2, 1) := by decide +kernel
theorem dX6_lacks_32 : decode cX6_lacks 32 = .ok (.aload_n 0, 1) := by decide +kernel
theorem dX6_lacks_33 : decode cX6_lacks 33 = .ok (.getfield 44, 3) := by decide +kernel
theorem dX6_lacks_36 : decode cX6_lacks 36 = .ok (.iload_n 1, 1) := by decide +kernel
theorem dX6_lacks_37 : decode cX6_lacks 37 = .ok (.invokevirtual 206, 3) := by decide +kernel
theorem dX6_lacks_40 : decode cX6_lacks 40 = .ok (.iload_n 2, 1) := by decide +kernel
theorem dX6_lacks_41 : decode cX6_lacks 41 = .ok (.aload_n 0, 1) := by decide +kernel
theorem dX6_lacks_42 : decode cX6_lacks 42 = .ok (.getfield 44, 3) := by decide +kernel
theorem dX6_lacks_45 : decode cX6_lacks 45 = .ok (.aload_n 0, 1) := by decide +kernel
theorem dX6_lacks_46 : decode cX6_lacks 46 = .ok (.getfield 27, 3) := by decide +kernel
theorem dX6_lacks_49 : decode cX6_lacks 49 = .ok (.invokevirtual 187, 3) := by decide +kernel
theorem dX6_lacks_52 : decode cX6_lacks 52 = .ok (.isub, 1) := by decide +kernel
theorem dX6_lacks_53 : decode cX6_lacks 53 = .ok (.ireturn, 1) := by decide +kernel
theorem dX6_together_0 : decode cX6_together 0 = .ok (.iload_n 1, 1) := by decide +kernel
theorem dX6_together_1 : decode cX6_together 1 = .ok (.iconst (-1), 1) := by decide +kernel
theorem dX6_together_2 : decode cX6_together 2 = .ok (.if_icmp .eq 12, 3) := by decide +kernel
theorem dX6_together_5 : decode cX6_together 5 = .ok (.iload_n 1, 1) := by decide +kernel
theorem dX6_together_6 : decode cX6_together 6 = .ok (.invokestatic 209, 3) := by decide +kernel
theorem dX6_together_9 : decode cX6_together 9 = .ok (.ifCond .ne 5, 3) := by decide +kernel
theorem dX6_together_12 : decode cX6_together 12 = .ok (.iconst (-1), 1) := by decide +kernel
theorem dX6_together_13 : decode cX6_together 13 = .ok (.ireturn, 1) := by decide +kernel
theorem dX6_together_14 : decode cX6_together 14 = .ok (.aload_n 0, 1) := by decide +kernel
theorem dX6_together_15 : decode cX6_together 15 = .ok (.getfield 58, 3) := by decide +kernel
theorem dX6_together_18 : decode cX6_together 18 = .ok (.aload_n 0, 1) := by decide +kernel
theorem dX6_together_19 : decode cX6_together 19 = .ok (.getfield 27, 3) := by decide +kernel
theorem dX6_together_22 : decode cX6_together 22 = .ok (.aload_n 0, 1) := by decide +kernel
theorem dX6_together_23 : decode cX6_together 23 = .ok (.getfield 44, 3) := by decide +kernel
theorem dX6_together_26 : decode cX6_together 26 = .ok (.invokevirtual 212, 3) := by decide +kernel
theorem dX6_together_29 : decode cX6_together 29 = .ok (.iload_n 1, 1) := by decide +kernel
theorem dX6_together_30 : decode cX6_together 30 = .ok (.iconst (-1), 1) := by decide +kernel
theorem dX6_together_31 : decode cX6_together 31 = .ok (.if_icmp .ne 13, 3) := by decide +kernel
theorem dX6_together_34 : decode cX6_together 34 = .ok (.aload_n 0, 1) := by decide +kernel
theorem dX6_together_35 : decode cX6_together 35 = .ok (.getfield 58, 3) := by decide +kernel
theorem dX6_together_38 : decode cX6_together 38 = .ok (.getfield 216, 3) := by decide +kernel
theorem dX6_together_41 : decode cX6_together 41 = .ok (.goto 11, 3) := by decide +kernel
theorem dX6_together_44 : decode cX6_together 44 = .ok (.aload_n 0, 1) := by decide +kernel
theorem dX6_together_45 : decode cX6_together 45 = .ok (.getfield 58, 3) := by decide +kernel
theorem dX6_together_48 : decode cX6_together 48 = .ok (.iload_n 1, 1) := by decide +kernel
theorem dX6_together_49 : decode cX6_together 49 = .ok (.invokevirtual 219, 3) := by decide +kernel
theorem dX6_together_52 : decode cX6_together 52 = .ok (.ireturn, 1) := by decide +kernel
theorem dX6_grows_0 : decode cX6_grows 0 = .ok (.iload_n 1, 1) := by decide +kernel
theorem dX6_grows_1 : decode cX6_grows 1 = .ok (.invokestatic 209, 3) := by decide +kernel
theorem dX6_grows_4 : decode cX6_grows 4 = .ok (.ifCond .ne 5, 3) := by decide +kernel
theorem dX6_grows_7 : decode cX6_grows 7 = .ok (.iconst (-1), 1) := by decide +kernel
theorem dX6_grows_8 : decode cX6_grows 8 = .ok (.ireturn, 1) := by decide +kernel
theorem dX6_grows_9 : decode cX6_grows 9 = .ok (.aload_n 0, 1) := by decide +kernel
theorem dX6_grows_10 : decode cX6_grows 10 = .ok (.getfield 27, 3) := by decide +kernel
theorem dX6_grows_13 : decode cX6_grows 13 = .ok (.iload_n 1, 1) := by decide +kernel
theorem dX6_grows_14 : decode cX6_grows 14 = .ok (.invokevirtual 222, 3) := by decide +kernel
theorem dX6_grows_17 : decode cX6_grows 17 = .ok (.ifCond .ne 6, 3) := by decide +kernel
theorem dX6_grows_20 : decode cX6_grows 20 = .ok (.bipush (-4), 2) := by decide +kernel
theorem dX6_grows_22 : decode cX6_grows 22 = .ok (.ireturn, 1) := by decide +kernel
theorem dX6_grows_23 : decode cX6_grows 23 = .ok (.bipush (-4), 2) := by decide +kernel
theorem dX6_grows_25 : decode cX6_grows 25 = .ok (.istore_n 2, 1) := by decide +kernel
theorem dX6_grows_26 : decode cX6_grows 26 = .ok (.iconst (-1), 1) := by decide +kernel
theorem dX6_grows_27 : decode cX6_grows 27 = .ok (.istore_n 3, 1) := by decide +kernel
theorem dX6_grows_28 : decode cX6_grows 28 = .ok (.iconst 0, 1) := by decide +kernel
theorem dX6_grows_29 : decode cX6_grows 29 = .ok (.istore 4, 2) := by decide +kernel
theorem dX6_grows_31 : decode cX6_grows 31 = .ok (.iload 4, 2) := by decide +kernel
theorem dX6_grows_33 : decode cX6_grows 33 = .ok (.iconst 5, 1) := by decide +kernel
theorem dX6_grows_34 : decode cX6_grows 34 = .ok (.if_icmp .ge 48, 3) := by decide +kernel
theorem dX6_grows_37 : decode cX6_grows 37 = .ok (.aload_n 0, 1) := by decide +kernel
theorem dX6_grows_38 : decode cX6_grows 38 = .ok (.getfield 44, 3) := by decide +kernel
theorem dX6_grows_41 : decode cX6_grows 41 = .ok (.aload_n 0, 1) := by decide +kernel
theorem dX6_grows_42 : decode cX6_grows 42 = .ok (.getfield 27, 3) := by decide +kernel
theorem dX6_grows_45 : decode cX6_grows 45 = .ok (.iload_n 1, 1) := by decide +kernel
theorem dX6_grows_46 : decode cX6_grows 46 = .ok (.iload 4, 2) := by decide +kernel
theorem dX6_grows_48 : decode cX6_grows 48 = .ok (.invokevirtual 225, 3) := by decide +kernel
theorem dX6_grows_51 : decode cX6_grows 51 = .ok (.aload_n 0, 1) := by decide +kernel
theorem dX6_grows_52 : decode cX6_grows 52 = .ok (.getfield 44, 3) := by decide +kernel
theorem dX6_grows_55 : decode cX6_grows 55 = .ok (.aload_n 0, 1) := by decide +kernel
theorem dX6_grows_56 : decode cX6_grows 56 = .ok (.getfield 27, 3) := by decide +kernel
theorem dX6_grows_59 : decode cX6_grows 59 = .ok (.invokevirtual 187, 3) := by decide +kernel
theorem dX6_grows_62 : decode cX6_grows 62 = .ok (.istore 5, 2) := by decide +kernel
theorem dX6_grows_64 : decode cX6_grows 64 = .ok (.iload 5, 2) := by decide +kernel
theorem dX6_grows_66 : decode cX6_grows 66 = .ok (.iload_n 3, 1) := by decide +kernel
theorem dX6_grows_67 : decode cX6_grows 67 = .ok (.if_icmp .le 9, 3) := by decide +kernel
theorem dX6_grows_70 : decode cX6_grows 70 = .ok (.iload 5, 2) := by decide +kernel
theorem dX6_grows_72 : decode cX6_grows 72 = .ok (.istore_n 3, 1) := by decide +kernel
theorem dX6_grows_73 : decode cX6_grows 73 = .ok (.iload 4, 2) := by decide +kernel
theorem dX6_grows_75 : decode cX6_grows 75 = .ok (.istore_n 2, 1) := by decide +kernel
theorem dX6_grows_76 : decode cX6_grows 76 = .ok (.iinc 4 1, 3) := by decide +kernel
theorem dX6_grows_79 : decode cX6_grows 79 = .ok (.goto (-48), 3) := by decide +kernel
theorem dX6_grows_82 : decode cX6_grows 82 = .ok (.iload_n 2, 1) := by decide +kernel
theorem dX6_grows_83 : decode cX6_grows 83 = .ok (.ireturn, 1) := by decide +kernel
theorem dX6_twoMills_0 : decode cX6_twoMills 0 = .ok (.iload_n 1, 1) := by decide +kernel
theorem dX6_twoMills_1 : decode cX6_twoMills 1 = .ok (.ifCond .eq 10, 3) := by decide +kernel
theorem dX6_twoMills_4 : decode cX6_twoMills 4 = .ok (.iload_n 1, 1) := by decide +kernel
theorem dX6_twoMills_5 : decode cX6_twoMills 5 = .ok (.iconst 1, 1) := by decide +kernel
theorem dX6_twoMills_6 : decode cX6_twoMills 6 = .ok (.if_icmp .eq 5, 3) := by decide +kernel
theorem dX6_twoMills_9 : decode cX6_twoMills 9 = .ok (.iconst (-1), 1) := by decide +kernel
theorem dX6_twoMills_10 : decode cX6_twoMills 10 = .ok (.ireturn, 1) := by decide +kernel
theorem dX6_twoMills_11 : decode cX6_twoMills 11 = .ok (.aload_n 0, 1) := by decide +kernel
theorem dX6_twoMills_12 : decode cX6_twoMills 12 = .ok (.getfield 51, 3) := by decide +kernel
theorem dX6_twoMills_15 : decode cX6_twoMills 15 = .ok (.aload_n 0, 1) := by decide +kernel
theorem dX6_twoMills_16 : decode cX6_twoMills 16 = .ok (.getfield 27, 3) := by decide +kernel
theorem dX6_twoMills_19 : decode cX6_twoMills 19 = .ok (.invokevirtual 229, 3) := by decide +kernel
theorem dX6_twoMills_22 : decode cX6_twoMills 22 = .ok (.ifCond .ne 6, 3) := by decide +kernel
theorem dX6_twoMills_25 : decode cX6_twoMills 25 = .ok (.bipush (-4), 2) := by decide +kernel
theorem dX6_twoMills_27 : decode cX6_twoMills 27 = .ok (.ireturn, 1) := by decide +kernel
theorem dX6_twoMills_28 : decode cX6_twoMills 28 = .ok (.iload_n 1, 1) := by decide +kernel
theorem dX6_twoMills_29 : decode cX6_twoMills 29 = .ok (.ifCond .ne 13, 3) := by decide +kernel
theorem dX6_twoMills_32 : decode cX6_twoMills 32 = .ok (.aload_n 0, 1) := by decide +kernel
theorem dX6_twoMills_33 : decode cX6_twoMills 33 = .ok (.getfield 51, 3) := by decide +kernel
theorem dX6_twoMills_36 : decode cX6_twoMills 36 = .ok (.getfield 233, 3) := by decide +kernel
theorem dX6_twoMills_39 : decode cX6_twoMills 39 = .ok (.goto 10, 3) := by decide +kernel
theorem dX6_twoMills_42 : decode cX6_twoMills 42 = .ok (.aload_n 0, 1) := by decide +kernel
theorem dX6_twoMills_43 : decode cX6_twoMills 43 = .ok (.getfield 51, 3) := by decide +kernel
theorem dX6_twoMills_46 : decode cX6_twoMills 46 = .ok (.getfield 236, 3) := by decide +kernel
theorem dX6_twoMills_49 : decode cX6_twoMills 49 = .ok (.ireturn, 1) := by decide +kernel
theorem dX6_year_0 : decode cX6_year 0 = .ok (.iload_n 1, 1) := by decide +kernel
theorem dX6_year_1 : decode cX6_year 1 = .ok (.ifCond .lt 30, 3) := by decide +kernel
theorem dX6_year_4 : decode cX6_year 4 = .ok (.iload_n 1, 1) := by decide +kernel
theorem dX6_year_5 : decode cX6_year 5 = .ok (.sipush 9999, 3) := by decide +kernel
theorem dX6_year_8 : decode cX6_year 8 = .ok (.if_icmp .gt 23, 3) := by decide +kernel
theorem dX6_year_11 : decode cX6_year 11 = .ok (.iload_n 2, 1) := by decide +kernel
theorem dX6_year_12 : decode cX6_year 12 = .ok (.iconst 1, 1) := by decide +kernel
theorem dX6_year_13 : decode cX6_year 13 = .ok (.if_icmp .lt 18, 3) := by decide +kernel
theorem dX6_year_16 : decode cX6_year 16 = .ok (.iload_n 2, 1) := by decide +kernel
theorem dX6_year_17 : decode cX6_year 17 = .ok (.bipush 100, 2) := by decide +kernel
theorem dX6_year_19 : decode cX6_year 19 = .ok (.if_icmp .gt 12, 3) := by decide +kernel
theorem dX6_year_22 : decode cX6_year 22 = .ok (.iload_n 3, 1) := by decide +kernel
theorem dX6_year_23 : decode cX6_year 23 = .ok (.ifCond .lt 8, 3) := by decide +kernel
theorem dX6_year_26 : decode cX6_year 26 = .ok (.iload_n 3, 1) := by decide +kernel
theorem dX6_year_27 : decode cX6_year 27 = .ok (.iconst 1, 1) := by decide +kernel
theorem dX6_year_28 : decode cX6_year 28 = .ok (.if_icmp .le 5, 3) := by decide +kernel
theorem dX6_year_31 : decode cX6_year 31 = .ok (.iconst (-1), 1) := by decide +kernel
theorem dX6_year_32 : decode cX6_year 32 = .ok (.ireturn, 1) := by decide +kernel
theorem dX6_year_33 : decode cX6_year 33 = .ok (.aload_n 0, 1) := by decide +kernel
theorem dX6_year_34 : decode cX6_year 34 = .ok (.getfield 65, 3) := by decide +kernel
theorem dX6_year_37 : decode cX6_year 37 = .ok (.aload_n 0, 1) := by decide +kernel
theorem dX6_year_38 : decode cX6_year 38 = .ok (.getfield 27, 3) := by decide +kernel
theorem dX6_year_41 : decode cX6_year 41 = .ok (.getfield 170, 3) := by decide +kernel
theorem dX6_year_44 : decode cX6_year 44 = .ok (.invokevirtual 239, 3) := by decide +kernel
theorem dX6_year_47 : decode cX6_year 47 = .ok (.iconst 0, 1) := by decide +kernel
theorem dX6_year_48 : decode cX6_year 48 = .ok (.istore 4, 2) := by decide +kernel
theorem dX6_year_50 : decode cX6_year 50 = .ok (.iload 4, 2) := by decide +kernel
theorem dX6_year_52 : decode cX6_year 52 = .ok (.iload_n 2, 1) := by decide +kernel
theorem dX6_year_53 : decode cX6_year 53 = .ok (.if_icmp .ge 22, 3) := by decide +kernel
theorem dX6_year_56 : decode cX6_year 56 = .ok (.aload_n 0, 1) := by decide +kernel
theorem dX6_year_57 : decode cX6_year 57 = .ok (.getfield 65, 3) := by decide +kernel
theorem dX6_year_60 : decode cX6_year 60 = .ok (.iload_n 1, 1) := by decide +kernel
theorem dX6_year_61 : decode cX6_year 61 = .ok (.iload 4, 2) := by decide +kernel
theorem dX6_year_63 : decode cX6_year 63 = .ok (.invokestatic 242, 3) := by decide +kernel
theorem dX6_year_66 : decode cX6_year 66 = .ok (.invokevirtual 245, 3) := by decide +kernel
theorem dX6_year_69 : decode cX6_year 69 = .ok (.iinc 4 1, 3) := by decide +kernel
theorem dX6_year_72 : decode cX6_year 72 = .ok (.goto (-22), 3) := by decide +kernel
theorem dX6_year_75 : decode cX6_year 75 = .ok (.iload_n 3, 1) := by decide +kernel
theorem dX6_year_76 : decode cX6_year 76 = .ok (.ifCond .ne 13, 3) := by decide +kernel
theorem dX6_year_79 : decode cX6_year 79 = .ok (.aload_n 0, 1) := by decide +kernel
theorem dX6_year_80 : decode cX6_year 80 = .ok (.getfield 65, 3) := by decide +kernel
theorem dX6_year_83 : decode cX6_year 83 = .ok (.getfield 248, 3) := by decide +kernel
theorem dX6_year_86 : decode cX6_year 86 = .ok (.goto 12, 3) := by decide +kernel
theorem dX6_year_89 : decode cX6_year 89 = .ok (.iload_n 2, 1) := by decide +kernel
theorem dX6_year_90 : decode cX6_year 90 = .ok (.aload_n 0, 1) := by decide +kernel
theorem dX6_year_91 : decode cX6_year 91 = .ok (.getfield 65, 3) := by decide +kernel
theorem dX6_year_94 : decode cX6_year 94 = .ok (.getfield 248, 3) := by decide +kernel
theorem dX6_year_97 : decode cX6_year 97 = .ok (.isub, 1) := by decide +kernel
theorem dX6_year_98 : decode cX6_year 98 = .ok (.ireturn, 1) := by decide +kernel
theorem dX6_keep_0 : decode cX6_keep 0 = .ok (.aload_n 0, 1) := by decide +kernel
theorem dX6_keep_1 : decode cX6_keep 1 = .ok (.getfield 94, 3) := by decide +kernel
theorem dX6_keep_4 : decode cX6_keep 4 = .ok (.iconst 2, 1) := by decide +kernel
theorem dX6_keep_5 : decode cX6_keep 5 = .ok (.if_icmp .lt 6, 3) := by decide +kernel
theorem dX6_keep_8 : decode cX6_keep 8 = .ok (.bipush (-3), 2) := by decide +kernel
theorem dX6_keep_10 : decode cX6_keep 10 = .ok (.ireturn, 1) := by decide +kernel
theorem dX6_keep_11 : decode cX6_keep 11 = .ok (.aload_n 0, 1) := by decide +kernel
theorem dX6_keep_12 : decode cX6_keep 12 = .ok (.getfield 34, 3) := by decide +kernel
theorem dX6_keep_15 : decode cX6_keep 15 = .ok (.aload_n 0, 1) := by decide +kernel
theorem dX6_keep_16 : decode cX6_keep 16 = .ok (.getfield 94, 3) := by decide +kernel
theorem dX6_keep_19 : decode cX6_keep 19 = .ok (.aaload, 1) := by decide +kernel
theorem dX6_keep_20 : decode cX6_keep 20 = .ok (.aload_n 0, 1) := by decide +kernel
theorem dX6_keep_21 : decode cX6_keep 21 = .ok (.getfield 27, 3) := by decide +kernel
theorem dX6_keep_24 : decode cX6_keep 24 = .ok (.invokevirtual 84, 3) := by decide +kernel
theorem dX6_keep_27 : decode cX6_keep 27 = .ok (.aload_n 0, 1) := by decide +kernel
theorem dX6_keep_28 : decode cX6_keep 28 = .ok (.dup, 1) := by decide +kernel
theorem dX6_keep_29 : decode cX6_keep 29 = .ok (.getfield 94, 3) := by decide +kernel
theorem dX6_keep_32 : decode cX6_keep 32 = .ok (.iconst 1, 1) := by decide +kernel
theorem dX6_keep_33 : decode cX6_keep 33 = .ok (.iadd, 1) := by decide +kernel
theorem dX6_keep_34 : decode cX6_keep 34 = .ok (.putfield 94, 3) := by decide +kernel
theorem dX6_keep_37 : decode cX6_keep 37 = .ok (.aload_n 0, 1) := by decide +kernel
theorem dX6_keep_38 : decode cX6_keep 38 = .ok (.getfield 94, 3) := by decide +kernel
theorem dX6_keep_41 : decode cX6_keep 41 = .ok (.ireturn, 1) := by decide +kernel
theorem dX6_back_0 : decode cX6_back 0 = .ok (.aload_n 0, 1) := by decide +kernel
theorem dX6_back_1 : decode cX6_back 1 = .ok (.getfield 94, 3) := by decide +kernel
theorem dX6_back_4 : decode cX6_back 4 = .ok (.ifCond .gt 6, 3) := by decide +kernel
theorem dX6_back_7 : decode cX6_back 7 = .ok (.bipush (-2), 2) := by decide +kernel
theorem dX6_back_9 : decode cX6_back 9 = .ok (.ireturn, 1) := by decide +kernel
theorem dX6_back_10 : decode cX6_back 10 = .ok (.aload_n 0, 1) := by decide +kernel
theorem dX6_back_11 : decode cX6_back 11 = .ok (.dup, 1) := by decide +kernel
theorem dX6_back_12 : decode cX6_back 12 = .ok (.getfield 94, 3) := by decide +kernel
theorem dX6_back_15 : decode cX6_back 15 = .ok (.iconst 1, 1) := by decide +kernel
theorem dX6_back_16 : decode cX6_back 16 = .ok (.isub, 1) := by decide +kernel
theorem dX6_back_17 : decode cX6_back 17 = .ok (.putfield 94, 3) := by decide +kernel
theorem dX6_back_20 : decode cX6_back 20 = .ok (.aload_n 0, 1) := by decide +kernel
theorem dX6_back_21 : decode cX6_back 21 = .ok (.getfield 27, 3) := by decide +kernel
theorem dX6_back_24 : decode cX6_back 24 = .ok (.aload_n 0, 1) := by decide +kernel
theorem dX6_back_25 : decode cX6_back 25 = .ok (.getfield 34, 3) := by decide +kernel
theorem dX6_back_28 : decode cX6_back 28 = .ok (.aload_n 0, 1) := by decide +kernel
theorem dX6_back_29 : decode cX6_back 29 = .ok (.getfield 94, 3) := by decide +kernel
theorem dX6_back_32 : decode cX6_back 32 = .ok (.aaload, 1) := by decide +kernel
theorem dX6_back_33 : decode cX6_back 33 = .ok (.invokevirtual 84, 3) := by decide +kernel
theorem dX6_back_36 : decode cX6_back 36 = .ok (.aload_n 0, 1) := by decide +kernel
theorem dX6_back_37 : decode cX6_back 37 = .ok (.iconst 0, 1) := by decide +kernel
theorem dX6_back_38 : decode cX6_back 38 = .ok (.putfield 88, 3) := by decide +kernel
theorem dX6_back_41 : decode cX6_back 41 = .ok (.aload_n 0, 1) := by decide +kernel
theorem dX6_back_42 : decode cX6_back 42 = .ok (.iconst 0, 1) := by decide +kernel
theorem dX6_back_43 : decode cX6_back 43 = .ok (.putfield 91, 3) := by decide +kernel
theorem dX6_back_46 : decode cX6_back 46 = .ok (.aload_n 0, 1) := by decide +kernel
theorem dX6_back_47 : decode cX6_back 47 = .ok (.getfield 94, 3) := by decide +kernel
theorem dX6_back_50 : decode cX6_back 50 = .ok (.ireturn, 1) := by decide +kernel
theorem dX6_count_0 : decode cX6_count 0 = .ok (.iload_n 1, 1) := by decide +kernel
theorem dX6_count_1 : decode cX6_count 1 = .ok (.tableswitch 101 0 7 #[47, 55, 64, 73, 81, 86, 91, 96], 47) := by decide +kernel
theorem dX6_count_48 : decode cX6_count 48 = .ok (.aload_n 0, 1) := by decide +kernel
theorem dX6_count_49 : decode cX6_count 49 = .ok (.getfield 27, 3) := by decide +kernel
theorem dX6_count_52 : decode cX6_count 52 = .ok (.getfield 81, 3) := by decide +kernel
theorem dX6_count_55 : decode cX6_count 55 = .ok (.ireturn, 1) := by decide +kernel
theorem dX6_count_56 : decode cX6_count 56 = .ok (.aload_n 0, 1) := by decide +kernel
theorem dX6_count_57 : decode cX6_count 57 = .ok (.getfield 27, 3) := by decide +kernel
theorem dX6_count_60 : decode cX6_count 60 = .ok (.iconst 0, 1) := by decide +kernel
theorem dX6_count_61 : decode cX6_count 61 = .ok (.invokevirtual 251, 3) := by decide +kernel
theorem dX6_count_64 : decode cX6_count 64 = .ok (.ireturn, 1) := by decide +kernel
theorem dX6_count_65 : decode cX6_count 65 = .ok (.aload_n 0, 1) := by decide +kernel
theorem dX6_count_66 : decode cX6_count 66 = .ok (.getfield 27, 3) := by decide +kernel
theorem dX6_count_69 : decode cX6_count 69 = .ok (.iconst 1, 1) := by decide +kernel
theorem dX6_count_70 : decode cX6_count 70 = .ok (.invokevirtual 251, 3) := by decide +kernel
theorem dX6_count_73 : decode cX6_count 73 = .ok (.ireturn, 1) := by decide +kernel
theorem dX6_count_74 : decode cX6_count 74 = .ok (.aload_n 0, 1) := by decide +kernel
theorem dX6_count_75 : decode cX6_count 75 = .ok (.getfield 27, 3) := by decide +kernel
theorem dX6_count_78 : decode cX6_count 78 = .ok (.getfield 129, 3) := by decide +kernel
theorem dX6_count_81 : decode cX6_count 81 = .ok (.ireturn, 1) := by decide +kernel
theorem dX6_count_82 : decode cX6_count 82 = .ok (.aload_n 0, 1) := by decide +kernel
theorem dX6_count_83 : decode cX6_count 83 = .ok (.getfield 88, 3) := by decide +kernel
theorem dX6_count_86 : decode cX6_count 86 = .ok (.ireturn, 1) := by decide +kernel
theorem dX6_count_87 : decode cX6_count 87 = .ok (.aload_n 0, 1) := by decide +kernel
theorem dX6_count_88 : decode cX6_count 88 = .ok (.getfield 91, 3) := by decide +kernel
theorem dX6_count_91 : decode cX6_count 91 = .ok (.ireturn, 1) := by decide +kernel
theorem dX6_count_92 : decode cX6_count 92 = .ok (.aload_n 0, 1) := by decide +kernel
theorem dX6_count_93 : decode cX6_count 93 = .ok (.getfield 94, 3) := by decide +kernel
theorem dX6_count_96 : decode cX6_count 96 = .ok (.ireturn, 1) := by decide +kernel
theorem dX6_count_97 : decode cX6_count 97 = .ok (.aload_n 0, 1) := by decide +kernel
theorem dX6_count_98 : decode cX6_count 98 = .ok (.getfield 73, 3) := by decide +kernel
theorem dX6_count_101 : decode cX6_count 101 = .ok (.ireturn, 1) := by decide +kernel
theorem dX6_count_102 : decode cX6_count 102 = .ok (.iconst (-1), 1) := by decide +kernel
theorem dX6_count_103 : decode cX6_count 103 = .ok (.ireturn, 1) := by decide +kernel
theorem dX6_drawnKind_0 : decode cX6_drawnKind 0 = .ok (.ldc2_w 254, 3) := by decide +kernel
theorem dX6_drawnKind_3 : decode cX6_drawnKind 3 = .ok (.iload_n 0, 1) := by decide +kernel
theorem dX6_drawnKind_4 : decode cX6_drawnKind 4 = .ok (.i2l, 1) := by decide +kernel
theorem dX6_drawnKind_5 : decode cX6_drawnKind 5 = .ok (.lmul, 1) := by decide +kernel
theorem dX6_drawnKind_6 : decode cX6_drawnKind 6 = .ok (.ldc2_w 256, 3) := by decide +kernel
theorem dX6_drawnKind_9 : decode cX6_drawnKind 9 = .ok (.iload_n 1, 1) := by decide +kernel
theorem dX6_drawnKind_10 : decode cX6_drawnKind 10 = .ok (.i2l, 1) := by decide +kernel
theorem dX6_drawnKind_11 : decode cX6_drawnKind 11 = .ok (.lmul, 1) := by decide +kernel
theorem dX6_drawnKind_12 : decode cX6_drawnKind 12 = .ok (.ladd, 1) := by decide +kernel
theorem dX6_drawnKind_13 : decode cX6_drawnKind 13 = .ok (.lconst 1, 1) := by decide +kernel
theorem dX6_drawnKind_14 : decode cX6_drawnKind 14 = .ok (.ladd, 1) := by decide +kernel
theorem dX6_drawnKind_15 : decode cX6_drawnKind 15 = .ok (.lstore_n 2, 1) := by decide +kernel
theorem dX6_drawnKind_16 : decode cX6_drawnKind 16 = .ok (.lload_n 2, 1) := by decide +kernel
theorem dX6_drawnKind_17 : decode cX6_drawnKind 17 = .ok (.lload_n 2, 1) := by decide +kernel
theorem dX6_drawnKind_18 : decode cX6_drawnKind 18 = .ok (.lmul, 1) := by decide +kernel
theorem dX6_drawnKind_19 : decode cX6_drawnKind 19 = .ok (.ldc2_w 258, 3) := by decide +kernel
theorem dX6_drawnKind_22 : decode cX6_drawnKind 22 = .ok (.lrem, 1) := by decide +kernel
theorem dX6_drawnKind_23 : decode cX6_drawnKind 23 = .ok (.ldc2_w 260, 3) := by decide +kernel
theorem dX6_drawnKind_26 : decode cX6_drawnKind 26 = .ok (.lrem, 1) := by decide +kernel
theorem dX6_drawnKind_27 : decode cX6_drawnKind 27 = .ok (.l2i, 1) := by decide +kernel
theorem dX6_drawnKind_28 : decode cX6_drawnKind 28 = .ok (.ireturn, 1) := by decide +kernel
theorem dX6_isKind_0 : decode cX6_isKind 0 = .ok (.iload_n 0, 1) := by decide +kernel
theorem dX6_isKind_1 : decode cX6_isKind 1 = .ok (.ifCond .lt 12, 3) := by decide +kernel
theorem dX6_isKind_4 : decode cX6_isKind 4 = .ok (.iload_n 0, 1) := by decide +kernel
theorem dX6_isKind_5 : decode cX6_isKind 5 = .ok (.iconst 5, 1) := by decide +kernel
theorem dX6_isKind_6 : decode cX6_isKind 6 = .ok (.if_icmp .ge 7, 3) := by decide +kernel
theorem dX6_isKind_9 : decode cX6_isKind 9 = .ok (.iconst 1, 1) := by decide +kernel
theorem dX6_isKind_10 : decode cX6_isKind 10 = .ok (.goto 4, 3) := by decide +kernel
theorem dX6_isKind_13 : decode cX6_isKind 13 = .ok (.iconst 0, 1) := by decide +kernel
theorem dX6_isKind_14 : decode cX6_isKind 14 = .ok (.ireturn, 1) := by decide +kernel
theorem dX6_isOwner_0 : decode cX6_isOwner 0 = .ok (.iload_n 0, 1) := by decide +kernel
theorem dX6_isOwner_1 : decode cX6_isOwner 1 = .ok (.ifCond .lt 12, 3) := by decide +kernel
theorem dX6_isOwner_4 : decode cX6_isOwner 4 = .ok (.iload_n 0, 1) := by decide +kernel
theorem dX6_isOwner_5 : decode cX6_isOwner 5 = .ok (.iconst 5, 1) := by decide +kernel
theorem dX6_isOwner_6 : decode cX6_isOwner 6 = .ok (.if_icmp .ge 7, 3) := by decide +kernel
theorem dX6_isOwner_9 : decode cX6_isOwner 9 = .ok (.iconst 1, 1) := by decide +kernel
theorem dX6_isOwner_10 : decode cX6_isOwner 10 = .ok (.goto 4, 3) := by decide +kernel
theorem dX6_isOwner_13 : decode cX6_isOwner 13 = .ok (.iconst 0, 1) := by decide +kernel
theorem dX6_isOwner_14 : decode cX6_isOwner 14 = .ok (.ireturn, 1) := by decide +kernel
theorem dX6_fits_0 : decode cX6_fits 0 = .ok (.iload_n 0, 1) := by decide +kernel
theorem dX6_fits_1 : decode cX6_fits 1 = .ok (.iload_n 1, 1) := by decide +kernel
theorem dX6_fits_2 : decode cX6_fits 2 = .ok (.if_icmp .eq 12, 3) := by decide +kernel
theorem dX6_fits_5 : decode cX6_fits 5 = .ok (.iload_n 0, 1) := by decide +kernel
theorem dX6_fits_6 : decode cX6_fits 6 = .ok (.iload_n 2, 1) := by decide +kernel
theorem dX6_fits_7 : decode cX6_fits 7 = .ok (.if_icmp .eq 7, 3) := by decide +kernel
theorem dX6_fits_10 : decode cX6_fits 10 = .ok (.iconst 1, 1) := by decide +kernel
theorem dX6_fits_11 : decode cX6_fits 11 = .ok (.goto 4, 3) := by decide +kernel
theorem dX6_fits_14 : decode cX6_fits 14 = .ok (.iconst 0, 1) := by decide +kernel
theorem dX6_fits_15 : decode cX6_fits 15 = .ok (.ireturn, 1) := by decide +kernel
theorem dX6_heldBefore_0 : decode cX6_heldBefore 0 = .ok (.iload_n 0, 1) := by decide +kernel
theorem dX6_heldBefore_1 : decode cX6_heldBefore 1 = .ok (.iconst 1, 1) := by decide +kernel
theorem dX6_heldBefore_2 : decode cX6_heldBefore 2 = .ok (.if_icmp .ne 7, 3) := by decide +kernel
theorem dX6_heldBefore_5 : decode cX6_heldBefore 5 = .ok (.iload_n 1, 1) := by decide +kernel
theorem dX6_heldBefore_6 : decode cX6_heldBefore 6 = .ok (.goto 4, 3) := by decide +kernel
theorem dX6_heldBefore_9 : decode cX6_heldBefore 9 = .ok (.iconst 5, 1) := by decide +kernel
theorem dX6_heldBefore_10 : decode cX6_heldBefore 10 = .ok (.ireturn, 1) := by decide +kernel
theorem dX6_firstBefore_0 : decode cX6_firstBefore 0 = .ok (.iload_n 0, 1) := by decide +kernel
theorem dX6_firstBefore_1 : decode cX6_firstBefore 1 = .ok (.iconst 1, 1) := by decide +kernel
theorem dX6_firstBefore_2 : decode cX6_firstBefore 2 = .ok (.if_icmp .ne 7, 3) := by decide +kernel
theorem dX6_firstBefore_5 : decode cX6_firstBefore 5 = .ok (.iconst 0, 1) := by decide +kernel
theorem dX6_firstBefore_6 : decode cX6_firstBefore 6 = .ok (.goto 4, 3) := by decide +kernel
theorem dX6_firstBefore_9 : decode cX6_firstBefore 9 = .ok (.iconst 5, 1) := by decide +kernel
theorem dX6_firstBefore_10 : decode cX6_firstBefore 10 = .ok (.ireturn, 1) := by decide +kernel
theorem dX6_memoryOf_0 : decode cX6_memoryOf 0 = .ok (.iload_n 0, 1) := by decide +kernel
theorem dX6_memoryOf_1 : decode cX6_memoryOf 1 = .ok (.bipush 6, 2) := by decide +kernel
theorem dX6_memoryOf_3 : decode cX6_memoryOf 3 = .ok (.imul, 1) := by decide +kernel
theorem dX6_memoryOf_4 : decode cX6_memoryOf 4 = .ok (.iload_n 1, 1) := by decide +kernel
theorem dX6_memoryOf_5 : decode cX6_memoryOf 5 = .ok (.iadd, 1) := by decide +kernel
theorem dX6_memoryOf_6 : decode cX6_memoryOf 6 = .ok (.ireturn, 1) := by decide +kernel
theorem dX6_roomFor_0 : decode cX6_roomFor 0 = .ok (.aload_n 0, 1) := by decide +kernel
theorem dX6_roomFor_1 : decode cX6_roomFor 1 = .ok (.arraylength, 1) := by decide +kernel
theorem dX6_roomFor_2 : decode cX6_roomFor 2 = .ok (.iload_n 1, 1) := by decide +kernel
theorem dX6_roomFor_3 : decode cX6_roomFor 3 = .ok (.if_icmp .lt 7, 3) := by decide +kernel
theorem dX6_roomFor_6 : decode cX6_roomFor 6 = .ok (.aload_n 0, 1) := by decide +kernel
theorem dX6_roomFor_7 : decode cX6_roomFor 7 = .ok (.goto 13, 3) := by decide +kernel
theorem dX6_roomFor_10 : decode cX6_roomFor 10 = .ok (.iload_n 1, 1) := by decide +kernel
theorem dX6_roomFor_11 : decode cX6_roomFor 11 = .ok (.iconst 2, 1) := by decide +kernel
theorem dX6_roomFor_12 : decode cX6_roomFor 12 = .ok (.aload_n 0, 1) := by decide +kernel
theorem dX6_roomFor_13 : decode cX6_roomFor 13 = .ok (.arraylength, 1) := by decide +kernel
theorem dX6_roomFor_14 : decode cX6_roomFor 14 = .ok (.imul, 1) := by decide +kernel
theorem dX6_roomFor_15 : decode cX6_roomFor 15 = .ok (.invokestatic 262, 3) := by decide +kernel
theorem dX6_roomFor_18 : decode cX6_roomFor 18 = .ok (.newarray .int, 2) := by decide +kernel
theorem dX6_roomFor_20 : decode cX6_roomFor 20 = .ok (.areturn, 1) := by decide +kernel
theorem dX7_init_0 : decode cX7_init 0 = .ok (.aload_n 0, 1) := by decide +kernel
theorem dX7_init_1 : decode cX7_init 1 = .ok (.invokespecial 1, 3) := by decide +kernel
theorem dX7_init_4 : decode cX7_init 4 = .ok (.aload_n 0, 1) := by decide +kernel
theorem dX7_init_5 : decode cX7_init 5 = .ok (.sipush 300, 3) := by decide +kernel
theorem dX7_init_8 : decode cX7_init 8 = .ok (.newarray .byte, 2) := by decide +kernel
theorem dX7_init_10 : decode cX7_init 10 = .ok (.putfield 7, 3) := by decide +kernel
theorem dX7_init_13 : decode cX7_init 13 = .ok (.aload_n 0, 1) := by decide +kernel
theorem dX7_init_14 : decode cX7_init 14 = .ok (.iconst 4, 1) := by decide +kernel
theorem dX7_init_15 : decode cX7_init 15 = .ok (.newarray .int, 2) := by decide +kernel
theorem dX7_init_17 : decode cX7_init 17 = .ok (.putfield 13, 3) := by decide +kernel
theorem dX7_init_20 : decode cX7_init 20 = .ok (.aload_n 0, 1) := by decide +kernel
theorem dX7_init_21 : decode cX7_init 21 = .ok (.iconst 2, 1) := by decide +kernel
theorem dX7_init_22 : decode cX7_init 22 = .ok (.newarray .int, 2) := by decide +kernel
theorem dX7_init_24 : decode cX7_init 24 = .ok (.putfield 17, 3) := by decide +kernel
theorem dX7_init_27 : decode cX7_init 27 = .ok (.aload_n 0, 1) := by decide +kernel
theorem dX7_init_28 : decode cX7_init 28 = .ok (.bipush 32, 2) := by decide +kernel
theorem dX7_init_30 : decode cX7_init 30 = .ok (.newarray .int, 2) := by decide +kernel
theorem dX7_init_32 : decode cX7_init 32 = .ok (.putfield 20, 3) := by decide +kernel
theorem dX7_init_35 : decode cX7_init 35 = .ok (.aload_n 0, 1) := by decide +kernel
theorem dX7_init_36 : decode cX7_init 36 = .ok (.sipush 605, 3) := by decide +kernel
theorem dX7_init_39 : decode cX7_init 39 = .ok (.newarray .int, 2) := by decide +kernel
theorem dX7_init_41 : decode cX7_init 41 = .ok (.putfield 23, 3) := by decide +kernel
theorem dX7_init_44 : decode cX7_init 44 = .ok (.aload_n 0, 1) := by decide +kernel
theorem dX7_init_45 : decode cX7_init 45 = .ok (.bipush 10, 2) := by decide +kernel
theorem dX7_init_47 : decode cX7_init 47 = .ok (.newarray .int, 2) := by decide +kernel
theorem dX7_init_49 : decode cX7_init 49 = .ok (.putfield 26, 3) := by decide +kernel
theorem dX7_init_52 : decode cX7_init 52 = .ok (.aload_n 0, 1) := by decide +kernel
theorem dX7_init_53 : decode cX7_init 53 = .ok (.ldc 29, 2) := by decide +kernel
theorem dX7_init_55 : decode cX7_init 55 = .ok (.newarray .int, 2) := by decide +kernel
theorem dX7_init_57 : decode cX7_init 57 = .ok (.putfield 30, 3) := by decide +kernel
theorem dX7_init_60 : decode cX7_init 60 = .ok (.aload_n 0, 1) := by decide +kernel
theorem dX7_init_61 : decode cX7_init 61 = .ok (.sipush 1024, 3) := by decide +kernel
theorem dX7_init_64 : decode cX7_init 64 = .ok (.newarray .int, 2) := by decide +kernel
theorem dX7_init_66 : decode cX7_init 66 = .ok (.putfield 33, 3) := by decide +kernel
theorem dX7_init_69 : decode cX7_init 69 = .ok (.aload_n 0, 1) := by decide +kernel
theorem dX7_init_70 : decode cX7_init 70 = .ok (.sipush 1024, 3) := by decide +kernel
theorem dX7_init_73 : decode cX7_init 73 = .ok (.newarray .int, 2) := by decide +kernel
theorem dX7_init_75 : decode cX7_init 75 = .ok (.putfield 36, 3) := by decide +kernel
theorem dX7_init_78 : decode cX7_init 78 = .ok (.aload_n 0, 1) := by decide +kernel
theorem dX7_init_79 : decode cX7_init 79 = .ok (.bipush 10, 2) := by decide +kernel
theorem dX7_init_81 : decode cX7_init 81 = .ok (.newarray .int, 2) := by decide +kernel
theorem dX7_init_83 : decode cX7_init 83 = .ok (.putfield 39, 3) := by decide +kernel
theorem dX7_init_86 : decode cX7_init 86 = .ok (.aload_n 0, 1) := by decide +kernel
theorem dX7_init_87 : decode cX7_init 87 = .ok (.iconst 5, 1) := by decide +kernel
theorem dX7_init_88 : decode cX7_init 88 = .ok (.newarray .int, 2) := by decide +kernel
theorem dX7_init_90 : decode cX7_init 90 = .ok (.putfield 42, 3) := by decide +kernel
theorem dX7_init_93 : decode cX7_init 93 = .ok (.aload_n 0, 1) := by decide +kernel
theorem dX7_init_94 : decode cX7_init 94 = .ok (.iconst 5, 1) := by decide +kernel
theorem dX7_init_95 : decode cX7_init 95 = .ok (.newarray .int, 2) := by decide +kernel
theorem dX7_init_97 : decode cX7_init 97 = .ok (.putfield 45, 3) := by decide +kernel
theorem dX7_init_100 : decode cX7_init 100 = .ok (.aload_n 0, 1) := by decide +kernel
theorem dX7_init_101 : decode cX7_init 101 = .ok (.iconst 5, 1) := by decide +kernel
theorem dX7_init_102 : decode cX7_init 102 = .ok (.newarray .int, 2) := by decide +kernel
theorem dX7_init_104 : decode cX7_init 104 = .ok (.putfield 48, 3) := by decide +kernel
theorem dX7_init_107 : decode cX7_init 107 = .ok (.aload_n 0, 1) := by decide +kernel
theorem dX7_init_108 : decode cX7_init 108 = .ok (.iconst 5, 1) := by decide +kernel
theorem dX7_init_109 : decode cX7_init 109 = .ok (.newarray .int, 2) := by decide +kernel
theorem dX7_init_111 : decode cX7_init 111 = .ok (.putfield 51, 3) := by decide +kernel
theorem dX7_init_114 : decode cX7_init 114 = .ok (.aload_n 0, 1) := by decide +kernel
theorem dX7_init_115 : decode cX7_init 115 = .ok (.iconst 4, 1) := by decide +kernel
theorem dX7_init_116 : decode cX7_init 116 = .ok (.newarray .int, 2) := by decide +kernel
theorem dX7_init_118 : decode cX7_init 118 = .ok (.putfield 54, 3) := by decide +kernel
theorem dX7_init_121 : decode cX7_init 121 = .ok (.aload_n 0, 1) := by decide +kernel
theorem dX7_init_122 : decode cX7_init 122 = .ok (.sipush 14400, 3) := by decide +kernel
theorem dX7_init_125 : decode cX7_init 125 = .ok (.newarray .long, 2) := by decide +kernel
theorem dX7_init_127 : decode cX7_init 127 = .ok (.putfield 57, 3) := by decide +kernel
theorem dX7_init_130 : decode cX7_init 130 = .ok (.aload_n 0, 1) := by decide +kernel
theorem dX7_init_131 : decode cX7_init 131 = .ok (.invokevirtual 61, 3) := by decide +kernel
theorem dX7_init_134 : decode cX7_init 134 = .ok (.aload_n 0, 1) := by decide +kernel
theorem dX7_init_135 : decode cX7_init 135 = .ok (.getfield 17, 3) := by decide +kernel
theorem dX7_init_138 : decode cX7_init 138 = .ok (.iconst 1, 1) := by decide +kernel
theorem dX7_init_139 : decode cX7_init 139 = .ok (.iconst 3, 1) := by decide +kernel
theorem dX7_init_140 : decode cX7_init 140 = .ok (.iastore, 1) := by decide +kernel
theorem dX7_init_141 : decode cX7_init 141 = .ok (.aload_n 0, 1) := by decide +kernel
theorem dX7_init_142 : decode cX7_init 142 = .ok (.getfield 20, 3) := by decide +kernel
theorem dX7_init_145 : decode cX7_init 145 = .ok (.iconst 1, 1) := by decide +kernel
theorem dX7_init_146 : decode cX7_init 146 = .ok (.iconst 2, 1) := by decide +kernel
theorem dX7_init_147 : decode cX7_init 147 = .ok (.iastore, 1) := by decide +kernel
theorem dX7_init_148 : decode cX7_init 148 = .ok (.aload_n 0, 1) := by decide +kernel
theorem dX7_init_149 : decode cX7_init 149 = .ok (.getfield 20, 3) := by decide +kernel
theorem dX7_init_152 : decode cX7_init 152 = .ok (.iconst 4, 1) := by decide +kernel
theorem dX7_init_153 : decode cX7_init 153 = .ok (.iconst 1, 1) := by decide +kernel
theorem dX7_init_154 : decode cX7_init 154 = .ok (.iastore, 1) := by decide +kernel
theorem dX7_init_155 : decode cX7_init 155 = .ok (.aload_n 0, 1) := by decide +kernel
theorem dX7_init_156 : decode cX7_init 156 = .ok (.getfield 20, 3) := by decide +kernel
theorem dX7_init_159 : decode cX7_init 159 = .ok (.iconst 5, 1) := by decide +kernel
theorem dX7_init_160 : decode cX7_init 160 = .ok (.iconst 3, 1) := by decide +kernel
theorem dX7_init_161 : decode cX7_init 161 = .ok (.iastore, 1) := by decide +kernel
theorem dX7_init_162 : decode cX7_init 162 = .ok (.aload_n 0, 1) := by decide +kernel
theorem dX7_init_163 : decode cX7_init 163 = .ok (.getfield 20, 3) := by decide +kernel
theorem dX7_init_166 : decode cX7_init 166 = .ok (.bipush 6, 2) := by decide +kernel
theorem dX7_init_168 : decode cX7_init 168 = .ok (.iconst 1, 1) := by decide +kernel
theorem dX7_init_169 : decode cX7_init 169 = .ok (.iastore, 1) := by decide +kernel
theorem dX7_init_170 : decode cX7_init 170 = .ok (.aload_n 0, 1) := by decide +kernel
theorem dX7_init_171 : decode cX7_init 171 = .ok (.getfield 20, 3) := by decide +kernel
theorem dX7_init_174 : decode cX7_init 174 = .ok (.bipush 9, 2) := by decide +kernel
theorem dX7_init_176 : decode cX7_init 176 = .ok (.iconst 1, 1) := by decide +kernel
theorem dX7_init_177 : decode cX7_init 177 = .ok (.iastore, 1) := by decide +kernel
theorem dX7_init_178 : decode cX7_init 178 = .ok (.aload_n 0, 1) := by decide +kernel
theorem dX7_init_179 : decode cX7_init 179 = .ok (.getfield 20, 3) := by decide +kernel
theorem dX7_init_182 : decode cX7_init 182 = .ok (.bipush 11, 2) := by decide +kernel
theorem dX7_init_184 : decode cX7_init 184 = .ok (.iconst 5, 1) := by decide +kernel
theorem dX7_init_185 : decode cX7_init 185 = .ok (.iastore, 1) := by decide +kernel
theorem dX7_init_186 : decode cX7_init 186 = .ok (.aload_n 0, 1) := by decide +kernel
theorem dX7_init_187 : decode cX7_init 187 = .ok (.invokevirtual 64, 3) := by decide +kernel
theorem dX7_init_190 : decode cX7_init 190 = .ok (.return_, 1) := by decide +kernel
theorem dX7_in_0 : decode cX7_in 0 = .ok (.lload_n 0, 1) := by decide +kernel
theorem dX7_in_1 : decode cX7_in 1 = .ok (.lload_n 2, 1) := by decide +kernel
theorem dX7_in_2 : decode cX7_in 2 = .ok (.lcmp, 1) := by decide +kernel
theorem dX7_in_3 : decode cX7_in 3 = .ok (.ifCond .lt 14, 3) := by decide +kernel
theorem dX7_in_6 : decode cX7_in 6 = .ok (.lload_n 0, 1) := by decide +kernel
theorem dX7_in_7 : decode cX7_in 7 = .ok (.lload 4, 2) := by decide +kernel
theorem dX7_in_9 : decode cX7_in 9 = .ok (.lcmp, 1) := by decide +kernel
theorem dX7_in_10 : decode cX7_in 10 = .ok (.ifCond .gt 7, 3) := by decide +kernel
theorem dX7_in_13 : decode cX7_in 13 = .ok (.iconst 1, 1) := by decide +kernel
theorem dX7_in_14 : decode cX7_in 14 = .ok (.goto 4, 3) := by decide +kernel
theorem dX7_in_17 : decode cX7_in 17 = .ok (.iconst 0, 1) := by decide +kernel
theorem dX7_in_18 : decode cX7_in 18 = .ok (.ireturn, 1) := by decide +kernel
theorem dX7_write_0 : decode cX7_write 0 = .ok (.iload_n 1, 1) := by decide +kernel
theorem dX7_write_1 : decode cX7_write 1 = .ok (.i2l, 1) := by decide +kernel
theorem dX7_write_2 : decode cX7_write 2 = .ok (.lconst 1, 1) := by decide +kernel
theorem dX7_write_3 : decode cX7_write 3 = .ok (.ldc2_w 67, 3) := by decide +kernel
theorem dX7_write_6 : decode cX7_write 6 = .ok (.invokestatic 69, 3) := by decide +kernel
theorem dX7_write_9 : decode cX7_write 9 = .ok (.ifCond .ne 5, 3) := by decide +kernel
theorem dX7_write_12 : decode cX7_write 12 = .ok (.iconst (-1), 1) := by decide +kernel
theorem dX7_write_13 : decode cX7_write 13 = .ok (.ireturn, 1) := by decide +kernel
theorem dX7_write_14 : decode cX7_write 14 = .ok (.aload_n 0, 1) := by decide +kernel
theorem dX7_write_15 : decode cX7_write 15 = .ok (.getfield 73, 3) := by decide +kernel
theorem dX7_write_18 : decode cX7_write 18 = .ok (.iload_n 1, 1) := by decide +kernel
theorem dX7_write_19 : decode cX7_write 19 = .ok (.iadd, 1) := by decide +kernel
theorem dX7_write_20 : decode cX7_write 20 = .ok (.sipush 300, 3) := by decide +kernel
theorem dX7_write_23 : decode cX7_write 23 = .ok (.if_icmp .le 6, 3) := by decide +kernel
theorem dX7_write_26 : decode cX7_write 26 = .ok (.bipush (-3), 2) := by decide +kernel
theorem dX7_write_28 : decode cX7_write 28 = .ok (.ireturn, 1) := by decide +kernel
theorem dX7_write_29 : decode cX7_write 29 = .ok (.iload_n 1, 1) := by decide +kernel
theorem dX7_write_30 : decode cX7_write 30 = .ok (.iconst 1, 1) := by decide +kernel
theorem dX7_write_31 : decode cX7_write 31 = .ok (.isub, 1) := by decide +kernel
theorem dX7_write_32 : decode cX7_write 32 = .ok (.istore 4, 2) := by decide +kernel
theorem dX7_write_34 : decode cX7_write 34 = .ok (.iload 4, 2) := by decide +kernel
theorem dX7_write_36 : decode cX7_write 36 = .ok (.ifCond .lt 37, 3) := by decide +kernel
theorem dX7_write_39 : decode cX7_write 39 = .ok (.aload_n 0, 1) := by decide +kernel
theorem dX7_write_40 : decode cX7_write 40 = .ok (.getfield 7, 3) := by decide +kernel
theorem dX7_write_43 : decode cX7_write 43 = .ok (.aload_n 0, 1) := by decide +kernel
theorem dX7_write_44 : decode cX7_write 44 = .ok (.getfield 73, 3) := by decide +kernel
theorem dX7_write_47 : decode cX7_write 47 = .ok (.lload_n 2, 1) := by decide +kernel
theorem dX7_write_48 : decode cX7_write 48 = .ok (.bipush 8, 2) := by decide +kernel
theorem dX7_write_50 : decode cX7_write 50 = .ok (.iload 4, 2) := by decide +kernel
theorem dX7_write_52 : decode cX7_write 52 = .ok (.imul, 1) := by decide +kernel
theorem dX7_write_53 : decode cX7_write 53 = .ok (.lshr, 1) := by decide +kernel
theorem dX7_write_54 : decode cX7_write 54 = .ok (.l2i, 1) := by decide +kernel
theorem dX7_write_55 : decode cX7_write 55 = .ok (.i2b, 1) := by decide +kernel
theorem dX7_write_56 : decode cX7_write 56 = .ok (.bastore, 1) := by decide +kernel
theorem dX7_write_57 : decode cX7_write 57 = .ok (.aload_n 0, 1) := by decide +kernel
theorem dX7_write_58 : decode cX7_write 58 = .ok (.dup, 1) := by decide +kernel
theorem dX7_write_59 : decode cX7_write 59 = .ok (.getfield 73, 3) := by decide +kernel
theorem dX7_write_62 : decode cX7_write 62 = .ok (.iconst 1, 1) := by decide +kernel
theorem dX7_write_63 : decode cX7_write 63 = .ok (.iadd, 1) := by decide +kernel
theorem dX7_write_64 : decode cX7_write 64 = .ok (.putfield 73, 3) := by decide +kernel
theorem dX7_write_67 : decode cX7_write 67 = .ok (.iinc 4 (-1), 3) := by decide +kernel
theorem dX7_write_70 : decode cX7_write 70 = .ok (.goto (-36), 3) := by decide +kernel
theorem dX7_write_73 : decode cX7_write 73 = .ok (.aload_n 0, 1) := by decide +kernel
theorem dX7_write_74 : decode cX7_write 74 = .ok (.getfield 73, 3) := by decide +kernel
theorem dX7_write_77 : decode cX7_write 77 = .ok (.ireturn, 1) := by decide +kernel
theorem dX7_wipe_0 : decode cX7_wipe 0 = .ok (.aload_n 0, 1) := by decide +kernel
theorem dX7_wipe_1 : decode cX7_wipe 1 = .ok (.getfield 73, 3) := by decide +kernel
theorem dX7_wipe_4 : decode cX7_wipe 4 = .ok (.istore_n 1, 1) := by decide +kernel
theorem dX7_wipe_5 : decode cX7_wipe 5 = .ok (.aload_n 0, 1) := by decide +kernel
theorem dX7_wipe_6 : decode cX7_wipe 6 = .ok (.iconst 0, 1) := by decide +kernel
theorem dX7_wipe_7 : decode cX7_wipe 7 = .ok (.putfield 73, 3) := by decide +kernel
theorem dX7_wipe_10 : decode cX7_wipe 10 = .ok (.iload_n 1, 1) := by decide +kernel
theorem dX7_wipe_11 : decode cX7_wipe 11 = .ok (.ireturn, 1) := by decide +kernel
theorem dX7_number_0 : decode cX7_number 0 = .ok (.iconst 0, 1) := by decide +kernel
theorem dX7_number_1 : decode cX7_number 1 = .ok (.istore_n 1, 1) := by decide +kernel
theorem dX7_number_2 : decode cX7_number 2 = .ok (.iconst 0, 1) := by decide +kernel
theorem dX7_number_3 : decode cX7_number 3 = .ok (.istore_n 2, 1) := by decide +kernel
theorem dX7_number_4 : decode cX7_number 4 = .ok (.aload_n 0, 1) := by decide +kernel
theorem dX7_number_5 : decode cX7_number 5 = .ok (.getfield 77, 3) := by decide +kernel
theorem dX7_number_8 : decode cX7_number 8 = .ok (.aload_n 0, 1) := by decide +kernel
theorem dX7_number_9 : decode cX7_number 9 = .ok (.getfield 73, 3) := by decide +kernel
theorem dX7_number_12 : decode cX7_number 12 = .ok (.if_icmp .ge 68, 3) := by decide +kernel
theorem dX7_number_15 : decode cX7_number 15 = .ok (.aload_n 0, 1) := by decide +kernel
theorem dX7_number_16 : decode cX7_number 16 = .ok (.getfield 7, 3) := by decide +kernel
theorem dX7_number_19 : decode cX7_number 19 = .ok (.aload_n 0, 1) := by decide +kernel
theorem dX7_number_20 : decode cX7_number 20 = .ok (.getfield 77, 3) := by decide +kernel
theorem dX7_number_23 : decode cX7_number 23 = .ok (.baload, 1) := by decide +kernel
theorem dX7_number_24 : decode cX7_number 24 = .ok (.i2l, 1) := by decide +kernel
theorem dX7_number_25 : decode cX7_number 25 = .ok (.ldc2_w 80, 3) := by decide +kernel
theorem dX7_number_28 : decode cX7_number 28 = .ok (.ldc2_w 82, 3) := by decide +kernel
theorem dX7_number_31 : decode cX7_number 31 = .ok (.invokestatic 69, 3) := by decide +kernel
theorem dX7_number_34 : decode cX7_number 34 = .ok (.ifCond .eq 46, 3) := by decide +kernel
theorem dX7_number_37 : decode cX7_number 37 = .ok (.iload_n 2, 1) := by decide +kernel
theorem dX7_number_38 : decode cX7_number 38 = .ok (.iconst 2, 1) := by decide +kernel
theorem dX7_number_39 : decode cX7_number 39 = .ok (.if_icmp .ge 23, 3) := by decide +kernel
theorem dX7_number_42 : decode cX7_number 42 = .ok (.bipush 10, 2) := by decide +kernel
theorem dX7_number_44 : decode cX7_number 44 = .ok (.iload_n 1, 1) := by decide +kernel
theorem dX7_number_45 : decode cX7_number 45 = .ok (.imul, 1) := by decide +kernel
theorem dX7_number_46 : decode cX7_number 46 = .ok (.aload_n 0, 1) := by decide +kernel
theorem dX7_number_47 : decode cX7_number 47 = .ok (.getfield 7, 3) := by decide +kernel
theorem dX7_number_50 : decode cX7_number 50 = .ok (.aload_n 0, 1) := by decide +kernel
theorem dX7_number_51 : decode cX7_number 51 = .ok (.getfield 77, 3) := by decide +kernel
theorem dX7_number_54 : decode cX7_number 54 = .ok (.baload, 1) := by decide +kernel
theorem dX7_number_55 : decode cX7_number 55 = .ok (.iadd, 1) := by decide +kernel
theorem dX7_number_56 : decode cX7_number 56 = .ok (.bipush 48, 2) := by decide +kernel
theorem dX7_number_58 : decode cX7_number 58 = .ok (.isub, 1) := by decide +kernel
theorem dX7_number_59 : decode cX7_number 59 = .ok (.goto 4, 3) := by decide +kernel
theorem dX7_number_62 : decode cX7_number 62 = .ok (.iload_n 1, 1) := by decide +kernel
theorem dX7_number_63 : decode cX7_number 63 = .ok (.istore_n 1, 1) := by decide +kernel
theorem dX7_number_64 : decode cX7_number 64 = .ok (.iinc 2 1, 3) := by decide +kernel
theorem dX7_number_67 : decode cX7_number 67 = .ok (.aload_n 0, 1) := by decide +kernel
theorem dX7_number_68 : decode cX7_number 68 = .ok (.dup, 1) := by decide +kernel
theorem dX7_number_69 : decode cX7_number 69 = .ok (.getfield 77, 3) := by decide +kernel
theorem dX7_number_72 : decode cX7_number 72 = .ok (.iconst 1, 1) := by decide +kernel
theorem dX7_number_73 : decode cX7_number 73 = .ok (.iadd, 1) := by decide +kernel
theorem dX7_number_74 : decode cX7_number 74 = .ok (.putfield 77, 3) := by decide +kernel
theorem dX7_number_77 : decode cX7_number 77 = .ok (.goto (-73), 3) := by decide +kernel
theorem dX7_number_80 : decode cX7_number 80 = .ok (.iload_n 2, 1) := by decide +kernel
theorem dX7_number_81 : decode cX7_number 81 = .ok (.i2l, 1) := by decide +kernel
theorem dX7_number_82 : decode cX7_number 82 = .ok (.lconst 1, 1) := by decide +kernel
theorem dX7_number_83 : decode cX7_number 83 = .ok (.ldc2_w 84, 3) := by decide +kernel
theorem dX7_number_86 : decode cX7_number 86 = .ok (.invokestatic 69, 3) := by decide +kernel
theorem dX7_number_89 : decode cX7_number 89 = .ok (.ifCond .eq 7, 3) := by decide +kernel
theorem dX7_number_92 : decode cX7_number 92 = .ok (.iload_n 1, 1) := by decide +kernel
theorem dX7_number_93 : decode cX7_number 93 = .ok (.goto 4, 3) := by decide +kernel
theorem dX7_number_96 : decode cX7_number 96 = .ok (.iconst (-1), 1) := by decide +kernel
theorem dX7_number_97 : decode cX7_number 97 = .ok (.ireturn, 1) := by decide +kernel
theorem dX7_isItem_0 : decode cX7_isItem 0 = .ok (.aload_n 0, 1) := by decide +kernel
theorem dX7_isItem_1 : decode cX7_isItem 1 = .ok (.getfield 7, 3) := by decide +kernel
theorem dX7_isItem_4 : decode cX7_isItem 4 = .ok (.aload_n 0, 1) := by decide +kernel
theorem dX7_isItem_5 : decode cX7_isItem 5 = .ok (.getfield 77, 3) := by decide +kernel
theorem dX7_isItem_8 : decode cX7_isItem 8 = .ok (.baload, 1) := by decide +kernel
theorem dX7_isItem_9 : decode cX7_isItem 9 = .ok (.istore_n 1, 1) := by decide +kernel
theorem dX7_isItem_10 : decode cX7_isItem 10 = .ok (.aload_n 0, 1) := by decide +kernel
theorem dX7_isItem_11 : decode cX7_isItem 11 = .ok (.dup, 1) := by decide +kernel
theorem dX7_isItem_12 : decode cX7_isItem 12 = .ok (.getfield 77, 3) := by decide +kernel
theorem dX7_isItem_15 : decode cX7_isItem 15 = .ok (.iconst 1, 1) := by decide +kernel
theorem dX7_isItem_16 : decode cX7_isItem 16 = .ok (.iadd, 1) := by decide +kernel
theorem dX7_isItem_17 : decode cX7_isItem 17 = .ok (.putfield 77, 3) := by decide +kernel
theorem dX7_isItem_20 : decode cX7_isItem 20 = .ok (.iload_n 1, 1) := by decide +kernel
theorem dX7_isItem_21 : decode cX7_isItem 21 = .ok (.bipush 115, 2) := by decide +kernel
theorem dX7_isItem_23 : decode cX7_isItem 23 = .ok (.if_icmp .ne 7, 3) := by decide +kernel
theorem dX7_isItem_26 : decode cX7_isItem 26 = .ok (.iconst 4, 1) := by decide +kernel
theorem dX7_isItem_27 : decode cX7_isItem 27 = .ok (.goto 20, 3) := by decide +kernel
theorem dX7_isItem_30 : decode cX7_isItem 30 = .ok (.iload_n 1, 1) := by decide +kernel
theorem dX7_isItem_31 : decode cX7_isItem 31 = .ok (.bipush 108, 2) := by decide +kernel
theorem dX7_isItem_33 : decode cX7_isItem 33 = .ok (.if_icmp .eq 9, 3) := by decide +kernel
theorem dX7_isItem_36 : decode cX7_isItem 36 = .ok (.iload_n 1, 1) := by decide +kernel
theorem dX7_isItem_37 : decode cX7_isItem 37 = .ok (.bipush 99, 2) := by decide +kernel
theorem dX7_isItem_39 : decode cX7_isItem 39 = .ok (.if_icmp .ne 7, 3) := by decide +kernel
theorem dX7_isItem_42 : decode cX7_isItem 42 = .ok (.iconst 1, 1) := by decide +kernel
theorem dX7_isItem_43 : decode cX7_isItem 43 = .ok (.goto 4, 3) := by decide +kernel
theorem dX7_isItem_46 : decode cX7_isItem 46 = .ok (.iconst 0, 1) := by decide +kernel
theorem dX7_isItem_47 : decode cX7_isItem 47 = .ok (.istore_n 2, 1) := by decide +kernel
theorem dX7_isItem_48 : decode cX7_isItem 48 = .ok (.iload_n 2, 1) := by decide +kernel
theorem dX7_isItem_49 : decode cX7_isItem 49 = .ok (.ifCond .le 7, 3) := by decide +kernel
theorem dX7_isItem_52 : decode cX7_isItem 52 = .ok (.iconst 1, 1) := by decide +kernel
theorem dX7_isItem_53 : decode cX7_isItem 53 = .ok (.goto 4, 3) := by decide +kernel
theorem dX7_isItem_56 : decode cX7_isItem 56 = .ok (.iconst 0, 1) := by decide +kernel
theorem dX7_isItem_57 : decode cX7_isItem 57 = .ok (.istore_n 3, 1) := by decide +kernel
theorem dX7_isItem_58 : decode cX7_isItem 58 = .ok (.iconst 0, 1) := by decide +kernel
theorem dX7_isItem_59 : decode cX7_isItem 59 = .ok (.istore 4, 2) := by decide +kernel
theorem dX7_isItem_61 : decode cX7_isItem 61 = .ok (.iload 4, 2) := by decide +kernel
theorem dX7_isItem_63 : decode cX7_isItem 63 = .ok (.iload_n 2, 1) := by decide +kernel
theorem dX7_isItem_64 : decode cX7_isItem 64 = .ok (.if_icmp .ge 103, 3) := by decide +kernel
theorem dX7_isItem_67 : decode cX7_isItem 67 = .ok (.iload_n 3, 1) := by decide +kernel
theorem dX7_isItem_68 : decode cX7_isItem 68 = .ok (.ifCond .eq 99, 3) := by decide +kernel
theorem dX7_isItem_71 : decode cX7_isItem 71 = .ok (.iload 4, 2) := by decide +kernel
theorem dX7_isItem_73 : decode cX7_isItem 73 = .ok (.ifCond .eq 28, 3) := by decide +kernel
theorem dX7_isItem_76 : decode cX7_isItem 76 = .ok (.aload_n 0, 1) := by decide +kernel
theorem dX7_isItem_77 : decode cX7_isItem 77 = .ok (.getfield 77, 3) := by decide +kernel
theorem dX7_isItem_80 : decode cX7_isItem 80 = .ok (.aload_n 0, 1) := by decide +kernel
theorem dX7_isItem_81 : decode cX7_isItem 81 = .ok (.getfield 73, 3) := by decide +kernel
theorem dX7_isItem_84 : decode cX7_isItem 84 = .ok (.if_icmp .ge 21, 3) := by decide +kernel
theorem dX7_isItem_87 : decode cX7_isItem 87 = .ok (.aload_n 0, 1) := by decide +kernel
theorem dX7_isItem_88 : decode cX7_isItem 88 = .ok (.getfield 7, 3) := by decide +kernel
theorem dX7_isItem_91 : decode cX7_isItem 91 = .ok (.aload_n 0, 1) := by decide +kernel
theorem dX7_isItem_92 : decode cX7_isItem 92 = .ok (.getfield 77, 3) := by decide +kernel
theorem dX7_isItem_95 : decode cX7_isItem 95 = .ok (.baload, 1) := by decide +kernel
theorem dX7_isItem_96 : decode cX7_isItem 96 = .ok (.bipush 44, 2) := by decide +kernel
theorem dX7_isItem_98 : decode cX7_isItem 98 = .ok (.if_icmp .ne 7, 3) := by decide +kernel
theorem dX7_isItem_101 : decode cX7_isItem 101 = .ok (.iconst 1, 1) := by decide +kernel
theorem dX7_isItem_102 : decode cX7_isItem 102 = .ok (.goto 4, 3) := by decide +kernel
theorem dX7_isItem_105 : decode cX7_isItem 105 = .ok (.iconst 0, 1) := by decide +kernel
theorem dX7_isItem_106 : decode cX7_isItem 106 = .ok (.istore_n 3, 1) := by decide +kernel
theorem dX7_isItem_107 : decode cX7_isItem 107 = .ok (.aload_n 0, 1) := by decide +kernel
theorem dX7_isItem_108 : decode cX7_isItem 108 = .ok (.dup, 1) := by decide +kernel
theorem dX7_isItem_109 : decode cX7_isItem 109 = .ok (.getfield 77, 3) := by decide +kernel
theorem dX7_isItem_112 : decode cX7_isItem 112 = .ok (.iload 4, 2) := by decide +kernel
theorem dX7_isItem_114 : decode cX7_isItem 114 = .ok (.ifCond .ne 7, 3) := by decide +kernel
theorem dX7_isItem_117 : decode cX7_isItem 117 = .ok (.iconst 0, 1) := by decide +kernel
theorem dX7_isItem_118 : decode cX7_isItem 118 = .ok (.goto 4, 3) := by decide +kernel
theorem dX7_isItem_121 : decode cX7_isItem 121 = .ok (.iconst 1, 1) := by decide +kernel
theorem dX7_isItem_122 : decode cX7_isItem 122 = .ok (.iadd, 1) := by decide +kernel
theorem dX7_isItem_123 : decode cX7_isItem 123 = .ok (.putfield 77, 3) := by decide +kernel
theorem dX7_isItem_126 : decode cX7_isItem 126 = .ok (.aload_n 0, 1) := by decide +kernel
theorem dX7_isItem_127 : decode cX7_isItem 127 = .ok (.getfield 54, 3) := by decide +kernel
theorem dX7_isItem_130 : decode cX7_isItem 130 = .ok (.iload 4, 2) := by decide +kernel
theorem dX7_isItem_132 : decode cX7_isItem 132 = .ok (.iload_n 3, 1) := by decide +kernel
theorem dX7_isItem_133 : decode cX7_isItem 133 = .ok (.ifCond .eq 10, 3) := by decide +kernel
theorem dX7_isItem_136 : decode cX7_isItem 136 = .ok (.aload_n 0, 1) := by decide +kernel
theorem dX7_isItem_137 : decode cX7_isItem 137 = .ok (.invokevirtual 86, 3) := by decide +kernel
theorem dX7_isItem_140 : decode cX7_isItem 140 = .ok (.goto 4, 3) := by decide +kernel
theorem dX7_isItem_143 : decode cX7_isItem 143 = .ok (.iconst (-1), 1) := by decide +kernel
theorem dX7_isItem_144 : decode cX7_isItem 144 = .ok (.iastore, 1) := by decide +kernel
theorem dX7_isItem_145 : decode cX7_isItem 145 = .ok (.aload_n 0, 1) := by decide +kernel
theorem dX7_isItem_146 : decode cX7_isItem 146 = .ok (.getfield 54, 3) := by decide +kernel
theorem dX7_isItem_149 : decode cX7_isItem 149 = .ok (.iload 4, 2) := by decide +kernel
theorem dX7_isItem_151 : decode cX7_isItem 151 = .ok (.iaload, 1) := by decide +kernel
theorem dX7_isItem_152 : decode cX7_isItem 152 = .ok (.ifCond .lt 7, 3) := by decide +kernel
theorem dX7_isItem_155 : decode cX7_isItem 155 = .ok (.iconst 1, 1) := by decide +kernel
theorem dX7_isItem_156 : decode cX7_isItem 156 = .ok (.goto 4, 3) := by decide +kernel
theorem dX7_isItem_159 : decode cX7_isItem 159 = .ok (.iconst 0, 1) := by decide +kernel
theorem dX7_isItem_160 : decode cX7_isItem 160 = .ok (.istore_n 3, 1) := by decide +kernel
theorem dX7_isItem_161 : decode cX7_isItem 161 = .ok (.iinc 4 1, 3) := by decide +kernel
theorem dX7_isItem_164 : decode cX7_isItem 164 = .ok (.goto (-103), 3) := by decide +kernel
theorem dX7_isItem_167 : decode cX7_isItem 167 = .ok (.iload_n 3, 1) := by decide +kernel
theorem dX7_isItem_168 : decode cX7_isItem 168 = .ok (.ifCond .eq 32, 3) := by decide +kernel
theorem dX7_isItem_171 : decode cX7_isItem 171 = .ok (.aload_n 0, 1) := by decide +kernel
theorem dX7_isItem_172 : decode cX7_isItem 172 = .ok (.getfield 77, 3) := by decide +kernel
theorem dX7_isItem_175 : decode cX7_isItem 175 = .ok (.aload_n 0, 1) := by decide +kernel
theorem dX7_isItem_176 : decode cX7_isItem 176 = .ok (.getfield 73, 3) := by decide +kernel
theorem dX7_isItem_179 : decode cX7_isItem 179 = .ok (.if_icmp .ge 21, 3) := by decide +kernel
theorem dX7_isItem_182 : decode cX7_isItem 182 = .ok (.aload_n 0, 1) := by decide +kernel
theorem dX7_isItem_183 : decode cX7_isItem 183 = .ok (.getfield 7, 3) := by decide +kernel
theorem dX7_isItem_186 : decode cX7_isItem 186 = .ok (.aload_n 0, 1) := by decide +kernel
theorem dX7_isItem_187 : decode cX7_isItem 187 = .ok (.getfield 77, 3) := by decide +kernel
theorem dX7_isItem_190 : decode cX7_isItem 190 = .ok (.baload, 1) := by decide +kernel
theorem dX7_isItem_191 : decode cX7_isItem 191 = .ok (.bipush 59, 2) := by decide +kernel
theorem dX7_isItem_193 : decode cX7_isItem 193 = .ok (.if_icmp .ne 7, 3) := by decide +kernel
theorem dX7_isItem_196 : decode cX7_isItem 196 = .ok (.iconst 1, 1) := by decide +kernel
theorem dX7_isItem_197 : decode cX7_isItem 197 = .ok (.goto 4, 3) := by decide +kernel
theorem dX7_isItem_200 : decode cX7_isItem 200 = .ok (.iconst 0, 1) := by decide +kernel
theorem dX7_isItem_201 : decode cX7_isItem 201 = .ok (.istore_n 3, 1) := by decide +kernel
theorem dX7_isItem_202 : decode cX7_isItem 202 = .ok (.aload_n 0, 1) := by decide +kernel
theorem dX7_isItem_203 : decode cX7_isItem 203 = .ok (.dup, 1) := by decide +kernel
theorem dX7_isItem_204 : decode cX7_isItem 204 = .ok (.getfield 77, 3) := by decide +kernel
theorem dX7_isItem_207 : decode cX7_isItem 207 = .ok (.iconst 1, 1) := by decide +kernel
theorem dX7_isItem_208 : decode cX7_isItem 208 = .ok (.iadd, 1) := by decide +kernel
theorem dX7_isItem_209 : decode cX7_isItem 209 = .ok (.putfield 77, 3) := by decide +kernel
theorem dX7_isItem_212 : decode cX7_isItem 212 = .ok (.iload_n 3, 1) := by decide +kernel
theorem dX7_isItem_213 : decode cX7_isItem 213 = .ok (.ifCond .eq 15, 3) := by decide +kernel
theorem dX7_isItem_216 : decode cX7_isItem 216 = .ok (.aload_n 0, 1) := by decide +kernel
theorem dX7_isItem_217 : decode cX7_isItem 217 = .ok (.iload_n 1, 1) := by decide +kernel
theorem dX7_isItem_218 : decode cX7_isItem 218 = .ok (.invokevirtual 90, 3) := by decide +kernel
theorem dX7_isItem_221 : decode cX7_isItem 221 = .ok (.ifCond .eq 7, 3) := by decide +kernel
theorem dX7_isItem_224 : decode cX7_isItem 224 = .ok (.iconst 1, 1) := by decide +kernel
theorem dX7_isItem_225 : decode cX7_isItem 225 = .ok (.goto 4, 3) := by decide +kernel
theorem dX7_isItem_228 : decode cX7_isItem 228 = .ok (.iconst 0, 1) := by decide +kernel
theorem dX7_isItem_229 : decode cX7_isItem 229 = .ok (.ireturn, 1) := by decide +kernel
theorem dX7_isGood_0 : decode cX7_isGood 0 = .ok (.iload_n 1, 1) := by decide +kernel
theorem dX7_isGood_1 : decode cX7_isGood 1 = .ok (.bipush 115, 2) := by decide +kernel
theorem dX7_isGood_3 : decode cX7_isGood 3 = .ok (.if_icmp .ne 129, 3) := by decide +kernel
theorem dX7_isGood_6 : decode cX7_isGood 6 = .ok (.aload_n 0, 1) := by decide +kernel
theorem dX7_isGood_7 : decode cX7_isGood 7 = .ok (.getfield 54, 3) := by decide +kernel
theorem dX7_isGood_10 : decode cX7_isGood 10 = .ok (.iconst 0, 1) := by decide +kernel
theorem dX7_isGood_11 : decode cX7_isGood 11 = .ok (.iaload, 1) := by decide +kernel
theorem dX7_isGood_12 : decode cX7_isGood 12 = .ok (.i2l, 1) := by decide +kernel
theorem dX7_isGood_13 : decode cX7_isGood 13 = .ok (.lconst 0, 1) := by decide +kernel
theorem dX7_isGood_14 : decode cX7_isGood 14 = .ok (.ldc2_w 94, 3) := by decide +kernel
theorem dX7_isGood_17 : decode cX7_isGood 17 = .ok (.invokestatic 69, 3) := by decide +kernel
theorem dX7_isGood_20 : decode cX7_isGood 20 = .ok (.ifCond .eq 52, 3) := by decide +kernel
theorem dX7_isGood_23 : decode cX7_isGood 23 = .ok (.aload_n 0, 1) := by decide +kernel
theorem dX7_isGood_24 : decode cX7_isGood 24 = .ok (.getfield 54, 3) := by decide +kernel
theorem dX7_isGood_27 : decode cX7_isGood 27 = .ok (.iconst 1, 1) := by decide +kernel
theorem dX7_isGood_28 : decode cX7_isGood 28 = .ok (.iaload, 1) := by decide +kernel
theorem dX7_isGood_29 : decode cX7_isGood 29 = .ok (.i2l, 1) := by decide +kernel
theorem dX7_isGood_30 : decode cX7_isGood 30 = .ok (.lconst 1, 1) := by decide +kernel
theorem dX7_isGood_31 : decode cX7_isGood 31 = .ok (.ldc2_w 96, 3) := by decide +kernel
theorem dX7_isGood_34 : decode cX7_isGood 34 = .ok (.invokestatic 69, 3) := by decide +kernel
theorem dX7_isGood_37 : decode cX7_isGood 37 = .ok (.ifCond .eq 35, 3) := by decide +kernel
theorem dX7_isGood_40 : decode cX7_isGood 40 = .ok (.aload_n 0, 1) := by decide +kernel
theorem dX7_isGood_41 : decode cX7_isGood 41 = .ok (.getfield 54, 3) := by decide +kernel
theorem dX7_isGood_44 : decode cX7_isGood 44 = .ok (.iconst 2, 1) := by decide +kernel
theorem dX7_isGood_45 : decode cX7_isGood 45 = .ok (.iaload, 1) := by decide +kernel
theorem dX7_isGood_46 : decode cX7_isGood 46 = .ok (.i2l, 1) := by decide +kernel
theorem dX7_isGood_47 : decode cX7_isGood 47 = .ok (.lconst 0, 1) := by decide +kernel
theorem dX7_isGood_48 : decode cX7_isGood 48 = .ok (.ldc2_w 94, 3) := by decide +kernel
theorem dX7_isGood_51 : decode cX7_isGood 51 = .ok (.invokestatic 69, 3) := by decide +kernel
theorem dX7_isGood_54 : decode cX7_isGood 54 = .ok (.ifCond .eq 18, 3) := by decide +kernel
theorem dX7_isGood_57 : decode cX7_isGood 57 = .ok (.aload_n 0, 1) := by decide +kernel
theorem dX7_isGood_58 : decode cX7_isGood 58 = .ok (.getfield 17, 3) := by decide +kernel
theorem dX7_isGood_61 : decode cX7_isGood 61 = .ok (.iconst 1, 1) := by decide +kernel
theorem dX7_isGood_62 : decode cX7_isGood 62 = .ok (.iaload, 1) := by decide +kernel
theorem dX7_isGood_63 : decode cX7_isGood 63 = .ok (.bipush 8, 2) := by decide +kernel
theorem dX7_isGood_65 : decode cX7_isGood 65 = .ok (.if_icmp .ge 7, 3) := by decide +kernel
theorem dX7_isGood_68 : decode cX7_isGood 68 = .ok (.iconst 1, 1) := by decide +kernel
theorem dX7_isGood_69 : decode cX7_isGood 69 = .ok (.goto 4, 3) := by decide +kernel
theorem dX7_isGood_72 : decode cX7_isGood 72 = .ok (.iconst 0, 1) := by decide +kernel
theorem dX7_isGood_73 : decode cX7_isGood 73 = .ok (.istore_n 2, 1) := by decide +kernel
theorem dX7_isGood_74 : decode cX7_isGood 74 = .ok (.iconst 0, 1) := by decide +kernel
theorem dX7_isGood_75 : decode cX7_isGood 75 = .ok (.istore_n 3, 1) := by decide +kernel
theorem dX7_isGood_76 : decode cX7_isGood 76 = .ok (.iload_n 3, 1) := by decide +kernel
theorem dX7_isGood_77 : decode cX7_isGood 77 = .ok (.iconst 4, 1) := by decide +kernel
theorem dX7_isGood_78 : decode cX7_isGood 78 = .ok (.if_icmp .ge 34, 3) := by decide +kernel
theorem dX7_isGood_81 : decode cX7_isGood 81 = .ok (.iload_n 2, 1) := by decide +kernel
theorem dX7_isGood_82 : decode cX7_isGood 82 = .ok (.ifCond .eq 30, 3) := by decide +kernel
theorem dX7_isGood_85 : decode cX7_isGood 85 = .ok (.aload_n 0, 1) := by decide +kernel
theorem dX7_isGood_86 : decode cX7_isGood 86 = .ok (.getfield 20, 3) := by decide +kernel
theorem dX7_isGood_89 : decode cX7_isGood 89 = .ok (.iconst 4, 1) := by decide +kernel
theorem dX7_isGood_90 : decode cX7_isGood 90 = .ok (.aload_n 0, 1) := by decide +kernel
theorem dX7_isGood_91 : decode cX7_isGood 91 = .ok (.getfield 17, 3) := by decide +kernel
theorem dX7_isGood_94 : decode cX7_isGood 94 = .ok (.iconst 1, 1) := by decide +kernel
theorem dX7_isGood_95 : decode cX7_isGood 95 = .ok (.iaload, 1) := by decide +kernel
theorem dX7_isGood_96 : decode cX7_isGood 96 = .ok (.imul, 1) := by decide +kernel
theorem dX7_isGood_97 : decode cX7_isGood 97 = .ok (.iload_n 3, 1) := by decide +kernel
theorem dX7_isGood_98 : decode cX7_isGood 98 = .ok (.iadd, 1) := by decide +kernel
theorem dX7_isGood_99 : decode cX7_isGood 99 = .ok (.aload_n 0, 1) := by decide +kernel
theorem dX7_isGood_100 : decode cX7_isGood 100 = .ok (.getfield 54, 3) := by decide +kernel
theorem dX7_isGood_103 : decode cX7_isGood 103 = .ok (.iload_n 3, 1) := by decide +kernel
theorem dX7_isGood_104 : decode cX7_isGood 104 = .ok (.iaload, 1) := by decide +kernel
theorem dX7_isGood_105 : decode cX7_isGood 105 = .ok (.iastore, 1) := by decide +kernel
theorem dX7_isGood_106 : decode cX7_isGood 106 = .ok (.iinc 3 1, 3) := by decide +kernel
theorem dX7_isGood_109 : decode cX7_isGood 109 = .ok (.goto (-33), 3) := by decide +kernel
theorem dX7_isGood_112 : decode cX7_isGood 112 = .ok (.aload_n 0, 1) := by decide +kernel
theorem dX7_isGood_113 : decode cX7_isGood 113 = .ok (.getfield 17, 3) := by decide +kernel
theorem dX7_isGood_116 : decode cX7_isGood 116 = .ok (.iconst 1, 1) := by decide +kernel
theorem dX7_isGood_117 : decode cX7_isGood 117 = .ok (.dup2, 1) := by decide +kernel
theorem dX7_isGood_118 : decode cX7_isGood 118 = .ok (.iaload, 1) := by decide +kernel
theorem dX7_isGood_119 : decode cX7_isGood 119 = .ok (.iload_n 2, 1) := by decide +kernel
theorem dX7_isGood_120 : decode cX7_isGood 120 = .ok (.ifCond .eq 7, 3) := by decide +kernel
theorem dX7_isGood_123 : decode cX7_isGood 123 = .ok (.iconst 1, 1) := by decide +kernel
theorem dX7_isGood_124 : decode cX7_isGood 124 = .ok (.goto 4, 3) := by decide +kernel
theorem dX7_isGood_127 : decode cX7_isGood 127 = .ok (.iconst 0, 1) := by decide +kernel
theorem dX7_isGood_128 : decode cX7_isGood 128 = .ok (.iadd, 1) := by decide +kernel
theorem dX7_isGood_129 : decode cX7_isGood 129 = .ok (.iastore, 1) := by decide +kernel
theorem dX7_isGood_130 : decode cX7_isGood 130 = .ok (.iload_n 2, 1) := by decide +kernel
theorem dX7_isGood_131 : decode cX7_isGood 131 = .ok (.ireturn, 1) := by decide +kernel
theorem dX7_isGood_132 : decode cX7_isGood 132 = .ok (.aload_n 0, 1) := by decide +kernel
theorem dX7_isGood_133 : decode cX7_isGood 133 = .ok (.getfield 13, 3) := by decide +kernel
theorem dX7_isGood_136 : decode cX7_isGood 136 = .ok (.iload_n 1, 1) := by decide +kernel
theorem dX7_isGood_137 : decode cX7_isGood 137 = .ok (.bipush 108, 2) := by decide +kernel
theorem dX7_isGood_139 : decode cX7_isGood 139 = .ok (.if_icmp .ne 7, 3) := by decide +kernel
theorem dX7_isGood_142 : decode cX7_isGood 142 = .ok (.iconst 2, 1) := by decide +kernel
theorem dX7_isGood_143 : decode cX7_isGood 143 = .ok (.goto 4, 3) := by decide +kernel
theorem dX7_isGood_146 : decode cX7_isGood 146 = .ok (.iconst 3, 1) := by decide +kernel
theorem dX7_isGood_147 : decode cX7_isGood 147 = .ok (.aload_n 0, 1) := by decide +kernel
theorem dX7_isGood_148 : decode cX7_isGood 148 = .ok (.getfield 54, 3) := by decide +kernel
theorem dX7_isGood_151 : decode cX7_isGood 151 = .ok (.iconst 0, 1) := by decide +kernel
theorem dX7_isGood_152 : decode cX7_isGood 152 = .ok (.iaload, 1) := by decide +kernel
theorem dX7_isGood_153 : decode cX7_isGood 153 = .ok (.iastore, 1) := by decide +kernel
theorem dX7_isGood_154 : decode cX7_isGood 154 = .ok (.iload_n 1, 1) := by decide +kernel
theorem dX7_isGood_155 : decode cX7_isGood 155 = .ok (.bipush 99, 2) := by decide +kernel
theorem dX7_isGood_157 : decode cX7_isGood 157 = .ok (.if_icmp .eq 18, 3) := by decide +kernel
theorem dX7_isGood_160 : decode cX7_isGood 160 = .ok (.aload_n 0, 1) := by decide +kernel
theorem dX7_isGood_161 : decode cX7_isGood 161 = .ok (.getfield 54, 3) := by decide +kernel
theorem dX7_isGood_164 : decode cX7_isGood 164 = .ok (.iconst 0, 1) := by decide +kernel
theorem dX7_isGood_165 : decode cX7_isGood 165 = .ok (.iaload, 1) := by decide +kernel
theorem dX7_isGood_166 : decode cX7_isGood 166 = .ok (.i2l, 1) := by decide +kernel
theorem dX7_isGood_167 : decode cX7_isGood 167 = .ok (.lconst 0, 1) := by decide +kernel
theorem dX7_isGood_168 : decode cX7_isGood 168 = .ok (.lconst 1, 1) := by decide +kernel
theorem dX7_isGood_169 : decode cX7_isGood 169 = .ok (.invokestatic 69, 3) := by decide +kernel
theorem dX7_isGood_172 : decode cX7_isGood 172 = .ok (.ifCond .eq 7, 3) := by decide +kernel
theorem dX7_isGood_175 : decode cX7_isGood 175 = .ok (.iconst 1, 1) := by decide +kernel
theorem dX7_isGood_176 : decode cX7_isGood 176 = .ok (.goto 4, 3) := by decide +kernel
theorem dX7_isGood_179 : decode cX7_isGood 179 = .ok (.iconst 0, 1) := by decide +kernel
theorem dX7_isGood_180 : decode cX7_isGood 180 = .ok (.ireturn, 1) := by decide +kernel
theorem dX7_begins_0 : decode cX7_begins 0 = .ok (.aload_n 0, 1) := by decide +kernel
theorem dX7_begins_1 : decode cX7_begins 1 = .ok (.getfield 17, 3) := by decide +kernel
theorem dX7_begins_4 : decode cX7_begins 4 = .ok (.iconst 1, 1) := by decide +kernel
theorem dX7_begins_5 : decode cX7_begins 5 = .ok (.iconst 0, 1) := by decide +kernel
theorem dX7_begins_6 : decode cX7_begins 6 = .ok (.iastore, 1) := by decide +kernel
theorem dX7_begins_7 : decode cX7_begins 7 = .ok (.aload_n 0, 1) := by decide +kernel
theorem dX7_begins_8 : decode cX7_begins 8 = .ok (.getfield 13, 3) := by decide +kernel
theorem dX7_begins_11 : decode cX7_begins 11 = .ok (.iconst 2, 1) := by decide +kernel
theorem dX7_begins_12 : decode cX7_begins 12 = .ok (.iconst 0, 1) := by decide +kernel
theorem dX7_begins_13 : decode cX7_begins 13 = .ok (.iastore, 1) := by decide +kernel
theorem dX7_begins_14 : decode cX7_begins 14 = .ok (.aload_n 0, 1) := by decide +kernel
theorem dX7_begins_15 : decode cX7_begins 15 = .ok (.getfield 13, 3) := by decide +kernel
theorem dX7_begins_18 : decode cX7_begins 18 = .ok (.iconst 3, 1) := by decide +kernel
theorem dX7_begins_19 : decode cX7_begins 19 = .ok (.iconst 5, 1) := by decide +kernel
theorem dX7_begins_20 : decode cX7_begins 20 = .ok (.iastore, 1) := by decide +kernel
theorem dX7_begins_21 : decode cX7_begins 21 = .ok (.iconst 0, 1) := by decide +kernel
theorem dX7_begins_22 : decode cX7_begins 22 = .ok (.istore_n 1, 1) := by decide +kernel
theorem dX7_begins_23 : decode cX7_begins 23 = .ok (.iload_n 1, 1) := by decide +kernel
theorem dX7_begins_24 : decode cX7_begins 24 = .ok (.bipush 32, 2) := by decide +kernel
theorem dX7_begins_26 : decode cX7_begins 26 = .ok (.if_icmp .ge 16, 3) := by decide +kernel
theorem dX7_begins_29 : decode cX7_begins 29 = .ok (.aload_n 0, 1) := by decide +kernel
theorem dX7_begins_30 : decode cX7_begins 30 = .ok (.getfield 20, 3) := by decide +kernel
theorem dX7_begins_33 : decode cX7_begins 33 = .ok (.iload_n 1, 1) := by decide +kernel
theorem dX7_begins_34 : decode cX7_begins 34 = .ok (.iconst 0, 1) := by decide +kernel
theorem dX7_begins_35 : decode cX7_begins 35 = .ok (.iastore, 1) := by decide +kernel
theorem dX7_begins_36 : decode cX7_begins 36 = .ok (.iinc 1 1, 3) := by decide +kernel
theorem dX7_begins_39 : decode cX7_begins 39 = .ok (.goto (-16), 3) := by decide +kernel
theorem dX7_begins_42 : decode cX7_begins 42 = .ok (.return_, 1) := by decide +kernel
theorem dX7_takes_0 : decode cX7_takes 0 = .ok (.aload_n 0, 1) := by decide +kernel
theorem dX7_takes_1 : decode cX7_takes 1 = .ok (.getfield 17, 3) := by decide +kernel
theorem dX7_takes_4 : decode cX7_takes 4 = .ok (.iconst 0, 1) := by decide +kernel
theorem dX7_takes_5 : decode cX7_takes 5 = .ok (.aload_n 0, 1) := by decide +kernel
theorem dX7_takes_6 : decode cX7_takes 6 = .ok (.getfield 17, 3) := by decide +kernel
theorem dX7_takes_9 : decode cX7_takes 9 = .ok (.iconst 1, 1) := by decide +kernel
theorem dX7_takes_10 : decode cX7_takes 10 = .ok (.iaload, 1) := by decide +kernel
theorem dX7_takes_11 : decode cX7_takes 11 = .ok (.iastore, 1) := by decide +kernel
theorem dX7_takes_12 : decode cX7_takes 12 = .ok (.aload_n 0, 1) := by decide +kernel
theorem dX7_takes_13 : decode cX7_takes 13 = .ok (.getfield 13, 3) := by decide +kernel
theorem dX7_takes_16 : decode cX7_takes 16 = .ok (.iconst 0, 1) := by decide +kernel
theorem dX7_takes_17 : decode cX7_takes 17 = .ok (.aload_n 0, 1) := by decide +kernel
theorem dX7_takes_18 : decode cX7_takes 18 = .ok (.getfield 13, 3) := by decide +kernel
theorem dX7_takes_21 : decode cX7_takes 21 = .ok (.iconst 2, 1) := by decide +kernel
theorem dX7_takes_22 : decode cX7_takes 22 = .ok (.iaload, 1) := by decide +kernel
theorem dX7_takes_23 : decode cX7_takes 23 = .ok (.iastore, 1) := by decide +kernel
theorem dX7_takes_24 : decode cX7_takes 24 = .ok (.aload_n 0, 1) := by decide +kernel
theorem dX7_takes_25 : decode cX7_takes 25 = .ok (.getfield 13, 3) := by decide +kernel
theorem dX7_takes_28 : decode cX7_takes 28 = .ok (.iconst 1, 1) := by decide +kernel
theorem dX7_takes_29 : decode cX7_takes 29 = .ok (.aload_n 0, 1) := by decide +kernel
theorem dX7_takes_30 : decode cX7_takes 30 = .ok (.getfield 13, 3) := by decide +kernel
theorem dX7_takes_33 : decode cX7_takes 33 = .ok (.iconst 3, 1) := by decide +kernel
theorem dX7_takes_34 : decode cX7_takes 34 = .ok (.iaload, 1) := by decide +kernel
theorem dX7_takes_35 : decode cX7_takes 35 = .ok (.iastore, 1) := by decide +kernel
theorem dX7_takes_36 : decode cX7_takes 36 = .ok (.iconst 0, 1) := by decide +kernel
theorem dX7_takes_37 : decode cX7_takes 37 = .ok (.istore_n 1, 1) := by decide +kernel
theorem dX7_takes_38 : decode cX7_takes 38 = .ok (.iload_n 1, 1) := by decide +kernel
theorem dX7_takes_39 : decode cX7_takes 39 = .ok (.bipush 55, 2) := by decide +kernel
theorem dX7_takes_41 : decode cX7_takes 41 = .ok (.if_icmp .ge 16, 3) := by decide +kernel
theorem dX7_takes_44 : decode cX7_takes 44 = .ok (.aload_n 0, 1) := by decide +kernel
theorem dX7_takes_45 : decode cX7_takes 45 = .ok (.getfield 23, 3) := by decide +kernel
theorem dX7_takes_48 : decode cX7_takes 48 = .ok (.iload_n 1, 1) := by decide +kernel
theorem dX7_takes_49 : decode cX7_takes 49 = .ok (.iconst 0, 1) := by decide +kernel
theorem dX7_takes_50 : decode cX7_takes 50 = .ok (.iastore, 1) := by decide +kernel
theorem dX7_takes_51 : decode cX7_takes 51 = .ok (.iinc 1 1, 3) := by decide +kernel
theorem dX7_takes_54 : decode cX7_takes 54 = .ok (.goto (-16), 3) := by decide +kernel
theorem dX7_takes_57 : decode cX7_takes 57 = .ok (.iconst 0, 1) := by decide +kernel
theorem dX7_takes_58 : decode cX7_takes 58 = .ok (.istore_n 1, 1) := by decide +kernel
theorem dX7_takes_59 : decode cX7_takes 59 = .ok (.iload_n 1, 1) := by decide +kernel
theorem dX7_takes_60 : decode cX7_takes 60 = .ok (.aload_n 0, 1) := by decide +kernel
theorem dX7_takes_61 : decode cX7_takes 61 = .ok (.getfield 17, 3) := by decide +kernel
theorem dX7_takes_64 : decode cX7_takes 64 = .ok (.iconst 0, 1) := by decide +kernel
theorem dX7_takes_65 : decode cX7_takes 65 = .ok (.iaload, 1) := by decide +kernel
theorem dX7_takes_66 : decode cX7_takes 66 = .ok (.if_icmp .ge 42, 3) := by decide +kernel
theorem dX7_takes_69 : decode cX7_takes 69 = .ok (.iconst 0, 1) := by decide +kernel
theorem dX7_takes_70 : decode cX7_takes 70 = .ok (.istore_n 2, 1) := by decide +kernel
theorem dX7_takes_71 : decode cX7_takes 71 = .ok (.iload_n 2, 1) := by decide +kernel
theorem dX7_takes_72 : decode cX7_takes 72 = .ok (.iconst 4, 1) := by decide +kernel
theorem dX7_takes_73 : decode cX7_takes 73 = .ok (.if_icmp .ge 29, 3) := by decide +kernel
theorem dX7_takes_76 : decode cX7_takes 76 = .ok (.aload_n 0, 1) := by decide +kernel
theorem dX7_takes_77 : decode cX7_takes 77 = .ok (.getfield 23, 3) := by decide +kernel
theorem dX7_takes_80 : decode cX7_takes 80 = .ok (.iconst 5, 1) := by decide +kernel
theorem dX7_takes_81 : decode cX7_takes 81 = .ok (.iload_n 1, 1) := by decide +kernel
theorem dX7_takes_82 : decode cX7_takes 82 = .ok (.imul, 1) := by decide +kernel
theorem dX7_takes_83 : decode cX7_takes 83 = .ok (.iload_n 2, 1) := by decide +kernel
theorem dX7_takes_84 : decode cX7_takes 84 = .ok (.iadd, 1) := by decide +kernel
theorem dX7_takes_85 : decode cX7_takes 85 = .ok (.aload_n 0, 1) := by decide +kernel
theorem dX7_takes_86 : decode cX7_takes 86 = .ok (.getfield 20, 3) := by decide +kernel
theorem dX7_takes_89 : decode cX7_takes 89 = .ok (.iconst 4, 1) := by decide +kernel
theorem dX7_takes_90 : decode cX7_takes 90 = .ok (.iload_n 1, 1) := by decide +kernel
theorem dX7_takes_91 : decode cX7_takes 91 = .ok (.imul, 1) := by decide +kernel
theorem dX7_takes_92 : decode cX7_takes 92 = .ok (.iload_n 2, 1) := by decide +kernel
theorem dX7_takes_93 : decode cX7_takes 93 = .ok (.iadd, 1) := by decide +kernel
theorem dX7_takes_94 : decode cX7_takes 94 = .ok (.iaload, 1) := by decide +kernel
theorem dX7_takes_95 : decode cX7_takes 95 = .ok (.iastore, 1) := by decide +kernel
theorem dX7_takes_96 : decode cX7_takes 96 = .ok (.iinc 2 1, 3) := by decide +kernel
theorem dX7_takes_99 : decode cX7_takes 99 = .ok (.goto (-28), 3) := by decide +kernel
theorem dX7_takes_102 : decode cX7_takes 102 = .ok (.iinc 1 1, 3) := by decide +kernel
theorem dX7_takes_105 : decode cX7_takes 105 = .ok (.goto (-46), 3) := by decide +kernel
theorem dX7_takes_108 : decode cX7_takes 108 = .ok (.aload_n 0, 1) := by decide +kernel
theorem dX7_takes_109 : decode cX7_takes 109 = .ok (.getfield 23, 3) := by decide +kernel
theorem dX7_takes_112 : decode cX7_takes 112 = .ok (.bipush 50, 2) := by decide +kernel
theorem dX7_takes_114 : decode cX7_takes 114 = .ok (.aload_n 0, 1) := by decide +kernel
theorem dX7_takes_115 : decode cX7_takes 115 = .ok (.getfield 17, 3) := by decide +kernel
theorem dX7_takes_118 : decode cX7_takes 118 = .ok (.iconst 0, 1) := by decide +kernel
theorem dX7_takes_119 : decode cX7_takes 119 = .ok (.iaload, 1) := by decide +kernel
theorem dX7_takes_120 : decode cX7_takes 120 = .ok (.iastore, 1) := by decide +kernel
theorem dX7_takes_121 : decode cX7_takes 121 = .ok (.aload_n 0, 1) := by decide +kernel
theorem dX7_takes_122 : decode cX7_takes 122 = .ok (.getfield 23, 3) := by decide +kernel
theorem dX7_takes_125 : decode cX7_takes 125 = .ok (.bipush 52, 2) := by decide +kernel
theorem dX7_takes_127 : decode cX7_takes 127 = .ok (.iconst 5, 1) := by decide +kernel
theorem dX7_takes_128 : decode cX7_takes 128 = .ok (.iastore, 1) := by decide +kernel
theorem dX7_takes_129 : decode cX7_takes 129 = .ok (.aload_n 0, 1) := by decide +kernel
theorem dX7_takes_130 : decode cX7_takes 130 = .ok (.getfield 23, 3) := by decide +kernel
theorem dX7_takes_133 : decode cX7_takes 133 = .ok (.bipush 53, 2) := by decide +kernel
theorem dX7_takes_135 : decode cX7_takes 135 = .ok (.iconst 5, 1) := by decide +kernel
theorem dX7_takes_136 : decode cX7_takes 136 = .ok (.iastore, 1) := by decide +kernel
theorem dX7_takes_137 : decode cX7_takes 137 = .ok (.aload_n 0, 1) := by decide +kernel
theorem dX7_takes_138 : decode cX7_takes 138 = .ok (.iconst 0, 1) := by decide +kernel
theorem dX7_takes_139 : decode cX7_takes 139 = .ok (.putfield 98, 3) := by decide +kernel
theorem dX7_takes_142 : decode cX7_takes 142 = .ok (.aload_n 0, 1) := by decide +kernel
theorem dX7_takes_143 : decode cX7_takes 143 = .ok (.iconst 0, 1) := by decide +kernel
theorem dX7_takes_144 : decode cX7_takes 144 = .ok (.putfield 101, 3) := by decide +kernel
theorem dX7_takes_147 : decode cX7_takes 147 = .ok (.aload_n 0, 1) := by decide +kernel
theorem dX7_takes_148 : decode cX7_takes 148 = .ok (.iconst 0, 1) := by decide +kernel
theorem dX7_takes_149 : decode cX7_takes 149 = .ok (.putfield 104, 3) := by decide +kernel
theorem dX7_takes_152 : decode cX7_takes 152 = .ok (.return_, 1) := by decide +kernel
theorem dX7_fault_0 : decode cX7_fault 0 = .ok (.aload_n 0, 1) := by decide +kernel
theorem dX7_fault_1 : decode cX7_fault 1 = .ok (.iconst 0, 1) := by decide +kernel
theorem dX7_fault_2 : decode cX7_fault 2 = .ok (.putfield 77, 3) := by decide +kernel
theorem dX7_fault_5 : decode cX7_fault 5 = .ok (.aload_n 0, 1) := by decide +kernel
theorem dX7_fault_6 : decode cX7_fault 6 = .ok (.invokevirtual 61, 3) := by decide +kernel
theorem dX7_fault_9 : decode cX7_fault 9 = .ok (.aload_n 0, 1) := by decide +kernel
theorem dX7_fault_10 : decode cX7_fault 10 = .ok (.getfield 77, 3) := by decide +kernel
theorem dX7_fault_13 : decode cX7_fault 13 = .ok (.aload_n 0, 1) := by decide +kernel
theorem dX7_fault_14 : decode cX7_fault 14 = .ok (.getfield 73, 3) := by decide +kernel
theorem dX7_fault_17 : decode cX7_fault 17 = .ok (.if_icmp .ge 20, 3) := by decide +kernel
theorem dX7_fault_20 : decode cX7_fault 20 = .ok (.aload_n 0, 1) := by decide +kernel
theorem dX7_fault_21 : decode cX7_fault 21 = .ok (.getfield 77, 3) := by decide +kernel
theorem dX7_fault_24 : decode cX7_fault 24 = .ok (.istore_n 1, 1) := by decide +kernel
theorem dX7_fault_25 : decode cX7_fault 25 = .ok (.aload_n 0, 1) := by decide +kernel
theorem dX7_fault_26 : decode cX7_fault 26 = .ok (.invokevirtual 107, 3) := by decide +kernel
theorem dX7_fault_29 : decode cX7_fault 29 = .ok (.ifCond .ne 5, 3) := by decide +kernel
theorem dX7_fault_32 : decode cX7_fault 32 = .ok (.iload_n 1, 1) := by decide +kernel
theorem dX7_fault_33 : decode cX7_fault 33 = .ok (.ireturn, 1) := by decide +kernel
theorem dX7_fault_34 : decode cX7_fault 34 = .ok (.goto (-25), 3) := by decide +kernel
theorem dX7_fault_37 : decode cX7_fault 37 = .ok (.bipush (-4), 2) := by decide +kernel
theorem dX7_fault_39 : decode cX7_fault 39 = .ok (.ireturn, 1) := by decide +kernel
theorem dX7_lay_0 : decode cX7_lay 0 = .ok (.aload_n 0, 1) := by decide +kernel
theorem dX7_lay_1 : decode cX7_lay 1 = .ok (.invokevirtual 111, 3) := by decide +kernel
theorem dX7_lay_4 : decode cX7_lay 4 = .ok (.bipush (-4), 2) := by decide +kernel
theorem dX7_lay_6 : decode cX7_lay 6 = .ok (.if_icmp .ne 12, 3) := by decide +kernel
theorem dX7_lay_9 : decode cX7_lay 9 = .ok (.aload_n 0, 1) := by decide +kernel
theorem dX7_lay_10 : decode cX7_lay 10 = .ok (.getfield 17, 3) := by decide +kernel
theorem dX7_lay_13 : decode cX7_lay 13 = .ok (.iconst 1, 1) := by decide +kernel
theorem dX7_lay_14 : decode cX7_lay 14 = .ok (.iaload, 1) := by decide +kernel
theorem dX7_lay_15 : decode cX7_lay 15 = .ok (.ifCond .ne 6, 3) := by decide +kernel
theorem dX7_lay_18 : decode cX7_lay 18 = .ok (.bipush (-2), 2) := by decide +kernel
theorem dX7_lay_20 : decode cX7_lay 20 = .ok (.ireturn, 1) := by decide +kernel
theorem dX7_lay_21 : decode cX7_lay 21 = .ok (.aload_n 0, 1) := by decide +kernel
theorem dX7_lay_22 : decode cX7_lay 22 = .ok (.invokevirtual 64, 3) := by decide +kernel
theorem dX7_lay_25 : decode cX7_lay 25 = .ok (.aload_n 0, 1) := by decide +kernel
theorem dX7_lay_26 : decode cX7_lay 26 = .ok (.getfield 17, 3) := by decide +kernel
theorem dX7_lay_29 : decode cX7_lay 29 = .ok (.iconst 0, 1) := by decide +kernel
theorem dX7_lay_30 : decode cX7_lay 30 = .ok (.iaload, 1) := by decide +kernel
theorem dX7_lay_31 : decode cX7_lay 31 = .ok (.ireturn, 1) := by decide +kernel
theorem dX7_isSack_0 : decode cX7_isSack 0 = .ok (.iload_n 1, 1) := by decide +kernel
theorem dX7_isSack_1 : decode cX7_isSack 1 = .ok (.i2l, 1) := by decide +kernel
theorem dX7_isSack_2 : decode cX7_isSack 2 = .ok (.lconst 0, 1) := by decide +kernel
theorem dX7_isSack_3 : decode cX7_isSack 3 = .ok (.aload_n 0, 1) := by decide +kernel
theorem dX7_isSack_4 : decode cX7_isSack 4 = .ok (.getfield 23, 3) := by decide +kernel
theorem dX7_isSack_7 : decode cX7_isSack 7 = .ok (.bipush 50, 2) := by decide +kernel
theorem dX7_isSack_9 : decode cX7_isSack 9 = .ok (.iaload, 1) := by decide +kernel
theorem dX7_isSack_10 : decode cX7_isSack 10 = .ok (.iconst 1, 1) := by decide +kernel
theorem dX7_isSack_11 : decode cX7_isSack 11 = .ok (.isub, 1) := by decide +kernel
theorem dX7_isSack_12 : decode cX7_isSack 12 = .ok (.i2l, 1) := by decide +kernel
theorem dX7_isSack_13 : decode cX7_isSack 13 = .ok (.invokestatic 69, 3) := by decide +kernel
theorem dX7_isSack_16 : decode cX7_isSack 16 = .ok (.ireturn, 1) := by decide +kernel
theorem dX7_of_0 : decode cX7_of 0 = .ok (.aload_n 0, 1) := by decide +kernel
theorem dX7_of_1 : decode cX7_of 1 = .ok (.getfield 23, 3) := by decide +kernel
theorem dX7_of_4 : decode cX7_of 4 = .ok (.iconst 5, 1) := by decide +kernel
theorem dX7_of_5 : decode cX7_of 5 = .ok (.iload_n 1, 1) := by decide +kernel
theorem dX7_of_6 : decode cX7_of 6 = .ok (.imul, 1) := by decide +kernel
theorem dX7_of_7 : decode cX7_of 7 = .ok (.iload_n 2, 1) := by decide +kernel
theorem dX7_of_8 : decode cX7_of 8 = .ok (.iadd, 1) := by decide +kernel
theorem dX7_of_9 : decode cX7_of 9 = .ok (.iaload, 1) := by decide +kernel
theorem dX7_of_10 : decode cX7_of 10 = .ok (.ireturn, 1) := by decide +kernel
theorem dX7_isWaiting_0 : decode cX7_isWaiting 0 = .ok (.aload_n 0, 1) := by decide +kernel
theorem dX7_isWaiting_1 : decode cX7_isWaiting 1 = .ok (.iload_n 1, 1) := by decide +kernel
theorem dX7_isWaiting_2 : decode cX7_isWaiting 2 = .ok (.iconst 4, 1) := by decide +kernel
theorem dX7_isWaiting_3 : decode cX7_isWaiting 3 = .ok (.invokevirtual 114, 3) := by decide +kernel
theorem dX7_isWaiting_6 : decode cX7_isWaiting 6 = .ok (.ifCond .ne 7, 3) := by decide +kernel
theorem dX7_isWaiting_9 : decode cX7_isWaiting 9 = .ok (.iconst 1, 1) := by decide +kernel
theorem dX7_isWaiting_10 : decode cX7_isWaiting 10 = .ok (.goto 4, 3) := by decide +kernel
theorem dX7_isWaiting_13 : decode cX7_isWaiting 13 = .ok (.iconst 0, 1) := by decide +kernel
theorem dX7_isWaiting_14 : decode cX7_isWaiting 14 = .ok (.ireturn, 1) := by decide +kernel
theorem dX7_sack_0 : decode cX7_sack 0 = .ok (.aload_n 0, 1) := by decide +kernel
theorem dX7_sack_1 : decode cX7_sack 1 = .ok (.iload_n 1, 1) := by decide +kernel
theorem dX7_sack_2 : decode cX7_sack 2 = .ok (.invokevirtual 118, 3) := by decide +kernel
theorem dX7_sack_5 : decode cX7_sack 5 = .ok (.ifCond .eq 24, 3) := by decide +kernel
theorem dX7_sack_8 : decode cX7_sack 8 = .ok (.iload_n 2, 1) := by decide +kernel
theorem dX7_sack_9 : decode cX7_sack 9 = .ok (.i2l, 1) := by decide +kernel
theorem dX7_sack_10 : decode cX7_sack 10 = .ok (.lconst 0, 1) := by decide +kernel
theorem dX7_sack_11 : decode cX7_sack 11 = .ok (.ldc2_w 94, 3) := by decide +kernel
theorem dX7_sack_14 : decode cX7_sack 14 = .ok (.invokestatic 69, 3) := by decide +kernel
theorem dX7_sack_17 : decode cX7_sack 17 = .ok (.ifCond .eq 12, 3) := by decide +kernel
theorem dX7_sack_20 : decode cX7_sack 20 = .ok (.aload_n 0, 1) := by decide +kernel
theorem dX7_sack_21 : decode cX7_sack 21 = .ok (.iload_n 1, 1) := by decide +kernel
theorem dX7_sack_22 : decode cX7_sack 22 = .ok (.iload_n 2, 1) := by decide +kernel
theorem dX7_sack_23 : decode cX7_sack 23 = .ok (.invokevirtual 114, 3) := by decide +kernel
theorem dX7_sack_26 : decode cX7_sack 26 = .ok (.goto 4, 3) := by decide +kernel
theorem dX7_sack_29 : decode cX7_sack 29 = .ok (.iconst (-1), 1) := by decide +kernel
theorem dX7_sack_30 : decode cX7_sack 30 = .ok (.ireturn, 1) := by decide +kernel
theorem dX7_isMixed_0 : decode cX7_isMixed 0 = .ok (.iload_n 1, 1) := by decide +kernel
theorem dX7_isMixed_1 : decode cX7_isMixed 1 = .ok (.iload_n 2, 1) := by decide +kernel
theorem dX7_isMixed_2 : decode cX7_isMixed 2 = .ok (.if_icmp .eq 21, 3) := by decide +kernel
theorem dX7_isMixed_5 : decode cX7_isMixed 5 = .ok (.aload_n 0, 1) := by decide +kernel
theorem dX7_isMixed_6 : decode cX7_isMixed 6 = .ok (.getfield 13, 3) := by decide +kernel
theorem dX7_isMixed_9 : decode cX7_isMixed 9 = .ok (.iconst 0, 1) := by decide +kernel
theorem dX7_isMixed_10 : decode cX7_isMixed 10 = .ok (.iaload, 1) := by decide +kernel
theorem dX7_isMixed_11 : decode cX7_isMixed 11 = .ok (.ifCond .eq 8, 3) := by decide +kernel
theorem dX7_isMixed_14 : decode cX7_isMixed 14 = .ok (.iload_n 1, 1) := by decide +kernel
theorem dX7_isMixed_15 : decode cX7_isMixed 15 = .ok (.iload_n 3, 1) := by decide +kernel
theorem dX7_isMixed_16 : decode cX7_isMixed 16 = .ok (.if_icmp .eq 7, 3) := by decide +kernel
theorem dX7_isMixed_19 : decode cX7_isMixed 19 = .ok (.iconst 1, 1) := by decide +kernel
theorem dX7_isMixed_20 : decode cX7_isMixed 20 = .ok (.goto 4, 3) := by decide +kernel
theorem dX7_isMixed_23 : decode cX7_isMixed 23 = .ok (.iconst 0, 1) := by decide +kernel
theorem dX7_isMixed_24 : decode cX7_isMixed 24 = .ok (.ireturn, 1) := by decide +kernel
theorem dX7_mayNow_0 : decode cX7_mayNow 0 = .ok (.aload_n 0, 1) := by decide +kernel
theorem dX7_mayNow_1 : decode cX7_mayNow 1 = .ok (.aload_n 0, 1) := by decide +kernel
theorem dX7_mayNow_2 : decode cX7_mayNow 2 = .ok (.iload_n 1, 1) := by decide +kernel
theorem dX7_mayNow_3 : decode cX7_mayNow 3 = .ok (.iconst 0, 1) := by decide +kernel
theorem dX7_mayNow_4 : decode cX7_mayNow 4 = .ok (.invokevirtual 114, 3) := by decide +kernel
theorem dX7_mayNow_7 : decode cX7_mayNow 7 = .ok (.aload_n 0, 1) := by decide +kernel
theorem dX7_mayNow_8 : decode cX7_mayNow 8 = .ok (.getfield 23, 3) := by decide +kernel
theorem dX7_mayNow_11 : decode cX7_mayNow 11 = .ok (.bipush 52, 2) := by decide +kernel
theorem dX7_mayNow_13 : decode cX7_mayNow 13 = .ok (.iaload, 1) := by decide +kernel
theorem dX7_mayNow_14 : decode cX7_mayNow 14 = .ok (.aload_n 0, 1) := by decide +kernel
theorem dX7_mayNow_15 : decode cX7_mayNow 15 = .ok (.getfield 23, 3) := by decide +kernel
theorem dX7_mayNow_18 : decode cX7_mayNow 18 = .ok (.bipush 53, 2) := by decide +kernel
theorem dX7_mayNow_20 : decode cX7_mayNow 20 = .ok (.iaload, 1) := by decide +kernel
theorem dX7_mayNow_21 : decode cX7_mayNow 21 = .ok (.invokevirtual 121, 3) := by decide +kernel
theorem dX7_mayNow_24 : decode cX7_mayNow 24 = .ok (.ireturn, 1) := by decide +kernel
theorem dX7_may_0 : decode cX7_may 0 = .ok (.aload_n 0, 1) := by decide +kernel
theorem dX7_may_1 : decode cX7_may 1 = .ok (.iload_n 1, 1) := by decide +kernel
theorem dX7_may_2 : decode cX7_may 2 = .ok (.invokevirtual 118, 3) := by decide +kernel
theorem dX7_may_5 : decode cX7_may 5 = .ok (.ifCond .ne 7, 3) := by decide +kernel
theorem dX7_may_8 : decode cX7_may 8 = .ok (.iconst (-1), 1) := by decide +kernel
theorem dX7_may_9 : decode cX7_may 9 = .ok (.goto 29, 3) := by decide +kernel
theorem dX7_may_12 : decode cX7_may 12 = .ok (.aload_n 0, 1) := by decide +kernel
theorem dX7_may_13 : decode cX7_may 13 = .ok (.iload_n 1, 1) := by decide +kernel
theorem dX7_may_14 : decode cX7_may 14 = .ok (.invokevirtual 125, 3) := by decide +kernel
theorem dX7_may_17 : decode cX7_may 17 = .ok (.ifCond .ne 8, 3) := by decide +kernel
theorem dX7_may_20 : decode cX7_may 20 = .ok (.bipush (-2), 2) := by decide +kernel
theorem dX7_may_22 : decode cX7_may 22 = .ok (.goto 16, 3) := by decide +kernel
theorem dX7_may_25 : decode cX7_may 25 = .ok (.aload_n 0, 1) := by decide +kernel
theorem dX7_may_26 : decode cX7_may 26 = .ok (.iload_n 1, 1) := by decide +kernel
theorem dX7_may_27 : decode cX7_may 27 = .ok (.invokevirtual 128, 3) := by decide +kernel
theorem dX7_may_30 : decode cX7_may 30 = .ok (.ifCond .eq 7, 3) := by decide +kernel
theorem dX7_may_33 : decode cX7_may 33 = .ok (.iconst 1, 1) := by decide +kernel
theorem dX7_may_34 : decode cX7_may 34 = .ok (.goto 4, 3) := by decide +kernel
theorem dX7_may_37 : decode cX7_may 37 = .ok (.iconst 0, 1) := by decide +kernel
theorem dX7_may_38 : decode cX7_may 38 = .ok (.ireturn, 1) := by decide +kernel
theorem dX7_copies_0 : decode cX7_copies 0 = .ok (.iconst 0, 1) := by decide +kernel
theorem dX7_copies_1 : decode cX7_copies 1 = .ok (.istore_n 3, 1) := by decide +kernel
theorem dX7_copies_2 : decode cX7_copies 2 = .ok (.iload_n 3, 1) := by decide +kernel
theorem dX7_copies_3 : decode cX7_copies 3 = .ok (.bipush 55, 2) := by decide +kernel
theorem dX7_copies_5 : decode cX7_copies 5 = .ok (.if_icmp .ge 31, 3) := by decide +kernel
theorem dX7_copies_8 : decode cX7_copies 8 = .ok (.aload_n 0, 1) := by decide +kernel
theorem dX7_copies_9 : decode cX7_copies 9 = .ok (.getfield 23, 3) := by decide +kernel
theorem dX7_copies_12 : decode cX7_copies 12 = .ok (.bipush 55, 2) := by decide +kernel
theorem dX7_copies_14 : decode cX7_copies 14 = .ok (.iload_n 2, 1) := by decide +kernel
theorem dX7_copies_15 : decode cX7_copies 15 = .ok (.imul, 1) := by decide +kernel
theorem dX7_copies_16 : decode cX7_copies 16 = .ok (.iload_n 3, 1) := by decide +kernel
theorem dX7_copies_17 : decode cX7_copies 17 = .ok (.iadd, 1) := by decide +kernel
theorem dX7_copies_18 : decode cX7_copies 18 = .ok (.aload_n 0, 1) := by decide +kernel
theorem dX7_copies_19 : decode cX7_copies 19 = .ok (.getfield 23, 3) := by decide +kernel
theorem dX7_copies_22 : decode cX7_copies 22 = .ok (.bipush 55, 2) := by decide +kernel
theorem dX7_copies_24 : decode cX7_copies 24 = .ok (.iload_n 1, 1) := by decide +kernel
theorem dX7_copies_25 : decode cX7_copies 25 = .ok (.imul, 1) := by decide +kernel
theorem dX7_copies_26 : decode cX7_copies 26 = .ok (.iload_n 3, 1) := by decide +kernel
theorem dX7_copies_27 : decode cX7_copies 27 = .ok (.iadd, 1) := by decide +kernel
theorem dX7_copies_28 : decode cX7_copies 28 = .ok (.iaload, 1) := by decide +kernel
theorem dX7_copies_29 : decode cX7_copies 29 = .ok (.iastore, 1) := by decide +kernel
theorem dX7_copies_30 : decode cX7_copies 30 = .ok (.iinc 3 1, 3) := by decide +kernel
theorem dX7_copies_33 : decode cX7_copies 33 = .ok (.goto (-31), 3) := by decide +kernel
theorem dX7_copies_36 : decode cX7_copies 36 = .ok (.return_, 1) := by decide +kernel
theorem dX7_known_0 : decode cX7_known 0 = .ok (.aload_n 0, 1) := by decide +kernel
theorem dX7_known_1 : decode cX7_known 1 = .ok (.getfield 101, 3) := by decide +kernel
theorem dX7_known_4 : decode cX7_known 4 = .ok (.bipush 8, 2) := by decide +kernel
theorem dX7_known_6 : decode cX7_known 6 = .ok (.if_icmp .ne 35, 3) := by decide +kernel
theorem dX7_known_9 : decode cX7_known 9 = .ok (.iconst 3, 1) := by decide +kernel
theorem dX7_known_10 : decode cX7_known 10 = .ok (.istore_n 1, 1) := by decide +kernel
theorem dX7_known_11 : decode cX7_known 11 = .ok (.iload_n 1, 1) := by decide +kernel
theorem dX7_known_12 : decode cX7_known 12 = .ok (.bipush 10, 2) := by decide +kernel
theorem dX7_known_14 : decode cX7_known 14 = .ok (.if_icmp .ge 17, 3) := by decide +kernel
theorem dX7_known_17 : decode cX7_known 17 = .ok (.aload_n 0, 1) := by decide +kernel
theorem dX7_known_18 : decode cX7_known 18 = .ok (.iload_n 1, 1) := by decide +kernel
theorem dX7_known_19 : decode cX7_known 19 = .ok (.iconst 1, 1) := by decide +kernel
theorem dX7_known_20 : decode cX7_known 20 = .ok (.iadd, 1) := by decide +kernel
theorem dX7_known_21 : decode cX7_known 21 = .ok (.iload_n 1, 1) := by decide +kernel
theorem dX7_known_22 : decode cX7_known 22 = .ok (.invokevirtual 131, 3) := by decide +kernel
theorem dX7_known_25 : decode cX7_known 25 = .ok (.iinc 1 1, 3) := by decide +kernel
theorem dX7_known_28 : decode cX7_known 28 = .ok (.goto (-17), 3) := by decide +kernel
theorem dX7_known_31 : decode cX7_known 31 = .ok (.aload_n 0, 1) := by decide +kernel
theorem dX7_known_32 : decode cX7_known 32 = .ok (.dup, 1) := by decide +kernel
theorem dX7_known_33 : decode cX7_known 33 = .ok (.getfield 101, 3) := by decide +kernel
theorem dX7_known_36 : decode cX7_known 36 = .ok (.iconst 1, 1) := by decide +kernel
theorem dX7_known_37 : decode cX7_known 37 = .ok (.isub, 1) := by decide +kernel
theorem dX7_known_38 : decode cX7_known 38 = .ok (.putfield 101, 3) := by decide +kernel
theorem dX7_known_41 : decode cX7_known 41 = .ok (.aload_n 0, 1) := by decide +kernel
theorem dX7_known_42 : decode cX7_known 42 = .ok (.iconst 0, 1) := by decide +kernel
theorem dX7_known_43 : decode cX7_known 43 = .ok (.iconst 3, 1) := by decide +kernel
theorem dX7_known_44 : decode cX7_known 44 = .ok (.aload_n 0, 1) := by decide +kernel
theorem dX7_known_45 : decode cX7_known 45 = .ok (.getfield 101, 3) := by decide +kernel
theorem dX7_known_48 : decode cX7_known 48 = .ok (.iadd, 1) := by decide +kernel
theorem dX7_known_49 : decode cX7_known 49 = .ok (.invokevirtual 131, 3) := by decide +kernel
theorem dX7_known_52 : decode cX7_known 52 = .ok (.aload_n 0, 1) := by decide +kernel
theorem dX7_known_53 : decode cX7_known 53 = .ok (.dup, 1) := by decide +kernel
theorem dX7_known_54 : decode cX7_known 54 = .ok (.getfield 101, 3) := by decide +kernel
theorem dX7_known_57 : decode cX7_known 57 = .ok (.iconst 1, 1) := by decide +kernel
theorem dX7_known_58 : decode cX7_known 58 = .ok (.iadd, 1) := by decide +kernel
theorem dX7_known_59 : decode cX7_known 59 = .ok (.putfield 101, 3) := by decide +kernel
theorem dX7_known_62 : decode cX7_known 62 = .ok (.return_, 1) := by decide +kernel
theorem dX7_ends_0 : decode cX7_ends 0 = .ok (.iload_n 1, 1) := by decide +kernel
theorem dX7_ends_1 : decode cX7_ends 1 = .ok (.aload_n 0, 1) := by decide +kernel
theorem dX7_ends_2 : decode cX7_ends 2 = .ok (.iload_n 2, 1) := by decide +kernel
theorem dX7_ends_3 : decode cX7_ends 3 = .ok (.iconst 3, 1) := by decide +kernel
theorem dX7_ends_4 : decode cX7_ends 4 = .ok (.invokevirtual 114, 3) := by decide +kernel
theorem dX7_ends_7 : decode cX7_ends 7 = .ok (.if_icmp .le 7, 3) := by decide +kernel
theorem dX7_ends_10 : decode cX7_ends 10 = .ok (.iload_n 1, 1) := by decide +kernel
theorem dX7_ends_11 : decode cX7_ends 11 = .ok (.goto 9, 3) := by decide +kernel
theorem dX7_ends_14 : decode cX7_ends 14 = .ok (.aload_n 0, 1) := by decide +kernel
theorem dX7_ends_15 : decode cX7_ends 15 = .ok (.iload_n 2, 1) := by decide +kernel
theorem dX7_ends_16 : decode cX7_ends 16 = .ok (.iconst 3, 1) := by decide +kernel
theorem dX7_ends_17 : decode cX7_ends 17 = .ok (.invokevirtual 114, 3) := by decide +kernel
theorem dX7_ends_20 : decode cX7_ends 20 = .ok (.aload_n 0, 1) := by decide +kernel
theorem dX7_ends_21 : decode cX7_ends 21 = .ok (.iload_n 2, 1) := by decide +kernel
theorem dX7_ends_22 : decode cX7_ends 22 = .ok (.iconst 1, 1) := by decide +kernel
