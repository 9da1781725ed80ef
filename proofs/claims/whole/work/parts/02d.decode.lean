theorem dX7_ends_23 : decode cX7_ends 23 = .ok (.invokevirtual 114, 3) := by decide +kernel
theorem dX7_ends_26 : decode cX7_ends 26 = .ok (.iadd, 1) := by decide +kernel
theorem dX7_ends_27 : decode cX7_ends 27 = .ok (.ireturn, 1) := by decide +kernel
theorem dX7_pour_0 : decode cX7_pour 0 = .ok (.aload_n 0, 1) := by decide +kernel
theorem dX7_pour_1 : decode cX7_pour 1 = .ok (.iload_n 1, 1) := by decide +kernel
theorem dX7_pour_2 : decode cX7_pour 2 = .ok (.invokevirtual 118, 3) := by decide +kernel
theorem dX7_pour_5 : decode cX7_pour 5 = .ok (.ifCond .ne 5, 3) := by decide +kernel
theorem dX7_pour_8 : decode cX7_pour 8 = .ok (.iconst (-1), 1) := by decide +kernel
theorem dX7_pour_9 : decode cX7_pour 9 = .ok (.ireturn, 1) := by decide +kernel
theorem dX7_pour_10 : decode cX7_pour 10 = .ok (.aload_n 0, 1) := by decide +kernel
theorem dX7_pour_11 : decode cX7_pour 11 = .ok (.iload_n 1, 1) := by decide +kernel
theorem dX7_pour_12 : decode cX7_pour 12 = .ok (.invokevirtual 125, 3) := by decide +kernel
theorem dX7_pour_15 : decode cX7_pour 15 = .ok (.ifCond .eq 11, 3) := by decide +kernel
theorem dX7_pour_18 : decode cX7_pour 18 = .ok (.aload_n 0, 1) := by decide +kernel
theorem dX7_pour_19 : decode cX7_pour 19 = .ok (.iload_n 1, 1) := by decide +kernel
theorem dX7_pour_20 : decode cX7_pour 20 = .ok (.invokevirtual 128, 3) := by decide +kernel
theorem dX7_pour_23 : decode cX7_pour 23 = .ok (.ifCond .ne 6, 3) := by decide +kernel
theorem dX7_pour_26 : decode cX7_pour 26 = .ok (.bipush (-2), 2) := by decide +kernel
theorem dX7_pour_28 : decode cX7_pour 28 = .ok (.ireturn, 1) := by decide +kernel
theorem dX7_pour_29 : decode cX7_pour 29 = .ok (.aload_n 0, 1) := by decide +kernel
theorem dX7_pour_30 : decode cX7_pour 30 = .ok (.invokevirtual 135, 3) := by decide +kernel
theorem dX7_pour_33 : decode cX7_pour 33 = .ok (.aload_n 0, 1) := by decide +kernel
theorem dX7_pour_34 : decode cX7_pour 34 = .ok (.getfield 23, 3) := by decide +kernel
theorem dX7_pour_37 : decode cX7_pour 37 = .ok (.bipush 51, 2) := by decide +kernel
theorem dX7_pour_39 : decode cX7_pour 39 = .ok (.aload_n 0, 1) := by decide +kernel
theorem dX7_pour_40 : decode cX7_pour 40 = .ok (.aload_n 0, 1) := by decide +kernel
theorem dX7_pour_41 : decode cX7_pour 41 = .ok (.getfield 23, 3) := by decide +kernel
theorem dX7_pour_44 : decode cX7_pour 44 = .ok (.bipush 51, 2) := by decide +kernel
theorem dX7_pour_46 : decode cX7_pour 46 = .ok (.iaload, 1) := by decide +kernel
theorem dX7_pour_47 : decode cX7_pour 47 = .ok (.iload_n 1, 1) := by decide +kernel
theorem dX7_pour_48 : decode cX7_pour 48 = .ok (.invokevirtual 138, 3) := by decide +kernel
theorem dX7_pour_51 : decode cX7_pour 51 = .ok (.iastore, 1) := by decide +kernel
theorem dX7_pour_52 : decode cX7_pour 52 = .ok (.aload_n 0, 1) := by decide +kernel
theorem dX7_pour_53 : decode cX7_pour 53 = .ok (.getfield 23, 3) := by decide +kernel
theorem dX7_pour_56 : decode cX7_pour 56 = .ok (.bipush 53, 2) := by decide +kernel
theorem dX7_pour_58 : decode cX7_pour 58 = .ok (.aload_n 0, 1) := by decide +kernel
theorem dX7_pour_59 : decode cX7_pour 59 = .ok (.getfield 23, 3) := by decide +kernel
theorem dX7_pour_62 : decode cX7_pour 62 = .ok (.bipush 52, 2) := by decide +kernel
theorem dX7_pour_64 : decode cX7_pour 64 = .ok (.iaload, 1) := by decide +kernel
theorem dX7_pour_65 : decode cX7_pour 65 = .ok (.iastore, 1) := by decide +kernel
theorem dX7_pour_66 : decode cX7_pour 66 = .ok (.aload_n 0, 1) := by decide +kernel
theorem dX7_pour_67 : decode cX7_pour 67 = .ok (.getfield 23, 3) := by decide +kernel
theorem dX7_pour_70 : decode cX7_pour 70 = .ok (.bipush 52, 2) := by decide +kernel
theorem dX7_pour_72 : decode cX7_pour 72 = .ok (.aload_n 0, 1) := by decide +kernel
theorem dX7_pour_73 : decode cX7_pour 73 = .ok (.iload_n 1, 1) := by decide +kernel
theorem dX7_pour_74 : decode cX7_pour 74 = .ok (.iconst 0, 1) := by decide +kernel
theorem dX7_pour_75 : decode cX7_pour 75 = .ok (.invokevirtual 114, 3) := by decide +kernel
theorem dX7_pour_78 : decode cX7_pour 78 = .ok (.iastore, 1) := by decide +kernel
theorem dX7_pour_79 : decode cX7_pour 79 = .ok (.aload_n 0, 1) := by decide +kernel
theorem dX7_pour_80 : decode cX7_pour 80 = .ok (.getfield 23, 3) := by decide +kernel
theorem dX7_pour_83 : decode cX7_pour 83 = .ok (.iconst 5, 1) := by decide +kernel
theorem dX7_pour_84 : decode cX7_pour 84 = .ok (.iload_n 1, 1) := by decide +kernel
theorem dX7_pour_85 : decode cX7_pour 85 = .ok (.imul, 1) := by decide +kernel
theorem dX7_pour_86 : decode cX7_pour 86 = .ok (.iconst 4, 1) := by decide +kernel
theorem dX7_pour_87 : decode cX7_pour 87 = .ok (.iadd, 1) := by decide +kernel
theorem dX7_pour_88 : decode cX7_pour 88 = .ok (.iconst 1, 1) := by decide +kernel
theorem dX7_pour_89 : decode cX7_pour 89 = .ok (.iastore, 1) := by decide +kernel
theorem dX7_pour_90 : decode cX7_pour 90 = .ok (.aload_n 0, 1) := by decide +kernel
theorem dX7_pour_91 : decode cX7_pour 91 = .ok (.iconst 0, 1) := by decide +kernel
theorem dX7_pour_92 : decode cX7_pour 92 = .ok (.putfield 98, 3) := by decide +kernel
theorem dX7_pour_95 : decode cX7_pour 95 = .ok (.aload_n 0, 1) := by decide +kernel
theorem dX7_pour_96 : decode cX7_pour 96 = .ok (.getfield 23, 3) := by decide +kernel
theorem dX7_pour_99 : decode cX7_pour 99 = .ok (.bipush 51, 2) := by decide +kernel
theorem dX7_pour_101 : decode cX7_pour 101 = .ok (.iaload, 1) := by decide +kernel
theorem dX7_pour_102 : decode cX7_pour 102 = .ok (.ireturn, 1) := by decide +kernel
theorem dX7_halve_0 : decode cX7_halve 0 = .ok (.aload_n 0, 1) := by decide +kernel
theorem dX7_halve_1 : decode cX7_halve 1 = .ok (.iload_n 1, 1) := by decide +kernel
theorem dX7_halve_2 : decode cX7_halve 2 = .ok (.invokevirtual 118, 3) := by decide +kernel
theorem dX7_halve_5 : decode cX7_halve 5 = .ok (.ifCond .eq 15, 3) := by decide +kernel
theorem dX7_halve_8 : decode cX7_halve 8 = .ok (.iload_n 2, 1) := by decide +kernel
theorem dX7_halve_9 : decode cX7_halve 9 = .ok (.i2l, 1) := by decide +kernel
theorem dX7_halve_10 : decode cX7_halve 10 = .ok (.lconst 1, 1) := by decide +kernel
theorem dX7_halve_11 : decode cX7_halve 11 = .ok (.ldc2_w 67, 3) := by decide +kernel
theorem dX7_halve_14 : decode cX7_halve 14 = .ok (.invokestatic 69, 3) := by decide +kernel
theorem dX7_halve_17 : decode cX7_halve 17 = .ok (.ifCond .ne 5, 3) := by decide +kernel
theorem dX7_halve_20 : decode cX7_halve 20 = .ok (.iconst (-1), 1) := by decide +kernel
theorem dX7_halve_21 : decode cX7_halve 21 = .ok (.ireturn, 1) := by decide +kernel
theorem dX7_halve_22 : decode cX7_halve 22 = .ok (.aload_n 0, 1) := by decide +kernel
theorem dX7_halve_23 : decode cX7_halve 23 = .ok (.iload_n 1, 1) := by decide +kernel
theorem dX7_halve_24 : decode cX7_halve 24 = .ok (.invokevirtual 125, 3) := by decide +kernel
theorem dX7_halve_27 : decode cX7_halve 27 = .ok (.ifCond .eq 13, 3) := by decide +kernel
theorem dX7_halve_30 : decode cX7_halve 30 = .ok (.aload_n 0, 1) := by decide +kernel
theorem dX7_halve_31 : decode cX7_halve 31 = .ok (.iload_n 1, 1) := by decide +kernel
theorem dX7_halve_32 : decode cX7_halve 32 = .ok (.iconst 1, 1) := by decide +kernel
theorem dX7_halve_33 : decode cX7_halve 33 = .ok (.invokevirtual 114, 3) := by decide +kernel
theorem dX7_halve_36 : decode cX7_halve 36 = .ok (.iload_n 2, 1) := by decide +kernel
theorem dX7_halve_37 : decode cX7_halve 37 = .ok (.if_icmp .gt 6, 3) := by decide +kernel
theorem dX7_halve_40 : decode cX7_halve 40 = .ok (.bipush (-2), 2) := by decide +kernel
theorem dX7_halve_42 : decode cX7_halve 42 = .ok (.ireturn, 1) := by decide +kernel
theorem dX7_halve_43 : decode cX7_halve 43 = .ok (.aload_n 0, 1) := by decide +kernel
theorem dX7_halve_44 : decode cX7_halve 44 = .ok (.getfield 23, 3) := by decide +kernel
theorem dX7_halve_47 : decode cX7_halve 47 = .ok (.bipush 50, 2) := by decide +kernel
theorem dX7_halve_49 : decode cX7_halve 49 = .ok (.iaload, 1) := by decide +kernel
theorem dX7_halve_50 : decode cX7_halve 50 = .ok (.istore_n 3, 1) := by decide +kernel
theorem dX7_halve_51 : decode cX7_halve 51 = .ok (.iload_n 3, 1) := by decide +kernel
theorem dX7_halve_52 : decode cX7_halve 52 = .ok (.bipush 10, 2) := by decide +kernel
theorem dX7_halve_54 : decode cX7_halve 54 = .ok (.if_icmp .ne 6, 3) := by decide +kernel
theorem dX7_halve_57 : decode cX7_halve 57 = .ok (.bipush (-3), 2) := by decide +kernel
theorem dX7_halve_59 : decode cX7_halve 59 = .ok (.ireturn, 1) := by decide +kernel
theorem dX7_halve_60 : decode cX7_halve 60 = .ok (.aload_n 0, 1) := by decide +kernel
theorem dX7_halve_61 : decode cX7_halve 61 = .ok (.invokevirtual 135, 3) := by decide +kernel
theorem dX7_halve_64 : decode cX7_halve 64 = .ok (.iconst 0, 1) := by decide +kernel
theorem dX7_halve_65 : decode cX7_halve 65 = .ok (.istore 4, 2) := by decide +kernel
theorem dX7_halve_67 : decode cX7_halve 67 = .ok (.iload 4, 2) := by decide +kernel
theorem dX7_halve_69 : decode cX7_halve 69 = .ok (.iconst 5, 1) := by decide +kernel
theorem dX7_halve_70 : decode cX7_halve 70 = .ok (.if_icmp .ge 27, 3) := by decide +kernel
theorem dX7_halve_73 : decode cX7_halve 73 = .ok (.aload_n 0, 1) := by decide +kernel
theorem dX7_halve_74 : decode cX7_halve 74 = .ok (.getfield 23, 3) := by decide +kernel
theorem dX7_halve_77 : decode cX7_halve 77 = .ok (.iconst 5, 1) := by decide +kernel
theorem dX7_halve_78 : decode cX7_halve 78 = .ok (.iload_n 3, 1) := by decide +kernel
theorem dX7_halve_79 : decode cX7_halve 79 = .ok (.imul, 1) := by decide +kernel
theorem dX7_halve_80 : decode cX7_halve 80 = .ok (.iload 4, 2) := by decide +kernel
theorem dX7_halve_82 : decode cX7_halve 82 = .ok (.iadd, 1) := by decide +kernel
theorem dX7_halve_83 : decode cX7_halve 83 = .ok (.aload_n 0, 1) := by decide +kernel
theorem dX7_halve_84 : decode cX7_halve 84 = .ok (.iload_n 1, 1) := by decide +kernel
theorem dX7_halve_85 : decode cX7_halve 85 = .ok (.iload 4, 2) := by decide +kernel
theorem dX7_halve_87 : decode cX7_halve 87 = .ok (.invokevirtual 114, 3) := by decide +kernel
theorem dX7_halve_90 : decode cX7_halve 90 = .ok (.iastore, 1) := by decide +kernel
theorem dX7_halve_91 : decode cX7_halve 91 = .ok (.iinc 4 1, 3) := by decide +kernel
theorem dX7_halve_94 : decode cX7_halve 94 = .ok (.goto (-27), 3) := by decide +kernel
theorem dX7_halve_97 : decode cX7_halve 97 = .ok (.aload_n 0, 1) := by decide +kernel
theorem dX7_halve_98 : decode cX7_halve 98 = .ok (.getfield 23, 3) := by decide +kernel
theorem dX7_halve_101 : decode cX7_halve 101 = .ok (.iconst 5, 1) := by decide +kernel
theorem dX7_halve_102 : decode cX7_halve 102 = .ok (.iload_n 3, 1) := by decide +kernel
theorem dX7_halve_103 : decode cX7_halve 103 = .ok (.imul, 1) := by decide +kernel
theorem dX7_halve_104 : decode cX7_halve 104 = .ok (.iconst 1, 1) := by decide +kernel
theorem dX7_halve_105 : decode cX7_halve 105 = .ok (.iadd, 1) := by decide +kernel
theorem dX7_halve_106 : decode cX7_halve 106 = .ok (.iload_n 2, 1) := by decide +kernel
theorem dX7_halve_107 : decode cX7_halve 107 = .ok (.iastore, 1) := by decide +kernel
theorem dX7_halve_108 : decode cX7_halve 108 = .ok (.aload_n 0, 1) := by decide +kernel
theorem dX7_halve_109 : decode cX7_halve 109 = .ok (.getfield 23, 3) := by decide +kernel
theorem dX7_halve_112 : decode cX7_halve 112 = .ok (.iconst 5, 1) := by decide +kernel
theorem dX7_halve_113 : decode cX7_halve 113 = .ok (.iload_n 1, 1) := by decide +kernel
theorem dX7_halve_114 : decode cX7_halve 114 = .ok (.imul, 1) := by decide +kernel
theorem dX7_halve_115 : decode cX7_halve 115 = .ok (.iconst 1, 1) := by decide +kernel
theorem dX7_halve_116 : decode cX7_halve 116 = .ok (.iadd, 1) := by decide +kernel
theorem dX7_halve_117 : decode cX7_halve 117 = .ok (.dup2, 1) := by decide +kernel
theorem dX7_halve_118 : decode cX7_halve 118 = .ok (.iaload, 1) := by decide +kernel
theorem dX7_halve_119 : decode cX7_halve 119 = .ok (.iload_n 2, 1) := by decide +kernel
theorem dX7_halve_120 : decode cX7_halve 120 = .ok (.isub, 1) := by decide +kernel
theorem dX7_halve_121 : decode cX7_halve 121 = .ok (.iastore, 1) := by decide +kernel
theorem dX7_halve_122 : decode cX7_halve 122 = .ok (.aload_n 0, 1) := by decide +kernel
theorem dX7_halve_123 : decode cX7_halve 123 = .ok (.getfield 23, 3) := by decide +kernel
theorem dX7_halve_126 : decode cX7_halve 126 = .ok (.bipush 50, 2) := by decide +kernel
theorem dX7_halve_128 : decode cX7_halve 128 = .ok (.dup2, 1) := by decide +kernel
theorem dX7_halve_129 : decode cX7_halve 129 = .ok (.iaload, 1) := by decide +kernel
theorem dX7_halve_130 : decode cX7_halve 130 = .ok (.iconst 1, 1) := by decide +kernel
theorem dX7_halve_131 : decode cX7_halve 131 = .ok (.iadd, 1) := by decide +kernel
theorem dX7_halve_132 : decode cX7_halve 132 = .ok (.iastore, 1) := by decide +kernel
theorem dX7_halve_133 : decode cX7_halve 133 = .ok (.aload_n 0, 1) := by decide +kernel
theorem dX7_halve_134 : decode cX7_halve 134 = .ok (.getfield 23, 3) := by decide +kernel
theorem dX7_halve_137 : decode cX7_halve 137 = .ok (.bipush 54, 2) := by decide +kernel
theorem dX7_halve_139 : decode cX7_halve 139 = .ok (.dup2, 1) := by decide +kernel
theorem dX7_halve_140 : decode cX7_halve 140 = .ok (.iaload, 1) := by decide +kernel
theorem dX7_halve_141 : decode cX7_halve 141 = .ok (.aload_n 0, 1) := by decide +kernel
theorem dX7_halve_142 : decode cX7_halve 142 = .ok (.getfield 13, 3) := by decide +kernel
theorem dX7_halve_145 : decode cX7_halve 145 = .ok (.iconst 1, 1) := by decide +kernel
theorem dX7_halve_146 : decode cX7_halve 146 = .ok (.iaload, 1) := by decide +kernel
theorem dX7_halve_147 : decode cX7_halve 147 = .ok (.iadd, 1) := by decide +kernel
theorem dX7_halve_148 : decode cX7_halve 148 = .ok (.iastore, 1) := by decide +kernel
theorem dX7_halve_149 : decode cX7_halve 149 = .ok (.iload_n 3, 1) := by decide +kernel
theorem dX7_halve_150 : decode cX7_halve 150 = .ok (.ireturn, 1) := by decide +kernel
theorem dX7_sell_0 : decode cX7_sell 0 = .ok (.aload_n 0, 1) := by decide +kernel
theorem dX7_sell_1 : decode cX7_sell 1 = .ok (.iload_n 1, 1) := by decide +kernel
theorem dX7_sell_2 : decode cX7_sell 2 = .ok (.invokevirtual 118, 3) := by decide +kernel
theorem dX7_sell_5 : decode cX7_sell 5 = .ok (.ifCond .ne 5, 3) := by decide +kernel
theorem dX7_sell_8 : decode cX7_sell 8 = .ok (.iconst (-1), 1) := by decide +kernel
theorem dX7_sell_9 : decode cX7_sell 9 = .ok (.ireturn, 1) := by decide +kernel
theorem dX7_sell_10 : decode cX7_sell 10 = .ok (.aload_n 0, 1) := by decide +kernel
theorem dX7_sell_11 : decode cX7_sell 11 = .ok (.iload_n 1, 1) := by decide +kernel
theorem dX7_sell_12 : decode cX7_sell 12 = .ok (.invokevirtual 125, 3) := by decide +kernel
theorem dX7_sell_15 : decode cX7_sell 15 = .ok (.ifCond .ne 6, 3) := by decide +kernel
theorem dX7_sell_18 : decode cX7_sell 18 = .ok (.bipush (-2), 2) := by decide +kernel
theorem dX7_sell_20 : decode cX7_sell 20 = .ok (.ireturn, 1) := by decide +kernel
theorem dX7_sell_21 : decode cX7_sell 21 = .ok (.aload_n 0, 1) := by decide +kernel
theorem dX7_sell_22 : decode cX7_sell 22 = .ok (.invokevirtual 135, 3) := by decide +kernel
theorem dX7_sell_25 : decode cX7_sell 25 = .ok (.aload_n 0, 1) := by decide +kernel
theorem dX7_sell_26 : decode cX7_sell 26 = .ok (.getfield 23, 3) := by decide +kernel
theorem dX7_sell_29 : decode cX7_sell 29 = .ok (.iconst 5, 1) := by decide +kernel
theorem dX7_sell_30 : decode cX7_sell 30 = .ok (.iload_n 1, 1) := by decide +kernel
theorem dX7_sell_31 : decode cX7_sell 31 = .ok (.imul, 1) := by decide +kernel
theorem dX7_sell_32 : decode cX7_sell 32 = .ok (.iconst 4, 1) := by decide +kernel
theorem dX7_sell_33 : decode cX7_sell 33 = .ok (.iadd, 1) := by decide +kernel
theorem dX7_sell_34 : decode cX7_sell 34 = .ok (.iconst 2, 1) := by decide +kernel
theorem dX7_sell_35 : decode cX7_sell 35 = .ok (.iastore, 1) := by decide +kernel
theorem dX7_sell_36 : decode cX7_sell 36 = .ok (.aload_n 0, 1) := by decide +kernel
theorem dX7_sell_37 : decode cX7_sell 37 = .ok (.iconst 0, 1) := by decide +kernel
theorem dX7_sell_38 : decode cX7_sell 38 = .ok (.putfield 98, 3) := by decide +kernel
theorem dX7_sell_41 : decode cX7_sell 41 = .ok (.aload_n 0, 1) := by decide +kernel
theorem dX7_sell_42 : decode cX7_sell 42 = .ok (.iload_n 1, 1) := by decide +kernel
theorem dX7_sell_43 : decode cX7_sell 43 = .ok (.iconst 1, 1) := by decide +kernel
theorem dX7_sell_44 : decode cX7_sell 44 = .ok (.invokevirtual 114, 3) := by decide +kernel
theorem dX7_sell_47 : decode cX7_sell 47 = .ok (.ireturn, 1) := by decide +kernel
theorem dX7_undo_0 : decode cX7_undo 0 = .ok (.aload_n 0, 1) := by decide +kernel
theorem dX7_undo_1 : decode cX7_undo 1 = .ok (.getfield 101, 3) := by decide +kernel
theorem dX7_undo_4 : decode cX7_undo 4 = .ok (.ifCond .ne 6, 3) := by decide +kernel
theorem dX7_undo_7 : decode cX7_undo 7 = .ok (.bipush (-2), 2) := by decide +kernel
theorem dX7_undo_9 : decode cX7_undo 9 = .ok (.ireturn, 1) := by decide +kernel
theorem dX7_undo_10 : decode cX7_undo 10 = .ok (.aload_n 0, 1) := by decide +kernel
theorem dX7_undo_11 : decode cX7_undo 11 = .ok (.dup, 1) := by decide +kernel
theorem dX7_undo_12 : decode cX7_undo 12 = .ok (.getfield 101, 3) := by decide +kernel
theorem dX7_undo_15 : decode cX7_undo 15 = .ok (.iconst 1, 1) := by decide +kernel
theorem dX7_undo_16 : decode cX7_undo 16 = .ok (.isub, 1) := by decide +kernel
theorem dX7_undo_17 : decode cX7_undo 17 = .ok (.putfield 101, 3) := by decide +kernel
theorem dX7_undo_20 : decode cX7_undo 20 = .ok (.aload_n 0, 1) := by decide +kernel
theorem dX7_undo_21 : decode cX7_undo 21 = .ok (.iconst 3, 1) := by decide +kernel
theorem dX7_undo_22 : decode cX7_undo 22 = .ok (.aload_n 0, 1) := by decide +kernel
theorem dX7_undo_23 : decode cX7_undo 23 = .ok (.getfield 101, 3) := by decide +kernel
theorem dX7_undo_26 : decode cX7_undo 26 = .ok (.iadd, 1) := by decide +kernel
theorem dX7_undo_27 : decode cX7_undo 27 = .ok (.iconst 0, 1) := by decide +kernel
theorem dX7_undo_28 : decode cX7_undo 28 = .ok (.invokevirtual 131, 3) := by decide +kernel
theorem dX7_undo_31 : decode cX7_undo 31 = .ok (.aload_n 0, 1) := by decide +kernel
theorem dX7_undo_32 : decode cX7_undo 32 = .ok (.iconst 0, 1) := by decide +kernel
theorem dX7_undo_33 : decode cX7_undo 33 = .ok (.putfield 98, 3) := by decide +kernel
theorem dX7_undo_36 : decode cX7_undo 36 = .ok (.aload_n 0, 1) := by decide +kernel
theorem dX7_undo_37 : decode cX7_undo 37 = .ok (.getfield 101, 3) := by decide +kernel
theorem dX7_undo_40 : decode cX7_undo 40 = .ok (.ireturn, 1) := by decide +kernel
theorem dX7_cost_0 : decode cX7_cost 0 = .ok (.aload_n 0, 1) := by decide +kernel
theorem dX7_cost_1 : decode cX7_cost 1 = .ok (.getfield 23, 3) := by decide +kernel
theorem dX7_cost_4 : decode cX7_cost 4 = .ok (.bipush 54, 2) := by decide +kernel
theorem dX7_cost_6 : decode cX7_cost 6 = .ok (.iaload, 1) := by decide +kernel
theorem dX7_cost_7 : decode cX7_cost 7 = .ok (.ireturn, 1) := by decide +kernel
theorem dX7_queue_0 : decode cX7_queue 0 = .ok (.aload_n 0, 1) := by decide +kernel
theorem dX7_queue_1 : decode cX7_queue 1 = .ok (.iload_n 1, 1) := by decide +kernel
theorem dX7_queue_2 : decode cX7_queue 2 = .ok (.invokevirtual 118, 3) := by decide +kernel
theorem dX7_queue_5 : decode cX7_queue 5 = .ok (.ifCond .ne 5, 3) := by decide +kernel
theorem dX7_queue_8 : decode cX7_queue 8 = .ok (.iconst (-1), 1) := by decide +kernel
theorem dX7_queue_9 : decode cX7_queue 9 = .ok (.ireturn, 1) := by decide +kernel
theorem dX7_queue_10 : decode cX7_queue 10 = .ok (.aload_n 0, 1) := by decide +kernel
theorem dX7_queue_11 : decode cX7_queue 11 = .ok (.iload_n 1, 1) := by decide +kernel
theorem dX7_queue_12 : decode cX7_queue 12 = .ok (.invokevirtual 125, 3) := by decide +kernel
theorem dX7_queue_15 : decode cX7_queue 15 = .ok (.istore_n 2, 1) := by decide +kernel
theorem dX7_queue_16 : decode cX7_queue 16 = .ok (.iconst 0, 1) := by decide +kernel
theorem dX7_queue_17 : decode cX7_queue 17 = .ok (.istore_n 3, 1) := by decide +kernel
theorem dX7_queue_18 : decode cX7_queue 18 = .ok (.iload_n 3, 1) := by decide +kernel
theorem dX7_queue_19 : decode cX7_queue 19 = .ok (.aload_n 0, 1) := by decide +kernel
theorem dX7_queue_20 : decode cX7_queue 20 = .ok (.getfield 98, 3) := by decide +kernel
theorem dX7_queue_23 : decode cX7_queue 23 = .ok (.if_icmp .ge 29, 3) := by decide +kernel
theorem dX7_queue_26 : decode cX7_queue 26 = .ok (.iload_n 2, 1) := by decide +kernel
theorem dX7_queue_27 : decode cX7_queue 27 = .ok (.ifCond .eq 17, 3) := by decide +kernel
theorem dX7_queue_30 : decode cX7_queue 30 = .ok (.aload_n 0, 1) := by decide +kernel
theorem dX7_queue_31 : decode cX7_queue 31 = .ok (.getfield 26, 3) := by decide +kernel
theorem dX7_queue_34 : decode cX7_queue 34 = .ok (.iload_n 3, 1) := by decide +kernel
theorem dX7_queue_35 : decode cX7_queue 35 = .ok (.iaload, 1) := by decide +kernel
theorem dX7_queue_36 : decode cX7_queue 36 = .ok (.iload_n 1, 1) := by decide +kernel
theorem dX7_queue_37 : decode cX7_queue 37 = .ok (.if_icmp .eq 7, 3) := by decide +kernel
theorem dX7_queue_40 : decode cX7_queue 40 = .ok (.iconst 1, 1) := by decide +kernel
theorem dX7_queue_41 : decode cX7_queue 41 = .ok (.goto 4, 3) := by decide +kernel
theorem dX7_queue_44 : decode cX7_queue 44 = .ok (.iconst 0, 1) := by decide +kernel
theorem dX7_queue_45 : decode cX7_queue 45 = .ok (.istore_n 2, 1) := by decide +kernel
theorem dX7_queue_46 : decode cX7_queue 46 = .ok (.iinc 3 1, 3) := by decide +kernel
theorem dX7_queue_49 : decode cX7_queue 49 = .ok (.goto (-31), 3) := by decide +kernel
theorem dX7_queue_52 : decode cX7_queue 52 = .ok (.iload_n 2, 1) := by decide +kernel
theorem dX7_queue_53 : decode cX7_queue 53 = .ok (.ifCond .ne 6, 3) := by decide +kernel
theorem dX7_queue_56 : decode cX7_queue 56 = .ok (.bipush (-2), 2) := by decide +kernel
theorem dX7_queue_58 : decode cX7_queue 58 = .ok (.ireturn, 1) := by decide +kernel
theorem dX7_queue_59 : decode cX7_queue 59 = .ok (.aload_n 0, 1) := by decide +kernel
theorem dX7_queue_60 : decode cX7_queue 60 = .ok (.getfield 26, 3) := by decide +kernel
theorem dX7_queue_63 : decode cX7_queue 63 = .ok (.aload_n 0, 1) := by decide +kernel
theorem dX7_queue_64 : decode cX7_queue 64 = .ok (.getfield 98, 3) := by decide +kernel
theorem dX7_queue_67 : decode cX7_queue 67 = .ok (.iload_n 1, 1) := by decide +kernel
theorem dX7_queue_68 : decode cX7_queue 68 = .ok (.iastore, 1) := by decide +kernel
theorem dX7_queue_69 : decode cX7_queue 69 = .ok (.aload_n 0, 1) := by decide +kernel
theorem dX7_queue_70 : decode cX7_queue 70 = .ok (.dup, 1) := by decide +kernel
theorem dX7_queue_71 : decode cX7_queue 71 = .ok (.getfield 98, 3) := by decide +kernel
theorem dX7_queue_74 : decode cX7_queue 74 = .ok (.iconst 1, 1) := by decide +kernel
theorem dX7_queue_75 : decode cX7_queue 75 = .ok (.iadd, 1) := by decide +kernel
theorem dX7_queue_76 : decode cX7_queue 76 = .ok (.putfield 98, 3) := by decide +kernel
theorem dX7_queue_79 : decode cX7_queue 79 = .ok (.aload_n 0, 1) := by decide +kernel
theorem dX7_queue_80 : decode cX7_queue 80 = .ok (.getfield 98, 3) := by decide +kernel
theorem dX7_queue_83 : decode cX7_queue 83 = .ok (.ireturn, 1) := by decide +kernel
theorem dX7_noQueue_0 : decode cX7_noQueue 0 = .ok (.aload_n 0, 1) := by decide +kernel
theorem dX7_noQueue_1 : decode cX7_noQueue 1 = .ok (.getfield 98, 3) := by decide +kernel
theorem dX7_noQueue_4 : decode cX7_noQueue 4 = .ok (.istore_n 1, 1) := by decide +kernel
theorem dX7_noQueue_5 : decode cX7_noQueue 5 = .ok (.aload_n 0, 1) := by decide +kernel
theorem dX7_noQueue_6 : decode cX7_noQueue 6 = .ok (.iconst 0, 1) := by decide +kernel
theorem dX7_noQueue_7 : decode cX7_noQueue 7 = .ok (.putfield 98, 3) := by decide +kernel
theorem dX7_noQueue_10 : decode cX7_noQueue 10 = .ok (.iload_n 1, 1) := by decide +kernel
theorem dX7_noQueue_11 : decode cX7_noQueue 11 = .ok (.ireturn, 1) := by decide +kernel
theorem dX7_stops_0 : decode cX7_stops 0 = .ok (.iload_n 1, 1) := by decide +kernel
theorem dX7_stops_1 : decode cX7_stops 1 = .ok (.i2l, 1) := by decide +kernel
theorem dX7_stops_2 : decode cX7_stops 2 = .ok (.lconst 0, 1) := by decide +kernel
theorem dX7_stops_3 : decode cX7_stops 3 = .ok (.ldc2_w 84, 3) := by decide +kernel
theorem dX7_stops_6 : decode cX7_stops 6 = .ok (.invokestatic 69, 3) := by decide +kernel
theorem dX7_stops_9 : decode cX7_stops 9 = .ok (.ifCond .ne 5, 3) := by decide +kernel
theorem dX7_stops_12 : decode cX7_stops 12 = .ok (.iconst (-1), 1) := by decide +kernel
theorem dX7_stops_13 : decode cX7_stops 13 = .ok (.ireturn, 1) := by decide +kernel
theorem dX7_stops_14 : decode cX7_stops 14 = .ok (.iload_n 1, 1) := by decide +kernel
theorem dX7_stops_15 : decode cX7_stops 15 = .ok (.iconst 2, 1) := by decide +kernel
theorem dX7_stops_16 : decode cX7_stops 16 = .ok (.if_icmp .ne 8, 3) := by decide +kernel
theorem dX7_stops_19 : decode cX7_stops 19 = .ok (.aload_n 0, 1) := by decide +kernel
theorem dX7_stops_20 : decode cX7_stops 20 = .ok (.invokevirtual 141, 3) := by decide +kernel
theorem dX7_stops_23 : decode cX7_stops 23 = .ok (.ireturn, 1) := by decide +kernel
theorem dX7_stops_24 : decode cX7_stops 24 = .ok (.aload_n 0, 1) := by decide +kernel
theorem dX7_stops_25 : decode cX7_stops 25 = .ok (.getfield 23, 3) := by decide +kernel
theorem dX7_stops_28 : decode cX7_stops 28 = .ok (.bipush 52, 2) := by decide +kernel
theorem dX7_stops_30 : decode cX7_stops 30 = .ok (.iaload, 1) := by decide +kernel
theorem dX7_stops_31 : decode cX7_stops 31 = .ok (.istore_n 2, 1) := by decide +kernel
theorem dX7_stops_32 : decode cX7_stops 32 = .ok (.aload_n 0, 1) := by decide +kernel
theorem dX7_stops_33 : decode cX7_stops 33 = .ok (.getfield 23, 3) := by decide +kernel
theorem dX7_stops_36 : decode cX7_stops 36 = .ok (.bipush 53, 2) := by decide +kernel
theorem dX7_stops_38 : decode cX7_stops 38 = .ok (.iaload, 1) := by decide +kernel
theorem dX7_stops_39 : decode cX7_stops 39 = .ok (.istore_n 3, 1) := by decide +kernel
theorem dX7_stops_40 : decode cX7_stops 40 = .ok (.aload_n 0, 1) := by decide +kernel
theorem dX7_stops_41 : decode cX7_stops 41 = .ok (.getfield 23, 3) := by decide +kernel
theorem dX7_stops_44 : decode cX7_stops 44 = .ok (.bipush 51, 2) := by decide +kernel
theorem dX7_stops_46 : decode cX7_stops 46 = .ok (.iaload, 1) := by decide +kernel
theorem dX7_stops_47 : decode cX7_stops 47 = .ok (.istore 4, 2) := by decide +kernel
theorem dX7_stops_49 : decode cX7_stops 49 = .ok (.iconst 0, 1) := by decide +kernel
theorem dX7_stops_50 : decode cX7_stops 50 = .ok (.istore 5, 2) := by decide +kernel
theorem dX7_stops_52 : decode cX7_stops 52 = .ok (.iload 5, 2) := by decide +kernel
theorem dX7_stops_54 : decode cX7_stops 54 = .ok (.aload_n 0, 1) := by decide +kernel
theorem dX7_stops_55 : decode cX7_stops 55 = .ok (.getfield 98, 3) := by decide +kernel
theorem dX7_stops_58 : decode cX7_stops 58 = .ok (.if_icmp .ge 66, 3) := by decide +kernel
theorem dX7_stops_61 : decode cX7_stops 61 = .ok (.aload_n 0, 1) := by decide +kernel
theorem dX7_stops_62 : decode cX7_stops 62 = .ok (.getfield 26, 3) := by decide +kernel
theorem dX7_stops_65 : decode cX7_stops 65 = .ok (.iload 5, 2) := by decide +kernel
theorem dX7_stops_67 : decode cX7_stops 67 = .ok (.iaload, 1) := by decide +kernel
theorem dX7_stops_68 : decode cX7_stops 68 = .ok (.istore 6, 2) := by decide +kernel
theorem dX7_stops_70 : decode cX7_stops 70 = .ok (.aload_n 0, 1) := by decide +kernel
theorem dX7_stops_71 : decode cX7_stops 71 = .ok (.aload_n 0, 1) := by decide +kernel
theorem dX7_stops_72 : decode cX7_stops 72 = .ok (.iload 6, 2) := by decide +kernel
theorem dX7_stops_74 : decode cX7_stops 74 = .ok (.iconst 0, 1) := by decide +kernel
theorem dX7_stops_75 : decode cX7_stops 75 = .ok (.invokevirtual 114, 3) := by decide +kernel
theorem dX7_stops_78 : decode cX7_stops 78 = .ok (.iload_n 2, 1) := by decide +kernel
theorem dX7_stops_79 : decode cX7_stops 79 = .ok (.iload_n 3, 1) := by decide +kernel
theorem dX7_stops_80 : decode cX7_stops 80 = .ok (.invokevirtual 121, 3) := by decide +kernel
theorem dX7_stops_83 : decode cX7_stops 83 = .ok (.ifCond .ne 15, 3) := by decide +kernel
theorem dX7_stops_86 : decode cX7_stops 86 = .ok (.iload_n 1, 1) := by decide +kernel
theorem dX7_stops_87 : decode cX7_stops 87 = .ok (.ifCond .ne 8, 3) := by decide +kernel
theorem dX7_stops_90 : decode cX7_stops 90 = .ok (.iload 5, 2) := by decide +kernel
theorem dX7_stops_92 : decode cX7_stops 92 = .ok (.goto 5, 3) := by decide +kernel
theorem dX7_stops_95 : decode cX7_stops 95 = .ok (.iload 4, 2) := by decide +kernel
theorem dX7_stops_97 : decode cX7_stops 97 = .ok (.ireturn, 1) := by decide +kernel
theorem dX7_stops_98 : decode cX7_stops 98 = .ok (.aload_n 0, 1) := by decide +kernel
theorem dX7_stops_99 : decode cX7_stops 99 = .ok (.iload 4, 2) := by decide +kernel
theorem dX7_stops_101 : decode cX7_stops 101 = .ok (.iload 6, 2) := by decide +kernel
theorem dX7_stops_103 : decode cX7_stops 103 = .ok (.invokevirtual 138, 3) := by decide +kernel
theorem dX7_stops_106 : decode cX7_stops 106 = .ok (.istore 4, 2) := by decide +kernel
theorem dX7_stops_108 : decode cX7_stops 108 = .ok (.iload_n 2, 1) := by decide +kernel
theorem dX7_stops_109 : decode cX7_stops 109 = .ok (.istore_n 3, 1) := by decide +kernel
theorem dX7_stops_110 : decode cX7_stops 110 = .ok (.aload_n 0, 1) := by decide +kernel
theorem dX7_stops_111 : decode cX7_stops 111 = .ok (.iload 6, 2) := by decide +kernel
theorem dX7_stops_113 : decode cX7_stops 113 = .ok (.iconst 0, 1) := by decide +kernel
theorem dX7_stops_114 : decode cX7_stops 114 = .ok (.invokevirtual 114, 3) := by decide +kernel
theorem dX7_stops_117 : decode cX7_stops 117 = .ok (.istore_n 2, 1) := by decide +kernel
theorem dX7_stops_118 : decode cX7_stops 118 = .ok (.iinc 5 1, 3) := by decide +kernel
theorem dX7_stops_121 : decode cX7_stops 121 = .ok (.goto (-69), 3) := by decide +kernel
theorem dX7_stops_124 : decode cX7_stops 124 = .ok (.iload_n 1, 1) := by decide +kernel
theorem dX7_stops_125 : decode cX7_stops 125 = .ok (.ifCond .ne 8, 3) := by decide +kernel
theorem dX7_stops_128 : decode cX7_stops 128 = .ok (.bipush (-4), 2) := by decide +kernel
theorem dX7_stops_130 : decode cX7_stops 130 = .ok (.goto 5, 3) := by decide +kernel
theorem dX7_stops_133 : decode cX7_stops 133 = .ok (.iload 4, 2) := by decide +kernel
theorem dX7_stops_135 : decode cX7_stops 135 = .ok (.ireturn, 1) := by decide +kernel
theorem dX7_bread_0 : decode cX7_bread 0 = .ok (.iconst 0, 1) := by decide +kernel
theorem dX7_bread_1 : decode cX7_bread 1 = .ok (.istore_n 1, 1) := by decide +kernel
theorem dX7_bread_2 : decode cX7_bread 2 = .ok (.iconst 2, 1) := by decide +kernel
theorem dX7_bread_3 : decode cX7_bread 3 = .ok (.istore_n 2, 1) := by decide +kernel
theorem dX7_bread_4 : decode cX7_bread 4 = .ok (.iload_n 2, 1) := by decide +kernel
theorem dX7_bread_5 : decode cX7_bread 5 = .ok (.aload_n 0, 1) := by decide +kernel
theorem dX7_bread_6 : decode cX7_bread 6 = .ok (.getfield 98, 3) := by decide +kernel
theorem dX7_bread_9 : decode cX7_bread 9 = .ok (.if_icmp .ge 78, 3) := by decide +kernel
theorem dX7_bread_12 : decode cX7_bread 12 = .ok (.aload_n 0, 1) := by decide +kernel
theorem dX7_bread_13 : decode cX7_bread 13 = .ok (.aload_n 0, 1) := by decide +kernel
theorem dX7_bread_14 : decode cX7_bread 14 = .ok (.getfield 26, 3) := by decide +kernel
theorem dX7_bread_17 : decode cX7_bread 17 = .ok (.iload_n 2, 1) := by decide +kernel
theorem dX7_bread_18 : decode cX7_bread 18 = .ok (.iconst 2, 1) := by decide +kernel
theorem dX7_bread_19 : decode cX7_bread 19 = .ok (.isub, 1) := by decide +kernel
theorem dX7_bread_20 : decode cX7_bread 20 = .ok (.iaload, 1) := by decide +kernel
theorem dX7_bread_21 : decode cX7_bread 21 = .ok (.iconst 0, 1) := by decide +kernel
theorem dX7_bread_22 : decode cX7_bread 22 = .ok (.invokevirtual 114, 3) := by decide +kernel
theorem dX7_bread_25 : decode cX7_bread 25 = .ok (.istore_n 3, 1) := by decide +kernel
theorem dX7_bread_26 : decode cX7_bread 26 = .ok (.aload_n 0, 1) := by decide +kernel
theorem dX7_bread_27 : decode cX7_bread 27 = .ok (.aload_n 0, 1) := by decide +kernel
theorem dX7_bread_28 : decode cX7_bread 28 = .ok (.getfield 26, 3) := by decide +kernel
theorem dX7_bread_31 : decode cX7_bread 31 = .ok (.iload_n 2, 1) := by decide +kernel
theorem dX7_bread_32 : decode cX7_bread 32 = .ok (.iconst 1, 1) := by decide +kernel
theorem dX7_bread_33 : decode cX7_bread 33 = .ok (.isub, 1) := by decide +kernel
theorem dX7_bread_34 : decode cX7_bread 34 = .ok (.iaload, 1) := by decide +kernel
theorem dX7_bread_35 : decode cX7_bread 35 = .ok (.iconst 0, 1) := by decide +kernel
theorem dX7_bread_36 : decode cX7_bread 36 = .ok (.invokevirtual 114, 3) := by decide +kernel
theorem dX7_bread_39 : decode cX7_bread 39 = .ok (.istore 4, 2) := by decide +kernel
theorem dX7_bread_41 : decode cX7_bread 41 = .ok (.aload_n 0, 1) := by decide +kernel
theorem dX7_bread_42 : decode cX7_bread 42 = .ok (.aload_n 0, 1) := by decide +kernel
theorem dX7_bread_43 : decode cX7_bread 43 = .ok (.getfield 26, 3) := by decide +kernel
theorem dX7_bread_46 : decode cX7_bread 46 = .ok (.iload_n 2, 1) := by decide +kernel
theorem dX7_bread_47 : decode cX7_bread 47 = .ok (.iaload, 1) := by decide +kernel
theorem dX7_bread_48 : decode cX7_bread 48 = .ok (.iconst 0, 1) := by decide +kernel
theorem dX7_bread_49 : decode cX7_bread 49 = .ok (.invokevirtual 114, 3) := by decide +kernel
theorem dX7_bread_52 : decode cX7_bread 52 = .ok (.istore 5, 2) := by decide +kernel
theorem dX7_bread_54 : decode cX7_bread 54 = .ok (.iload_n 1, 1) := by decide +kernel
theorem dX7_bread_55 : decode cX7_bread 55 = .ok (.iload_n 3, 1) := by decide +kernel
theorem dX7_bread_56 : decode cX7_bread 56 = .ok (.iload 4, 2) := by decide +kernel
theorem dX7_bread_58 : decode cX7_bread 58 = .ok (.if_icmp .eq 20, 3) := by decide +kernel
theorem dX7_bread_61 : decode cX7_bread 61 = .ok (.iload 4, 2) := by decide +kernel
theorem dX7_bread_63 : decode cX7_bread 63 = .ok (.iload 5, 2) := by decide +kernel
theorem dX7_bread_65 : decode cX7_bread 65 = .ok (.if_icmp .eq 13, 3) := by decide +kernel
theorem dX7_bread_68 : decode cX7_bread 68 = .ok (.iload_n 3, 1) := by decide +kernel
theorem dX7_bread_69 : decode cX7_bread 69 = .ok (.iload 5, 2) := by decide +kernel
theorem dX7_bread_71 : decode cX7_bread 71 = .ok (.if_icmp .eq 7, 3) := by decide +kernel
theorem dX7_bread_74 : decode cX7_bread 74 = .ok (.iconst 1, 1) := by decide +kernel
theorem dX7_bread_75 : decode cX7_bread 75 = .ok (.goto 4, 3) := by decide +kernel
theorem dX7_bread_78 : decode cX7_bread 78 = .ok (.iconst 0, 1) := by decide +kernel
theorem dX7_bread_79 : decode cX7_bread 79 = .ok (.iadd, 1) := by decide +kernel
theorem dX7_bread_80 : decode cX7_bread 80 = .ok (.istore_n 1, 1) := by decide +kernel
theorem dX7_bread_81 : decode cX7_bread 81 = .ok (.iinc 2 1, 3) := by decide +kernel
theorem dX7_bread_84 : decode cX7_bread 84 = .ok (.goto (-80), 3) := by decide +kernel
theorem dX7_bread_87 : decode cX7_bread 87 = .ok (.iload_n 1, 1) := by decide +kernel
theorem dX7_bread_88 : decode cX7_bread 88 = .ok (.ireturn, 1) := by decide +kernel
theorem dX7_counts_0 : decode cX7_counts 0 = .ok (.iconst 0, 1) := by decide +kernel
theorem dX7_counts_1 : decode cX7_counts 1 = .ok (.istore_n 1, 1) := by decide +kernel
theorem dX7_counts_2 : decode cX7_counts 2 = .ok (.iload_n 1, 1) := by decide +kernel
theorem dX7_counts_3 : decode cX7_counts 3 = .ok (.iconst 5, 1) := by decide +kernel
theorem dX7_counts_4 : decode cX7_counts 4 = .ok (.if_icmp .ge 16, 3) := by decide +kernel
theorem dX7_counts_7 : decode cX7_counts 7 = .ok (.aload_n 0, 1) := by decide +kernel
theorem dX7_counts_8 : decode cX7_counts 8 = .ok (.getfield 45, 3) := by decide +kernel
theorem dX7_counts_11 : decode cX7_counts 11 = .ok (.iload_n 1, 1) := by decide +kernel
theorem dX7_counts_12 : decode cX7_counts 12 = .ok (.iconst 0, 1) := by decide +kernel
theorem dX7_counts_13 : decode cX7_counts 13 = .ok (.iastore, 1) := by decide +kernel
theorem dX7_counts_14 : decode cX7_counts 14 = .ok (.iinc 1 1, 3) := by decide +kernel
theorem dX7_counts_17 : decode cX7_counts 17 = .ok (.goto (-15), 3) := by decide +kernel
theorem dX7_counts_20 : decode cX7_counts 20 = .ok (.iconst 0, 1) := by decide +kernel
theorem dX7_counts_21 : decode cX7_counts 21 = .ok (.istore_n 1, 1) := by decide +kernel
theorem dX7_counts_22 : decode cX7_counts 22 = .ok (.iload_n 1, 1) := by decide +kernel
theorem dX7_counts_23 : decode cX7_counts 23 = .ok (.aload_n 0, 1) := by decide +kernel
theorem dX7_counts_24 : decode cX7_counts 24 = .ok (.getfield 23, 3) := by decide +kernel
theorem dX7_counts_27 : decode cX7_counts 27 = .ok (.bipush 50, 2) := by decide +kernel
theorem dX7_counts_29 : decode cX7_counts 29 = .ok (.iaload, 1) := by decide +kernel
theorem dX7_counts_30 : decode cX7_counts 30 = .ok (.if_icmp .ge 36, 3) := by decide +kernel
theorem dX7_counts_33 : decode cX7_counts 33 = .ok (.aload_n 0, 1) := by decide +kernel
theorem dX7_counts_34 : decode cX7_counts 34 = .ok (.getfield 45, 3) := by decide +kernel
theorem dX7_counts_37 : decode cX7_counts 37 = .ok (.aload_n 0, 1) := by decide +kernel
theorem dX7_counts_38 : decode cX7_counts 38 = .ok (.iload_n 1, 1) := by decide +kernel
theorem dX7_counts_39 : decode cX7_counts 39 = .ok (.iconst 0, 1) := by decide +kernel
theorem dX7_counts_40 : decode cX7_counts 40 = .ok (.invokevirtual 114, 3) := by decide +kernel
theorem dX7_counts_43 : decode cX7_counts 43 = .ok (.dup2, 1) := by decide +kernel
theorem dX7_counts_44 : decode cX7_counts 44 = .ok (.iaload, 1) := by decide +kernel
theorem dX7_counts_45 : decode cX7_counts 45 = .ok (.aload_n 0, 1) := by decide +kernel
theorem dX7_counts_46 : decode cX7_counts 46 = .ok (.iload_n 1, 1) := by decide +kernel
theorem dX7_counts_47 : decode cX7_counts 47 = .ok (.invokevirtual 125, 3) := by decide +kernel
theorem dX7_counts_50 : decode cX7_counts 50 = .ok (.ifCond .eq 7, 3) := by decide +kernel
theorem dX7_counts_53 : decode cX7_counts 53 = .ok (.iconst 1, 1) := by decide +kernel
theorem dX7_counts_54 : decode cX7_counts 54 = .ok (.goto 4, 3) := by decide +kernel
theorem dX7_counts_57 : decode cX7_counts 57 = .ok (.iconst 0, 1) := by decide +kernel
theorem dX7_counts_58 : decode cX7_counts 58 = .ok (.iadd, 1) := by decide +kernel
theorem dX7_counts_59 : decode cX7_counts 59 = .ok (.iastore, 1) := by decide +kernel
theorem dX7_counts_60 : decode cX7_counts 60 = .ok (.iinc 1 1, 3) := by decide +kernel
theorem dX7_counts_63 : decode cX7_counts 63 = .ok (.goto (-41), 3) := by decide +kernel
theorem dX7_counts_66 : decode cX7_counts 66 = .ok (.return_, 1) := by decide +kernel
theorem dX7_size_0 : decode cX7_size 0 = .ok (.iconst 1, 1) := by decide +kernel
theorem dX7_size_1 : decode cX7_size 1 = .ok (.istore_n 1, 1) := by decide +kernel
theorem dX7_size_2 : decode cX7_size 2 = .ok (.iconst 0, 1) := by decide +kernel
theorem dX7_size_3 : decode cX7_size 3 = .ok (.istore_n 2, 1) := by decide +kernel
theorem dX7_size_4 : decode cX7_size 4 = .ok (.iload_n 2, 1) := by decide +kernel
theorem dX7_size_5 : decode cX7_size 5 = .ok (.iconst 5, 1) := by decide +kernel
theorem dX7_size_6 : decode cX7_size 6 = .ok (.if_icmp .ge 20, 3) := by decide +kernel
theorem dX7_size_9 : decode cX7_size 9 = .ok (.iload_n 1, 1) := by decide +kernel
theorem dX7_size_10 : decode cX7_size 10 = .ok (.aload_n 0, 1) := by decide +kernel
theorem dX7_size_11 : decode cX7_size 11 = .ok (.getfield 45, 3) := by decide +kernel
theorem dX7_size_14 : decode cX7_size 14 = .ok (.iload_n 2, 1) := by decide +kernel
theorem dX7_size_15 : decode cX7_size 15 = .ok (.iaload, 1) := by decide +kernel
theorem dX7_size_16 : decode cX7_size 16 = .ok (.iconst 1, 1) := by decide +kernel
theorem dX7_size_17 : decode cX7_size 17 = .ok (.iadd, 1) := by decide +kernel
theorem dX7_size_18 : decode cX7_size 18 = .ok (.imul, 1) := by decide +kernel
theorem dX7_size_19 : decode cX7_size 19 = .ok (.istore_n 1, 1) := by decide +kernel
theorem dX7_size_20 : decode cX7_size 20 = .ok (.iinc 2 1, 3) := by decide +kernel
theorem dX7_size_23 : decode cX7_size 23 = .ok (.goto (-19), 3) := by decide +kernel
theorem dX7_size_26 : decode cX7_size 26 = .ok (.iload_n 1, 1) := by decide +kernel
theorem dX7_size_27 : decode cX7_size 27 = .ok (.ireturn, 1) := by decide +kernel
theorem dX7_counted_0 : decode cX7_counted 0 = .ok (.iload_n 1, 1) := by decide +kernel
theorem dX7_counted_1 : decode cX7_counted 1 = .ok (.istore_n 2, 1) := by decide +kernel
theorem dX7_counted_2 : decode cX7_counted 2 = .ok (.iconst 0, 1) := by decide +kernel
theorem dX7_counted_3 : decode cX7_counted 3 = .ok (.istore_n 3, 1) := by decide +kernel
theorem dX7_counted_4 : decode cX7_counted 4 = .ok (.iload_n 3, 1) := by decide +kernel
theorem dX7_counted_5 : decode cX7_counted 5 = .ok (.iconst 5, 1) := by decide +kernel
theorem dX7_counted_6 : decode cX7_counted 6 = .ok (.if_icmp .ge 36, 3) := by decide +kernel
theorem dX7_counted_9 : decode cX7_counted 9 = .ok (.aload_n 0, 1) := by decide +kernel
theorem dX7_counted_10 : decode cX7_counted 10 = .ok (.getfield 42, 3) := by decide +kernel
theorem dX7_counted_13 : decode cX7_counted 13 = .ok (.iload_n 3, 1) := by decide +kernel
theorem dX7_counted_14 : decode cX7_counted 14 = .ok (.iload_n 2, 1) := by decide +kernel
theorem dX7_counted_15 : decode cX7_counted 15 = .ok (.aload_n 0, 1) := by decide +kernel
theorem dX7_counted_16 : decode cX7_counted 16 = .ok (.getfield 45, 3) := by decide +kernel
theorem dX7_counted_19 : decode cX7_counted 19 = .ok (.iload_n 3, 1) := by decide +kernel
theorem dX7_counted_20 : decode cX7_counted 20 = .ok (.iaload, 1) := by decide +kernel
theorem dX7_counted_21 : decode cX7_counted 21 = .ok (.iconst 1, 1) := by decide +kernel
theorem dX7_counted_22 : decode cX7_counted 22 = .ok (.iadd, 1) := by decide +kernel
theorem dX7_counted_23 : decode cX7_counted 23 = .ok (.irem, 1) := by decide +kernel
theorem dX7_counted_24 : decode cX7_counted 24 = .ok (.iastore, 1) := by decide +kernel
theorem dX7_counted_25 : decode cX7_counted 25 = .ok (.iload_n 2, 1) := by decide +kernel
theorem dX7_counted_26 : decode cX7_counted 26 = .ok (.aload_n 0, 1) := by decide +kernel
theorem dX7_counted_27 : decode cX7_counted 27 = .ok (.getfield 45, 3) := by decide +kernel
theorem dX7_counted_30 : decode cX7_counted 30 = .ok (.iload_n 3, 1) := by decide +kernel
theorem dX7_counted_31 : decode cX7_counted 31 = .ok (.iaload, 1) := by decide +kernel
theorem dX7_counted_32 : decode cX7_counted 32 = .ok (.iconst 1, 1) := by decide +kernel
theorem dX7_counted_33 : decode cX7_counted 33 = .ok (.iadd, 1) := by decide +kernel
theorem dX7_counted_34 : decode cX7_counted 34 = .ok (.idiv, 1) := by decide +kernel
theorem dX7_counted_35 : decode cX7_counted 35 = .ok (.istore_n 2, 1) := by decide +kernel
theorem dX7_counted_36 : decode cX7_counted 36 = .ok (.iinc 3 1, 3) := by decide +kernel
theorem dX7_counted_39 : decode cX7_counted 39 = .ok (.goto (-35), 3) := by decide +kernel
theorem dX7_counted_42 : decode cX7_counted 42 = .ok (.return_, 1) := by decide +kernel
theorem dX7_step_0 : decode cX7_step 0 = .ok (.iconst 1, 1) := by decide +kernel
theorem dX7_step_1 : decode cX7_step 1 = .ok (.istore_n 2, 1) := by decide +kernel
theorem dX7_step_2 : decode cX7_step 2 = .ok (.iconst 0, 1) := by decide +kernel
theorem dX7_step_3 : decode cX7_step 3 = .ok (.istore_n 3, 1) := by decide +kernel
theorem dX7_step_4 : decode cX7_step 4 = .ok (.iload_n 3, 1) := by decide +kernel
theorem dX7_step_5 : decode cX7_step 5 = .ok (.iload_n 1, 1) := by decide +kernel
theorem dX7_step_6 : decode cX7_step 6 = .ok (.if_icmp .ge 20, 3) := by decide +kernel
theorem dX7_step_9 : decode cX7_step 9 = .ok (.iload_n 2, 1) := by decide +kernel
theorem dX7_step_10 : decode cX7_step 10 = .ok (.aload_n 0, 1) := by decide +kernel
theorem dX7_step_11 : decode cX7_step 11 = .ok (.getfield 45, 3) := by decide +kernel
theorem dX7_step_14 : decode cX7_step 14 = .ok (.iload_n 3, 1) := by decide +kernel
theorem dX7_step_15 : decode cX7_step 15 = .ok (.iaload, 1) := by decide +kernel
theorem dX7_step_16 : decode cX7_step 16 = .ok (.iconst 1, 1) := by decide +kernel
theorem dX7_step_17 : decode cX7_step 17 = .ok (.iadd, 1) := by decide +kernel
theorem dX7_step_18 : decode cX7_step 18 = .ok (.imul, 1) := by decide +kernel
theorem dX7_step_19 : decode cX7_step 19 = .ok (.istore_n 2, 1) := by decide +kernel
theorem dX7_step_20 : decode cX7_step 20 = .ok (.iinc 3 1, 3) := by decide +kernel
theorem dX7_step_23 : decode cX7_step 23 = .ok (.goto (-19), 3) := by decide +kernel
theorem dX7_step_26 : decode cX7_step 26 = .ok (.iload_n 2, 1) := by decide +kernel
theorem dX7_step_27 : decode cX7_step 27 = .ok (.ireturn, 1) := by decide +kernel
theorem dX7_orders_0 : decode cX7_orders 0 = .ok (.aload_n 0, 1) := by decide +kernel
theorem dX7_orders_1 : decode cX7_orders 1 = .ok (.invokevirtual 144, 3) := by decide +kernel
theorem dX7_orders_4 : decode cX7_orders 4 = .ok (.aload_n 0, 1) := by decide +kernel
theorem dX7_orders_5 : decode cX7_orders 5 = .ok (.invokevirtual 147, 3) := by decide +kernel
theorem dX7_orders_8 : decode cX7_orders 8 = .ok (.istore_n 1, 1) := by decide +kernel
theorem dX7_orders_9 : decode cX7_orders 9 = .ok (.iconst 0, 1) := by decide +kernel
theorem dX7_orders_10 : decode cX7_orders 10 = .ok (.istore_n 2, 1) := by decide +kernel
theorem dX7_orders_11 : decode cX7_orders 11 = .ok (.iload_n 2, 1) := by decide +kernel
theorem dX7_orders_12 : decode cX7_orders 12 = .ok (.iload_n 1, 1) := by decide +kernel
theorem dX7_orders_13 : decode cX7_orders 13 = .ok (.if_icmp .ge 126, 3) := by decide +kernel
theorem dX7_orders_16 : decode cX7_orders 16 = .ok (.aload_n 0, 1) := by decide +kernel
theorem dX7_orders_17 : decode cX7_orders 17 = .ok (.iload_n 2, 1) := by decide +kernel
theorem dX7_orders_18 : decode cX7_orders 18 = .ok (.invokevirtual 150, 3) := by decide +kernel
theorem dX7_orders_21 : decode cX7_orders 21 = .ok (.iconst 0, 1) := by decide +kernel
theorem dX7_orders_22 : decode cX7_orders 22 = .ok (.istore_n 3, 1) := by decide +kernel
theorem dX7_orders_23 : decode cX7_orders 23 = .ok (.iload_n 3, 1) := by decide +kernel
theorem dX7_orders_24 : decode cX7_orders 24 = .ok (.bipush 36, 2) := by decide +kernel
theorem dX7_orders_26 : decode cX7_orders 26 = .ok (.if_icmp .ge 107, 3) := by decide +kernel
theorem dX7_orders_29 : decode cX7_orders 29 = .ok (.iload_n 2, 1) := by decide +kernel
theorem dX7_orders_30 : decode cX7_orders 30 = .ok (.ifCond .ne 7, 3) := by decide +kernel
theorem dX7_orders_33 : decode cX7_orders 33 = .ok (.lconst 1, 1) := by decide +kernel
theorem dX7_orders_34 : decode cX7_orders 34 = .ok (.goto 4, 3) := by decide +kernel
theorem dX7_orders_37 : decode cX7_orders 37 = .ok (.lconst 0, 1) := by decide +kernel
theorem dX7_orders_38 : decode cX7_orders 38 = .ok (.lstore 4, 2) := by decide +kernel
theorem dX7_orders_40 : decode cX7_orders 40 = .ok (.iconst 0, 1) := by decide +kernel
theorem dX7_orders_41 : decode cX7_orders 41 = .ok (.istore 6, 2) := by decide +kernel
theorem dX7_orders_43 : decode cX7_orders 43 = .ok (.iload 6, 2) := by decide +kernel
theorem dX7_orders_45 : decode cX7_orders 45 = .ok (.iconst 5, 1) := by decide +kernel
theorem dX7_orders_46 : decode cX7_orders 46 = .ok (.if_icmp .ge 68, 3) := by decide +kernel
theorem dX7_orders_49 : decode cX7_orders 49 = .ok (.aload_n 0, 1) := by decide +kernel
theorem dX7_orders_50 : decode cX7_orders 50 = .ok (.getfield 42, 3) := by decide +kernel
theorem dX7_orders_53 : decode cX7_orders 53 = .ok (.iload 6, 2) := by decide +kernel
theorem dX7_orders_55 : decode cX7_orders 55 = .ok (.iaload, 1) := by decide +kernel
theorem dX7_orders_56 : decode cX7_orders 56 = .ok (.ifCond .le 52, 3) := by decide +kernel
theorem dX7_orders_59 : decode cX7_orders 59 = .ok (.aload_n 0, 1) := by decide +kernel
theorem dX7_orders_60 : decode cX7_orders 60 = .ok (.iload 6, 2) := by decide +kernel
theorem dX7_orders_62 : decode cX7_orders 62 = .ok (.iload_n 3, 1) := by decide +kernel
theorem dX7_orders_63 : decode cX7_orders 63 = .ok (.bipush 6, 2) := by decide +kernel
theorem dX7_orders_65 : decode cX7_orders 65 = .ok (.idiv, 1) := by decide +kernel
theorem dX7_orders_66 : decode cX7_orders 66 = .ok (.iload_n 3, 1) := by decide +kernel
theorem dX7_orders_67 : decode cX7_orders 67 = .ok (.bipush 6, 2) := by decide +kernel
theorem dX7_orders_69 : decode cX7_orders 69 = .ok (.irem, 1) := by decide +kernel
theorem dX7_orders_70 : decode cX7_orders 70 = .ok (.invokevirtual 121, 3) := by decide +kernel
theorem dX7_orders_73 : decode cX7_orders 73 = .ok (.ifCond .eq 35, 3) := by decide +kernel
theorem dX7_orders_76 : decode cX7_orders 76 = .ok (.lload 4, 2) := by decide +kernel
theorem dX7_orders_78 : decode cX7_orders 78 = .ok (.aload_n 0, 1) := by decide +kernel
theorem dX7_orders_79 : decode cX7_orders 79 = .ok (.getfield 57, 3) := by decide +kernel
theorem dX7_orders_82 : decode cX7_orders 82 = .ok (.bipush 36, 2) := by decide +kernel
theorem dX7_orders_84 : decode cX7_orders 84 = .ok (.iload_n 2, 1) := by decide +kernel
theorem dX7_orders_85 : decode cX7_orders 85 = .ok (.aload_n 0, 1) := by decide +kernel
theorem dX7_orders_86 : decode cX7_orders 86 = .ok (.iload 6, 2) := by decide +kernel
theorem dX7_orders_88 : decode cX7_orders 88 = .ok (.invokevirtual 154, 3) := by decide +kernel
theorem dX7_orders_91 : decode cX7_orders 91 = .ok (.isub, 1) := by decide +kernel
theorem dX7_orders_92 : decode cX7_orders 92 = .ok (.imul, 1) := by decide +kernel
theorem dX7_orders_93 : decode cX7_orders 93 = .ok (.bipush 6, 2) := by decide +kernel
theorem dX7_orders_95 : decode cX7_orders 95 = .ok (.iload 6, 2) := by decide +kernel
theorem dX7_orders_97 : decode cX7_orders 97 = .ok (.imul, 1) := by decide +kernel
theorem dX7_orders_98 : decode cX7_orders 98 = .ok (.iadd, 1) := by decide +kernel
theorem dX7_orders_99 : decode cX7_orders 99 = .ok (.iload_n 3, 1) := by decide +kernel
theorem dX7_orders_100 : decode cX7_orders 100 = .ok (.bipush 6, 2) := by decide +kernel
theorem dX7_orders_102 : decode cX7_orders 102 = .ok (.idiv, 1) := by decide +kernel
theorem dX7_orders_103 : decode cX7_orders 103 = .ok (.iadd, 1) := by decide +kernel
theorem dX7_orders_104 : decode cX7_orders 104 = .ok (.laload, 1) := by decide +kernel
theorem dX7_orders_105 : decode cX7_orders 105 = .ok (.ladd, 1) := by decide +kernel
theorem dX7_orders_106 : decode cX7_orders 106 = .ok (.lstore 4, 2) := by decide +kernel
theorem dX7_orders_108 : decode cX7_orders 108 = .ok (.iinc 6 1, 3) := by decide +kernel
theorem dX7_orders_111 : decode cX7_orders 111 = .ok (.goto (-68), 3) := by decide +kernel
theorem dX7_orders_114 : decode cX7_orders 114 = .ok (.aload_n 0, 1) := by decide +kernel
theorem dX7_orders_115 : decode cX7_orders 115 = .ok (.getfield 57, 3) := by decide +kernel
theorem dX7_orders_118 : decode cX7_orders 118 = .ok (.bipush 36, 2) := by decide +kernel
theorem dX7_orders_120 : decode cX7_orders 120 = .ok (.iload_n 2, 1) := by decide +kernel
theorem dX7_orders_121 : decode cX7_orders 121 = .ok (.imul, 1) := by decide +kernel
theorem dX7_orders_122 : decode cX7_orders 122 = .ok (.iload_n 3, 1) := by decide +kernel
theorem dX7_orders_123 : decode cX7_orders 123 = .ok (.iadd, 1) := by decide +kernel
theorem dX7_orders_124 : decode cX7_orders 124 = .ok (.lload 4, 2) := by decide +kernel
theorem dX7_orders_126 : decode cX7_orders 126 = .ok (.lastore, 1) := by decide +kernel
theorem dX7_orders_127 : decode cX7_orders 127 = .ok (.iinc 3 1, 3) := by decide +kernel
theorem dX7_orders_130 : decode cX7_orders 130 = .ok (.goto (-107), 3) := by decide +kernel
theorem dX7_orders_133 : decode cX7_orders 133 = .ok (.iinc 2 1, 3) := by decide +kernel
theorem dX7_orders_136 : decode cX7_orders 136 = .ok (.goto (-125), 3) := by decide +kernel
theorem dX7_orders_139 : decode cX7_orders 139 = .ok (.aload_n 0, 1) := by decide +kernel
theorem dX7_orders_140 : decode cX7_orders 140 = .ok (.getfield 57, 3) := by decide +kernel
theorem dX7_orders_143 : decode cX7_orders 143 = .ok (.bipush 36, 2) := by decide +kernel
theorem dX7_orders_145 : decode cX7_orders 145 = .ok (.iload_n 1, 1) := by decide +kernel
theorem dX7_orders_146 : decode cX7_orders 146 = .ok (.iconst 1, 1) := by decide +kernel
theorem dX7_orders_147 : decode cX7_orders 147 = .ok (.isub, 1) := by decide +kernel
theorem dX7_orders_148 : decode cX7_orders 148 = .ok (.imul, 1) := by decide +kernel
theorem dX7_orders_149 : decode cX7_orders 149 = .ok (.bipush 6, 2) := by decide +kernel
theorem dX7_orders_151 : decode cX7_orders 151 = .ok (.aload_n 0, 1) := by decide +kernel
theorem dX7_orders_152 : decode cX7_orders 152 = .ok (.getfield 23, 3) := by decide +kernel
theorem dX7_orders_155 : decode cX7_orders 155 = .ok (.bipush 52, 2) := by decide +kernel
theorem dX7_orders_157 : decode cX7_orders 157 = .ok (.iaload, 1) := by decide +kernel
theorem dX7_orders_158 : decode cX7_orders 158 = .ok (.imul, 1) := by decide +kernel
theorem dX7_orders_159 : decode cX7_orders 159 = .ok (.iadd, 1) := by decide +kernel
theorem dX7_orders_160 : decode cX7_orders 160 = .ok (.aload_n 0, 1) := by decide +kernel
theorem dX7_orders_161 : decode cX7_orders 161 = .ok (.getfield 23, 3) := by decide +kernel
theorem dX7_orders_164 : decode cX7_orders 164 = .ok (.bipush 53, 2) := by decide +kernel
theorem dX7_orders_166 : decode cX7_orders 166 = .ok (.iaload, 1) := by decide +kernel
theorem dX7_orders_167 : decode cX7_orders 167 = .ok (.iadd, 1) := by decide +kernel
theorem dX7_orders_168 : decode cX7_orders 168 = .ok (.laload, 1) := by decide +kernel
theorem dX7_orders_169 : decode cX7_orders 169 = .ok (.lreturn, 1) := by decide +kernel
theorem dX7_mostOf_0 : decode cX7_mostOf 0 = .ok (.aload_n 0, 1) := by decide +kernel
theorem dX7_mostOf_1 : decode cX7_mostOf 1 = .ok (.invokevirtual 147, 3) := by decide +kernel
theorem dX7_mostOf_4 : decode cX7_mostOf 4 = .ok (.istore_n 1, 1) := by decide +kernel
theorem dX7_mostOf_5 : decode cX7_mostOf 5 = .ok (.iconst 0, 1) := by decide +kernel
theorem dX7_mostOf_6 : decode cX7_mostOf 6 = .ok (.istore_n 2, 1) := by decide +kernel
theorem dX7_mostOf_7 : decode cX7_mostOf 7 = .ok (.iload_n 2, 1) := by decide +kernel
theorem dX7_mostOf_8 : decode cX7_mostOf 8 = .ok (.iload_n 1, 1) := by decide +kernel
theorem dX7_mostOf_9 : decode cX7_mostOf 9 = .ok (.if_icmp .ge 134, 3) := by decide +kernel
theorem dX7_mostOf_12 : decode cX7_mostOf 12 = .ok (.aload_n 0, 1) := by decide +kernel
theorem dX7_mostOf_13 : decode cX7_mostOf 13 = .ok (.iload_n 2, 1) := by decide +kernel
theorem dX7_mostOf_14 : decode cX7_mostOf 14 = .ok (.invokevirtual 150, 3) := by decide +kernel
theorem dX7_mostOf_17 : decode cX7_mostOf 17 = .ok (.iconst 0, 1) := by decide +kernel
theorem dX7_mostOf_18 : decode cX7_mostOf 18 = .ok (.istore_n 3, 1) := by decide +kernel
theorem dX7_mostOf_19 : decode cX7_mostOf 19 = .ok (.iload_n 3, 1) := by decide +kernel
theorem dX7_mostOf_20 : decode cX7_mostOf 20 = .ok (.bipush 36, 2) := by decide +kernel
theorem dX7_mostOf_22 : decode cX7_mostOf 22 = .ok (.if_icmp .ge 115, 3) := by decide +kernel
theorem dX7_mostOf_25 : decode cX7_mostOf 25 = .ok (.lconst 0, 1) := by decide +kernel
theorem dX7_mostOf_26 : decode cX7_mostOf 26 = .ok (.lstore 4, 2) := by decide +kernel
theorem dX7_mostOf_28 : decode cX7_mostOf 28 = .ok (.iconst 0, 1) := by decide +kernel
theorem dX7_mostOf_29 : decode cX7_mostOf 29 = .ok (.istore 6, 2) := by decide +kernel
theorem dX7_mostOf_31 : decode cX7_mostOf 31 = .ok (.iload 6, 2) := by decide +kernel
theorem dX7_mostOf_33 : decode cX7_mostOf 33 = .ok (.iconst 5, 1) := by decide +kernel
theorem dX7_mostOf_34 : decode cX7_mostOf 34 = .ok (.if_icmp .ge 84, 3) := by decide +kernel
theorem dX7_mostOf_37 : decode cX7_mostOf 37 = .ok (.aload_n 0, 1) := by decide +kernel
theorem dX7_mostOf_38 : decode cX7_mostOf 38 = .ok (.getfield 42, 3) := by decide +kernel
theorem dX7_mostOf_41 : decode cX7_mostOf 41 = .ok (.iload 6, 2) := by decide +kernel
theorem dX7_mostOf_43 : decode cX7_mostOf 43 = .ok (.iaload, 1) := by decide +kernel
theorem dX7_mostOf_44 : decode cX7_mostOf 44 = .ok (.ifCond .le 68, 3) := by decide +kernel
theorem dX7_mostOf_47 : decode cX7_mostOf 47 = .ok (.aload_n 0, 1) := by decide +kernel
theorem dX7_mostOf_48 : decode cX7_mostOf 48 = .ok (.iload 6, 2) := by decide +kernel
theorem dX7_mostOf_50 : decode cX7_mostOf 50 = .ok (.iload_n 3, 1) := by decide +kernel
theorem dX7_mostOf_51 : decode cX7_mostOf 51 = .ok (.bipush 6, 2) := by decide +kernel
theorem dX7_mostOf_53 : decode cX7_mostOf 53 = .ok (.idiv, 1) := by decide +kernel
theorem dX7_mostOf_54 : decode cX7_mostOf 54 = .ok (.iload_n 3, 1) := by decide +kernel
theorem dX7_mostOf_55 : decode cX7_mostOf 55 = .ok (.bipush 6, 2) := by decide +kernel
theorem dX7_mostOf_57 : decode cX7_mostOf 57 = .ok (.irem, 1) := by decide +kernel
theorem dX7_mostOf_58 : decode cX7_mostOf 58 = .ok (.invokevirtual 121, 3) := by decide +kernel
theorem dX7_mostOf_61 : decode cX7_mostOf 61 = .ok (.ifCond .eq 51, 3) := by decide +kernel
theorem dX7_mostOf_64 : decode cX7_mostOf 64 = .ok (.lconst 1, 1) := by decide +kernel
theorem dX7_mostOf_65 : decode cX7_mostOf 65 = .ok (.aload_n 0, 1) := by decide +kernel
theorem dX7_mostOf_66 : decode cX7_mostOf 66 = .ok (.getfield 57, 3) := by decide +kernel
theorem dX7_mostOf_69 : decode cX7_mostOf 69 = .ok (.bipush 36, 2) := by decide +kernel
theorem dX7_mostOf_71 : decode cX7_mostOf 71 = .ok (.iload_n 2, 1) := by decide +kernel
theorem dX7_mostOf_72 : decode cX7_mostOf 72 = .ok (.aload_n 0, 1) := by decide +kernel
theorem dX7_mostOf_73 : decode cX7_mostOf 73 = .ok (.iload 6, 2) := by decide +kernel
theorem dX7_mostOf_75 : decode cX7_mostOf 75 = .ok (.invokevirtual 154, 3) := by decide +kernel
theorem dX7_mostOf_78 : decode cX7_mostOf 78 = .ok (.isub, 1) := by decide +kernel
theorem dX7_mostOf_79 : decode cX7_mostOf 79 = .ok (.imul, 1) := by decide +kernel
theorem dX7_mostOf_80 : decode cX7_mostOf 80 = .ok (.bipush 6, 2) := by decide +kernel
theorem dX7_mostOf_82 : decode cX7_mostOf 82 = .ok (.iload 6, 2) := by decide +kernel
theorem dX7_mostOf_84 : decode cX7_mostOf 84 = .ok (.imul, 1) := by decide +kernel
theorem dX7_mostOf_85 : decode cX7_mostOf 85 = .ok (.iadd, 1) := by decide +kernel
theorem dX7_mostOf_86 : decode cX7_mostOf 86 = .ok (.iload_n 3, 1) := by decide +kernel
theorem dX7_mostOf_87 : decode cX7_mostOf 87 = .ok (.bipush 6, 2) := by decide +kernel
theorem dX7_mostOf_89 : decode cX7_mostOf 89 = .ok (.idiv, 1) := by decide +kernel
theorem dX7_mostOf_90 : decode cX7_mostOf 90 = .ok (.iadd, 1) := by decide +kernel
theorem dX7_mostOf_91 : decode cX7_mostOf 91 = .ok (.laload, 1) := by decide +kernel
theorem dX7_mostOf_92 : decode cX7_mostOf 92 = .ok (.ladd, 1) := by decide +kernel
theorem dX7_mostOf_93 : decode cX7_mostOf 93 = .ok (.lstore 7, 2) := by decide +kernel
theorem dX7_mostOf_95 : decode cX7_mostOf 95 = .ok (.lload 7, 2) := by decide +kernel
theorem dX7_mostOf_97 : decode cX7_mostOf 97 = .ok (.lload 4, 2) := by decide +kernel
theorem dX7_mostOf_99 : decode cX7_mostOf 99 = .ok (.lcmp, 1) := by decide +kernel
theorem dX7_mostOf_100 : decode cX7_mostOf 100 = .ok (.ifCond .le 8, 3) := by decide +kernel
theorem dX7_mostOf_103 : decode cX7_mostOf 103 = .ok (.lload 7, 2) := by decide +kernel
theorem dX7_mostOf_105 : decode cX7_mostOf 105 = .ok (.goto 5, 3) := by decide +kernel
theorem dX7_mostOf_108 : decode cX7_mostOf 108 = .ok (.lload 4, 2) := by decide +kernel
theorem dX7_mostOf_110 : decode cX7_mostOf 110 = .ok (.lstore 4, 2) := by decide +kernel
theorem dX7_mostOf_112 : decode cX7_mostOf 112 = .ok (.iinc 6 1, 3) := by decide +kernel
theorem dX7_mostOf_115 : decode cX7_mostOf 115 = .ok (.goto (-84), 3) := by decide +kernel
theorem dX7_mostOf_118 : decode cX7_mostOf 118 = .ok (.aload_n 0, 1) := by decide +kernel
theorem dX7_mostOf_119 : decode cX7_mostOf 119 = .ok (.getfield 57, 3) := by decide +kernel
theorem dX7_mostOf_122 : decode cX7_mostOf 122 = .ok (.bipush 36, 2) := by decide +kernel
theorem dX7_mostOf_124 : decode cX7_mostOf 124 = .ok (.iload_n 2, 1) := by decide +kernel
theorem dX7_mostOf_125 : decode cX7_mostOf 125 = .ok (.imul, 1) := by decide +kernel
theorem dX7_mostOf_126 : decode cX7_mostOf 126 = .ok (.iload_n 3, 1) := by decide +kernel
theorem dX7_mostOf_127 : decode cX7_mostOf 127 = .ok (.iadd, 1) := by decide +kernel
theorem dX7_mostOf_128 : decode cX7_mostOf 128 = .ok (.lload 4, 2) := by decide +kernel
theorem dX7_mostOf_130 : decode cX7_mostOf 130 = .ok (.lastore, 1) := by decide +kernel
theorem dX7_mostOf_131 : decode cX7_mostOf 131 = .ok (.iinc 3 1, 3) := by decide +kernel
theorem dX7_mostOf_134 : decode cX7_mostOf 134 = .ok (.goto (-115), 3) := by decide +kernel
theorem dX7_mostOf_137 : decode cX7_mostOf 137 = .ok (.iinc 2 1, 3) := by decide +kernel
theorem dX7_mostOf_140 : decode cX7_mostOf 140 = .ok (.goto (-133), 3) := by decide +kernel
theorem dX7_mostOf_143 : decode cX7_mostOf 143 = .ok (.aload_n 0, 1) := by decide +kernel
theorem dX7_mostOf_144 : decode cX7_mostOf 144 = .ok (.getfield 57, 3) := by decide +kernel
theorem dX7_mostOf_147 : decode cX7_mostOf 147 = .ok (.bipush 36, 2) := by decide +kernel
theorem dX7_mostOf_149 : decode cX7_mostOf 149 = .ok (.iload_n 1, 1) := by decide +kernel
theorem dX7_mostOf_150 : decode cX7_mostOf 150 = .ok (.iconst 1, 1) := by decide +kernel
theorem dX7_mostOf_151 : decode cX7_mostOf 151 = .ok (.isub, 1) := by decide +kernel
theorem dX7_mostOf_152 : decode cX7_mostOf 152 = .ok (.imul, 1) := by decide +kernel
theorem dX7_mostOf_153 : decode cX7_mostOf 153 = .ok (.bipush 6, 2) := by decide +kernel
theorem dX7_mostOf_155 : decode cX7_mostOf 155 = .ok (.aload_n 0, 1) := by decide +kernel
theorem dX7_mostOf_156 : decode cX7_mostOf 156 = .ok (.getfield 23, 3) := by decide +kernel
theorem dX7_mostOf_159 : decode cX7_mostOf 159 = .ok (.bipush 52, 2) := by decide +kernel
theorem dX7_mostOf_161 : decode cX7_mostOf 161 = .ok (.iaload, 1) := by decide +kernel
theorem dX7_mostOf_162 : decode cX7_mostOf 162 = .ok (.imul, 1) := by decide +kernel
theorem dX7_mostOf_163 : decode cX7_mostOf 163 = .ok (.iadd, 1) := by decide +kernel
theorem dX7_mostOf_164 : decode cX7_mostOf 164 = .ok (.aload_n 0, 1) := by decide +kernel
theorem dX7_mostOf_165 : decode cX7_mostOf 165 = .ok (.getfield 23, 3) := by decide +kernel
theorem dX7_mostOf_168 : decode cX7_mostOf 168 = .ok (.bipush 53, 2) := by decide +kernel
theorem dX7_mostOf_170 : decode cX7_mostOf 170 = .ok (.iaload, 1) := by decide +kernel
theorem dX7_mostOf_171 : decode cX7_mostOf 171 = .ok (.iadd, 1) := by decide +kernel
theorem dX7_mostOf_172 : decode cX7_mostOf 172 = .ok (.laload, 1) := by decide +kernel
theorem dX7_mostOf_173 : decode cX7_mostOf 173 = .ok (.l2i, 1) := by decide +kernel
theorem dX7_mostOf_174 : decode cX7_mostOf 174 = .ok (.ireturn, 1) := by decide +kernel
theorem dX7_earliest_0 : decode cX7_earliest 0 = .ok (.iconst 1, 1) := by decide +kernel
theorem dX7_earliest_1 : decode cX7_earliest 1 = .ok (.aload_n 0, 1) := by decide +kernel
theorem dX7_earliest_2 : decode cX7_earliest 2 = .ok (.getfield 23, 3) := by decide +kernel
theorem dX7_earliest_5 : decode cX7_earliest 5 = .ok (.bipush 50, 2) := by decide +kernel
theorem dX7_earliest_7 : decode cX7_earliest 7 = .ok (.iaload, 1) := by decide +kernel
theorem dX7_earliest_8 : decode cX7_earliest 8 = .ok (.ishl, 1) := by decide +kernel
theorem dX7_earliest_9 : decode cX7_earliest 9 = .ok (.istore 4, 2) := by decide +kernel
theorem dX7_earliest_11 : decode cX7_earliest 11 = .ok (.iconst 0, 1) := by decide +kernel
theorem dX7_earliest_12 : decode cX7_earliest 12 = .ok (.istore 5, 2) := by decide +kernel
theorem dX7_earliest_14 : decode cX7_earliest 14 = .ok (.iload 5, 2) := by decide +kernel
theorem dX7_earliest_16 : decode cX7_earliest 16 = .ok (.bipush 36, 2) := by decide +kernel
theorem dX7_earliest_18 : decode cX7_earliest 18 = .ok (.iload 4, 2) := by decide +kernel
theorem dX7_earliest_20 : decode cX7_earliest 20 = .ok (.imul, 1) := by decide +kernel
theorem dX7_earliest_21 : decode cX7_earliest 21 = .ok (.if_icmp .ge 18, 3) := by decide +kernel
theorem dX7_earliest_24 : decode cX7_earliest 24 = .ok (.aload_n 0, 1) := by decide +kernel
theorem dX7_earliest_25 : decode cX7_earliest 25 = .ok (.getfield 30, 3) := by decide +kernel
theorem dX7_earliest_28 : decode cX7_earliest 28 = .ok (.iload 5, 2) := by decide +kernel
theorem dX7_earliest_30 : decode cX7_earliest 30 = .ok (.ldc 158, 2) := by decide +kernel
theorem dX7_earliest_32 : decode cX7_earliest 32 = .ok (.iastore, 1) := by decide +kernel
theorem dX7_earliest_33 : decode cX7_earliest 33 = .ok (.iinc 5 1, 3) := by decide +kernel
theorem dX7_earliest_36 : decode cX7_earliest 36 = .ok (.goto (-22), 3) := by decide +kernel
theorem dX7_earliest_39 : decode cX7_earliest 39 = .ok (.aload_n 0, 1) := by decide +kernel
theorem dX7_earliest_40 : decode cX7_earliest 40 = .ok (.getfield 30, 3) := by decide +kernel
theorem dX7_earliest_43 : decode cX7_earliest 43 = .ok (.bipush 6, 2) := by decide +kernel
theorem dX7_earliest_45 : decode cX7_earliest 45 = .ok (.iload_n 2, 1) := by decide +kernel
theorem dX7_earliest_46 : decode cX7_earliest 46 = .ok (.imul, 1) := by decide +kernel
theorem dX7_earliest_47 : decode cX7_earliest 47 = .ok (.iload_n 3, 1) := by decide +kernel
theorem dX7_earliest_48 : decode cX7_earliest 48 = .ok (.iadd, 1) := by decide +kernel
theorem dX7_earliest_49 : decode cX7_earliest 49 = .ok (.iload_n 1, 1) := by decide +kernel
theorem dX7_earliest_50 : decode cX7_earliest 50 = .ok (.iastore, 1) := by decide +kernel
theorem dX7_earliest_51 : decode cX7_earliest 51 = .ok (.iconst 0, 1) := by decide +kernel
theorem dX7_earliest_52 : decode cX7_earliest 52 = .ok (.istore 5, 2) := by decide +kernel
theorem dX7_earliest_54 : decode cX7_earliest 54 = .ok (.iload 5, 2) := by decide +kernel
theorem dX7_earliest_56 : decode cX7_earliest 56 = .ok (.bipush 36, 2) := by decide +kernel
theorem dX7_earliest_58 : decode cX7_earliest 58 = .ok (.iload 4, 2) := by decide +kernel
theorem dX7_earliest_60 : decode cX7_earliest 60 = .ok (.imul, 1) := by decide +kernel
theorem dX7_earliest_61 : decode cX7_earliest 61 = .ok (.if_icmp .ge 171, 3) := by decide +kernel
theorem dX7_earliest_64 : decode cX7_earliest 64 = .ok (.iload 5, 2) := by decide +kernel
theorem dX7_earliest_66 : decode cX7_earliest 66 = .ok (.bipush 36, 2) := by decide +kernel
theorem dX7_earliest_68 : decode cX7_earliest 68 = .ok (.idiv, 1) := by decide +kernel
theorem dX7_earliest_69 : decode cX7_earliest 69 = .ok (.istore 6, 2) := by decide +kernel
theorem dX7_earliest_71 : decode cX7_earliest 71 = .ok (.iload 5, 2) := by decide +kernel
theorem dX7_earliest_73 : decode cX7_earliest 73 = .ok (.bipush 36, 2) := by decide +kernel
theorem dX7_earliest_75 : decode cX7_earliest 75 = .ok (.irem, 1) := by decide +kernel
theorem dX7_earliest_76 : decode cX7_earliest 76 = .ok (.bipush 6, 2) := by decide +kernel
theorem dX7_earliest_78 : decode cX7_earliest 78 = .ok (.idiv, 1) := by decide +kernel
theorem dX7_earliest_79 : decode cX7_earliest 79 = .ok (.istore 7, 2) := by decide +kernel
theorem dX7_earliest_81 : decode cX7_earliest 81 = .ok (.iconst 0, 1) := by decide +kernel
theorem dX7_earliest_82 : decode cX7_earliest 82 = .ok (.istore 8, 2) := by decide +kernel
theorem dX7_earliest_84 : decode cX7_earliest 84 = .ok (.iload 8, 2) := by decide +kernel
theorem dX7_earliest_86 : decode cX7_earliest 86 = .ok (.aload_n 0, 1) := by decide +kernel
theorem dX7_earliest_87 : decode cX7_earliest 87 = .ok (.getfield 23, 3) := by decide +kernel
theorem dX7_earliest_90 : decode cX7_earliest 90 = .ok (.bipush 50, 2) := by decide +kernel
theorem dX7_earliest_92 : decode cX7_earliest 92 = .ok (.iaload, 1) := by decide +kernel
theorem dX7_earliest_93 : decode cX7_earliest 93 = .ok (.if_icmp .ge 133, 3) := by decide +kernel
theorem dX7_earliest_96 : decode cX7_earliest 96 = .ok (.aload_n 0, 1) := by decide +kernel
theorem dX7_earliest_97 : decode cX7_earliest 97 = .ok (.getfield 30, 3) := by decide +kernel
theorem dX7_earliest_100 : decode cX7_earliest 100 = .ok (.iload 5, 2) := by decide +kernel
theorem dX7_earliest_102 : decode cX7_earliest 102 = .ok (.iaload, 1) := by decide +kernel
theorem dX7_earliest_103 : decode cX7_earliest 103 = .ok (.ldc 158, 2) := by decide +kernel
theorem dX7_earliest_105 : decode cX7_earliest 105 = .ok (.if_icmp .ge 121, 3) := by decide +kernel
theorem dX7_earliest_108 : decode cX7_earliest 108 = .ok (.iload 6, 2) := by decide +kernel
theorem dX7_earliest_110 : decode cX7_earliest 110 = .ok (.iload 8, 2) := by decide +kernel
theorem dX7_earliest_112 : decode cX7_earliest 112 = .ok (.ishr, 1) := by decide +kernel
theorem dX7_earliest_113 : decode cX7_earliest 113 = .ok (.iconst 1, 1) := by decide +kernel
theorem dX7_earliest_114 : decode cX7_earliest 114 = .ok (.iand, 1) := by decide +kernel
theorem dX7_earliest_115 : decode cX7_earliest 115 = .ok (.ifCond .ne 105, 3) := by decide +kernel
theorem dX7_earliest_118 : decode cX7_earliest 118 = .ok (.aload_n 0, 1) := by decide +kernel
theorem dX7_earliest_119 : decode cX7_earliest 119 = .ok (.iload 8, 2) := by decide +kernel
theorem dX7_earliest_121 : decode cX7_earliest 121 = .ok (.invokevirtual 125, 3) := by decide +kernel
theorem dX7_earliest_124 : decode cX7_earliest 124 = .ok (.ifCond .eq 96, 3) := by decide +kernel
theorem dX7_earliest_127 : decode cX7_earliest 127 = .ok (.aload_n 0, 1) := by decide +kernel
theorem dX7_earliest_128 : decode cX7_earliest 128 = .ok (.aload_n 0, 1) := by decide +kernel
theorem dX7_earliest_129 : decode cX7_earliest 129 = .ok (.iload 8, 2) := by decide +kernel
theorem dX7_earliest_131 : decode cX7_earliest 131 = .ok (.iconst 0, 1) := by decide +kernel
theorem dX7_earliest_132 : decode cX7_earliest 132 = .ok (.invokevirtual 114, 3) := by decide +kernel
theorem dX7_earliest_135 : decode cX7_earliest 135 = .ok (.iload 7, 2) := by decide +kernel
theorem dX7_earliest_137 : decode cX7_earliest 137 = .ok (.iload 5, 2) := by decide +kernel
theorem dX7_earliest_139 : decode cX7_earliest 139 = .ok (.bipush 6, 2) := by decide +kernel
theorem dX7_earliest_141 : decode cX7_earliest 141 = .ok (.irem, 1) := by decide +kernel
theorem dX7_earliest_142 : decode cX7_earliest 142 = .ok (.invokevirtual 121, 3) := by decide +kernel
theorem dX7_earliest_145 : decode cX7_earliest 145 = .ok (.ifCond .eq 75, 3) := by decide +kernel
theorem dX7_earliest_148 : decode cX7_earliest 148 = .ok (.bipush 36, 2) := by decide +kernel
theorem dX7_earliest_150 : decode cX7_earliest 150 = .ok (.iload 6, 2) := by decide +kernel
theorem dX7_earliest_152 : decode cX7_earliest 152 = .ok (.iconst 1, 1) := by decide +kernel
theorem dX7_earliest_153 : decode cX7_earliest 153 = .ok (.iload 8, 2) := by decide +kernel
theorem dX7_earliest_155 : decode cX7_earliest 155 = .ok (.ishl, 1) := by decide +kernel
theorem dX7_earliest_156 : decode cX7_earliest 156 = .ok (.ior, 1) := by decide +kernel
theorem dX7_earliest_157 : decode cX7_earliest 157 = .ok (.imul, 1) := by decide +kernel
theorem dX7_earliest_158 : decode cX7_earliest 158 = .ok (.bipush 6, 2) := by decide +kernel
theorem dX7_earliest_160 : decode cX7_earliest 160 = .ok (.aload_n 0, 1) := by decide +kernel
theorem dX7_earliest_161 : decode cX7_earliest 161 = .ok (.iload 8, 2) := by decide +kernel
theorem dX7_earliest_163 : decode cX7_earliest 163 = .ok (.iconst 0, 1) := by decide +kernel
theorem dX7_earliest_164 : decode cX7_earliest 164 = .ok (.invokevirtual 114, 3) := by decide +kernel
theorem dX7_earliest_167 : decode cX7_earliest 167 = .ok (.imul, 1) := by decide +kernel
theorem dX7_earliest_168 : decode cX7_earliest 168 = .ok (.iadd, 1) := by decide +kernel
theorem dX7_earliest_169 : decode cX7_earliest 169 = .ok (.iload 7, 2) := by decide +kernel
theorem dX7_earliest_171 : decode cX7_earliest 171 = .ok (.iadd, 1) := by decide +kernel
theorem dX7_earliest_172 : decode cX7_earliest 172 = .ok (.istore 9, 2) := by decide +kernel
theorem dX7_earliest_174 : decode cX7_earliest 174 = .ok (.aload_n 0, 1) := by decide +kernel
theorem dX7_earliest_175 : decode cX7_earliest 175 = .ok (.aload_n 0, 1) := by decide +kernel
theorem dX7_earliest_176 : decode cX7_earliest 176 = .ok (.getfield 30, 3) := by decide +kernel
theorem dX7_earliest_179 : decode cX7_earliest 179 = .ok (.iload 5, 2) := by decide +kernel
theorem dX7_earliest_181 : decode cX7_earliest 181 = .ok (.iaload, 1) := by decide +kernel
theorem dX7_earliest_182 : decode cX7_earliest 182 = .ok (.iload 8, 2) := by decide +kernel
theorem dX7_earliest_184 : decode cX7_earliest 184 = .ok (.invokevirtual 138, 3) := by decide +kernel
theorem dX7_earliest_187 : decode cX7_earliest 187 = .ok (.istore 10, 2) := by decide +kernel
theorem dX7_earliest_189 : decode cX7_earliest 189 = .ok (.aload_n 0, 1) := by decide +kernel
theorem dX7_earliest_190 : decode cX7_earliest 190 = .ok (.getfield 30, 3) := by decide +kernel
theorem dX7_earliest_193 : decode cX7_earliest 193 = .ok (.iload 9, 2) := by decide +kernel
theorem dX7_earliest_195 : decode cX7_earliest 195 = .ok (.iload 10, 2) := by decide +kernel
theorem dX7_earliest_197 : decode cX7_earliest 197 = .ok (.aload_n 0, 1) := by decide +kernel
theorem dX7_earliest_198 : decode cX7_earliest 198 = .ok (.getfield 30, 3) := by decide +kernel
theorem dX7_earliest_201 : decode cX7_earliest 201 = .ok (.iload 9, 2) := by decide +kernel
theorem dX7_earliest_203 : decode cX7_earliest 203 = .ok (.iaload, 1) := by decide +kernel
theorem dX7_earliest_204 : decode cX7_earliest 204 = .ok (.if_icmp .ge 8, 3) := by decide +kernel
theorem dX7_earliest_207 : decode cX7_earliest 207 = .ok (.iload 10, 2) := by decide +kernel
theorem dX7_earliest_209 : decode cX7_earliest 209 = .ok (.goto 10, 3) := by decide +kernel
theorem dX7_earliest_212 : decode cX7_earliest 212 = .ok (.aload_n 0, 1) := by decide +kernel
theorem dX7_earliest_213 : decode cX7_earliest 213 = .ok (.getfield 30, 3) := by decide +kernel
theorem dX7_earliest_216 : decode cX7_earliest 216 = .ok (.iload 9, 2) := by decide +kernel
theorem dX7_earliest_218 : decode cX7_earliest 218 = .ok (.iaload, 1) := by decide +kernel
theorem dX7_earliest_219 : decode cX7_earliest 219 = .ok (.iastore, 1) := by decide +kernel
theorem dX7_earliest_220 : decode cX7_earliest 220 = .ok (.iinc 8 1, 3) := by decide +kernel
theorem dX7_earliest_223 : decode cX7_earliest 223 = .ok (.goto (-139), 3) := by decide +kernel
theorem dX7_earliest_226 : decode cX7_earliest 226 = .ok (.iinc 5 1, 3) := by decide +kernel
theorem dX7_earliest_229 : decode cX7_earliest 229 = .ok (.goto (-175), 3) := by decide +kernel
theorem dX7_earliest_232 : decode cX7_earliest 232 = .ok (.return_, 1) := by decide +kernel
theorem dX7_soonestOf_0 : decode cX7_soonestOf 0 = .ok (.ldc 158, 2) := by decide +kernel
theorem dX7_soonestOf_2 : decode cX7_soonestOf 2 = .ok (.istore_n 2, 1) := by decide +kernel
theorem dX7_soonestOf_3 : decode cX7_soonestOf 3 = .ok (.iconst 0, 1) := by decide +kernel
theorem dX7_soonestOf_4 : decode cX7_soonestOf 4 = .ok (.istore_n 3, 1) := by decide +kernel
theorem dX7_soonestOf_5 : decode cX7_soonestOf 5 = .ok (.iload_n 3, 1) := by decide +kernel
theorem dX7_soonestOf_6 : decode cX7_soonestOf 6 = .ok (.bipush 36, 2) := by decide +kernel
theorem dX7_soonestOf_8 : decode cX7_soonestOf 8 = .ok (.if_icmp .ge 35, 3) := by decide +kernel
theorem dX7_soonestOf_11 : decode cX7_soonestOf 11 = .ok (.aload_n 0, 1) := by decide +kernel
theorem dX7_soonestOf_12 : decode cX7_soonestOf 12 = .ok (.getfield 30, 3) := by decide +kernel
theorem dX7_soonestOf_15 : decode cX7_soonestOf 15 = .ok (.bipush 36, 2) := by decide +kernel
theorem dX7_soonestOf_17 : decode cX7_soonestOf 17 = .ok (.iload_n 1, 1) := by decide +kernel
theorem dX7_soonestOf_18 : decode cX7_soonestOf 18 = .ok (.imul, 1) := by decide +kernel
theorem dX7_soonestOf_19 : decode cX7_soonestOf 19 = .ok (.iload_n 3, 1) := by decide +kernel
theorem dX7_soonestOf_20 : decode cX7_soonestOf 20 = .ok (.iadd, 1) := by decide +kernel
theorem dX7_soonestOf_21 : decode cX7_soonestOf 21 = .ok (.iaload, 1) := by decide +kernel
theorem dX7_soonestOf_22 : decode cX7_soonestOf 22 = .ok (.istore 4, 2) := by decide +kernel
theorem dX7_soonestOf_24 : decode cX7_soonestOf 24 = .ok (.iload 4, 2) := by decide +kernel
theorem dX7_soonestOf_26 : decode cX7_soonestOf 26 = .ok (.iload_n 2, 1) := by decide +kernel
theorem dX7_soonestOf_27 : decode cX7_soonestOf 27 = .ok (.if_icmp .ge 8, 3) := by decide +kernel
theorem dX7_soonestOf_30 : decode cX7_soonestOf 30 = .ok (.iload 4, 2) := by decide +kernel
theorem dX7_soonestOf_32 : decode cX7_soonestOf 32 = .ok (.goto 4, 3) := by decide +kernel
theorem dX7_soonestOf_35 : decode cX7_soonestOf 35 = .ok (.iload_n 2, 1) := by decide +kernel
theorem dX7_soonestOf_36 : decode cX7_soonestOf 36 = .ok (.istore_n 2, 1) := by decide +kernel
theorem dX7_soonestOf_37 : decode cX7_soonestOf 37 = .ok (.iinc 3 1, 3) := by decide +kernel
theorem dX7_soonestOf_40 : decode cX7_soonestOf 40 = .ok (.goto (-35), 3) := by decide +kernel
theorem dX7_soonestOf_43 : decode cX7_soonestOf 43 = .ok (.iload_n 2, 1) := by decide +kernel
theorem dX7_soonestOf_44 : decode cX7_soonestOf 44 = .ok (.ireturn, 1) := by decide +kernel
theorem dX7_bits_0 : decode cX7_bits 0 = .ok (.iconst 0, 1) := by decide +kernel
theorem dX7_bits_1 : decode cX7_bits 1 = .ok (.istore_n 1, 1) := by decide +kernel
theorem dX7_bits_2 : decode cX7_bits 2 = .ok (.iconst 0, 1) := by decide +kernel
theorem dX7_bits_3 : decode cX7_bits 3 = .ok (.istore_n 2, 1) := by decide +kernel
theorem dX7_bits_4 : decode cX7_bits 4 = .ok (.iload_n 2, 1) := by decide +kernel
theorem dX7_bits_5 : decode cX7_bits 5 = .ok (.bipush 10, 2) := by decide +kernel
theorem dX7_bits_7 : decode cX7_bits 7 = .ok (.if_icmp .ge 17, 3) := by decide +kernel
theorem dX7_bits_10 : decode cX7_bits 10 = .ok (.iload_n 1, 1) := by decide +kernel
theorem dX7_bits_11 : decode cX7_bits 11 = .ok (.iload_n 0, 1) := by decide +kernel
theorem dX7_bits_12 : decode cX7_bits 12 = .ok (.iload_n 2, 1) := by decide +kernel
theorem dX7_bits_13 : decode cX7_bits 13 = .ok (.ishr, 1) := by decide +kernel
theorem dX7_bits_14 : decode cX7_bits 14 = .ok (.iconst 1, 1) := by decide +kernel
theorem dX7_bits_15 : decode cX7_bits 15 = .ok (.iand, 1) := by decide +kernel
theorem dX7_bits_16 : decode cX7_bits 16 = .ok (.iadd, 1) := by decide +kernel
theorem dX7_bits_17 : decode cX7_bits 17 = .ok (.istore_n 1, 1) := by decide +kernel
theorem dX7_bits_18 : decode cX7_bits 18 = .ok (.iinc 2 1, 3) := by decide +kernel
theorem dX7_bits_21 : decode cX7_bits 21 = .ok (.goto (-17), 3) := by decide +kernel
theorem dX7_bits_24 : decode cX7_bits 24 = .ok (.iload_n 1, 1) := by decide +kernel
theorem dX7_bits_25 : decode cX7_bits 25 = .ok (.ireturn, 1) := by decide +kernel
theorem dX7_firstMost_0 : decode cX7_firstMost 0 = .ok (.aload_n 0, 1) := by decide +kernel
theorem dX7_firstMost_1 : decode cX7_firstMost 1 = .ok (.invokevirtual 144, 3) := by decide +kernel
theorem dX7_firstMost_4 : decode cX7_firstMost 4 = .ok (.aload_n 0, 1) := by decide +kernel
theorem dX7_firstMost_5 : decode cX7_firstMost 5 = .ok (.aload_n 0, 1) := by decide +kernel
theorem dX7_firstMost_6 : decode cX7_firstMost 6 = .ok (.invokevirtual 159, 3) := by decide +kernel
theorem dX7_firstMost_9 : decode cX7_firstMost 9 = .ok (.putfield 162, 3) := by decide +kernel
theorem dX7_firstMost_12 : decode cX7_firstMost 12 = .ok (.aload_n 0, 1) := by decide +kernel
theorem dX7_firstMost_13 : decode cX7_firstMost 13 = .ok (.getfield 23, 3) := by decide +kernel
theorem dX7_firstMost_16 : decode cX7_firstMost 16 = .ok (.bipush 52, 2) := by decide +kernel
theorem dX7_firstMost_18 : decode cX7_firstMost 18 = .ok (.iaload, 1) := by decide +kernel
theorem dX7_firstMost_19 : decode cX7_firstMost 19 = .ok (.istore_n 1, 1) := by decide +kernel
theorem dX7_firstMost_20 : decode cX7_firstMost 20 = .ok (.aload_n 0, 1) := by decide +kernel
theorem dX7_firstMost_21 : decode cX7_firstMost 21 = .ok (.getfield 23, 3) := by decide +kernel
theorem dX7_firstMost_24 : decode cX7_firstMost 24 = .ok (.bipush 53, 2) := by decide +kernel
theorem dX7_firstMost_26 : decode cX7_firstMost 26 = .ok (.iaload, 1) := by decide +kernel
theorem dX7_firstMost_27 : decode cX7_firstMost 27 = .ok (.istore_n 2, 1) := by decide +kernel
theorem dX7_firstMost_28 : decode cX7_firstMost 28 = .ok (.aload_n 0, 1) := by decide +kernel
theorem dX7_firstMost_29 : decode cX7_firstMost 29 = .ok (.invokevirtual 147, 3) := by decide +kernel
theorem dX7_firstMost_32 : decode cX7_firstMost 32 = .ok (.iconst 1, 1) := by decide +kernel
theorem dX7_firstMost_33 : decode cX7_firstMost 33 = .ok (.isub, 1) := by decide +kernel
theorem dX7_firstMost_34 : decode cX7_firstMost 34 = .ok (.istore_n 3, 1) := by decide +kernel
theorem dX7_firstMost_35 : decode cX7_firstMost 35 = .ok (.iconst 0, 1) := by decide +kernel
theorem dX7_firstMost_36 : decode cX7_firstMost 36 = .ok (.istore 4, 2) := by decide +kernel
theorem dX7_firstMost_38 : decode cX7_firstMost 38 = .ok (.iconst 0, 1) := by decide +kernel
theorem dX7_firstMost_39 : decode cX7_firstMost 39 = .ok (.istore 5, 2) := by decide +kernel
theorem dX7_firstMost_41 : decode cX7_firstMost 41 = .ok (.iload 5, 2) := by decide +kernel
theorem dX7_firstMost_43 : decode cX7_firstMost 43 = .ok (.aload_n 0, 1) := by decide +kernel
theorem dX7_firstMost_44 : decode cX7_firstMost 44 = .ok (.getfield 162, 3) := by decide +kernel
theorem dX7_firstMost_47 : decode cX7_firstMost 47 = .ok (.if_icmp .ge 168, 3) := by decide +kernel
theorem dX7_firstMost_50 : decode cX7_firstMost 50 = .ok (.iconst (-1), 1) := by decide +kernel
theorem dX7_firstMost_51 : decode cX7_firstMost 51 = .ok (.istore 6, 2) := by decide +kernel
theorem dX7_firstMost_53 : decode cX7_firstMost 53 = .ok (.aload_n 0, 1) := by decide +kernel
theorem dX7_firstMost_54 : decode cX7_firstMost 54 = .ok (.getfield 23, 3) := by decide +kernel
theorem dX7_firstMost_57 : decode cX7_firstMost 57 = .ok (.bipush 50, 2) := by decide +kernel
theorem dX7_firstMost_59 : decode cX7_firstMost 59 = .ok (.iaload, 1) := by decide +kernel
theorem dX7_firstMost_60 : decode cX7_firstMost 60 = .ok (.iconst 1, 1) := by decide +kernel
theorem dX7_firstMost_61 : decode cX7_firstMost 61 = .ok (.isub, 1) := by decide +kernel
theorem dX7_firstMost_62 : decode cX7_firstMost 62 = .ok (.istore 7, 2) := by decide +kernel
theorem dX7_firstMost_64 : decode cX7_firstMost 64 = .ok (.iload 7, 2) := by decide +kernel
theorem dX7_firstMost_66 : decode cX7_firstMost 66 = .ok (.ifCond .lt 107, 3) := by decide +kernel
theorem dX7_firstMost_69 : decode cX7_firstMost 69 = .ok (.aload_n 0, 1) := by decide +kernel
theorem dX7_firstMost_70 : decode cX7_firstMost 70 = .ok (.iload 7, 2) := by decide +kernel
theorem dX7_firstMost_72 : decode cX7_firstMost 72 = .ok (.iconst 0, 1) := by decide +kernel
theorem dX7_firstMost_73 : decode cX7_firstMost 73 = .ok (.invokevirtual 114, 3) := by decide +kernel
theorem dX7_firstMost_76 : decode cX7_firstMost 76 = .ok (.istore 8, 2) := by decide +kernel
theorem dX7_firstMost_78 : decode cX7_firstMost 78 = .ok (.aload_n 0, 1) := by decide +kernel
theorem dX7_firstMost_79 : decode cX7_firstMost 79 = .ok (.iload 7, 2) := by decide +kernel
theorem dX7_firstMost_81 : decode cX7_firstMost 81 = .ok (.invokevirtual 125, 3) := by decide +kernel
theorem dX7_firstMost_84 : decode cX7_firstMost 84 = .ok (.ifCond .eq 28, 3) := by decide +kernel
theorem dX7_firstMost_87 : decode cX7_firstMost 87 = .ok (.iload 4, 2) := by decide +kernel
theorem dX7_firstMost_89 : decode cX7_firstMost 89 = .ok (.iload 7, 2) := by decide +kernel
theorem dX7_firstMost_91 : decode cX7_firstMost 91 = .ok (.ishr, 1) := by decide +kernel
theorem dX7_firstMost_92 : decode cX7_firstMost 92 = .ok (.iconst 1, 1) := by decide +kernel
theorem dX7_firstMost_93 : decode cX7_firstMost 93 = .ok (.iand, 1) := by decide +kernel
theorem dX7_firstMost_94 : decode cX7_firstMost 94 = .ok (.ifCond .ne 18, 3) := by decide +kernel
theorem dX7_firstMost_97 : decode cX7_firstMost 97 = .ok (.aload_n 0, 1) := by decide +kernel
theorem dX7_firstMost_98 : decode cX7_firstMost 98 = .ok (.iload 8, 2) := by decide +kernel
theorem dX7_firstMost_100 : decode cX7_firstMost 100 = .ok (.iload_n 1, 1) := by decide +kernel
theorem dX7_firstMost_101 : decode cX7_firstMost 101 = .ok (.iload_n 2, 1) := by decide +kernel
theorem dX7_firstMost_102 : decode cX7_firstMost 102 = .ok (.invokevirtual 121, 3) := by decide +kernel
theorem dX7_firstMost_105 : decode cX7_firstMost 105 = .ok (.ifCond .eq 7, 3) := by decide +kernel
theorem dX7_firstMost_108 : decode cX7_firstMost 108 = .ok (.iconst 1, 1) := by decide +kernel
theorem dX7_firstMost_109 : decode cX7_firstMost 109 = .ok (.goto 4, 3) := by decide +kernel
theorem dX7_firstMost_112 : decode cX7_firstMost 112 = .ok (.iconst 0, 1) := by decide +kernel
theorem dX7_firstMost_113 : decode cX7_firstMost 113 = .ok (.istore 9, 2) := by decide +kernel
theorem dX7_firstMost_115 : decode cX7_firstMost 115 = .ok (.iload 9, 2) := by decide +kernel
theorem dX7_firstMost_117 : decode cX7_firstMost 117 = .ok (.ifCond .eq 46, 3) := by decide +kernel
theorem dX7_firstMost_120 : decode cX7_firstMost 120 = .ok (.aload_n 0, 1) := by decide +kernel
theorem dX7_firstMost_121 : decode cX7_firstMost 121 = .ok (.getfield 57, 3) := by decide +kernel
theorem dX7_firstMost_124 : decode cX7_firstMost 124 = .ok (.bipush 36, 2) := by decide +kernel
theorem dX7_firstMost_126 : decode cX7_firstMost 126 = .ok (.iload_n 3, 1) := by decide +kernel
theorem dX7_firstMost_127 : decode cX7_firstMost 127 = .ok (.aload_n 0, 1) := by decide +kernel
theorem dX7_firstMost_128 : decode cX7_firstMost 128 = .ok (.iload 8, 2) := by decide +kernel
theorem dX7_firstMost_130 : decode cX7_firstMost 130 = .ok (.invokevirtual 154, 3) := by decide +kernel
theorem dX7_firstMost_133 : decode cX7_firstMost 133 = .ok (.isub, 1) := by decide +kernel
theorem dX7_firstMost_134 : decode cX7_firstMost 134 = .ok (.imul, 1) := by decide +kernel
theorem dX7_firstMost_135 : decode cX7_firstMost 135 = .ok (.bipush 6, 2) := by decide +kernel
theorem dX7_firstMost_137 : decode cX7_firstMost 137 = .ok (.iload 8, 2) := by decide +kernel
theorem dX7_firstMost_139 : decode cX7_firstMost 139 = .ok (.imul, 1) := by decide +kernel
theorem dX7_firstMost_140 : decode cX7_firstMost 140 = .ok (.iadd, 1) := by decide +kernel
theorem dX7_firstMost_141 : decode cX7_firstMost 141 = .ok (.iload_n 1, 1) := by decide +kernel
theorem dX7_firstMost_142 : decode cX7_firstMost 142 = .ok (.iadd, 1) := by decide +kernel
theorem dX7_firstMost_143 : decode cX7_firstMost 143 = .ok (.laload, 1) := by decide +kernel
theorem dX7_firstMost_144 : decode cX7_firstMost 144 = .ok (.aload_n 0, 1) := by decide +kernel
theorem dX7_firstMost_145 : decode cX7_firstMost 145 = .ok (.getfield 162, 3) := by decide +kernel
theorem dX7_firstMost_148 : decode cX7_firstMost 148 = .ok (.iload 5, 2) := by decide +kernel
theorem dX7_firstMost_150 : decode cX7_firstMost 150 = .ok (.isub, 1) := by decide +kernel
theorem dX7_firstMost_151 : decode cX7_firstMost 151 = .ok (.iconst 1, 1) := by decide +kernel
theorem dX7_firstMost_152 : decode cX7_firstMost 152 = .ok (.isub, 1) := by decide +kernel
theorem dX7_firstMost_153 : decode cX7_firstMost 153 = .ok (.i2l, 1) := by decide +kernel
theorem dX7_firstMost_154 : decode cX7_firstMost 154 = .ok (.lcmp, 1) := by decide +kernel
theorem dX7_firstMost_155 : decode cX7_firstMost 155 = .ok (.ifCond .ne 8, 3) := by decide +kernel
theorem dX7_firstMost_158 : decode cX7_firstMost 158 = .ok (.iload 7, 2) := by decide +kernel
theorem dX7_firstMost_160 : decode cX7_firstMost 160 = .ok (.goto 5, 3) := by decide +kernel
theorem dX7_firstMost_163 : decode cX7_firstMost 163 = .ok (.iload 6, 2) := by decide +kernel
theorem dX7_firstMost_165 : decode cX7_firstMost 165 = .ok (.istore 6, 2) := by decide +kernel
theorem dX7_firstMost_167 : decode cX7_firstMost 167 = .ok (.iinc 7 (-1), 3) := by decide +kernel
theorem dX7_firstMost_170 : decode cX7_firstMost 170 = .ok (.goto (-106), 3) := by decide +kernel
theorem dX7_firstMost_173 : decode cX7_firstMost 173 = .ok (.aload_n 0, 1) := by decide +kernel
theorem dX7_firstMost_174 : decode cX7_firstMost 174 = .ok (.getfield 39, 3) := by decide +kernel
theorem dX7_firstMost_177 : decode cX7_firstMost 177 = .ok (.iload 5, 2) := by decide +kernel
theorem dX7_firstMost_179 : decode cX7_firstMost 179 = .ok (.iload 6, 2) := by decide +kernel
theorem dX7_firstMost_181 : decode cX7_firstMost 181 = .ok (.iastore, 1) := by decide +kernel
theorem dX7_firstMost_182 : decode cX7_firstMost 182 = .ok (.iload 4, 2) := by decide +kernel
theorem dX7_firstMost_184 : decode cX7_firstMost 184 = .ok (.iconst 1, 1) := by decide +kernel
theorem dX7_firstMost_185 : decode cX7_firstMost 185 = .ok (.iload 6, 2) := by decide +kernel
theorem dX7_firstMost_187 : decode cX7_firstMost 187 = .ok (.ishl, 1) := by decide +kernel
theorem dX7_firstMost_188 : decode cX7_firstMost 188 = .ok (.ior, 1) := by decide +kernel
theorem dX7_firstMost_189 : decode cX7_firstMost 189 = .ok (.istore 4, 2) := by decide +kernel
theorem dX7_firstMost_191 : decode cX7_firstMost 191 = .ok (.iload_n 1, 1) := by decide +kernel
theorem dX7_firstMost_192 : decode cX7_firstMost 192 = .ok (.istore_n 2, 1) := by decide +kernel
theorem dX7_firstMost_193 : decode cX7_firstMost 193 = .ok (.aload_n 0, 1) := by decide +kernel
theorem dX7_firstMost_194 : decode cX7_firstMost 194 = .ok (.iload 6, 2) := by decide +kernel
theorem dX7_firstMost_196 : decode cX7_firstMost 196 = .ok (.iconst 0, 1) := by decide +kernel
theorem dX7_firstMost_197 : decode cX7_firstMost 197 = .ok (.invokevirtual 114, 3) := by decide +kernel
theorem dX7_firstMost_200 : decode cX7_firstMost 200 = .ok (.istore_n 1, 1) := by decide +kernel
theorem dX7_firstMost_201 : decode cX7_firstMost 201 = .ok (.iload_n 3, 1) := by decide +kernel
theorem dX7_firstMost_202 : decode cX7_firstMost 202 = .ok (.aload_n 0, 1) := by decide +kernel
theorem dX7_firstMost_203 : decode cX7_firstMost 203 = .ok (.iload_n 1, 1) := by decide +kernel
theorem dX7_firstMost_204 : decode cX7_firstMost 204 = .ok (.invokevirtual 154, 3) := by decide +kernel
theorem dX7_firstMost_207 : decode cX7_firstMost 207 = .ok (.isub, 1) := by decide +kernel
theorem dX7_firstMost_208 : decode cX7_firstMost 208 = .ok (.istore_n 3, 1) := by decide +kernel
theorem dX7_firstMost_209 : decode cX7_firstMost 209 = .ok (.iinc 5 1, 3) := by decide +kernel
theorem dX7_firstMost_212 : decode cX7_firstMost 212 = .ok (.goto (-171), 3) := by decide +kernel
theorem dX7_firstMost_215 : decode cX7_firstMost 215 = .ok (.return_, 1) := by decide +kernel
theorem dX7_most_0 : decode cX7_most 0 = .ok (.iload_n 1, 1) := by decide +kernel
theorem dX7_most_1 : decode cX7_most 1 = .ok (.bipush (-2), 2) := by decide +kernel
theorem dX7_most_3 : decode cX7_most 3 = .ok (.if_icmp .ge 5, 3) := by decide +kernel
theorem dX7_most_6 : decode cX7_most 6 = .ok (.iconst (-1), 1) := by decide +kernel
theorem dX7_most_7 : decode cX7_most 7 = .ok (.ireturn, 1) := by decide +kernel
theorem dX7_most_8 : decode cX7_most 8 = .ok (.aload_n 0, 1) := by decide +kernel
theorem dX7_most_9 : decode cX7_most 9 = .ok (.invokevirtual 165, 3) := by decide +kernel
theorem dX7_most_12 : decode cX7_most 12 = .ok (.iload_n 1, 1) := by decide +kernel
theorem dX7_most_13 : decode cX7_most 13 = .ok (.bipush (-2), 2) := by decide +kernel
theorem dX7_most_15 : decode cX7_most 15 = .ok (.if_icmp .le 34, 3) := by decide +kernel
theorem dX7_most_18 : decode cX7_most 18 = .ok (.iload_n 1, 1) := by decide +kernel
theorem dX7_most_19 : decode cX7_most 19 = .ok (.ifCond .ge 10, 3) := by decide +kernel
theorem dX7_most_22 : decode cX7_most 22 = .ok (.aload_n 0, 1) := by decide +kernel
theorem dX7_most_23 : decode cX7_most 23 = .ok (.getfield 162, 3) := by decide +kernel
theorem dX7_most_26 : decode cX7_most 26 = .ok (.goto 22, 3) := by decide +kernel
theorem dX7_most_29 : decode cX7_most 29 = .ok (.iload_n 1, 1) := by decide +kernel
theorem dX7_most_30 : decode cX7_most 30 = .ok (.aload_n 0, 1) := by decide +kernel
theorem dX7_most_31 : decode cX7_most 31 = .ok (.getfield 162, 3) := by decide +kernel
theorem dX7_most_34 : decode cX7_most 34 = .ok (.if_icmp .ge 12, 3) := by decide +kernel
theorem dX7_most_37 : decode cX7_most 37 = .ok (.aload_n 0, 1) := by decide +kernel
theorem dX7_most_38 : decode cX7_most 38 = .ok (.getfield 39, 3) := by decide +kernel
theorem dX7_most_41 : decode cX7_most 41 = .ok (.iload_n 1, 1) := by decide +kernel
theorem dX7_most_42 : decode cX7_most 42 = .ok (.iaload, 1) := by decide +kernel
theorem dX7_most_43 : decode cX7_most 43 = .ok (.goto 5, 3) := by decide +kernel
theorem dX7_most_46 : decode cX7_most 46 = .ok (.bipush (-4), 2) := by decide +kernel
theorem dX7_most_48 : decode cX7_most 48 = .ok (.ireturn, 1) := by decide +kernel
theorem dX7_most_49 : decode cX7_most 49 = .ok (.aload_n 0, 1) := by decide +kernel
theorem dX7_most_50 : decode cX7_most 50 = .ok (.aload_n 0, 1) := by decide +kernel
theorem dX7_most_51 : decode cX7_most 51 = .ok (.getfield 23, 3) := by decide +kernel
theorem dX7_most_54 : decode cX7_most 54 = .ok (.bipush 51, 2) := by decide +kernel
theorem dX7_most_56 : decode cX7_most 56 = .ok (.iaload, 1) := by decide +kernel
theorem dX7_most_57 : decode cX7_most 57 = .ok (.aload_n 0, 1) := by decide +kernel
theorem dX7_most_58 : decode cX7_most 58 = .ok (.getfield 23, 3) := by decide +kernel
theorem dX7_most_61 : decode cX7_most 61 = .ok (.bipush 52, 2) := by decide +kernel
theorem dX7_most_63 : decode cX7_most 63 = .ok (.iaload, 1) := by decide +kernel
theorem dX7_most_64 : decode cX7_most 64 = .ok (.aload_n 0, 1) := by decide +kernel
theorem dX7_most_65 : decode cX7_most 65 = .ok (.getfield 23, 3) := by decide +kernel
theorem dX7_most_68 : decode cX7_most 68 = .ok (.bipush 53, 2) := by decide +kernel
theorem dX7_most_70 : decode cX7_most 70 = .ok (.iaload, 1) := by decide +kernel
theorem dX7_most_71 : decode cX7_most 71 = .ok (.invokevirtual 168, 3) := by decide +kernel
theorem dX7_most_74 : decode cX7_most 74 = .ok (.ldc 158, 2) := by decide +kernel
theorem dX7_most_76 : decode cX7_most 76 = .ok (.istore_n 2, 1) := by decide +kernel
theorem dX7_most_77 : decode cX7_most 77 = .ok (.iconst 0, 1) := by decide +kernel
theorem dX7_most_78 : decode cX7_most 78 = .ok (.istore_n 3, 1) := by decide +kernel
theorem dX7_most_79 : decode cX7_most 79 = .ok (.iload_n 3, 1) := by decide +kernel
theorem dX7_most_80 : decode cX7_most 80 = .ok (.iconst 1, 1) := by decide +kernel
theorem dX7_most_81 : decode cX7_most 81 = .ok (.aload_n 0, 1) := by decide +kernel
theorem dX7_most_82 : decode cX7_most 82 = .ok (.getfield 23, 3) := by decide +kernel
theorem dX7_most_85 : decode cX7_most 85 = .ok (.bipush 50, 2) := by decide +kernel
theorem dX7_most_87 : decode cX7_most 87 = .ok (.iaload, 1) := by decide +kernel
theorem dX7_most_88 : decode cX7_most 88 = .ok (.ishl, 1) := by decide +kernel
theorem dX7_most_89 : decode cX7_most 89 = .ok (.if_icmp .ge 45, 3) := by decide +kernel
theorem dX7_most_92 : decode cX7_most 92 = .ok (.iload_n 3, 1) := by decide +kernel
theorem dX7_most_93 : decode cX7_most 93 = .ok (.invokestatic 172, 3) := by decide +kernel
theorem dX7_most_96 : decode cX7_most 96 = .ok (.aload_n 0, 1) := by decide +kernel
theorem dX7_most_97 : decode cX7_most 97 = .ok (.getfield 162, 3) := by decide +kernel
theorem dX7_most_100 : decode cX7_most 100 = .ok (.if_icmp .ne 11, 3) := by decide +kernel
theorem dX7_most_103 : decode cX7_most 103 = .ok (.aload_n 0, 1) := by decide +kernel
theorem dX7_most_104 : decode cX7_most 104 = .ok (.iload_n 3, 1) := by decide +kernel
theorem dX7_most_105 : decode cX7_most 105 = .ok (.invokevirtual 175, 3) := by decide +kernel
theorem dX7_most_108 : decode cX7_most 108 = .ok (.goto 5, 3) := by decide +kernel
theorem dX7_most_111 : decode cX7_most 111 = .ok (.ldc 158, 2) := by decide +kernel
theorem dX7_most_113 : decode cX7_most 113 = .ok (.istore 4, 2) := by decide +kernel
theorem dX7_most_115 : decode cX7_most 115 = .ok (.iload 4, 2) := by decide +kernel
theorem dX7_most_117 : decode cX7_most 117 = .ok (.iload_n 2, 1) := by decide +kernel
theorem dX7_most_118 : decode cX7_most 118 = .ok (.if_icmp .ge 8, 3) := by decide +kernel
theorem dX7_most_121 : decode cX7_most 121 = .ok (.iload 4, 2) := by decide +kernel
theorem dX7_most_123 : decode cX7_most 123 = .ok (.goto 4, 3) := by decide +kernel
theorem dX7_most_126 : decode cX7_most 126 = .ok (.iload_n 2, 1) := by decide +kernel
theorem dX7_most_127 : decode cX7_most 127 = .ok (.istore_n 2, 1) := by decide +kernel
theorem dX7_most_128 : decode cX7_most 128 = .ok (.iinc 3 1, 3) := by decide +kernel
theorem dX7_most_131 : decode cX7_most 131 = .ok (.goto (-52), 3) := by decide +kernel
theorem dX7_most_134 : decode cX7_most 134 = .ok (.iload_n 2, 1) := by decide +kernel
theorem dX7_most_135 : decode cX7_most 135 = .ok (.ireturn, 1) := by decide +kernel
theorem dX7_halvings_0 : decode cX7_halvings 0 = .ok (.aload_n 0, 1) := by decide +kernel
theorem dX7_halvings_1 : decode cX7_halvings 1 = .ok (.getfield 13, 3) := by decide +kernel
theorem dX7_halvings_4 : decode cX7_halvings 4 = .ok (.iconst 0, 1) := by decide +kernel
theorem dX7_halvings_5 : decode cX7_halvings 5 = .ok (.iaload, 1) := by decide +kernel
theorem dX7_halvings_6 : decode cX7_halvings 6 = .ok (.iconst 1, 1) := by decide +kernel
theorem dX7_halvings_7 : decode cX7_halvings 7 = .ok (.if_icmp .ne 6, 3) := by decide +kernel
theorem dX7_halvings_10 : decode cX7_halvings 10 = .ok (.bipush (-2), 2) := by decide +kernel
theorem dX7_halvings_12 : decode cX7_halvings 12 = .ok (.ireturn, 1) := by decide +kernel
theorem dX7_halvings_13 : decode cX7_halvings 13 = .ok (.aload_n 0, 1) := by decide +kernel
theorem dX7_halvings_14 : decode cX7_halvings 14 = .ok (.invokevirtual 144, 3) := by decide +kernel
theorem dX7_halvings_17 : decode cX7_halvings 17 = .ok (.iconst 0, 1) := by decide +kernel
theorem dX7_halvings_18 : decode cX7_halvings 18 = .ok (.istore_n 1, 1) := by decide +kernel
theorem dX7_halvings_19 : decode cX7_halvings 19 = .ok (.iconst 0, 1) := by decide +kernel
theorem dX7_halvings_20 : decode cX7_halvings 20 = .ok (.istore_n 2, 1) := by decide +kernel
theorem dX7_halvings_21 : decode cX7_halvings 21 = .ok (.iconst 0, 1) := by decide +kernel
theorem dX7_halvings_22 : decode cX7_halvings 22 = .ok (.istore_n 3, 1) := by decide +kernel
theorem dX7_halvings_23 : decode cX7_halvings 23 = .ok (.iload_n 3, 1) := by decide +kernel
theorem dX7_halvings_24 : decode cX7_halvings 24 = .ok (.aload_n 0, 1) := by decide +kernel
theorem dX7_halvings_25 : decode cX7_halvings 25 = .ok (.getfield 23, 3) := by decide +kernel
theorem dX7_halvings_28 : decode cX7_halvings 28 = .ok (.bipush 50, 2) := by decide +kernel
theorem dX7_halvings_30 : decode cX7_halvings 30 = .ok (.iaload, 1) := by decide +kernel
theorem dX7_halvings_31 : decode cX7_halvings 31 = .ok (.if_icmp .ge 48, 3) := by decide +kernel
theorem dX7_halvings_34 : decode cX7_halvings 34 = .ok (.iload_n 1, 1) := by decide +kernel
theorem dX7_halvings_35 : decode cX7_halvings 35 = .ok (.aload_n 0, 1) := by decide +kernel
theorem dX7_halvings_36 : decode cX7_halvings 36 = .ok (.iload_n 3, 1) := by decide +kernel
theorem dX7_halvings_37 : decode cX7_halvings 37 = .ok (.invokevirtual 125, 3) := by decide +kernel
theorem dX7_halvings_40 : decode cX7_halvings 40 = .ok (.ifCond .eq 7, 3) := by decide +kernel
theorem dX7_halvings_43 : decode cX7_halvings 43 = .ok (.iconst 1, 1) := by decide +kernel
theorem dX7_halvings_44 : decode cX7_halvings 44 = .ok (.goto 4, 3) := by decide +kernel
theorem dX7_halvings_47 : decode cX7_halvings 47 = .ok (.iconst 0, 1) := by decide +kernel
theorem dX7_halvings_48 : decode cX7_halvings 48 = .ok (.iadd, 1) := by decide +kernel
theorem dX7_halvings_49 : decode cX7_halvings 49 = .ok (.istore_n 1, 1) := by decide +kernel
theorem dX7_halvings_50 : decode cX7_halvings 50 = .ok (.iload_n 2, 1) := by decide +kernel
theorem dX7_halvings_51 : decode cX7_halvings 51 = .ok (.aload_n 0, 1) := by decide +kernel
theorem dX7_halvings_52 : decode cX7_halvings 52 = .ok (.iload_n 3, 1) := by decide +kernel
theorem dX7_halvings_53 : decode cX7_halvings 53 = .ok (.invokevirtual 125, 3) := by decide +kernel
theorem dX7_halvings_56 : decode cX7_halvings 56 = .ok (.ifCond .eq 14, 3) := by decide +kernel
theorem dX7_halvings_59 : decode cX7_halvings 59 = .ok (.aload_n 0, 1) := by decide +kernel
theorem dX7_halvings_60 : decode cX7_halvings 60 = .ok (.iload_n 3, 1) := by decide +kernel
theorem dX7_halvings_61 : decode cX7_halvings 61 = .ok (.iconst 1, 1) := by decide +kernel
theorem dX7_halvings_62 : decode cX7_halvings 62 = .ok (.invokevirtual 114, 3) := by decide +kernel
theorem dX7_halvings_65 : decode cX7_halvings 65 = .ok (.iconst 1, 1) := by decide +kernel
theorem dX7_halvings_66 : decode cX7_halvings 66 = .ok (.isub, 1) := by decide +kernel
theorem dX7_halvings_67 : decode cX7_halvings 67 = .ok (.goto 4, 3) := by decide +kernel
theorem dX7_halvings_70 : decode cX7_halvings 70 = .ok (.iconst 0, 1) := by decide +kernel
theorem dX7_halvings_71 : decode cX7_halvings 71 = .ok (.iadd, 1) := by decide +kernel
theorem dX7_halvings_72 : decode cX7_halvings 72 = .ok (.istore_n 2, 1) := by decide +kernel
theorem dX7_halvings_73 : decode cX7_halvings 73 = .ok (.iinc 3 1, 3) := by decide +kernel
theorem dX7_halvings_76 : decode cX7_halvings 76 = .ok (.goto (-53), 3) := by decide +kernel
theorem dX7_halvings_79 : decode cX7_halvings 79 = .ok (.iconst 0, 1) := by decide +kernel
theorem dX7_halvings_80 : decode cX7_halvings 80 = .ok (.istore_n 3, 1) := by decide +kernel
theorem dX7_halvings_81 : decode cX7_halvings 81 = .ok (.iconst 0, 1) := by decide +kernel
theorem dX7_halvings_82 : decode cX7_halvings 82 = .ok (.istore 4, 2) := by decide +kernel
theorem dX7_halvings_84 : decode cX7_halvings 84 = .ok (.iconst 0, 1) := by decide +kernel
theorem dX7_halvings_85 : decode cX7_halvings 85 = .ok (.istore 5, 2) := by decide +kernel
theorem dX7_halvings_87 : decode cX7_halvings 87 = .ok (.iload 5, 2) := by decide +kernel
theorem dX7_halvings_89 : decode cX7_halvings 89 = .ok (.iconst 5, 1) := by decide +kernel
theorem dX7_halvings_90 : decode cX7_halvings 90 = .ok (.if_icmp .ge 59, 3) := by decide +kernel
theorem dX7_halvings_93 : decode cX7_halvings 93 = .ok (.iconst 2, 1) := by decide +kernel
theorem dX7_halvings_94 : decode cX7_halvings 94 = .ok (.aload_n 0, 1) := by decide +kernel
theorem dX7_halvings_95 : decode cX7_halvings 95 = .ok (.getfield 45, 3) := by decide +kernel
theorem dX7_halvings_98 : decode cX7_halvings 98 = .ok (.iload 5, 2) := by decide +kernel
theorem dX7_halvings_100 : decode cX7_halvings 100 = .ok (.iaload, 1) := by decide +kernel
theorem dX7_halvings_101 : decode cX7_halvings 101 = .ok (.imul, 1) := by decide +kernel
theorem dX7_halvings_102 : decode cX7_halvings 102 = .ok (.iload_n 1, 1) := by decide +kernel
theorem dX7_halvings_103 : decode cX7_halvings 103 = .ok (.isub, 1) := by decide +kernel
theorem dX7_halvings_104 : decode cX7_halvings 104 = .ok (.iload 5, 2) := by decide +kernel
theorem dX7_halvings_106 : decode cX7_halvings 106 = .ok (.aload_n 0, 1) := by decide +kernel
theorem dX7_halvings_107 : decode cX7_halvings 107 = .ok (.getfield 23, 3) := by decide +kernel
theorem dX7_halvings_110 : decode cX7_halvings 110 = .ok (.bipush 52, 2) := by decide +kernel
theorem dX7_halvings_112 : decode cX7_halvings 112 = .ok (.iaload, 1) := by decide +kernel
theorem dX7_halvings_113 : decode cX7_halvings 113 = .ok (.if_icmp .ne 7, 3) := by decide +kernel
theorem dX7_halvings_116 : decode cX7_halvings 116 = .ok (.iconst 0, 1) := by decide +kernel
theorem dX7_halvings_117 : decode cX7_halvings 117 = .ok (.goto 4, 3) := by decide +kernel
theorem dX7_halvings_120 : decode cX7_halvings 120 = .ok (.iconst 1, 1) := by decide +kernel
theorem dX7_halvings_121 : decode cX7_halvings 121 = .ok (.isub, 1) := by decide +kernel
theorem dX7_halvings_122 : decode cX7_halvings 122 = .ok (.istore 6, 2) := by decide +kernel
theorem dX7_halvings_124 : decode cX7_halvings 124 = .ok (.iload 6, 2) := by decide +kernel
theorem dX7_halvings_126 : decode cX7_halvings 126 = .ok (.iload_n 3, 1) := by decide +kernel
theorem dX7_halvings_127 : decode cX7_halvings 127 = .ok (.if_icmp .le 16, 3) := by decide +kernel
theorem dX7_halvings_130 : decode cX7_halvings 130 = .ok (.iload 6, 2) := by decide +kernel
theorem dX7_halvings_132 : decode cX7_halvings 132 = .ok (.istore_n 3, 1) := by decide +kernel
theorem dX7_halvings_133 : decode cX7_halvings 133 = .ok (.iload_n 2, 1) := by decide +kernel
theorem dX7_halvings_134 : decode cX7_halvings 134 = .ok (.aload_n 0, 1) := by decide +kernel
theorem dX7_halvings_135 : decode cX7_halvings 135 = .ok (.iload 5, 2) := by decide +kernel
theorem dX7_halvings_137 : decode cX7_halvings 137 = .ok (.invokevirtual 178, 3) := by decide +kernel
theorem dX7_halvings_140 : decode cX7_halvings 140 = .ok (.isub, 1) := by decide +kernel
theorem dX7_halvings_141 : decode cX7_halvings 141 = .ok (.istore 4, 2) := by decide +kernel
theorem dX7_halvings_143 : decode cX7_halvings 143 = .ok (.iinc 5 1, 3) := by decide +kernel
theorem dX7_halvings_146 : decode cX7_halvings 146 = .ok (.goto (-59), 3) := by decide +kernel
theorem dX7_halvings_149 : decode cX7_halvings 149 = .ok (.iload_n 3, 1) := by decide +kernel
theorem dX7_halvings_150 : decode cX7_halvings 150 = .ok (.iload 4, 2) := by decide +kernel
theorem dX7_halvings_152 : decode cX7_halvings 152 = .ok (.if_icmp .gt 7, 3) := by decide +kernel
theorem dX7_halvings_155 : decode cX7_halvings 155 = .ok (.iload_n 3, 1) := by decide +kernel
theorem dX7_halvings_156 : decode cX7_halvings 156 = .ok (.goto 5, 3) := by decide +kernel
theorem dX7_halvings_159 : decode cX7_halvings 159 = .ok (.bipush (-4), 2) := by decide +kernel
theorem dX7_halvings_161 : decode cX7_halvings 161 = .ok (.ireturn, 1) := by decide +kernel
theorem dX7_splits_0 : decode cX7_splits 0 = .ok (.iconst 0, 1) := by decide +kernel
theorem dX7_splits_1 : decode cX7_splits 1 = .ok (.istore_n 2, 1) := by decide +kernel
theorem dX7_splits_2 : decode cX7_splits 2 = .ok (.iconst 0, 1) := by decide +kernel
theorem dX7_splits_3 : decode cX7_splits 3 = .ok (.istore_n 3, 1) := by decide +kernel
theorem dX7_splits_4 : decode cX7_splits 4 = .ok (.iload_n 3, 1) := by decide +kernel
theorem dX7_splits_5 : decode cX7_splits 5 = .ok (.aload_n 0, 1) := by decide +kernel
theorem dX7_splits_6 : decode cX7_splits 6 = .ok (.getfield 23, 3) := by decide +kernel
theorem dX7_splits_9 : decode cX7_splits 9 = .ok (.bipush 50, 2) := by decide +kernel
theorem dX7_splits_11 : decode cX7_splits 11 = .ok (.iaload, 1) := by decide +kernel
theorem dX7_splits_12 : decode cX7_splits 12 = .ok (.if_icmp .ge 42, 3) := by decide +kernel
theorem dX7_splits_15 : decode cX7_splits 15 = .ok (.iload_n 2, 1) := by decide +kernel
theorem dX7_splits_16 : decode cX7_splits 16 = .ok (.aload_n 0, 1) := by decide +kernel
theorem dX7_splits_17 : decode cX7_splits 17 = .ok (.iload_n 3, 1) := by decide +kernel
theorem dX7_splits_18 : decode cX7_splits 18 = .ok (.invokevirtual 125, 3) := by decide +kernel
theorem dX7_splits_21 : decode cX7_splits 21 = .ok (.ifCond .eq 24, 3) := by decide +kernel
theorem dX7_splits_24 : decode cX7_splits 24 = .ok (.aload_n 0, 1) := by decide +kernel
theorem dX7_splits_25 : decode cX7_splits 25 = .ok (.iload_n 3, 1) := by decide +kernel
theorem dX7_splits_26 : decode cX7_splits 26 = .ok (.iconst 0, 1) := by decide +kernel
theorem dX7_splits_27 : decode cX7_splits 27 = .ok (.invokevirtual 114, 3) := by decide +kernel
theorem dX7_splits_30 : decode cX7_splits 30 = .ok (.iload_n 1, 1) := by decide +kernel
theorem dX7_splits_31 : decode cX7_splits 31 = .ok (.if_icmp .ne 14, 3) := by decide +kernel
theorem dX7_splits_34 : decode cX7_splits 34 = .ok (.aload_n 0, 1) := by decide +kernel
theorem dX7_splits_35 : decode cX7_splits 35 = .ok (.iload_n 3, 1) := by decide +kernel
theorem dX7_splits_36 : decode cX7_splits 36 = .ok (.iconst 1, 1) := by decide +kernel
theorem dX7_splits_37 : decode cX7_splits 37 = .ok (.invokevirtual 114, 3) := by decide +kernel
theorem dX7_splits_40 : decode cX7_splits 40 = .ok (.iconst 1, 1) := by decide +kernel
theorem dX7_splits_41 : decode cX7_splits 41 = .ok (.isub, 1) := by decide +kernel
theorem dX7_splits_42 : decode cX7_splits 42 = .ok (.goto 4, 3) := by decide +kernel
theorem dX7_splits_45 : decode cX7_splits 45 = .ok (.iconst 0, 1) := by decide +kernel
theorem dX7_splits_46 : decode cX7_splits 46 = .ok (.iadd, 1) := by decide +kernel
theorem dX7_splits_47 : decode cX7_splits 47 = .ok (.istore_n 2, 1) := by decide +kernel
theorem dX7_splits_48 : decode cX7_splits 48 = .ok (.iinc 3 1, 3) := by decide +kernel
theorem dX7_splits_51 : decode cX7_splits 51 = .ok (.goto (-47), 3) := by decide +kernel
theorem dX7_splits_54 : decode cX7_splits 54 = .ok (.iload_n 2, 1) := by decide +kernel
theorem dX7_splits_55 : decode cX7_splits 55 = .ok (.ireturn, 1) := by decide +kernel
theorem dX7_isKind_0 : decode cX7_isKind 0 = .ok (.iload_n 0, 1) := by decide +kernel
theorem dX7_isKind_1 : decode cX7_isKind 1 = .ok (.i2l, 1) := by decide +kernel
theorem dX7_isKind_2 : decode cX7_isKind 2 = .ok (.lconst 0, 1) := by decide +kernel
theorem dX7_isKind_3 : decode cX7_isKind 3 = .ok (.ldc2_w 94, 3) := by decide +kernel
theorem dX7_isKind_6 : decode cX7_isKind 6 = .ok (.invokestatic 69, 3) := by decide +kernel
theorem dX7_isKind_9 : decode cX7_isKind 9 = .ok (.ireturn, 1) := by decide +kernel
theorem dX7_more_0 : decode cX7_more 0 = .ok (.iload_n 1, 1) := by decide +kernel
theorem dX7_more_1 : decode cX7_more 1 = .ok (.invokestatic 181, 3) := by decide +kernel
theorem dX7_more_4 : decode cX7_more 4 = .ok (.ifCond .ne 5, 3) := by decide +kernel
theorem dX7_more_7 : decode cX7_more 7 = .ok (.iconst (-1), 1) := by decide +kernel
theorem dX7_more_8 : decode cX7_more 8 = .ok (.ireturn, 1) := by decide +kernel
theorem dX7_more_9 : decode cX7_more 9 = .ok (.aload_n 0, 1) := by decide +kernel
theorem dX7_more_10 : decode cX7_more 10 = .ok (.invokevirtual 144, 3) := by decide +kernel
theorem dX7_more_13 : decode cX7_more 13 = .ok (.aload_n 0, 1) := by decide +kernel
theorem dX7_more_14 : decode cX7_more 14 = .ok (.invokevirtual 159, 3) := by decide +kernel
theorem dX7_more_17 : decode cX7_more 17 = .ok (.istore_n 2, 1) := by decide +kernel
theorem dX7_more_18 : decode cX7_more 18 = .ok (.aload_n 0, 1) := by decide +kernel
theorem dX7_more_19 : decode cX7_more 19 = .ok (.getfield 45, 3) := by decide +kernel
theorem dX7_more_22 : decode cX7_more 22 = .ok (.iload_n 1, 1) := by decide +kernel
theorem dX7_more_23 : decode cX7_more 23 = .ok (.dup2, 1) := by decide +kernel
theorem dX7_more_24 : decode cX7_more 24 = .ok (.iaload, 1) := by decide +kernel
theorem dX7_more_25 : decode cX7_more 25 = .ok (.iconst 1, 1) := by decide +kernel
theorem dX7_more_26 : decode cX7_more 26 = .ok (.iadd, 1) := by decide +kernel
theorem dX7_more_27 : decode cX7_more 27 = .ok (.iastore, 1) := by decide +kernel
theorem dX7_more_28 : decode cX7_more 28 = .ok (.aload_n 0, 1) := by decide +kernel
theorem dX7_more_29 : decode cX7_more 29 = .ok (.invokevirtual 159, 3) := by decide +kernel
theorem dX7_more_32 : decode cX7_more 32 = .ok (.iload_n 2, 1) := by decide +kernel
theorem dX7_more_33 : decode cX7_more 33 = .ok (.isub, 1) := by decide +kernel
theorem dX7_more_34 : decode cX7_more 34 = .ok (.ireturn, 1) := by decide +kernel
theorem dX7_lacks_0 : decode cX7_lacks 0 = .ok (.iload_n 1, 1) := by decide +kernel
theorem dX7_lacks_1 : decode cX7_lacks 1 = .ok (.invokestatic 181, 3) := by decide +kernel
theorem dX7_lacks_4 : decode cX7_lacks 4 = .ok (.ifCond .ne 5, 3) := by decide +kernel
theorem dX7_lacks_7 : decode cX7_lacks 7 = .ok (.iconst (-1), 1) := by decide +kernel
theorem dX7_lacks_8 : decode cX7_lacks 8 = .ok (.ireturn, 1) := by decide +kernel
theorem dX7_lacks_9 : decode cX7_lacks 9 = .ok (.aload_n 0, 1) := by decide +kernel
theorem dX7_lacks_10 : decode cX7_lacks 10 = .ok (.invokevirtual 144, 3) := by decide +kernel
theorem dX7_lacks_13 : decode cX7_lacks 13 = .ok (.aload_n 0, 1) := by decide +kernel
theorem dX7_lacks_14 : decode cX7_lacks 14 = .ok (.invokevirtual 159, 3) := by decide +kernel
theorem dX7_lacks_17 : decode cX7_lacks 17 = .ok (.istore_n 2, 1) := by decide +kernel
theorem dX7_lacks_18 : decode cX7_lacks 18 = .ok (.aload_n 0, 1) := by decide +kernel
theorem dX7_lacks_19 : decode cX7_lacks 19 = .ok (.getfield 45, 3) := by decide +kernel
theorem dX7_lacks_22 : decode cX7_lacks 22 = .ok (.iload_n 1, 1) := by decide +kernel
theorem dX7_lacks_23 : decode cX7_lacks 23 = .ok (.iconst 0, 1) := by decide +kernel
theorem dX7_lacks_24 : decode cX7_lacks 24 = .ok (.iastore, 1) := by decide +kernel
theorem dX7_lacks_25 : decode cX7_lacks 25 = .ok (.iload_n 2, 1) := by decide +kernel
theorem dX7_lacks_26 : decode cX7_lacks 26 = .ok (.aload_n 0, 1) := by decide +kernel
theorem dX7_lacks_27 : decode cX7_lacks 27 = .ok (.invokevirtual 159, 3) := by decide +kernel
theorem dX7_lacks_30 : decode cX7_lacks 30 = .ok (.isub, 1) := by decide +kernel
theorem dX7_lacks_31 : decode cX7_lacks 31 = .ok (.ireturn, 1) := by decide +kernel
theorem dX7_hasMany_0 : decode cX7_hasMany 0 = .ok (.iconst 0, 1) := by decide +kernel
theorem dX7_hasMany_1 : decode cX7_hasMany 1 = .ok (.istore_n 2, 1) := by decide +kernel
theorem dX7_hasMany_2 : decode cX7_hasMany 2 = .ok (.iconst 0, 1) := by decide +kernel
theorem dX7_hasMany_3 : decode cX7_hasMany 3 = .ok (.istore_n 3, 1) := by decide +kernel
theorem dX7_hasMany_4 : decode cX7_hasMany 4 = .ok (.iload_n 3, 1) := by decide +kernel
theorem dX7_hasMany_5 : decode cX7_hasMany 5 = .ok (.aload_n 0, 1) := by decide +kernel
theorem dX7_hasMany_6 : decode cX7_hasMany 6 = .ok (.getfield 23, 3) := by decide +kernel
