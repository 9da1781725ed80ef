theorem dX7_hasMany_9 : decode cX7_hasMany 9 = .ok (.bipush 50, 2) := by decide +kernel
theorem dX7_hasMany_11 : decode cX7_hasMany 11 = .ok (.iaload, 1) := by decide +kernel
theorem dX7_hasMany_12 : decode cX7_hasMany 12 = .ok (.if_icmp .ge 35, 3) := by decide +kernel
theorem dX7_hasMany_15 : decode cX7_hasMany 15 = .ok (.iload_n 2, 1) := by decide +kernel
theorem dX7_hasMany_16 : decode cX7_hasMany 16 = .ok (.aload_n 0, 1) := by decide +kernel
theorem dX7_hasMany_17 : decode cX7_hasMany 17 = .ok (.iload_n 3, 1) := by decide +kernel
theorem dX7_hasMany_18 : decode cX7_hasMany 18 = .ok (.invokevirtual 125, 3) := by decide +kernel
theorem dX7_hasMany_21 : decode cX7_hasMany 21 = .ok (.ifCond .eq 17, 3) := by decide +kernel
theorem dX7_hasMany_24 : decode cX7_hasMany 24 = .ok (.aload_n 0, 1) := by decide +kernel
theorem dX7_hasMany_25 : decode cX7_hasMany 25 = .ok (.iload_n 3, 1) := by decide +kernel
theorem dX7_hasMany_26 : decode cX7_hasMany 26 = .ok (.iconst 2, 1) := by decide +kernel
theorem dX7_hasMany_27 : decode cX7_hasMany 27 = .ok (.invokevirtual 114, 3) := by decide +kernel
theorem dX7_hasMany_30 : decode cX7_hasMany 30 = .ok (.iload_n 1, 1) := by decide +kernel
theorem dX7_hasMany_31 : decode cX7_hasMany 31 = .ok (.if_icmp .ne 7, 3) := by decide +kernel
theorem dX7_hasMany_34 : decode cX7_hasMany 34 = .ok (.iconst 1, 1) := by decide +kernel
theorem dX7_hasMany_35 : decode cX7_hasMany 35 = .ok (.goto 4, 3) := by decide +kernel
theorem dX7_hasMany_38 : decode cX7_hasMany 38 = .ok (.iconst 0, 1) := by decide +kernel
theorem dX7_hasMany_39 : decode cX7_hasMany 39 = .ok (.iadd, 1) := by decide +kernel
theorem dX7_hasMany_40 : decode cX7_hasMany 40 = .ok (.istore_n 2, 1) := by decide +kernel
theorem dX7_hasMany_41 : decode cX7_hasMany 41 = .ok (.iinc 3 1, 3) := by decide +kernel
theorem dX7_hasMany_44 : decode cX7_hasMany 44 = .ok (.goto (-40), 3) := by decide +kernel
theorem dX7_hasMany_47 : decode cX7_hasMany 47 = .ok (.iload_n 2, 1) := by decide +kernel
theorem dX7_hasMany_48 : decode cX7_hasMany 48 = .ok (.ireturn, 1) := by decide +kernel
theorem dX7_isPair_0 : decode cX7_isPair 0 = .ok (.iload_n 1, 1) := by decide +kernel
theorem dX7_isPair_1 : decode cX7_isPair 1 = .ok (.iload_n 2, 1) := by decide +kernel
theorem dX7_isPair_2 : decode cX7_isPair 2 = .ok (.if_icmp .eq 19, 3) := by decide +kernel
theorem dX7_isPair_5 : decode cX7_isPair 5 = .ok (.aload_n 0, 1) := by decide +kernel
theorem dX7_isPair_6 : decode cX7_isPair 6 = .ok (.iload_n 1, 1) := by decide +kernel
theorem dX7_isPair_7 : decode cX7_isPair 7 = .ok (.invokevirtual 184, 3) := by decide +kernel
theorem dX7_isPair_10 : decode cX7_isPair 10 = .ok (.ifCond .eq 11, 3) := by decide +kernel
theorem dX7_isPair_13 : decode cX7_isPair 13 = .ok (.aload_n 0, 1) := by decide +kernel
theorem dX7_isPair_14 : decode cX7_isPair 14 = .ok (.iload_n 2, 1) := by decide +kernel
theorem dX7_isPair_15 : decode cX7_isPair 15 = .ok (.invokevirtual 184, 3) := by decide +kernel
theorem dX7_isPair_18 : decode cX7_isPair 18 = .ok (.ifCond .ne 5, 3) := by decide +kernel
theorem dX7_isPair_21 : decode cX7_isPair 21 = .ok (.iconst 0, 1) := by decide +kernel
theorem dX7_isPair_22 : decode cX7_isPair 22 = .ok (.ireturn, 1) := by decide +kernel
theorem dX7_isPair_23 : decode cX7_isPair 23 = .ok (.iconst 0, 1) := by decide +kernel
theorem dX7_isPair_24 : decode cX7_isPair 24 = .ok (.istore_n 3, 1) := by decide +kernel
theorem dX7_isPair_25 : decode cX7_isPair 25 = .ok (.iload_n 3, 1) := by decide +kernel
theorem dX7_isPair_26 : decode cX7_isPair 26 = .ok (.iconst 5, 1) := by decide +kernel
theorem dX7_isPair_27 : decode cX7_isPair 27 = .ok (.if_icmp .ge 16, 3) := by decide +kernel
theorem dX7_isPair_30 : decode cX7_isPair 30 = .ok (.aload_n 0, 1) := by decide +kernel
theorem dX7_isPair_31 : decode cX7_isPair 31 = .ok (.getfield 45, 3) := by decide +kernel
theorem dX7_isPair_34 : decode cX7_isPair 34 = .ok (.iload_n 3, 1) := by decide +kernel
theorem dX7_isPair_35 : decode cX7_isPair 35 = .ok (.iconst 0, 1) := by decide +kernel
theorem dX7_isPair_36 : decode cX7_isPair 36 = .ok (.iastore, 1) := by decide +kernel
theorem dX7_isPair_37 : decode cX7_isPair 37 = .ok (.iinc 3 1, 3) := by decide +kernel
theorem dX7_isPair_40 : decode cX7_isPair 40 = .ok (.goto (-15), 3) := by decide +kernel
theorem dX7_isPair_43 : decode cX7_isPair 43 = .ok (.iconst 0, 1) := by decide +kernel
theorem dX7_isPair_44 : decode cX7_isPair 44 = .ok (.istore_n 3, 1) := by decide +kernel
theorem dX7_isPair_45 : decode cX7_isPair 45 = .ok (.iload_n 3, 1) := by decide +kernel
theorem dX7_isPair_46 : decode cX7_isPair 46 = .ok (.aload_n 0, 1) := by decide +kernel
theorem dX7_isPair_47 : decode cX7_isPair 47 = .ok (.getfield 23, 3) := by decide +kernel
theorem dX7_isPair_50 : decode cX7_isPair 50 = .ok (.bipush 50, 2) := by decide +kernel
theorem dX7_isPair_52 : decode cX7_isPair 52 = .ok (.iaload, 1) := by decide +kernel
theorem dX7_isPair_53 : decode cX7_isPair 53 = .ok (.if_icmp .ge 56, 3) := by decide +kernel
theorem dX7_isPair_56 : decode cX7_isPair 56 = .ok (.aload_n 0, 1) := by decide +kernel
theorem dX7_isPair_57 : decode cX7_isPair 57 = .ok (.getfield 45, 3) := by decide +kernel
theorem dX7_isPair_60 : decode cX7_isPair 60 = .ok (.aload_n 0, 1) := by decide +kernel
theorem dX7_isPair_61 : decode cX7_isPair 61 = .ok (.iload_n 3, 1) := by decide +kernel
theorem dX7_isPair_62 : decode cX7_isPair 62 = .ok (.iconst 0, 1) := by decide +kernel
theorem dX7_isPair_63 : decode cX7_isPair 63 = .ok (.invokevirtual 114, 3) := by decide +kernel
theorem dX7_isPair_66 : decode cX7_isPair 66 = .ok (.dup2, 1) := by decide +kernel
theorem dX7_isPair_67 : decode cX7_isPair 67 = .ok (.iaload, 1) := by decide +kernel
theorem dX7_isPair_68 : decode cX7_isPair 68 = .ok (.aload_n 0, 1) := by decide +kernel
theorem dX7_isPair_69 : decode cX7_isPair 69 = .ok (.iload_n 3, 1) := by decide +kernel
theorem dX7_isPair_70 : decode cX7_isPair 70 = .ok (.invokevirtual 125, 3) := by decide +kernel
theorem dX7_isPair_73 : decode cX7_isPair 73 = .ok (.ifCond .eq 27, 3) := by decide +kernel
theorem dX7_isPair_76 : decode cX7_isPair 76 = .ok (.aload_n 0, 1) := by decide +kernel
theorem dX7_isPair_77 : decode cX7_isPair 77 = .ok (.iload_n 3, 1) := by decide +kernel
theorem dX7_isPair_78 : decode cX7_isPair 78 = .ok (.iconst 2, 1) := by decide +kernel
theorem dX7_isPair_79 : decode cX7_isPair 79 = .ok (.invokevirtual 114, 3) := by decide +kernel
theorem dX7_isPair_82 : decode cX7_isPair 82 = .ok (.iload_n 1, 1) := by decide +kernel
theorem dX7_isPair_83 : decode cX7_isPair 83 = .ok (.if_icmp .eq 13, 3) := by decide +kernel
theorem dX7_isPair_86 : decode cX7_isPair 86 = .ok (.aload_n 0, 1) := by decide +kernel
theorem dX7_isPair_87 : decode cX7_isPair 87 = .ok (.iload_n 3, 1) := by decide +kernel
theorem dX7_isPair_88 : decode cX7_isPair 88 = .ok (.iconst 2, 1) := by decide +kernel
theorem dX7_isPair_89 : decode cX7_isPair 89 = .ok (.invokevirtual 114, 3) := by decide +kernel
theorem dX7_isPair_92 : decode cX7_isPair 92 = .ok (.iload_n 2, 1) := by decide +kernel
theorem dX7_isPair_93 : decode cX7_isPair 93 = .ok (.if_icmp .ne 7, 3) := by decide +kernel
theorem dX7_isPair_96 : decode cX7_isPair 96 = .ok (.iconst 1, 1) := by decide +kernel
theorem dX7_isPair_97 : decode cX7_isPair 97 = .ok (.goto 4, 3) := by decide +kernel
theorem dX7_isPair_100 : decode cX7_isPair 100 = .ok (.iconst 0, 1) := by decide +kernel
theorem dX7_isPair_101 : decode cX7_isPair 101 = .ok (.iadd, 1) := by decide +kernel
theorem dX7_isPair_102 : decode cX7_isPair 102 = .ok (.iastore, 1) := by decide +kernel
theorem dX7_isPair_103 : decode cX7_isPair 103 = .ok (.iinc 3 1, 3) := by decide +kernel
theorem dX7_isPair_106 : decode cX7_isPair 106 = .ok (.goto (-61), 3) := by decide +kernel
theorem dX7_isPair_109 : decode cX7_isPair 109 = .ok (.aload_n 0, 1) := by decide +kernel
theorem dX7_isPair_110 : decode cX7_isPair 110 = .ok (.invokevirtual 159, 3) := by decide +kernel
theorem dX7_isPair_113 : decode cX7_isPair 113 = .ok (.aload_n 0, 1) := by decide +kernel
theorem dX7_isPair_114 : decode cX7_isPair 114 = .ok (.iload_n 1, 1) := by decide +kernel
theorem dX7_isPair_115 : decode cX7_isPair 115 = .ok (.invokevirtual 184, 3) := by decide +kernel
theorem dX7_isPair_118 : decode cX7_isPair 118 = .ok (.aload_n 0, 1) := by decide +kernel
theorem dX7_isPair_119 : decode cX7_isPair 119 = .ok (.iload_n 2, 1) := by decide +kernel
theorem dX7_isPair_120 : decode cX7_isPair 120 = .ok (.invokevirtual 184, 3) := by decide +kernel
theorem dX7_isPair_123 : decode cX7_isPair 123 = .ok (.iadd, 1) := by decide +kernel
theorem dX7_isPair_124 : decode cX7_isPair 124 = .ok (.if_icmp .ne 7, 3) := by decide +kernel
theorem dX7_isPair_127 : decode cX7_isPair 127 = .ok (.iconst 1, 1) := by decide +kernel
theorem dX7_isPair_128 : decode cX7_isPair 128 = .ok (.goto 4, 3) := by decide +kernel
theorem dX7_isPair_131 : decode cX7_isPair 131 = .ok (.iconst 0, 1) := by decide +kernel
theorem dX7_isPair_132 : decode cX7_isPair 132 = .ok (.ireturn, 1) := by decide +kernel
theorem dX7_together_0 : decode cX7_together 0 = .ok (.iload_n 1, 1) := by decide +kernel
theorem dX7_together_1 : decode cX7_together 1 = .ok (.i2l, 1) := by decide +kernel
theorem dX7_together_2 : decode cX7_together 2 = .ok (.ldc2_w 187, 3) := by decide +kernel
theorem dX7_together_5 : decode cX7_together 5 = .ok (.ldc2_w 94, 3) := by decide +kernel
theorem dX7_together_8 : decode cX7_together 8 = .ok (.invokestatic 69, 3) := by decide +kernel
theorem dX7_together_11 : decode cX7_together 11 = .ok (.ifCond .ne 5, 3) := by decide +kernel
theorem dX7_together_14 : decode cX7_together 14 = .ok (.iconst (-1), 1) := by decide +kernel
theorem dX7_together_15 : decode cX7_together 15 = .ok (.ireturn, 1) := by decide +kernel
theorem dX7_together_16 : decode cX7_together 16 = .ok (.iconst 0, 1) := by decide +kernel
theorem dX7_together_17 : decode cX7_together 17 = .ok (.istore_n 2, 1) := by decide +kernel
theorem dX7_together_18 : decode cX7_together 18 = .ok (.iconst 0, 1) := by decide +kernel
theorem dX7_together_19 : decode cX7_together 19 = .ok (.istore_n 3, 1) := by decide +kernel
theorem dX7_together_20 : decode cX7_together 20 = .ok (.iload_n 3, 1) := by decide +kernel
theorem dX7_together_21 : decode cX7_together 21 = .ok (.iconst 5, 1) := by decide +kernel
theorem dX7_together_22 : decode cX7_together 22 = .ok (.if_icmp .ge 58, 3) := by decide +kernel
theorem dX7_together_25 : decode cX7_together 25 = .ok (.iconst 0, 1) := by decide +kernel
theorem dX7_together_26 : decode cX7_together 26 = .ok (.istore 4, 2) := by decide +kernel
theorem dX7_together_28 : decode cX7_together 28 = .ok (.iload 4, 2) := by decide +kernel
theorem dX7_together_30 : decode cX7_together 30 = .ok (.iload_n 3, 1) := by decide +kernel
theorem dX7_together_31 : decode cX7_together 31 = .ok (.if_icmp .ge 43, 3) := by decide +kernel
theorem dX7_together_34 : decode cX7_together 34 = .ok (.iload_n 2, 1) := by decide +kernel
theorem dX7_together_35 : decode cX7_together 35 = .ok (.aload_n 0, 1) := by decide +kernel
theorem dX7_together_36 : decode cX7_together 36 = .ok (.iload_n 3, 1) := by decide +kernel
theorem dX7_together_37 : decode cX7_together 37 = .ok (.iload 4, 2) := by decide +kernel
theorem dX7_together_39 : decode cX7_together 39 = .ok (.invokevirtual 189, 3) := by decide +kernel
theorem dX7_together_42 : decode cX7_together 42 = .ok (.ifCond .eq 23, 3) := by decide +kernel
theorem dX7_together_45 : decode cX7_together 45 = .ok (.iconst 1, 1) := by decide +kernel
theorem dX7_together_46 : decode cX7_together 46 = .ok (.iconst 5, 1) := by decide +kernel
theorem dX7_together_47 : decode cX7_together 47 = .ok (.iload_n 3, 1) := by decide +kernel
theorem dX7_together_48 : decode cX7_together 48 = .ok (.imul, 1) := by decide +kernel
theorem dX7_together_49 : decode cX7_together 49 = .ok (.iload 4, 2) := by decide +kernel
theorem dX7_together_51 : decode cX7_together 51 = .ok (.iadd, 1) := by decide +kernel
theorem dX7_together_52 : decode cX7_together 52 = .ok (.ishl, 1) := by decide +kernel
theorem dX7_together_53 : decode cX7_together 53 = .ok (.iconst 1, 1) := by decide +kernel
theorem dX7_together_54 : decode cX7_together 54 = .ok (.iconst 5, 1) := by decide +kernel
theorem dX7_together_55 : decode cX7_together 55 = .ok (.iload 4, 2) := by decide +kernel
theorem dX7_together_57 : decode cX7_together 57 = .ok (.imul, 1) := by decide +kernel
theorem dX7_together_58 : decode cX7_together 58 = .ok (.iload_n 3, 1) := by decide +kernel
theorem dX7_together_59 : decode cX7_together 59 = .ok (.iadd, 1) := by decide +kernel
theorem dX7_together_60 : decode cX7_together 60 = .ok (.ishl, 1) := by decide +kernel
theorem dX7_together_61 : decode cX7_together 61 = .ok (.ior, 1) := by decide +kernel
theorem dX7_together_62 : decode cX7_together 62 = .ok (.goto 4, 3) := by decide +kernel
theorem dX7_together_65 : decode cX7_together 65 = .ok (.iconst 0, 1) := by decide +kernel
theorem dX7_together_66 : decode cX7_together 66 = .ok (.ior, 1) := by decide +kernel
theorem dX7_together_67 : decode cX7_together 67 = .ok (.istore_n 2, 1) := by decide +kernel
theorem dX7_together_68 : decode cX7_together 68 = .ok (.iinc 4 1, 3) := by decide +kernel
theorem dX7_together_71 : decode cX7_together 71 = .ok (.goto (-43), 3) := by decide +kernel
theorem dX7_together_74 : decode cX7_together 74 = .ok (.iinc 3 1, 3) := by decide +kernel
theorem dX7_together_77 : decode cX7_together 77 = .ok (.goto (-57), 3) := by decide +kernel
theorem dX7_together_80 : decode cX7_together 80 = .ok (.iconst (-1), 1) := by decide +kernel
theorem dX7_together_81 : decode cX7_together 81 = .ok (.istore_n 3, 1) := by decide +kernel
theorem dX7_together_82 : decode cX7_together 82 = .ok (.iconst 0, 1) := by decide +kernel
theorem dX7_together_83 : decode cX7_together 83 = .ok (.istore 4, 2) := by decide +kernel
theorem dX7_together_85 : decode cX7_together 85 = .ok (.iload 4, 2) := by decide +kernel
theorem dX7_together_87 : decode cX7_together 87 = .ok (.sipush 7776, 3) := by decide +kernel
theorem dX7_together_90 : decode cX7_together 90 = .ok (.if_icmp .ge 56, 3) := by decide +kernel
theorem dX7_together_93 : decode cX7_together 93 = .ok (.aload_n 0, 1) := by decide +kernel
theorem dX7_together_94 : decode cX7_together 94 = .ok (.iload 4, 2) := by decide +kernel
theorem dX7_together_96 : decode cX7_together 96 = .ok (.iload_n 2, 1) := by decide +kernel
theorem dX7_together_97 : decode cX7_together 97 = .ok (.invokevirtual 193, 3) := by decide +kernel
theorem dX7_together_100 : decode cX7_together 100 = .ok (.istore 5, 2) := by decide +kernel
theorem dX7_together_102 : decode cX7_together 102 = .ok (.iload 5, 2) := by decide +kernel
theorem dX7_together_104 : decode cX7_together 104 = .ok (.iload_n 3, 1) := by decide +kernel
theorem dX7_together_105 : decode cX7_together 105 = .ok (.if_icmp .le 35, 3) := by decide +kernel
theorem dX7_together_108 : decode cX7_together 108 = .ok (.iload 5, 2) := by decide +kernel
theorem dX7_together_110 : decode cX7_together 110 = .ok (.istore_n 3, 1) := by decide +kernel
theorem dX7_together_111 : decode cX7_together 111 = .ok (.iconst 0, 1) := by decide +kernel
theorem dX7_together_112 : decode cX7_together 112 = .ok (.istore 6, 2) := by decide +kernel
theorem dX7_together_114 : decode cX7_together 114 = .ok (.iload 6, 2) := by decide +kernel
theorem dX7_together_116 : decode cX7_together 116 = .ok (.iconst 5, 1) := by decide +kernel
theorem dX7_together_117 : decode cX7_together 117 = .ok (.if_icmp .ge 23, 3) := by decide +kernel
theorem dX7_together_120 : decode cX7_together 120 = .ok (.aload_n 0, 1) := by decide +kernel
theorem dX7_together_121 : decode cX7_together 121 = .ok (.getfield 51, 3) := by decide +kernel
theorem dX7_together_124 : decode cX7_together 124 = .ok (.iload 6, 2) := by decide +kernel
theorem dX7_together_126 : decode cX7_together 126 = .ok (.aload_n 0, 1) := by decide +kernel
theorem dX7_together_127 : decode cX7_together 127 = .ok (.getfield 48, 3) := by decide +kernel
theorem dX7_together_130 : decode cX7_together 130 = .ok (.iload 6, 2) := by decide +kernel
theorem dX7_together_132 : decode cX7_together 132 = .ok (.iaload, 1) := by decide +kernel
theorem dX7_together_133 : decode cX7_together 133 = .ok (.iastore, 1) := by decide +kernel
theorem dX7_together_134 : decode cX7_together 134 = .ok (.iinc 6 1, 3) := by decide +kernel
theorem dX7_together_137 : decode cX7_together 137 = .ok (.goto (-23), 3) := by decide +kernel
theorem dX7_together_140 : decode cX7_together 140 = .ok (.iinc 4 1, 3) := by decide +kernel
theorem dX7_together_143 : decode cX7_together 143 = .ok (.goto (-58), 3) := by decide +kernel
theorem dX7_together_146 : decode cX7_together 146 = .ok (.iload_n 1, 1) := by decide +kernel
theorem dX7_together_147 : decode cX7_together 147 = .ok (.ifCond .ge 7, 3) := by decide +kernel
theorem dX7_together_150 : decode cX7_together 150 = .ok (.iload_n 3, 1) := by decide +kernel
theorem dX7_together_151 : decode cX7_together 151 = .ok (.goto 24, 3) := by decide +kernel
theorem dX7_together_154 : decode cX7_together 154 = .ok (.aload_n 0, 1) := by decide +kernel
theorem dX7_together_155 : decode cX7_together 155 = .ok (.getfield 51, 3) := by decide +kernel
theorem dX7_together_158 : decode cX7_together 158 = .ok (.iload_n 1, 1) := by decide +kernel
theorem dX7_together_159 : decode cX7_together 159 = .ok (.iaload, 1) := by decide +kernel
theorem dX7_together_160 : decode cX7_together 160 = .ok (.iconst 5, 1) := by decide +kernel
theorem dX7_together_161 : decode cX7_together 161 = .ok (.if_icmp .ne 8, 3) := by decide +kernel
theorem dX7_together_164 : decode cX7_together 164 = .ok (.bipush (-4), 2) := by decide +kernel
theorem dX7_together_166 : decode cX7_together 166 = .ok (.goto 9, 3) := by decide +kernel
theorem dX7_together_169 : decode cX7_together 169 = .ok (.aload_n 0, 1) := by decide +kernel
theorem dX7_together_170 : decode cX7_together 170 = .ok (.getfield 51, 3) := by decide +kernel
theorem dX7_together_173 : decode cX7_together 173 = .ok (.iload_n 1, 1) := by decide +kernel
theorem dX7_together_174 : decode cX7_together 174 = .ok (.iaload, 1) := by decide +kernel
theorem dX7_together_175 : decode cX7_together 175 = .ok (.ireturn, 1) := by decide +kernel
theorem dX7_paired_0 : decode cX7_paired 0 = .ok (.iload_n 1, 1) := by decide +kernel
theorem dX7_paired_1 : decode cX7_paired 1 = .ok (.istore_n 3, 1) := by decide +kernel
theorem dX7_paired_2 : decode cX7_paired 2 = .ok (.iconst 4, 1) := by decide +kernel
theorem dX7_paired_3 : decode cX7_paired 3 = .ok (.istore 4, 2) := by decide +kernel
theorem dX7_paired_5 : decode cX7_paired 5 = .ok (.iload 4, 2) := by decide +kernel
theorem dX7_paired_7 : decode cX7_paired 7 = .ok (.ifCond .lt 25, 3) := by decide +kernel
theorem dX7_paired_10 : decode cX7_paired 10 = .ok (.aload_n 0, 1) := by decide +kernel
theorem dX7_paired_11 : decode cX7_paired 11 = .ok (.getfield 48, 3) := by decide +kernel
theorem dX7_paired_14 : decode cX7_paired 14 = .ok (.iload 4, 2) := by decide +kernel
theorem dX7_paired_16 : decode cX7_paired 16 = .ok (.iload_n 3, 1) := by decide +kernel
theorem dX7_paired_17 : decode cX7_paired 17 = .ok (.bipush 6, 2) := by decide +kernel
theorem dX7_paired_19 : decode cX7_paired 19 = .ok (.irem, 1) := by decide +kernel
theorem dX7_paired_20 : decode cX7_paired 20 = .ok (.iastore, 1) := by decide +kernel
theorem dX7_paired_21 : decode cX7_paired 21 = .ok (.iload_n 3, 1) := by decide +kernel
theorem dX7_paired_22 : decode cX7_paired 22 = .ok (.bipush 6, 2) := by decide +kernel
theorem dX7_paired_24 : decode cX7_paired 24 = .ok (.idiv, 1) := by decide +kernel
theorem dX7_paired_25 : decode cX7_paired 25 = .ok (.istore_n 3, 1) := by decide +kernel
theorem dX7_paired_26 : decode cX7_paired 26 = .ok (.iinc 4 (-1), 3) := by decide +kernel
theorem dX7_paired_29 : decode cX7_paired 29 = .ok (.goto (-24), 3) := by decide +kernel
theorem dX7_paired_32 : decode cX7_paired 32 = .ok (.iconst 0, 1) := by decide +kernel
theorem dX7_paired_33 : decode cX7_paired 33 = .ok (.istore 4, 2) := by decide +kernel
theorem dX7_paired_35 : decode cX7_paired 35 = .ok (.iconst 0, 1) := by decide +kernel
theorem dX7_paired_36 : decode cX7_paired 36 = .ok (.istore 5, 2) := by decide +kernel
theorem dX7_paired_38 : decode cX7_paired 38 = .ok (.iload 5, 2) := by decide +kernel
theorem dX7_paired_40 : decode cX7_paired 40 = .ok (.iconst 5, 1) := by decide +kernel
theorem dX7_paired_41 : decode cX7_paired 41 = .ok (.if_icmp .ge 61, 3) := by decide +kernel
theorem dX7_paired_44 : decode cX7_paired 44 = .ok (.aload_n 0, 1) := by decide +kernel
theorem dX7_paired_45 : decode cX7_paired 45 = .ok (.getfield 48, 3) := by decide +kernel
theorem dX7_paired_48 : decode cX7_paired 48 = .ok (.iload 5, 2) := by decide +kernel
theorem dX7_paired_50 : decode cX7_paired 50 = .ok (.iaload, 1) := by decide +kernel
theorem dX7_paired_51 : decode cX7_paired 51 = .ok (.iconst 5, 1) := by decide +kernel
theorem dX7_paired_52 : decode cX7_paired 52 = .ok (.if_icmp .ge 44, 3) := by decide +kernel
theorem dX7_paired_55 : decode cX7_paired 55 = .ok (.aload_n 0, 1) := by decide +kernel
theorem dX7_paired_56 : decode cX7_paired 56 = .ok (.getfield 48, 3) := by decide +kernel
theorem dX7_paired_59 : decode cX7_paired 59 = .ok (.aload_n 0, 1) := by decide +kernel
theorem dX7_paired_60 : decode cX7_paired 60 = .ok (.getfield 48, 3) := by decide +kernel
theorem dX7_paired_63 : decode cX7_paired 63 = .ok (.iload 5, 2) := by decide +kernel
theorem dX7_paired_65 : decode cX7_paired 65 = .ok (.iaload, 1) := by decide +kernel
theorem dX7_paired_66 : decode cX7_paired 66 = .ok (.iaload, 1) := by decide +kernel
theorem dX7_paired_67 : decode cX7_paired 67 = .ok (.iload 5, 2) := by decide +kernel
theorem dX7_paired_69 : decode cX7_paired 69 = .ok (.if_icmp .ne 22, 3) := by decide +kernel
theorem dX7_paired_72 : decode cX7_paired 72 = .ok (.iload_n 2, 1) := by decide +kernel
theorem dX7_paired_73 : decode cX7_paired 73 = .ok (.iconst 5, 1) := by decide +kernel
theorem dX7_paired_74 : decode cX7_paired 74 = .ok (.iload 5, 2) := by decide +kernel
theorem dX7_paired_76 : decode cX7_paired 76 = .ok (.imul, 1) := by decide +kernel
theorem dX7_paired_77 : decode cX7_paired 77 = .ok (.aload_n 0, 1) := by decide +kernel
theorem dX7_paired_78 : decode cX7_paired 78 = .ok (.getfield 48, 3) := by decide +kernel
theorem dX7_paired_81 : decode cX7_paired 81 = .ok (.iload 5, 2) := by decide +kernel
theorem dX7_paired_83 : decode cX7_paired 83 = .ok (.iaload, 1) := by decide +kernel
theorem dX7_paired_84 : decode cX7_paired 84 = .ok (.iadd, 1) := by decide +kernel
theorem dX7_paired_85 : decode cX7_paired 85 = .ok (.ishr, 1) := by decide +kernel
theorem dX7_paired_86 : decode cX7_paired 86 = .ok (.iconst 1, 1) := by decide +kernel
theorem dX7_paired_87 : decode cX7_paired 87 = .ok (.iand, 1) := by decide +kernel
theorem dX7_paired_88 : decode cX7_paired 88 = .ok (.ifCond .ne 5, 3) := by decide +kernel
theorem dX7_paired_91 : decode cX7_paired 91 = .ok (.iconst (-1), 1) := by decide +kernel
theorem dX7_paired_92 : decode cX7_paired 92 = .ok (.ireturn, 1) := by decide +kernel
theorem dX7_paired_93 : decode cX7_paired 93 = .ok (.iinc 4 1, 3) := by decide +kernel
theorem dX7_paired_96 : decode cX7_paired 96 = .ok (.iinc 5 1, 3) := by decide +kernel
theorem dX7_paired_99 : decode cX7_paired 99 = .ok (.goto (-61), 3) := by decide +kernel
theorem dX7_paired_102 : decode cX7_paired 102 = .ok (.iload 4, 2) := by decide +kernel
theorem dX7_paired_104 : decode cX7_paired 104 = .ok (.iconst 2, 1) := by decide +kernel
theorem dX7_paired_105 : decode cX7_paired 105 = .ok (.idiv, 1) := by decide +kernel
theorem dX7_paired_106 : decode cX7_paired 106 = .ok (.ireturn, 1) := by decide +kernel
theorem dX7_grows_0 : decode cX7_grows 0 = .ok (.iload_n 1, 1) := by decide +kernel
theorem dX7_grows_1 : decode cX7_grows 1 = .ok (.invokestatic 181, 3) := by decide +kernel
theorem dX7_grows_4 : decode cX7_grows 4 = .ok (.ifCond .ne 5, 3) := by decide +kernel
theorem dX7_grows_7 : decode cX7_grows 7 = .ok (.iconst (-1), 1) := by decide +kernel
theorem dX7_grows_8 : decode cX7_grows 8 = .ok (.ireturn, 1) := by decide +kernel
theorem dX7_grows_9 : decode cX7_grows 9 = .ok (.aload_n 0, 1) := by decide +kernel
theorem dX7_grows_10 : decode cX7_grows 10 = .ok (.iload_n 1, 1) := by decide +kernel
theorem dX7_grows_11 : decode cX7_grows 11 = .ok (.invokevirtual 184, 3) := by decide +kernel
theorem dX7_grows_14 : decode cX7_grows 14 = .ok (.ifCond .ne 6, 3) := by decide +kernel
theorem dX7_grows_17 : decode cX7_grows 17 = .ok (.bipush (-4), 2) := by decide +kernel
theorem dX7_grows_19 : decode cX7_grows 19 = .ok (.ireturn, 1) := by decide +kernel
theorem dX7_grows_20 : decode cX7_grows 20 = .ok (.iconst 0, 1) := by decide +kernel
theorem dX7_grows_21 : decode cX7_grows 21 = .ok (.istore_n 2, 1) := by decide +kernel
theorem dX7_grows_22 : decode cX7_grows 22 = .ok (.iconst (-1), 1) := by decide +kernel
theorem dX7_grows_23 : decode cX7_grows 23 = .ok (.istore_n 3, 1) := by decide +kernel
theorem dX7_grows_24 : decode cX7_grows 24 = .ok (.iconst 0, 1) := by decide +kernel
theorem dX7_grows_25 : decode cX7_grows 25 = .ok (.istore 4, 2) := by decide +kernel
theorem dX7_grows_27 : decode cX7_grows 27 = .ok (.iload 4, 2) := by decide +kernel
theorem dX7_grows_29 : decode cX7_grows 29 = .ok (.iconst 5, 1) := by decide +kernel
theorem dX7_grows_30 : decode cX7_grows 30 = .ok (.if_icmp .ge 130, 3) := by decide +kernel
theorem dX7_grows_33 : decode cX7_grows 33 = .ok (.iconst 0, 1) := by decide +kernel
theorem dX7_grows_34 : decode cX7_grows 34 = .ok (.istore 5, 2) := by decide +kernel
theorem dX7_grows_36 : decode cX7_grows 36 = .ok (.iload 5, 2) := by decide +kernel
theorem dX7_grows_38 : decode cX7_grows 38 = .ok (.iconst 5, 1) := by decide +kernel
theorem dX7_grows_39 : decode cX7_grows 39 = .ok (.if_icmp .ge 17, 3) := by decide +kernel
theorem dX7_grows_42 : decode cX7_grows 42 = .ok (.aload_n 0, 1) := by decide +kernel
theorem dX7_grows_43 : decode cX7_grows 43 = .ok (.getfield 45, 3) := by decide +kernel
theorem dX7_grows_46 : decode cX7_grows 46 = .ok (.iload 5, 2) := by decide +kernel
theorem dX7_grows_48 : decode cX7_grows 48 = .ok (.iconst 0, 1) := by decide +kernel
theorem dX7_grows_49 : decode cX7_grows 49 = .ok (.iastore, 1) := by decide +kernel
theorem dX7_grows_50 : decode cX7_grows 50 = .ok (.iinc 5 1, 3) := by decide +kernel
theorem dX7_grows_53 : decode cX7_grows 53 = .ok (.goto (-17), 3) := by decide +kernel
theorem dX7_grows_56 : decode cX7_grows 56 = .ok (.iconst 0, 1) := by decide +kernel
theorem dX7_grows_57 : decode cX7_grows 57 = .ok (.istore 5, 2) := by decide +kernel
theorem dX7_grows_59 : decode cX7_grows 59 = .ok (.iload 5, 2) := by decide +kernel
theorem dX7_grows_61 : decode cX7_grows 61 = .ok (.aload_n 0, 1) := by decide +kernel
theorem dX7_grows_62 : decode cX7_grows 62 = .ok (.getfield 23, 3) := by decide +kernel
theorem dX7_grows_65 : decode cX7_grows 65 = .ok (.bipush 50, 2) := by decide +kernel
theorem dX7_grows_67 : decode cX7_grows 67 = .ok (.iaload, 1) := by decide +kernel
theorem dX7_grows_68 : decode cX7_grows 68 = .ok (.if_icmp .ge 54, 3) := by decide +kernel
theorem dX7_grows_71 : decode cX7_grows 71 = .ok (.aload_n 0, 1) := by decide +kernel
theorem dX7_grows_72 : decode cX7_grows 72 = .ok (.getfield 45, 3) := by decide +kernel
theorem dX7_grows_75 : decode cX7_grows 75 = .ok (.aload_n 0, 1) := by decide +kernel
theorem dX7_grows_76 : decode cX7_grows 76 = .ok (.iload 5, 2) := by decide +kernel
theorem dX7_grows_78 : decode cX7_grows 78 = .ok (.iconst 2, 1) := by decide +kernel
theorem dX7_grows_79 : decode cX7_grows 79 = .ok (.invokevirtual 114, 3) := by decide +kernel
theorem dX7_grows_82 : decode cX7_grows 82 = .ok (.iload_n 1, 1) := by decide +kernel
theorem dX7_grows_83 : decode cX7_grows 83 = .ok (.if_icmp .ne 8, 3) := by decide +kernel
theorem dX7_grows_86 : decode cX7_grows 86 = .ok (.iload 4, 2) := by decide +kernel
theorem dX7_grows_88 : decode cX7_grows 88 = .ok (.goto 10, 3) := by decide +kernel
theorem dX7_grows_91 : decode cX7_grows 91 = .ok (.aload_n 0, 1) := by decide +kernel
theorem dX7_grows_92 : decode cX7_grows 92 = .ok (.iload 5, 2) := by decide +kernel
theorem dX7_grows_94 : decode cX7_grows 94 = .ok (.iconst 0, 1) := by decide +kernel
theorem dX7_grows_95 : decode cX7_grows 95 = .ok (.invokevirtual 114, 3) := by decide +kernel
theorem dX7_grows_98 : decode cX7_grows 98 = .ok (.dup2, 1) := by decide +kernel
theorem dX7_grows_99 : decode cX7_grows 99 = .ok (.iaload, 1) := by decide +kernel
theorem dX7_grows_100 : decode cX7_grows 100 = .ok (.aload_n 0, 1) := by decide +kernel
theorem dX7_grows_101 : decode cX7_grows 101 = .ok (.iload 5, 2) := by decide +kernel
theorem dX7_grows_103 : decode cX7_grows 103 = .ok (.invokevirtual 125, 3) := by decide +kernel
theorem dX7_grows_106 : decode cX7_grows 106 = .ok (.ifCond .eq 7, 3) := by decide +kernel
theorem dX7_grows_109 : decode cX7_grows 109 = .ok (.iconst 1, 1) := by decide +kernel
theorem dX7_grows_110 : decode cX7_grows 110 = .ok (.goto 4, 3) := by decide +kernel
theorem dX7_grows_113 : decode cX7_grows 113 = .ok (.iconst 0, 1) := by decide +kernel
theorem dX7_grows_114 : decode cX7_grows 114 = .ok (.iadd, 1) := by decide +kernel
theorem dX7_grows_115 : decode cX7_grows 115 = .ok (.iastore, 1) := by decide +kernel
theorem dX7_grows_116 : decode cX7_grows 116 = .ok (.iinc 5 1, 3) := by decide +kernel
theorem dX7_grows_119 : decode cX7_grows 119 = .ok (.goto (-60), 3) := by decide +kernel
theorem dX7_grows_122 : decode cX7_grows 122 = .ok (.aload_n 0, 1) := by decide +kernel
theorem dX7_grows_123 : decode cX7_grows 123 = .ok (.invokevirtual 159, 3) := by decide +kernel
theorem dX7_grows_126 : decode cX7_grows 126 = .ok (.istore 5, 2) := by decide +kernel
theorem dX7_grows_128 : decode cX7_grows 128 = .ok (.iload 5, 2) := by decide +kernel
theorem dX7_grows_130 : decode cX7_grows 130 = .ok (.iload_n 3, 1) := by decide +kernel
theorem dX7_grows_131 : decode cX7_grows 131 = .ok (.if_icmp .le 8, 3) := by decide +kernel
theorem dX7_grows_134 : decode cX7_grows 134 = .ok (.iload 4, 2) := by decide +kernel
theorem dX7_grows_136 : decode cX7_grows 136 = .ok (.goto 4, 3) := by decide +kernel
theorem dX7_grows_139 : decode cX7_grows 139 = .ok (.iload_n 2, 1) := by decide +kernel
theorem dX7_grows_140 : decode cX7_grows 140 = .ok (.istore_n 2, 1) := by decide +kernel
theorem dX7_grows_141 : decode cX7_grows 141 = .ok (.iload 5, 2) := by decide +kernel
theorem dX7_grows_143 : decode cX7_grows 143 = .ok (.iload_n 3, 1) := by decide +kernel
theorem dX7_grows_144 : decode cX7_grows 144 = .ok (.if_icmp .le 8, 3) := by decide +kernel
theorem dX7_grows_147 : decode cX7_grows 147 = .ok (.iload 5, 2) := by decide +kernel
theorem dX7_grows_149 : decode cX7_grows 149 = .ok (.goto 4, 3) := by decide +kernel
theorem dX7_grows_152 : decode cX7_grows 152 = .ok (.iload_n 3, 1) := by decide +kernel
theorem dX7_grows_153 : decode cX7_grows 153 = .ok (.istore_n 3, 1) := by decide +kernel
theorem dX7_grows_154 : decode cX7_grows 154 = .ok (.iinc 4 1, 3) := by decide +kernel
theorem dX7_grows_157 : decode cX7_grows 157 = .ok (.goto (-130), 3) := by decide +kernel
theorem dX7_grows_160 : decode cX7_grows 160 = .ok (.iload_n 2, 1) := by decide +kernel
theorem dX7_grows_161 : decode cX7_grows 161 = .ok (.ireturn, 1) := by decide +kernel
theorem dX7_twoMills_0 : decode cX7_twoMills 0 = .ok (.iload_n 1, 1) := by decide +kernel
theorem dX7_twoMills_1 : decode cX7_twoMills 1 = .ok (.i2l, 1) := by decide +kernel
theorem dX7_twoMills_2 : decode cX7_twoMills 2 = .ok (.lconst 0, 1) := by decide +kernel
theorem dX7_twoMills_3 : decode cX7_twoMills 3 = .ok (.lconst 1, 1) := by decide +kernel
theorem dX7_twoMills_4 : decode cX7_twoMills 4 = .ok (.invokestatic 69, 3) := by decide +kernel
theorem dX7_twoMills_7 : decode cX7_twoMills 7 = .ok (.ifCond .ne 5, 3) := by decide +kernel
theorem dX7_twoMills_10 : decode cX7_twoMills 10 = .ok (.iconst (-1), 1) := by decide +kernel
theorem dX7_twoMills_11 : decode cX7_twoMills 11 = .ok (.ireturn, 1) := by decide +kernel
theorem dX7_twoMills_12 : decode cX7_twoMills 12 = .ok (.iconst 0, 1) := by decide +kernel
theorem dX7_twoMills_13 : decode cX7_twoMills 13 = .ok (.istore_n 2, 1) := by decide +kernel
theorem dX7_twoMills_14 : decode cX7_twoMills 14 = .ok (.iconst 0, 1) := by decide +kernel
theorem dX7_twoMills_15 : decode cX7_twoMills 15 = .ok (.istore_n 3, 1) := by decide +kernel
theorem dX7_twoMills_16 : decode cX7_twoMills 16 = .ok (.iload_n 3, 1) := by decide +kernel
theorem dX7_twoMills_17 : decode cX7_twoMills 17 = .ok (.aload_n 0, 1) := by decide +kernel
theorem dX7_twoMills_18 : decode cX7_twoMills 18 = .ok (.getfield 23, 3) := by decide +kernel
theorem dX7_twoMills_21 : decode cX7_twoMills 21 = .ok (.bipush 50, 2) := by decide +kernel
theorem dX7_twoMills_23 : decode cX7_twoMills 23 = .ok (.iaload, 1) := by decide +kernel
theorem dX7_twoMills_24 : decode cX7_twoMills 24 = .ok (.if_icmp .ge 27, 3) := by decide +kernel
theorem dX7_twoMills_27 : decode cX7_twoMills 27 = .ok (.iload_n 2, 1) := by decide +kernel
theorem dX7_twoMills_28 : decode cX7_twoMills 28 = .ok (.aload_n 0, 1) := by decide +kernel
theorem dX7_twoMills_29 : decode cX7_twoMills 29 = .ok (.iload_n 3, 1) := by decide +kernel
theorem dX7_twoMills_30 : decode cX7_twoMills 30 = .ok (.invokevirtual 125, 3) := by decide +kernel
theorem dX7_twoMills_33 : decode cX7_twoMills 33 = .ok (.ifCond .eq 9, 3) := by decide +kernel
theorem dX7_twoMills_36 : decode cX7_twoMills 36 = .ok (.iconst 1, 1) := by decide +kernel
theorem dX7_twoMills_37 : decode cX7_twoMills 37 = .ok (.iload_n 3, 1) := by decide +kernel
theorem dX7_twoMills_38 : decode cX7_twoMills 38 = .ok (.ishl, 1) := by decide +kernel
theorem dX7_twoMills_39 : decode cX7_twoMills 39 = .ok (.goto 4, 3) := by decide +kernel
theorem dX7_twoMills_42 : decode cX7_twoMills 42 = .ok (.iconst 0, 1) := by decide +kernel
theorem dX7_twoMills_43 : decode cX7_twoMills 43 = .ok (.ior, 1) := by decide +kernel
theorem dX7_twoMills_44 : decode cX7_twoMills 44 = .ok (.istore_n 2, 1) := by decide +kernel
theorem dX7_twoMills_45 : decode cX7_twoMills 45 = .ok (.iinc 3 1, 3) := by decide +kernel
theorem dX7_twoMills_48 : decode cX7_twoMills 48 = .ok (.goto (-32), 3) := by decide +kernel
theorem dX7_twoMills_51 : decode cX7_twoMills 51 = .ok (.aload_n 0, 1) := by decide +kernel
theorem dX7_twoMills_52 : decode cX7_twoMills 52 = .ok (.aload_n 0, 1) := by decide +kernel
theorem dX7_twoMills_53 : decode cX7_twoMills 53 = .ok (.getfield 23, 3) := by decide +kernel
theorem dX7_twoMills_56 : decode cX7_twoMills 56 = .ok (.bipush 51, 2) := by decide +kernel
theorem dX7_twoMills_58 : decode cX7_twoMills 58 = .ok (.iaload, 1) := by decide +kernel
theorem dX7_twoMills_59 : decode cX7_twoMills 59 = .ok (.aload_n 0, 1) := by decide +kernel
theorem dX7_twoMills_60 : decode cX7_twoMills 60 = .ok (.getfield 23, 3) := by decide +kernel
theorem dX7_twoMills_63 : decode cX7_twoMills 63 = .ok (.bipush 52, 2) := by decide +kernel
theorem dX7_twoMills_65 : decode cX7_twoMills 65 = .ok (.iaload, 1) := by decide +kernel
theorem dX7_twoMills_66 : decode cX7_twoMills 66 = .ok (.aload_n 0, 1) := by decide +kernel
theorem dX7_twoMills_67 : decode cX7_twoMills 67 = .ok (.getfield 23, 3) := by decide +kernel
theorem dX7_twoMills_70 : decode cX7_twoMills 70 = .ok (.bipush 53, 2) := by decide +kernel
theorem dX7_twoMills_72 : decode cX7_twoMills 72 = .ok (.iaload, 1) := by decide +kernel
theorem dX7_twoMills_73 : decode cX7_twoMills 73 = .ok (.invokevirtual 168, 3) := by decide +kernel
theorem dX7_twoMills_76 : decode cX7_twoMills 76 = .ok (.iconst 0, 1) := by decide +kernel
theorem dX7_twoMills_77 : decode cX7_twoMills 77 = .ok (.istore_n 3, 1) := by decide +kernel
theorem dX7_twoMills_78 : decode cX7_twoMills 78 = .ok (.iload_n 3, 1) := by decide +kernel
theorem dX7_twoMills_79 : decode cX7_twoMills 79 = .ok (.iconst 1, 1) := by decide +kernel
theorem dX7_twoMills_80 : decode cX7_twoMills 80 = .ok (.aload_n 0, 1) := by decide +kernel
theorem dX7_twoMills_81 : decode cX7_twoMills 81 = .ok (.getfield 23, 3) := by decide +kernel
theorem dX7_twoMills_84 : decode cX7_twoMills 84 = .ok (.bipush 50, 2) := by decide +kernel
theorem dX7_twoMills_86 : decode cX7_twoMills 86 = .ok (.iaload, 1) := by decide +kernel
theorem dX7_twoMills_87 : decode cX7_twoMills 87 = .ok (.ishl, 1) := by decide +kernel
theorem dX7_twoMills_88 : decode cX7_twoMills 88 = .ok (.if_icmp .ge 20, 3) := by decide +kernel
theorem dX7_twoMills_91 : decode cX7_twoMills 91 = .ok (.aload_n 0, 1) := by decide +kernel
theorem dX7_twoMills_92 : decode cX7_twoMills 92 = .ok (.getfield 36, 3) := by decide +kernel
theorem dX7_twoMills_95 : decode cX7_twoMills 95 = .ok (.iload_n 3, 1) := by decide +kernel
theorem dX7_twoMills_96 : decode cX7_twoMills 96 = .ok (.aload_n 0, 1) := by decide +kernel
theorem dX7_twoMills_97 : decode cX7_twoMills 97 = .ok (.iload_n 3, 1) := by decide +kernel
theorem dX7_twoMills_98 : decode cX7_twoMills 98 = .ok (.invokevirtual 175, 3) := by decide +kernel
theorem dX7_twoMills_101 : decode cX7_twoMills 101 = .ok (.iastore, 1) := by decide +kernel
theorem dX7_twoMills_102 : decode cX7_twoMills 102 = .ok (.iinc 3 1, 3) := by decide +kernel
theorem dX7_twoMills_105 : decode cX7_twoMills 105 = .ok (.goto (-27), 3) := by decide +kernel
theorem dX7_twoMills_108 : decode cX7_twoMills 108 = .ok (.aload_n 0, 1) := by decide +kernel
theorem dX7_twoMills_109 : decode cX7_twoMills 109 = .ok (.iconst 0, 1) := by decide +kernel
theorem dX7_twoMills_110 : decode cX7_twoMills 110 = .ok (.iconst 5, 1) := by decide +kernel
theorem dX7_twoMills_111 : decode cX7_twoMills 111 = .ok (.iconst 5, 1) := by decide +kernel
theorem dX7_twoMills_112 : decode cX7_twoMills 112 = .ok (.invokevirtual 168, 3) := by decide +kernel
theorem dX7_twoMills_115 : decode cX7_twoMills 115 = .ok (.iconst 0, 1) := by decide +kernel
theorem dX7_twoMills_116 : decode cX7_twoMills 116 = .ok (.istore_n 3, 1) := by decide +kernel
theorem dX7_twoMills_117 : decode cX7_twoMills 117 = .ok (.iload_n 3, 1) := by decide +kernel
theorem dX7_twoMills_118 : decode cX7_twoMills 118 = .ok (.iconst 1, 1) := by decide +kernel
theorem dX7_twoMills_119 : decode cX7_twoMills 119 = .ok (.aload_n 0, 1) := by decide +kernel
theorem dX7_twoMills_120 : decode cX7_twoMills 120 = .ok (.getfield 23, 3) := by decide +kernel
theorem dX7_twoMills_123 : decode cX7_twoMills 123 = .ok (.bipush 50, 2) := by decide +kernel
theorem dX7_twoMills_125 : decode cX7_twoMills 125 = .ok (.iaload, 1) := by decide +kernel
theorem dX7_twoMills_126 : decode cX7_twoMills 126 = .ok (.ishl, 1) := by decide +kernel
theorem dX7_twoMills_127 : decode cX7_twoMills 127 = .ok (.if_icmp .ge 20, 3) := by decide +kernel
theorem dX7_twoMills_130 : decode cX7_twoMills 130 = .ok (.aload_n 0, 1) := by decide +kernel
theorem dX7_twoMills_131 : decode cX7_twoMills 131 = .ok (.getfield 33, 3) := by decide +kernel
theorem dX7_twoMills_134 : decode cX7_twoMills 134 = .ok (.iload_n 3, 1) := by decide +kernel
theorem dX7_twoMills_135 : decode cX7_twoMills 135 = .ok (.aload_n 0, 1) := by decide +kernel
theorem dX7_twoMills_136 : decode cX7_twoMills 136 = .ok (.iload_n 3, 1) := by decide +kernel
theorem dX7_twoMills_137 : decode cX7_twoMills 137 = .ok (.invokevirtual 175, 3) := by decide +kernel
theorem dX7_twoMills_140 : decode cX7_twoMills 140 = .ok (.iastore, 1) := by decide +kernel
theorem dX7_twoMills_141 : decode cX7_twoMills 141 = .ok (.iinc 3 1, 3) := by decide +kernel
theorem dX7_twoMills_144 : decode cX7_twoMills 144 = .ok (.goto (-27), 3) := by decide +kernel
theorem dX7_twoMills_147 : decode cX7_twoMills 147 = .ok (.ldc 158, 2) := by decide +kernel
theorem dX7_twoMills_149 : decode cX7_twoMills 149 = .ok (.istore_n 3, 1) := by decide +kernel
theorem dX7_twoMills_150 : decode cX7_twoMills 150 = .ok (.iconst 0, 1) := by decide +kernel
theorem dX7_twoMills_151 : decode cX7_twoMills 151 = .ok (.istore 4, 2) := by decide +kernel
theorem dX7_twoMills_153 : decode cX7_twoMills 153 = .ok (.iconst 0, 1) := by decide +kernel
theorem dX7_twoMills_154 : decode cX7_twoMills 154 = .ok (.istore 5, 2) := by decide +kernel
theorem dX7_twoMills_156 : decode cX7_twoMills 156 = .ok (.iload 5, 2) := by decide +kernel
theorem dX7_twoMills_158 : decode cX7_twoMills 158 = .ok (.iconst 1, 1) := by decide +kernel
theorem dX7_twoMills_159 : decode cX7_twoMills 159 = .ok (.aload_n 0, 1) := by decide +kernel
theorem dX7_twoMills_160 : decode cX7_twoMills 160 = .ok (.getfield 23, 3) := by decide +kernel
theorem dX7_twoMills_163 : decode cX7_twoMills 163 = .ok (.bipush 50, 2) := by decide +kernel
theorem dX7_twoMills_165 : decode cX7_twoMills 165 = .ok (.iaload, 1) := by decide +kernel
theorem dX7_twoMills_166 : decode cX7_twoMills 166 = .ok (.ishl, 1) := by decide +kernel
theorem dX7_twoMills_167 : decode cX7_twoMills 167 = .ok (.if_icmp .ge 90, 3) := by decide +kernel
theorem dX7_twoMills_170 : decode cX7_twoMills 170 = .ok (.iload 5, 2) := by decide +kernel
theorem dX7_twoMills_172 : decode cX7_twoMills 172 = .ok (.iload_n 2, 1) := by decide +kernel
theorem dX7_twoMills_173 : decode cX7_twoMills 173 = .ok (.iconst (-1), 1) := by decide +kernel
theorem dX7_twoMills_174 : decode cX7_twoMills 174 = .ok (.ixor, 1) := by decide +kernel
theorem dX7_twoMills_175 : decode cX7_twoMills 175 = .ok (.iand, 1) := by decide +kernel
theorem dX7_twoMills_176 : decode cX7_twoMills 176 = .ok (.ifCond .ne 75, 3) := by decide +kernel
theorem dX7_twoMills_179 : decode cX7_twoMills 179 = .ok (.aload_n 0, 1) := by decide +kernel
theorem dX7_twoMills_180 : decode cX7_twoMills 180 = .ok (.getfield 36, 3) := by decide +kernel
theorem dX7_twoMills_183 : decode cX7_twoMills 183 = .ok (.iload 5, 2) := by decide +kernel
theorem dX7_twoMills_185 : decode cX7_twoMills 185 = .ok (.iaload, 1) := by decide +kernel
theorem dX7_twoMills_186 : decode cX7_twoMills 186 = .ok (.aload_n 0, 1) := by decide +kernel
theorem dX7_twoMills_187 : decode cX7_twoMills 187 = .ok (.getfield 33, 3) := by decide +kernel
theorem dX7_twoMills_190 : decode cX7_twoMills 190 = .ok (.iload_n 2, 1) := by decide +kernel
theorem dX7_twoMills_191 : decode cX7_twoMills 191 = .ok (.iload 5, 2) := by decide +kernel
theorem dX7_twoMills_193 : decode cX7_twoMills 193 = .ok (.iconst (-1), 1) := by decide +kernel
theorem dX7_twoMills_194 : decode cX7_twoMills 194 = .ok (.ixor, 1) := by decide +kernel
theorem dX7_twoMills_195 : decode cX7_twoMills 195 = .ok (.iand, 1) := by decide +kernel
theorem dX7_twoMills_196 : decode cX7_twoMills 196 = .ok (.iaload, 1) := by decide +kernel
theorem dX7_twoMills_197 : decode cX7_twoMills 197 = .ok (.if_icmp .le 13, 3) := by decide +kernel
theorem dX7_twoMills_200 : decode cX7_twoMills 200 = .ok (.aload_n 0, 1) := by decide +kernel
theorem dX7_twoMills_201 : decode cX7_twoMills 201 = .ok (.getfield 36, 3) := by decide +kernel
theorem dX7_twoMills_204 : decode cX7_twoMills 204 = .ok (.iload 5, 2) := by decide +kernel
theorem dX7_twoMills_206 : decode cX7_twoMills 206 = .ok (.iaload, 1) := by decide +kernel
theorem dX7_twoMills_207 : decode cX7_twoMills 207 = .ok (.goto 14, 3) := by decide +kernel
theorem dX7_twoMills_210 : decode cX7_twoMills 210 = .ok (.aload_n 0, 1) := by decide +kernel
theorem dX7_twoMills_211 : decode cX7_twoMills 211 = .ok (.getfield 33, 3) := by decide +kernel
theorem dX7_twoMills_214 : decode cX7_twoMills 214 = .ok (.iload_n 2, 1) := by decide +kernel
theorem dX7_twoMills_215 : decode cX7_twoMills 215 = .ok (.iload 5, 2) := by decide +kernel
theorem dX7_twoMills_217 : decode cX7_twoMills 217 = .ok (.iconst (-1), 1) := by decide +kernel
theorem dX7_twoMills_218 : decode cX7_twoMills 218 = .ok (.ixor, 1) := by decide +kernel
theorem dX7_twoMills_219 : decode cX7_twoMills 219 = .ok (.iand, 1) := by decide +kernel
theorem dX7_twoMills_220 : decode cX7_twoMills 220 = .ok (.iaload, 1) := by decide +kernel
theorem dX7_twoMills_221 : decode cX7_twoMills 221 = .ok (.istore 6, 2) := by decide +kernel
theorem dX7_twoMills_223 : decode cX7_twoMills 223 = .ok (.iload 6, 2) := by decide +kernel
theorem dX7_twoMills_225 : decode cX7_twoMills 225 = .ok (.iload_n 3, 1) := by decide +kernel
theorem dX7_twoMills_226 : decode cX7_twoMills 226 = .ok (.if_icmp .ge 8, 3) := by decide +kernel
theorem dX7_twoMills_229 : decode cX7_twoMills 229 = .ok (.iload 5, 2) := by decide +kernel
theorem dX7_twoMills_231 : decode cX7_twoMills 231 = .ok (.goto 5, 3) := by decide +kernel
theorem dX7_twoMills_234 : decode cX7_twoMills 234 = .ok (.iload 4, 2) := by decide +kernel
theorem dX7_twoMills_236 : decode cX7_twoMills 236 = .ok (.istore 4, 2) := by decide +kernel
theorem dX7_twoMills_238 : decode cX7_twoMills 238 = .ok (.iload 6, 2) := by decide +kernel
theorem dX7_twoMills_240 : decode cX7_twoMills 240 = .ok (.iload_n 3, 1) := by decide +kernel
theorem dX7_twoMills_241 : decode cX7_twoMills 241 = .ok (.if_icmp .ge 8, 3) := by decide +kernel
theorem dX7_twoMills_244 : decode cX7_twoMills 244 = .ok (.iload 6, 2) := by decide +kernel
theorem dX7_twoMills_246 : decode cX7_twoMills 246 = .ok (.goto 4, 3) := by decide +kernel
theorem dX7_twoMills_249 : decode cX7_twoMills 249 = .ok (.iload_n 3, 1) := by decide +kernel
theorem dX7_twoMills_250 : decode cX7_twoMills 250 = .ok (.istore_n 3, 1) := by decide +kernel
theorem dX7_twoMills_251 : decode cX7_twoMills 251 = .ok (.iinc 5 1, 3) := by decide +kernel
theorem dX7_twoMills_254 : decode cX7_twoMills 254 = .ok (.goto (-98), 3) := by decide +kernel
theorem dX7_twoMills_257 : decode cX7_twoMills 257 = .ok (.iload_n 3, 1) := by decide +kernel
theorem dX7_twoMills_258 : decode cX7_twoMills 258 = .ok (.ldc 158, 2) := by decide +kernel
theorem dX7_twoMills_260 : decode cX7_twoMills 260 = .ok (.if_icmp .ne 8, 3) := by decide +kernel
theorem dX7_twoMills_263 : decode cX7_twoMills 263 = .ok (.bipush (-4), 2) := by decide +kernel
theorem dX7_twoMills_265 : decode cX7_twoMills 265 = .ok (.goto 13, 3) := by decide +kernel
theorem dX7_twoMills_268 : decode cX7_twoMills 268 = .ok (.iload_n 1, 1) := by decide +kernel
theorem dX7_twoMills_269 : decode cX7_twoMills 269 = .ok (.ifCond .ne 7, 3) := by decide +kernel
theorem dX7_twoMills_272 : decode cX7_twoMills 272 = .ok (.iload_n 3, 1) := by decide +kernel
theorem dX7_twoMills_273 : decode cX7_twoMills 273 = .ok (.goto 5, 3) := by decide +kernel
theorem dX7_twoMills_276 : decode cX7_twoMills 276 = .ok (.iload 4, 2) := by decide +kernel
theorem dX7_twoMills_278 : decode cX7_twoMills 278 = .ok (.ireturn, 1) := by decide +kernel
theorem dX7_pours_0 : decode cX7_pours 0 = .ok (.aload_n 0, 1) := by decide +kernel
theorem dX7_pours_1 : decode cX7_pours 1 = .ok (.aload_n 0, 1) := by decide +kernel
theorem dX7_pours_2 : decode cX7_pours 2 = .ok (.getfield 196, 3) := by decide +kernel
theorem dX7_pours_5 : decode cX7_pours 5 = .ok (.putfield 199, 3) := by decide +kernel
theorem dX7_pours_8 : decode cX7_pours 8 = .ok (.aload_n 0, 1) := by decide +kernel
theorem dX7_pours_9 : decode cX7_pours 9 = .ok (.iload_n 1, 1) := by decide +kernel
theorem dX7_pours_10 : decode cX7_pours 10 = .ok (.putfield 196, 3) := by decide +kernel
theorem dX7_pours_13 : decode cX7_pours 13 = .ok (.return_, 1) := by decide +kernel
theorem dX7_waits_0 : decode cX7_waits 0 = .ok (.iconst 0, 1) := by decide +kernel
theorem dX7_waits_1 : decode cX7_waits 1 = .ok (.istore_n 1, 1) := by decide +kernel
theorem dX7_waits_2 : decode cX7_waits 2 = .ok (.iload_n 1, 1) := by decide +kernel
theorem dX7_waits_3 : decode cX7_waits 3 = .ok (.iconst 5, 1) := by decide +kernel
theorem dX7_waits_4 : decode cX7_waits 4 = .ok (.if_icmp .ge 36, 3) := by decide +kernel
theorem dX7_waits_7 : decode cX7_waits 7 = .ok (.aload_n 0, 1) := by decide +kernel
theorem dX7_waits_8 : decode cX7_waits 8 = .ok (.getfield 42, 3) := by decide +kernel
theorem dX7_waits_11 : decode cX7_waits 11 = .ok (.iload_n 1, 1) := by decide +kernel
theorem dX7_waits_12 : decode cX7_waits 12 = .ok (.iaload, 1) := by decide +kernel
theorem dX7_waits_13 : decode cX7_waits 13 = .ok (.ifCond .le 21, 3) := by decide +kernel
theorem dX7_waits_16 : decode cX7_waits 16 = .ok (.aload_n 0, 1) := by decide +kernel
theorem dX7_waits_17 : decode cX7_waits 17 = .ok (.iload_n 1, 1) := by decide +kernel
theorem dX7_waits_18 : decode cX7_waits 18 = .ok (.aload_n 0, 1) := by decide +kernel
theorem dX7_waits_19 : decode cX7_waits 19 = .ok (.getfield 196, 3) := by decide +kernel
theorem dX7_waits_22 : decode cX7_waits 22 = .ok (.aload_n 0, 1) := by decide +kernel
theorem dX7_waits_23 : decode cX7_waits 23 = .ok (.getfield 199, 3) := by decide +kernel
theorem dX7_waits_26 : decode cX7_waits 26 = .ok (.invokevirtual 121, 3) := by decide +kernel
theorem dX7_waits_29 : decode cX7_waits 29 = .ok (.ifCond .eq 5, 3) := by decide +kernel
theorem dX7_waits_32 : decode cX7_waits 32 = .ok (.iload_n 1, 1) := by decide +kernel
theorem dX7_waits_33 : decode cX7_waits 33 = .ok (.ireturn, 1) := by decide +kernel
theorem dX7_waits_34 : decode cX7_waits 34 = .ok (.iinc 1 1, 3) := by decide +kernel
theorem dX7_waits_37 : decode cX7_waits 37 = .ok (.goto (-35), 3) := by decide +kernel
theorem dX7_waits_40 : decode cX7_waits 40 = .ok (.bipush (-4), 2) := by decide +kernel
theorem dX7_waits_42 : decode cX7_waits 42 = .ok (.ireturn, 1) := by decide +kernel
theorem dX7_year_0 : decode cX7_year 0 = .ok (.iload_n 1, 1) := by decide +kernel
theorem dX7_year_1 : decode cX7_year 1 = .ok (.i2l, 1) := by decide +kernel
theorem dX7_year_2 : decode cX7_year 2 = .ok (.lconst 0, 1) := by decide +kernel
theorem dX7_year_3 : decode cX7_year 3 = .ok (.ldc2_w 202, 3) := by decide +kernel
theorem dX7_year_6 : decode cX7_year 6 = .ok (.invokestatic 69, 3) := by decide +kernel
theorem dX7_year_9 : decode cX7_year 9 = .ok (.ifCond .eq 25, 3) := by decide +kernel
theorem dX7_year_12 : decode cX7_year 12 = .ok (.iload_n 2, 1) := by decide +kernel
theorem dX7_year_13 : decode cX7_year 13 = .ok (.i2l, 1) := by decide +kernel
theorem dX7_year_14 : decode cX7_year 14 = .ok (.lconst 1, 1) := by decide +kernel
theorem dX7_year_15 : decode cX7_year 15 = .ok (.ldc2_w 204, 3) := by decide +kernel
theorem dX7_year_18 : decode cX7_year 18 = .ok (.invokestatic 69, 3) := by decide +kernel
theorem dX7_year_21 : decode cX7_year 21 = .ok (.ifCond .eq 13, 3) := by decide +kernel
theorem dX7_year_24 : decode cX7_year 24 = .ok (.iload_n 3, 1) := by decide +kernel
theorem dX7_year_25 : decode cX7_year 25 = .ok (.i2l, 1) := by decide +kernel
theorem dX7_year_26 : decode cX7_year 26 = .ok (.lconst 0, 1) := by decide +kernel
theorem dX7_year_27 : decode cX7_year 27 = .ok (.lconst 1, 1) := by decide +kernel
theorem dX7_year_28 : decode cX7_year 28 = .ok (.invokestatic 69, 3) := by decide +kernel
theorem dX7_year_31 : decode cX7_year 31 = .ok (.ifCond .ne 5, 3) := by decide +kernel
theorem dX7_year_34 : decode cX7_year 34 = .ok (.iconst (-1), 1) := by decide +kernel
theorem dX7_year_35 : decode cX7_year 35 = .ok (.ireturn, 1) := by decide +kernel
theorem dX7_year_36 : decode cX7_year 36 = .ok (.iconst 0, 1) := by decide +kernel
theorem dX7_year_37 : decode cX7_year 37 = .ok (.istore 4, 2) := by decide +kernel
theorem dX7_year_39 : decode cX7_year 39 = .ok (.iload 4, 2) := by decide +kernel
theorem dX7_year_41 : decode cX7_year 41 = .ok (.iconst 5, 1) := by decide +kernel
theorem dX7_year_42 : decode cX7_year 42 = .ok (.if_icmp .ge 17, 3) := by decide +kernel
theorem dX7_year_45 : decode cX7_year 45 = .ok (.aload_n 0, 1) := by decide +kernel
theorem dX7_year_46 : decode cX7_year 46 = .ok (.getfield 42, 3) := by decide +kernel
theorem dX7_year_49 : decode cX7_year 49 = .ok (.iload 4, 2) := by decide +kernel
theorem dX7_year_51 : decode cX7_year 51 = .ok (.iconst 0, 1) := by decide +kernel
theorem dX7_year_52 : decode cX7_year 52 = .ok (.iastore, 1) := by decide +kernel
theorem dX7_year_53 : decode cX7_year 53 = .ok (.iinc 4 1, 3) := by decide +kernel
theorem dX7_year_56 : decode cX7_year 56 = .ok (.goto (-17), 3) := by decide +kernel
theorem dX7_year_59 : decode cX7_year 59 = .ok (.aload_n 0, 1) := by decide +kernel
theorem dX7_year_60 : decode cX7_year 60 = .ok (.iconst 5, 1) := by decide +kernel
theorem dX7_year_61 : decode cX7_year 61 = .ok (.putfield 196, 3) := by decide +kernel
theorem dX7_year_64 : decode cX7_year 64 = .ok (.aload_n 0, 1) := by decide +kernel
theorem dX7_year_65 : decode cX7_year 65 = .ok (.iconst 5, 1) := by decide +kernel
theorem dX7_year_66 : decode cX7_year 66 = .ok (.putfield 199, 3) := by decide +kernel
theorem dX7_year_69 : decode cX7_year 69 = .ok (.iconst 0, 1) := by decide +kernel
theorem dX7_year_70 : decode cX7_year 70 = .ok (.istore 4, 2) := by decide +kernel
theorem dX7_year_72 : decode cX7_year 72 = .ok (.iconst 0, 1) := by decide +kernel
theorem dX7_year_73 : decode cX7_year 73 = .ok (.istore 5, 2) := by decide +kernel
theorem dX7_year_75 : decode cX7_year 75 = .ok (.iload 5, 2) := by decide +kernel
theorem dX7_year_77 : decode cX7_year 77 = .ok (.iload_n 2, 1) := by decide +kernel
theorem dX7_year_78 : decode cX7_year 78 = .ok (.if_icmp .ge 123, 3) := by decide +kernel
theorem dX7_year_81 : decode cX7_year 81 = .ok (.ldc2_w 206, 3) := by decide +kernel
theorem dX7_year_84 : decode cX7_year 84 = .ok (.iload_n 1, 1) := by decide +kernel
theorem dX7_year_85 : decode cX7_year 85 = .ok (.i2l, 1) := by decide +kernel
theorem dX7_year_86 : decode cX7_year 86 = .ok (.lmul, 1) := by decide +kernel
theorem dX7_year_87 : decode cX7_year 87 = .ok (.ldc2_w 208, 3) := by decide +kernel
theorem dX7_year_90 : decode cX7_year 90 = .ok (.iload 5, 2) := by decide +kernel
theorem dX7_year_92 : decode cX7_year 92 = .ok (.i2l, 1) := by decide +kernel
theorem dX7_year_93 : decode cX7_year 93 = .ok (.lmul, 1) := by decide +kernel
theorem dX7_year_94 : decode cX7_year 94 = .ok (.ladd, 1) := by decide +kernel
theorem dX7_year_95 : decode cX7_year 95 = .ok (.lconst 1, 1) := by decide +kernel
theorem dX7_year_96 : decode cX7_year 96 = .ok (.ladd, 1) := by decide +kernel
theorem dX7_year_97 : decode cX7_year 97 = .ok (.lstore 6, 2) := by decide +kernel
theorem dX7_year_99 : decode cX7_year 99 = .ok (.lload 6, 2) := by decide +kernel
theorem dX7_year_101 : decode cX7_year 101 = .ok (.lload 6, 2) := by decide +kernel
theorem dX7_year_103 : decode cX7_year 103 = .ok (.lmul, 1) := by decide +kernel
theorem dX7_year_104 : decode cX7_year 104 = .ok (.ldc2_w 210, 3) := by decide +kernel
theorem dX7_year_107 : decode cX7_year 107 = .ok (.lrem, 1) := by decide +kernel
theorem dX7_year_108 : decode cX7_year 108 = .ok (.ldc2_w 212, 3) := by decide +kernel
theorem dX7_year_111 : decode cX7_year 111 = .ok (.lrem, 1) := by decide +kernel
theorem dX7_year_112 : decode cX7_year 112 = .ok (.l2i, 1) := by decide +kernel
theorem dX7_year_113 : decode cX7_year 113 = .ok (.istore 8, 2) := by decide +kernel
theorem dX7_year_115 : decode cX7_year 115 = .ok (.aload_n 0, 1) := by decide +kernel
theorem dX7_year_116 : decode cX7_year 116 = .ok (.iload 8, 2) := by decide +kernel
theorem dX7_year_118 : decode cX7_year 118 = .ok (.aload_n 0, 1) := by decide +kernel
theorem dX7_year_119 : decode cX7_year 119 = .ok (.getfield 196, 3) := by decide +kernel
theorem dX7_year_122 : decode cX7_year 122 = .ok (.aload_n 0, 1) := by decide +kernel
theorem dX7_year_123 : decode cX7_year 123 = .ok (.getfield 199, 3) := by decide +kernel
theorem dX7_year_126 : decode cX7_year 126 = .ok (.invokevirtual 121, 3) := by decide +kernel
theorem dX7_year_129 : decode cX7_year 129 = .ok (.ifCond .ne 17, 3) := by decide +kernel
theorem dX7_year_132 : decode cX7_year 132 = .ok (.aload_n 0, 1) := by decide +kernel
theorem dX7_year_133 : decode cX7_year 133 = .ok (.getfield 42, 3) := by decide +kernel
theorem dX7_year_136 : decode cX7_year 136 = .ok (.iload 8, 2) := by decide +kernel
theorem dX7_year_138 : decode cX7_year 138 = .ok (.dup2, 1) := by decide +kernel
theorem dX7_year_139 : decode cX7_year 139 = .ok (.iaload, 1) := by decide +kernel
theorem dX7_year_140 : decode cX7_year 140 = .ok (.iconst 1, 1) := by decide +kernel
theorem dX7_year_141 : decode cX7_year 141 = .ok (.iadd, 1) := by decide +kernel
theorem dX7_year_142 : decode cX7_year 142 = .ok (.iastore, 1) := by decide +kernel
theorem dX7_year_143 : decode cX7_year 143 = .ok (.goto 52, 3) := by decide +kernel
theorem dX7_year_146 : decode cX7_year 146 = .ok (.aload_n 0, 1) := by decide +kernel
theorem dX7_year_147 : decode cX7_year 147 = .ok (.iload 8, 2) := by decide +kernel
theorem dX7_year_149 : decode cX7_year 149 = .ok (.invokevirtual 214, 3) := by decide +kernel
theorem dX7_year_152 : decode cX7_year 152 = .ok (.iinc 4 1, 3) := by decide +kernel
theorem dX7_year_155 : decode cX7_year 155 = .ok (.aload_n 0, 1) := by decide +kernel
theorem dX7_year_156 : decode cX7_year 156 = .ok (.invokevirtual 217, 3) := by decide +kernel
theorem dX7_year_159 : decode cX7_year 159 = .ok (.istore 9, 2) := by decide +kernel
theorem dX7_year_161 : decode cX7_year 161 = .ok (.iload 9, 2) := by decide +kernel
theorem dX7_year_163 : decode cX7_year 163 = .ok (.ifCond .lt 32, 3) := by decide +kernel
theorem dX7_year_166 : decode cX7_year 166 = .ok (.aload_n 0, 1) := by decide +kernel
theorem dX7_year_167 : decode cX7_year 167 = .ok (.getfield 42, 3) := by decide +kernel
theorem dX7_year_170 : decode cX7_year 170 = .ok (.iload 9, 2) := by decide +kernel
theorem dX7_year_172 : decode cX7_year 172 = .ok (.dup2, 1) := by decide +kernel
theorem dX7_year_173 : decode cX7_year 173 = .ok (.iaload, 1) := by decide +kernel
theorem dX7_year_174 : decode cX7_year 174 = .ok (.iconst 1, 1) := by decide +kernel
theorem dX7_year_175 : decode cX7_year 175 = .ok (.isub, 1) := by decide +kernel
theorem dX7_year_176 : decode cX7_year 176 = .ok (.iastore, 1) := by decide +kernel
theorem dX7_year_177 : decode cX7_year 177 = .ok (.aload_n 0, 1) := by decide +kernel
theorem dX7_year_178 : decode cX7_year 178 = .ok (.iload 9, 2) := by decide +kernel
theorem dX7_year_180 : decode cX7_year 180 = .ok (.invokevirtual 214, 3) := by decide +kernel
theorem dX7_year_183 : decode cX7_year 183 = .ok (.iinc 4 1, 3) := by decide +kernel
theorem dX7_year_186 : decode cX7_year 186 = .ok (.aload_n 0, 1) := by decide +kernel
theorem dX7_year_187 : decode cX7_year 187 = .ok (.invokevirtual 217, 3) := by decide +kernel
theorem dX7_year_190 : decode cX7_year 190 = .ok (.istore 9, 2) := by decide +kernel
theorem dX7_year_192 : decode cX7_year 192 = .ok (.goto (-31), 3) := by decide +kernel
theorem dX7_year_195 : decode cX7_year 195 = .ok (.iinc 5 1, 3) := by decide +kernel
theorem dX7_year_198 : decode cX7_year 198 = .ok (.goto (-123), 3) := by decide +kernel
theorem dX7_year_201 : decode cX7_year 201 = .ok (.iload_n 3, 1) := by decide +kernel
theorem dX7_year_202 : decode cX7_year 202 = .ok (.ifCond .ne 8, 3) := by decide +kernel
theorem dX7_year_205 : decode cX7_year 205 = .ok (.iload 4, 2) := by decide +kernel
theorem dX7_year_207 : decode cX7_year 207 = .ok (.goto 7, 3) := by decide +kernel
theorem dX7_year_210 : decode cX7_year 210 = .ok (.iload_n 2, 1) := by decide +kernel
theorem dX7_year_211 : decode cX7_year 211 = .ok (.iload 4, 2) := by decide +kernel
theorem dX7_year_213 : decode cX7_year 213 = .ok (.isub, 1) := by decide +kernel
theorem dX7_year_214 : decode cX7_year 214 = .ok (.ireturn, 1) := by decide +kernel
theorem dX7_keep_0 : decode cX7_keep 0 = .ok (.aload_n 0, 1) := by decide +kernel
theorem dX7_keep_1 : decode cX7_keep 1 = .ok (.getfield 104, 3) := by decide +kernel
theorem dX7_keep_4 : decode cX7_keep 4 = .ok (.iconst 2, 1) := by decide +kernel
theorem dX7_keep_5 : decode cX7_keep 5 = .ok (.if_icmp .ne 6, 3) := by decide +kernel
theorem dX7_keep_8 : decode cX7_keep 8 = .ok (.bipush (-3), 2) := by decide +kernel
theorem dX7_keep_10 : decode cX7_keep 10 = .ok (.ireturn, 1) := by decide +kernel
theorem dX7_keep_11 : decode cX7_keep 11 = .ok (.aload_n 0, 1) := by decide +kernel
theorem dX7_keep_12 : decode cX7_keep 12 = .ok (.dup, 1) := by decide +kernel
theorem dX7_keep_13 : decode cX7_keep 13 = .ok (.getfield 104, 3) := by decide +kernel
theorem dX7_keep_16 : decode cX7_keep 16 = .ok (.iconst 1, 1) := by decide +kernel
theorem dX7_keep_17 : decode cX7_keep 17 = .ok (.iadd, 1) := by decide +kernel
theorem dX7_keep_18 : decode cX7_keep 18 = .ok (.putfield 104, 3) := by decide +kernel
theorem dX7_keep_21 : decode cX7_keep 21 = .ok (.aload_n 0, 1) := by decide +kernel
theorem dX7_keep_22 : decode cX7_keep 22 = .ok (.iconst 0, 1) := by decide +kernel
theorem dX7_keep_23 : decode cX7_keep 23 = .ok (.aload_n 0, 1) := by decide +kernel
theorem dX7_keep_24 : decode cX7_keep 24 = .ok (.getfield 104, 3) := by decide +kernel
theorem dX7_keep_27 : decode cX7_keep 27 = .ok (.invokevirtual 131, 3) := by decide +kernel
theorem dX7_keep_30 : decode cX7_keep 30 = .ok (.aload_n 0, 1) := by decide +kernel
theorem dX7_keep_31 : decode cX7_keep 31 = .ok (.getfield 104, 3) := by decide +kernel
theorem dX7_keep_34 : decode cX7_keep 34 = .ok (.ireturn, 1) := by decide +kernel
theorem dX7_back_0 : decode cX7_back 0 = .ok (.aload_n 0, 1) := by decide +kernel
theorem dX7_back_1 : decode cX7_back 1 = .ok (.getfield 104, 3) := by decide +kernel
theorem dX7_back_4 : decode cX7_back 4 = .ok (.ifCond .ne 6, 3) := by decide +kernel
theorem dX7_back_7 : decode cX7_back 7 = .ok (.bipush (-2), 2) := by decide +kernel
theorem dX7_back_9 : decode cX7_back 9 = .ok (.ireturn, 1) := by decide +kernel
theorem dX7_back_10 : decode cX7_back 10 = .ok (.aload_n 0, 1) := by decide +kernel
theorem dX7_back_11 : decode cX7_back 11 = .ok (.aload_n 0, 1) := by decide +kernel
theorem dX7_back_12 : decode cX7_back 12 = .ok (.getfield 104, 3) := by decide +kernel
theorem dX7_back_15 : decode cX7_back 15 = .ok (.iconst 0, 1) := by decide +kernel
theorem dX7_back_16 : decode cX7_back 16 = .ok (.invokevirtual 131, 3) := by decide +kernel
theorem dX7_back_19 : decode cX7_back 19 = .ok (.aload_n 0, 1) := by decide +kernel
theorem dX7_back_20 : decode cX7_back 20 = .ok (.dup, 1) := by decide +kernel
theorem dX7_back_21 : decode cX7_back 21 = .ok (.getfield 104, 3) := by decide +kernel
theorem dX7_back_24 : decode cX7_back 24 = .ok (.iconst 1, 1) := by decide +kernel
theorem dX7_back_25 : decode cX7_back 25 = .ok (.isub, 1) := by decide +kernel
theorem dX7_back_26 : decode cX7_back 26 = .ok (.putfield 104, 3) := by decide +kernel
theorem dX7_back_29 : decode cX7_back 29 = .ok (.aload_n 0, 1) := by decide +kernel
theorem dX7_back_30 : decode cX7_back 30 = .ok (.iconst 0, 1) := by decide +kernel
theorem dX7_back_31 : decode cX7_back 31 = .ok (.putfield 98, 3) := by decide +kernel
theorem dX7_back_34 : decode cX7_back 34 = .ok (.aload_n 0, 1) := by decide +kernel
theorem dX7_back_35 : decode cX7_back 35 = .ok (.iconst 0, 1) := by decide +kernel
theorem dX7_back_36 : decode cX7_back 36 = .ok (.putfield 101, 3) := by decide +kernel
theorem dX7_back_39 : decode cX7_back 39 = .ok (.aload_n 0, 1) := by decide +kernel
theorem dX7_back_40 : decode cX7_back 40 = .ok (.getfield 104, 3) := by decide +kernel
theorem dX7_back_43 : decode cX7_back 43 = .ok (.ireturn, 1) := by decide +kernel
theorem dX7_such_0 : decode cX7_such 0 = .ok (.iconst 0, 1) := by decide +kernel
theorem dX7_such_1 : decode cX7_such 1 = .ok (.istore_n 2, 1) := by decide +kernel
theorem dX7_such_2 : decode cX7_such 2 = .ok (.iconst 0, 1) := by decide +kernel
theorem dX7_such_3 : decode cX7_such 3 = .ok (.istore_n 3, 1) := by decide +kernel
theorem dX7_such_4 : decode cX7_such 4 = .ok (.iload_n 3, 1) := by decide +kernel
theorem dX7_such_5 : decode cX7_such 5 = .ok (.aload_n 0, 1) := by decide +kernel
theorem dX7_such_6 : decode cX7_such 6 = .ok (.getfield 23, 3) := by decide +kernel
theorem dX7_such_9 : decode cX7_such 9 = .ok (.bipush 50, 2) := by decide +kernel
theorem dX7_such_11 : decode cX7_such 11 = .ok (.iaload, 1) := by decide +kernel
theorem dX7_such_12 : decode cX7_such 12 = .ok (.if_icmp .ge 27, 3) := by decide +kernel
theorem dX7_such_15 : decode cX7_such 15 = .ok (.iload_n 2, 1) := by decide +kernel
theorem dX7_such_16 : decode cX7_such 16 = .ok (.aload_n 0, 1) := by decide +kernel
theorem dX7_such_17 : decode cX7_such 17 = .ok (.iload_n 3, 1) := by decide +kernel
theorem dX7_such_18 : decode cX7_such 18 = .ok (.iconst 4, 1) := by decide +kernel
theorem dX7_such_19 : decode cX7_such 19 = .ok (.invokevirtual 114, 3) := by decide +kernel
theorem dX7_such_22 : decode cX7_such 22 = .ok (.iload_n 1, 1) := by decide +kernel
theorem dX7_such_23 : decode cX7_such 23 = .ok (.if_icmp .ne 7, 3) := by decide +kernel
theorem dX7_such_26 : decode cX7_such 26 = .ok (.iconst 1, 1) := by decide +kernel
theorem dX7_such_27 : decode cX7_such 27 = .ok (.goto 4, 3) := by decide +kernel
theorem dX7_such_30 : decode cX7_such 30 = .ok (.iconst 0, 1) := by decide +kernel
theorem dX7_such_31 : decode cX7_such 31 = .ok (.iadd, 1) := by decide +kernel
theorem dX7_such_32 : decode cX7_such 32 = .ok (.istore_n 2, 1) := by decide +kernel
theorem dX7_such_33 : decode cX7_such 33 = .ok (.iinc 3 1, 3) := by decide +kernel
theorem dX7_such_36 : decode cX7_such 36 = .ok (.goto (-32), 3) := by decide +kernel
theorem dX7_such_39 : decode cX7_such 39 = .ok (.iload_n 2, 1) := by decide +kernel
theorem dX7_such_40 : decode cX7_such 40 = .ok (.ireturn, 1) := by decide +kernel
theorem dX7_count_0 : decode cX7_count 0 = .ok (.iload_n 1, 1) := by decide +kernel
theorem dX7_count_1 : decode cX7_count 1 = .ok (.tableswitch 95 0 7 #[47, 55, 61, 67, 75, 80, 85, 90], 47) := by decide +kernel
theorem dX7_count_48 : decode cX7_count 48 = .ok (.aload_n 0, 1) := by decide +kernel
theorem dX7_count_49 : decode cX7_count 49 = .ok (.getfield 23, 3) := by decide +kernel
theorem dX7_count_52 : decode cX7_count 52 = .ok (.bipush 50, 2) := by decide +kernel
theorem dX7_count_54 : decode cX7_count 54 = .ok (.iaload, 1) := by decide +kernel
theorem dX7_count_55 : decode cX7_count 55 = .ok (.ireturn, 1) := by decide +kernel
theorem dX7_count_56 : decode cX7_count 56 = .ok (.aload_n 0, 1) := by decide +kernel
theorem dX7_count_57 : decode cX7_count 57 = .ok (.iconst 0, 1) := by decide +kernel
theorem dX7_count_58 : decode cX7_count 58 = .ok (.invokevirtual 220, 3) := by decide +kernel
theorem dX7_count_61 : decode cX7_count 61 = .ok (.ireturn, 1) := by decide +kernel
theorem dX7_count_62 : decode cX7_count 62 = .ok (.aload_n 0, 1) := by decide +kernel
theorem dX7_count_63 : decode cX7_count 63 = .ok (.iconst 1, 1) := by decide +kernel
theorem dX7_count_64 : decode cX7_count 64 = .ok (.invokevirtual 220, 3) := by decide +kernel
theorem dX7_count_67 : decode cX7_count 67 = .ok (.ireturn, 1) := by decide +kernel
theorem dX7_count_68 : decode cX7_count 68 = .ok (.aload_n 0, 1) := by decide +kernel
theorem dX7_count_69 : decode cX7_count 69 = .ok (.getfield 23, 3) := by decide +kernel
theorem dX7_count_72 : decode cX7_count 72 = .ok (.bipush 51, 2) := by decide +kernel
theorem dX7_count_74 : decode cX7_count 74 = .ok (.iaload, 1) := by decide +kernel
theorem dX7_count_75 : decode cX7_count 75 = .ok (.ireturn, 1) := by decide +kernel
theorem dX7_count_76 : decode cX7_count 76 = .ok (.aload_n 0, 1) := by decide +kernel
theorem dX7_count_77 : decode cX7_count 77 = .ok (.getfield 98, 3) := by decide +kernel
theorem dX7_count_80 : decode cX7_count 80 = .ok (.ireturn, 1) := by decide +kernel
theorem dX7_count_81 : decode cX7_count 81 = .ok (.aload_n 0, 1) := by decide +kernel
theorem dX7_count_82 : decode cX7_count 82 = .ok (.getfield 101, 3) := by decide +kernel
theorem dX7_count_85 : decode cX7_count 85 = .ok (.ireturn, 1) := by decide +kernel
theorem dX7_count_86 : decode cX7_count 86 = .ok (.aload_n 0, 1) := by decide +kernel
theorem dX7_count_87 : decode cX7_count 87 = .ok (.getfield 104, 3) := by decide +kernel
theorem dX7_count_90 : decode cX7_count 90 = .ok (.ireturn, 1) := by decide +kernel
theorem dX7_count_91 : decode cX7_count 91 = .ok (.aload_n 0, 1) := by decide +kernel
theorem dX7_count_92 : decode cX7_count 92 = .ok (.getfield 73, 3) := by decide +kernel
theorem dX7_count_95 : decode cX7_count 95 = .ok (.ireturn, 1) := by decide +kernel
theorem dX7_count_96 : decode cX7_count 96 = .ok (.iconst (-1), 1) := by decide +kernel
theorem dX7_count_97 : decode cX7_count 97 = .ok (.ireturn, 1) := by decide +kernel
theorem dJ6_bitCount_0f7a4_0 : decode cJ6_bitCount_0f7a4 0 = .ok (.iload_n 0, 1) := by decide +kernel
theorem dJ6_bitCount_0f7a4_1 : decode cJ6_bitCount_0f7a4 1 = .ok (.iload_n 0, 1) := by decide +kernel
theorem dJ6_bitCount_0f7a4_2 : decode cJ6_bitCount_0f7a4 2 = .ok (.iconst 1, 1) := by decide +kernel
theorem dJ6_bitCount_0f7a4_3 : decode cJ6_bitCount_0f7a4 3 = .ok (.iushr, 1) := by decide +kernel
theorem dJ6_bitCount_0f7a4_4 : decode cJ6_bitCount_0f7a4 4 = .ok (.ldc_w 265, 3) := by decide +kernel
theorem dJ6_bitCount_0f7a4_7 : decode cJ6_bitCount_0f7a4 7 = .ok (.iand, 1) := by decide +kernel
theorem dJ6_bitCount_0f7a4_8 : decode cJ6_bitCount_0f7a4 8 = .ok (.isub, 1) := by decide +kernel
theorem dJ6_bitCount_0f7a4_9 : decode cJ6_bitCount_0f7a4 9 = .ok (.istore_n 0, 1) := by decide +kernel
theorem dJ6_bitCount_0f7a4_10 : decode cJ6_bitCount_0f7a4 10 = .ok (.iload_n 0, 1) := by decide +kernel
theorem dJ6_bitCount_0f7a4_11 : decode cJ6_bitCount_0f7a4 11 = .ok (.ldc_w 266, 3) := by decide +kernel
theorem dJ6_bitCount_0f7a4_14 : decode cJ6_bitCount_0f7a4 14 = .ok (.iand, 1) := by decide +kernel
theorem dJ6_bitCount_0f7a4_15 : decode cJ6_bitCount_0f7a4 15 = .ok (.iload_n 0, 1) := by decide +kernel
theorem dJ6_bitCount_0f7a4_16 : decode cJ6_bitCount_0f7a4 16 = .ok (.iconst 2, 1) := by decide +kernel
theorem dJ6_bitCount_0f7a4_17 : decode cJ6_bitCount_0f7a4 17 = .ok (.iushr, 1) := by decide +kernel
theorem dJ6_bitCount_0f7a4_18 : decode cJ6_bitCount_0f7a4 18 = .ok (.ldc_w 266, 3) := by decide +kernel
theorem dJ6_bitCount_0f7a4_21 : decode cJ6_bitCount_0f7a4 21 = .ok (.iand, 1) := by decide +kernel
theorem dJ6_bitCount_0f7a4_22 : decode cJ6_bitCount_0f7a4 22 = .ok (.iadd, 1) := by decide +kernel
theorem dJ6_bitCount_0f7a4_23 : decode cJ6_bitCount_0f7a4 23 = .ok (.istore_n 0, 1) := by decide +kernel
theorem dJ6_bitCount_0f7a4_24 : decode cJ6_bitCount_0f7a4 24 = .ok (.iload_n 0, 1) := by decide +kernel
theorem dJ6_bitCount_0f7a4_25 : decode cJ6_bitCount_0f7a4 25 = .ok (.iload_n 0, 1) := by decide +kernel
theorem dJ6_bitCount_0f7a4_26 : decode cJ6_bitCount_0f7a4 26 = .ok (.iconst 4, 1) := by decide +kernel
theorem dJ6_bitCount_0f7a4_27 : decode cJ6_bitCount_0f7a4 27 = .ok (.iushr, 1) := by decide +kernel
theorem dJ6_bitCount_0f7a4_28 : decode cJ6_bitCount_0f7a4 28 = .ok (.iadd, 1) := by decide +kernel
theorem dJ6_bitCount_0f7a4_29 : decode cJ6_bitCount_0f7a4 29 = .ok (.ldc_w 267, 3) := by decide +kernel
theorem dJ6_bitCount_0f7a4_32 : decode cJ6_bitCount_0f7a4 32 = .ok (.iand, 1) := by decide +kernel
theorem dJ6_bitCount_0f7a4_33 : decode cJ6_bitCount_0f7a4 33 = .ok (.istore_n 0, 1) := by decide +kernel
theorem dJ6_bitCount_0f7a4_34 : decode cJ6_bitCount_0f7a4 34 = .ok (.iload_n 0, 1) := by decide +kernel
theorem dJ6_bitCount_0f7a4_35 : decode cJ6_bitCount_0f7a4 35 = .ok (.iload_n 0, 1) := by decide +kernel
theorem dJ6_bitCount_0f7a4_36 : decode cJ6_bitCount_0f7a4 36 = .ok (.bipush 8, 2) := by decide +kernel
theorem dJ6_bitCount_0f7a4_38 : decode cJ6_bitCount_0f7a4 38 = .ok (.iushr, 1) := by decide +kernel
theorem dJ6_bitCount_0f7a4_39 : decode cJ6_bitCount_0f7a4 39 = .ok (.iadd, 1) := by decide +kernel
theorem dJ6_bitCount_0f7a4_40 : decode cJ6_bitCount_0f7a4 40 = .ok (.istore_n 0, 1) := by decide +kernel
theorem dJ6_bitCount_0f7a4_41 : decode cJ6_bitCount_0f7a4 41 = .ok (.iload_n 0, 1) := by decide +kernel
theorem dJ6_bitCount_0f7a4_42 : decode cJ6_bitCount_0f7a4 42 = .ok (.iload_n 0, 1) := by decide +kernel
theorem dJ6_bitCount_0f7a4_43 : decode cJ6_bitCount_0f7a4 43 = .ok (.bipush 16, 2) := by decide +kernel
theorem dJ6_bitCount_0f7a4_45 : decode cJ6_bitCount_0f7a4 45 = .ok (.iushr, 1) := by decide +kernel
theorem dJ6_bitCount_0f7a4_46 : decode cJ6_bitCount_0f7a4 46 = .ok (.iadd, 1) := by decide +kernel
theorem dJ6_bitCount_0f7a4_47 : decode cJ6_bitCount_0f7a4 47 = .ok (.istore_n 0, 1) := by decide +kernel
theorem dJ6_bitCount_0f7a4_48 : decode cJ6_bitCount_0f7a4 48 = .ok (.iload_n 0, 1) := by decide +kernel
theorem dJ6_bitCount_0f7a4_49 : decode cJ6_bitCount_0f7a4 49 = .ok (.bipush 63, 2) := by decide +kernel
theorem dJ6_bitCount_0f7a4_51 : decode cJ6_bitCount_0f7a4 51 = .ok (.iand, 1) := by decide +kernel
theorem dJ6_bitCount_0f7a4_52 : decode cJ6_bitCount_0f7a4 52 = .ok (.ireturn, 1) := by decide +kernel
theorem dJ9_max_7cf53_0 : decode cJ9_max_7cf53 0 = .ok (.iload_n 0, 1) := by decide +kernel
theorem dJ9_max_7cf53_1 : decode cJ9_max_7cf53 1 = .ok (.iload_n 1, 1) := by decide +kernel
theorem dJ9_max_7cf53_2 : decode cJ9_max_7cf53 2 = .ok (.if_icmp .lt 7, 3) := by decide +kernel
theorem dJ9_max_7cf53_5 : decode cJ9_max_7cf53 5 = .ok (.iload_n 0, 1) := by decide +kernel
theorem dJ9_max_7cf53_6 : decode cJ9_max_7cf53 6 = .ok (.goto 4, 3) := by decide +kernel
theorem dJ9_max_7cf53_9 : decode cJ9_max_7cf53 9 = .ok (.iload_n 1, 1) := by decide +kernel
theorem dJ9_max_7cf53_10 : decode cJ9_max_7cf53 10 = .ok (.ireturn, 1) := by decide +kernel
theorem dJ9_min_7cf53_0 : decode cJ9_min_7cf53 0 = .ok (.iload_n 0, 1) := by decide +kernel
theorem dJ9_min_7cf53_1 : decode cJ9_min_7cf53 1 = .ok (.iload_n 1, 1) := by decide +kernel
theorem dJ9_min_7cf53_2 : decode cJ9_min_7cf53 2 = .ok (.if_icmp .gt 7, 3) := by decide +kernel
theorem dJ9_min_7cf53_5 : decode cJ9_min_7cf53 5 = .ok (.iload_n 0, 1) := by decide +kernel
theorem dJ9_min_7cf53_6 : decode cJ9_min_7cf53 6 = .ok (.goto 4, 3) := by decide +kernel
theorem dJ9_min_7cf53_9 : decode cJ9_min_7cf53 9 = .ok (.iload_n 1, 1) := by decide +kernel
theorem dJ9_min_7cf53_10 : decode cJ9_min_7cf53 10 = .ok (.ireturn, 1) := by decide +kernel
theorem dJ7_fill_53178_0 : decode cJ7_fill_53178 0 = .ok (.iconst 0, 1) := by decide +kernel
theorem dJ7_fill_53178_1 : decode cJ7_fill_53178 1 = .ok (.istore_n 2, 1) := by decide +kernel
theorem dJ7_fill_53178_2 : decode cJ7_fill_53178 2 = .ok (.aload_n 0, 1) := by decide +kernel
theorem dJ7_fill_53178_3 : decode cJ7_fill_53178 3 = .ok (.arraylength, 1) := by decide +kernel
theorem dJ7_fill_53178_4 : decode cJ7_fill_53178 4 = .ok (.istore_n 3, 1) := by decide +kernel
theorem dJ7_fill_53178_5 : decode cJ7_fill_53178 5 = .ok (.iload_n 2, 1) := by decide +kernel
theorem dJ7_fill_53178_6 : decode cJ7_fill_53178 6 = .ok (.iload_n 3, 1) := by decide +kernel
theorem dJ7_fill_53178_7 : decode cJ7_fill_53178 7 = .ok (.if_icmp .ge 13, 3) := by decide +kernel
theorem dJ7_fill_53178_10 : decode cJ7_fill_53178 10 = .ok (.aload_n 0, 1) := by decide +kernel
theorem dJ7_fill_53178_11 : decode cJ7_fill_53178 11 = .ok (.iload_n 2, 1) := by decide +kernel
theorem dJ7_fill_53178_12 : decode cJ7_fill_53178 12 = .ok (.iload_n 1, 1) := by decide +kernel
theorem dJ7_fill_53178_13 : decode cJ7_fill_53178 13 = .ok (.iastore, 1) := by decide +kernel
theorem dJ7_fill_53178_14 : decode cJ7_fill_53178 14 = .ok (.iinc 2 1, 3) := by decide +kernel
theorem dJ7_fill_53178_17 : decode cJ7_fill_53178 17 = .ok (.goto (-12), 3) := by decide +kernel
theorem dJ7_fill_53178_20 : decode cJ7_fill_53178 20 = .ok (.return_, 1) := by decide +kernel
theorem dL_law_0 : decode cL_law 0 = .ok (.new 7, 3) := by decide +kernel
theorem dL_law_3 : decode cL_law 3 = .ok (.dup, 1) := by decide +kernel
theorem dL_law_4 : decode cL_law 4 = .ok (.invokespecial 9, 3) := by decide +kernel
theorem dL_law_7 : decode cL_law 7 = .ok (.astore_n 1, 1) := by decide +kernel
theorem dL_law_8 : decode cL_law 8 = .ok (.new 10, 3) := by decide +kernel
theorem dL_law_11 : decode cL_law 11 = .ok (.dup, 1) := by decide +kernel
theorem dL_law_12 : decode cL_law 12 = .ok (.invokespecial 12, 3) := by decide +kernel
theorem dL_law_15 : decode cL_law 15 = .ok (.astore_n 2, 1) := by decide +kernel
theorem dL_law_16 : decode cL_law 16 = .ok (.iconst 0, 1) := by decide +kernel
theorem dL_law_17 : decode cL_law 17 = .ok (.istore_n 3, 1) := by decide +kernel
theorem dL_law_18 : decode cL_law 18 = .ok (.iload_n 3, 1) := by decide +kernel
theorem dL_law_19 : decode cL_law 19 = .ok (.aload_n 0, 1) := by decide +kernel
theorem dL_law_20 : decode cL_law 20 = .ok (.arraylength, 1) := by decide +kernel
theorem dL_law_21 : decode cL_law 21 = .ok (.iconst 4, 1) := by decide +kernel
theorem dL_law_22 : decode cL_law 22 = .ok (.isub, 1) := by decide +kernel
theorem dL_law_23 : decode cL_law 23 = .ok (.if_icmp .gt 714, 3) := by decide +kernel
theorem dL_law_26 : decode cL_law 26 = .ok (.aload_n 0, 1) := by decide +kernel
theorem dL_law_27 : decode cL_law 27 = .ok (.iload_n 3, 1) := by decide +kernel
theorem dL_law_28 : decode cL_law 28 = .ok (.iaload, 1) := by decide +kernel
theorem dL_law_29 : decode cL_law 29 = .ok (.bipush 31, 2) := by decide +kernel
theorem dL_law_31 : decode cL_law 31 = .ok (.iand, 1) := by decide +kernel
theorem dL_law_32 : decode cL_law 32 = .ok (.tableswitch 699 0 25 #[120, 183, 196, 209, 222, 255, 278, 301, 334, 357, 370, 383, 406, 419, 442, 456, 479, 492, 515, 538, 561, 584, 607, 650, 663, 676], 120) := by decide +kernel
theorem dL_law_152 : decode cL_law 152 = .ok (.aload_n 1, 1) := by decide +kernel
theorem dL_law_153 : decode cL_law 153 = .ok (.aload_n 0, 1) := by decide +kernel
theorem dL_law_154 : decode cL_law 154 = .ok (.iload_n 3, 1) := by decide +kernel
theorem dL_law_155 : decode cL_law 155 = .ok (.iconst 1, 1) := by decide +kernel
theorem dL_law_156 : decode cL_law 156 = .ok (.iadd, 1) := by decide +kernel
theorem dL_law_157 : decode cL_law 157 = .ok (.iaload, 1) := by decide +kernel
theorem dL_law_158 : decode cL_law 158 = .ok (.aload_n 0, 1) := by decide +kernel
theorem dL_law_159 : decode cL_law 159 = .ok (.iload_n 3, 1) := by decide +kernel
theorem dL_law_160 : decode cL_law 160 = .ok (.iconst 2, 1) := by decide +kernel
theorem dL_law_161 : decode cL_law 161 = .ok (.iadd, 1) := by decide +kernel
theorem dL_law_162 : decode cL_law 162 = .ok (.iaload, 1) := by decide +kernel
theorem dL_law_163 : decode cL_law 163 = .ok (.i2l, 1) := by decide +kernel
theorem dL_law_164 : decode cL_law 164 = .ok (.bipush 32, 2) := by decide +kernel
theorem dL_law_166 : decode cL_law 166 = .ok (.lshl, 1) := by decide +kernel
theorem dL_law_167 : decode cL_law 167 = .ok (.aload_n 0, 1) := by decide +kernel
theorem dL_law_168 : decode cL_law 168 = .ok (.iload_n 3, 1) := by decide +kernel
theorem dL_law_169 : decode cL_law 169 = .ok (.iconst 3, 1) := by decide +kernel
theorem dL_law_170 : decode cL_law 170 = .ok (.iadd, 1) := by decide +kernel
theorem dL_law_171 : decode cL_law 171 = .ok (.iaload, 1) := by decide +kernel
theorem dL_law_172 : decode cL_law 172 = .ok (.i2l, 1) := by decide +kernel
theorem dL_law_173 : decode cL_law 173 = .ok (.ldc2_w 13, 3) := by decide +kernel
theorem dL_law_176 : decode cL_law 176 = .ok (.land, 1) := by decide +kernel
theorem dL_law_177 : decode cL_law 177 = .ok (.lor, 1) := by decide +kernel
theorem dL_law_178 : decode cL_law 178 = .ok (.invokevirtual 15, 3) := by decide +kernel
theorem dL_law_181 : decode cL_law 181 = .ok (.aload_n 2, 1) := by decide +kernel
theorem dL_law_182 : decode cL_law 182 = .ok (.aload_n 0, 1) := by decide +kernel
theorem dL_law_183 : decode cL_law 183 = .ok (.iload_n 3, 1) := by decide +kernel
theorem dL_law_184 : decode cL_law 184 = .ok (.iconst 1, 1) := by decide +kernel
theorem dL_law_185 : decode cL_law 185 = .ok (.iadd, 1) := by decide +kernel
theorem dL_law_186 : decode cL_law 186 = .ok (.iaload, 1) := by decide +kernel
theorem dL_law_187 : decode cL_law 187 = .ok (.aload_n 0, 1) := by decide +kernel
theorem dL_law_188 : decode cL_law 188 = .ok (.iload_n 3, 1) := by decide +kernel
theorem dL_law_189 : decode cL_law 189 = .ok (.iconst 2, 1) := by decide +kernel
theorem dL_law_190 : decode cL_law 190 = .ok (.iadd, 1) := by decide +kernel
theorem dL_law_191 : decode cL_law 191 = .ok (.iaload, 1) := by decide +kernel
theorem dL_law_192 : decode cL_law 192 = .ok (.i2l, 1) := by decide +kernel
theorem dL_law_193 : decode cL_law 193 = .ok (.bipush 32, 2) := by decide +kernel
theorem dL_law_195 : decode cL_law 195 = .ok (.lshl, 1) := by decide +kernel
theorem dL_law_196 : decode cL_law 196 = .ok (.aload_n 0, 1) := by decide +kernel
theorem dL_law_197 : decode cL_law 197 = .ok (.iload_n 3, 1) := by decide +kernel
theorem dL_law_198 : decode cL_law 198 = .ok (.iconst 3, 1) := by decide +kernel
theorem dL_law_199 : decode cL_law 199 = .ok (.iadd, 1) := by decide +kernel
theorem dL_law_200 : decode cL_law 200 = .ok (.iaload, 1) := by decide +kernel
theorem dL_law_201 : decode cL_law 201 = .ok (.i2l, 1) := by decide +kernel
theorem dL_law_202 : decode cL_law 202 = .ok (.ldc2_w 13, 3) := by decide +kernel
theorem dL_law_205 : decode cL_law 205 = .ok (.land, 1) := by decide +kernel
theorem dL_law_206 : decode cL_law 206 = .ok (.lor, 1) := by decide +kernel
theorem dL_law_207 : decode cL_law 207 = .ok (.invokevirtual 19, 3) := by decide +kernel
theorem dL_law_210 : decode cL_law 210 = .ok (.if_icmp .eq 521, 3) := by decide +kernel
theorem dL_law_213 : decode cL_law 213 = .ok (.iconst 0, 1) := by decide +kernel
theorem dL_law_214 : decode cL_law 214 = .ok (.ireturn, 1) := by decide +kernel
theorem dL_law_215 : decode cL_law 215 = .ok (.aload_n 1, 1) := by decide +kernel
theorem dL_law_216 : decode cL_law 216 = .ok (.invokevirtual 20, 3) := by decide +kernel
theorem dL_law_219 : decode cL_law 219 = .ok (.aload_n 2, 1) := by decide +kernel
theorem dL_law_220 : decode cL_law 220 = .ok (.invokevirtual 24, 3) := by decide +kernel
theorem dL_law_223 : decode cL_law 223 = .ok (.if_icmp .eq 508, 3) := by decide +kernel
theorem dL_law_226 : decode cL_law 226 = .ok (.iconst 0, 1) := by decide +kernel
theorem dL_law_227 : decode cL_law 227 = .ok (.ireturn, 1) := by decide +kernel
theorem dL_law_228 : decode cL_law 228 = .ok (.aload_n 1, 1) := by decide +kernel
theorem dL_law_229 : decode cL_law 229 = .ok (.invokevirtual 25, 3) := by decide +kernel
theorem dL_law_232 : decode cL_law 232 = .ok (.aload_n 2, 1) := by decide +kernel
theorem dL_law_233 : decode cL_law 233 = .ok (.invokevirtual 28, 3) := by decide +kernel
theorem dL_law_236 : decode cL_law 236 = .ok (.if_icmp .eq 495, 3) := by decide +kernel
theorem dL_law_239 : decode cL_law 239 = .ok (.iconst 0, 1) := by decide +kernel
theorem dL_law_240 : decode cL_law 240 = .ok (.ireturn, 1) := by decide +kernel
theorem dL_law_241 : decode cL_law 241 = .ok (.aload_n 1, 1) := by decide +kernel
theorem dL_law_242 : decode cL_law 242 = .ok (.invokevirtual 29, 3) := by decide +kernel
theorem dL_law_245 : decode cL_law 245 = .ok (.aload_n 2, 1) := by decide +kernel
theorem dL_law_246 : decode cL_law 246 = .ok (.invokevirtual 32, 3) := by decide +kernel
theorem dL_law_249 : decode cL_law 249 = .ok (.if_icmp .eq 482, 3) := by decide +kernel
theorem dL_law_252 : decode cL_law 252 = .ok (.iconst 0, 1) := by decide +kernel
theorem dL_law_253 : decode cL_law 253 = .ok (.ireturn, 1) := by decide +kernel
theorem dL_law_254 : decode cL_law 254 = .ok (.aload_n 1, 1) := by decide +kernel
theorem dL_law_255 : decode cL_law 255 = .ok (.aload_n 0, 1) := by decide +kernel
theorem dL_law_256 : decode cL_law 256 = .ok (.iload_n 3, 1) := by decide +kernel
theorem dL_law_257 : decode cL_law 257 = .ok (.iconst 1, 1) := by decide +kernel
theorem dL_law_258 : decode cL_law 258 = .ok (.iadd, 1) := by decide +kernel
theorem dL_law_259 : decode cL_law 259 = .ok (.iaload, 1) := by decide +kernel
theorem dL_law_260 : decode cL_law 260 = .ok (.aload_n 0, 1) := by decide +kernel
theorem dL_law_261 : decode cL_law 261 = .ok (.iload_n 3, 1) := by decide +kernel
theorem dL_law_262 : decode cL_law 262 = .ok (.iconst 2, 1) := by decide +kernel
theorem dL_law_263 : decode cL_law 263 = .ok (.iadd, 1) := by decide +kernel
theorem dL_law_264 : decode cL_law 264 = .ok (.iaload, 1) := by decide +kernel
theorem dL_law_265 : decode cL_law 265 = .ok (.invokevirtual 33, 3) := by decide +kernel
theorem dL_law_268 : decode cL_law 268 = .ok (.aload_n 2, 1) := by decide +kernel
theorem dL_law_269 : decode cL_law 269 = .ok (.aload_n 0, 1) := by decide +kernel
theorem dL_law_270 : decode cL_law 270 = .ok (.iload_n 3, 1) := by decide +kernel
theorem dL_law_271 : decode cL_law 271 = .ok (.iconst 1, 1) := by decide +kernel
theorem dL_law_272 : decode cL_law 272 = .ok (.iadd, 1) := by decide +kernel
theorem dL_law_273 : decode cL_law 273 = .ok (.iaload, 1) := by decide +kernel
theorem dL_law_274 : decode cL_law 274 = .ok (.aload_n 0, 1) := by decide +kernel
theorem dL_law_275 : decode cL_law 275 = .ok (.iload_n 3, 1) := by decide +kernel
theorem dL_law_276 : decode cL_law 276 = .ok (.iconst 2, 1) := by decide +kernel
theorem dL_law_277 : decode cL_law 277 = .ok (.iadd, 1) := by decide +kernel
theorem dL_law_278 : decode cL_law 278 = .ok (.iaload, 1) := by decide +kernel
theorem dL_law_279 : decode cL_law 279 = .ok (.invokevirtual 37, 3) := by decide +kernel
theorem dL_law_282 : decode cL_law 282 = .ok (.if_icmp .eq 449, 3) := by decide +kernel
theorem dL_law_285 : decode cL_law 285 = .ok (.iconst 0, 1) := by decide +kernel
theorem dL_law_286 : decode cL_law 286 = .ok (.ireturn, 1) := by decide +kernel
theorem dL_law_287 : decode cL_law 287 = .ok (.aload_n 1, 1) := by decide +kernel
theorem dL_law_288 : decode cL_law 288 = .ok (.aload_n 0, 1) := by decide +kernel
theorem dL_law_289 : decode cL_law 289 = .ok (.iload_n 3, 1) := by decide +kernel
theorem dL_law_290 : decode cL_law 290 = .ok (.iconst 1, 1) := by decide +kernel
theorem dL_law_291 : decode cL_law 291 = .ok (.iadd, 1) := by decide +kernel
theorem dL_law_292 : decode cL_law 292 = .ok (.iaload, 1) := by decide +kernel
theorem dL_law_293 : decode cL_law 293 = .ok (.invokevirtual 38, 3) := by decide +kernel
theorem dL_law_296 : decode cL_law 296 = .ok (.aload_n 2, 1) := by decide +kernel
theorem dL_law_297 : decode cL_law 297 = .ok (.aload_n 0, 1) := by decide +kernel
theorem dL_law_298 : decode cL_law 298 = .ok (.iload_n 3, 1) := by decide +kernel
theorem dL_law_299 : decode cL_law 299 = .ok (.iconst 1, 1) := by decide +kernel
theorem dL_law_300 : decode cL_law 300 = .ok (.iadd, 1) := by decide +kernel
theorem dL_law_301 : decode cL_law 301 = .ok (.iaload, 1) := by decide +kernel
theorem dL_law_302 : decode cL_law 302 = .ok (.invokevirtual 42, 3) := by decide +kernel
theorem dL_law_305 : decode cL_law 305 = .ok (.if_icmp .eq 426, 3) := by decide +kernel
theorem dL_law_308 : decode cL_law 308 = .ok (.iconst 0, 1) := by decide +kernel
theorem dL_law_309 : decode cL_law 309 = .ok (.ireturn, 1) := by decide +kernel
theorem dL_law_310 : decode cL_law 310 = .ok (.aload_n 1, 1) := by decide +kernel
theorem dL_law_311 : decode cL_law 311 = .ok (.aload_n 0, 1) := by decide +kernel
theorem dL_law_312 : decode cL_law 312 = .ok (.iload_n 3, 1) := by decide +kernel
theorem dL_law_313 : decode cL_law 313 = .ok (.iconst 1, 1) := by decide +kernel
theorem dL_law_314 : decode cL_law 314 = .ok (.iadd, 1) := by decide +kernel
theorem dL_law_315 : decode cL_law 315 = .ok (.iaload, 1) := by decide +kernel
theorem dL_law_316 : decode cL_law 316 = .ok (.invokevirtual 43, 3) := by decide +kernel
theorem dL_law_319 : decode cL_law 319 = .ok (.aload_n 2, 1) := by decide +kernel
theorem dL_law_320 : decode cL_law 320 = .ok (.aload_n 0, 1) := by decide +kernel
theorem dL_law_321 : decode cL_law 321 = .ok (.iload_n 3, 1) := by decide +kernel
theorem dL_law_322 : decode cL_law 322 = .ok (.iconst 1, 1) := by decide +kernel
theorem dL_law_323 : decode cL_law 323 = .ok (.iadd, 1) := by decide +kernel
theorem dL_law_324 : decode cL_law 324 = .ok (.iaload, 1) := by decide +kernel
theorem dL_law_325 : decode cL_law 325 = .ok (.invokevirtual 46, 3) := by decide +kernel
theorem dL_law_328 : decode cL_law 328 = .ok (.if_icmp .eq 403, 3) := by decide +kernel
theorem dL_law_331 : decode cL_law 331 = .ok (.iconst 0, 1) := by decide +kernel
theorem dL_law_332 : decode cL_law 332 = .ok (.ireturn, 1) := by decide +kernel
theorem dL_law_333 : decode cL_law 333 = .ok (.aload_n 1, 1) := by decide +kernel
theorem dL_law_334 : decode cL_law 334 = .ok (.aload_n 0, 1) := by decide +kernel
theorem dL_law_335 : decode cL_law 335 = .ok (.iload_n 3, 1) := by decide +kernel
theorem dL_law_336 : decode cL_law 336 = .ok (.iconst 1, 1) := by decide +kernel
theorem dL_law_337 : decode cL_law 337 = .ok (.iadd, 1) := by decide +kernel
theorem dL_law_338 : decode cL_law 338 = .ok (.iaload, 1) := by decide +kernel
theorem dL_law_339 : decode cL_law 339 = .ok (.aload_n 0, 1) := by decide +kernel
theorem dL_law_340 : decode cL_law 340 = .ok (.iload_n 3, 1) := by decide +kernel
theorem dL_law_341 : decode cL_law 341 = .ok (.iconst 2, 1) := by decide +kernel
theorem dL_law_342 : decode cL_law 342 = .ok (.iadd, 1) := by decide +kernel
theorem dL_law_343 : decode cL_law 343 = .ok (.iaload, 1) := by decide +kernel
theorem dL_law_344 : decode cL_law 344 = .ok (.invokevirtual 47, 3) := by decide +kernel
theorem dL_law_347 : decode cL_law 347 = .ok (.aload_n 2, 1) := by decide +kernel
theorem dL_law_348 : decode cL_law 348 = .ok (.aload_n 0, 1) := by decide +kernel
theorem dL_law_349 : decode cL_law 349 = .ok (.iload_n 3, 1) := by decide +kernel
theorem dL_law_350 : decode cL_law 350 = .ok (.iconst 1, 1) := by decide +kernel
theorem dL_law_351 : decode cL_law 351 = .ok (.iadd, 1) := by decide +kernel
theorem dL_law_352 : decode cL_law 352 = .ok (.iaload, 1) := by decide +kernel
theorem dL_law_353 : decode cL_law 353 = .ok (.aload_n 0, 1) := by decide +kernel
theorem dL_law_354 : decode cL_law 354 = .ok (.iload_n 3, 1) := by decide +kernel
theorem dL_law_355 : decode cL_law 355 = .ok (.iconst 2, 1) := by decide +kernel
theorem dL_law_356 : decode cL_law 356 = .ok (.iadd, 1) := by decide +kernel
theorem dL_law_357 : decode cL_law 357 = .ok (.iaload, 1) := by decide +kernel
theorem dL_law_358 : decode cL_law 358 = .ok (.invokevirtual 50, 3) := by decide +kernel
theorem dL_law_361 : decode cL_law 361 = .ok (.if_icmp .eq 370, 3) := by decide +kernel
theorem dL_law_364 : decode cL_law 364 = .ok (.iconst 0, 1) := by decide +kernel
theorem dL_law_365 : decode cL_law 365 = .ok (.ireturn, 1) := by decide +kernel
theorem dL_law_366 : decode cL_law 366 = .ok (.aload_n 1, 1) := by decide +kernel
theorem dL_law_367 : decode cL_law 367 = .ok (.aload_n 0, 1) := by decide +kernel
theorem dL_law_368 : decode cL_law 368 = .ok (.iload_n 3, 1) := by decide +kernel
theorem dL_law_369 : decode cL_law 369 = .ok (.iconst 1, 1) := by decide +kernel
theorem dL_law_370 : decode cL_law 370 = .ok (.iadd, 1) := by decide +kernel
theorem dL_law_371 : decode cL_law 371 = .ok (.iaload, 1) := by decide +kernel
theorem dL_law_372 : decode cL_law 372 = .ok (.invokevirtual 51, 3) := by decide +kernel
theorem dL_law_375 : decode cL_law 375 = .ok (.aload_n 2, 1) := by decide +kernel
theorem dL_law_376 : decode cL_law 376 = .ok (.aload_n 0, 1) := by decide +kernel
theorem dL_law_377 : decode cL_law 377 = .ok (.iload_n 3, 1) := by decide +kernel
theorem dL_law_378 : decode cL_law 378 = .ok (.iconst 1, 1) := by decide +kernel
theorem dL_law_379 : decode cL_law 379 = .ok (.iadd, 1) := by decide +kernel
theorem dL_law_380 : decode cL_law 380 = .ok (.iaload, 1) := by decide +kernel
theorem dL_law_381 : decode cL_law 381 = .ok (.invokevirtual 54, 3) := by decide +kernel
theorem dL_law_384 : decode cL_law 384 = .ok (.if_icmp .eq 347, 3) := by decide +kernel
theorem dL_law_387 : decode cL_law 387 = .ok (.iconst 0, 1) := by decide +kernel
theorem dL_law_388 : decode cL_law 388 = .ok (.ireturn, 1) := by decide +kernel
theorem dL_law_389 : decode cL_law 389 = .ok (.aload_n 1, 1) := by decide +kernel
theorem dL_law_390 : decode cL_law 390 = .ok (.invokevirtual 55, 3) := by decide +kernel
theorem dL_law_393 : decode cL_law 393 = .ok (.aload_n 2, 1) := by decide +kernel
theorem dL_law_394 : decode cL_law 394 = .ok (.invokevirtual 58, 3) := by decide +kernel
theorem dL_law_397 : decode cL_law 397 = .ok (.if_icmp .eq 334, 3) := by decide +kernel
theorem dL_law_400 : decode cL_law 400 = .ok (.iconst 0, 1) := by decide +kernel
theorem dL_law_401 : decode cL_law 401 = .ok (.ireturn, 1) := by decide +kernel
theorem dL_law_402 : decode cL_law 402 = .ok (.aload_n 1, 1) := by decide +kernel
theorem dL_law_403 : decode cL_law 403 = .ok (.invokevirtual 59, 3) := by decide +kernel
theorem dL_law_406 : decode cL_law 406 = .ok (.aload_n 2, 1) := by decide +kernel
theorem dL_law_407 : decode cL_law 407 = .ok (.invokevirtual 62, 3) := by decide +kernel
theorem dL_law_410 : decode cL_law 410 = .ok (.if_icmp .eq 321, 3) := by decide +kernel
theorem dL_law_413 : decode cL_law 413 = .ok (.iconst 0, 1) := by decide +kernel
theorem dL_law_414 : decode cL_law 414 = .ok (.ireturn, 1) := by decide +kernel
theorem dL_law_415 : decode cL_law 415 = .ok (.aload_n 1, 1) := by decide +kernel
theorem dL_law_416 : decode cL_law 416 = .ok (.aload_n 0, 1) := by decide +kernel
theorem dL_law_417 : decode cL_law 417 = .ok (.iload_n 3, 1) := by decide +kernel
theorem dL_law_418 : decode cL_law 418 = .ok (.iconst 1, 1) := by decide +kernel
theorem dL_law_419 : decode cL_law 419 = .ok (.iadd, 1) := by decide +kernel
theorem dL_law_420 : decode cL_law 420 = .ok (.iaload, 1) := by decide +kernel
theorem dL_law_421 : decode cL_law 421 = .ok (.invokevirtual 63, 3) := by decide +kernel
theorem dL_law_424 : decode cL_law 424 = .ok (.aload_n 2, 1) := by decide +kernel
theorem dL_law_425 : decode cL_law 425 = .ok (.aload_n 0, 1) := by decide +kernel
theorem dL_law_426 : decode cL_law 426 = .ok (.iload_n 3, 1) := by decide +kernel
theorem dL_law_427 : decode cL_law 427 = .ok (.iconst 1, 1) := by decide +kernel
theorem dL_law_428 : decode cL_law 428 = .ok (.iadd, 1) := by decide +kernel
theorem dL_law_429 : decode cL_law 429 = .ok (.iaload, 1) := by decide +kernel
theorem dL_law_430 : decode cL_law 430 = .ok (.invokevirtual 66, 3) := by decide +kernel
theorem dL_law_433 : decode cL_law 433 = .ok (.if_icmp .eq 298, 3) := by decide +kernel
theorem dL_law_436 : decode cL_law 436 = .ok (.iconst 0, 1) := by decide +kernel
theorem dL_law_437 : decode cL_law 437 = .ok (.ireturn, 1) := by decide +kernel
theorem dL_law_438 : decode cL_law 438 = .ok (.aload_n 1, 1) := by decide +kernel
theorem dL_law_439 : decode cL_law 439 = .ok (.invokevirtual 67, 3) := by decide +kernel
theorem dL_law_442 : decode cL_law 442 = .ok (.aload_n 2, 1) := by decide +kernel
theorem dL_law_443 : decode cL_law 443 = .ok (.invokevirtual 70, 3) := by decide +kernel
theorem dL_law_446 : decode cL_law 446 = .ok (.if_icmp .eq 285, 3) := by decide +kernel
theorem dL_law_449 : decode cL_law 449 = .ok (.iconst 0, 1) := by decide +kernel
theorem dL_law_450 : decode cL_law 450 = .ok (.ireturn, 1) := by decide +kernel
theorem dL_law_451 : decode cL_law 451 = .ok (.aload_n 1, 1) := by decide +kernel
theorem dL_law_452 : decode cL_law 452 = .ok (.aload_n 0, 1) := by decide +kernel
theorem dL_law_453 : decode cL_law 453 = .ok (.iload_n 3, 1) := by decide +kernel
theorem dL_law_454 : decode cL_law 454 = .ok (.iconst 1, 1) := by decide +kernel
theorem dL_law_455 : decode cL_law 455 = .ok (.iadd, 1) := by decide +kernel
theorem dL_law_456 : decode cL_law 456 = .ok (.iaload, 1) := by decide +kernel
theorem dL_law_457 : decode cL_law 457 = .ok (.invokevirtual 71, 3) := by decide +kernel
theorem dL_law_460 : decode cL_law 460 = .ok (.aload_n 2, 1) := by decide +kernel
theorem dL_law_461 : decode cL_law 461 = .ok (.aload_n 0, 1) := by decide +kernel
theorem dL_law_462 : decode cL_law 462 = .ok (.iload_n 3, 1) := by decide +kernel
theorem dL_law_463 : decode cL_law 463 = .ok (.iconst 1, 1) := by decide +kernel
theorem dL_law_464 : decode cL_law 464 = .ok (.iadd, 1) := by decide +kernel
theorem dL_law_465 : decode cL_law 465 = .ok (.iaload, 1) := by decide +kernel
theorem dL_law_466 : decode cL_law 466 = .ok (.invokevirtual 74, 3) := by decide +kernel
theorem dL_law_469 : decode cL_law 469 = .ok (.if_icmp .eq 262, 3) := by decide +kernel
theorem dL_law_472 : decode cL_law 472 = .ok (.iconst 0, 1) := by decide +kernel
theorem dL_law_473 : decode cL_law 473 = .ok (.ireturn, 1) := by decide +kernel
theorem dL_law_474 : decode cL_law 474 = .ok (.aload_n 1, 1) := by decide +kernel
theorem dL_law_475 : decode cL_law 475 = .ok (.invokevirtual 75, 3) := by decide +kernel
theorem dL_law_478 : decode cL_law 478 = .ok (.aload_n 2, 1) := by decide +kernel
theorem dL_law_479 : decode cL_law 479 = .ok (.invokevirtual 79, 3) := by decide +kernel
theorem dL_law_482 : decode cL_law 482 = .ok (.lcmp, 1) := by decide +kernel
theorem dL_law_483 : decode cL_law 483 = .ok (.ifCond .eq 248, 3) := by decide +kernel
theorem dL_law_486 : decode cL_law 486 = .ok (.iconst 0, 1) := by decide +kernel
theorem dL_law_487 : decode cL_law 487 = .ok (.ireturn, 1) := by decide +kernel
theorem dL_law_488 : decode cL_law 488 = .ok (.aload_n 1, 1) := by decide +kernel
theorem dL_law_489 : decode cL_law 489 = .ok (.aload_n 0, 1) := by decide +kernel
theorem dL_law_490 : decode cL_law 490 = .ok (.iload_n 3, 1) := by decide +kernel
theorem dL_law_491 : decode cL_law 491 = .ok (.iconst 1, 1) := by decide +kernel
theorem dL_law_492 : decode cL_law 492 = .ok (.iadd, 1) := by decide +kernel
theorem dL_law_493 : decode cL_law 493 = .ok (.iaload, 1) := by decide +kernel
theorem dL_law_494 : decode cL_law 494 = .ok (.invokevirtual 80, 3) := by decide +kernel
theorem dL_law_497 : decode cL_law 497 = .ok (.aload_n 2, 1) := by decide +kernel
theorem dL_law_498 : decode cL_law 498 = .ok (.aload_n 0, 1) := by decide +kernel
theorem dL_law_499 : decode cL_law 499 = .ok (.iload_n 3, 1) := by decide +kernel
theorem dL_law_500 : decode cL_law 500 = .ok (.iconst 1, 1) := by decide +kernel
theorem dL_law_501 : decode cL_law 501 = .ok (.iadd, 1) := by decide +kernel
theorem dL_law_502 : decode cL_law 502 = .ok (.iaload, 1) := by decide +kernel
theorem dL_law_503 : decode cL_law 503 = .ok (.invokevirtual 83, 3) := by decide +kernel
theorem dL_law_506 : decode cL_law 506 = .ok (.if_icmp .eq 225, 3) := by decide +kernel
theorem dL_law_509 : decode cL_law 509 = .ok (.iconst 0, 1) := by decide +kernel
theorem dL_law_510 : decode cL_law 510 = .ok (.ireturn, 1) := by decide +kernel
theorem dL_law_511 : decode cL_law 511 = .ok (.aload_n 1, 1) := by decide +kernel
theorem dL_law_512 : decode cL_law 512 = .ok (.invokevirtual 84, 3) := by decide +kernel
theorem dL_law_515 : decode cL_law 515 = .ok (.aload_n 2, 1) := by decide +kernel
theorem dL_law_516 : decode cL_law 516 = .ok (.invokevirtual 87, 3) := by decide +kernel
theorem dL_law_519 : decode cL_law 519 = .ok (.if_icmp .eq 212, 3) := by decide +kernel
theorem dL_law_522 : decode cL_law 522 = .ok (.iconst 0, 1) := by decide +kernel
theorem dL_law_523 : decode cL_law 523 = .ok (.ireturn, 1) := by decide +kernel
theorem dL_law_524 : decode cL_law 524 = .ok (.aload_n 1, 1) := by decide +kernel
theorem dL_law_525 : decode cL_law 525 = .ok (.aload_n 0, 1) := by decide +kernel
theorem dL_law_526 : decode cL_law 526 = .ok (.iload_n 3, 1) := by decide +kernel
theorem dL_law_527 : decode cL_law 527 = .ok (.iconst 1, 1) := by decide +kernel
theorem dL_law_528 : decode cL_law 528 = .ok (.iadd, 1) := by decide +kernel
theorem dL_law_529 : decode cL_law 529 = .ok (.iaload, 1) := by decide +kernel
theorem dL_law_530 : decode cL_law 530 = .ok (.invokevirtual 88, 3) := by decide +kernel
theorem dL_law_533 : decode cL_law 533 = .ok (.aload_n 2, 1) := by decide +kernel
theorem dL_law_534 : decode cL_law 534 = .ok (.aload_n 0, 1) := by decide +kernel
theorem dL_law_535 : decode cL_law 535 = .ok (.iload_n 3, 1) := by decide +kernel
theorem dL_law_536 : decode cL_law 536 = .ok (.iconst 1, 1) := by decide +kernel
theorem dL_law_537 : decode cL_law 537 = .ok (.iadd, 1) := by decide +kernel
theorem dL_law_538 : decode cL_law 538 = .ok (.iaload, 1) := by decide +kernel
theorem dL_law_539 : decode cL_law 539 = .ok (.invokevirtual 91, 3) := by decide +kernel
theorem dL_law_542 : decode cL_law 542 = .ok (.if_icmp .eq 189, 3) := by decide +kernel
theorem dL_law_545 : decode cL_law 545 = .ok (.iconst 0, 1) := by decide +kernel
theorem dL_law_546 : decode cL_law 546 = .ok (.ireturn, 1) := by decide +kernel
theorem dL_law_547 : decode cL_law 547 = .ok (.aload_n 1, 1) := by decide +kernel
theorem dL_law_548 : decode cL_law 548 = .ok (.aload_n 0, 1) := by decide +kernel
theorem dL_law_549 : decode cL_law 549 = .ok (.iload_n 3, 1) := by decide +kernel
theorem dL_law_550 : decode cL_law 550 = .ok (.iconst 1, 1) := by decide +kernel
theorem dL_law_551 : decode cL_law 551 = .ok (.iadd, 1) := by decide +kernel
theorem dL_law_552 : decode cL_law 552 = .ok (.iaload, 1) := by decide +kernel
theorem dL_law_553 : decode cL_law 553 = .ok (.invokevirtual 92, 3) := by decide +kernel
theorem dL_law_556 : decode cL_law 556 = .ok (.aload_n 2, 1) := by decide +kernel
theorem dL_law_557 : decode cL_law 557 = .ok (.aload_n 0, 1) := by decide +kernel
theorem dL_law_558 : decode cL_law 558 = .ok (.iload_n 3, 1) := by decide +kernel
theorem dL_law_559 : decode cL_law 559 = .ok (.iconst 1, 1) := by decide +kernel
theorem dL_law_560 : decode cL_law 560 = .ok (.iadd, 1) := by decide +kernel
theorem dL_law_561 : decode cL_law 561 = .ok (.iaload, 1) := by decide +kernel
theorem dL_law_562 : decode cL_law 562 = .ok (.invokevirtual 95, 3) := by decide +kernel
theorem dL_law_565 : decode cL_law 565 = .ok (.if_icmp .eq 166, 3) := by decide +kernel
theorem dL_law_568 : decode cL_law 568 = .ok (.iconst 0, 1) := by decide +kernel
theorem dL_law_569 : decode cL_law 569 = .ok (.ireturn, 1) := by decide +kernel
theorem dL_law_570 : decode cL_law 570 = .ok (.aload_n 1, 1) := by decide +kernel
theorem dL_law_571 : decode cL_law 571 = .ok (.aload_n 0, 1) := by decide +kernel
theorem dL_law_572 : decode cL_law 572 = .ok (.iload_n 3, 1) := by decide +kernel
theorem dL_law_573 : decode cL_law 573 = .ok (.iconst 1, 1) := by decide +kernel
theorem dL_law_574 : decode cL_law 574 = .ok (.iadd, 1) := by decide +kernel
theorem dL_law_575 : decode cL_law 575 = .ok (.iaload, 1) := by decide +kernel
theorem dL_law_576 : decode cL_law 576 = .ok (.invokevirtual 96, 3) := by decide +kernel
theorem dL_law_579 : decode cL_law 579 = .ok (.aload_n 2, 1) := by decide +kernel
theorem dL_law_580 : decode cL_law 580 = .ok (.aload_n 0, 1) := by decide +kernel
theorem dL_law_581 : decode cL_law 581 = .ok (.iload_n 3, 1) := by decide +kernel
theorem dL_law_582 : decode cL_law 582 = .ok (.iconst 1, 1) := by decide +kernel
theorem dL_law_583 : decode cL_law 583 = .ok (.iadd, 1) := by decide +kernel
theorem dL_law_584 : decode cL_law 584 = .ok (.iaload, 1) := by decide +kernel
theorem dL_law_585 : decode cL_law 585 = .ok (.invokevirtual 99, 3) := by decide +kernel
theorem dL_law_588 : decode cL_law 588 = .ok (.if_icmp .eq 143, 3) := by decide +kernel
theorem dL_law_591 : decode cL_law 591 = .ok (.iconst 0, 1) := by decide +kernel
theorem dL_law_592 : decode cL_law 592 = .ok (.ireturn, 1) := by decide +kernel
theorem dL_law_593 : decode cL_law 593 = .ok (.aload_n 1, 1) := by decide +kernel
theorem dL_law_594 : decode cL_law 594 = .ok (.aload_n 0, 1) := by decide +kernel
theorem dL_law_595 : decode cL_law 595 = .ok (.iload_n 3, 1) := by decide +kernel
theorem dL_law_596 : decode cL_law 596 = .ok (.iconst 1, 1) := by decide +kernel
theorem dL_law_597 : decode cL_law 597 = .ok (.iadd, 1) := by decide +kernel
theorem dL_law_598 : decode cL_law 598 = .ok (.iaload, 1) := by decide +kernel
theorem dL_law_599 : decode cL_law 599 = .ok (.invokevirtual 100, 3) := by decide +kernel
theorem dL_law_602 : decode cL_law 602 = .ok (.aload_n 2, 1) := by decide +kernel
theorem dL_law_603 : decode cL_law 603 = .ok (.aload_n 0, 1) := by decide +kernel
theorem dL_law_604 : decode cL_law 604 = .ok (.iload_n 3, 1) := by decide +kernel
theorem dL_law_605 : decode cL_law 605 = .ok (.iconst 1, 1) := by decide +kernel
theorem dL_law_606 : decode cL_law 606 = .ok (.iadd, 1) := by decide +kernel
theorem dL_law_607 : decode cL_law 607 = .ok (.iaload, 1) := by decide +kernel
theorem dL_law_608 : decode cL_law 608 = .ok (.invokevirtual 103, 3) := by decide +kernel
theorem dL_law_611 : decode cL_law 611 = .ok (.if_icmp .eq 120, 3) := by decide +kernel
theorem dL_law_614 : decode cL_law 614 = .ok (.iconst 0, 1) := by decide +kernel
theorem dL_law_615 : decode cL_law 615 = .ok (.ireturn, 1) := by decide +kernel
theorem dL_law_616 : decode cL_law 616 = .ok (.aload_n 1, 1) := by decide +kernel
theorem dL_law_617 : decode cL_law 617 = .ok (.aload_n 0, 1) := by decide +kernel
theorem dL_law_618 : decode cL_law 618 = .ok (.iload_n 3, 1) := by decide +kernel
theorem dL_law_619 : decode cL_law 619 = .ok (.iconst 1, 1) := by decide +kernel
theorem dL_law_620 : decode cL_law 620 = .ok (.iadd, 1) := by decide +kernel
theorem dL_law_621 : decode cL_law 621 = .ok (.iaload, 1) := by decide +kernel
theorem dL_law_622 : decode cL_law 622 = .ok (.invokevirtual 104, 3) := by decide +kernel
theorem dL_law_625 : decode cL_law 625 = .ok (.aload_n 2, 1) := by decide +kernel
theorem dL_law_626 : decode cL_law 626 = .ok (.aload_n 0, 1) := by decide +kernel
theorem dL_law_627 : decode cL_law 627 = .ok (.iload_n 3, 1) := by decide +kernel
theorem dL_law_628 : decode cL_law 628 = .ok (.iconst 1, 1) := by decide +kernel
theorem dL_law_629 : decode cL_law 629 = .ok (.iadd, 1) := by decide +kernel
theorem dL_law_630 : decode cL_law 630 = .ok (.iaload, 1) := by decide +kernel
theorem dL_law_631 : decode cL_law 631 = .ok (.invokevirtual 107, 3) := by decide +kernel
theorem dL_law_634 : decode cL_law 634 = .ok (.if_icmp .eq 97, 3) := by decide +kernel
theorem dL_law_637 : decode cL_law 637 = .ok (.iconst 0, 1) := by decide +kernel
theorem dL_law_638 : decode cL_law 638 = .ok (.ireturn, 1) := by decide +kernel
theorem dL_law_639 : decode cL_law 639 = .ok (.aload_n 1, 1) := by decide +kernel
theorem dL_law_640 : decode cL_law 640 = .ok (.aload_n 0, 1) := by decide +kernel
theorem dL_law_641 : decode cL_law 641 = .ok (.iload_n 3, 1) := by decide +kernel
theorem dL_law_642 : decode cL_law 642 = .ok (.iconst 1, 1) := by decide +kernel
theorem dL_law_643 : decode cL_law 643 = .ok (.iadd, 1) := by decide +kernel
theorem dL_law_644 : decode cL_law 644 = .ok (.iaload, 1) := by decide +kernel
theorem dL_law_645 : decode cL_law 645 = .ok (.aload_n 0, 1) := by decide +kernel
theorem dL_law_646 : decode cL_law 646 = .ok (.iload_n 3, 1) := by decide +kernel
theorem dL_law_647 : decode cL_law 647 = .ok (.iconst 2, 1) := by decide +kernel
theorem dL_law_648 : decode cL_law 648 = .ok (.iadd, 1) := by decide +kernel
theorem dL_law_649 : decode cL_law 649 = .ok (.iaload, 1) := by decide +kernel
theorem dL_law_650 : decode cL_law 650 = .ok (.aload_n 0, 1) := by decide +kernel
theorem dL_law_651 : decode cL_law 651 = .ok (.iload_n 3, 1) := by decide +kernel
theorem dL_law_652 : decode cL_law 652 = .ok (.iconst 3, 1) := by decide +kernel
theorem dL_law_653 : decode cL_law 653 = .ok (.iadd, 1) := by decide +kernel
theorem dL_law_654 : decode cL_law 654 = .ok (.iaload, 1) := by decide +kernel
theorem dL_law_655 : decode cL_law 655 = .ok (.invokevirtual 108, 3) := by decide +kernel
theorem dL_law_658 : decode cL_law 658 = .ok (.aload_n 2, 1) := by decide +kernel
theorem dL_law_659 : decode cL_law 659 = .ok (.aload_n 0, 1) := by decide +kernel
theorem dL_law_660 : decode cL_law 660 = .ok (.iload_n 3, 1) := by decide +kernel
theorem dL_law_661 : decode cL_law 661 = .ok (.iconst 1, 1) := by decide +kernel
theorem dL_law_662 : decode cL_law 662 = .ok (.iadd, 1) := by decide +kernel
theorem dL_law_663 : decode cL_law 663 = .ok (.iaload, 1) := by decide +kernel
theorem dL_law_664 : decode cL_law 664 = .ok (.aload_n 0, 1) := by decide +kernel
theorem dL_law_665 : decode cL_law 665 = .ok (.iload_n 3, 1) := by decide +kernel
theorem dL_law_666 : decode cL_law 666 = .ok (.iconst 2, 1) := by decide +kernel
theorem dL_law_667 : decode cL_law 667 = .ok (.iadd, 1) := by decide +kernel
theorem dL_law_668 : decode cL_law 668 = .ok (.iaload, 1) := by decide +kernel
theorem dL_law_669 : decode cL_law 669 = .ok (.aload_n 0, 1) := by decide +kernel
theorem dL_law_670 : decode cL_law 670 = .ok (.iload_n 3, 1) := by decide +kernel
theorem dL_law_671 : decode cL_law 671 = .ok (.iconst 3, 1) := by decide +kernel
theorem dL_law_672 : decode cL_law 672 = .ok (.iadd, 1) := by decide +kernel
theorem dL_law_673 : decode cL_law 673 = .ok (.iaload, 1) := by decide +kernel
theorem dL_law_674 : decode cL_law 674 = .ok (.invokevirtual 112, 3) := by decide +kernel
theorem dL_law_677 : decode cL_law 677 = .ok (.if_icmp .eq 54, 3) := by decide +kernel
theorem dL_law_680 : decode cL_law 680 = .ok (.iconst 0, 1) := by decide +kernel
theorem dL_law_681 : decode cL_law 681 = .ok (.ireturn, 1) := by decide +kernel
theorem dL_law_682 : decode cL_law 682 = .ok (.aload_n 1, 1) := by decide +kernel
theorem dL_law_683 : decode cL_law 683 = .ok (.invokevirtual 113, 3) := by decide +kernel
theorem dL_law_686 : decode cL_law 686 = .ok (.aload_n 2, 1) := by decide +kernel
theorem dL_law_687 : decode cL_law 687 = .ok (.invokevirtual 116, 3) := by decide +kernel
theorem dL_law_690 : decode cL_law 690 = .ok (.if_icmp .eq 41, 3) := by decide +kernel
theorem dL_law_693 : decode cL_law 693 = .ok (.iconst 0, 1) := by decide +kernel
theorem dL_law_694 : decode cL_law 694 = .ok (.ireturn, 1) := by decide +kernel
theorem dL_law_695 : decode cL_law 695 = .ok (.aload_n 1, 1) := by decide +kernel
theorem dL_law_696 : decode cL_law 696 = .ok (.invokevirtual 117, 3) := by decide +kernel
theorem dL_law_699 : decode cL_law 699 = .ok (.aload_n 2, 1) := by decide +kernel
theorem dL_law_700 : decode cL_law 700 = .ok (.invokevirtual 120, 3) := by decide +kernel
theorem dL_law_703 : decode cL_law 703 = .ok (.if_icmp .eq 28, 3) := by decide +kernel
theorem dL_law_706 : decode cL_law 706 = .ok (.iconst 0, 1) := by decide +kernel
theorem dL_law_707 : decode cL_law 707 = .ok (.ireturn, 1) := by decide +kernel
theorem dL_law_708 : decode cL_law 708 = .ok (.aload_n 1, 1) := by decide +kernel
theorem dL_law_709 : decode cL_law 709 = .ok (.aload_n 0, 1) := by decide +kernel
theorem dL_law_710 : decode cL_law 710 = .ok (.iload_n 3, 1) := by decide +kernel
theorem dL_law_711 : decode cL_law 711 = .ok (.iconst 1, 1) := by decide +kernel
theorem dL_law_712 : decode cL_law 712 = .ok (.iadd, 1) := by decide +kernel
theorem dL_law_713 : decode cL_law 713 = .ok (.iaload, 1) := by decide +kernel
theorem dL_law_714 : decode cL_law 714 = .ok (.invokevirtual 121, 3) := by decide +kernel
theorem dL_law_717 : decode cL_law 717 = .ok (.aload_n 2, 1) := by decide +kernel
theorem dL_law_718 : decode cL_law 718 = .ok (.aload_n 0, 1) := by decide +kernel
theorem dL_law_719 : decode cL_law 719 = .ok (.iload_n 3, 1) := by decide +kernel
theorem dL_law_720 : decode cL_law 720 = .ok (.iconst 1, 1) := by decide +kernel
theorem dL_law_721 : decode cL_law 721 = .ok (.iadd, 1) := by decide +kernel
theorem dL_law_722 : decode cL_law 722 = .ok (.iaload, 1) := by decide +kernel
theorem dL_law_723 : decode cL_law 723 = .ok (.invokevirtual 124, 3) := by decide +kernel
theorem dL_law_726 : decode cL_law 726 = .ok (.if_icmp .eq 5, 3) := by decide +kernel
theorem dL_law_729 : decode cL_law 729 = .ok (.iconst 0, 1) := by decide +kernel
theorem dL_law_730 : decode cL_law 730 = .ok (.ireturn, 1) := by decide +kernel
theorem dL_law_731 : decode cL_law 731 = .ok (.iinc 3 4, 3) := by decide +kernel
theorem dL_law_734 : decode cL_law 734 = .ok (.goto (-716), 3) := by decide +kernel
theorem dL_law_737 : decode cL_law 737 = .ok (.iconst 1, 1) := by decide +kernel
theorem dL_law_738 : decode cL_law 738 = .ok (.ireturn, 1) := by decide +kernel
