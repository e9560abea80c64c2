theorem dX10_trustOf_78 : decode cX10_trustOf 78 = .ok (.ifCond .eq 96, 3) := by decide +kernel
theorem dX10_trustOf_81 : decode cX10_trustOf 81 = .ok (.aload_n 0, 1) := by decide +kernel
theorem dX10_trustOf_82 : decode cX10_trustOf 82 = .ok (.iload 5, 2) := by decide +kernel
theorem dX10_trustOf_84 : decode cX10_trustOf 84 = .ok (.invokevirtual 244, 3) := by decide +kernel
theorem dX10_trustOf_87 : decode cX10_trustOf 87 = .ok (.aload_n 0, 1) := by decide +kernel
theorem dX10_trustOf_88 : decode cX10_trustOf 88 = .ok (.getfield 71, 3) := by decide +kernel
theorem dX10_trustOf_91 : decode cX10_trustOf 91 = .ok (.iload 5, 2) := by decide +kernel
theorem dX10_trustOf_93 : decode cX10_trustOf 93 = .ok (.iaload, 1) := by decide +kernel
theorem dX10_trustOf_94 : decode cX10_trustOf 94 = .ok (.isub, 1) := by decide +kernel
theorem dX10_trustOf_95 : decode cX10_trustOf 95 = .ok (.istore 6, 2) := by decide +kernel
theorem dX10_trustOf_97 : decode cX10_trustOf 97 = .ok (.aload_n 0, 1) := by decide +kernel
theorem dX10_trustOf_98 : decode cX10_trustOf 98 = .ok (.getfield 50, 3) := by decide +kernel
theorem dX10_trustOf_101 : decode cX10_trustOf 101 = .ok (.bipush 6, 2) := by decide +kernel
theorem dX10_trustOf_103 : decode cX10_trustOf 103 = .ok (.iload_n 1, 1) := by decide +kernel
theorem dX10_trustOf_104 : decode cX10_trustOf 104 = .ok (.imul, 1) := by decide +kernel
theorem dX10_trustOf_105 : decode cX10_trustOf 105 = .ok (.iconst 1, 1) := by decide +kernel
theorem dX10_trustOf_106 : decode cX10_trustOf 106 = .ok (.iadd, 1) := by decide +kernel
theorem dX10_trustOf_107 : decode cX10_trustOf 107 = .ok (.iaload, 1) := by decide +kernel
theorem dX10_trustOf_108 : decode cX10_trustOf 108 = .ok (.aload_n 0, 1) := by decide +kernel
theorem dX10_trustOf_109 : decode cX10_trustOf 109 = .ok (.getfield 50, 3) := by decide +kernel
theorem dX10_trustOf_112 : decode cX10_trustOf 112 = .ok (.bipush 6, 2) := by decide +kernel
theorem dX10_trustOf_114 : decode cX10_trustOf 114 = .ok (.iload_n 1, 1) := by decide +kernel
theorem dX10_trustOf_115 : decode cX10_trustOf 115 = .ok (.imul, 1) := by decide +kernel
theorem dX10_trustOf_116 : decode cX10_trustOf 116 = .ok (.iconst 3, 1) := by decide +kernel
theorem dX10_trustOf_117 : decode cX10_trustOf 117 = .ok (.iadd, 1) := by decide +kernel
theorem dX10_trustOf_118 : decode cX10_trustOf 118 = .ok (.iaload, 1) := by decide +kernel
theorem dX10_trustOf_119 : decode cX10_trustOf 119 = .ok (.iload 6, 2) := by decide +kernel
theorem dX10_trustOf_121 : decode cX10_trustOf 121 = .ok (.ifCond .ge 7, 3) := by decide +kernel
theorem dX10_trustOf_124 : decode cX10_trustOf 124 = .ok (.iconst 0, 1) := by decide +kernel
theorem dX10_trustOf_125 : decode cX10_trustOf 125 = .ok (.goto 5, 3) := by decide +kernel
theorem dX10_trustOf_128 : decode cX10_trustOf 128 = .ok (.iload 6, 2) := by decide +kernel
theorem dX10_trustOf_130 : decode cX10_trustOf 130 = .ok (.imul, 1) := by decide +kernel
theorem dX10_trustOf_131 : decode cX10_trustOf 131 = .ok (.isub, 1) := by decide +kernel
theorem dX10_trustOf_132 : decode cX10_trustOf 132 = .ok (.istore 7, 2) := by decide +kernel
theorem dX10_trustOf_134 : decode cX10_trustOf 134 = .ok (.iload 4, 2) := by decide +kernel
theorem dX10_trustOf_136 : decode cX10_trustOf 136 = .ok (.aload_n 0, 1) := by decide +kernel
theorem dX10_trustOf_137 : decode cX10_trustOf 137 = .ok (.iload 5, 2) := by decide +kernel
theorem dX10_trustOf_139 : decode cX10_trustOf 139 = .ok (.invokevirtual 241, 3) := by decide +kernel
theorem dX10_trustOf_142 : decode cX10_trustOf 142 = .ok (.ifCond .ne 18, 3) := by decide +kernel
theorem dX10_trustOf_145 : decode cX10_trustOf 145 = .ok (.aload_n 0, 1) := by decide +kernel
theorem dX10_trustOf_146 : decode cX10_trustOf 146 = .ok (.getfield 50, 3) := by decide +kernel
theorem dX10_trustOf_149 : decode cX10_trustOf 149 = .ok (.bipush 6, 2) := by decide +kernel
theorem dX10_trustOf_151 : decode cX10_trustOf 151 = .ok (.iload_n 1, 1) := by decide +kernel
theorem dX10_trustOf_152 : decode cX10_trustOf 152 = .ok (.imul, 1) := by decide +kernel
theorem dX10_trustOf_153 : decode cX10_trustOf 153 = .ok (.iconst 2, 1) := by decide +kernel
theorem dX10_trustOf_154 : decode cX10_trustOf 154 = .ok (.iadd, 1) := by decide +kernel
theorem dX10_trustOf_155 : decode cX10_trustOf 155 = .ok (.iaload, 1) := by decide +kernel
theorem dX10_trustOf_156 : decode cX10_trustOf 156 = .ok (.ineg, 1) := by decide +kernel
theorem dX10_trustOf_157 : decode cX10_trustOf 157 = .ok (.goto 14, 3) := by decide +kernel
theorem dX10_trustOf_160 : decode cX10_trustOf 160 = .ok (.iload 7, 2) := by decide +kernel
theorem dX10_trustOf_162 : decode cX10_trustOf 162 = .ok (.ifCond .ge 7, 3) := by decide +kernel
theorem dX10_trustOf_165 : decode cX10_trustOf 165 = .ok (.iconst 0, 1) := by decide +kernel
theorem dX10_trustOf_166 : decode cX10_trustOf 166 = .ok (.goto 5, 3) := by decide +kernel
theorem dX10_trustOf_169 : decode cX10_trustOf 169 = .ok (.iload 7, 2) := by decide +kernel
theorem dX10_trustOf_171 : decode cX10_trustOf 171 = .ok (.iadd, 1) := by decide +kernel
theorem dX10_trustOf_172 : decode cX10_trustOf 172 = .ok (.istore 4, 2) := by decide +kernel
theorem dX10_trustOf_174 : decode cX10_trustOf 174 = .ok (.iinc 5 1, 3) := by decide +kernel
theorem dX10_trustOf_177 : decode cX10_trustOf 177 = .ok (.goto (-161), 3) := by decide +kernel
theorem dX10_trustOf_180 : decode cX10_trustOf 180 = .ok (.iload 4, 2) := by decide +kernel
theorem dX10_trustOf_182 : decode cX10_trustOf 182 = .ok (.ifCond .ge 7, 3) := by decide +kernel
theorem dX10_trustOf_185 : decode cX10_trustOf 185 = .ok (.iconst 0, 1) := by decide +kernel
theorem dX10_trustOf_186 : decode cX10_trustOf 186 = .ok (.goto 17, 3) := by decide +kernel
theorem dX10_trustOf_189 : decode cX10_trustOf 189 = .ok (.iload 4, 2) := by decide +kernel
theorem dX10_trustOf_191 : decode cX10_trustOf 191 = .ok (.bipush 100, 2) := by decide +kernel
theorem dX10_trustOf_193 : decode cX10_trustOf 193 = .ok (.if_icmp .le 8, 3) := by decide +kernel
theorem dX10_trustOf_196 : decode cX10_trustOf 196 = .ok (.bipush 100, 2) := by decide +kernel
theorem dX10_trustOf_198 : decode cX10_trustOf 198 = .ok (.goto 5, 3) := by decide +kernel
theorem dX10_trustOf_201 : decode cX10_trustOf 201 = .ok (.iload 4, 2) := by decide +kernel
theorem dX10_trustOf_203 : decode cX10_trustOf 203 = .ok (.ireturn, 1) := by decide +kernel
theorem dX10_trust_0 : decode cX10_trust 0 = .ok (.iload_n 1, 1) := by decide +kernel
theorem dX10_trust_1 : decode cX10_trust 1 = .ok (.invokestatic 215, 3) := by decide +kernel
theorem dX10_trust_4 : decode cX10_trust 4 = .ok (.ifCond .eq 10, 3) := by decide +kernel
theorem dX10_trust_7 : decode cX10_trust 7 = .ok (.iload_n 2, 1) := by decide +kernel
theorem dX10_trust_8 : decode cX10_trust 8 = .ok (.invokestatic 155, 3) := by decide +kernel
theorem dX10_trust_11 : decode cX10_trust 11 = .ok (.ifCond .ne 6, 3) := by decide +kernel
theorem dX10_trust_14 : decode cX10_trust 14 = .ok (.bipush (-2), 2) := by decide +kernel
theorem dX10_trust_16 : decode cX10_trust 16 = .ok (.ireturn, 1) := by decide +kernel
theorem dX10_trust_17 : decode cX10_trust 17 = .ok (.iload_n 3, 1) := by decide +kernel
theorem dX10_trust_18 : decode cX10_trust 18 = .ok (.invokestatic 142, 3) := by decide +kernel
theorem dX10_trust_21 : decode cX10_trust 21 = .ok (.ifCond .eq 13, 3) := by decide +kernel
theorem dX10_trust_24 : decode cX10_trust 24 = .ok (.aload_n 0, 1) := by decide +kernel
theorem dX10_trust_25 : decode cX10_trust 25 = .ok (.iload_n 1, 1) := by decide +kernel
theorem dX10_trust_26 : decode cX10_trust 26 = .ok (.iload_n 2, 1) := by decide +kernel
theorem dX10_trust_27 : decode cX10_trust 27 = .ok (.iload_n 3, 1) := by decide +kernel
theorem dX10_trust_28 : decode cX10_trust 28 = .ok (.invokevirtual 273, 3) := by decide +kernel
theorem dX10_trust_31 : decode cX10_trust 31 = .ok (.goto 5, 3) := by decide +kernel
theorem dX10_trust_34 : decode cX10_trust 34 = .ok (.bipush (-3), 2) := by decide +kernel
theorem dX10_trust_36 : decode cX10_trust 36 = .ok (.ireturn, 1) := by decide +kernel
theorem dX10_tellers_0 : decode cX10_tellers 0 = .ok (.iconst 0, 1) := by decide +kernel
theorem dX10_tellers_1 : decode cX10_tellers 1 = .ok (.istore 6, 2) := by decide +kernel
theorem dX10_tellers_3 : decode cX10_tellers 3 = .ok (.iconst 0, 1) := by decide +kernel
theorem dX10_tellers_4 : decode cX10_tellers 4 = .ok (.istore 7, 2) := by decide +kernel
theorem dX10_tellers_6 : decode cX10_tellers 6 = .ok (.iload 7, 2) := by decide +kernel
theorem dX10_tellers_8 : decode cX10_tellers 8 = .ok (.bipush 24, 2) := by decide +kernel
theorem dX10_tellers_10 : decode cX10_tellers 10 = .ok (.aload_n 0, 1) := by decide +kernel
theorem dX10_tellers_11 : decode cX10_tellers 11 = .ok (.getfield 263, 3) := by decide +kernel
theorem dX10_tellers_14 : decode cX10_tellers 14 = .ok (.iadd, 1) := by decide +kernel
theorem dX10_tellers_15 : decode cX10_tellers 15 = .ok (.if_icmp .ge 104, 3) := by decide +kernel
theorem dX10_tellers_18 : decode cX10_tellers 18 = .ok (.aload_n 0, 1) := by decide +kernel
theorem dX10_tellers_19 : decode cX10_tellers 19 = .ok (.iload 7, 2) := by decide +kernel
theorem dX10_tellers_21 : decode cX10_tellers 21 = .ok (.invokevirtual 266, 3) := by decide +kernel
theorem dX10_tellers_24 : decode cX10_tellers 24 = .ok (.ifCond .eq 63, 3) := by decide +kernel
theorem dX10_tellers_27 : decode cX10_tellers 27 = .ok (.aload_n 0, 1) := by decide +kernel
theorem dX10_tellers_28 : decode cX10_tellers 28 = .ok (.iload 7, 2) := by decide +kernel
theorem dX10_tellers_30 : decode cX10_tellers 30 = .ok (.invokevirtual 244, 3) := by decide +kernel
theorem dX10_tellers_33 : decode cX10_tellers 33 = .ok (.iload 5, 2) := by decide +kernel
theorem dX10_tellers_35 : decode cX10_tellers 35 = .ok (.if_icmp .gt 52, 3) := by decide +kernel
theorem dX10_tellers_38 : decode cX10_tellers 38 = .ok (.aload_n 0, 1) := by decide +kernel
theorem dX10_tellers_39 : decode cX10_tellers 39 = .ok (.getfield 65, 3) := by decide +kernel
theorem dX10_tellers_42 : decode cX10_tellers 42 = .ok (.iload 7, 2) := by decide +kernel
theorem dX10_tellers_44 : decode cX10_tellers 44 = .ok (.iaload, 1) := by decide +kernel
theorem dX10_tellers_45 : decode cX10_tellers 45 = .ok (.iload_n 1, 1) := by decide +kernel
theorem dX10_tellers_46 : decode cX10_tellers 46 = .ok (.if_icmp .ne 41, 3) := by decide +kernel
theorem dX10_tellers_49 : decode cX10_tellers 49 = .ok (.aload_n 0, 1) := by decide +kernel
theorem dX10_tellers_50 : decode cX10_tellers 50 = .ok (.getfield 68, 3) := by decide +kernel
theorem dX10_tellers_53 : decode cX10_tellers 53 = .ok (.iload 7, 2) := by decide +kernel
theorem dX10_tellers_55 : decode cX10_tellers 55 = .ok (.iaload, 1) := by decide +kernel
theorem dX10_tellers_56 : decode cX10_tellers 56 = .ok (.iload_n 2, 1) := by decide +kernel
theorem dX10_tellers_57 : decode cX10_tellers 57 = .ok (.if_icmp .ne 30, 3) := by decide +kernel
theorem dX10_tellers_60 : decode cX10_tellers 60 = .ok (.aload_n 0, 1) := by decide +kernel
theorem dX10_tellers_61 : decode cX10_tellers 61 = .ok (.getfield 71, 3) := by decide +kernel
theorem dX10_tellers_64 : decode cX10_tellers 64 = .ok (.iload 7, 2) := by decide +kernel
theorem dX10_tellers_66 : decode cX10_tellers 66 = .ok (.iaload, 1) := by decide +kernel
theorem dX10_tellers_67 : decode cX10_tellers 67 = .ok (.iload_n 3, 1) := by decide +kernel
theorem dX10_tellers_68 : decode cX10_tellers 68 = .ok (.if_icmp .ne 19, 3) := by decide +kernel
theorem dX10_tellers_71 : decode cX10_tellers 71 = .ok (.aload_n 0, 1) := by decide +kernel
theorem dX10_tellers_72 : decode cX10_tellers 72 = .ok (.getfield 74, 3) := by decide +kernel
theorem dX10_tellers_75 : decode cX10_tellers 75 = .ok (.iload 7, 2) := by decide +kernel
theorem dX10_tellers_77 : decode cX10_tellers 77 = .ok (.iaload, 1) := by decide +kernel
theorem dX10_tellers_78 : decode cX10_tellers 78 = .ok (.iload 4, 2) := by decide +kernel
theorem dX10_tellers_80 : decode cX10_tellers 80 = .ok (.if_icmp .ne 7, 3) := by decide +kernel
theorem dX10_tellers_83 : decode cX10_tellers 83 = .ok (.iconst 1, 1) := by decide +kernel
theorem dX10_tellers_84 : decode cX10_tellers 84 = .ok (.goto 4, 3) := by decide +kernel
theorem dX10_tellers_87 : decode cX10_tellers 87 = .ok (.iconst 0, 1) := by decide +kernel
theorem dX10_tellers_88 : decode cX10_tellers 88 = .ok (.istore 8, 2) := by decide +kernel
theorem dX10_tellers_90 : decode cX10_tellers 90 = .ok (.iload 6, 2) := by decide +kernel
theorem dX10_tellers_92 : decode cX10_tellers 92 = .ok (.iload 8, 2) := by decide +kernel
theorem dX10_tellers_94 : decode cX10_tellers 94 = .ok (.ifCond .eq 15, 3) := by decide +kernel
theorem dX10_tellers_97 : decode cX10_tellers 97 = .ok (.iconst 1, 1) := by decide +kernel
theorem dX10_tellers_98 : decode cX10_tellers 98 = .ok (.aload_n 0, 1) := by decide +kernel
theorem dX10_tellers_99 : decode cX10_tellers 99 = .ok (.getfield 56, 3) := by decide +kernel
theorem dX10_tellers_102 : decode cX10_tellers 102 = .ok (.iload 7, 2) := by decide +kernel
theorem dX10_tellers_104 : decode cX10_tellers 104 = .ok (.iaload, 1) := by decide +kernel
theorem dX10_tellers_105 : decode cX10_tellers 105 = .ok (.ishl, 1) := by decide +kernel
theorem dX10_tellers_106 : decode cX10_tellers 106 = .ok (.goto 4, 3) := by decide +kernel
theorem dX10_tellers_109 : decode cX10_tellers 109 = .ok (.iconst 0, 1) := by decide +kernel
theorem dX10_tellers_110 : decode cX10_tellers 110 = .ok (.ior, 1) := by decide +kernel
theorem dX10_tellers_111 : decode cX10_tellers 111 = .ok (.istore 6, 2) := by decide +kernel
theorem dX10_tellers_113 : decode cX10_tellers 113 = .ok (.iinc 7 1, 3) := by decide +kernel
theorem dX10_tellers_116 : decode cX10_tellers 116 = .ok (.goto (-110), 3) := by decide +kernel
theorem dX10_tellers_119 : decode cX10_tellers 119 = .ok (.iload 6, 2) := by decide +kernel
theorem dX10_tellers_121 : decode cX10_tellers 121 = .ok (.ireturn, 1) := by decide +kernel
theorem dX10_weightOf_0 : decode cX10_weightOf 0 = .ok (.iconst 0, 1) := by decide +kernel
theorem dX10_weightOf_1 : decode cX10_weightOf 1 = .ok (.istore 4, 2) := by decide +kernel
theorem dX10_weightOf_3 : decode cX10_weightOf 3 = .ok (.iconst 0, 1) := by decide +kernel
theorem dX10_weightOf_4 : decode cX10_weightOf 4 = .ok (.istore 5, 2) := by decide +kernel
theorem dX10_weightOf_6 : decode cX10_weightOf 6 = .ok (.iconst 0, 1) := by decide +kernel
theorem dX10_weightOf_7 : decode cX10_weightOf 7 = .ok (.istore 6, 2) := by decide +kernel
theorem dX10_weightOf_9 : decode cX10_weightOf 9 = .ok (.iload 6, 2) := by decide +kernel
theorem dX10_weightOf_11 : decode cX10_weightOf 11 = .ok (.bipush 6, 2) := by decide +kernel
theorem dX10_weightOf_13 : decode cX10_weightOf 13 = .ok (.if_icmp .ge 56, 3) := by decide +kernel
theorem dX10_weightOf_16 : decode cX10_weightOf 16 = .ok (.iload_n 2, 1) := by decide +kernel
theorem dX10_weightOf_17 : decode cX10_weightOf 17 = .ok (.iload 6, 2) := by decide +kernel
theorem dX10_weightOf_19 : decode cX10_weightOf 19 = .ok (.ishr, 1) := by decide +kernel
theorem dX10_weightOf_20 : decode cX10_weightOf 20 = .ok (.iconst 1, 1) := by decide +kernel
theorem dX10_weightOf_21 : decode cX10_weightOf 21 = .ok (.iand, 1) := by decide +kernel
theorem dX10_weightOf_22 : decode cX10_weightOf 22 = .ok (.iconst 1, 1) := by decide +kernel
theorem dX10_weightOf_23 : decode cX10_weightOf 23 = .ok (.if_icmp .ne 40, 3) := by decide +kernel
theorem dX10_weightOf_26 : decode cX10_weightOf 26 = .ok (.iload 4, 2) := by decide +kernel
theorem dX10_weightOf_28 : decode cX10_weightOf 28 = .ok (.aload_n 0, 1) := by decide +kernel
theorem dX10_weightOf_29 : decode cX10_weightOf 29 = .ok (.iload_n 1, 1) := by decide +kernel
theorem dX10_weightOf_30 : decode cX10_weightOf 30 = .ok (.iload 6, 2) := by decide +kernel
theorem dX10_weightOf_32 : decode cX10_weightOf 32 = .ok (.iload_n 3, 1) := by decide +kernel
theorem dX10_weightOf_33 : decode cX10_weightOf 33 = .ok (.invokevirtual 273, 3) := by decide +kernel
theorem dX10_weightOf_36 : decode cX10_weightOf 36 = .ok (.iload 5, 2) := by decide +kernel
theorem dX10_weightOf_38 : decode cX10_weightOf 38 = .ok (.ifCond .le 17, 3) := by decide +kernel
theorem dX10_weightOf_41 : decode cX10_weightOf 41 = .ok (.aload_n 0, 1) := by decide +kernel
theorem dX10_weightOf_42 : decode cX10_weightOf 42 = .ok (.getfield 50, 3) := by decide +kernel
theorem dX10_weightOf_45 : decode cX10_weightOf 45 = .ok (.bipush 6, 2) := by decide +kernel
theorem dX10_weightOf_47 : decode cX10_weightOf 47 = .ok (.iload_n 1, 1) := by decide +kernel
theorem dX10_weightOf_48 : decode cX10_weightOf 48 = .ok (.imul, 1) := by decide +kernel
theorem dX10_weightOf_49 : decode cX10_weightOf 49 = .ok (.iconst 4, 1) := by decide +kernel
theorem dX10_weightOf_50 : decode cX10_weightOf 50 = .ok (.iadd, 1) := by decide +kernel
theorem dX10_weightOf_51 : decode cX10_weightOf 51 = .ok (.iaload, 1) := by decide +kernel
theorem dX10_weightOf_52 : decode cX10_weightOf 52 = .ok (.goto 4, 3) := by decide +kernel
theorem dX10_weightOf_55 : decode cX10_weightOf 55 = .ok (.iconst 0, 1) := by decide +kernel
theorem dX10_weightOf_56 : decode cX10_weightOf 56 = .ok (.iadd, 1) := by decide +kernel
theorem dX10_weightOf_57 : decode cX10_weightOf 57 = .ok (.iadd, 1) := by decide +kernel
theorem dX10_weightOf_58 : decode cX10_weightOf 58 = .ok (.istore 4, 2) := by decide +kernel
theorem dX10_weightOf_60 : decode cX10_weightOf 60 = .ok (.iinc 5 1, 3) := by decide +kernel
theorem dX10_weightOf_63 : decode cX10_weightOf 63 = .ok (.iinc 6 1, 3) := by decide +kernel
theorem dX10_weightOf_66 : decode cX10_weightOf 66 = .ok (.goto (-57), 3) := by decide +kernel
theorem dX10_weightOf_69 : decode cX10_weightOf 69 = .ok (.iload 4, 2) := by decide +kernel
theorem dX10_weightOf_71 : decode cX10_weightOf 71 = .ok (.ireturn, 1) := by decide +kernel
theorem dX10_concludes_0 : decode cX10_concludes 0 = .ok (.aload_n 0, 1) := by decide +kernel
theorem dX10_concludes_1 : decode cX10_concludes 1 = .ok (.iload_n 1, 1) := by decide +kernel
theorem dX10_concludes_2 : decode cX10_concludes 2 = .ok (.iload_n 2, 1) := by decide +kernel
theorem dX10_concludes_3 : decode cX10_concludes 3 = .ok (.iload 4, 2) := by decide +kernel
theorem dX10_concludes_5 : decode cX10_concludes 5 = .ok (.iload 5, 2) := by decide +kernel
theorem dX10_concludes_7 : decode cX10_concludes 7 = .ok (.invokevirtual 269, 3) := by decide +kernel
theorem dX10_concludes_10 : decode cX10_concludes 10 = .ok (.ifCond .eq 12, 3) := by decide +kernel
theorem dX10_concludes_13 : decode cX10_concludes 13 = .ok (.aload_n 0, 1) := by decide +kernel
theorem dX10_concludes_14 : decode cX10_concludes 14 = .ok (.iload_n 2, 1) := by decide +kernel
theorem dX10_concludes_15 : decode cX10_concludes 15 = .ok (.iload_n 3, 1) := by decide +kernel
theorem dX10_concludes_16 : decode cX10_concludes 16 = .ok (.iload 4, 2) := by decide +kernel
theorem dX10_concludes_18 : decode cX10_concludes 18 = .ok (.invokevirtual 151, 3) := by decide +kernel
theorem dX10_concludes_21 : decode cX10_concludes 21 = .ok (.ireturn, 1) := by decide +kernel
theorem dX10_concludes_22 : decode cX10_concludes 22 = .ok (.iconst (-1), 1) := by decide +kernel
theorem dX10_concludes_23 : decode cX10_concludes 23 = .ok (.istore 6, 2) := by decide +kernel
theorem dX10_concludes_25 : decode cX10_concludes 25 = .ok (.iconst (-1), 1) := by decide +kernel
theorem dX10_concludes_26 : decode cX10_concludes 26 = .ok (.istore 7, 2) := by decide +kernel
theorem dX10_concludes_28 : decode cX10_concludes 28 = .ok (.iconst 0, 1) := by decide +kernel
theorem dX10_concludes_29 : decode cX10_concludes 29 = .ok (.istore 8, 2) := by decide +kernel
theorem dX10_concludes_31 : decode cX10_concludes 31 = .ok (.iload 8, 2) := by decide +kernel
theorem dX10_concludes_33 : decode cX10_concludes 33 = .ok (.bipush 10, 2) := by decide +kernel
theorem dX10_concludes_35 : decode cX10_concludes 35 = .ok (.if_icmp .ge 75, 3) := by decide +kernel
theorem dX10_concludes_38 : decode cX10_concludes 38 = .ok (.aload_n 0, 1) := by decide +kernel
theorem dX10_concludes_39 : decode cX10_concludes 39 = .ok (.iload_n 2, 1) := by decide +kernel
theorem dX10_concludes_40 : decode cX10_concludes 40 = .ok (.iload_n 3, 1) := by decide +kernel
theorem dX10_concludes_41 : decode cX10_concludes 41 = .ok (.iload 4, 2) := by decide +kernel
theorem dX10_concludes_43 : decode cX10_concludes 43 = .ok (.iload 8, 2) := by decide +kernel
theorem dX10_concludes_45 : decode cX10_concludes 45 = .ok (.iload 5, 2) := by decide +kernel
theorem dX10_concludes_47 : decode cX10_concludes 47 = .ok (.invokevirtual 276, 3) := by decide +kernel
theorem dX10_concludes_50 : decode cX10_concludes 50 = .ok (.istore 9, 2) := by decide +kernel
theorem dX10_concludes_52 : decode cX10_concludes 52 = .ok (.iload 9, 2) := by decide +kernel
theorem dX10_concludes_54 : decode cX10_concludes 54 = .ok (.ifCond .ne 7, 3) := by decide +kernel
theorem dX10_concludes_57 : decode cX10_concludes 57 = .ok (.iconst (-1), 1) := by decide +kernel
theorem dX10_concludes_58 : decode cX10_concludes 58 = .ok (.goto 12, 3) := by decide +kernel
theorem dX10_concludes_61 : decode cX10_concludes 61 = .ok (.aload_n 0, 1) := by decide +kernel
theorem dX10_concludes_62 : decode cX10_concludes 62 = .ok (.iload_n 1, 1) := by decide +kernel
theorem dX10_concludes_63 : decode cX10_concludes 63 = .ok (.iload 9, 2) := by decide +kernel
theorem dX10_concludes_65 : decode cX10_concludes 65 = .ok (.iload 5, 2) := by decide +kernel
theorem dX10_concludes_67 : decode cX10_concludes 67 = .ok (.invokevirtual 280, 3) := by decide +kernel
theorem dX10_concludes_70 : decode cX10_concludes 70 = .ok (.istore 10, 2) := by decide +kernel
theorem dX10_concludes_72 : decode cX10_concludes 72 = .ok (.iload 10, 2) := by decide +kernel
theorem dX10_concludes_74 : decode cX10_concludes 74 = .ok (.iload 7, 2) := by decide +kernel
theorem dX10_concludes_76 : decode cX10_concludes 76 = .ok (.if_icmp .le 8, 3) := by decide +kernel
theorem dX10_concludes_79 : decode cX10_concludes 79 = .ok (.iload 8, 2) := by decide +kernel
theorem dX10_concludes_81 : decode cX10_concludes 81 = .ok (.goto 5, 3) := by decide +kernel
theorem dX10_concludes_84 : decode cX10_concludes 84 = .ok (.iload 6, 2) := by decide +kernel
theorem dX10_concludes_86 : decode cX10_concludes 86 = .ok (.istore 6, 2) := by decide +kernel
theorem dX10_concludes_88 : decode cX10_concludes 88 = .ok (.iload 10, 2) := by decide +kernel
theorem dX10_concludes_90 : decode cX10_concludes 90 = .ok (.iload 7, 2) := by decide +kernel
theorem dX10_concludes_92 : decode cX10_concludes 92 = .ok (.if_icmp .le 8, 3) := by decide +kernel
theorem dX10_concludes_95 : decode cX10_concludes 95 = .ok (.iload 10, 2) := by decide +kernel
theorem dX10_concludes_97 : decode cX10_concludes 97 = .ok (.goto 5, 3) := by decide +kernel
theorem dX10_concludes_100 : decode cX10_concludes 100 = .ok (.iload 7, 2) := by decide +kernel
theorem dX10_concludes_102 : decode cX10_concludes 102 = .ok (.istore 7, 2) := by decide +kernel
theorem dX10_concludes_104 : decode cX10_concludes 104 = .ok (.iinc 8 1, 3) := by decide +kernel
theorem dX10_concludes_107 : decode cX10_concludes 107 = .ok (.goto (-76), 3) := by decide +kernel
theorem dX10_concludes_110 : decode cX10_concludes 110 = .ok (.iload 6, 2) := by decide +kernel
theorem dX10_concludes_112 : decode cX10_concludes 112 = .ok (.iconst (-1), 1) := by decide +kernel
theorem dX10_concludes_113 : decode cX10_concludes 113 = .ok (.if_icmp .eq 24, 3) := by decide +kernel
theorem dX10_concludes_116 : decode cX10_concludes 116 = .ok (.iload 7, 2) := by decide +kernel
theorem dX10_concludes_118 : decode cX10_concludes 118 = .ok (.aload_n 0, 1) := by decide +kernel
theorem dX10_concludes_119 : decode cX10_concludes 119 = .ok (.getfield 50, 3) := by decide +kernel
theorem dX10_concludes_122 : decode cX10_concludes 122 = .ok (.bipush 6, 2) := by decide +kernel
theorem dX10_concludes_124 : decode cX10_concludes 124 = .ok (.iload_n 1, 1) := by decide +kernel
theorem dX10_concludes_125 : decode cX10_concludes 125 = .ok (.imul, 1) := by decide +kernel
theorem dX10_concludes_126 : decode cX10_concludes 126 = .ok (.iconst 5, 1) := by decide +kernel
theorem dX10_concludes_127 : decode cX10_concludes 127 = .ok (.iadd, 1) := by decide +kernel
theorem dX10_concludes_128 : decode cX10_concludes 128 = .ok (.iaload, 1) := by decide +kernel
theorem dX10_concludes_129 : decode cX10_concludes 129 = .ok (.if_icmp .lt 8, 3) := by decide +kernel
theorem dX10_concludes_132 : decode cX10_concludes 132 = .ok (.iload 6, 2) := by decide +kernel
theorem dX10_concludes_134 : decode cX10_concludes 134 = .ok (.goto 4, 3) := by decide +kernel
theorem dX10_concludes_137 : decode cX10_concludes 137 = .ok (.iconst (-1), 1) := by decide +kernel
theorem dX10_concludes_138 : decode cX10_concludes 138 = .ok (.ireturn, 1) := by decide +kernel
theorem dX10_concluded_0 : decode cX10_concluded 0 = .ok (.iload_n 1, 1) := by decide +kernel
theorem dX10_concluded_1 : decode cX10_concluded 1 = .ok (.invokestatic 215, 3) := by decide +kernel
theorem dX10_concluded_4 : decode cX10_concluded 4 = .ok (.ifCond .eq 17, 3) := by decide +kernel
theorem dX10_concluded_7 : decode cX10_concluded 7 = .ok (.iload_n 2, 1) := by decide +kernel
theorem dX10_concluded_8 : decode cX10_concluded 8 = .ok (.invokestatic 133, 3) := by decide +kernel
theorem dX10_concluded_11 : decode cX10_concluded 11 = .ok (.ifCond .eq 10, 3) := by decide +kernel
theorem dX10_concluded_14 : decode cX10_concluded 14 = .ok (.iload_n 3, 1) := by decide +kernel
theorem dX10_concluded_15 : decode cX10_concluded 15 = .ok (.invokestatic 139, 3) := by decide +kernel
theorem dX10_concluded_18 : decode cX10_concluded 18 = .ok (.ifCond .ne 6, 3) := by decide +kernel
theorem dX10_concluded_21 : decode cX10_concluded 21 = .ok (.bipush (-2), 2) := by decide +kernel
theorem dX10_concluded_23 : decode cX10_concluded 23 = .ok (.ireturn, 1) := by decide +kernel
theorem dX10_concluded_24 : decode cX10_concluded 24 = .ok (.iload 4, 2) := by decide +kernel
theorem dX10_concluded_26 : decode cX10_concluded 26 = .ok (.invokestatic 142, 3) := by decide +kernel
theorem dX10_concluded_29 : decode cX10_concluded 29 = .ok (.ifCond .eq 25, 3) := by decide +kernel
theorem dX10_concluded_32 : decode cX10_concluded 32 = .ok (.iload 5, 2) := by decide +kernel
theorem dX10_concluded_34 : decode cX10_concluded 34 = .ok (.invokestatic 142, 3) := by decide +kernel
theorem dX10_concluded_37 : decode cX10_concluded 37 = .ok (.ifCond .eq 17, 3) := by decide +kernel
theorem dX10_concluded_40 : decode cX10_concluded 40 = .ok (.aload_n 0, 1) := by decide +kernel
theorem dX10_concluded_41 : decode cX10_concluded 41 = .ok (.iload_n 1, 1) := by decide +kernel
theorem dX10_concluded_42 : decode cX10_concluded 42 = .ok (.iload_n 2, 1) := by decide +kernel
theorem dX10_concluded_43 : decode cX10_concluded 43 = .ok (.iload_n 3, 1) := by decide +kernel
theorem dX10_concluded_44 : decode cX10_concluded 44 = .ok (.iload 4, 2) := by decide +kernel
theorem dX10_concluded_46 : decode cX10_concluded 46 = .ok (.iload 5, 2) := by decide +kernel
theorem dX10_concluded_48 : decode cX10_concluded 48 = .ok (.invokevirtual 283, 3) := by decide +kernel
theorem dX10_concluded_51 : decode cX10_concluded 51 = .ok (.goto 5, 3) := by decide +kernel
theorem dX10_concluded_54 : decode cX10_concluded 54 = .ok (.bipush (-3), 2) := by decide +kernel
theorem dX10_concluded_56 : decode cX10_concluded 56 = .ok (.ireturn, 1) := by decide +kernel
theorem dX10_weight_0 : decode cX10_weight 0 = .ok (.iload_n 1, 1) := by decide +kernel
theorem dX10_weight_1 : decode cX10_weight 1 = .ok (.invokestatic 215, 3) := by decide +kernel
theorem dX10_weight_4 : decode cX10_weight 4 = .ok (.ifCond .eq 17, 3) := by decide +kernel
theorem dX10_weight_7 : decode cX10_weight 7 = .ok (.iload_n 2, 1) := by decide +kernel
theorem dX10_weight_8 : decode cX10_weight 8 = .ok (.invokestatic 133, 3) := by decide +kernel
theorem dX10_weight_11 : decode cX10_weight 11 = .ok (.ifCond .eq 10, 3) := by decide +kernel
theorem dX10_weight_14 : decode cX10_weight 14 = .ok (.iload_n 3, 1) := by decide +kernel
theorem dX10_weight_15 : decode cX10_weight 15 = .ok (.invokestatic 139, 3) := by decide +kernel
theorem dX10_weight_18 : decode cX10_weight 18 = .ok (.ifCond .ne 6, 3) := by decide +kernel
theorem dX10_weight_21 : decode cX10_weight 21 = .ok (.bipush (-2), 2) := by decide +kernel
theorem dX10_weight_23 : decode cX10_weight 23 = .ok (.ireturn, 1) := by decide +kernel
theorem dX10_weight_24 : decode cX10_weight 24 = .ok (.iload 4, 2) := by decide +kernel
theorem dX10_weight_26 : decode cX10_weight 26 = .ok (.invokestatic 142, 3) := by decide +kernel
theorem dX10_weight_29 : decode cX10_weight 29 = .ok (.ifCond .eq 46, 3) := by decide +kernel
theorem dX10_weight_32 : decode cX10_weight 32 = .ok (.iload 5, 2) := by decide +kernel
theorem dX10_weight_34 : decode cX10_weight 34 = .ok (.i2l, 1) := by decide +kernel
theorem dX10_weight_35 : decode cX10_weight 35 = .ok (.lconst 0, 1) := by decide +kernel
theorem dX10_weight_36 : decode cX10_weight 36 = .ok (.ldc2_w 145, 3) := by decide +kernel
theorem dX10_weight_39 : decode cX10_weight 39 = .ok (.invokestatic 121, 3) := by decide +kernel
theorem dX10_weight_42 : decode cX10_weight 42 = .ok (.ifCond .eq 33, 3) := by decide +kernel
theorem dX10_weight_45 : decode cX10_weight 45 = .ok (.iload 6, 2) := by decide +kernel
theorem dX10_weight_47 : decode cX10_weight 47 = .ok (.invokestatic 142, 3) := by decide +kernel
theorem dX10_weight_50 : decode cX10_weight 50 = .ok (.ifCond .eq 25, 3) := by decide +kernel
theorem dX10_weight_53 : decode cX10_weight 53 = .ok (.aload_n 0, 1) := by decide +kernel
theorem dX10_weight_54 : decode cX10_weight 54 = .ok (.iload_n 1, 1) := by decide +kernel
theorem dX10_weight_55 : decode cX10_weight 55 = .ok (.aload_n 0, 1) := by decide +kernel
theorem dX10_weight_56 : decode cX10_weight 56 = .ok (.iload_n 2, 1) := by decide +kernel
theorem dX10_weight_57 : decode cX10_weight 57 = .ok (.iload_n 3, 1) := by decide +kernel
theorem dX10_weight_58 : decode cX10_weight 58 = .ok (.iload 4, 2) := by decide +kernel
theorem dX10_weight_60 : decode cX10_weight 60 = .ok (.iload 5, 2) := by decide +kernel
theorem dX10_weight_62 : decode cX10_weight 62 = .ok (.iload 6, 2) := by decide +kernel
theorem dX10_weight_64 : decode cX10_weight 64 = .ok (.invokevirtual 276, 3) := by decide +kernel
theorem dX10_weight_67 : decode cX10_weight 67 = .ok (.iload 6, 2) := by decide +kernel
theorem dX10_weight_69 : decode cX10_weight 69 = .ok (.invokevirtual 280, 3) := by decide +kernel
theorem dX10_weight_72 : decode cX10_weight 72 = .ok (.goto 5, 3) := by decide +kernel
theorem dX10_weight_75 : decode cX10_weight 75 = .ok (.bipush (-3), 2) := by decide +kernel
theorem dX10_weight_77 : decode cX10_weight 77 = .ok (.ireturn, 1) := by decide +kernel
theorem dX10_story_0 : decode cX10_story 0 = .ok (.iload_n 1, 1) := by decide +kernel
theorem dX10_story_1 : decode cX10_story 1 = .ok (.invokestatic 133, 3) := by decide +kernel
theorem dX10_story_4 : decode cX10_story 4 = .ok (.ifCond .eq 10, 3) := by decide +kernel
theorem dX10_story_7 : decode cX10_story 7 = .ok (.iload_n 2, 1) := by decide +kernel
theorem dX10_story_8 : decode cX10_story 8 = .ok (.invokestatic 139, 3) := by decide +kernel
theorem dX10_story_11 : decode cX10_story 11 = .ok (.ifCond .ne 6, 3) := by decide +kernel
theorem dX10_story_14 : decode cX10_story 14 = .ok (.bipush (-2), 2) := by decide +kernel
theorem dX10_story_16 : decode cX10_story 16 = .ok (.ireturn, 1) := by decide +kernel
theorem dX10_story_17 : decode cX10_story 17 = .ok (.iload_n 3, 1) := by decide +kernel
theorem dX10_story_18 : decode cX10_story 18 = .ok (.invokestatic 142, 3) := by decide +kernel
theorem dX10_story_21 : decode cX10_story 21 = .ok (.ifCond .eq 16, 3) := by decide +kernel
theorem dX10_story_24 : decode cX10_story 24 = .ok (.iload 4, 2) := by decide +kernel
theorem dX10_story_26 : decode cX10_story 26 = .ok (.i2l, 1) := by decide +kernel
theorem dX10_story_27 : decode cX10_story 27 = .ok (.lconst 0, 1) := by decide +kernel
theorem dX10_story_28 : decode cX10_story 28 = .ok (.ldc2_w 145, 3) := by decide +kernel
theorem dX10_story_31 : decode cX10_story 31 = .ok (.invokestatic 121, 3) := by decide +kernel
theorem dX10_story_34 : decode cX10_story 34 = .ok (.ifCond .ne 6, 3) := by decide +kernel
theorem dX10_story_37 : decode cX10_story 37 = .ok (.bipush (-3), 2) := by decide +kernel
theorem dX10_story_39 : decode cX10_story 39 = .ok (.ireturn, 1) := by decide +kernel
theorem dX10_story_40 : decode cX10_story 40 = .ok (.aload_n 0, 1) := by decide +kernel
theorem dX10_story_41 : decode cX10_story 41 = .ok (.getfield 286, 3) := by decide +kernel
theorem dX10_story_44 : decode cX10_story 44 = .ok (.iconst 4, 1) := by decide +kernel
theorem dX10_story_45 : decode cX10_story 45 = .ok (.if_icmp .ne 6, 3) := by decide +kernel
theorem dX10_story_48 : decode cX10_story 48 = .ok (.bipush (-5), 2) := by decide +kernel
theorem dX10_story_50 : decode cX10_story 50 = .ok (.ireturn, 1) := by decide +kernel
theorem dX10_story_51 : decode cX10_story 51 = .ok (.aload_n 0, 1) := by decide +kernel
theorem dX10_story_52 : decode cX10_story 52 = .ok (.getfield 95, 3) := by decide +kernel
theorem dX10_story_55 : decode cX10_story 55 = .ok (.aload_n 0, 1) := by decide +kernel
theorem dX10_story_56 : decode cX10_story 56 = .ok (.getfield 286, 3) := by decide +kernel
theorem dX10_story_59 : decode cX10_story 59 = .ok (.iload_n 1, 1) := by decide +kernel
theorem dX10_story_60 : decode cX10_story 60 = .ok (.iastore, 1) := by decide +kernel
theorem dX10_story_61 : decode cX10_story 61 = .ok (.aload_n 0, 1) := by decide +kernel
theorem dX10_story_62 : decode cX10_story 62 = .ok (.getfield 98, 3) := by decide +kernel
theorem dX10_story_65 : decode cX10_story 65 = .ok (.aload_n 0, 1) := by decide +kernel
theorem dX10_story_66 : decode cX10_story 66 = .ok (.getfield 286, 3) := by decide +kernel
theorem dX10_story_69 : decode cX10_story 69 = .ok (.iload_n 2, 1) := by decide +kernel
theorem dX10_story_70 : decode cX10_story 70 = .ok (.iastore, 1) := by decide +kernel
theorem dX10_story_71 : decode cX10_story 71 = .ok (.aload_n 0, 1) := by decide +kernel
theorem dX10_story_72 : decode cX10_story 72 = .ok (.getfield 101, 3) := by decide +kernel
theorem dX10_story_75 : decode cX10_story 75 = .ok (.aload_n 0, 1) := by decide +kernel
theorem dX10_story_76 : decode cX10_story 76 = .ok (.getfield 286, 3) := by decide +kernel
theorem dX10_story_79 : decode cX10_story 79 = .ok (.iload_n 3, 1) := by decide +kernel
theorem dX10_story_80 : decode cX10_story 80 = .ok (.iastore, 1) := by decide +kernel
theorem dX10_story_81 : decode cX10_story 81 = .ok (.aload_n 0, 1) := by decide +kernel
theorem dX10_story_82 : decode cX10_story 82 = .ok (.getfield 104, 3) := by decide +kernel
theorem dX10_story_85 : decode cX10_story 85 = .ok (.aload_n 0, 1) := by decide +kernel
theorem dX10_story_86 : decode cX10_story 86 = .ok (.getfield 286, 3) := by decide +kernel
theorem dX10_story_89 : decode cX10_story 89 = .ok (.iload 4, 2) := by decide +kernel
theorem dX10_story_91 : decode cX10_story 91 = .ok (.iastore, 1) := by decide +kernel
theorem dX10_story_92 : decode cX10_story 92 = .ok (.aload_n 0, 1) := by decide +kernel
theorem dX10_story_93 : decode cX10_story 93 = .ok (.dup, 1) := by decide +kernel
theorem dX10_story_94 : decode cX10_story 94 = .ok (.getfield 286, 3) := by decide +kernel
theorem dX10_story_97 : decode cX10_story 97 = .ok (.iconst 1, 1) := by decide +kernel
theorem dX10_story_98 : decode cX10_story 98 = .ok (.iadd, 1) := by decide +kernel
theorem dX10_story_99 : decode cX10_story 99 = .ok (.putfield 286, 3) := by decide +kernel
theorem dX10_story_102 : decode cX10_story 102 = .ok (.aload_n 0, 1) := by decide +kernel
theorem dX10_story_103 : decode cX10_story 103 = .ok (.getfield 286, 3) := by decide +kernel
theorem dX10_story_106 : decode cX10_story 106 = .ok (.ireturn, 1) := by decide +kernel
theorem dX10_heldOn_0 : decode cX10_heldOn 0 = .ok (.iconst 0, 1) := by decide +kernel
theorem dX10_heldOn_1 : decode cX10_heldOn 1 = .ok (.istore_n 3, 1) := by decide +kernel
theorem dX10_heldOn_2 : decode cX10_heldOn 2 = .ok (.iconst 0, 1) := by decide +kernel
theorem dX10_heldOn_3 : decode cX10_heldOn 3 = .ok (.istore 4, 2) := by decide +kernel
theorem dX10_heldOn_5 : decode cX10_heldOn 5 = .ok (.iload 4, 2) := by decide +kernel
theorem dX10_heldOn_7 : decode cX10_heldOn 7 = .ok (.aload_n 0, 1) := by decide +kernel
theorem dX10_heldOn_8 : decode cX10_heldOn 8 = .ok (.getfield 286, 3) := by decide +kernel
theorem dX10_heldOn_11 : decode cX10_heldOn 11 = .ok (.if_icmp .ge 57, 3) := by decide +kernel
theorem dX10_heldOn_14 : decode cX10_heldOn 14 = .ok (.iload_n 3, 1) := by decide +kernel
theorem dX10_heldOn_15 : decode cX10_heldOn 15 = .ok (.aload_n 0, 1) := by decide +kernel
theorem dX10_heldOn_16 : decode cX10_heldOn 16 = .ok (.iload_n 1, 1) := by decide +kernel
theorem dX10_heldOn_17 : decode cX10_heldOn 17 = .ok (.aload_n 0, 1) := by decide +kernel
theorem dX10_heldOn_18 : decode cX10_heldOn 18 = .ok (.getfield 95, 3) := by decide +kernel
theorem dX10_heldOn_21 : decode cX10_heldOn 21 = .ok (.iload 4, 2) := by decide +kernel
theorem dX10_heldOn_23 : decode cX10_heldOn 23 = .ok (.iaload, 1) := by decide +kernel
theorem dX10_heldOn_24 : decode cX10_heldOn 24 = .ok (.aload_n 0, 1) := by decide +kernel
theorem dX10_heldOn_25 : decode cX10_heldOn 25 = .ok (.getfield 98, 3) := by decide +kernel
theorem dX10_heldOn_28 : decode cX10_heldOn 28 = .ok (.iload 4, 2) := by decide +kernel
theorem dX10_heldOn_30 : decode cX10_heldOn 30 = .ok (.iaload, 1) := by decide +kernel
theorem dX10_heldOn_31 : decode cX10_heldOn 31 = .ok (.aload_n 0, 1) := by decide +kernel
theorem dX10_heldOn_32 : decode cX10_heldOn 32 = .ok (.getfield 101, 3) := by decide +kernel
theorem dX10_heldOn_35 : decode cX10_heldOn 35 = .ok (.iload 4, 2) := by decide +kernel
theorem dX10_heldOn_37 : decode cX10_heldOn 37 = .ok (.iaload, 1) := by decide +kernel
theorem dX10_heldOn_38 : decode cX10_heldOn 38 = .ok (.iload_n 2, 1) := by decide +kernel
theorem dX10_heldOn_39 : decode cX10_heldOn 39 = .ok (.invokevirtual 283, 3) := by decide +kernel
theorem dX10_heldOn_42 : decode cX10_heldOn 42 = .ok (.aload_n 0, 1) := by decide +kernel
theorem dX10_heldOn_43 : decode cX10_heldOn 43 = .ok (.getfield 104, 3) := by decide +kernel
theorem dX10_heldOn_46 : decode cX10_heldOn 46 = .ok (.iload 4, 2) := by decide +kernel
theorem dX10_heldOn_48 : decode cX10_heldOn 48 = .ok (.iaload, 1) := by decide +kernel
theorem dX10_heldOn_49 : decode cX10_heldOn 49 = .ok (.if_icmp .ne 10, 3) := by decide +kernel
theorem dX10_heldOn_52 : decode cX10_heldOn 52 = .ok (.iconst 1, 1) := by decide +kernel
theorem dX10_heldOn_53 : decode cX10_heldOn 53 = .ok (.iload 4, 2) := by decide +kernel
theorem dX10_heldOn_55 : decode cX10_heldOn 55 = .ok (.ishl, 1) := by decide +kernel
theorem dX10_heldOn_56 : decode cX10_heldOn 56 = .ok (.goto 4, 3) := by decide +kernel
theorem dX10_heldOn_59 : decode cX10_heldOn 59 = .ok (.iconst 0, 1) := by decide +kernel
theorem dX10_heldOn_60 : decode cX10_heldOn 60 = .ok (.ior, 1) := by decide +kernel
theorem dX10_heldOn_61 : decode cX10_heldOn 61 = .ok (.istore_n 3, 1) := by decide +kernel
theorem dX10_heldOn_62 : decode cX10_heldOn 62 = .ok (.iinc 4 1, 3) := by decide +kernel
theorem dX10_heldOn_65 : decode cX10_heldOn 65 = .ok (.goto (-60), 3) := by decide +kernel
theorem dX10_heldOn_68 : decode cX10_heldOn 68 = .ok (.iload_n 3, 1) := by decide +kernel
theorem dX10_heldOn_69 : decode cX10_heldOn 69 = .ok (.ireturn, 1) := by decide +kernel
theorem dX10_isHeld_0 : decode cX10_isHeld 0 = .ok (.aload_n 0, 1) := by decide +kernel
theorem dX10_isHeld_1 : decode cX10_isHeld 1 = .ok (.iload_n 1, 1) := by decide +kernel
theorem dX10_isHeld_2 : decode cX10_isHeld 2 = .ok (.iload_n 2, 1) := by decide +kernel
theorem dX10_isHeld_3 : decode cX10_isHeld 3 = .ok (.invokevirtual 289, 3) := by decide +kernel
theorem dX10_isHeld_6 : decode cX10_isHeld 6 = .ok (.iconst 1, 1) := by decide +kernel
theorem dX10_isHeld_7 : decode cX10_isHeld 7 = .ok (.aload_n 0, 1) := by decide +kernel
theorem dX10_isHeld_8 : decode cX10_isHeld 8 = .ok (.getfield 286, 3) := by decide +kernel
theorem dX10_isHeld_11 : decode cX10_isHeld 11 = .ok (.ishl, 1) := by decide +kernel
theorem dX10_isHeld_12 : decode cX10_isHeld 12 = .ok (.iconst 1, 1) := by decide +kernel
theorem dX10_isHeld_13 : decode cX10_isHeld 13 = .ok (.isub, 1) := by decide +kernel
theorem dX10_isHeld_14 : decode cX10_isHeld 14 = .ok (.if_icmp .ne 7, 3) := by decide +kernel
theorem dX10_isHeld_17 : decode cX10_isHeld 17 = .ok (.iconst 1, 1) := by decide +kernel
theorem dX10_isHeld_18 : decode cX10_isHeld 18 = .ok (.goto 4, 3) := by decide +kernel
theorem dX10_isHeld_21 : decode cX10_isHeld 21 = .ok (.iconst 0, 1) := by decide +kernel
theorem dX10_isHeld_22 : decode cX10_isHeld 22 = .ok (.ireturn, 1) := by decide +kernel
theorem dX10_holds_0 : decode cX10_holds 0 = .ok (.iload_n 1, 1) := by decide +kernel
theorem dX10_holds_1 : decode cX10_holds 1 = .ok (.invokestatic 215, 3) := by decide +kernel
theorem dX10_holds_4 : decode cX10_holds 4 = .ok (.ifCond .ne 6, 3) := by decide +kernel
theorem dX10_holds_7 : decode cX10_holds 7 = .ok (.bipush (-2), 2) := by decide +kernel
theorem dX10_holds_9 : decode cX10_holds 9 = .ok (.ireturn, 1) := by decide +kernel
theorem dX10_holds_10 : decode cX10_holds 10 = .ok (.iload_n 2, 1) := by decide +kernel
theorem dX10_holds_11 : decode cX10_holds 11 = .ok (.invokestatic 142, 3) := by decide +kernel
theorem dX10_holds_14 : decode cX10_holds 14 = .ok (.ifCond .eq 12, 3) := by decide +kernel
theorem dX10_holds_17 : decode cX10_holds 17 = .ok (.aload_n 0, 1) := by decide +kernel
theorem dX10_holds_18 : decode cX10_holds 18 = .ok (.iload_n 1, 1) := by decide +kernel
theorem dX10_holds_19 : decode cX10_holds 19 = .ok (.iload_n 2, 1) := by decide +kernel
theorem dX10_holds_20 : decode cX10_holds 20 = .ok (.invokevirtual 289, 3) := by decide +kernel
theorem dX10_holds_23 : decode cX10_holds 23 = .ok (.goto 5, 3) := by decide +kernel
theorem dX10_holds_26 : decode cX10_holds 26 = .ok (.bipush (-3), 2) := by decide +kernel
theorem dX10_holds_28 : decode cX10_holds 28 = .ok (.ireturn, 1) := by decide +kernel
theorem dX10_keeps_0 : decode cX10_keeps 0 = .ok (.iload_n 1, 1) := by decide +kernel
theorem dX10_keeps_1 : decode cX10_keeps 1 = .ok (.invokestatic 215, 3) := by decide +kernel
theorem dX10_keeps_4 : decode cX10_keeps 4 = .ok (.ifCond .ne 6, 3) := by decide +kernel
theorem dX10_keeps_7 : decode cX10_keeps 7 = .ok (.bipush (-2), 2) := by decide +kernel
theorem dX10_keeps_9 : decode cX10_keeps 9 = .ok (.ireturn, 1) := by decide +kernel
theorem dX10_keeps_10 : decode cX10_keeps 10 = .ok (.iload_n 2, 1) := by decide +kernel
theorem dX10_keeps_11 : decode cX10_keeps 11 = .ok (.invokestatic 142, 3) := by decide +kernel
theorem dX10_keeps_14 : decode cX10_keeps 14 = .ok (.ifCond .ne 6, 3) := by decide +kernel
theorem dX10_keeps_17 : decode cX10_keeps 17 = .ok (.bipush (-3), 2) := by decide +kernel
theorem dX10_keeps_19 : decode cX10_keeps 19 = .ok (.ireturn, 1) := by decide +kernel
theorem dX10_keeps_20 : decode cX10_keeps 20 = .ok (.iconst 0, 1) := by decide +kernel
theorem dX10_keeps_21 : decode cX10_keeps 21 = .ok (.istore_n 3, 1) := by decide +kernel
theorem dX10_keeps_22 : decode cX10_keeps 22 = .ok (.iload_n 2, 1) := by decide +kernel
theorem dX10_keeps_23 : decode cX10_keeps 23 = .ok (.iload_n 3, 1) := by decide +kernel
theorem dX10_keeps_24 : decode cX10_keeps 24 = .ok (.iadd, 1) := by decide +kernel
theorem dX10_keeps_25 : decode cX10_keeps 25 = .ok (.bipush 60, 2) := by decide +kernel
theorem dX10_keeps_27 : decode cX10_keeps 27 = .ok (.if_icmp .gt 20, 3) := by decide +kernel
theorem dX10_keeps_30 : decode cX10_keeps 30 = .ok (.aload_n 0, 1) := by decide +kernel
theorem dX10_keeps_31 : decode cX10_keeps 31 = .ok (.iload_n 1, 1) := by decide +kernel
theorem dX10_keeps_32 : decode cX10_keeps 32 = .ok (.iload_n 2, 1) := by decide +kernel
theorem dX10_keeps_33 : decode cX10_keeps 33 = .ok (.iload_n 3, 1) := by decide +kernel
theorem dX10_keeps_34 : decode cX10_keeps 34 = .ok (.iadd, 1) := by decide +kernel
theorem dX10_keeps_35 : decode cX10_keeps 35 = .ok (.invokevirtual 292, 3) := by decide +kernel
theorem dX10_keeps_38 : decode cX10_keeps 38 = .ok (.ifCond .eq 9, 3) := by decide +kernel
theorem dX10_keeps_41 : decode cX10_keeps 41 = .ok (.iinc 3 1, 3) := by decide +kernel
theorem dX10_keeps_44 : decode cX10_keeps 44 = .ok (.goto (-22), 3) := by decide +kernel
theorem dX10_keeps_47 : decode cX10_keeps 47 = .ok (.iload_n 3, 1) := by decide +kernel
theorem dX10_keeps_48 : decode cX10_keeps 48 = .ok (.ireturn, 1) := by decide +kernel
theorem dX10_draft_0 : decode cX10_draft 0 = .ok (.aload_n 0, 1) := by decide +kernel
theorem dX10_draft_1 : decode cX10_draft 1 = .ok (.iload_n 1, 1) := by decide +kernel
theorem dX10_draft_2 : decode cX10_draft 2 = .ok (.iload_n 2, 1) := by decide +kernel
theorem dX10_draft_3 : decode cX10_draft 3 = .ok (.iload_n 3, 1) := by decide +kernel
theorem dX10_draft_4 : decode cX10_draft 4 = .ok (.iload 4, 2) := by decide +kernel
theorem dX10_draft_6 : decode cX10_draft 6 = .ok (.iload 5, 2) := by decide +kernel
theorem dX10_draft_8 : decode cX10_draft 8 = .ok (.iload 6, 2) := by decide +kernel
theorem dX10_draft_10 : decode cX10_draft 10 = .ok (.iload 7, 2) := by decide +kernel
theorem dX10_draft_12 : decode cX10_draft 12 = .ok (.invokevirtual 227, 3) := by decide +kernel
theorem dX10_draft_15 : decode cX10_draft 15 = .ok (.istore 8, 2) := by decide +kernel
theorem dX10_draft_17 : decode cX10_draft 17 = .ok (.iload 8, 2) := by decide +kernel
theorem dX10_draft_19 : decode cX10_draft 19 = .ok (.ifCond .ne 12, 3) := by decide +kernel
theorem dX10_draft_22 : decode cX10_draft 22 = .ok (.aload_n 0, 1) := by decide +kernel
theorem dX10_draft_23 : decode cX10_draft 23 = .ok (.getfield 263, 3) := by decide +kernel
theorem dX10_draft_26 : decode cX10_draft 26 = .ok (.bipush 10, 2) := by decide +kernel
theorem dX10_draft_28 : decode cX10_draft 28 = .ok (.if_icmp .ne 16, 3) := by decide +kernel
theorem dX10_draft_31 : decode cX10_draft 31 = .ok (.iload 8, 2) := by decide +kernel
theorem dX10_draft_33 : decode cX10_draft 33 = .ok (.ifCond .eq 8, 3) := by decide +kernel
theorem dX10_draft_36 : decode cX10_draft 36 = .ok (.iload 8, 2) := by decide +kernel
theorem dX10_draft_38 : decode cX10_draft 38 = .ok (.goto 5, 3) := by decide +kernel
theorem dX10_draft_41 : decode cX10_draft 41 = .ok (.bipush (-5), 2) := by decide +kernel
theorem dX10_draft_43 : decode cX10_draft 43 = .ok (.ireturn, 1) := by decide +kernel
theorem dX10_draft_44 : decode cX10_draft 44 = .ok (.aload_n 0, 1) := by decide +kernel
theorem dX10_draft_45 : decode cX10_draft 45 = .ok (.bipush 24, 2) := by decide +kernel
theorem dX10_draft_47 : decode cX10_draft 47 = .ok (.aload_n 0, 1) := by decide +kernel
theorem dX10_draft_48 : decode cX10_draft 48 = .ok (.getfield 263, 3) := by decide +kernel
theorem dX10_draft_51 : decode cX10_draft 51 = .ok (.iadd, 1) := by decide +kernel
theorem dX10_draft_52 : decode cX10_draft 52 = .ok (.iload_n 1, 1) := by decide +kernel
theorem dX10_draft_53 : decode cX10_draft 53 = .ok (.iload_n 2, 1) := by decide +kernel
theorem dX10_draft_54 : decode cX10_draft 54 = .ok (.iload_n 3, 1) := by decide +kernel
theorem dX10_draft_55 : decode cX10_draft 55 = .ok (.iload 4, 2) := by decide +kernel
theorem dX10_draft_57 : decode cX10_draft 57 = .ok (.iload 5, 2) := by decide +kernel
theorem dX10_draft_59 : decode cX10_draft 59 = .ok (.iload 6, 2) := by decide +kernel
theorem dX10_draft_61 : decode cX10_draft 61 = .ok (.iload 7, 2) := by decide +kernel
theorem dX10_draft_63 : decode cX10_draft 63 = .ok (.invokevirtual 234, 3) := by decide +kernel
theorem dX10_draft_66 : decode cX10_draft 66 = .ok (.aload_n 0, 1) := by decide +kernel
theorem dX10_draft_67 : decode cX10_draft 67 = .ok (.dup, 1) := by decide +kernel
theorem dX10_draft_68 : decode cX10_draft 68 = .ok (.getfield 263, 3) := by decide +kernel
theorem dX10_draft_71 : decode cX10_draft 71 = .ok (.iconst 1, 1) := by decide +kernel
theorem dX10_draft_72 : decode cX10_draft 72 = .ok (.iadd, 1) := by decide +kernel
theorem dX10_draft_73 : decode cX10_draft 73 = .ok (.putfield 263, 3) := by decide +kernel
theorem dX10_draft_76 : decode cX10_draft 76 = .ok (.aload_n 0, 1) := by decide +kernel
theorem dX10_draft_77 : decode cX10_draft 77 = .ok (.getfield 263, 3) := by decide +kernel
theorem dX10_draft_80 : decode cX10_draft 80 = .ok (.iconst 1, 1) := by decide +kernel
theorem dX10_draft_81 : decode cX10_draft 81 = .ok (.isub, 1) := by decide +kernel
theorem dX10_draft_82 : decode cX10_draft 82 = .ok (.ireturn, 1) := by decide +kernel
theorem dX10_mark_0 : decode cX10_mark 0 = .ok (.iload_n 1, 1) := by decide +kernel
theorem dX10_mark_1 : decode cX10_mark 1 = .ok (.i2l, 1) := by decide +kernel
theorem dX10_mark_2 : decode cX10_mark 2 = .ok (.lconst 0, 1) := by decide +kernel
theorem dX10_mark_3 : decode cX10_mark 3 = .ok (.aload_n 0, 1) := by decide +kernel
theorem dX10_mark_4 : decode cX10_mark 4 = .ok (.getfield 263, 3) := by decide +kernel
theorem dX10_mark_7 : decode cX10_mark 7 = .ok (.iconst 1, 1) := by decide +kernel
theorem dX10_mark_8 : decode cX10_mark 8 = .ok (.isub, 1) := by decide +kernel
theorem dX10_mark_9 : decode cX10_mark 9 = .ok (.i2l, 1) := by decide +kernel
theorem dX10_mark_10 : decode cX10_mark 10 = .ok (.invokestatic 121, 3) := by decide +kernel
theorem dX10_mark_13 : decode cX10_mark 13 = .ok (.ifCond .ne 6, 3) := by decide +kernel
theorem dX10_mark_16 : decode cX10_mark 16 = .ok (.bipush (-2), 2) := by decide +kernel
theorem dX10_mark_18 : decode cX10_mark 18 = .ok (.ireturn, 1) := by decide +kernel
theorem dX10_mark_19 : decode cX10_mark 19 = .ok (.iload_n 2, 1) := by decide +kernel
theorem dX10_mark_20 : decode cX10_mark 20 = .ok (.i2l, 1) := by decide +kernel
theorem dX10_mark_21 : decode cX10_mark 21 = .ok (.lconst 0, 1) := by decide +kernel
theorem dX10_mark_22 : decode cX10_mark 22 = .ok (.lconst 1, 1) := by decide +kernel
theorem dX10_mark_23 : decode cX10_mark 23 = .ok (.invokestatic 121, 3) := by decide +kernel
theorem dX10_mark_26 : decode cX10_mark 26 = .ok (.ifCond .eq 15, 3) := by decide +kernel
theorem dX10_mark_29 : decode cX10_mark 29 = .ok (.iload_n 3, 1) := by decide +kernel
theorem dX10_mark_30 : decode cX10_mark 30 = .ok (.i2l, 1) := by decide +kernel
theorem dX10_mark_31 : decode cX10_mark 31 = .ok (.lconst 0, 1) := by decide +kernel
theorem dX10_mark_32 : decode cX10_mark 32 = .ok (.ldc2_w 295, 3) := by decide +kernel
theorem dX10_mark_35 : decode cX10_mark 35 = .ok (.invokestatic 121, 3) := by decide +kernel
theorem dX10_mark_38 : decode cX10_mark 38 = .ok (.ifCond .ne 6, 3) := by decide +kernel
theorem dX10_mark_41 : decode cX10_mark 41 = .ok (.bipush (-3), 2) := by decide +kernel
theorem dX10_mark_43 : decode cX10_mark 43 = .ok (.ireturn, 1) := by decide +kernel
theorem dX10_mark_44 : decode cX10_mark 44 = .ok (.iload_n 2, 1) := by decide +kernel
theorem dX10_mark_45 : decode cX10_mark 45 = .ok (.ifCond .ne 12, 3) := by decide +kernel
theorem dX10_mark_48 : decode cX10_mark 48 = .ok (.aload_n 0, 1) := by decide +kernel
theorem dX10_mark_49 : decode cX10_mark 49 = .ok (.getfield 77, 3) := by decide +kernel
theorem dX10_mark_52 : decode cX10_mark 52 = .ok (.iload_n 1, 1) := by decide +kernel
theorem dX10_mark_53 : decode cX10_mark 53 = .ok (.iaload, 1) := by decide +kernel
theorem dX10_mark_54 : decode cX10_mark 54 = .ok (.goto 9, 3) := by decide +kernel
theorem dX10_mark_57 : decode cX10_mark 57 = .ok (.aload_n 0, 1) := by decide +kernel
theorem dX10_mark_58 : decode cX10_mark 58 = .ok (.getfield 80, 3) := by decide +kernel
theorem dX10_mark_61 : decode cX10_mark 61 = .ok (.iload_n 1, 1) := by decide +kernel
theorem dX10_mark_62 : decode cX10_mark 62 = .ok (.iaload, 1) := by decide +kernel
theorem dX10_mark_63 : decode cX10_mark 63 = .ok (.istore 4, 2) := by decide +kernel
theorem dX10_mark_65 : decode cX10_mark 65 = .ok (.aload_n 0, 1) := by decide +kernel
theorem dX10_mark_66 : decode cX10_mark 66 = .ok (.getfield 77, 3) := by decide +kernel
theorem dX10_mark_69 : decode cX10_mark 69 = .ok (.iload_n 1, 1) := by decide +kernel
theorem dX10_mark_70 : decode cX10_mark 70 = .ok (.iload_n 2, 1) := by decide +kernel
theorem dX10_mark_71 : decode cX10_mark 71 = .ok (.ifCond .ne 7, 3) := by decide +kernel
theorem dX10_mark_74 : decode cX10_mark 74 = .ok (.iload_n 3, 1) := by decide +kernel
theorem dX10_mark_75 : decode cX10_mark 75 = .ok (.goto 9, 3) := by decide +kernel
theorem dX10_mark_78 : decode cX10_mark 78 = .ok (.aload_n 0, 1) := by decide +kernel
theorem dX10_mark_79 : decode cX10_mark 79 = .ok (.getfield 77, 3) := by decide +kernel
theorem dX10_mark_82 : decode cX10_mark 82 = .ok (.iload_n 1, 1) := by decide +kernel
theorem dX10_mark_83 : decode cX10_mark 83 = .ok (.iaload, 1) := by decide +kernel
theorem dX10_mark_84 : decode cX10_mark 84 = .ok (.iastore, 1) := by decide +kernel
theorem dX10_mark_85 : decode cX10_mark 85 = .ok (.aload_n 0, 1) := by decide +kernel
theorem dX10_mark_86 : decode cX10_mark 86 = .ok (.getfield 80, 3) := by decide +kernel
theorem dX10_mark_89 : decode cX10_mark 89 = .ok (.iload_n 1, 1) := by decide +kernel
theorem dX10_mark_90 : decode cX10_mark 90 = .ok (.iload_n 2, 1) := by decide +kernel
theorem dX10_mark_91 : decode cX10_mark 91 = .ok (.iconst 1, 1) := by decide +kernel
theorem dX10_mark_92 : decode cX10_mark 92 = .ok (.if_icmp .ne 7, 3) := by decide +kernel
theorem dX10_mark_95 : decode cX10_mark 95 = .ok (.iload_n 3, 1) := by decide +kernel
theorem dX10_mark_96 : decode cX10_mark 96 = .ok (.goto 9, 3) := by decide +kernel
theorem dX10_mark_99 : decode cX10_mark 99 = .ok (.aload_n 0, 1) := by decide +kernel
theorem dX10_mark_100 : decode cX10_mark 100 = .ok (.getfield 80, 3) := by decide +kernel
theorem dX10_mark_103 : decode cX10_mark 103 = .ok (.iload_n 1, 1) := by decide +kernel
theorem dX10_mark_104 : decode cX10_mark 104 = .ok (.iaload, 1) := by decide +kernel
theorem dX10_mark_105 : decode cX10_mark 105 = .ok (.iastore, 1) := by decide +kernel
theorem dX10_mark_106 : decode cX10_mark 106 = .ok (.iload 4, 2) := by decide +kernel
theorem dX10_mark_108 : decode cX10_mark 108 = .ok (.ireturn, 1) := by decide +kernel
theorem dX10_riskOf_0 : decode cX10_riskOf 0 = .ok (.iconst 0, 1) := by decide +kernel
theorem dX10_riskOf_1 : decode cX10_riskOf 1 = .ok (.istore_n 2, 1) := by decide +kernel
theorem dX10_riskOf_2 : decode cX10_riskOf 2 = .ok (.iconst 0, 1) := by decide +kernel
theorem dX10_riskOf_3 : decode cX10_riskOf 3 = .ok (.istore_n 3, 1) := by decide +kernel
theorem dX10_riskOf_4 : decode cX10_riskOf 4 = .ok (.iload_n 3, 1) := by decide +kernel
theorem dX10_riskOf_5 : decode cX10_riskOf 5 = .ok (.aload_n 0, 1) := by decide +kernel
theorem dX10_riskOf_6 : decode cX10_riskOf 6 = .ok (.getfield 263, 3) := by decide +kernel
theorem dX10_riskOf_9 : decode cX10_riskOf 9 = .ok (.if_icmp .ge 31, 3) := by decide +kernel
theorem dX10_riskOf_12 : decode cX10_riskOf 12 = .ok (.iload_n 2, 1) := by decide +kernel
theorem dX10_riskOf_13 : decode cX10_riskOf 13 = .ok (.iload_n 1, 1) := by decide +kernel
theorem dX10_riskOf_14 : decode cX10_riskOf 14 = .ok (.iload_n 3, 1) := by decide +kernel
theorem dX10_riskOf_15 : decode cX10_riskOf 15 = .ok (.ishr, 1) := by decide +kernel
theorem dX10_riskOf_16 : decode cX10_riskOf 16 = .ok (.iconst 1, 1) := by decide +kernel
theorem dX10_riskOf_17 : decode cX10_riskOf 17 = .ok (.iand, 1) := by decide +kernel
theorem dX10_riskOf_18 : decode cX10_riskOf 18 = .ok (.iconst 1, 1) := by decide +kernel
theorem dX10_riskOf_19 : decode cX10_riskOf 19 = .ok (.if_icmp .ne 12, 3) := by decide +kernel
theorem dX10_riskOf_22 : decode cX10_riskOf 22 = .ok (.aload_n 0, 1) := by decide +kernel
theorem dX10_riskOf_23 : decode cX10_riskOf 23 = .ok (.getfield 77, 3) := by decide +kernel
theorem dX10_riskOf_26 : decode cX10_riskOf 26 = .ok (.iload_n 3, 1) := by decide +kernel
theorem dX10_riskOf_27 : decode cX10_riskOf 27 = .ok (.iaload, 1) := by decide +kernel
theorem dX10_riskOf_28 : decode cX10_riskOf 28 = .ok (.goto 4, 3) := by decide +kernel
theorem dX10_riskOf_31 : decode cX10_riskOf 31 = .ok (.iconst 0, 1) := by decide +kernel
theorem dX10_riskOf_32 : decode cX10_riskOf 32 = .ok (.iadd, 1) := by decide +kernel
theorem dX10_riskOf_33 : decode cX10_riskOf 33 = .ok (.istore_n 2, 1) := by decide +kernel
theorem dX10_riskOf_34 : decode cX10_riskOf 34 = .ok (.iinc 3 1, 3) := by decide +kernel
theorem dX10_riskOf_37 : decode cX10_riskOf 37 = .ok (.goto (-33), 3) := by decide +kernel
theorem dX10_riskOf_40 : decode cX10_riskOf 40 = .ok (.iload_n 2, 1) := by decide +kernel
theorem dX10_riskOf_41 : decode cX10_riskOf 41 = .ok (.ireturn, 1) := by decide +kernel
theorem dX10_costOf_0 : decode cX10_costOf 0 = .ok (.iconst 0, 1) := by decide +kernel
theorem dX10_costOf_1 : decode cX10_costOf 1 = .ok (.istore_n 2, 1) := by decide +kernel
theorem dX10_costOf_2 : decode cX10_costOf 2 = .ok (.iconst 0, 1) := by decide +kernel
theorem dX10_costOf_3 : decode cX10_costOf 3 = .ok (.istore_n 3, 1) := by decide +kernel
theorem dX10_costOf_4 : decode cX10_costOf 4 = .ok (.iload_n 3, 1) := by decide +kernel
theorem dX10_costOf_5 : decode cX10_costOf 5 = .ok (.aload_n 0, 1) := by decide +kernel
theorem dX10_costOf_6 : decode cX10_costOf 6 = .ok (.getfield 263, 3) := by decide +kernel
theorem dX10_costOf_9 : decode cX10_costOf 9 = .ok (.if_icmp .ge 31, 3) := by decide +kernel
theorem dX10_costOf_12 : decode cX10_costOf 12 = .ok (.iload_n 2, 1) := by decide +kernel
theorem dX10_costOf_13 : decode cX10_costOf 13 = .ok (.iload_n 1, 1) := by decide +kernel
theorem dX10_costOf_14 : decode cX10_costOf 14 = .ok (.iload_n 3, 1) := by decide +kernel
theorem dX10_costOf_15 : decode cX10_costOf 15 = .ok (.ishr, 1) := by decide +kernel
theorem dX10_costOf_16 : decode cX10_costOf 16 = .ok (.iconst 1, 1) := by decide +kernel
theorem dX10_costOf_17 : decode cX10_costOf 17 = .ok (.iand, 1) := by decide +kernel
theorem dX10_costOf_18 : decode cX10_costOf 18 = .ok (.iconst 1, 1) := by decide +kernel
theorem dX10_costOf_19 : decode cX10_costOf 19 = .ok (.if_icmp .ne 12, 3) := by decide +kernel
theorem dX10_costOf_22 : decode cX10_costOf 22 = .ok (.aload_n 0, 1) := by decide +kernel
theorem dX10_costOf_23 : decode cX10_costOf 23 = .ok (.getfield 80, 3) := by decide +kernel
theorem dX10_costOf_26 : decode cX10_costOf 26 = .ok (.iload_n 3, 1) := by decide +kernel
theorem dX10_costOf_27 : decode cX10_costOf 27 = .ok (.iaload, 1) := by decide +kernel
theorem dX10_costOf_28 : decode cX10_costOf 28 = .ok (.goto 4, 3) := by decide +kernel
theorem dX10_costOf_31 : decode cX10_costOf 31 = .ok (.iconst 0, 1) := by decide +kernel
theorem dX10_costOf_32 : decode cX10_costOf 32 = .ok (.iadd, 1) := by decide +kernel
theorem dX10_costOf_33 : decode cX10_costOf 33 = .ok (.istore_n 2, 1) := by decide +kernel
theorem dX10_costOf_34 : decode cX10_costOf 34 = .ok (.iinc 3 1, 3) := by decide +kernel
theorem dX10_costOf_37 : decode cX10_costOf 37 = .ok (.goto (-33), 3) := by decide +kernel
theorem dX10_costOf_40 : decode cX10_costOf 40 = .ok (.iload_n 2, 1) := by decide +kernel
theorem dX10_costOf_41 : decode cX10_costOf 41 = .ok (.ireturn, 1) := by decide +kernel
theorem dX10_make_0 : decode cX10_make 0 = .ok (.iload_n 1, 1) := by decide +kernel
theorem dX10_make_1 : decode cX10_make 1 = .ok (.invokestatic 142, 3) := by decide +kernel
theorem dX10_make_4 : decode cX10_make 4 = .ok (.ifCond .ne 6, 3) := by decide +kernel
theorem dX10_make_7 : decode cX10_make 7 = .ok (.bipush (-3), 2) := by decide +kernel
theorem dX10_make_9 : decode cX10_make 9 = .ok (.ireturn, 1) := by decide +kernel
theorem dX10_make_10 : decode cX10_make 10 = .ok (.iconst (-1), 1) := by decide +kernel
theorem dX10_make_11 : decode cX10_make 11 = .ok (.istore_n 2, 1) := by decide +kernel
theorem dX10_make_12 : decode cX10_make 12 = .ok (.ldc_w 297, 3) := by decide +kernel
theorem dX10_make_15 : decode cX10_make 15 = .ok (.istore_n 3, 1) := by decide +kernel
theorem dX10_make_16 : decode cX10_make 16 = .ok (.iconst 0, 1) := by decide +kernel
theorem dX10_make_17 : decode cX10_make 17 = .ok (.istore 4, 2) := by decide +kernel
theorem dX10_make_19 : decode cX10_make 19 = .ok (.iload 4, 2) := by decide +kernel
theorem dX10_make_21 : decode cX10_make 21 = .ok (.iconst 1, 1) := by decide +kernel
theorem dX10_make_22 : decode cX10_make 22 = .ok (.aload_n 0, 1) := by decide +kernel
theorem dX10_make_23 : decode cX10_make 23 = .ok (.getfield 263, 3) := by decide +kernel
theorem dX10_make_26 : decode cX10_make 26 = .ok (.ishl, 1) := by decide +kernel
theorem dX10_make_27 : decode cX10_make 27 = .ok (.if_icmp .ge 61, 3) := by decide +kernel
theorem dX10_make_30 : decode cX10_make 30 = .ok (.aload_n 0, 1) := by decide +kernel
theorem dX10_make_31 : decode cX10_make 31 = .ok (.iload 4, 2) := by decide +kernel
theorem dX10_make_33 : decode cX10_make 33 = .ok (.invokevirtual 298, 3) := by decide +kernel
theorem dX10_make_36 : decode cX10_make 36 = .ok (.iload_n 3, 1) := by decide +kernel
theorem dX10_make_37 : decode cX10_make 37 = .ok (.if_icmp .ge 45, 3) := by decide +kernel
theorem dX10_make_40 : decode cX10_make 40 = .ok (.aload_n 0, 1) := by decide +kernel
theorem dX10_make_41 : decode cX10_make 41 = .ok (.iload 4, 2) := by decide +kernel
theorem dX10_make_43 : decode cX10_make 43 = .ok (.putfield 260, 3) := by decide +kernel
theorem dX10_make_46 : decode cX10_make 46 = .ok (.aload_n 0, 1) := by decide +kernel
theorem dX10_make_47 : decode cX10_make 47 = .ok (.iconst 0, 1) := by decide +kernel
theorem dX10_make_48 : decode cX10_make 48 = .ok (.iload_n 1, 1) := by decide +kernel
theorem dX10_make_49 : decode cX10_make 49 = .ok (.invokevirtual 292, 3) := by decide +kernel
theorem dX10_make_52 : decode cX10_make 52 = .ok (.istore 5, 2) := by decide +kernel
theorem dX10_make_54 : decode cX10_make 54 = .ok (.iload 5, 2) := by decide +kernel
theorem dX10_make_56 : decode cX10_make 56 = .ok (.ifCond .eq 8, 3) := by decide +kernel
theorem dX10_make_59 : decode cX10_make 59 = .ok (.iload 4, 2) := by decide +kernel
theorem dX10_make_61 : decode cX10_make 61 = .ok (.goto 4, 3) := by decide +kernel
theorem dX10_make_64 : decode cX10_make 64 = .ok (.iload_n 2, 1) := by decide +kernel
theorem dX10_make_65 : decode cX10_make 65 = .ok (.istore_n 2, 1) := by decide +kernel
theorem dX10_make_66 : decode cX10_make 66 = .ok (.iload 5, 2) := by decide +kernel
theorem dX10_make_68 : decode cX10_make 68 = .ok (.ifCond .eq 12, 3) := by decide +kernel
theorem dX10_make_71 : decode cX10_make 71 = .ok (.aload_n 0, 1) := by decide +kernel
theorem dX10_make_72 : decode cX10_make 72 = .ok (.iload 4, 2) := by decide +kernel
theorem dX10_make_74 : decode cX10_make 74 = .ok (.invokevirtual 298, 3) := by decide +kernel
theorem dX10_make_77 : decode cX10_make 77 = .ok (.goto 4, 3) := by decide +kernel
theorem dX10_make_80 : decode cX10_make 80 = .ok (.iload_n 3, 1) := by decide +kernel
theorem dX10_make_81 : decode cX10_make 81 = .ok (.istore_n 3, 1) := by decide +kernel
theorem dX10_make_82 : decode cX10_make 82 = .ok (.iinc 4 1, 3) := by decide +kernel
theorem dX10_make_85 : decode cX10_make 85 = .ok (.goto (-66), 3) := by decide +kernel
theorem dX10_make_88 : decode cX10_make 88 = .ok (.aload_n 0, 1) := by decide +kernel
theorem dX10_make_89 : decode cX10_make 89 = .ok (.iconst 0, 1) := by decide +kernel
theorem dX10_make_90 : decode cX10_make 90 = .ok (.putfield 260, 3) := by decide +kernel
theorem dX10_make_93 : decode cX10_make 93 = .ok (.iload_n 2, 1) := by decide +kernel
theorem dX10_make_94 : decode cX10_make 94 = .ok (.ireturn, 1) := by decide +kernel
theorem dX10_buy_0 : decode cX10_buy 0 = .ok (.iload_n 1, 1) := by decide +kernel
theorem dX10_buy_1 : decode cX10_buy 1 = .ok (.invokestatic 155, 3) := by decide +kernel
theorem dX10_buy_4 : decode cX10_buy 4 = .ok (.ifCond .ne 6, 3) := by decide +kernel
theorem dX10_buy_7 : decode cX10_buy 7 = .ok (.bipush (-2), 2) := by decide +kernel
theorem dX10_buy_9 : decode cX10_buy 9 = .ok (.ireturn, 1) := by decide +kernel
theorem dX10_buy_10 : decode cX10_buy 10 = .ok (.iload_n 2, 1) := by decide +kernel
theorem dX10_buy_11 : decode cX10_buy 11 = .ok (.invokestatic 142, 3) := by decide +kernel
theorem dX10_buy_14 : decode cX10_buy 14 = .ok (.ifCond .eq 15, 3) := by decide +kernel
theorem dX10_buy_17 : decode cX10_buy 17 = .ok (.iload_n 3, 1) := by decide +kernel
theorem dX10_buy_18 : decode cX10_buy 18 = .ok (.i2l, 1) := by decide +kernel
theorem dX10_buy_19 : decode cX10_buy 19 = .ok (.lconst 0, 1) := by decide +kernel
theorem dX10_buy_20 : decode cX10_buy 20 = .ok (.ldc2_w 301, 3) := by decide +kernel
theorem dX10_buy_23 : decode cX10_buy 23 = .ok (.invokestatic 121, 3) := by decide +kernel
theorem dX10_buy_26 : decode cX10_buy 26 = .ok (.ifCond .ne 6, 3) := by decide +kernel
theorem dX10_buy_29 : decode cX10_buy 29 = .ok (.bipush (-3), 2) := by decide +kernel
theorem dX10_buy_31 : decode cX10_buy 31 = .ok (.ireturn, 1) := by decide +kernel
theorem dX10_buy_32 : decode cX10_buy 32 = .ok (.iconst 0, 1) := by decide +kernel
theorem dX10_buy_33 : decode cX10_buy 33 = .ok (.istore 4, 2) := by decide +kernel
theorem dX10_buy_35 : decode cX10_buy 35 = .ok (.iconst 0, 1) := by decide +kernel
theorem dX10_buy_36 : decode cX10_buy 36 = .ok (.istore 5, 2) := by decide +kernel
theorem dX10_buy_38 : decode cX10_buy 38 = .ok (.iload 5, 2) := by decide +kernel
theorem dX10_buy_40 : decode cX10_buy 40 = .ok (.aload_n 0, 1) := by decide +kernel
theorem dX10_buy_41 : decode cX10_buy 41 = .ok (.getfield 263, 3) := by decide +kernel
theorem dX10_buy_44 : decode cX10_buy 44 = .ok (.if_icmp .ge 34, 3) := by decide +kernel
theorem dX10_buy_47 : decode cX10_buy 47 = .ok (.iload 4, 2) := by decide +kernel
theorem dX10_buy_49 : decode cX10_buy 49 = .ok (.aload_n 0, 1) := by decide +kernel
theorem dX10_buy_50 : decode cX10_buy 50 = .ok (.bipush 24, 2) := by decide +kernel
theorem dX10_buy_52 : decode cX10_buy 52 = .ok (.iload 5, 2) := by decide +kernel
theorem dX10_buy_54 : decode cX10_buy 54 = .ok (.iadd, 1) := by decide +kernel
theorem dX10_buy_55 : decode cX10_buy 55 = .ok (.invokevirtual 241, 3) := by decide +kernel
theorem dX10_buy_58 : decode cX10_buy 58 = .ok (.ifCond .eq 10, 3) := by decide +kernel
theorem dX10_buy_61 : decode cX10_buy 61 = .ok (.iconst 1, 1) := by decide +kernel
theorem dX10_buy_62 : decode cX10_buy 62 = .ok (.iload 5, 2) := by decide +kernel
theorem dX10_buy_64 : decode cX10_buy 64 = .ok (.ishl, 1) := by decide +kernel
theorem dX10_buy_65 : decode cX10_buy 65 = .ok (.goto 4, 3) := by decide +kernel
theorem dX10_buy_68 : decode cX10_buy 68 = .ok (.iconst 0, 1) := by decide +kernel
theorem dX10_buy_69 : decode cX10_buy 69 = .ok (.ior, 1) := by decide +kernel
theorem dX10_buy_70 : decode cX10_buy 70 = .ok (.istore 4, 2) := by decide +kernel
theorem dX10_buy_72 : decode cX10_buy 72 = .ok (.iinc 5 1, 3) := by decide +kernel
theorem dX10_buy_75 : decode cX10_buy 75 = .ok (.goto (-37), 3) := by decide +kernel
theorem dX10_buy_78 : decode cX10_buy 78 = .ok (.iconst (-1), 1) := by decide +kernel
theorem dX10_buy_79 : decode cX10_buy 79 = .ok (.istore 5, 2) := by decide +kernel
theorem dX10_buy_81 : decode cX10_buy 81 = .ok (.ldc_w 297, 3) := by decide +kernel
theorem dX10_buy_84 : decode cX10_buy 84 = .ok (.istore 6, 2) := by decide +kernel
theorem dX10_buy_86 : decode cX10_buy 86 = .ok (.iconst 0, 1) := by decide +kernel
theorem dX10_buy_87 : decode cX10_buy 87 = .ok (.istore 7, 2) := by decide +kernel
theorem dX10_buy_89 : decode cX10_buy 89 = .ok (.iload 7, 2) := by decide +kernel
theorem dX10_buy_91 : decode cX10_buy 91 = .ok (.iconst 1, 1) := by decide +kernel
theorem dX10_buy_92 : decode cX10_buy 92 = .ok (.aload_n 0, 1) := by decide +kernel
theorem dX10_buy_93 : decode cX10_buy 93 = .ok (.getfield 263, 3) := by decide +kernel
theorem dX10_buy_96 : decode cX10_buy 96 = .ok (.ishl, 1) := by decide +kernel
theorem dX10_buy_97 : decode cX10_buy 97 = .ok (.if_icmp .ge 86, 3) := by decide +kernel
theorem dX10_buy_100 : decode cX10_buy 100 = .ok (.iload 7, 2) := by decide +kernel
theorem dX10_buy_102 : decode cX10_buy 102 = .ok (.iload 4, 2) := by decide +kernel
theorem dX10_buy_104 : decode cX10_buy 104 = .ok (.iconst (-1), 1) := by decide +kernel
theorem dX10_buy_105 : decode cX10_buy 105 = .ok (.ixor, 1) := by decide +kernel
theorem dX10_buy_106 : decode cX10_buy 106 = .ok (.iand, 1) := by decide +kernel
theorem dX10_buy_107 : decode cX10_buy 107 = .ok (.ifCond .ne 70, 3) := by decide +kernel
theorem dX10_buy_110 : decode cX10_buy 110 = .ok (.aload_n 0, 1) := by decide +kernel
theorem dX10_buy_111 : decode cX10_buy 111 = .ok (.iload 7, 2) := by decide +kernel
theorem dX10_buy_113 : decode cX10_buy 113 = .ok (.invokevirtual 303, 3) := by decide +kernel
theorem dX10_buy_116 : decode cX10_buy 116 = .ok (.iload 6, 2) := by decide +kernel
theorem dX10_buy_118 : decode cX10_buy 118 = .ok (.if_icmp .ge 59, 3) := by decide +kernel
theorem dX10_buy_121 : decode cX10_buy 121 = .ok (.aload_n 0, 1) := by decide +kernel
theorem dX10_buy_122 : decode cX10_buy 122 = .ok (.iload 7, 2) := by decide +kernel
theorem dX10_buy_124 : decode cX10_buy 124 = .ok (.putfield 260, 3) := by decide +kernel
theorem dX10_buy_127 : decode cX10_buy 127 = .ok (.aload_n 0, 1) := by decide +kernel
theorem dX10_buy_128 : decode cX10_buy 128 = .ok (.iconst 0, 1) := by decide +kernel
theorem dX10_buy_129 : decode cX10_buy 129 = .ok (.iload_n 1, 1) := by decide +kernel
theorem dX10_buy_130 : decode cX10_buy 130 = .ok (.iload_n 2, 1) := by decide +kernel
theorem dX10_buy_131 : decode cX10_buy 131 = .ok (.invokevirtual 273, 3) := by decide +kernel
theorem dX10_buy_134 : decode cX10_buy 134 = .ok (.iload_n 3, 1) := by decide +kernel
theorem dX10_buy_135 : decode cX10_buy 135 = .ok (.if_icmp .lt 7, 3) := by decide +kernel
theorem dX10_buy_138 : decode cX10_buy 138 = .ok (.iconst 1, 1) := by decide +kernel
theorem dX10_buy_139 : decode cX10_buy 139 = .ok (.goto 4, 3) := by decide +kernel
theorem dX10_buy_142 : decode cX10_buy 142 = .ok (.iconst 0, 1) := by decide +kernel
theorem dX10_buy_143 : decode cX10_buy 143 = .ok (.istore 8, 2) := by decide +kernel
theorem dX10_buy_145 : decode cX10_buy 145 = .ok (.iload 8, 2) := by decide +kernel
theorem dX10_buy_147 : decode cX10_buy 147 = .ok (.ifCond .eq 8, 3) := by decide +kernel
theorem dX10_buy_150 : decode cX10_buy 150 = .ok (.iload 7, 2) := by decide +kernel
theorem dX10_buy_152 : decode cX10_buy 152 = .ok (.goto 5, 3) := by decide +kernel
theorem dX10_buy_155 : decode cX10_buy 155 = .ok (.iload 5, 2) := by decide +kernel
theorem dX10_buy_157 : decode cX10_buy 157 = .ok (.istore 5, 2) := by decide +kernel
theorem dX10_buy_159 : decode cX10_buy 159 = .ok (.iload 8, 2) := by decide +kernel
theorem dX10_buy_161 : decode cX10_buy 161 = .ok (.ifCond .eq 12, 3) := by decide +kernel
theorem dX10_buy_164 : decode cX10_buy 164 = .ok (.aload_n 0, 1) := by decide +kernel
theorem dX10_buy_165 : decode cX10_buy 165 = .ok (.iload 7, 2) := by decide +kernel
theorem dX10_buy_167 : decode cX10_buy 167 = .ok (.invokevirtual 303, 3) := by decide +kernel
theorem dX10_buy_170 : decode cX10_buy 170 = .ok (.goto 5, 3) := by decide +kernel
theorem dX10_buy_173 : decode cX10_buy 173 = .ok (.iload 6, 2) := by decide +kernel
theorem dX10_buy_175 : decode cX10_buy 175 = .ok (.istore 6, 2) := by decide +kernel
theorem dX10_buy_177 : decode cX10_buy 177 = .ok (.iinc 7 1, 3) := by decide +kernel
theorem dX10_buy_180 : decode cX10_buy 180 = .ok (.goto (-91), 3) := by decide +kernel
theorem dX10_buy_183 : decode cX10_buy 183 = .ok (.aload_n 0, 1) := by decide +kernel
theorem dX10_buy_184 : decode cX10_buy 184 = .ok (.iconst 0, 1) := by decide +kernel
theorem dX10_buy_185 : decode cX10_buy 185 = .ok (.putfield 260, 3) := by decide +kernel
theorem dX10_buy_188 : decode cX10_buy 188 = .ok (.iload 5, 2) := by decide +kernel
theorem dX10_buy_190 : decode cX10_buy 190 = .ok (.ireturn, 1) := by decide +kernel
theorem dX10_sign_0 : decode cX10_sign 0 = .ok (.iload_n 1, 1) := by decide +kernel
theorem dX10_sign_1 : decode cX10_sign 1 = .ok (.invokestatic 142, 3) := by decide +kernel
theorem dX10_sign_4 : decode cX10_sign 4 = .ok (.ifCond .eq 11, 3) := by decide +kernel
theorem dX10_sign_7 : decode cX10_sign 7 = .ok (.iload 4, 2) := by decide +kernel
theorem dX10_sign_9 : decode cX10_sign 9 = .ok (.invokestatic 142, 3) := by decide +kernel
theorem dX10_sign_12 : decode cX10_sign 12 = .ok (.ifCond .ne 6, 3) := by decide +kernel
theorem dX10_sign_15 : decode cX10_sign 15 = .ok (.bipush (-3), 2) := by decide +kernel
theorem dX10_sign_17 : decode cX10_sign 17 = .ok (.ireturn, 1) := by decide +kernel
theorem dX10_sign_18 : decode cX10_sign 18 = .ok (.aload_n 0, 1) := by decide +kernel
theorem dX10_sign_19 : decode cX10_sign 19 = .ok (.getfield 306, 3) := by decide +kernel
theorem dX10_sign_22 : decode cX10_sign 22 = .ok (.bipush 12, 2) := by decide +kernel
theorem dX10_sign_24 : decode cX10_sign 24 = .ok (.if_icmp .ne 6, 3) := by decide +kernel
theorem dX10_sign_27 : decode cX10_sign 27 = .ok (.bipush (-5), 2) := by decide +kernel
theorem dX10_sign_29 : decode cX10_sign 29 = .ok (.ireturn, 1) := by decide +kernel
theorem dX10_sign_30 : decode cX10_sign 30 = .ok (.aload_n 0, 1) := by decide +kernel
theorem dX10_sign_31 : decode cX10_sign 31 = .ok (.getfield 107, 3) := by decide +kernel
theorem dX10_sign_34 : decode cX10_sign 34 = .ok (.aload_n 0, 1) := by decide +kernel
theorem dX10_sign_35 : decode cX10_sign 35 = .ok (.getfield 306, 3) := by decide +kernel
theorem dX10_sign_38 : decode cX10_sign 38 = .ok (.iload_n 1, 1) := by decide +kernel
theorem dX10_sign_39 : decode cX10_sign 39 = .ok (.iastore, 1) := by decide +kernel
theorem dX10_sign_40 : decode cX10_sign 40 = .ok (.aload_n 0, 1) := by decide +kernel
theorem dX10_sign_41 : decode cX10_sign 41 = .ok (.getfield 110, 3) := by decide +kernel
theorem dX10_sign_44 : decode cX10_sign 44 = .ok (.aload_n 0, 1) := by decide +kernel
theorem dX10_sign_45 : decode cX10_sign 45 = .ok (.getfield 306, 3) := by decide +kernel
theorem dX10_sign_48 : decode cX10_sign 48 = .ok (.iload_n 2, 1) := by decide +kernel
theorem dX10_sign_49 : decode cX10_sign 49 = .ok (.iastore, 1) := by decide +kernel
theorem dX10_sign_50 : decode cX10_sign 50 = .ok (.aload_n 0, 1) := by decide +kernel
theorem dX10_sign_51 : decode cX10_sign 51 = .ok (.getfield 113, 3) := by decide +kernel
theorem dX10_sign_54 : decode cX10_sign 54 = .ok (.aload_n 0, 1) := by decide +kernel
theorem dX10_sign_55 : decode cX10_sign 55 = .ok (.getfield 306, 3) := by decide +kernel
theorem dX10_sign_58 : decode cX10_sign 58 = .ok (.iload_n 3, 1) := by decide +kernel
theorem dX10_sign_59 : decode cX10_sign 59 = .ok (.iastore, 1) := by decide +kernel
theorem dX10_sign_60 : decode cX10_sign 60 = .ok (.aload_n 0, 1) := by decide +kernel
theorem dX10_sign_61 : decode cX10_sign 61 = .ok (.getfield 116, 3) := by decide +kernel
theorem dX10_sign_64 : decode cX10_sign 64 = .ok (.aload_n 0, 1) := by decide +kernel
theorem dX10_sign_65 : decode cX10_sign 65 = .ok (.getfield 306, 3) := by decide +kernel
theorem dX10_sign_68 : decode cX10_sign 68 = .ok (.iload 4, 2) := by decide +kernel
theorem dX10_sign_70 : decode cX10_sign 70 = .ok (.iastore, 1) := by decide +kernel
theorem dX10_sign_71 : decode cX10_sign 71 = .ok (.aload_n 0, 1) := by decide +kernel
theorem dX10_sign_72 : decode cX10_sign 72 = .ok (.dup, 1) := by decide +kernel
theorem dX10_sign_73 : decode cX10_sign 73 = .ok (.getfield 306, 3) := by decide +kernel
theorem dX10_sign_76 : decode cX10_sign 76 = .ok (.iconst 1, 1) := by decide +kernel
theorem dX10_sign_77 : decode cX10_sign 77 = .ok (.iadd, 1) := by decide +kernel
theorem dX10_sign_78 : decode cX10_sign 78 = .ok (.putfield 306, 3) := by decide +kernel
theorem dX10_sign_81 : decode cX10_sign 81 = .ok (.aload_n 0, 1) := by decide +kernel
theorem dX10_sign_82 : decode cX10_sign 82 = .ok (.getfield 306, 3) := by decide +kernel
theorem dX10_sign_85 : decode cX10_sign 85 = .ok (.ireturn, 1) := by decide +kernel
theorem dX10_question_0 : decode cX10_question 0 = .ok (.iload_n 2, 1) := by decide +kernel
theorem dX10_question_1 : decode cX10_question 1 = .ok (.invokestatic 133, 3) := by decide +kernel
theorem dX10_question_4 : decode cX10_question 4 = .ok (.ifCond .eq 22, 3) := by decide +kernel
theorem dX10_question_7 : decode cX10_question 7 = .ok (.iload_n 3, 1) := by decide +kernel
theorem dX10_question_8 : decode cX10_question 8 = .ok (.invokestatic 139, 3) := by decide +kernel
theorem dX10_question_11 : decode cX10_question 11 = .ok (.ifCond .eq 15, 3) := by decide +kernel
theorem dX10_question_14 : decode cX10_question 14 = .ok (.aload_n 0, 1) := by decide +kernel
theorem dX10_question_15 : decode cX10_question 15 = .ok (.iload_n 1, 1) := by decide +kernel
theorem dX10_question_16 : decode cX10_question 16 = .ok (.iload_n 2, 1) := by decide +kernel
theorem dX10_question_17 : decode cX10_question 17 = .ok (.iload_n 3, 1) := by decide +kernel
theorem dX10_question_18 : decode cX10_question 18 = .ok (.iload 4, 2) := by decide +kernel
theorem dX10_question_20 : decode cX10_question 20 = .ok (.invokevirtual 309, 3) := by decide +kernel
theorem dX10_question_23 : decode cX10_question 23 = .ok (.goto 5, 3) := by decide +kernel
theorem dX10_question_26 : decode cX10_question 26 = .ok (.bipush (-2), 2) := by decide +kernel
theorem dX10_question_28 : decode cX10_question 28 = .ok (.ireturn, 1) := by decide +kernel
theorem dX10_pay_0 : decode cX10_pay 0 = .ok (.iload_n 2, 1) := by decide +kernel
theorem dX10_pay_1 : decode cX10_pay 1 = .ok (.invokestatic 155, 3) := by decide +kernel
theorem dX10_pay_4 : decode cX10_pay 4 = .ok (.ifCond .eq 14, 3) := by decide +kernel
theorem dX10_pay_7 : decode cX10_pay 7 = .ok (.aload_n 0, 1) := by decide +kernel
theorem dX10_pay_8 : decode cX10_pay 8 = .ok (.iload_n 1, 1) := by decide +kernel
theorem dX10_pay_9 : decode cX10_pay 9 = .ok (.iconst (-1), 1) := by decide +kernel
theorem dX10_pay_10 : decode cX10_pay 10 = .ok (.iload_n 2, 1) := by decide +kernel
theorem dX10_pay_11 : decode cX10_pay 11 = .ok (.iconst 0, 1) := by decide +kernel
theorem dX10_pay_12 : decode cX10_pay 12 = .ok (.invokevirtual 309, 3) := by decide +kernel
theorem dX10_pay_15 : decode cX10_pay 15 = .ok (.goto 5, 3) := by decide +kernel
theorem dX10_pay_18 : decode cX10_pay 18 = .ok (.bipush (-2), 2) := by decide +kernel
theorem dX10_pay_20 : decode cX10_pay 20 = .ok (.ireturn, 1) := by decide +kernel
theorem dX10_which_0 : decode cX10_which 0 = .ok (.iconst 0, 1) := by decide +kernel
theorem dX10_which_1 : decode cX10_which 1 = .ok (.istore_n 1, 1) := by decide +kernel
theorem dX10_which_2 : decode cX10_which 2 = .ok (.iconst 0, 1) := by decide +kernel
theorem dX10_which_3 : decode cX10_which 3 = .ok (.istore_n 2, 1) := by decide +kernel
theorem dX10_which_4 : decode cX10_which 4 = .ok (.iload_n 2, 1) := by decide +kernel
theorem dX10_which_5 : decode cX10_which 5 = .ok (.iconst 2, 1) := by decide +kernel
theorem dX10_which_6 : decode cX10_which 6 = .ok (.if_icmp .ge 128, 3) := by decide +kernel
theorem dX10_which_9 : decode cX10_which 9 = .ok (.iconst 1, 1) := by decide +kernel
theorem dX10_which_10 : decode cX10_which 10 = .ok (.istore_n 3, 1) := by decide +kernel
theorem dX10_which_11 : decode cX10_which 11 = .ok (.iconst 0, 1) := by decide +kernel
theorem dX10_which_12 : decode cX10_which 12 = .ok (.istore 4, 2) := by decide +kernel
theorem dX10_which_14 : decode cX10_which 14 = .ok (.iload 4, 2) := by decide +kernel
theorem dX10_which_16 : decode cX10_which 16 = .ok (.aload_n 0, 1) := by decide +kernel
theorem dX10_which_17 : decode cX10_which 17 = .ok (.getfield 306, 3) := by decide +kernel
theorem dX10_which_20 : decode cX10_which 20 = .ok (.if_icmp .ge 94, 3) := by decide +kernel
theorem dX10_which_23 : decode cX10_which 23 = .ok (.iload_n 3, 1) := by decide +kernel
theorem dX10_which_24 : decode cX10_which 24 = .ok (.ifCond .eq 82, 3) := by decide +kernel
theorem dX10_which_27 : decode cX10_which 27 = .ok (.aload_n 0, 1) := by decide +kernel
theorem dX10_which_28 : decode cX10_which 28 = .ok (.getfield 110, 3) := by decide +kernel
theorem dX10_which_31 : decode cX10_which 31 = .ok (.iload 4, 2) := by decide +kernel
theorem dX10_which_33 : decode cX10_which 33 = .ok (.iaload, 1) := by decide +kernel
theorem dX10_which_34 : decode cX10_which 34 = .ok (.iconst (-1), 1) := by decide +kernel
theorem dX10_which_35 : decode cX10_which 35 = .ok (.if_icmp .ne 30, 3) := by decide +kernel
theorem dX10_which_38 : decode cX10_which 38 = .ok (.aload_n 0, 1) := by decide +kernel
theorem dX10_which_39 : decode cX10_which 39 = .ok (.iload_n 2, 1) := by decide +kernel
theorem dX10_which_40 : decode cX10_which 40 = .ok (.aload_n 0, 1) := by decide +kernel
theorem dX10_which_41 : decode cX10_which 41 = .ok (.getfield 113, 3) := by decide +kernel
theorem dX10_which_44 : decode cX10_which 44 = .ok (.iload 4, 2) := by decide +kernel
theorem dX10_which_46 : decode cX10_which 46 = .ok (.iaload, 1) := by decide +kernel
theorem dX10_which_47 : decode cX10_which 47 = .ok (.aload_n 0, 1) := by decide +kernel
theorem dX10_which_48 : decode cX10_which 48 = .ok (.getfield 107, 3) := by decide +kernel
theorem dX10_which_51 : decode cX10_which 51 = .ok (.iload 4, 2) := by decide +kernel
theorem dX10_which_53 : decode cX10_which 53 = .ok (.iaload, 1) := by decide +kernel
theorem dX10_which_54 : decode cX10_which 54 = .ok (.invokevirtual 273, 3) := by decide +kernel
theorem dX10_which_57 : decode cX10_which 57 = .ok (.bipush 50, 2) := by decide +kernel
theorem dX10_which_59 : decode cX10_which 59 = .ok (.if_icmp .lt 47, 3) := by decide +kernel
theorem dX10_which_62 : decode cX10_which 62 = .ok (.goto 40, 3) := by decide +kernel
theorem dX10_which_65 : decode cX10_which 65 = .ok (.aload_n 0, 1) := by decide +kernel
theorem dX10_which_66 : decode cX10_which 66 = .ok (.iload_n 2, 1) := by decide +kernel
theorem dX10_which_67 : decode cX10_which 67 = .ok (.aload_n 0, 1) := by decide +kernel
theorem dX10_which_68 : decode cX10_which 68 = .ok (.getfield 110, 3) := by decide +kernel
theorem dX10_which_71 : decode cX10_which 71 = .ok (.iload 4, 2) := by decide +kernel
theorem dX10_which_73 : decode cX10_which 73 = .ok (.iaload, 1) := by decide +kernel
theorem dX10_which_74 : decode cX10_which 74 = .ok (.aload_n 0, 1) := by decide +kernel
theorem dX10_which_75 : decode cX10_which 75 = .ok (.getfield 113, 3) := by decide +kernel
theorem dX10_which_78 : decode cX10_which 78 = .ok (.iload 4, 2) := by decide +kernel
theorem dX10_which_80 : decode cX10_which 80 = .ok (.iaload, 1) := by decide +kernel
theorem dX10_which_81 : decode cX10_which 81 = .ok (.aload_n 0, 1) := by decide +kernel
theorem dX10_which_82 : decode cX10_which 82 = .ok (.getfield 116, 3) := by decide +kernel
theorem dX10_which_85 : decode cX10_which 85 = .ok (.iload 4, 2) := by decide +kernel
theorem dX10_which_87 : decode cX10_which 87 = .ok (.iaload, 1) := by decide +kernel
theorem dX10_which_88 : decode cX10_which 88 = .ok (.aload_n 0, 1) := by decide +kernel
theorem dX10_which_89 : decode cX10_which 89 = .ok (.getfield 107, 3) := by decide +kernel
theorem dX10_which_92 : decode cX10_which 92 = .ok (.iload 4, 2) := by decide +kernel
theorem dX10_which_94 : decode cX10_which 94 = .ok (.iaload, 1) := by decide +kernel
theorem dX10_which_95 : decode cX10_which 95 = .ok (.invokevirtual 283, 3) := by decide +kernel
theorem dX10_which_98 : decode cX10_which 98 = .ok (.iconst (-1), 1) := by decide +kernel
theorem dX10_which_99 : decode cX10_which 99 = .ok (.if_icmp .ne 7, 3) := by decide +kernel
theorem dX10_which_102 : decode cX10_which 102 = .ok (.iconst 1, 1) := by decide +kernel
theorem dX10_which_103 : decode cX10_which 103 = .ok (.goto 4, 3) := by decide +kernel
theorem dX10_which_106 : decode cX10_which 106 = .ok (.iconst 0, 1) := by decide +kernel
theorem dX10_which_107 : decode cX10_which 107 = .ok (.istore_n 3, 1) := by decide +kernel
theorem dX10_which_108 : decode cX10_which 108 = .ok (.iinc 4 1, 3) := by decide +kernel
theorem dX10_which_111 : decode cX10_which 111 = .ok (.goto (-97), 3) := by decide +kernel
theorem dX10_which_114 : decode cX10_which 114 = .ok (.iload_n 1, 1) := by decide +kernel
theorem dX10_which_115 : decode cX10_which 115 = .ok (.iload_n 3, 1) := by decide +kernel
theorem dX10_which_116 : decode cX10_which 116 = .ok (.ifCond .eq 9, 3) := by decide +kernel
theorem dX10_which_119 : decode cX10_which 119 = .ok (.iconst 1, 1) := by decide +kernel
theorem dX10_which_120 : decode cX10_which 120 = .ok (.iload_n 2, 1) := by decide +kernel
theorem dX10_which_121 : decode cX10_which 121 = .ok (.ishl, 1) := by decide +kernel
theorem dX10_which_122 : decode cX10_which 122 = .ok (.goto 4, 3) := by decide +kernel
theorem dX10_which_125 : decode cX10_which 125 = .ok (.iconst 0, 1) := by decide +kernel
theorem dX10_which_126 : decode cX10_which 126 = .ok (.ior, 1) := by decide +kernel
theorem dX10_which_127 : decode cX10_which 127 = .ok (.istore_n 1, 1) := by decide +kernel
theorem dX10_which_128 : decode cX10_which 128 = .ok (.iinc 2 1, 3) := by decide +kernel
theorem dX10_which_131 : decode cX10_which 131 = .ok (.goto (-127), 3) := by decide +kernel
theorem dX10_which_134 : decode cX10_which 134 = .ok (.iload_n 1, 1) := by decide +kernel
theorem dX10_which_135 : decode cX10_which 135 = .ok (.ireturn, 1) := by decide +kernel
theorem dX10_warning_0 : decode cX10_warning 0 = .ok (.iload_n 1, 1) := by decide +kernel
theorem dX10_warning_1 : decode cX10_warning 1 = .ok (.invokestatic 222, 3) := by decide +kernel
theorem dX10_warning_4 : decode cX10_warning 4 = .ok (.ifCond .ne 6, 3) := by decide +kernel
theorem dX10_warning_7 : decode cX10_warning 7 = .ok (.bipush (-2), 2) := by decide +kernel
theorem dX10_warning_9 : decode cX10_warning 9 = .ok (.ireturn, 1) := by decide +kernel
theorem dX10_warning_10 : decode cX10_warning 10 = .ok (.iload_n 2, 1) := by decide +kernel
theorem dX10_warning_11 : decode cX10_warning 11 = .ok (.invokestatic 142, 3) := by decide +kernel
theorem dX10_warning_14 : decode cX10_warning 14 = .ok (.ifCond .eq 13, 3) := by decide +kernel
theorem dX10_warning_17 : decode cX10_warning 17 = .ok (.iload_n 3, 1) := by decide +kernel
theorem dX10_warning_18 : decode cX10_warning 18 = .ok (.i2l, 1) := by decide +kernel
theorem dX10_warning_19 : decode cX10_warning 19 = .ok (.lconst 0, 1) := by decide +kernel
theorem dX10_warning_20 : decode cX10_warning 20 = .ok (.lconst 1, 1) := by decide +kernel
theorem dX10_warning_21 : decode cX10_warning 21 = .ok (.invokestatic 121, 3) := by decide +kernel
theorem dX10_warning_24 : decode cX10_warning 24 = .ok (.ifCond .ne 6, 3) := by decide +kernel
theorem dX10_warning_27 : decode cX10_warning 27 = .ok (.bipush (-3), 2) := by decide +kernel
theorem dX10_warning_29 : decode cX10_warning 29 = .ok (.ireturn, 1) := by decide +kernel
theorem dX10_warning_30 : decode cX10_warning 30 = .ok (.iload_n 2, 1) := by decide +kernel
theorem dX10_warning_31 : decode cX10_warning 31 = .ok (.aload_n 0, 1) := by decide +kernel
theorem dX10_warning_32 : decode cX10_warning 32 = .ok (.getfield 53, 3) := by decide +kernel
theorem dX10_warning_35 : decode cX10_warning 35 = .ok (.iload_n 1, 1) := by decide +kernel
theorem dX10_warning_36 : decode cX10_warning 36 = .ok (.iaload, 1) := by decide +kernel
theorem dX10_warning_37 : decode cX10_warning 37 = .ok (.if_icmp .le 14, 3) := by decide +kernel
theorem dX10_warning_40 : decode cX10_warning 40 = .ok (.iload_n 2, 1) := by decide +kernel
theorem dX10_warning_41 : decode cX10_warning 41 = .ok (.aload_n 0, 1) := by decide +kernel
theorem dX10_warning_42 : decode cX10_warning 42 = .ok (.getfield 53, 3) := by decide +kernel
theorem dX10_warning_45 : decode cX10_warning 45 = .ok (.iload_n 1, 1) := by decide +kernel
theorem dX10_warning_46 : decode cX10_warning 46 = .ok (.iaload, 1) := by decide +kernel
theorem dX10_warning_47 : decode cX10_warning 47 = .ok (.isub, 1) := by decide +kernel
theorem dX10_warning_48 : decode cX10_warning 48 = .ok (.goto 4, 3) := by decide +kernel
theorem dX10_warning_51 : decode cX10_warning 51 = .ok (.iconst 0, 1) := by decide +kernel
theorem dX10_warning_52 : decode cX10_warning 52 = .ok (.istore 4, 2) := by decide +kernel
theorem dX10_warning_54 : decode cX10_warning 54 = .ok (.iload_n 3, 1) := by decide +kernel
theorem dX10_warning_55 : decode cX10_warning 55 = .ok (.ifCond .ne 8, 3) := by decide +kernel
theorem dX10_warning_58 : decode cX10_warning 58 = .ok (.iload 4, 2) := by decide +kernel
theorem dX10_warning_60 : decode cX10_warning 60 = .ok (.goto 14, 3) := by decide +kernel
theorem dX10_warning_63 : decode cX10_warning 63 = .ok (.iload 4, 2) := by decide +kernel
theorem dX10_warning_65 : decode cX10_warning 65 = .ok (.aload_n 0, 1) := by decide +kernel
theorem dX10_warning_66 : decode cX10_warning 66 = .ok (.getfield 53, 3) := by decide +kernel
theorem dX10_warning_69 : decode cX10_warning 69 = .ok (.iload_n 1, 1) := by decide +kernel
theorem dX10_warning_70 : decode cX10_warning 70 = .ok (.iaload, 1) := by decide +kernel
theorem dX10_warning_71 : decode cX10_warning 71 = .ok (.iadd, 1) := by decide +kernel
theorem dX10_warning_72 : decode cX10_warning 72 = .ok (.iload_n 2, 1) := by decide +kernel
theorem dX10_warning_73 : decode cX10_warning 73 = .ok (.isub, 1) := by decide +kernel
theorem dX10_warning_74 : decode cX10_warning 74 = .ok (.ireturn, 1) := by decide +kernel
theorem dX10_count_0 : decode cX10_count 0 = .ok (.iload_n 1, 1) := by decide +kernel
theorem dX10_count_1 : decode cX10_count 1 = .ok (.tableswitch 87 0 6 #[43, 48, 53, 58, 63, 68, 73], 43) := by decide +kernel
theorem dX10_count_44 : decode cX10_count 44 = .ok (.aload_n 0, 1) := by decide +kernel
theorem dX10_count_45 : decode cX10_count 45 = .ok (.getfield 147, 3) := by decide +kernel
theorem dX10_count_48 : decode cX10_count 48 = .ok (.ireturn, 1) := by decide +kernel
theorem dX10_count_49 : decode cX10_count 49 = .ok (.aload_n 0, 1) := by decide +kernel
theorem dX10_count_50 : decode cX10_count 50 = .ok (.getfield 160, 3) := by decide +kernel
theorem dX10_count_53 : decode cX10_count 53 = .ok (.ireturn, 1) := by decide +kernel
theorem dX10_count_54 : decode cX10_count 54 = .ok (.aload_n 0, 1) := by decide +kernel
theorem dX10_count_55 : decode cX10_count 55 = .ok (.getfield 231, 3) := by decide +kernel
theorem dX10_count_58 : decode cX10_count 58 = .ok (.ireturn, 1) := by decide +kernel
theorem dX10_count_59 : decode cX10_count 59 = .ok (.aload_n 0, 1) := by decide +kernel
theorem dX10_count_60 : decode cX10_count 60 = .ok (.getfield 286, 3) := by decide +kernel
theorem dX10_count_63 : decode cX10_count 63 = .ok (.ireturn, 1) := by decide +kernel
theorem dX10_count_64 : decode cX10_count 64 = .ok (.aload_n 0, 1) := by decide +kernel
theorem dX10_count_65 : decode cX10_count 65 = .ok (.getfield 263, 3) := by decide +kernel
theorem dX10_count_68 : decode cX10_count 68 = .ok (.ireturn, 1) := by decide +kernel
theorem dX10_count_69 : decode cX10_count 69 = .ok (.aload_n 0, 1) := by decide +kernel
theorem dX10_count_70 : decode cX10_count 70 = .ok (.getfield 306, 3) := by decide +kernel
theorem dX10_count_73 : decode cX10_count 73 = .ok (.ireturn, 1) := by decide +kernel
theorem dX10_count_74 : decode cX10_count 74 = .ok (.aload_n 0, 1) := by decide +kernel
theorem dX10_count_75 : decode cX10_count 75 = .ok (.getfield 92, 3) := by decide +kernel
theorem dX10_count_78 : decode cX10_count 78 = .ok (.iconst 0, 1) := by decide +kernel
theorem dX10_count_79 : decode cX10_count 79 = .ok (.iaload, 1) := by decide +kernel
theorem dX10_count_80 : decode cX10_count 80 = .ok (.aload_n 0, 1) := by decide +kernel
theorem dX10_count_81 : decode cX10_count 81 = .ok (.getfield 92, 3) := by decide +kernel
theorem dX10_count_84 : decode cX10_count 84 = .ok (.iconst 1, 1) := by decide +kernel
theorem dX10_count_85 : decode cX10_count 85 = .ok (.iaload, 1) := by decide +kernel
theorem dX10_count_86 : decode cX10_count 86 = .ok (.iadd, 1) := by decide +kernel
theorem dX10_count_87 : decode cX10_count 87 = .ok (.ireturn, 1) := by decide +kernel
theorem dX10_count_88 : decode cX10_count 88 = .ok (.bipush (-3), 2) := by decide +kernel
theorem dX10_count_90 : decode cX10_count 90 = .ok (.ireturn, 1) := by decide +kernel
theorem dJ6_bitCount_0f7a4_0 : decode cJ6_bitCount_0f7a4 0 = .ok (.iload_n 0, 1) := by decide +kernel
theorem dJ6_bitCount_0f7a4_1 : decode cJ6_bitCount_0f7a4 1 = .ok (.iload_n 0, 1) := by decide +kernel
theorem dJ6_bitCount_0f7a4_2 : decode cJ6_bitCount_0f7a4 2 = .ok (.iconst 1, 1) := by decide +kernel
theorem dJ6_bitCount_0f7a4_3 : decode cJ6_bitCount_0f7a4 3 = .ok (.iushr, 1) := by decide +kernel
theorem dJ6_bitCount_0f7a4_4 : decode cJ6_bitCount_0f7a4 4 = .ok (.ldc_w 265, 3) := by decide +kernel
theorem dJ6_bitCount_0f7a4_7 : decode cJ6_bitCount_0f7a4 7 = .ok (.iand, 1) := by decide +kernel
theorem dJ6_bitCount_0f7a4_8 : decode cJ6_bitCount_0f7a4 8 = .ok (.isub, 1) := by decide +kernel
theorem dJ6_bitCount_0f7a4_9 : decode cJ6_bitCount_0f7a4 9 = .ok (.istore_n 0, 1) := by decide +kernel
theorem dJ6_bitCount_0f7a4_10 : decode cJ6_bitCount_0f7a4 10 = .ok (.iload_n 0, 1) := by decide +kernel
theorem dJ6_bitCount_0f7a4_11 : decode cJ6_bitCount_0f7a4 11 = .ok (.ldc_w 266, 3) := by decide +kernel
theorem dJ6_bitCount_0f7a4_14 : decode cJ6_bitCount_0f7a4 14 = .ok (.iand, 1) := by decide +kernel
theorem dJ6_bitCount_0f7a4_15 : decode cJ6_bitCount_0f7a4 15 = .ok (.iload_n 0, 1) := by decide +kernel
theorem dJ6_bitCount_0f7a4_16 : decode cJ6_bitCount_0f7a4 16 = .ok (.iconst 2, 1) := by decide +kernel
theorem dJ6_bitCount_0f7a4_17 : decode cJ6_bitCount_0f7a4 17 = .ok (.iushr, 1) := by decide +kernel
theorem dJ6_bitCount_0f7a4_18 : decode cJ6_bitCount_0f7a4 18 = .ok (.ldc_w 266, 3) := by decide +kernel
theorem dJ6_bitCount_0f7a4_21 : decode cJ6_bitCount_0f7a4 21 = .ok (.iand, 1) := by decide +kernel
theorem dJ6_bitCount_0f7a4_22 : decode cJ6_bitCount_0f7a4 22 = .ok (.iadd, 1) := by decide +kernel
theorem dJ6_bitCount_0f7a4_23 : decode cJ6_bitCount_0f7a4 23 = .ok (.istore_n 0, 1) := by decide +kernel
theorem dJ6_bitCount_0f7a4_24 : decode cJ6_bitCount_0f7a4 24 = .ok (.iload_n 0, 1) := by decide +kernel
theorem dJ6_bitCount_0f7a4_25 : decode cJ6_bitCount_0f7a4 25 = .ok (.iload_n 0, 1) := by decide +kernel
theorem dJ6_bitCount_0f7a4_26 : decode cJ6_bitCount_0f7a4 26 = .ok (.iconst 4, 1) := by decide +kernel
theorem dJ6_bitCount_0f7a4_27 : decode cJ6_bitCount_0f7a4 27 = .ok (.iushr, 1) := by decide +kernel
theorem dJ6_bitCount_0f7a4_28 : decode cJ6_bitCount_0f7a4 28 = .ok (.iadd, 1) := by decide +kernel
theorem dJ6_bitCount_0f7a4_29 : decode cJ6_bitCount_0f7a4 29 = .ok (.ldc_w 267, 3) := by decide +kernel
theorem dJ6_bitCount_0f7a4_32 : decode cJ6_bitCount_0f7a4 32 = .ok (.iand, 1) := by decide +kernel
theorem dJ6_bitCount_0f7a4_33 : decode cJ6_bitCount_0f7a4 33 = .ok (.istore_n 0, 1) := by decide +kernel
theorem dJ6_bitCount_0f7a4_34 : decode cJ6_bitCount_0f7a4 34 = .ok (.iload_n 0, 1) := by decide +kernel
theorem dJ6_bitCount_0f7a4_35 : decode cJ6_bitCount_0f7a4 35 = .ok (.iload_n 0, 1) := by decide +kernel
theorem dJ6_bitCount_0f7a4_36 : decode cJ6_bitCount_0f7a4 36 = .ok (.bipush 8, 2) := by decide +kernel
theorem dJ6_bitCount_0f7a4_38 : decode cJ6_bitCount_0f7a4 38 = .ok (.iushr, 1) := by decide +kernel
theorem dJ6_bitCount_0f7a4_39 : decode cJ6_bitCount_0f7a4 39 = .ok (.iadd, 1) := by decide +kernel
theorem dJ6_bitCount_0f7a4_40 : decode cJ6_bitCount_0f7a4 40 = .ok (.istore_n 0, 1) := by decide +kernel
theorem dJ6_bitCount_0f7a4_41 : decode cJ6_bitCount_0f7a4 41 = .ok (.iload_n 0, 1) := by decide +kernel
theorem dJ6_bitCount_0f7a4_42 : decode cJ6_bitCount_0f7a4 42 = .ok (.iload_n 0, 1) := by decide +kernel
theorem dJ6_bitCount_0f7a4_43 : decode cJ6_bitCount_0f7a4 43 = .ok (.bipush 16, 2) := by decide +kernel
theorem dJ6_bitCount_0f7a4_45 : decode cJ6_bitCount_0f7a4 45 = .ok (.iushr, 1) := by decide +kernel
theorem dJ6_bitCount_0f7a4_46 : decode cJ6_bitCount_0f7a4 46 = .ok (.iadd, 1) := by decide +kernel
theorem dJ6_bitCount_0f7a4_47 : decode cJ6_bitCount_0f7a4 47 = .ok (.istore_n 0, 1) := by decide +kernel
theorem dJ6_bitCount_0f7a4_48 : decode cJ6_bitCount_0f7a4 48 = .ok (.iload_n 0, 1) := by decide +kernel
theorem dJ6_bitCount_0f7a4_49 : decode cJ6_bitCount_0f7a4 49 = .ok (.bipush 63, 2) := by decide +kernel
theorem dJ6_bitCount_0f7a4_51 : decode cJ6_bitCount_0f7a4 51 = .ok (.iand, 1) := by decide +kernel
theorem dJ6_bitCount_0f7a4_52 : decode cJ6_bitCount_0f7a4 52 = .ok (.ireturn, 1) := by decide +kernel
theorem dJ9_max_7cf53_0 : decode cJ9_max_7cf53 0 = .ok (.iload_n 0, 1) := by decide +kernel
theorem dJ9_max_7cf53_1 : decode cJ9_max_7cf53 1 = .ok (.iload_n 1, 1) := by decide +kernel
theorem dJ9_max_7cf53_2 : decode cJ9_max_7cf53 2 = .ok (.if_icmp .lt 7, 3) := by decide +kernel
theorem dJ9_max_7cf53_5 : decode cJ9_max_7cf53 5 = .ok (.iload_n 0, 1) := by decide +kernel
theorem dJ9_max_7cf53_6 : decode cJ9_max_7cf53 6 = .ok (.goto 4, 3) := by decide +kernel
theorem dJ9_max_7cf53_9 : decode cJ9_max_7cf53 9 = .ok (.iload_n 1, 1) := by decide +kernel
theorem dJ9_max_7cf53_10 : decode cJ9_max_7cf53 10 = .ok (.ireturn, 1) := by decide +kernel
theorem dJ9_min_7cf53_0 : decode cJ9_min_7cf53 0 = .ok (.iload_n 0, 1) := by decide +kernel
theorem dJ9_min_7cf53_1 : decode cJ9_min_7cf53 1 = .ok (.iload_n 1, 1) := by decide +kernel
theorem dJ9_min_7cf53_2 : decode cJ9_min_7cf53 2 = .ok (.if_icmp .gt 7, 3) := by decide +kernel
theorem dJ9_min_7cf53_5 : decode cJ9_min_7cf53 5 = .ok (.iload_n 0, 1) := by decide +kernel
theorem dJ9_min_7cf53_6 : decode cJ9_min_7cf53 6 = .ok (.goto 4, 3) := by decide +kernel
theorem dJ9_min_7cf53_9 : decode cJ9_min_7cf53 9 = .ok (.iload_n 1, 1) := by decide +kernel
theorem dJ9_min_7cf53_10 : decode cJ9_min_7cf53 10 = .ok (.ireturn, 1) := by decide +kernel
theorem dJ0_length_8abf5_0 : decode cJ0_length_8abf5 0 = .ok (.aload_n 0, 1) := by decide +kernel
theorem dJ0_length_8abf5_1 : decode cJ0_length_8abf5 1 = .ok (.getfield 9, 3) := by decide +kernel
theorem dJ0_length_8abf5_4 : decode cJ0_length_8abf5 4 = .ok (.arraylength, 1) := by decide +kernel
theorem dJ0_length_8abf5_5 : decode cJ0_length_8abf5 5 = .ok (.aload_n 0, 1) := by decide +kernel
theorem dJ0_length_8abf5_6 : decode cJ0_length_8abf5 6 = .ok (.invokevirtual 335, 3) := by decide +kernel
theorem dJ0_length_8abf5_9 : decode cJ0_length_8abf5 9 = .ok (.ishr, 1) := by decide +kernel
theorem dJ0_length_8abf5_10 : decode cJ0_length_8abf5 10 = .ok (.ireturn, 1) := by decide +kernel
theorem dJ0_charAt_5068e_0 : decode cJ0_charAt_5068e 0 = .ok (.aload_n 0, 1) := by decide +kernel
theorem dJ0_charAt_5068e_1 : decode cJ0_charAt_5068e 1 = .ok (.invokevirtual 492, 3) := by decide +kernel
theorem dJ0_charAt_5068e_4 : decode cJ0_charAt_5068e 4 = .ok (.ifCond .eq 12, 3) := by decide +kernel
theorem dJ0_charAt_5068e_7 : decode cJ0_charAt_5068e 7 = .ok (.aload_n 0, 1) := by decide +kernel
theorem dJ0_charAt_5068e_8 : decode cJ0_charAt_5068e 8 = .ok (.getfield 9, 3) := by decide +kernel
theorem dJ0_charAt_5068e_11 : decode cJ0_charAt_5068e 11 = .ok (.iload_n 1, 1) := by decide +kernel
theorem dJ0_charAt_5068e_12 : decode cJ0_charAt_5068e 12 = .ok (.invokestatic 495, 3) := by decide +kernel
theorem dJ0_charAt_5068e_15 : decode cJ0_charAt_5068e 15 = .ok (.ireturn, 1) := by decide +kernel
theorem dJ0_charAt_5068e_16 : decode cJ0_charAt_5068e 16 = .ok (.aload_n 0, 1) := by decide +kernel
theorem dJ0_charAt_5068e_17 : decode cJ0_charAt_5068e 17 = .ok (.getfield 9, 3) := by decide +kernel
theorem dJ0_charAt_5068e_20 : decode cJ0_charAt_5068e 20 = .ok (.iload_n 1, 1) := by decide +kernel
theorem dJ0_charAt_5068e_21 : decode cJ0_charAt_5068e 21 = .ok (.invokestatic 498, 3) := by decide +kernel
theorem dJ0_charAt_5068e_24 : decode cJ0_charAt_5068e 24 = .ok (.ireturn, 1) := by decide +kernel
theorem dJ0_coder_7d493_0 : decode cJ0_coder_7d493 0 = .ok (.getstatic 38, 3) := by decide +kernel
theorem dJ0_coder_7d493_3 : decode cJ0_coder_7d493 3 = .ok (.ifCond .eq 10, 3) := by decide +kernel
theorem dJ0_coder_7d493_6 : decode cJ0_coder_7d493 6 = .ok (.aload_n 0, 1) := by decide +kernel
theorem dJ0_coder_7d493_7 : decode cJ0_coder_7d493 7 = .ok (.getfield 15, 3) := by decide +kernel
theorem dJ0_coder_7d493_10 : decode cJ0_coder_7d493 10 = .ok (.goto 4, 3) := by decide +kernel
theorem dJ0_coder_7d493_13 : decode cJ0_coder_7d493 13 = .ok (.iconst 1, 1) := by decide +kernel
theorem dJ0_coder_7d493_14 : decode cJ0_coder_7d493 14 = .ok (.ireturn, 1) := by decide +kernel
theorem dJ0_isLatin1_aae02_0 : decode cJ0_isLatin1_aae02 0 = .ok (.getstatic 38, 3) := by decide +kernel
theorem dJ0_isLatin1_aae02_3 : decode cJ0_isLatin1_aae02 3 = .ok (.ifCond .eq 14, 3) := by decide +kernel
theorem dJ0_isLatin1_aae02_6 : decode cJ0_isLatin1_aae02 6 = .ok (.aload_n 0, 1) := by decide +kernel
theorem dJ0_isLatin1_aae02_7 : decode cJ0_isLatin1_aae02 7 = .ok (.getfield 15, 3) := by decide +kernel
theorem dJ0_isLatin1_aae02_10 : decode cJ0_isLatin1_aae02 10 = .ok (.ifCond .ne 7, 3) := by decide +kernel
theorem dJ0_isLatin1_aae02_13 : decode cJ0_isLatin1_aae02 13 = .ok (.iconst 1, 1) := by decide +kernel
theorem dJ0_isLatin1_aae02_14 : decode cJ0_isLatin1_aae02 14 = .ok (.goto 4, 3) := by decide +kernel
theorem dJ0_isLatin1_aae02_17 : decode cJ0_isLatin1_aae02 17 = .ok (.iconst 0, 1) := by decide +kernel
theorem dJ0_isLatin1_aae02_18 : decode cJ0_isLatin1_aae02 18 = .ok (.ireturn, 1) := by decide +kernel
theorem dJ0_checkIndex_df160_0 : decode cJ0_checkIndex_df160 0 = .ok (.iload_n 0, 1) := by decide +kernel
theorem dJ0_checkIndex_df160_1 : decode cJ0_checkIndex_df160 1 = .ok (.iload_n 1, 1) := by decide +kernel
theorem dJ0_checkIndex_df160_2 : decode cJ0_checkIndex_df160 2 = .ok (.getstatic 1053, 3) := by decide +kernel
theorem dJ0_checkIndex_df160_5 : decode cJ0_checkIndex_df160 5 = .ok (.invokestatic 1059, 3) := by decide +kernel
theorem dJ0_checkIndex_df160_8 : decode cJ0_checkIndex_df160 8 = .ok (.pop, 1) := by decide +kernel
theorem dJ0_checkIndex_df160_9 : decode cJ0_checkIndex_df160 9 = .ok (.return_, 1) := by decide +kernel
theorem dJ1_charAt_3b067_0 : decode cJ1_charAt_3b067 0 = .ok (.iload_n 1, 1) := by decide +kernel
theorem dJ1_charAt_3b067_1 : decode cJ1_charAt_3b067 1 = .ok (.aload_n 0, 1) := by decide +kernel
theorem dJ1_charAt_3b067_2 : decode cJ1_charAt_3b067 2 = .ok (.arraylength, 1) := by decide +kernel
theorem dJ1_charAt_3b067_3 : decode cJ1_charAt_3b067 3 = .ok (.invokestatic 9, 3) := by decide +kernel
theorem dJ1_charAt_3b067_6 : decode cJ1_charAt_3b067 6 = .ok (.aload_n 0, 1) := by decide +kernel
theorem dJ1_charAt_3b067_7 : decode cJ1_charAt_3b067 7 = .ok (.iload_n 1, 1) := by decide +kernel
theorem dJ1_charAt_3b067_8 : decode cJ1_charAt_3b067 8 = .ok (.baload, 1) := by decide +kernel
theorem dJ1_charAt_3b067_9 : decode cJ1_charAt_3b067 9 = .ok (.sipush 255, 3) := by decide +kernel
theorem dJ1_charAt_3b067_12 : decode cJ1_charAt_3b067 12 = .ok (.iand, 1) := by decide +kernel
theorem dJ1_charAt_3b067_13 : decode cJ1_charAt_3b067 13 = .ok (.i2c, 1) := by decide +kernel
theorem dJ1_charAt_3b067_14 : decode cJ1_charAt_3b067 14 = .ok (.ireturn, 1) := by decide +kernel
theorem dJ2_getChar_3b067_0 : decode cJ2_getChar_3b067 0 = .ok (.getstatic 44, 3) := by decide +kernel
theorem dJ2_getChar_3b067_3 : decode cJ2_getChar_3b067 3 = .ok (.ifCond .ne 25, 3) := by decide +kernel
theorem dJ2_getChar_3b067_6 : decode cJ2_getChar_3b067 6 = .ok (.iload_n 1, 1) := by decide +kernel
theorem dJ2_getChar_3b067_7 : decode cJ2_getChar_3b067 7 = .ok (.ifCond .lt 11, 3) := by decide +kernel
theorem dJ2_getChar_3b067_10 : decode cJ2_getChar_3b067 10 = .ok (.iload_n 1, 1) := by decide +kernel
theorem dJ2_getChar_3b067_11 : decode cJ2_getChar_3b067 11 = .ok (.aload_n 0, 1) := by decide +kernel
theorem dJ2_getChar_3b067_12 : decode cJ2_getChar_3b067 12 = .ok (.invokestatic 48, 3) := by decide +kernel
theorem dJ2_getChar_3b067_15 : decode cJ2_getChar_3b067 15 = .ok (.if_icmp .lt 13, 3) := by decide +kernel
theorem dJ2_getChar_3b067_18 : decode cJ2_getChar_3b067 18 = .ok (.new 52, 3) := by decide +kernel
theorem dJ2_getChar_3b067_21 : decode cJ2_getChar_3b067 21 = .ok (.dup, 1) := by decide +kernel
theorem dJ2_getChar_3b067_22 : decode cJ2_getChar_3b067 22 = .ok (.ldc 54, 2) := by decide +kernel
theorem dJ2_getChar_3b067_24 : decode cJ2_getChar_3b067 24 = .ok (.invokespecial 56, 3) := by decide +kernel
theorem dJ2_getChar_3b067_27 : decode cJ2_getChar_3b067 27 = .ok (.athrow, 1) := by decide +kernel
theorem dJ2_getChar_3b067_28 : decode cJ2_getChar_3b067 28 = .ok (.iload_n 1, 1) := by decide +kernel
theorem dJ2_getChar_3b067_29 : decode cJ2_getChar_3b067 29 = .ok (.iconst 1, 1) := by decide +kernel
theorem dJ2_getChar_3b067_30 : decode cJ2_getChar_3b067 30 = .ok (.ishl, 1) := by decide +kernel
theorem dJ2_getChar_3b067_31 : decode cJ2_getChar_3b067 31 = .ok (.istore_n 1, 1) := by decide +kernel
theorem dJ2_getChar_3b067_32 : decode cJ2_getChar_3b067 32 = .ok (.aload_n 0, 1) := by decide +kernel
theorem dJ2_getChar_3b067_33 : decode cJ2_getChar_3b067 33 = .ok (.iload_n 1, 1) := by decide +kernel
theorem dJ2_getChar_3b067_34 : decode cJ2_getChar_3b067 34 = .ok (.iinc 1 1, 3) := by decide +kernel
theorem dJ2_getChar_3b067_37 : decode cJ2_getChar_3b067 37 = .ok (.baload, 1) := by decide +kernel
theorem dJ2_getChar_3b067_38 : decode cJ2_getChar_3b067 38 = .ok (.sipush 255, 3) := by decide +kernel
theorem dJ2_getChar_3b067_41 : decode cJ2_getChar_3b067 41 = .ok (.iand, 1) := by decide +kernel
theorem dJ2_getChar_3b067_42 : decode cJ2_getChar_3b067 42 = .ok (.getstatic 59, 3) := by decide +kernel
theorem dJ2_getChar_3b067_45 : decode cJ2_getChar_3b067 45 = .ok (.ishl, 1) := by decide +kernel
theorem dJ2_getChar_3b067_46 : decode cJ2_getChar_3b067 46 = .ok (.aload_n 0, 1) := by decide +kernel
theorem dJ2_getChar_3b067_47 : decode cJ2_getChar_3b067 47 = .ok (.iload_n 1, 1) := by decide +kernel
theorem dJ2_getChar_3b067_48 : decode cJ2_getChar_3b067 48 = .ok (.baload, 1) := by decide +kernel
theorem dJ2_getChar_3b067_49 : decode cJ2_getChar_3b067 49 = .ok (.sipush 255, 3) := by decide +kernel
theorem dJ2_getChar_3b067_52 : decode cJ2_getChar_3b067 52 = .ok (.iand, 1) := by decide +kernel
theorem dJ2_getChar_3b067_53 : decode cJ2_getChar_3b067 53 = .ok (.getstatic 63, 3) := by decide +kernel
theorem dJ2_getChar_3b067_56 : decode cJ2_getChar_3b067 56 = .ok (.ishl, 1) := by decide +kernel
theorem dJ2_getChar_3b067_57 : decode cJ2_getChar_3b067 57 = .ok (.ior, 1) := by decide +kernel
theorem dJ2_getChar_3b067_58 : decode cJ2_getChar_3b067 58 = .ok (.i2c, 1) := by decide +kernel
theorem dJ2_getChar_3b067_59 : decode cJ2_getChar_3b067 59 = .ok (.ireturn, 1) := by decide +kernel
theorem dJ2_length_9d52b_0 : decode cJ2_length_9d52b 0 = .ok (.aload_n 0, 1) := by decide +kernel
theorem dJ2_length_9d52b_1 : decode cJ2_length_9d52b 1 = .ok (.arraylength, 1) := by decide +kernel
theorem dJ2_length_9d52b_2 : decode cJ2_length_9d52b 2 = .ok (.iconst 1, 1) := by decide +kernel
theorem dJ2_length_9d52b_3 : decode cJ2_length_9d52b 3 = .ok (.ishr, 1) := by decide +kernel
theorem dJ2_length_9d52b_4 : decode cJ2_length_9d52b 4 = .ok (.ireturn, 1) := by decide +kernel
theorem dJ2_charAt_3b067_0 : decode cJ2_charAt_3b067 0 = .ok (.iload_n 1, 1) := by decide +kernel
theorem dJ2_charAt_3b067_1 : decode cJ2_charAt_3b067 1 = .ok (.aload_n 0, 1) := by decide +kernel
theorem dJ2_charAt_3b067_2 : decode cJ2_charAt_3b067 2 = .ok (.invokestatic 67, 3) := by decide +kernel
theorem dJ2_charAt_3b067_5 : decode cJ2_charAt_3b067 5 = .ok (.aload_n 0, 1) := by decide +kernel
theorem dJ2_charAt_3b067_6 : decode cJ2_charAt_3b067 6 = .ok (.iload_n 1, 1) := by decide +kernel
theorem dJ2_charAt_3b067_7 : decode cJ2_charAt_3b067 7 = .ok (.invokestatic 71, 3) := by decide +kernel
theorem dJ2_charAt_3b067_10 : decode cJ2_charAt_3b067 10 = .ok (.ireturn, 1) := by decide +kernel
theorem dJ2_checkIndex_2214a_0 : decode cJ2_checkIndex_2214a 0 = .ok (.iload_n 0, 1) := by decide +kernel
theorem dJ2_checkIndex_2214a_1 : decode cJ2_checkIndex_2214a 1 = .ok (.aload_n 1, 1) := by decide +kernel
theorem dJ2_checkIndex_2214a_2 : decode cJ2_checkIndex_2214a 2 = .ok (.invokestatic 48, 3) := by decide +kernel
theorem dJ2_checkIndex_2214a_5 : decode cJ2_checkIndex_2214a 5 = .ok (.invokestatic 414, 3) := by decide +kernel
theorem dJ2_checkIndex_2214a_8 : decode cJ2_checkIndex_2214a 8 = .ok (.return_, 1) := by decide +kernel
theorem dJ3_checkIndex_8e157_0 : decode cJ3_checkIndex_8e157 0 = .ok (.iload_n 0, 1) := by decide +kernel
theorem dJ3_checkIndex_8e157_1 : decode cJ3_checkIndex_8e157 1 = .ok (.ifCond .lt 8, 3) := by decide +kernel
theorem dJ3_checkIndex_8e157_4 : decode cJ3_checkIndex_8e157 4 = .ok (.iload_n 0, 1) := by decide +kernel
theorem dJ3_checkIndex_8e157_5 : decode cJ3_checkIndex_8e157 5 = .ok (.iload_n 1, 1) := by decide +kernel
theorem dJ3_checkIndex_8e157_6 : decode cJ3_checkIndex_8e157 6 = .ok (.if_icmp .lt 10, 3) := by decide +kernel
theorem dJ3_checkIndex_8e157_9 : decode cJ3_checkIndex_8e157 9 = .ok (.aload_n 2, 1) := by decide +kernel
theorem dJ3_checkIndex_8e157_10 : decode cJ3_checkIndex_8e157 10 = .ok (.iload_n 0, 1) := by decide +kernel
theorem dJ3_checkIndex_8e157_11 : decode cJ3_checkIndex_8e157 11 = .ok (.iload_n 1, 1) := by decide +kernel
theorem dJ3_checkIndex_8e157_12 : decode cJ3_checkIndex_8e157 12 = .ok (.invokestatic 95, 3) := by decide +kernel
theorem dJ3_checkIndex_8e157_15 : decode cJ3_checkIndex_8e157 15 = .ok (.athrow, 1) := by decide +kernel
theorem dJ3_checkIndex_8e157_16 : decode cJ3_checkIndex_8e157 16 = .ok (.iload_n 0, 1) := by decide +kernel
theorem dJ3_checkIndex_8e157_17 : decode cJ3_checkIndex_8e157 17 = .ok (.ireturn, 1) := by decide +kernel
theorem dL_law_0 : decode cL_law 0 = .ok (.new 7, 3) := by decide +kernel
theorem dL_law_3 : decode cL_law 3 = .ok (.dup, 1) := by decide +kernel
theorem dL_law_4 : decode cL_law 4 = .ok (.invokespecial 9, 3) := by decide +kernel
theorem dL_law_7 : decode cL_law 7 = .ok (.astore_n 1, 1) := by decide +kernel
theorem dL_law_8 : decode cL_law 8 = .ok (.new 10, 3) := by decide +kernel
theorem dL_law_11 : decode cL_law 11 = .ok (.dup, 1) := by decide +kernel
theorem dL_law_12 : decode cL_law 12 = .ok (.invokespecial 12, 3) := by decide +kernel
theorem dL_law_15 : decode cL_law 15 = .ok (.astore_n 2, 1) := by decide +kernel
theorem dL_law_16 : decode cL_law 16 = .ok (.iconst 0, 1) := by decide +kernel
theorem dL_law_17 : decode cL_law 17 = .ok (.istore_n 3, 1) := by decide +kernel
theorem dL_law_18 : decode cL_law 18 = .ok (.iload_n 3, 1) := by decide +kernel
theorem dL_law_19 : decode cL_law 19 = .ok (.aload_n 0, 1) := by decide +kernel
theorem dL_law_20 : decode cL_law 20 = .ok (.arraylength, 1) := by decide +kernel
theorem dL_law_21 : decode cL_law 21 = .ok (.bipush 8, 2) := by decide +kernel
theorem dL_law_23 : decode cL_law 23 = .ok (.isub, 1) := by decide +kernel
theorem dL_law_24 : decode cL_law 24 = .ok (.if_icmp .gt 1573, 3) := by decide +kernel
theorem dL_law_27 : decode cL_law 27 = .ok (.aload_n 0, 1) := by decide +kernel
theorem dL_law_28 : decode cL_law 28 = .ok (.iload_n 3, 1) := by decide +kernel
theorem dL_law_29 : decode cL_law 29 = .ok (.iaload, 1) := by decide +kernel
theorem dL_law_30 : decode cL_law 30 = .ok (.bipush 63, 2) := by decide +kernel
theorem dL_law_32 : decode cL_law 32 = .ok (.iand, 1) := by decide +kernel
theorem dL_law_33 : decode cL_law 33 = .ok (.tableswitch 1558 0 34 #[155, 188, 279, 322, 355, 418, 431, 454, 477, 500, 533, 566, 599, 686, 709, 732, 755, 788, 811, 864, 897, 940, 1003, 1078, 1131, 1164, 1197, 1284, 1327, 1350, 1393, 1446, 1479, 1492, 1535], 155) := by decide +kernel
theorem dL_law_188 : decode cL_law 188 = .ok (.aload_n 1, 1) := by decide +kernel
theorem dL_law_189 : decode cL_law 189 = .ok (.aload_n 0, 1) := by decide +kernel
theorem dL_law_190 : decode cL_law 190 = .ok (.iload_n 3, 1) := by decide +kernel
theorem dL_law_191 : decode cL_law 191 = .ok (.iconst 1, 1) := by decide +kernel
theorem dL_law_192 : decode cL_law 192 = .ok (.iadd, 1) := by decide +kernel
theorem dL_law_193 : decode cL_law 193 = .ok (.iaload, 1) := by decide +kernel
theorem dL_law_194 : decode cL_law 194 = .ok (.aload_n 0, 1) := by decide +kernel
theorem dL_law_195 : decode cL_law 195 = .ok (.iload_n 3, 1) := by decide +kernel
theorem dL_law_196 : decode cL_law 196 = .ok (.iconst 2, 1) := by decide +kernel
theorem dL_law_197 : decode cL_law 197 = .ok (.iadd, 1) := by decide +kernel
theorem dL_law_198 : decode cL_law 198 = .ok (.iaload, 1) := by decide +kernel
theorem dL_law_199 : decode cL_law 199 = .ok (.invokevirtual 13, 3) := by decide +kernel
theorem dL_law_202 : decode cL_law 202 = .ok (.aload_n 2, 1) := by decide +kernel
theorem dL_law_203 : decode cL_law 203 = .ok (.aload_n 0, 1) := by decide +kernel
theorem dL_law_204 : decode cL_law 204 = .ok (.iload_n 3, 1) := by decide +kernel
theorem dL_law_205 : decode cL_law 205 = .ok (.iconst 1, 1) := by decide +kernel
theorem dL_law_206 : decode cL_law 206 = .ok (.iadd, 1) := by decide +kernel
theorem dL_law_207 : decode cL_law 207 = .ok (.iaload, 1) := by decide +kernel
theorem dL_law_208 : decode cL_law 208 = .ok (.aload_n 0, 1) := by decide +kernel
theorem dL_law_209 : decode cL_law 209 = .ok (.iload_n 3, 1) := by decide +kernel
theorem dL_law_210 : decode cL_law 210 = .ok (.iconst 2, 1) := by decide +kernel
theorem dL_law_211 : decode cL_law 211 = .ok (.iadd, 1) := by decide +kernel
theorem dL_law_212 : decode cL_law 212 = .ok (.iaload, 1) := by decide +kernel
theorem dL_law_213 : decode cL_law 213 = .ok (.invokevirtual 17, 3) := by decide +kernel
theorem dL_law_216 : decode cL_law 216 = .ok (.if_icmp .eq 1375, 3) := by decide +kernel
theorem dL_law_219 : decode cL_law 219 = .ok (.iconst 0, 1) := by decide +kernel
theorem dL_law_220 : decode cL_law 220 = .ok (.ireturn, 1) := by decide +kernel
theorem dL_law_221 : decode cL_law 221 = .ok (.aload_n 1, 1) := by decide +kernel
theorem dL_law_222 : decode cL_law 222 = .ok (.aload_n 0, 1) := by decide +kernel
theorem dL_law_223 : decode cL_law 223 = .ok (.iload_n 3, 1) := by decide +kernel
theorem dL_law_224 : decode cL_law 224 = .ok (.iconst 1, 1) := by decide +kernel
theorem dL_law_225 : decode cL_law 225 = .ok (.iadd, 1) := by decide +kernel
theorem dL_law_226 : decode cL_law 226 = .ok (.iaload, 1) := by decide +kernel
theorem dL_law_227 : decode cL_law 227 = .ok (.aload_n 0, 1) := by decide +kernel
theorem dL_law_228 : decode cL_law 228 = .ok (.iload_n 3, 1) := by decide +kernel
theorem dL_law_229 : decode cL_law 229 = .ok (.iconst 2, 1) := by decide +kernel
theorem dL_law_230 : decode cL_law 230 = .ok (.iadd, 1) := by decide +kernel
theorem dL_law_231 : decode cL_law 231 = .ok (.iaload, 1) := by decide +kernel
theorem dL_law_232 : decode cL_law 232 = .ok (.aload_n 0, 1) := by decide +kernel
theorem dL_law_233 : decode cL_law 233 = .ok (.iload_n 3, 1) := by decide +kernel
theorem dL_law_234 : decode cL_law 234 = .ok (.iconst 3, 1) := by decide +kernel
theorem dL_law_235 : decode cL_law 235 = .ok (.iadd, 1) := by decide +kernel
theorem dL_law_236 : decode cL_law 236 = .ok (.iaload, 1) := by decide +kernel
theorem dL_law_237 : decode cL_law 237 = .ok (.aload_n 0, 1) := by decide +kernel
theorem dL_law_238 : decode cL_law 238 = .ok (.iload_n 3, 1) := by decide +kernel
theorem dL_law_239 : decode cL_law 239 = .ok (.iconst 4, 1) := by decide +kernel
theorem dL_law_240 : decode cL_law 240 = .ok (.iadd, 1) := by decide +kernel
theorem dL_law_241 : decode cL_law 241 = .ok (.iaload, 1) := by decide +kernel
theorem dL_law_242 : decode cL_law 242 = .ok (.aload_n 0, 1) := by decide +kernel
theorem dL_law_243 : decode cL_law 243 = .ok (.iload_n 3, 1) := by decide +kernel
theorem dL_law_244 : decode cL_law 244 = .ok (.iconst 5, 1) := by decide +kernel
theorem dL_law_245 : decode cL_law 245 = .ok (.iadd, 1) := by decide +kernel
theorem dL_law_246 : decode cL_law 246 = .ok (.iaload, 1) := by decide +kernel
theorem dL_law_247 : decode cL_law 247 = .ok (.aload_n 0, 1) := by decide +kernel
theorem dL_law_248 : decode cL_law 248 = .ok (.iload_n 3, 1) := by decide +kernel
theorem dL_law_249 : decode cL_law 249 = .ok (.bipush 6, 2) := by decide +kernel
theorem dL_law_251 : decode cL_law 251 = .ok (.iadd, 1) := by decide +kernel
theorem dL_law_252 : decode cL_law 252 = .ok (.iaload, 1) := by decide +kernel
theorem dL_law_253 : decode cL_law 253 = .ok (.ifCond .eq 7, 3) := by decide +kernel
theorem dL_law_256 : decode cL_law 256 = .ok (.iconst 1, 1) := by decide +kernel
theorem dL_law_257 : decode cL_law 257 = .ok (.goto 4, 3) := by decide +kernel
theorem dL_law_260 : decode cL_law 260 = .ok (.iconst 0, 1) := by decide +kernel
theorem dL_law_261 : decode cL_law 261 = .ok (.invokevirtual 18, 3) := by decide +kernel
theorem dL_law_264 : decode cL_law 264 = .ok (.aload_n 2, 1) := by decide +kernel
theorem dL_law_265 : decode cL_law 265 = .ok (.aload_n 0, 1) := by decide +kernel
theorem dL_law_266 : decode cL_law 266 = .ok (.iload_n 3, 1) := by decide +kernel
theorem dL_law_267 : decode cL_law 267 = .ok (.iconst 1, 1) := by decide +kernel
theorem dL_law_268 : decode cL_law 268 = .ok (.iadd, 1) := by decide +kernel
theorem dL_law_269 : decode cL_law 269 = .ok (.iaload, 1) := by decide +kernel
theorem dL_law_270 : decode cL_law 270 = .ok (.aload_n 0, 1) := by decide +kernel
theorem dL_law_271 : decode cL_law 271 = .ok (.iload_n 3, 1) := by decide +kernel
theorem dL_law_272 : decode cL_law 272 = .ok (.iconst 2, 1) := by decide +kernel
theorem dL_law_273 : decode cL_law 273 = .ok (.iadd, 1) := by decide +kernel
