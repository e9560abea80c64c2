theorem dX10_isWord_9 : decode cX10_isWord 9 = .ok (.iload_n 2, 1) := by decide +kernel
theorem dX10_isWord_10 : decode cX10_isWord 10 = .ok (.if_icmp .ne 7, 3) := by decide +kernel
theorem dX10_isWord_13 : decode cX10_isWord 13 = .ok (.iconst 1, 1) := by decide +kernel
theorem dX10_isWord_14 : decode cX10_isWord 14 = .ok (.goto 4, 3) := by decide +kernel
theorem dX10_isWord_17 : decode cX10_isWord 17 = .ok (.iconst 0, 1) := by decide +kernel
theorem dX10_isWord_18 : decode cX10_isWord 18 = .ok (.istore_n 3, 1) := by decide +kernel
theorem dX10_isWord_19 : decode cX10_isWord 19 = .ok (.iconst 0, 1) := by decide +kernel
theorem dX10_isWord_20 : decode cX10_isWord 20 = .ok (.istore 4, 2) := by decide +kernel
theorem dX10_isWord_22 : decode cX10_isWord 22 = .ok (.iload_n 3, 1) := by decide +kernel
theorem dX10_isWord_23 : decode cX10_isWord 23 = .ok (.ifCond .eq 48, 3) := by decide +kernel
theorem dX10_isWord_26 : decode cX10_isWord 26 = .ok (.iload 4, 2) := by decide +kernel
theorem dX10_isWord_28 : decode cX10_isWord 28 = .ok (.iload_n 2, 1) := by decide +kernel
theorem dX10_isWord_29 : decode cX10_isWord 29 = .ok (.if_icmp .ge 42, 3) := by decide +kernel
theorem dX10_isWord_32 : decode cX10_isWord 32 = .ok (.aload_n 0, 1) := by decide +kernel
theorem dX10_isWord_33 : decode cX10_isWord 33 = .ok (.getfield 35, 3) := by decide +kernel
theorem dX10_isWord_36 : decode cX10_isWord 36 = .ok (.aload_n 0, 1) := by decide +kernel
theorem dX10_isWord_37 : decode cX10_isWord 37 = .ok (.getfield 166, 3) := by decide +kernel
theorem dX10_isWord_40 : decode cX10_isWord 40 = .ok (.iload 4, 2) := by decide +kernel
theorem dX10_isWord_42 : decode cX10_isWord 42 = .ok (.iadd, 1) := by decide +kernel
theorem dX10_isWord_43 : decode cX10_isWord 43 = .ok (.iaload, 1) := by decide +kernel
theorem dX10_isWord_44 : decode cX10_isWord 44 = .ok (.bipush 96, 2) := by decide +kernel
theorem dX10_isWord_46 : decode cX10_isWord 46 = .ok (.iload_n 1, 1) := by decide +kernel
theorem dX10_isWord_47 : decode cX10_isWord 47 = .ok (.iconst 5, 1) := by decide +kernel
theorem dX10_isWord_48 : decode cX10_isWord 48 = .ok (.iload 4, 2) := by decide +kernel
theorem dX10_isWord_50 : decode cX10_isWord 50 = .ok (.imul, 1) := by decide +kernel
theorem dX10_isWord_51 : decode cX10_isWord 51 = .ok (.ishr, 1) := by decide +kernel
theorem dX10_isWord_52 : decode cX10_isWord 52 = .ok (.bipush 31, 2) := by decide +kernel
theorem dX10_isWord_54 : decode cX10_isWord 54 = .ok (.iand, 1) := by decide +kernel
theorem dX10_isWord_55 : decode cX10_isWord 55 = .ok (.iadd, 1) := by decide +kernel
theorem dX10_isWord_56 : decode cX10_isWord 56 = .ok (.if_icmp .ne 7, 3) := by decide +kernel
theorem dX10_isWord_59 : decode cX10_isWord 59 = .ok (.iconst 1, 1) := by decide +kernel
theorem dX10_isWord_60 : decode cX10_isWord 60 = .ok (.goto 4, 3) := by decide +kernel
theorem dX10_isWord_63 : decode cX10_isWord 63 = .ok (.iconst 0, 1) := by decide +kernel
theorem dX10_isWord_64 : decode cX10_isWord 64 = .ok (.istore_n 3, 1) := by decide +kernel
theorem dX10_isWord_65 : decode cX10_isWord 65 = .ok (.iinc 4 1, 3) := by decide +kernel
theorem dX10_isWord_68 : decode cX10_isWord 68 = .ok (.goto (-46), 3) := by decide +kernel
theorem dX10_isWord_71 : decode cX10_isWord 71 = .ok (.iload_n 3, 1) := by decide +kernel
theorem dX10_isWord_72 : decode cX10_isWord 72 = .ok (.ireturn, 1) := by decide +kernel
theorem dX10_skips_0 : decode cX10_skips 0 = .ok (.aload_n 0, 1) := by decide +kernel
theorem dX10_skips_1 : decode cX10_skips 1 = .ok (.iload_n 1, 1) := by decide +kernel
theorem dX10_skips_2 : decode cX10_skips 2 = .ok (.iload_n 2, 1) := by decide +kernel
theorem dX10_skips_3 : decode cX10_skips 3 = .ok (.invokevirtual 176, 3) := by decide +kernel
theorem dX10_skips_6 : decode cX10_skips 6 = .ok (.istore_n 3, 1) := by decide +kernel
theorem dX10_skips_7 : decode cX10_skips 7 = .ok (.iload_n 3, 1) := by decide +kernel
theorem dX10_skips_8 : decode cX10_skips 8 = .ok (.ifCond .eq 7, 3) := by decide +kernel
theorem dX10_skips_11 : decode cX10_skips 11 = .ok (.aload_n 0, 1) := by decide +kernel
theorem dX10_skips_12 : decode cX10_skips 12 = .ok (.invokevirtual 180, 3) := by decide +kernel
theorem dX10_skips_15 : decode cX10_skips 15 = .ok (.iload_n 3, 1) := by decide +kernel
theorem dX10_skips_16 : decode cX10_skips 16 = .ok (.ireturn, 1) := by decide +kernel
theorem dX10_skipsNumber_0 : decode cX10_skipsNumber 0 = .ok (.aload_n 0, 1) := by decide +kernel
theorem dX10_skipsNumber_1 : decode cX10_skipsNumber 1 = .ok (.getfield 166, 3) := by decide +kernel
theorem dX10_skipsNumber_4 : decode cX10_skipsNumber 4 = .ok (.aload_n 0, 1) := by decide +kernel
theorem dX10_skipsNumber_5 : decode cX10_skipsNumber 5 = .ok (.getfield 160, 3) := by decide +kernel
theorem dX10_skipsNumber_8 : decode cX10_skipsNumber 8 = .ok (.if_icmp .ge 36, 3) := by decide +kernel
theorem dX10_skipsNumber_11 : decode cX10_skipsNumber 11 = .ok (.aload_n 0, 1) := by decide +kernel
theorem dX10_skipsNumber_12 : decode cX10_skipsNumber 12 = .ok (.getfield 35, 3) := by decide +kernel
theorem dX10_skipsNumber_15 : decode cX10_skipsNumber 15 = .ok (.aload_n 0, 1) := by decide +kernel
theorem dX10_skipsNumber_16 : decode cX10_skipsNumber 16 = .ok (.getfield 166, 3) := by decide +kernel
theorem dX10_skipsNumber_19 : decode cX10_skipsNumber 19 = .ok (.iaload, 1) := by decide +kernel
theorem dX10_skipsNumber_20 : decode cX10_skipsNumber 20 = .ok (.invokestatic 169, 3) := by decide +kernel
theorem dX10_skipsNumber_23 : decode cX10_skipsNumber 23 = .ok (.iconst 2, 1) := by decide +kernel
theorem dX10_skipsNumber_24 : decode cX10_skipsNumber 24 = .ok (.if_icmp .ne 20, 3) := by decide +kernel
theorem dX10_skipsNumber_27 : decode cX10_skipsNumber 27 = .ok (.aload_n 0, 1) := by decide +kernel
theorem dX10_skipsNumber_28 : decode cX10_skipsNumber 28 = .ok (.getfield 173, 3) := by decide +kernel
theorem dX10_skipsNumber_31 : decode cX10_skipsNumber 31 = .ok (.aload_n 0, 1) := by decide +kernel
theorem dX10_skipsNumber_32 : decode cX10_skipsNumber 32 = .ok (.getfield 166, 3) := by decide +kernel
theorem dX10_skipsNumber_35 : decode cX10_skipsNumber 35 = .ok (.isub, 1) := by decide +kernel
theorem dX10_skipsNumber_36 : decode cX10_skipsNumber 36 = .ok (.iconst 2, 1) := by decide +kernel
theorem dX10_skipsNumber_37 : decode cX10_skipsNumber 37 = .ok (.if_icmp .gt 7, 3) := by decide +kernel
theorem dX10_skipsNumber_40 : decode cX10_skipsNumber 40 = .ok (.iconst 1, 1) := by decide +kernel
theorem dX10_skipsNumber_41 : decode cX10_skipsNumber 41 = .ok (.goto 4, 3) := by decide +kernel
theorem dX10_skipsNumber_44 : decode cX10_skipsNumber 44 = .ok (.iconst 0, 1) := by decide +kernel
theorem dX10_skipsNumber_45 : decode cX10_skipsNumber 45 = .ok (.istore_n 3, 1) := by decide +kernel
theorem dX10_skipsNumber_46 : decode cX10_skipsNumber 46 = .ok (.aload_n 0, 1) := by decide +kernel
theorem dX10_skipsNumber_47 : decode cX10_skipsNumber 47 = .ok (.iconst 0, 1) := by decide +kernel
theorem dX10_skipsNumber_48 : decode cX10_skipsNumber 48 = .ok (.putfield 183, 3) := by decide +kernel
theorem dX10_skipsNumber_51 : decode cX10_skipsNumber 51 = .ok (.aload_n 0, 1) := by decide +kernel
theorem dX10_skipsNumber_52 : decode cX10_skipsNumber 52 = .ok (.getfield 166, 3) := by decide +kernel
theorem dX10_skipsNumber_55 : decode cX10_skipsNumber 55 = .ok (.istore 4, 2) := by decide +kernel
theorem dX10_skipsNumber_57 : decode cX10_skipsNumber 57 = .ok (.iload_n 3, 1) := by decide +kernel
theorem dX10_skipsNumber_58 : decode cX10_skipsNumber 58 = .ok (.ifCond .eq 40, 3) := by decide +kernel
theorem dX10_skipsNumber_61 : decode cX10_skipsNumber 61 = .ok (.iload 4, 2) := by decide +kernel
theorem dX10_skipsNumber_63 : decode cX10_skipsNumber 63 = .ok (.aload_n 0, 1) := by decide +kernel
theorem dX10_skipsNumber_64 : decode cX10_skipsNumber 64 = .ok (.getfield 173, 3) := by decide +kernel
theorem dX10_skipsNumber_67 : decode cX10_skipsNumber 67 = .ok (.if_icmp .ge 31, 3) := by decide +kernel
theorem dX10_skipsNumber_70 : decode cX10_skipsNumber 70 = .ok (.aload_n 0, 1) := by decide +kernel
theorem dX10_skipsNumber_71 : decode cX10_skipsNumber 71 = .ok (.bipush 10, 2) := by decide +kernel
theorem dX10_skipsNumber_73 : decode cX10_skipsNumber 73 = .ok (.aload_n 0, 1) := by decide +kernel
theorem dX10_skipsNumber_74 : decode cX10_skipsNumber 74 = .ok (.getfield 183, 3) := by decide +kernel
theorem dX10_skipsNumber_77 : decode cX10_skipsNumber 77 = .ok (.imul, 1) := by decide +kernel
theorem dX10_skipsNumber_78 : decode cX10_skipsNumber 78 = .ok (.aload_n 0, 1) := by decide +kernel
theorem dX10_skipsNumber_79 : decode cX10_skipsNumber 79 = .ok (.getfield 35, 3) := by decide +kernel
theorem dX10_skipsNumber_82 : decode cX10_skipsNumber 82 = .ok (.iload 4, 2) := by decide +kernel
theorem dX10_skipsNumber_84 : decode cX10_skipsNumber 84 = .ok (.iaload, 1) := by decide +kernel
theorem dX10_skipsNumber_85 : decode cX10_skipsNumber 85 = .ok (.iadd, 1) := by decide +kernel
theorem dX10_skipsNumber_86 : decode cX10_skipsNumber 86 = .ok (.bipush 48, 2) := by decide +kernel
theorem dX10_skipsNumber_88 : decode cX10_skipsNumber 88 = .ok (.isub, 1) := by decide +kernel
theorem dX10_skipsNumber_89 : decode cX10_skipsNumber 89 = .ok (.putfield 183, 3) := by decide +kernel
theorem dX10_skipsNumber_92 : decode cX10_skipsNumber 92 = .ok (.iinc 4 1, 3) := by decide +kernel
theorem dX10_skipsNumber_95 : decode cX10_skipsNumber 95 = .ok (.goto (-38), 3) := by decide +kernel
theorem dX10_skipsNumber_98 : decode cX10_skipsNumber 98 = .ok (.iload_n 3, 1) := by decide +kernel
theorem dX10_skipsNumber_99 : decode cX10_skipsNumber 99 = .ok (.ifCond .eq 22, 3) := by decide +kernel
theorem dX10_skipsNumber_102 : decode cX10_skipsNumber 102 = .ok (.aload_n 0, 1) := by decide +kernel
theorem dX10_skipsNumber_103 : decode cX10_skipsNumber 103 = .ok (.getfield 183, 3) := by decide +kernel
theorem dX10_skipsNumber_106 : decode cX10_skipsNumber 106 = .ok (.i2l, 1) := by decide +kernel
theorem dX10_skipsNumber_107 : decode cX10_skipsNumber 107 = .ok (.iload_n 1, 1) := by decide +kernel
theorem dX10_skipsNumber_108 : decode cX10_skipsNumber 108 = .ok (.i2l, 1) := by decide +kernel
theorem dX10_skipsNumber_109 : decode cX10_skipsNumber 109 = .ok (.iload_n 2, 1) := by decide +kernel
theorem dX10_skipsNumber_110 : decode cX10_skipsNumber 110 = .ok (.i2l, 1) := by decide +kernel
theorem dX10_skipsNumber_111 : decode cX10_skipsNumber 111 = .ok (.invokestatic 121, 3) := by decide +kernel
theorem dX10_skipsNumber_114 : decode cX10_skipsNumber 114 = .ok (.ifCond .eq 7, 3) := by decide +kernel
theorem dX10_skipsNumber_117 : decode cX10_skipsNumber 117 = .ok (.iconst 1, 1) := by decide +kernel
theorem dX10_skipsNumber_118 : decode cX10_skipsNumber 118 = .ok (.goto 4, 3) := by decide +kernel
theorem dX10_skipsNumber_121 : decode cX10_skipsNumber 121 = .ok (.iconst 0, 1) := by decide +kernel
theorem dX10_skipsNumber_122 : decode cX10_skipsNumber 122 = .ok (.istore_n 3, 1) := by decide +kernel
theorem dX10_skipsNumber_123 : decode cX10_skipsNumber 123 = .ok (.iload_n 3, 1) := by decide +kernel
theorem dX10_skipsNumber_124 : decode cX10_skipsNumber 124 = .ok (.ifCond .eq 7, 3) := by decide +kernel
theorem dX10_skipsNumber_127 : decode cX10_skipsNumber 127 = .ok (.aload_n 0, 1) := by decide +kernel
theorem dX10_skipsNumber_128 : decode cX10_skipsNumber 128 = .ok (.invokevirtual 180, 3) := by decide +kernel
theorem dX10_skipsNumber_131 : decode cX10_skipsNumber 131 = .ok (.iload_n 3, 1) := by decide +kernel
theorem dX10_skipsNumber_132 : decode cX10_skipsNumber 132 = .ok (.ireturn, 1) := by decide +kernel
theorem dX10_readsLife_0 : decode cX10_readsLife 0 = .ok (.bipush 48, 2) := by decide +kernel
theorem dX10_readsLife_2 : decode cX10_readsLife 2 = .ok (.aload_n 0, 1) := by decide +kernel
theorem dX10_readsLife_3 : decode cX10_readsLife 3 = .ok (.getfield 186, 3) := by decide +kernel
theorem dX10_readsLife_6 : decode cX10_readsLife 6 = .ok (.iadd, 1) := by decide +kernel
theorem dX10_readsLife_7 : decode cX10_readsLife 7 = .ok (.istore_n 1, 1) := by decide +kernel
theorem dX10_readsLife_8 : decode cX10_readsLife 8 = .ok (.aload_n 0, 1) := by decide +kernel
theorem dX10_readsLife_9 : decode cX10_readsLife 9 = .ok (.sipush 641, 3) := by decide +kernel
theorem dX10_readsLife_12 : decode cX10_readsLife 12 = .ok (.iconst 2, 1) := by decide +kernel
theorem dX10_readsLife_13 : decode cX10_readsLife 13 = .ok (.invokevirtual 189, 3) := by decide +kernel
theorem dX10_readsLife_16 : decode cX10_readsLife 16 = .ok (.ifCond .eq 13, 3) := by decide +kernel
theorem dX10_readsLife_19 : decode cX10_readsLife 19 = .ok (.aload_n 0, 1) := by decide +kernel
theorem dX10_readsLife_20 : decode cX10_readsLife 20 = .ok (.iconst 0, 1) := by decide +kernel
theorem dX10_readsLife_21 : decode cX10_readsLife 21 = .ok (.bipush 7, 2) := by decide +kernel
theorem dX10_readsLife_23 : decode cX10_readsLife 23 = .ok (.invokevirtual 192, 3) := by decide +kernel
theorem dX10_readsLife_26 : decode cX10_readsLife 26 = .ok (.ifCond .ne 5, 3) := by decide +kernel
theorem dX10_readsLife_29 : decode cX10_readsLife 29 = .ok (.iconst 0, 1) := by decide +kernel
theorem dX10_readsLife_30 : decode cX10_readsLife 30 = .ok (.ireturn, 1) := by decide +kernel
theorem dX10_readsLife_31 : decode cX10_readsLife 31 = .ok (.aload_n 0, 1) := by decide +kernel
theorem dX10_readsLife_32 : decode cX10_readsLife 32 = .ok (.getfield 41, 3) := by decide +kernel
theorem dX10_readsLife_35 : decode cX10_readsLife 35 = .ok (.iload_n 1, 1) := by decide +kernel
theorem dX10_readsLife_36 : decode cX10_readsLife 36 = .ok (.aload_n 0, 1) := by decide +kernel
theorem dX10_readsLife_37 : decode cX10_readsLife 37 = .ok (.getfield 183, 3) := by decide +kernel
theorem dX10_readsLife_40 : decode cX10_readsLife 40 = .ok (.iastore, 1) := by decide +kernel
theorem dX10_readsLife_41 : decode cX10_readsLife 41 = .ok (.aload_n 0, 1) := by decide +kernel
theorem dX10_readsLife_42 : decode cX10_readsLife 42 = .ok (.ldc 195, 2) := by decide +kernel
theorem dX10_readsLife_44 : decode cX10_readsLife 44 = .ok (.iconst 4, 1) := by decide +kernel
theorem dX10_readsLife_45 : decode cX10_readsLife 45 = .ok (.invokevirtual 189, 3) := by decide +kernel
theorem dX10_readsLife_48 : decode cX10_readsLife 48 = .ok (.ifCond .eq 13, 3) := by decide +kernel
theorem dX10_readsLife_51 : decode cX10_readsLife 51 = .ok (.aload_n 0, 1) := by decide +kernel
theorem dX10_readsLife_52 : decode cX10_readsLife 52 = .ok (.iconst 0, 1) := by decide +kernel
theorem dX10_readsLife_53 : decode cX10_readsLife 53 = .ok (.bipush 60, 2) := by decide +kernel
theorem dX10_readsLife_55 : decode cX10_readsLife 55 = .ok (.invokevirtual 192, 3) := by decide +kernel
theorem dX10_readsLife_58 : decode cX10_readsLife 58 = .ok (.ifCond .ne 5, 3) := by decide +kernel
theorem dX10_readsLife_61 : decode cX10_readsLife 61 = .ok (.iconst 0, 1) := by decide +kernel
theorem dX10_readsLife_62 : decode cX10_readsLife 62 = .ok (.ireturn, 1) := by decide +kernel
theorem dX10_readsLife_63 : decode cX10_readsLife 63 = .ok (.aload_n 0, 1) := by decide +kernel
theorem dX10_readsLife_64 : decode cX10_readsLife 64 = .ok (.getfield 44, 3) := by decide +kernel
theorem dX10_readsLife_67 : decode cX10_readsLife 67 = .ok (.iload_n 1, 1) := by decide +kernel
theorem dX10_readsLife_68 : decode cX10_readsLife 68 = .ok (.aload_n 0, 1) := by decide +kernel
theorem dX10_readsLife_69 : decode cX10_readsLife 69 = .ok (.getfield 183, 3) := by decide +kernel
theorem dX10_readsLife_72 : decode cX10_readsLife 72 = .ok (.iastore, 1) := by decide +kernel
theorem dX10_readsLife_73 : decode cX10_readsLife 73 = .ok (.aload_n 0, 1) := by decide +kernel
theorem dX10_readsLife_74 : decode cX10_readsLife 74 = .ok (.sipush 500, 3) := by decide +kernel
theorem dX10_readsLife_77 : decode cX10_readsLife 77 = .ok (.iconst 2, 1) := by decide +kernel
theorem dX10_readsLife_78 : decode cX10_readsLife 78 = .ok (.invokevirtual 189, 3) := by decide +kernel
theorem dX10_readsLife_81 : decode cX10_readsLife 81 = .ok (.ifCond .eq 18, 3) := by decide +kernel
theorem dX10_readsLife_84 : decode cX10_readsLife 84 = .ok (.aload_n 0, 1) := by decide +kernel
theorem dX10_readsLife_85 : decode cX10_readsLife 85 = .ok (.aload_n 0, 1) := by decide +kernel
theorem dX10_readsLife_86 : decode cX10_readsLife 86 = .ok (.getfield 44, 3) := by decide +kernel
theorem dX10_readsLife_89 : decode cX10_readsLife 89 = .ok (.iload_n 1, 1) := by decide +kernel
theorem dX10_readsLife_90 : decode cX10_readsLife 90 = .ok (.iaload, 1) := by decide +kernel
theorem dX10_readsLife_91 : decode cX10_readsLife 91 = .ok (.bipush 60, 2) := by decide +kernel
theorem dX10_readsLife_93 : decode cX10_readsLife 93 = .ok (.invokevirtual 192, 3) := by decide +kernel
theorem dX10_readsLife_96 : decode cX10_readsLife 96 = .ok (.ifCond .ne 5, 3) := by decide +kernel
theorem dX10_readsLife_99 : decode cX10_readsLife 99 = .ok (.iconst 0, 1) := by decide +kernel
theorem dX10_readsLife_100 : decode cX10_readsLife 100 = .ok (.ireturn, 1) := by decide +kernel
theorem dX10_readsLife_101 : decode cX10_readsLife 101 = .ok (.aload_n 0, 1) := by decide +kernel
theorem dX10_readsLife_102 : decode cX10_readsLife 102 = .ok (.getfield 47, 3) := by decide +kernel
theorem dX10_readsLife_105 : decode cX10_readsLife 105 = .ok (.iload_n 1, 1) := by decide +kernel
theorem dX10_readsLife_106 : decode cX10_readsLife 106 = .ok (.aload_n 0, 1) := by decide +kernel
theorem dX10_readsLife_107 : decode cX10_readsLife 107 = .ok (.getfield 183, 3) := by decide +kernel
theorem dX10_readsLife_110 : decode cX10_readsLife 110 = .ok (.iastore, 1) := by decide +kernel
theorem dX10_readsLife_111 : decode cX10_readsLife 111 = .ok (.aload_n 0, 1) := by decide +kernel
theorem dX10_readsLife_112 : decode cX10_readsLife 112 = .ok (.dup, 1) := by decide +kernel
theorem dX10_readsLife_113 : decode cX10_readsLife 113 = .ok (.getfield 186, 3) := by decide +kernel
theorem dX10_readsLife_116 : decode cX10_readsLife 116 = .ok (.iconst 1, 1) := by decide +kernel
theorem dX10_readsLife_117 : decode cX10_readsLife 117 = .ok (.iadd, 1) := by decide +kernel
theorem dX10_readsLife_118 : decode cX10_readsLife 118 = .ok (.putfield 186, 3) := by decide +kernel
theorem dX10_readsLife_121 : decode cX10_readsLife 121 = .ok (.iconst 1, 1) := by decide +kernel
theorem dX10_readsLife_122 : decode cX10_readsLife 122 = .ok (.ireturn, 1) := by decide +kernel
theorem dX10_readsTable_0 : decode cX10_readsTable 0 = .ok (.aload_n 0, 1) := by decide +kernel
theorem dX10_readsTable_1 : decode cX10_readsTable 1 = .ok (.ldc 196, 2) := by decide +kernel
theorem dX10_readsTable_3 : decode cX10_readsTable 3 = .ok (.iconst 5, 1) := by decide +kernel
theorem dX10_readsTable_4 : decode cX10_readsTable 4 = .ok (.invokevirtual 176, 3) := by decide +kernel
theorem dX10_readsTable_7 : decode cX10_readsTable 7 = .ok (.ifCond .eq 7, 3) := by decide +kernel
theorem dX10_readsTable_10 : decode cX10_readsTable 10 = .ok (.iconst 0, 1) := by decide +kernel
theorem dX10_readsTable_11 : decode cX10_readsTable 11 = .ok (.goto 74, 3) := by decide +kernel
theorem dX10_readsTable_14 : decode cX10_readsTable 14 = .ok (.aload_n 0, 1) := by decide +kernel
theorem dX10_readsTable_15 : decode cX10_readsTable 15 = .ok (.ldc 197, 2) := by decide +kernel
theorem dX10_readsTable_17 : decode cX10_readsTable 17 = .ok (.iconst 5, 1) := by decide +kernel
theorem dX10_readsTable_18 : decode cX10_readsTable 18 = .ok (.invokevirtual 176, 3) := by decide +kernel
theorem dX10_readsTable_21 : decode cX10_readsTable 21 = .ok (.ifCond .eq 7, 3) := by decide +kernel
theorem dX10_readsTable_24 : decode cX10_readsTable 24 = .ok (.iconst 1, 1) := by decide +kernel
theorem dX10_readsTable_25 : decode cX10_readsTable 25 = .ok (.goto 60, 3) := by decide +kernel
theorem dX10_readsTable_28 : decode cX10_readsTable 28 = .ok (.aload_n 0, 1) := by decide +kernel
theorem dX10_readsTable_29 : decode cX10_readsTable 29 = .ok (.ldc 198, 2) := by decide +kernel
theorem dX10_readsTable_31 : decode cX10_readsTable 31 = .ok (.iconst 5, 1) := by decide +kernel
theorem dX10_readsTable_32 : decode cX10_readsTable 32 = .ok (.invokevirtual 176, 3) := by decide +kernel
theorem dX10_readsTable_35 : decode cX10_readsTable 35 = .ok (.ifCond .eq 7, 3) := by decide +kernel
theorem dX10_readsTable_38 : decode cX10_readsTable 38 = .ok (.iconst 2, 1) := by decide +kernel
theorem dX10_readsTable_39 : decode cX10_readsTable 39 = .ok (.goto 46, 3) := by decide +kernel
theorem dX10_readsTable_42 : decode cX10_readsTable 42 = .ok (.aload_n 0, 1) := by decide +kernel
theorem dX10_readsTable_43 : decode cX10_readsTable 43 = .ok (.ldc 199, 2) := by decide +kernel
theorem dX10_readsTable_45 : decode cX10_readsTable 45 = .ok (.iconst 4, 1) := by decide +kernel
theorem dX10_readsTable_46 : decode cX10_readsTable 46 = .ok (.invokevirtual 176, 3) := by decide +kernel
theorem dX10_readsTable_49 : decode cX10_readsTable 49 = .ok (.ifCond .eq 7, 3) := by decide +kernel
theorem dX10_readsTable_52 : decode cX10_readsTable 52 = .ok (.iconst 3, 1) := by decide +kernel
theorem dX10_readsTable_53 : decode cX10_readsTable 53 = .ok (.goto 32, 3) := by decide +kernel
theorem dX10_readsTable_56 : decode cX10_readsTable 56 = .ok (.aload_n 0, 1) := by decide +kernel
theorem dX10_readsTable_57 : decode cX10_readsTable 57 = .ok (.ldc 200, 2) := by decide +kernel
theorem dX10_readsTable_59 : decode cX10_readsTable 59 = .ok (.iconst 5, 1) := by decide +kernel
theorem dX10_readsTable_60 : decode cX10_readsTable 60 = .ok (.invokevirtual 176, 3) := by decide +kernel
theorem dX10_readsTable_63 : decode cX10_readsTable 63 = .ok (.ifCond .eq 7, 3) := by decide +kernel
theorem dX10_readsTable_66 : decode cX10_readsTable 66 = .ok (.iconst 4, 1) := by decide +kernel
theorem dX10_readsTable_67 : decode cX10_readsTable 67 = .ok (.goto 18, 3) := by decide +kernel
theorem dX10_readsTable_70 : decode cX10_readsTable 70 = .ok (.aload_n 0, 1) := by decide +kernel
theorem dX10_readsTable_71 : decode cX10_readsTable 71 = .ok (.ldc 201, 2) := by decide +kernel
theorem dX10_readsTable_73 : decode cX10_readsTable 73 = .ok (.iconst 4, 1) := by decide +kernel
theorem dX10_readsTable_74 : decode cX10_readsTable 74 = .ok (.invokevirtual 176, 3) := by decide +kernel
theorem dX10_readsTable_77 : decode cX10_readsTable 77 = .ok (.ifCond .eq 7, 3) := by decide +kernel
theorem dX10_readsTable_80 : decode cX10_readsTable 80 = .ok (.iconst 5, 1) := by decide +kernel
theorem dX10_readsTable_81 : decode cX10_readsTable 81 = .ok (.goto 4, 3) := by decide +kernel
theorem dX10_readsTable_84 : decode cX10_readsTable 84 = .ok (.iconst (-1), 1) := by decide +kernel
theorem dX10_readsTable_85 : decode cX10_readsTable 85 = .ok (.istore_n 1, 1) := by decide +kernel
theorem dX10_readsTable_86 : decode cX10_readsTable 86 = .ok (.iload_n 1, 1) := by decide +kernel
theorem dX10_readsTable_87 : decode cX10_readsTable 87 = .ok (.iconst (-1), 1) := by decide +kernel
theorem dX10_readsTable_88 : decode cX10_readsTable 88 = .ok (.if_icmp .ne 5, 3) := by decide +kernel
theorem dX10_readsTable_91 : decode cX10_readsTable 91 = .ok (.iconst 0, 1) := by decide +kernel
theorem dX10_readsTable_92 : decode cX10_readsTable 92 = .ok (.ireturn, 1) := by decide +kernel
theorem dX10_readsTable_93 : decode cX10_readsTable 93 = .ok (.aload_n 0, 1) := by decide +kernel
theorem dX10_readsTable_94 : decode cX10_readsTable 94 = .ok (.invokevirtual 180, 3) := by decide +kernel
theorem dX10_readsTable_97 : decode cX10_readsTable 97 = .ok (.aload_n 0, 1) := by decide +kernel
theorem dX10_readsTable_98 : decode cX10_readsTable 98 = .ok (.iconst 0, 1) := by decide +kernel
theorem dX10_readsTable_99 : decode cX10_readsTable 99 = .ok (.bipush 99, 2) := by decide +kernel
theorem dX10_readsTable_101 : decode cX10_readsTable 101 = .ok (.invokevirtual 192, 3) := by decide +kernel
theorem dX10_readsTable_104 : decode cX10_readsTable 104 = .ok (.ifCond .ne 5, 3) := by decide +kernel
theorem dX10_readsTable_107 : decode cX10_readsTable 107 = .ok (.iconst 0, 1) := by decide +kernel
theorem dX10_readsTable_108 : decode cX10_readsTable 108 = .ok (.ireturn, 1) := by decide +kernel
theorem dX10_readsTable_109 : decode cX10_readsTable 109 = .ok (.aload_n 0, 1) := by decide +kernel
theorem dX10_readsTable_110 : decode cX10_readsTable 110 = .ok (.getfield 50, 3) := by decide +kernel
theorem dX10_readsTable_113 : decode cX10_readsTable 113 = .ok (.bipush 12, 2) := by decide +kernel
theorem dX10_readsTable_115 : decode cX10_readsTable 115 = .ok (.iload_n 1, 1) := by decide +kernel
theorem dX10_readsTable_116 : decode cX10_readsTable 116 = .ok (.iadd, 1) := by decide +kernel
theorem dX10_readsTable_117 : decode cX10_readsTable 117 = .ok (.aload_n 0, 1) := by decide +kernel
theorem dX10_readsTable_118 : decode cX10_readsTable 118 = .ok (.getfield 183, 3) := by decide +kernel
theorem dX10_readsTable_121 : decode cX10_readsTable 121 = .ok (.iastore, 1) := by decide +kernel
theorem dX10_readsTable_122 : decode cX10_readsTable 122 = .ok (.aload_n 0, 1) := by decide +kernel
theorem dX10_readsTable_123 : decode cX10_readsTable 123 = .ok (.dup, 1) := by decide +kernel
theorem dX10_readsTable_124 : decode cX10_readsTable 124 = .ok (.getfield 186, 3) := by decide +kernel
theorem dX10_readsTable_127 : decode cX10_readsTable 127 = .ok (.iconst 1, 1) := by decide +kernel
theorem dX10_readsTable_128 : decode cX10_readsTable 128 = .ok (.iadd, 1) := by decide +kernel
theorem dX10_readsTable_129 : decode cX10_readsTable 129 = .ok (.putfield 186, 3) := by decide +kernel
theorem dX10_readsTable_132 : decode cX10_readsTable 132 = .ok (.iconst 1, 1) := by decide +kernel
theorem dX10_readsTable_133 : decode cX10_readsTable 133 = .ok (.ireturn, 1) := by decide +kernel
theorem dX10_readsOne_0 : decode cX10_readsOne 0 = .ok (.iload_n 1, 1) := by decide +kernel
theorem dX10_readsOne_1 : decode cX10_readsOne 1 = .ok (.ifCond .ne 10, 3) := by decide +kernel
theorem dX10_readsOne_4 : decode cX10_readsOne 4 = .ok (.aload_n 0, 1) := by decide +kernel
theorem dX10_readsOne_5 : decode cX10_readsOne 5 = .ok (.invokevirtual 202, 3) := by decide +kernel
theorem dX10_readsOne_8 : decode cX10_readsOne 8 = .ok (.goto 7, 3) := by decide +kernel
theorem dX10_readsOne_11 : decode cX10_readsOne 11 = .ok (.aload_n 0, 1) := by decide +kernel
theorem dX10_readsOne_12 : decode cX10_readsOne 12 = .ok (.invokevirtual 206, 3) := by decide +kernel
theorem dX10_readsOne_15 : decode cX10_readsOne 15 = .ok (.ireturn, 1) := by decide +kernel
theorem dX10_faultAs_0 : decode cX10_faultAs 0 = .ok (.aload_n 0, 1) := by decide +kernel
theorem dX10_faultAs_1 : decode cX10_faultAs 1 = .ok (.iconst 0, 1) := by decide +kernel
theorem dX10_faultAs_2 : decode cX10_faultAs 2 = .ok (.putfield 163, 3) := by decide +kernel
theorem dX10_faultAs_5 : decode cX10_faultAs 5 = .ok (.aload_n 0, 1) := by decide +kernel
theorem dX10_faultAs_6 : decode cX10_faultAs 6 = .ok (.iconst 0, 1) := by decide +kernel
theorem dX10_faultAs_7 : decode cX10_faultAs 7 = .ok (.putfield 186, 3) := by decide +kernel
theorem dX10_faultAs_10 : decode cX10_faultAs 10 = .ok (.bipush 12, 2) := by decide +kernel
theorem dX10_faultAs_12 : decode cX10_faultAs 12 = .ok (.istore_n 2, 1) := by decide +kernel
theorem dX10_faultAs_13 : decode cX10_faultAs 13 = .ok (.iload_n 2, 1) := by decide +kernel
theorem dX10_faultAs_14 : decode cX10_faultAs 14 = .ok (.bipush 18, 2) := by decide +kernel
theorem dX10_faultAs_16 : decode cX10_faultAs 16 = .ok (.if_icmp .ge 60, 3) := by decide +kernel
theorem dX10_faultAs_19 : decode cX10_faultAs 19 = .ok (.aload_n 0, 1) := by decide +kernel
theorem dX10_faultAs_20 : decode cX10_faultAs 20 = .ok (.getfield 50, 3) := by decide +kernel
theorem dX10_faultAs_23 : decode cX10_faultAs 23 = .ok (.iload_n 2, 1) := by decide +kernel
theorem dX10_faultAs_24 : decode cX10_faultAs 24 = .ok (.iload_n 2, 1) := by decide +kernel
theorem dX10_faultAs_25 : decode cX10_faultAs 25 = .ok (.bipush 12, 2) := by decide +kernel
theorem dX10_faultAs_27 : decode cX10_faultAs 27 = .ok (.if_icmp .ne 8, 3) := by decide +kernel
theorem dX10_faultAs_30 : decode cX10_faultAs 30 = .ok (.bipush 50, 2) := by decide +kernel
theorem dX10_faultAs_32 : decode cX10_faultAs 32 = .ok (.goto 37, 3) := by decide +kernel
theorem dX10_faultAs_35 : decode cX10_faultAs 35 = .ok (.iload_n 2, 1) := by decide +kernel
theorem dX10_faultAs_36 : decode cX10_faultAs 36 = .ok (.bipush 13, 2) := by decide +kernel
theorem dX10_faultAs_38 : decode cX10_faultAs 38 = .ok (.if_icmp .ne 8, 3) := by decide +kernel
theorem dX10_faultAs_41 : decode cX10_faultAs 41 = .ok (.bipush 10, 2) := by decide +kernel
theorem dX10_faultAs_43 : decode cX10_faultAs 43 = .ok (.goto 26, 3) := by decide +kernel
theorem dX10_faultAs_46 : decode cX10_faultAs 46 = .ok (.iload_n 2, 1) := by decide +kernel
theorem dX10_faultAs_47 : decode cX10_faultAs 47 = .ok (.bipush 14, 2) := by decide +kernel
theorem dX10_faultAs_49 : decode cX10_faultAs 49 = .ok (.if_icmp .ne 8, 3) := by decide +kernel
theorem dX10_faultAs_52 : decode cX10_faultAs 52 = .ok (.bipush 30, 2) := by decide +kernel
theorem dX10_faultAs_54 : decode cX10_faultAs 54 = .ok (.goto 15, 3) := by decide +kernel
theorem dX10_faultAs_57 : decode cX10_faultAs 57 = .ok (.iload_n 2, 1) := by decide +kernel
theorem dX10_faultAs_58 : decode cX10_faultAs 58 = .ok (.bipush 17, 2) := by decide +kernel
theorem dX10_faultAs_60 : decode cX10_faultAs 60 = .ok (.if_icmp .ne 8, 3) := by decide +kernel
theorem dX10_faultAs_63 : decode cX10_faultAs 63 = .ok (.bipush 40, 2) := by decide +kernel
theorem dX10_faultAs_65 : decode cX10_faultAs 65 = .ok (.goto 4, 3) := by decide +kernel
theorem dX10_faultAs_68 : decode cX10_faultAs 68 = .ok (.iconst 0, 1) := by decide +kernel
theorem dX10_faultAs_69 : decode cX10_faultAs 69 = .ok (.iastore, 1) := by decide +kernel
theorem dX10_faultAs_70 : decode cX10_faultAs 70 = .ok (.iinc 2 1, 3) := by decide +kernel
theorem dX10_faultAs_73 : decode cX10_faultAs 73 = .ok (.goto (-60), 3) := by decide +kernel
theorem dX10_faultAs_76 : decode cX10_faultAs 76 = .ok (.aload_n 0, 1) := by decide +kernel
theorem dX10_faultAs_77 : decode cX10_faultAs 77 = .ok (.invokevirtual 180, 3) := by decide +kernel
theorem dX10_faultAs_80 : decode cX10_faultAs 80 = .ok (.aload_n 0, 1) := by decide +kernel
theorem dX10_faultAs_81 : decode cX10_faultAs 81 = .ok (.iload_n 1, 1) := by decide +kernel
theorem dX10_faultAs_82 : decode cX10_faultAs 82 = .ok (.invokevirtual 209, 3) := by decide +kernel
theorem dX10_faultAs_85 : decode cX10_faultAs 85 = .ok (.ifCond .ne 8, 3) := by decide +kernel
theorem dX10_faultAs_88 : decode cX10_faultAs 88 = .ok (.aload_n 0, 1) := by decide +kernel
theorem dX10_faultAs_89 : decode cX10_faultAs 89 = .ok (.getfield 166, 3) := by decide +kernel
theorem dX10_faultAs_92 : decode cX10_faultAs 92 = .ok (.ireturn, 1) := by decide +kernel
theorem dX10_faultAs_93 : decode cX10_faultAs 93 = .ok (.aload_n 0, 1) := by decide +kernel
theorem dX10_faultAs_94 : decode cX10_faultAs 94 = .ok (.getfield 166, 3) := by decide +kernel
theorem dX10_faultAs_97 : decode cX10_faultAs 97 = .ok (.aload_n 0, 1) := by decide +kernel
theorem dX10_faultAs_98 : decode cX10_faultAs 98 = .ok (.getfield 160, 3) := by decide +kernel
theorem dX10_faultAs_101 : decode cX10_faultAs 101 = .ok (.if_icmp .ge 71, 3) := by decide +kernel
theorem dX10_faultAs_104 : decode cX10_faultAs 104 = .ok (.aload_n 0, 1) := by decide +kernel
theorem dX10_faultAs_105 : decode cX10_faultAs 105 = .ok (.getfield 173, 3) := by decide +kernel
theorem dX10_faultAs_108 : decode cX10_faultAs 108 = .ok (.aload_n 0, 1) := by decide +kernel
theorem dX10_faultAs_109 : decode cX10_faultAs 109 = .ok (.getfield 166, 3) := by decide +kernel
theorem dX10_faultAs_112 : decode cX10_faultAs 112 = .ok (.isub, 1) := by decide +kernel
theorem dX10_faultAs_113 : decode cX10_faultAs 113 = .ok (.iconst 1, 1) := by decide +kernel
theorem dX10_faultAs_114 : decode cX10_faultAs 114 = .ok (.if_icmp .ne 30, 3) := by decide +kernel
theorem dX10_faultAs_117 : decode cX10_faultAs 117 = .ok (.aload_n 0, 1) := by decide +kernel
theorem dX10_faultAs_118 : decode cX10_faultAs 118 = .ok (.getfield 35, 3) := by decide +kernel
theorem dX10_faultAs_121 : decode cX10_faultAs 121 = .ok (.aload_n 0, 1) := by decide +kernel
theorem dX10_faultAs_122 : decode cX10_faultAs 122 = .ok (.getfield 166, 3) := by decide +kernel
theorem dX10_faultAs_125 : decode cX10_faultAs 125 = .ok (.iaload, 1) := by decide +kernel
theorem dX10_faultAs_126 : decode cX10_faultAs 126 = .ok (.bipush 59, 2) := by decide +kernel
theorem dX10_faultAs_128 : decode cX10_faultAs 128 = .ok (.if_icmp .ne 16, 3) := by decide +kernel
theorem dX10_faultAs_131 : decode cX10_faultAs 131 = .ok (.aload_n 0, 1) := by decide +kernel
theorem dX10_faultAs_132 : decode cX10_faultAs 132 = .ok (.getfield 186, 3) := by decide +kernel
theorem dX10_faultAs_135 : decode cX10_faultAs 135 = .ok (.bipush 8, 2) := by decide +kernel
theorem dX10_faultAs_137 : decode cX10_faultAs 137 = .ok (.if_icmp .ge 7, 3) := by decide +kernel
theorem dX10_faultAs_140 : decode cX10_faultAs 140 = .ok (.iconst 1, 1) := by decide +kernel
theorem dX10_faultAs_141 : decode cX10_faultAs 141 = .ok (.goto 4, 3) := by decide +kernel
theorem dX10_faultAs_144 : decode cX10_faultAs 144 = .ok (.iconst 0, 1) := by decide +kernel
theorem dX10_faultAs_145 : decode cX10_faultAs 145 = .ok (.istore_n 2, 1) := by decide +kernel
theorem dX10_faultAs_146 : decode cX10_faultAs 146 = .ok (.iload_n 2, 1) := by decide +kernel
theorem dX10_faultAs_147 : decode cX10_faultAs 147 = .ok (.ifCond .eq 13, 3) := by decide +kernel
theorem dX10_faultAs_150 : decode cX10_faultAs 150 = .ok (.aload_n 0, 1) := by decide +kernel
theorem dX10_faultAs_151 : decode cX10_faultAs 151 = .ok (.invokevirtual 180, 3) := by decide +kernel
theorem dX10_faultAs_154 : decode cX10_faultAs 154 = .ok (.aload_n 0, 1) := by decide +kernel
theorem dX10_faultAs_155 : decode cX10_faultAs 155 = .ok (.iload_n 1, 1) := by decide +kernel
theorem dX10_faultAs_156 : decode cX10_faultAs 156 = .ok (.invokevirtual 209, 3) := by decide +kernel
theorem dX10_faultAs_159 : decode cX10_faultAs 159 = .ok (.istore_n 2, 1) := by decide +kernel
theorem dX10_faultAs_160 : decode cX10_faultAs 160 = .ok (.iload_n 2, 1) := by decide +kernel
theorem dX10_faultAs_161 : decode cX10_faultAs 161 = .ok (.ifCond .ne 8, 3) := by decide +kernel
theorem dX10_faultAs_164 : decode cX10_faultAs 164 = .ok (.aload_n 0, 1) := by decide +kernel
theorem dX10_faultAs_165 : decode cX10_faultAs 165 = .ok (.getfield 166, 3) := by decide +kernel
theorem dX10_faultAs_168 : decode cX10_faultAs 168 = .ok (.ireturn, 1) := by decide +kernel
theorem dX10_faultAs_169 : decode cX10_faultAs 169 = .ok (.goto (-76), 3) := by decide +kernel
theorem dX10_faultAs_172 : decode cX10_faultAs 172 = .ok (.iconst (-1), 1) := by decide +kernel
theorem dX10_faultAs_173 : decode cX10_faultAs 173 = .ok (.ireturn, 1) := by decide +kernel
theorem dX10_fault_0 : decode cX10_fault 0 = .ok (.iload_n 1, 1) := by decide +kernel
theorem dX10_fault_1 : decode cX10_fault 1 = .ok (.i2l, 1) := by decide +kernel
theorem dX10_fault_2 : decode cX10_fault 2 = .ok (.lconst 0, 1) := by decide +kernel
theorem dX10_fault_3 : decode cX10_fault 3 = .ok (.lconst 1, 1) := by decide +kernel
theorem dX10_fault_4 : decode cX10_fault 4 = .ok (.invokestatic 121, 3) := by decide +kernel
theorem dX10_fault_7 : decode cX10_fault 7 = .ok (.ifCond .eq 11, 3) := by decide +kernel
theorem dX10_fault_10 : decode cX10_fault 10 = .ok (.aload_n 0, 1) := by decide +kernel
theorem dX10_fault_11 : decode cX10_fault 11 = .ok (.iload_n 1, 1) := by decide +kernel
theorem dX10_fault_12 : decode cX10_fault 12 = .ok (.invokevirtual 212, 3) := by decide +kernel
theorem dX10_fault_15 : decode cX10_fault 15 = .ok (.goto 5, 3) := by decide +kernel
theorem dX10_fault_18 : decode cX10_fault 18 = .ok (.bipush (-3), 2) := by decide +kernel
theorem dX10_fault_20 : decode cX10_fault 20 = .ok (.ireturn, 1) := by decide +kernel
theorem dX10_life_0 : decode cX10_life 0 = .ok (.iload_n 1, 1) := by decide +kernel
theorem dX10_life_1 : decode cX10_life 1 = .ok (.invokestatic 155, 3) := by decide +kernel
theorem dX10_life_4 : decode cX10_life 4 = .ok (.ifCond .ne 6, 3) := by decide +kernel
theorem dX10_life_7 : decode cX10_life 7 = .ok (.bipush (-2), 2) := by decide +kernel
theorem dX10_life_9 : decode cX10_life 9 = .ok (.ireturn, 1) := by decide +kernel
theorem dX10_life_10 : decode cX10_life 10 = .ok (.aload_n 0, 1) := by decide +kernel
theorem dX10_life_11 : decode cX10_life 11 = .ok (.iconst 0, 1) := by decide +kernel
theorem dX10_life_12 : decode cX10_life 12 = .ok (.invokevirtual 212, 3) := by decide +kernel
theorem dX10_life_15 : decode cX10_life 15 = .ok (.iconst (-1), 1) := by decide +kernel
theorem dX10_life_16 : decode cX10_life 16 = .ok (.if_icmp .eq 6, 3) := by decide +kernel
theorem dX10_life_19 : decode cX10_life 19 = .ok (.bipush (-4), 2) := by decide +kernel
theorem dX10_life_21 : decode cX10_life 21 = .ok (.ireturn, 1) := by decide +kernel
theorem dX10_life_22 : decode cX10_life 22 = .ok (.aload_n 0, 1) := by decide +kernel
theorem dX10_life_23 : decode cX10_life 23 = .ok (.getfield 38, 3) := by decide +kernel
theorem dX10_life_26 : decode cX10_life 26 = .ok (.iload_n 1, 1) := by decide +kernel
theorem dX10_life_27 : decode cX10_life 27 = .ok (.aload_n 0, 1) := by decide +kernel
theorem dX10_life_28 : decode cX10_life 28 = .ok (.getfield 186, 3) := by decide +kernel
theorem dX10_life_31 : decode cX10_life 31 = .ok (.iastore, 1) := by decide +kernel
theorem dX10_life_32 : decode cX10_life 32 = .ok (.iconst 0, 1) := by decide +kernel
theorem dX10_life_33 : decode cX10_life 33 = .ok (.istore_n 2, 1) := by decide +kernel
theorem dX10_life_34 : decode cX10_life 34 = .ok (.iload_n 2, 1) := by decide +kernel
theorem dX10_life_35 : decode cX10_life 35 = .ok (.aload_n 0, 1) := by decide +kernel
theorem dX10_life_36 : decode cX10_life 36 = .ok (.getfield 186, 3) := by decide +kernel
theorem dX10_life_39 : decode cX10_life 39 = .ok (.if_icmp .ge 69, 3) := by decide +kernel
theorem dX10_life_42 : decode cX10_life 42 = .ok (.aload_n 0, 1) := by decide +kernel
theorem dX10_life_43 : decode cX10_life 43 = .ok (.getfield 41, 3) := by decide +kernel
theorem dX10_life_46 : decode cX10_life 46 = .ok (.bipush 8, 2) := by decide +kernel
theorem dX10_life_48 : decode cX10_life 48 = .ok (.iload_n 1, 1) := by decide +kernel
theorem dX10_life_49 : decode cX10_life 49 = .ok (.imul, 1) := by decide +kernel
theorem dX10_life_50 : decode cX10_life 50 = .ok (.iload_n 2, 1) := by decide +kernel
theorem dX10_life_51 : decode cX10_life 51 = .ok (.iadd, 1) := by decide +kernel
theorem dX10_life_52 : decode cX10_life 52 = .ok (.aload_n 0, 1) := by decide +kernel
theorem dX10_life_53 : decode cX10_life 53 = .ok (.getfield 41, 3) := by decide +kernel
theorem dX10_life_56 : decode cX10_life 56 = .ok (.bipush 48, 2) := by decide +kernel
theorem dX10_life_58 : decode cX10_life 58 = .ok (.iload_n 2, 1) := by decide +kernel
theorem dX10_life_59 : decode cX10_life 59 = .ok (.iadd, 1) := by decide +kernel
theorem dX10_life_60 : decode cX10_life 60 = .ok (.iaload, 1) := by decide +kernel
theorem dX10_life_61 : decode cX10_life 61 = .ok (.iastore, 1) := by decide +kernel
theorem dX10_life_62 : decode cX10_life 62 = .ok (.aload_n 0, 1) := by decide +kernel
theorem dX10_life_63 : decode cX10_life 63 = .ok (.getfield 44, 3) := by decide +kernel
theorem dX10_life_66 : decode cX10_life 66 = .ok (.bipush 8, 2) := by decide +kernel
theorem dX10_life_68 : decode cX10_life 68 = .ok (.iload_n 1, 1) := by decide +kernel
theorem dX10_life_69 : decode cX10_life 69 = .ok (.imul, 1) := by decide +kernel
theorem dX10_life_70 : decode cX10_life 70 = .ok (.iload_n 2, 1) := by decide +kernel
theorem dX10_life_71 : decode cX10_life 71 = .ok (.iadd, 1) := by decide +kernel
theorem dX10_life_72 : decode cX10_life 72 = .ok (.aload_n 0, 1) := by decide +kernel
theorem dX10_life_73 : decode cX10_life 73 = .ok (.getfield 44, 3) := by decide +kernel
theorem dX10_life_76 : decode cX10_life 76 = .ok (.bipush 48, 2) := by decide +kernel
theorem dX10_life_78 : decode cX10_life 78 = .ok (.iload_n 2, 1) := by decide +kernel
theorem dX10_life_79 : decode cX10_life 79 = .ok (.iadd, 1) := by decide +kernel
theorem dX10_life_80 : decode cX10_life 80 = .ok (.iaload, 1) := by decide +kernel
theorem dX10_life_81 : decode cX10_life 81 = .ok (.iastore, 1) := by decide +kernel
theorem dX10_life_82 : decode cX10_life 82 = .ok (.aload_n 0, 1) := by decide +kernel
theorem dX10_life_83 : decode cX10_life 83 = .ok (.getfield 47, 3) := by decide +kernel
theorem dX10_life_86 : decode cX10_life 86 = .ok (.bipush 8, 2) := by decide +kernel
theorem dX10_life_88 : decode cX10_life 88 = .ok (.iload_n 1, 1) := by decide +kernel
theorem dX10_life_89 : decode cX10_life 89 = .ok (.imul, 1) := by decide +kernel
theorem dX10_life_90 : decode cX10_life 90 = .ok (.iload_n 2, 1) := by decide +kernel
theorem dX10_life_91 : decode cX10_life 91 = .ok (.iadd, 1) := by decide +kernel
theorem dX10_life_92 : decode cX10_life 92 = .ok (.aload_n 0, 1) := by decide +kernel
theorem dX10_life_93 : decode cX10_life 93 = .ok (.getfield 47, 3) := by decide +kernel
theorem dX10_life_96 : decode cX10_life 96 = .ok (.bipush 48, 2) := by decide +kernel
theorem dX10_life_98 : decode cX10_life 98 = .ok (.iload_n 2, 1) := by decide +kernel
theorem dX10_life_99 : decode cX10_life 99 = .ok (.iadd, 1) := by decide +kernel
theorem dX10_life_100 : decode cX10_life 100 = .ok (.iaload, 1) := by decide +kernel
theorem dX10_life_101 : decode cX10_life 101 = .ok (.iastore, 1) := by decide +kernel
theorem dX10_life_102 : decode cX10_life 102 = .ok (.iinc 2 1, 3) := by decide +kernel
theorem dX10_life_105 : decode cX10_life 105 = .ok (.goto (-71), 3) := by decide +kernel
theorem dX10_life_108 : decode cX10_life 108 = .ok (.aload_n 0, 1) := by decide +kernel
theorem dX10_life_109 : decode cX10_life 109 = .ok (.iconst 0, 1) := by decide +kernel
theorem dX10_life_110 : decode cX10_life 110 = .ok (.putfield 160, 3) := by decide +kernel
theorem dX10_life_113 : decode cX10_life 113 = .ok (.aload_n 0, 1) := by decide +kernel
theorem dX10_life_114 : decode cX10_life 114 = .ok (.getfield 186, 3) := by decide +kernel
theorem dX10_life_117 : decode cX10_life 117 = .ok (.ireturn, 1) := by decide +kernel
theorem dX10_table_0 : decode cX10_table 0 = .ok (.iload_n 1, 1) := by decide +kernel
theorem dX10_table_1 : decode cX10_table 1 = .ok (.invokestatic 215, 3) := by decide +kernel
theorem dX10_table_4 : decode cX10_table 4 = .ok (.ifCond .ne 6, 3) := by decide +kernel
theorem dX10_table_7 : decode cX10_table 7 = .ok (.bipush (-2), 2) := by decide +kernel
theorem dX10_table_9 : decode cX10_table 9 = .ok (.ireturn, 1) := by decide +kernel
theorem dX10_table_10 : decode cX10_table 10 = .ok (.aload_n 0, 1) := by decide +kernel
theorem dX10_table_11 : decode cX10_table 11 = .ok (.iconst 1, 1) := by decide +kernel
theorem dX10_table_12 : decode cX10_table 12 = .ok (.invokevirtual 212, 3) := by decide +kernel
theorem dX10_table_15 : decode cX10_table 15 = .ok (.iconst (-1), 1) := by decide +kernel
theorem dX10_table_16 : decode cX10_table 16 = .ok (.if_icmp .eq 6, 3) := by decide +kernel
theorem dX10_table_19 : decode cX10_table 19 = .ok (.bipush (-4), 2) := by decide +kernel
theorem dX10_table_21 : decode cX10_table 21 = .ok (.ireturn, 1) := by decide +kernel
theorem dX10_table_22 : decode cX10_table 22 = .ok (.iconst 0, 1) := by decide +kernel
theorem dX10_table_23 : decode cX10_table 23 = .ok (.istore_n 2, 1) := by decide +kernel
theorem dX10_table_24 : decode cX10_table 24 = .ok (.iload_n 2, 1) := by decide +kernel
theorem dX10_table_25 : decode cX10_table 25 = .ok (.bipush 6, 2) := by decide +kernel
theorem dX10_table_27 : decode cX10_table 27 = .ok (.if_icmp .ge 29, 3) := by decide +kernel
theorem dX10_table_30 : decode cX10_table 30 = .ok (.aload_n 0, 1) := by decide +kernel
theorem dX10_table_31 : decode cX10_table 31 = .ok (.getfield 50, 3) := by decide +kernel
theorem dX10_table_34 : decode cX10_table 34 = .ok (.bipush 6, 2) := by decide +kernel
theorem dX10_table_36 : decode cX10_table 36 = .ok (.iload_n 1, 1) := by decide +kernel
theorem dX10_table_37 : decode cX10_table 37 = .ok (.imul, 1) := by decide +kernel
theorem dX10_table_38 : decode cX10_table 38 = .ok (.iload_n 2, 1) := by decide +kernel
theorem dX10_table_39 : decode cX10_table 39 = .ok (.iadd, 1) := by decide +kernel
theorem dX10_table_40 : decode cX10_table 40 = .ok (.aload_n 0, 1) := by decide +kernel
theorem dX10_table_41 : decode cX10_table 41 = .ok (.getfield 50, 3) := by decide +kernel
theorem dX10_table_44 : decode cX10_table 44 = .ok (.bipush 12, 2) := by decide +kernel
theorem dX10_table_46 : decode cX10_table 46 = .ok (.iload_n 2, 1) := by decide +kernel
theorem dX10_table_47 : decode cX10_table 47 = .ok (.iadd, 1) := by decide +kernel
theorem dX10_table_48 : decode cX10_table 48 = .ok (.iaload, 1) := by decide +kernel
theorem dX10_table_49 : decode cX10_table 49 = .ok (.iastore, 1) := by decide +kernel
theorem dX10_table_50 : decode cX10_table 50 = .ok (.iinc 2 1, 3) := by decide +kernel
theorem dX10_table_53 : decode cX10_table 53 = .ok (.goto (-29), 3) := by decide +kernel
theorem dX10_table_56 : decode cX10_table 56 = .ok (.aload_n 0, 1) := by decide +kernel
theorem dX10_table_57 : decode cX10_table 57 = .ok (.iconst 0, 1) := by decide +kernel
theorem dX10_table_58 : decode cX10_table 58 = .ok (.putfield 160, 3) := by decide +kernel
theorem dX10_table_61 : decode cX10_table 61 = .ok (.aload_n 0, 1) := by decide +kernel
theorem dX10_table_62 : decode cX10_table 62 = .ok (.getfield 186, 3) := by decide +kernel
theorem dX10_table_65 : decode cX10_table 65 = .ok (.ireturn, 1) := by decide +kernel
theorem dX10_whereIs_0 : decode cX10_whereIs 0 = .ok (.aload_n 0, 1) := by decide +kernel
theorem dX10_whereIs_1 : decode cX10_whereIs 1 = .ok (.getfield 32, 3) := by decide +kernel
theorem dX10_whereIs_4 : decode cX10_whereIs 4 = .ok (.iload_n 1, 1) := by decide +kernel
theorem dX10_whereIs_5 : decode cX10_whereIs 5 = .ok (.iaload, 1) := by decide +kernel
theorem dX10_whereIs_6 : decode cX10_whereIs 6 = .ok (.istore_n 3, 1) := by decide +kernel
theorem dX10_whereIs_7 : decode cX10_whereIs 7 = .ok (.bipush 8, 2) := by decide +kernel
theorem dX10_whereIs_9 : decode cX10_whereIs 9 = .ok (.iload_n 1, 1) := by decide +kernel
theorem dX10_whereIs_10 : decode cX10_whereIs 10 = .ok (.imul, 1) := by decide +kernel
theorem dX10_whereIs_11 : decode cX10_whereIs 11 = .ok (.istore 4, 2) := by decide +kernel
theorem dX10_whereIs_13 : decode cX10_whereIs 13 = .ok (.iload 4, 2) := by decide +kernel
theorem dX10_whereIs_15 : decode cX10_whereIs 15 = .ok (.bipush 8, 2) := by decide +kernel
theorem dX10_whereIs_17 : decode cX10_whereIs 17 = .ok (.iload_n 1, 1) := by decide +kernel
theorem dX10_whereIs_18 : decode cX10_whereIs 18 = .ok (.imul, 1) := by decide +kernel
theorem dX10_whereIs_19 : decode cX10_whereIs 19 = .ok (.aload_n 0, 1) := by decide +kernel
theorem dX10_whereIs_20 : decode cX10_whereIs 20 = .ok (.getfield 38, 3) := by decide +kernel
theorem dX10_whereIs_23 : decode cX10_whereIs 23 = .ok (.iload_n 1, 1) := by decide +kernel
theorem dX10_whereIs_24 : decode cX10_whereIs 24 = .ok (.iaload, 1) := by decide +kernel
theorem dX10_whereIs_25 : decode cX10_whereIs 25 = .ok (.iadd, 1) := by decide +kernel
theorem dX10_whereIs_26 : decode cX10_whereIs 26 = .ok (.if_icmp .ge 45, 3) := by decide +kernel
theorem dX10_whereIs_29 : decode cX10_whereIs 29 = .ok (.iload_n 2, 1) := by decide +kernel
theorem dX10_whereIs_30 : decode cX10_whereIs 30 = .ok (.i2l, 1) := by decide +kernel
theorem dX10_whereIs_31 : decode cX10_whereIs 31 = .ok (.aload_n 0, 1) := by decide +kernel
theorem dX10_whereIs_32 : decode cX10_whereIs 32 = .ok (.getfield 44, 3) := by decide +kernel
theorem dX10_whereIs_35 : decode cX10_whereIs 35 = .ok (.iload 4, 2) := by decide +kernel
theorem dX10_whereIs_37 : decode cX10_whereIs 37 = .ok (.iaload, 1) := by decide +kernel
theorem dX10_whereIs_38 : decode cX10_whereIs 38 = .ok (.i2l, 1) := by decide +kernel
theorem dX10_whereIs_39 : decode cX10_whereIs 39 = .ok (.aload_n 0, 1) := by decide +kernel
theorem dX10_whereIs_40 : decode cX10_whereIs 40 = .ok (.getfield 47, 3) := by decide +kernel
theorem dX10_whereIs_43 : decode cX10_whereIs 43 = .ok (.iload 4, 2) := by decide +kernel
theorem dX10_whereIs_45 : decode cX10_whereIs 45 = .ok (.iaload, 1) := by decide +kernel
theorem dX10_whereIs_46 : decode cX10_whereIs 46 = .ok (.i2l, 1) := by decide +kernel
theorem dX10_whereIs_47 : decode cX10_whereIs 47 = .ok (.invokestatic 121, 3) := by decide +kernel
theorem dX10_whereIs_50 : decode cX10_whereIs 50 = .ok (.ifCond .eq 13, 3) := by decide +kernel
theorem dX10_whereIs_53 : decode cX10_whereIs 53 = .ok (.aload_n 0, 1) := by decide +kernel
theorem dX10_whereIs_54 : decode cX10_whereIs 54 = .ok (.getfield 41, 3) := by decide +kernel
theorem dX10_whereIs_57 : decode cX10_whereIs 57 = .ok (.iload 4, 2) := by decide +kernel
theorem dX10_whereIs_59 : decode cX10_whereIs 59 = .ok (.iaload, 1) := by decide +kernel
theorem dX10_whereIs_60 : decode cX10_whereIs 60 = .ok (.goto 4, 3) := by decide +kernel
theorem dX10_whereIs_63 : decode cX10_whereIs 63 = .ok (.iload_n 3, 1) := by decide +kernel
theorem dX10_whereIs_64 : decode cX10_whereIs 64 = .ok (.istore_n 3, 1) := by decide +kernel
theorem dX10_whereIs_65 : decode cX10_whereIs 65 = .ok (.iinc 4 1, 3) := by decide +kernel
theorem dX10_whereIs_68 : decode cX10_whereIs 68 = .ok (.goto (-55), 3) := by decide +kernel
theorem dX10_whereIs_71 : decode cX10_whereIs 71 = .ok (.iload_n 3, 1) := by decide +kernel
theorem dX10_whereIs_72 : decode cX10_whereIs 72 = .ok (.ireturn, 1) := by decide +kernel
theorem dX10_where_0 : decode cX10_where 0 = .ok (.iload_n 1, 1) := by decide +kernel
theorem dX10_where_1 : decode cX10_where 1 = .ok (.invokestatic 155, 3) := by decide +kernel
theorem dX10_where_4 : decode cX10_where 4 = .ok (.ifCond .ne 6, 3) := by decide +kernel
theorem dX10_where_7 : decode cX10_where 7 = .ok (.bipush (-2), 2) := by decide +kernel
theorem dX10_where_9 : decode cX10_where 9 = .ok (.ireturn, 1) := by decide +kernel
theorem dX10_where_10 : decode cX10_where 10 = .ok (.iload_n 2, 1) := by decide +kernel
theorem dX10_where_11 : decode cX10_where 11 = .ok (.invokestatic 142, 3) := by decide +kernel
theorem dX10_where_14 : decode cX10_where 14 = .ok (.ifCond .eq 12, 3) := by decide +kernel
theorem dX10_where_17 : decode cX10_where 17 = .ok (.aload_n 0, 1) := by decide +kernel
theorem dX10_where_18 : decode cX10_where 18 = .ok (.iload_n 1, 1) := by decide +kernel
theorem dX10_where_19 : decode cX10_where 19 = .ok (.iload_n 2, 1) := by decide +kernel
theorem dX10_where_20 : decode cX10_where 20 = .ok (.invokevirtual 218, 3) := by decide +kernel
theorem dX10_where_23 : decode cX10_where 23 = .ok (.goto 5, 3) := by decide +kernel
theorem dX10_where_26 : decode cX10_where 26 = .ok (.bipush (-3), 2) := by decide +kernel
theorem dX10_where_28 : decode cX10_where 28 = .ok (.ireturn, 1) := by decide +kernel
theorem dX10_sawPlace_0 : decode cX10_sawPlace 0 = .ok (.aload_n 0, 1) := by decide +kernel
theorem dX10_sawPlace_1 : decode cX10_sawPlace 1 = .ok (.getfield 7, 3) := by decide +kernel
theorem dX10_sawPlace_4 : decode cX10_sawPlace 4 = .ok (.aload_n 0, 1) := by decide +kernel
theorem dX10_sawPlace_5 : decode cX10_sawPlace 5 = .ok (.iload_n 1, 1) := by decide +kernel
theorem dX10_sawPlace_6 : decode cX10_sawPlace 6 = .ok (.iload_n 3, 1) := by decide +kernel
theorem dX10_sawPlace_7 : decode cX10_sawPlace 7 = .ok (.invokevirtual 218, 3) := by decide +kernel
theorem dX10_sawPlace_10 : decode cX10_sawPlace 10 = .ok (.iaload, 1) := by decide +kernel
theorem dX10_sawPlace_11 : decode cX10_sawPlace 11 = .ok (.iload_n 2, 1) := by decide +kernel
theorem dX10_sawPlace_12 : decode cX10_sawPlace 12 = .ok (.ishr, 1) := by decide +kernel
theorem dX10_sawPlace_13 : decode cX10_sawPlace 13 = .ok (.iconst 1, 1) := by decide +kernel
theorem dX10_sawPlace_14 : decode cX10_sawPlace 14 = .ok (.iand, 1) := by decide +kernel
theorem dX10_sawPlace_15 : decode cX10_sawPlace 15 = .ok (.iconst 1, 1) := by decide +kernel
theorem dX10_sawPlace_16 : decode cX10_sawPlace 16 = .ok (.if_icmp .ne 7, 3) := by decide +kernel
theorem dX10_sawPlace_19 : decode cX10_sawPlace 19 = .ok (.iconst 1, 1) := by decide +kernel
theorem dX10_sawPlace_20 : decode cX10_sawPlace 20 = .ok (.goto 4, 3) := by decide +kernel
theorem dX10_sawPlace_23 : decode cX10_sawPlace 23 = .ok (.iconst 0, 1) := by decide +kernel
theorem dX10_sawPlace_24 : decode cX10_sawPlace 24 = .ok (.ireturn, 1) := by decide +kernel
theorem dX10_saw_0 : decode cX10_saw 0 = .ok (.iload_n 1, 1) := by decide +kernel
theorem dX10_saw_1 : decode cX10_saw 1 = .ok (.invokestatic 155, 3) := by decide +kernel
theorem dX10_saw_4 : decode cX10_saw 4 = .ok (.ifCond .ne 6, 3) := by decide +kernel
theorem dX10_saw_7 : decode cX10_saw 7 = .ok (.bipush (-2), 2) := by decide +kernel
theorem dX10_saw_9 : decode cX10_saw 9 = .ok (.ireturn, 1) := by decide +kernel
theorem dX10_saw_10 : decode cX10_saw 10 = .ok (.iload_n 2, 1) := by decide +kernel
theorem dX10_saw_11 : decode cX10_saw 11 = .ok (.invokestatic 142, 3) := by decide +kernel
theorem dX10_saw_14 : decode cX10_saw 14 = .ok (.ifCond .eq 17, 3) := by decide +kernel
theorem dX10_saw_17 : decode cX10_saw 17 = .ok (.aload_n 0, 1) := by decide +kernel
theorem dX10_saw_18 : decode cX10_saw 18 = .ok (.getfield 7, 3) := by decide +kernel
theorem dX10_saw_21 : decode cX10_saw 21 = .ok (.aload_n 0, 1) := by decide +kernel
theorem dX10_saw_22 : decode cX10_saw 22 = .ok (.iload_n 1, 1) := by decide +kernel
theorem dX10_saw_23 : decode cX10_saw 23 = .ok (.iload_n 2, 1) := by decide +kernel
theorem dX10_saw_24 : decode cX10_saw 24 = .ok (.invokevirtual 218, 3) := by decide +kernel
theorem dX10_saw_27 : decode cX10_saw 27 = .ok (.iaload, 1) := by decide +kernel
theorem dX10_saw_28 : decode cX10_saw 28 = .ok (.goto 5, 3) := by decide +kernel
theorem dX10_saw_31 : decode cX10_saw 31 = .ok (.bipush (-3), 2) := by decide +kernel
theorem dX10_saw_33 : decode cX10_saw 33 = .ok (.ireturn, 1) := by decide +kernel
theorem dX10_post_0 : decode cX10_post 0 = .ok (.iload_n 1, 1) := by decide +kernel
theorem dX10_post_1 : decode cX10_post 1 = .ok (.invokestatic 222, 3) := by decide +kernel
theorem dX10_post_4 : decode cX10_post 4 = .ok (.ifCond .ne 6, 3) := by decide +kernel
theorem dX10_post_7 : decode cX10_post 7 = .ok (.bipush (-2), 2) := by decide +kernel
theorem dX10_post_9 : decode cX10_post 9 = .ok (.ireturn, 1) := by decide +kernel
theorem dX10_post_10 : decode cX10_post 10 = .ok (.iload_n 2, 1) := by decide +kernel
theorem dX10_post_11 : decode cX10_post 11 = .ok (.i2l, 1) := by decide +kernel
theorem dX10_post_12 : decode cX10_post 12 = .ok (.lconst 0, 1) := by decide +kernel
theorem dX10_post_13 : decode cX10_post 13 = .ok (.ldc2_w 225, 3) := by decide +kernel
theorem dX10_post_16 : decode cX10_post 16 = .ok (.invokestatic 121, 3) := by decide +kernel
theorem dX10_post_19 : decode cX10_post 19 = .ok (.ifCond .ne 6, 3) := by decide +kernel
theorem dX10_post_22 : decode cX10_post 22 = .ok (.bipush (-3), 2) := by decide +kernel
theorem dX10_post_24 : decode cX10_post 24 = .ok (.ireturn, 1) := by decide +kernel
theorem dX10_post_25 : decode cX10_post 25 = .ok (.aload_n 0, 1) := by decide +kernel
theorem dX10_post_26 : decode cX10_post 26 = .ok (.getfield 53, 3) := by decide +kernel
theorem dX10_post_29 : decode cX10_post 29 = .ok (.iload_n 1, 1) := by decide +kernel
theorem dX10_post_30 : decode cX10_post 30 = .ok (.iaload, 1) := by decide +kernel
theorem dX10_post_31 : decode cX10_post 31 = .ok (.istore_n 3, 1) := by decide +kernel
theorem dX10_post_32 : decode cX10_post 32 = .ok (.aload_n 0, 1) := by decide +kernel
theorem dX10_post_33 : decode cX10_post 33 = .ok (.getfield 53, 3) := by decide +kernel
theorem dX10_post_36 : decode cX10_post 36 = .ok (.iload_n 1, 1) := by decide +kernel
theorem dX10_post_37 : decode cX10_post 37 = .ok (.iload_n 2, 1) := by decide +kernel
theorem dX10_post_38 : decode cX10_post 38 = .ok (.iastore, 1) := by decide +kernel
theorem dX10_post_39 : decode cX10_post 39 = .ok (.iload_n 3, 1) := by decide +kernel
theorem dX10_post_40 : decode cX10_post 40 = .ok (.ireturn, 1) := by decide +kernel
theorem dX10_refuses_0 : decode cX10_refuses 0 = .ok (.iload_n 1, 1) := by decide +kernel
theorem dX10_refuses_1 : decode cX10_refuses 1 = .ok (.invokestatic 155, 3) := by decide +kernel
theorem dX10_refuses_4 : decode cX10_refuses 4 = .ok (.ifCond .eq 26, 3) := by decide +kernel
theorem dX10_refuses_7 : decode cX10_refuses 7 = .ok (.iload_n 3, 1) := by decide +kernel
theorem dX10_refuses_8 : decode cX10_refuses 8 = .ok (.invokestatic 222, 3) := by decide +kernel
theorem dX10_refuses_11 : decode cX10_refuses 11 = .ok (.ifCond .eq 19, 3) := by decide +kernel
theorem dX10_refuses_14 : decode cX10_refuses 14 = .ok (.iload 4, 2) := by decide +kernel
theorem dX10_refuses_16 : decode cX10_refuses 16 = .ok (.invokestatic 133, 3) := by decide +kernel
theorem dX10_refuses_19 : decode cX10_refuses 19 = .ok (.ifCond .eq 11, 3) := by decide +kernel
theorem dX10_refuses_22 : decode cX10_refuses 22 = .ok (.iload 5, 2) := by decide +kernel
theorem dX10_refuses_24 : decode cX10_refuses 24 = .ok (.invokestatic 139, 3) := by decide +kernel
theorem dX10_refuses_27 : decode cX10_refuses 27 = .ok (.ifCond .ne 6, 3) := by decide +kernel
theorem dX10_refuses_30 : decode cX10_refuses 30 = .ok (.bipush (-2), 2) := by decide +kernel
theorem dX10_refuses_32 : decode cX10_refuses 32 = .ok (.ireturn, 1) := by decide +kernel
theorem dX10_refuses_33 : decode cX10_refuses 33 = .ok (.iload_n 2, 1) := by decide +kernel
theorem dX10_refuses_34 : decode cX10_refuses 34 = .ok (.invokestatic 142, 3) := by decide +kernel
theorem dX10_refuses_37 : decode cX10_refuses 37 = .ok (.ifCond .eq 28, 3) := by decide +kernel
theorem dX10_refuses_40 : decode cX10_refuses 40 = .ok (.iload 6, 2) := by decide +kernel
theorem dX10_refuses_42 : decode cX10_refuses 42 = .ok (.invokestatic 142, 3) := by decide +kernel
theorem dX10_refuses_45 : decode cX10_refuses 45 = .ok (.ifCond .eq 20, 3) := by decide +kernel
theorem dX10_refuses_48 : decode cX10_refuses 48 = .ok (.iload 7, 2) := by decide +kernel
theorem dX10_refuses_50 : decode cX10_refuses 50 = .ok (.i2l, 1) := by decide +kernel
theorem dX10_refuses_51 : decode cX10_refuses 51 = .ok (.lconst 0, 1) := by decide +kernel
theorem dX10_refuses_52 : decode cX10_refuses 52 = .ok (.ldc2_w 145, 3) := by decide +kernel
theorem dX10_refuses_55 : decode cX10_refuses 55 = .ok (.invokestatic 121, 3) := by decide +kernel
theorem dX10_refuses_58 : decode cX10_refuses 58 = .ok (.ifCond .eq 7, 3) := by decide +kernel
theorem dX10_refuses_61 : decode cX10_refuses 61 = .ok (.iconst 0, 1) := by decide +kernel
theorem dX10_refuses_62 : decode cX10_refuses 62 = .ok (.goto 5, 3) := by decide +kernel
theorem dX10_refuses_65 : decode cX10_refuses 65 = .ok (.bipush (-3), 2) := by decide +kernel
theorem dX10_refuses_67 : decode cX10_refuses 67 = .ok (.ireturn, 1) := by decide +kernel
theorem dX10_lay_0 : decode cX10_lay 0 = .ok (.aload_n 0, 1) := by decide +kernel
theorem dX10_lay_1 : decode cX10_lay 1 = .ok (.getfield 56, 3) := by decide +kernel
theorem dX10_lay_4 : decode cX10_lay 4 = .ok (.iload_n 1, 1) := by decide +kernel
theorem dX10_lay_5 : decode cX10_lay 5 = .ok (.iload_n 2, 1) := by decide +kernel
theorem dX10_lay_6 : decode cX10_lay 6 = .ok (.iastore, 1) := by decide +kernel
theorem dX10_lay_7 : decode cX10_lay 7 = .ok (.aload_n 0, 1) := by decide +kernel
theorem dX10_lay_8 : decode cX10_lay 8 = .ok (.getfield 59, 3) := by decide +kernel
theorem dX10_lay_11 : decode cX10_lay 11 = .ok (.iload_n 1, 1) := by decide +kernel
theorem dX10_lay_12 : decode cX10_lay 12 = .ok (.iload_n 3, 1) := by decide +kernel
theorem dX10_lay_13 : decode cX10_lay 13 = .ok (.iastore, 1) := by decide +kernel
theorem dX10_lay_14 : decode cX10_lay 14 = .ok (.aload_n 0, 1) := by decide +kernel
theorem dX10_lay_15 : decode cX10_lay 15 = .ok (.getfield 62, 3) := by decide +kernel
theorem dX10_lay_18 : decode cX10_lay 18 = .ok (.iload_n 1, 1) := by decide +kernel
theorem dX10_lay_19 : decode cX10_lay 19 = .ok (.iload 4, 2) := by decide +kernel
theorem dX10_lay_21 : decode cX10_lay 21 = .ok (.iastore, 1) := by decide +kernel
theorem dX10_lay_22 : decode cX10_lay 22 = .ok (.aload_n 0, 1) := by decide +kernel
theorem dX10_lay_23 : decode cX10_lay 23 = .ok (.getfield 65, 3) := by decide +kernel
theorem dX10_lay_26 : decode cX10_lay 26 = .ok (.iload_n 1, 1) := by decide +kernel
theorem dX10_lay_27 : decode cX10_lay 27 = .ok (.iload 5, 2) := by decide +kernel
theorem dX10_lay_29 : decode cX10_lay 29 = .ok (.iastore, 1) := by decide +kernel
theorem dX10_lay_30 : decode cX10_lay 30 = .ok (.aload_n 0, 1) := by decide +kernel
theorem dX10_lay_31 : decode cX10_lay 31 = .ok (.getfield 68, 3) := by decide +kernel
theorem dX10_lay_34 : decode cX10_lay 34 = .ok (.iload_n 1, 1) := by decide +kernel
theorem dX10_lay_35 : decode cX10_lay 35 = .ok (.iload 6, 2) := by decide +kernel
theorem dX10_lay_37 : decode cX10_lay 37 = .ok (.iastore, 1) := by decide +kernel
theorem dX10_lay_38 : decode cX10_lay 38 = .ok (.aload_n 0, 1) := by decide +kernel
theorem dX10_lay_39 : decode cX10_lay 39 = .ok (.getfield 71, 3) := by decide +kernel
theorem dX10_lay_42 : decode cX10_lay 42 = .ok (.iload_n 1, 1) := by decide +kernel
theorem dX10_lay_43 : decode cX10_lay 43 = .ok (.iload 7, 2) := by decide +kernel
theorem dX10_lay_45 : decode cX10_lay 45 = .ok (.iastore, 1) := by decide +kernel
theorem dX10_lay_46 : decode cX10_lay 46 = .ok (.aload_n 0, 1) := by decide +kernel
theorem dX10_lay_47 : decode cX10_lay 47 = .ok (.getfield 74, 3) := by decide +kernel
theorem dX10_lay_50 : decode cX10_lay 50 = .ok (.iload_n 1, 1) := by decide +kernel
theorem dX10_lay_51 : decode cX10_lay 51 = .ok (.iload 8, 2) := by decide +kernel
theorem dX10_lay_53 : decode cX10_lay 53 = .ok (.iastore, 1) := by decide +kernel
theorem dX10_lay_54 : decode cX10_lay 54 = .ok (.return_, 1) := by decide +kernel
theorem dX10_send_0 : decode cX10_send 0 = .ok (.aload_n 0, 1) := by decide +kernel
theorem dX10_send_1 : decode cX10_send 1 = .ok (.iload_n 1, 1) := by decide +kernel
theorem dX10_send_2 : decode cX10_send 2 = .ok (.iload_n 2, 1) := by decide +kernel
theorem dX10_send_3 : decode cX10_send 3 = .ok (.iload_n 3, 1) := by decide +kernel
theorem dX10_send_4 : decode cX10_send 4 = .ok (.iload 4, 2) := by decide +kernel
theorem dX10_send_6 : decode cX10_send 6 = .ok (.iload 5, 2) := by decide +kernel
theorem dX10_send_8 : decode cX10_send 8 = .ok (.iload 6, 2) := by decide +kernel
theorem dX10_send_10 : decode cX10_send 10 = .ok (.iload 7, 2) := by decide +kernel
theorem dX10_send_12 : decode cX10_send 12 = .ok (.invokevirtual 227, 3) := by decide +kernel
theorem dX10_send_15 : decode cX10_send 15 = .ok (.istore 8, 2) := by decide +kernel
theorem dX10_send_17 : decode cX10_send 17 = .ok (.iload 8, 2) := by decide +kernel
theorem dX10_send_19 : decode cX10_send 19 = .ok (.ifCond .ne 12, 3) := by decide +kernel
theorem dX10_send_22 : decode cX10_send 22 = .ok (.aload_n 0, 1) := by decide +kernel
theorem dX10_send_23 : decode cX10_send 23 = .ok (.getfield 231, 3) := by decide +kernel
theorem dX10_send_26 : decode cX10_send 26 = .ok (.bipush 24, 2) := by decide +kernel
theorem dX10_send_28 : decode cX10_send 28 = .ok (.if_icmp .ne 16, 3) := by decide +kernel
theorem dX10_send_31 : decode cX10_send 31 = .ok (.iload 8, 2) := by decide +kernel
theorem dX10_send_33 : decode cX10_send 33 = .ok (.ifCond .eq 8, 3) := by decide +kernel
theorem dX10_send_36 : decode cX10_send 36 = .ok (.iload 8, 2) := by decide +kernel
theorem dX10_send_38 : decode cX10_send 38 = .ok (.goto 5, 3) := by decide +kernel
theorem dX10_send_41 : decode cX10_send 41 = .ok (.bipush (-5), 2) := by decide +kernel
theorem dX10_send_43 : decode cX10_send 43 = .ok (.ireturn, 1) := by decide +kernel
theorem dX10_send_44 : decode cX10_send 44 = .ok (.aload_n 0, 1) := by decide +kernel
theorem dX10_send_45 : decode cX10_send 45 = .ok (.aload_n 0, 1) := by decide +kernel
theorem dX10_send_46 : decode cX10_send 46 = .ok (.getfield 231, 3) := by decide +kernel
theorem dX10_send_49 : decode cX10_send 49 = .ok (.iload_n 1, 1) := by decide +kernel
theorem dX10_send_50 : decode cX10_send 50 = .ok (.iload_n 2, 1) := by decide +kernel
theorem dX10_send_51 : decode cX10_send 51 = .ok (.iload_n 3, 1) := by decide +kernel
theorem dX10_send_52 : decode cX10_send 52 = .ok (.iload 4, 2) := by decide +kernel
theorem dX10_send_54 : decode cX10_send 54 = .ok (.iload 5, 2) := by decide +kernel
theorem dX10_send_56 : decode cX10_send 56 = .ok (.iload 6, 2) := by decide +kernel
theorem dX10_send_58 : decode cX10_send 58 = .ok (.iload 7, 2) := by decide +kernel
theorem dX10_send_60 : decode cX10_send 60 = .ok (.invokevirtual 234, 3) := by decide +kernel
theorem dX10_send_63 : decode cX10_send 63 = .ok (.aload_n 0, 1) := by decide +kernel
theorem dX10_send_64 : decode cX10_send 64 = .ok (.dup, 1) := by decide +kernel
theorem dX10_send_65 : decode cX10_send 65 = .ok (.getfield 231, 3) := by decide +kernel
theorem dX10_send_68 : decode cX10_send 68 = .ok (.iconst 1, 1) := by decide +kernel
theorem dX10_send_69 : decode cX10_send 69 = .ok (.iadd, 1) := by decide +kernel
theorem dX10_send_70 : decode cX10_send 70 = .ok (.putfield 231, 3) := by decide +kernel
theorem dX10_send_73 : decode cX10_send 73 = .ok (.aload_n 0, 1) := by decide +kernel
theorem dX10_send_74 : decode cX10_send 74 = .ok (.getfield 231, 3) := by decide +kernel
theorem dX10_send_77 : decode cX10_send 77 = .ok (.iconst 1, 1) := by decide +kernel
theorem dX10_send_78 : decode cX10_send 78 = .ok (.isub, 1) := by decide +kernel
theorem dX10_send_79 : decode cX10_send 79 = .ok (.ireturn, 1) := by decide +kernel
theorem dX10_isLetter_0 : decode cX10_isLetter 0 = .ok (.iload_n 1, 1) := by decide +kernel
theorem dX10_isLetter_1 : decode cX10_isLetter 1 = .ok (.i2l, 1) := by decide +kernel
theorem dX10_isLetter_2 : decode cX10_isLetter 2 = .ok (.lconst 0, 1) := by decide +kernel
theorem dX10_isLetter_3 : decode cX10_isLetter 3 = .ok (.aload_n 0, 1) := by decide +kernel
theorem dX10_isLetter_4 : decode cX10_isLetter 4 = .ok (.getfield 231, 3) := by decide +kernel
theorem dX10_isLetter_7 : decode cX10_isLetter 7 = .ok (.iconst 1, 1) := by decide +kernel
theorem dX10_isLetter_8 : decode cX10_isLetter 8 = .ok (.isub, 1) := by decide +kernel
theorem dX10_isLetter_9 : decode cX10_isLetter 9 = .ok (.i2l, 1) := by decide +kernel
theorem dX10_isLetter_10 : decode cX10_isLetter 10 = .ok (.invokestatic 121, 3) := by decide +kernel
theorem dX10_isLetter_13 : decode cX10_isLetter 13 = .ok (.ireturn, 1) := by decide +kernel
theorem dX10_isRight_0 : decode cX10_isRight 0 = .ok (.aload_n 0, 1) := by decide +kernel
theorem dX10_isRight_1 : decode cX10_isRight 1 = .ok (.aload_n 0, 1) := by decide +kernel
theorem dX10_isRight_2 : decode cX10_isRight 2 = .ok (.getfield 65, 3) := by decide +kernel
theorem dX10_isRight_5 : decode cX10_isRight 5 = .ok (.iload_n 1, 1) := by decide +kernel
theorem dX10_isRight_6 : decode cX10_isRight 6 = .ok (.iaload, 1) := by decide +kernel
theorem dX10_isRight_7 : decode cX10_isRight 7 = .ok (.aload_n 0, 1) := by decide +kernel
theorem dX10_isRight_8 : decode cX10_isRight 8 = .ok (.getfield 68, 3) := by decide +kernel
theorem dX10_isRight_11 : decode cX10_isRight 11 = .ok (.iload_n 1, 1) := by decide +kernel
theorem dX10_isRight_12 : decode cX10_isRight 12 = .ok (.iaload, 1) := by decide +kernel
theorem dX10_isRight_13 : decode cX10_isRight 13 = .ok (.aload_n 0, 1) := by decide +kernel
theorem dX10_isRight_14 : decode cX10_isRight 14 = .ok (.getfield 71, 3) := by decide +kernel
theorem dX10_isRight_17 : decode cX10_isRight 17 = .ok (.iload_n 1, 1) := by decide +kernel
theorem dX10_isRight_18 : decode cX10_isRight 18 = .ok (.iaload, 1) := by decide +kernel
theorem dX10_isRight_19 : decode cX10_isRight 19 = .ok (.invokevirtual 151, 3) := by decide +kernel
theorem dX10_isRight_22 : decode cX10_isRight 22 = .ok (.aload_n 0, 1) := by decide +kernel
theorem dX10_isRight_23 : decode cX10_isRight 23 = .ok (.getfield 74, 3) := by decide +kernel
theorem dX10_isRight_26 : decode cX10_isRight 26 = .ok (.iload_n 1, 1) := by decide +kernel
theorem dX10_isRight_27 : decode cX10_isRight 27 = .ok (.iaload, 1) := by decide +kernel
theorem dX10_isRight_28 : decode cX10_isRight 28 = .ok (.if_icmp .ne 7, 3) := by decide +kernel
theorem dX10_isRight_31 : decode cX10_isRight 31 = .ok (.iconst 1, 1) := by decide +kernel
theorem dX10_isRight_32 : decode cX10_isRight 32 = .ok (.goto 4, 3) := by decide +kernel
theorem dX10_isRight_35 : decode cX10_isRight 35 = .ok (.iconst 0, 1) := by decide +kernel
theorem dX10_isRight_36 : decode cX10_isRight 36 = .ok (.ireturn, 1) := by decide +kernel
theorem dX10_comesOn_0 : decode cX10_comesOn 0 = .ok (.aload_n 0, 1) := by decide +kernel
theorem dX10_comesOn_1 : decode cX10_comesOn 1 = .ok (.getfield 59, 3) := by decide +kernel
theorem dX10_comesOn_4 : decode cX10_comesOn 4 = .ok (.iload_n 1, 1) := by decide +kernel
theorem dX10_comesOn_5 : decode cX10_comesOn 5 = .ok (.iaload, 1) := by decide +kernel
theorem dX10_comesOn_6 : decode cX10_comesOn 6 = .ok (.aload_n 0, 1) := by decide +kernel
theorem dX10_comesOn_7 : decode cX10_comesOn 7 = .ok (.getfield 53, 3) := by decide +kernel
theorem dX10_comesOn_10 : decode cX10_comesOn 10 = .ok (.aload_n 0, 1) := by decide +kernel
theorem dX10_comesOn_11 : decode cX10_comesOn 11 = .ok (.getfield 62, 3) := by decide +kernel
theorem dX10_comesOn_14 : decode cX10_comesOn 14 = .ok (.iload_n 1, 1) := by decide +kernel
theorem dX10_comesOn_15 : decode cX10_comesOn 15 = .ok (.iaload, 1) := by decide +kernel
theorem dX10_comesOn_16 : decode cX10_comesOn 16 = .ok (.iaload, 1) := by decide +kernel
theorem dX10_comesOn_17 : decode cX10_comesOn 17 = .ok (.iadd, 1) := by decide +kernel
theorem dX10_comesOn_18 : decode cX10_comesOn 18 = .ok (.ireturn, 1) := by decide +kernel
theorem dX10_right_0 : decode cX10_right 0 = .ok (.aload_n 0, 1) := by decide +kernel
theorem dX10_right_1 : decode cX10_right 1 = .ok (.iload_n 1, 1) := by decide +kernel
theorem dX10_right_2 : decode cX10_right 2 = .ok (.invokevirtual 238, 3) := by decide +kernel
theorem dX10_right_5 : decode cX10_right 5 = .ok (.ifCond .ne 8, 3) := by decide +kernel
theorem dX10_right_8 : decode cX10_right 8 = .ok (.bipush (-2), 2) := by decide +kernel
theorem dX10_right_10 : decode cX10_right 10 = .ok (.goto 16, 3) := by decide +kernel
theorem dX10_right_13 : decode cX10_right 13 = .ok (.aload_n 0, 1) := by decide +kernel
theorem dX10_right_14 : decode cX10_right 14 = .ok (.iload_n 1, 1) := by decide +kernel
theorem dX10_right_15 : decode cX10_right 15 = .ok (.invokevirtual 241, 3) := by decide +kernel
theorem dX10_right_18 : decode cX10_right 18 = .ok (.ifCond .eq 7, 3) := by decide +kernel
theorem dX10_right_21 : decode cX10_right 21 = .ok (.iconst 1, 1) := by decide +kernel
theorem dX10_right_22 : decode cX10_right 22 = .ok (.goto 4, 3) := by decide +kernel
theorem dX10_right_25 : decode cX10_right 25 = .ok (.iconst 0, 1) := by decide +kernel
theorem dX10_right_26 : decode cX10_right 26 = .ok (.ireturn, 1) := by decide +kernel
theorem dX10_comes_0 : decode cX10_comes 0 = .ok (.aload_n 0, 1) := by decide +kernel
theorem dX10_comes_1 : decode cX10_comes 1 = .ok (.iload_n 1, 1) := by decide +kernel
theorem dX10_comes_2 : decode cX10_comes 2 = .ok (.invokevirtual 238, 3) := by decide +kernel
theorem dX10_comes_5 : decode cX10_comes 5 = .ok (.ifCond .eq 11, 3) := by decide +kernel
theorem dX10_comes_8 : decode cX10_comes 8 = .ok (.aload_n 0, 1) := by decide +kernel
theorem dX10_comes_9 : decode cX10_comes 9 = .ok (.iload_n 1, 1) := by decide +kernel
theorem dX10_comes_10 : decode cX10_comes 10 = .ok (.invokevirtual 244, 3) := by decide +kernel
theorem dX10_comes_13 : decode cX10_comes 13 = .ok (.goto 5, 3) := by decide +kernel
theorem dX10_comes_16 : decode cX10_comes 16 = .ok (.bipush (-2), 2) := by decide +kernel
theorem dX10_comes_18 : decode cX10_comes 18 = .ok (.ireturn, 1) := by decide +kernel
theorem dX10_areOfOne_0 : decode cX10_areOfOne 0 = .ok (.aload_n 0, 1) := by decide +kernel
theorem dX10_areOfOne_1 : decode cX10_areOfOne 1 = .ok (.getfield 65, 3) := by decide +kernel
theorem dX10_areOfOne_4 : decode cX10_areOfOne 4 = .ok (.iload_n 1, 1) := by decide +kernel
theorem dX10_areOfOne_5 : decode cX10_areOfOne 5 = .ok (.iaload, 1) := by decide +kernel
theorem dX10_areOfOne_6 : decode cX10_areOfOne 6 = .ok (.aload_n 0, 1) := by decide +kernel
theorem dX10_areOfOne_7 : decode cX10_areOfOne 7 = .ok (.getfield 65, 3) := by decide +kernel
theorem dX10_areOfOne_10 : decode cX10_areOfOne 10 = .ok (.iload_n 2, 1) := by decide +kernel
theorem dX10_areOfOne_11 : decode cX10_areOfOne 11 = .ok (.iaload, 1) := by decide +kernel
theorem dX10_areOfOne_12 : decode cX10_areOfOne 12 = .ok (.if_icmp .ne 37, 3) := by decide +kernel
theorem dX10_areOfOne_15 : decode cX10_areOfOne 15 = .ok (.aload_n 0, 1) := by decide +kernel
theorem dX10_areOfOne_16 : decode cX10_areOfOne 16 = .ok (.getfield 68, 3) := by decide +kernel
theorem dX10_areOfOne_19 : decode cX10_areOfOne 19 = .ok (.iload_n 1, 1) := by decide +kernel
theorem dX10_areOfOne_20 : decode cX10_areOfOne 20 = .ok (.iaload, 1) := by decide +kernel
theorem dX10_areOfOne_21 : decode cX10_areOfOne 21 = .ok (.aload_n 0, 1) := by decide +kernel
theorem dX10_areOfOne_22 : decode cX10_areOfOne 22 = .ok (.getfield 68, 3) := by decide +kernel
theorem dX10_areOfOne_25 : decode cX10_areOfOne 25 = .ok (.iload_n 2, 1) := by decide +kernel
theorem dX10_areOfOne_26 : decode cX10_areOfOne 26 = .ok (.iaload, 1) := by decide +kernel
theorem dX10_areOfOne_27 : decode cX10_areOfOne 27 = .ok (.if_icmp .ne 22, 3) := by decide +kernel
theorem dX10_areOfOne_30 : decode cX10_areOfOne 30 = .ok (.aload_n 0, 1) := by decide +kernel
theorem dX10_areOfOne_31 : decode cX10_areOfOne 31 = .ok (.getfield 71, 3) := by decide +kernel
theorem dX10_areOfOne_34 : decode cX10_areOfOne 34 = .ok (.iload_n 1, 1) := by decide +kernel
theorem dX10_areOfOne_35 : decode cX10_areOfOne 35 = .ok (.iaload, 1) := by decide +kernel
theorem dX10_areOfOne_36 : decode cX10_areOfOne 36 = .ok (.aload_n 0, 1) := by decide +kernel
theorem dX10_areOfOne_37 : decode cX10_areOfOne 37 = .ok (.getfield 71, 3) := by decide +kernel
theorem dX10_areOfOne_40 : decode cX10_areOfOne 40 = .ok (.iload_n 2, 1) := by decide +kernel
theorem dX10_areOfOne_41 : decode cX10_areOfOne 41 = .ok (.iaload, 1) := by decide +kernel
theorem dX10_areOfOne_42 : decode cX10_areOfOne 42 = .ok (.if_icmp .ne 7, 3) := by decide +kernel
theorem dX10_areOfOne_45 : decode cX10_areOfOne 45 = .ok (.iconst 1, 1) := by decide +kernel
theorem dX10_areOfOne_46 : decode cX10_areOfOne 46 = .ok (.goto 4, 3) := by decide +kernel
theorem dX10_areOfOne_49 : decode cX10_areOfOne 49 = .ok (.iconst 0, 1) := by decide +kernel
theorem dX10_areOfOne_50 : decode cX10_areOfOne 50 = .ok (.ireturn, 1) := by decide +kernel
theorem dX10_slips_0 : decode cX10_slips 0 = .ok (.aload_n 0, 1) := by decide +kernel
theorem dX10_slips_1 : decode cX10_slips 1 = .ok (.iload_n 1, 1) := by decide +kernel
theorem dX10_slips_2 : decode cX10_slips 2 = .ok (.invokevirtual 238, 3) := by decide +kernel
theorem dX10_slips_5 : decode cX10_slips 5 = .ok (.ifCond .ne 6, 3) := by decide +kernel
theorem dX10_slips_8 : decode cX10_slips 8 = .ok (.bipush (-2), 2) := by decide +kernel
theorem dX10_slips_10 : decode cX10_slips 10 = .ok (.ireturn, 1) := by decide +kernel
theorem dX10_slips_11 : decode cX10_slips 11 = .ok (.aload_n 0, 1) := by decide +kernel
theorem dX10_slips_12 : decode cX10_slips 12 = .ok (.aload_n 0, 1) := by decide +kernel
theorem dX10_slips_13 : decode cX10_slips 13 = .ok (.getfield 56, 3) := by decide +kernel
theorem dX10_slips_16 : decode cX10_slips 16 = .ok (.iload_n 1, 1) := by decide +kernel
theorem dX10_slips_17 : decode cX10_slips 17 = .ok (.iaload, 1) := by decide +kernel
theorem dX10_slips_18 : decode cX10_slips 18 = .ok (.aload_n 0, 1) := by decide +kernel
theorem dX10_slips_19 : decode cX10_slips 19 = .ok (.getfield 65, 3) := by decide +kernel
theorem dX10_slips_22 : decode cX10_slips 22 = .ok (.iload_n 1, 1) := by decide +kernel
theorem dX10_slips_23 : decode cX10_slips 23 = .ok (.iaload, 1) := by decide +kernel
theorem dX10_slips_24 : decode cX10_slips 24 = .ok (.aload_n 0, 1) := by decide +kernel
theorem dX10_slips_25 : decode cX10_slips 25 = .ok (.getfield 71, 3) := by decide +kernel
theorem dX10_slips_28 : decode cX10_slips 28 = .ok (.iload_n 1, 1) := by decide +kernel
theorem dX10_slips_29 : decode cX10_slips 29 = .ok (.iaload, 1) := by decide +kernel
theorem dX10_slips_30 : decode cX10_slips 30 = .ok (.invokevirtual 247, 3) := by decide +kernel
theorem dX10_slips_33 : decode cX10_slips 33 = .ok (.ifCond .eq 7, 3) := by decide +kernel
theorem dX10_slips_36 : decode cX10_slips 36 = .ok (.iconst 0, 1) := by decide +kernel
theorem dX10_slips_37 : decode cX10_slips 37 = .ok (.goto 4, 3) := by decide +kernel
theorem dX10_slips_40 : decode cX10_slips 40 = .ok (.iconst 1, 1) := by decide +kernel
theorem dX10_slips_41 : decode cX10_slips 41 = .ok (.istore_n 2, 1) := by decide +kernel
theorem dX10_slips_42 : decode cX10_slips 42 = .ok (.iload_n 2, 1) := by decide +kernel
theorem dX10_slips_43 : decode cX10_slips 43 = .ok (.aload_n 0, 1) := by decide +kernel
theorem dX10_slips_44 : decode cX10_slips 44 = .ok (.getfield 71, 3) := by decide +kernel
theorem dX10_slips_47 : decode cX10_slips 47 = .ok (.iload_n 1, 1) := by decide +kernel
theorem dX10_slips_48 : decode cX10_slips 48 = .ok (.iaload, 1) := by decide +kernel
theorem dX10_slips_49 : decode cX10_slips 49 = .ok (.aload_n 0, 1) := by decide +kernel
theorem dX10_slips_50 : decode cX10_slips 50 = .ok (.getfield 59, 3) := by decide +kernel
theorem dX10_slips_53 : decode cX10_slips 53 = .ok (.iload_n 1, 1) := by decide +kernel
theorem dX10_slips_54 : decode cX10_slips 54 = .ok (.iaload, 1) := by decide +kernel
theorem dX10_slips_55 : decode cX10_slips 55 = .ok (.if_icmp .le 7, 3) := by decide +kernel
theorem dX10_slips_58 : decode cX10_slips 58 = .ok (.iconst 2, 1) := by decide +kernel
theorem dX10_slips_59 : decode cX10_slips 59 = .ok (.goto 4, 3) := by decide +kernel
theorem dX10_slips_62 : decode cX10_slips 62 = .ok (.iconst 0, 1) := by decide +kernel
theorem dX10_slips_63 : decode cX10_slips 63 = .ok (.ior, 1) := by decide +kernel
theorem dX10_slips_64 : decode cX10_slips 64 = .ok (.istore_n 2, 1) := by decide +kernel
theorem dX10_slips_65 : decode cX10_slips 65 = .ok (.iconst 0, 1) := by decide +kernel
theorem dX10_slips_66 : decode cX10_slips 66 = .ok (.istore_n 3, 1) := by decide +kernel
theorem dX10_slips_67 : decode cX10_slips 67 = .ok (.iload_n 3, 1) := by decide +kernel
theorem dX10_slips_68 : decode cX10_slips 68 = .ok (.aload_n 0, 1) := by decide +kernel
theorem dX10_slips_69 : decode cX10_slips 69 = .ok (.getfield 231, 3) := by decide +kernel
theorem dX10_slips_72 : decode cX10_slips 72 = .ok (.if_icmp .ge 73, 3) := by decide +kernel
theorem dX10_slips_75 : decode cX10_slips 75 = .ok (.aload_n 0, 1) := by decide +kernel
theorem dX10_slips_76 : decode cX10_slips 76 = .ok (.iload_n 1, 1) := by decide +kernel
theorem dX10_slips_77 : decode cX10_slips 77 = .ok (.iload_n 3, 1) := by decide +kernel
theorem dX10_slips_78 : decode cX10_slips 78 = .ok (.invokevirtual 251, 3) := by decide +kernel
theorem dX10_slips_81 : decode cX10_slips 81 = .ok (.ifCond .eq 22, 3) := by decide +kernel
theorem dX10_slips_84 : decode cX10_slips 84 = .ok (.aload_n 0, 1) := by decide +kernel
theorem dX10_slips_85 : decode cX10_slips 85 = .ok (.getfield 74, 3) := by decide +kernel
theorem dX10_slips_88 : decode cX10_slips 88 = .ok (.iload_n 1, 1) := by decide +kernel
theorem dX10_slips_89 : decode cX10_slips 89 = .ok (.iaload, 1) := by decide +kernel
theorem dX10_slips_90 : decode cX10_slips 90 = .ok (.aload_n 0, 1) := by decide +kernel
theorem dX10_slips_91 : decode cX10_slips 91 = .ok (.getfield 74, 3) := by decide +kernel
theorem dX10_slips_94 : decode cX10_slips 94 = .ok (.iload_n 3, 1) := by decide +kernel
theorem dX10_slips_95 : decode cX10_slips 95 = .ok (.iaload, 1) := by decide +kernel
theorem dX10_slips_96 : decode cX10_slips 96 = .ok (.if_icmp .eq 7, 3) := by decide +kernel
theorem dX10_slips_99 : decode cX10_slips 99 = .ok (.iconst 1, 1) := by decide +kernel
theorem dX10_slips_100 : decode cX10_slips 100 = .ok (.goto 4, 3) := by decide +kernel
theorem dX10_slips_103 : decode cX10_slips 103 = .ok (.iconst 0, 1) := by decide +kernel
theorem dX10_slips_104 : decode cX10_slips 104 = .ok (.istore 4, 2) := by decide +kernel
theorem dX10_slips_106 : decode cX10_slips 106 = .ok (.iload_n 2, 1) := by decide +kernel
theorem dX10_slips_107 : decode cX10_slips 107 = .ok (.iload 4, 2) := by decide +kernel
theorem dX10_slips_109 : decode cX10_slips 109 = .ok (.ifCond .ne 7, 3) := by decide +kernel
theorem dX10_slips_112 : decode cX10_slips 112 = .ok (.iconst 0, 1) := by decide +kernel
theorem dX10_slips_113 : decode cX10_slips 113 = .ok (.goto 24, 3) := by decide +kernel
theorem dX10_slips_116 : decode cX10_slips 116 = .ok (.aload_n 0, 1) := by decide +kernel
theorem dX10_slips_117 : decode cX10_slips 117 = .ok (.getfield 56, 3) := by decide +kernel
theorem dX10_slips_120 : decode cX10_slips 120 = .ok (.iload_n 1, 1) := by decide +kernel
theorem dX10_slips_121 : decode cX10_slips 121 = .ok (.iaload, 1) := by decide +kernel
theorem dX10_slips_122 : decode cX10_slips 122 = .ok (.aload_n 0, 1) := by decide +kernel
theorem dX10_slips_123 : decode cX10_slips 123 = .ok (.getfield 56, 3) := by decide +kernel
theorem dX10_slips_126 : decode cX10_slips 126 = .ok (.iload_n 3, 1) := by decide +kernel
theorem dX10_slips_127 : decode cX10_slips 127 = .ok (.iaload, 1) := by decide +kernel
theorem dX10_slips_128 : decode cX10_slips 128 = .ok (.if_icmp .ne 7, 3) := by decide +kernel
theorem dX10_slips_131 : decode cX10_slips 131 = .ok (.iconst 4, 1) := by decide +kernel
theorem dX10_slips_132 : decode cX10_slips 132 = .ok (.goto 5, 3) := by decide +kernel
theorem dX10_slips_135 : decode cX10_slips 135 = .ok (.bipush 8, 2) := by decide +kernel
theorem dX10_slips_137 : decode cX10_slips 137 = .ok (.ior, 1) := by decide +kernel
theorem dX10_slips_138 : decode cX10_slips 138 = .ok (.istore_n 2, 1) := by decide +kernel
theorem dX10_slips_139 : decode cX10_slips 139 = .ok (.iinc 3 1, 3) := by decide +kernel
theorem dX10_slips_142 : decode cX10_slips 142 = .ok (.goto (-75), 3) := by decide +kernel
theorem dX10_slips_145 : decode cX10_slips 145 = .ok (.iload_n 2, 1) := by decide +kernel
theorem dX10_slips_146 : decode cX10_slips 146 = .ok (.ireturn, 1) := by decide +kernel
theorem dX10_sawFact_0 : decode cX10_sawFact 0 = .ok (.iconst 0, 1) := by decide +kernel
theorem dX10_sawFact_1 : decode cX10_sawFact 1 = .ok (.istore 4, 2) := by decide +kernel
theorem dX10_sawFact_3 : decode cX10_sawFact 3 = .ok (.aload_n 0, 1) := by decide +kernel
theorem dX10_sawFact_4 : decode cX10_sawFact 4 = .ok (.getfield 19, 3) := by decide +kernel
theorem dX10_sawFact_7 : decode cX10_sawFact 7 = .ok (.iload_n 2, 1) := by decide +kernel
theorem dX10_sawFact_8 : decode cX10_sawFact 8 = .ok (.iaload, 1) := by decide +kernel
theorem dX10_sawFact_9 : decode cX10_sawFact 9 = .ok (.istore 5, 2) := by decide +kernel
theorem dX10_sawFact_11 : decode cX10_sawFact 11 = .ok (.iload 5, 2) := by decide +kernel
theorem dX10_sawFact_13 : decode cX10_sawFact 13 = .ok (.aload_n 0, 1) := by decide +kernel
theorem dX10_sawFact_14 : decode cX10_sawFact 14 = .ok (.getfield 22, 3) := by decide +kernel
theorem dX10_sawFact_17 : decode cX10_sawFact 17 = .ok (.iload_n 2, 1) := by decide +kernel
theorem dX10_sawFact_18 : decode cX10_sawFact 18 = .ok (.iaload, 1) := by decide +kernel
theorem dX10_sawFact_19 : decode cX10_sawFact 19 = .ok (.if_icmp .gt 43, 3) := by decide +kernel
theorem dX10_sawFact_22 : decode cX10_sawFact 22 = .ok (.iload 5, 2) := by decide +kernel
theorem dX10_sawFact_24 : decode cX10_sawFact 24 = .ok (.iload_n 3, 1) := by decide +kernel
theorem dX10_sawFact_25 : decode cX10_sawFact 25 = .ok (.if_icmp .gt 37, 3) := by decide +kernel
theorem dX10_sawFact_28 : decode cX10_sawFact 28 = .ok (.iload 4, 2) := by decide +kernel
theorem dX10_sawFact_30 : decode cX10_sawFact 30 = .ok (.ifCond .ne 19, 3) := by decide +kernel
theorem dX10_sawFact_33 : decode cX10_sawFact 33 = .ok (.aload_n 0, 1) := by decide +kernel
theorem dX10_sawFact_34 : decode cX10_sawFact 34 = .ok (.iload_n 1, 1) := by decide +kernel
theorem dX10_sawFact_35 : decode cX10_sawFact 35 = .ok (.aload_n 0, 1) := by decide +kernel
theorem dX10_sawFact_36 : decode cX10_sawFact 36 = .ok (.getfield 13, 3) := by decide +kernel
theorem dX10_sawFact_39 : decode cX10_sawFact 39 = .ok (.iload_n 2, 1) := by decide +kernel
theorem dX10_sawFact_40 : decode cX10_sawFact 40 = .ok (.iaload, 1) := by decide +kernel
theorem dX10_sawFact_41 : decode cX10_sawFact 41 = .ok (.iload 5, 2) := by decide +kernel
theorem dX10_sawFact_43 : decode cX10_sawFact 43 = .ok (.invokevirtual 247, 3) := by decide +kernel
theorem dX10_sawFact_46 : decode cX10_sawFact 46 = .ok (.ifCond .eq 7, 3) := by decide +kernel
theorem dX10_sawFact_49 : decode cX10_sawFact 49 = .ok (.iconst 1, 1) := by decide +kernel
theorem dX10_sawFact_50 : decode cX10_sawFact 50 = .ok (.goto 4, 3) := by decide +kernel
theorem dX10_sawFact_53 : decode cX10_sawFact 53 = .ok (.iconst 0, 1) := by decide +kernel
theorem dX10_sawFact_54 : decode cX10_sawFact 54 = .ok (.istore 4, 2) := by decide +kernel
theorem dX10_sawFact_56 : decode cX10_sawFact 56 = .ok (.iinc 5 1, 3) := by decide +kernel
theorem dX10_sawFact_59 : decode cX10_sawFact 59 = .ok (.goto (-48), 3) := by decide +kernel
theorem dX10_sawFact_62 : decode cX10_sawFact 62 = .ok (.iload 4, 2) := by decide +kernel
theorem dX10_sawFact_64 : decode cX10_sawFact 64 = .ok (.ireturn, 1) := by decide +kernel
theorem dX10_toldFact_0 : decode cX10_toldFact 0 = .ok (.iconst 0, 1) := by decide +kernel
theorem dX10_toldFact_1 : decode cX10_toldFact 1 = .ok (.istore 4, 2) := by decide +kernel
theorem dX10_toldFact_3 : decode cX10_toldFact 3 = .ok (.iconst 0, 1) := by decide +kernel
theorem dX10_toldFact_4 : decode cX10_toldFact 4 = .ok (.istore 5, 2) := by decide +kernel
theorem dX10_toldFact_6 : decode cX10_toldFact 6 = .ok (.iload 5, 2) := by decide +kernel
theorem dX10_toldFact_8 : decode cX10_toldFact 8 = .ok (.aload_n 0, 1) := by decide +kernel
theorem dX10_toldFact_9 : decode cX10_toldFact 9 = .ok (.getfield 231, 3) := by decide +kernel
theorem dX10_toldFact_12 : decode cX10_toldFact 12 = .ok (.if_icmp .ge 103, 3) := by decide +kernel
theorem dX10_toldFact_15 : decode cX10_toldFact 15 = .ok (.iload 4, 2) := by decide +kernel
theorem dX10_toldFact_17 : decode cX10_toldFact 17 = .ok (.ifCond .ne 85, 3) := by decide +kernel
theorem dX10_toldFact_20 : decode cX10_toldFact 20 = .ok (.aload_n 0, 1) := by decide +kernel
theorem dX10_toldFact_21 : decode cX10_toldFact 21 = .ok (.getfield 56, 3) := by decide +kernel
theorem dX10_toldFact_24 : decode cX10_toldFact 24 = .ok (.iload 5, 2) := by decide +kernel
theorem dX10_toldFact_26 : decode cX10_toldFact 26 = .ok (.iaload, 1) := by decide +kernel
theorem dX10_toldFact_27 : decode cX10_toldFact 27 = .ok (.iload_n 1, 1) := by decide +kernel
theorem dX10_toldFact_28 : decode cX10_toldFact 28 = .ok (.if_icmp .ne 78, 3) := by decide +kernel
theorem dX10_toldFact_31 : decode cX10_toldFact 31 = .ok (.aload_n 0, 1) := by decide +kernel
theorem dX10_toldFact_32 : decode cX10_toldFact 32 = .ok (.getfield 59, 3) := by decide +kernel
theorem dX10_toldFact_35 : decode cX10_toldFact 35 = .ok (.iload 5, 2) := by decide +kernel
theorem dX10_toldFact_37 : decode cX10_toldFact 37 = .ok (.iaload, 1) := by decide +kernel
theorem dX10_toldFact_38 : decode cX10_toldFact 38 = .ok (.iload_n 3, 1) := by decide +kernel
theorem dX10_toldFact_39 : decode cX10_toldFact 39 = .ok (.if_icmp .gt 67, 3) := by decide +kernel
theorem dX10_toldFact_42 : decode cX10_toldFact 42 = .ok (.aload_n 0, 1) := by decide +kernel
theorem dX10_toldFact_43 : decode cX10_toldFact 43 = .ok (.getfield 65, 3) := by decide +kernel
theorem dX10_toldFact_46 : decode cX10_toldFact 46 = .ok (.iload 5, 2) := by decide +kernel
theorem dX10_toldFact_48 : decode cX10_toldFact 48 = .ok (.iaload, 1) := by decide +kernel
theorem dX10_toldFact_49 : decode cX10_toldFact 49 = .ok (.aload_n 0, 1) := by decide +kernel
theorem dX10_toldFact_50 : decode cX10_toldFact 50 = .ok (.getfield 13, 3) := by decide +kernel
theorem dX10_toldFact_53 : decode cX10_toldFact 53 = .ok (.iload_n 2, 1) := by decide +kernel
theorem dX10_toldFact_54 : decode cX10_toldFact 54 = .ok (.iaload, 1) := by decide +kernel
theorem dX10_toldFact_55 : decode cX10_toldFact 55 = .ok (.if_icmp .ne 51, 3) := by decide +kernel
theorem dX10_toldFact_58 : decode cX10_toldFact 58 = .ok (.aload_n 0, 1) := by decide +kernel
theorem dX10_toldFact_59 : decode cX10_toldFact 59 = .ok (.getfield 68, 3) := by decide +kernel
theorem dX10_toldFact_62 : decode cX10_toldFact 62 = .ok (.iload 5, 2) := by decide +kernel
theorem dX10_toldFact_64 : decode cX10_toldFact 64 = .ok (.iaload, 1) := by decide +kernel
theorem dX10_toldFact_65 : decode cX10_toldFact 65 = .ok (.aload_n 0, 1) := by decide +kernel
theorem dX10_toldFact_66 : decode cX10_toldFact 66 = .ok (.getfield 16, 3) := by decide +kernel
theorem dX10_toldFact_69 : decode cX10_toldFact 69 = .ok (.iload_n 2, 1) := by decide +kernel
theorem dX10_toldFact_70 : decode cX10_toldFact 70 = .ok (.iaload, 1) := by decide +kernel
theorem dX10_toldFact_71 : decode cX10_toldFact 71 = .ok (.if_icmp .ne 35, 3) := by decide +kernel
theorem dX10_toldFact_74 : decode cX10_toldFact 74 = .ok (.aload_n 0, 1) := by decide +kernel
theorem dX10_toldFact_75 : decode cX10_toldFact 75 = .ok (.getfield 71, 3) := by decide +kernel
theorem dX10_toldFact_78 : decode cX10_toldFact 78 = .ok (.iload 5, 2) := by decide +kernel
theorem dX10_toldFact_80 : decode cX10_toldFact 80 = .ok (.iaload, 1) := by decide +kernel
theorem dX10_toldFact_81 : decode cX10_toldFact 81 = .ok (.i2l, 1) := by decide +kernel
theorem dX10_toldFact_82 : decode cX10_toldFact 82 = .ok (.aload_n 0, 1) := by decide +kernel
theorem dX10_toldFact_83 : decode cX10_toldFact 83 = .ok (.getfield 19, 3) := by decide +kernel
theorem dX10_toldFact_86 : decode cX10_toldFact 86 = .ok (.iload_n 2, 1) := by decide +kernel
theorem dX10_toldFact_87 : decode cX10_toldFact 87 = .ok (.iaload, 1) := by decide +kernel
theorem dX10_toldFact_88 : decode cX10_toldFact 88 = .ok (.i2l, 1) := by decide +kernel
theorem dX10_toldFact_89 : decode cX10_toldFact 89 = .ok (.aload_n 0, 1) := by decide +kernel
theorem dX10_toldFact_90 : decode cX10_toldFact 90 = .ok (.getfield 22, 3) := by decide +kernel
theorem dX10_toldFact_93 : decode cX10_toldFact 93 = .ok (.iload_n 2, 1) := by decide +kernel
theorem dX10_toldFact_94 : decode cX10_toldFact 94 = .ok (.iaload, 1) := by decide +kernel
theorem dX10_toldFact_95 : decode cX10_toldFact 95 = .ok (.i2l, 1) := by decide +kernel
theorem dX10_toldFact_96 : decode cX10_toldFact 96 = .ok (.invokestatic 121, 3) := by decide +kernel
theorem dX10_toldFact_99 : decode cX10_toldFact 99 = .ok (.ifCond .eq 7, 3) := by decide +kernel
theorem dX10_toldFact_102 : decode cX10_toldFact 102 = .ok (.iconst 1, 1) := by decide +kernel
theorem dX10_toldFact_103 : decode cX10_toldFact 103 = .ok (.goto 4, 3) := by decide +kernel
theorem dX10_toldFact_106 : decode cX10_toldFact 106 = .ok (.iconst 0, 1) := by decide +kernel
theorem dX10_toldFact_107 : decode cX10_toldFact 107 = .ok (.istore 4, 2) := by decide +kernel
theorem dX10_toldFact_109 : decode cX10_toldFact 109 = .ok (.iinc 5 1, 3) := by decide +kernel
theorem dX10_toldFact_112 : decode cX10_toldFact 112 = .ok (.goto (-106), 3) := by decide +kernel
theorem dX10_toldFact_115 : decode cX10_toldFact 115 = .ok (.iload 4, 2) := by decide +kernel
theorem dX10_toldFact_117 : decode cX10_toldFact 117 = .ok (.ireturn, 1) := by decide +kernel
theorem dX10_lacks_0 : decode cX10_lacks 0 = .ok (.iload_n 1, 1) := by decide +kernel
theorem dX10_lacks_1 : decode cX10_lacks 1 = .ok (.invokestatic 155, 3) := by decide +kernel
theorem dX10_lacks_4 : decode cX10_lacks 4 = .ok (.ifCond .ne 6, 3) := by decide +kernel
theorem dX10_lacks_7 : decode cX10_lacks 7 = .ok (.bipush (-2), 2) := by decide +kernel
theorem dX10_lacks_9 : decode cX10_lacks 9 = .ok (.ireturn, 1) := by decide +kernel
theorem dX10_lacks_10 : decode cX10_lacks 10 = .ok (.iload_n 2, 1) := by decide +kernel
theorem dX10_lacks_11 : decode cX10_lacks 11 = .ok (.invokestatic 142, 3) := by decide +kernel
theorem dX10_lacks_14 : decode cX10_lacks 14 = .ok (.ifCond .ne 6, 3) := by decide +kernel
theorem dX10_lacks_17 : decode cX10_lacks 17 = .ok (.bipush (-3), 2) := by decide +kernel
theorem dX10_lacks_19 : decode cX10_lacks 19 = .ok (.ireturn, 1) := by decide +kernel
theorem dX10_lacks_20 : decode cX10_lacks 20 = .ok (.iconst 0, 1) := by decide +kernel
theorem dX10_lacks_21 : decode cX10_lacks 21 = .ok (.istore_n 3, 1) := by decide +kernel
theorem dX10_lacks_22 : decode cX10_lacks 22 = .ok (.iconst 0, 1) := by decide +kernel
theorem dX10_lacks_23 : decode cX10_lacks 23 = .ok (.istore 4, 2) := by decide +kernel
theorem dX10_lacks_25 : decode cX10_lacks 25 = .ok (.iload 4, 2) := by decide +kernel
theorem dX10_lacks_27 : decode cX10_lacks 27 = .ok (.aload_n 0, 1) := by decide +kernel
theorem dX10_lacks_28 : decode cX10_lacks 28 = .ok (.getfield 147, 3) := by decide +kernel
theorem dX10_lacks_31 : decode cX10_lacks 31 = .ok (.if_icmp .ge 42, 3) := by decide +kernel
theorem dX10_lacks_34 : decode cX10_lacks 34 = .ok (.iload_n 3, 1) := by decide +kernel
theorem dX10_lacks_35 : decode cX10_lacks 35 = .ok (.aload_n 0, 1) := by decide +kernel
theorem dX10_lacks_36 : decode cX10_lacks 36 = .ok (.iload_n 1, 1) := by decide +kernel
theorem dX10_lacks_37 : decode cX10_lacks 37 = .ok (.iload 4, 2) := by decide +kernel
theorem dX10_lacks_39 : decode cX10_lacks 39 = .ok (.iload_n 2, 1) := by decide +kernel
theorem dX10_lacks_40 : decode cX10_lacks 40 = .ok (.invokevirtual 254, 3) := by decide +kernel
theorem dX10_lacks_43 : decode cX10_lacks 43 = .ok (.ifCond .eq 21, 3) := by decide +kernel
theorem dX10_lacks_46 : decode cX10_lacks 46 = .ok (.aload_n 0, 1) := by decide +kernel
theorem dX10_lacks_47 : decode cX10_lacks 47 = .ok (.iload_n 1, 1) := by decide +kernel
theorem dX10_lacks_48 : decode cX10_lacks 48 = .ok (.iload 4, 2) := by decide +kernel
theorem dX10_lacks_50 : decode cX10_lacks 50 = .ok (.iload_n 2, 1) := by decide +kernel
theorem dX10_lacks_51 : decode cX10_lacks 51 = .ok (.invokevirtual 257, 3) := by decide +kernel
theorem dX10_lacks_54 : decode cX10_lacks 54 = .ok (.ifCond .ne 10, 3) := by decide +kernel
theorem dX10_lacks_57 : decode cX10_lacks 57 = .ok (.iconst 1, 1) := by decide +kernel
theorem dX10_lacks_58 : decode cX10_lacks 58 = .ok (.iload 4, 2) := by decide +kernel
theorem dX10_lacks_60 : decode cX10_lacks 60 = .ok (.ishl, 1) := by decide +kernel
theorem dX10_lacks_61 : decode cX10_lacks 61 = .ok (.goto 4, 3) := by decide +kernel
theorem dX10_lacks_64 : decode cX10_lacks 64 = .ok (.iconst 0, 1) := by decide +kernel
theorem dX10_lacks_65 : decode cX10_lacks 65 = .ok (.ior, 1) := by decide +kernel
theorem dX10_lacks_66 : decode cX10_lacks 66 = .ok (.istore_n 3, 1) := by decide +kernel
theorem dX10_lacks_67 : decode cX10_lacks 67 = .ok (.iinc 4 1, 3) := by decide +kernel
theorem dX10_lacks_70 : decode cX10_lacks 70 = .ok (.goto (-45), 3) := by decide +kernel
theorem dX10_lacks_73 : decode cX10_lacks 73 = .ok (.iload_n 3, 1) := by decide +kernel
theorem dX10_lacks_74 : decode cX10_lacks 74 = .ok (.ireturn, 1) := by decide +kernel
theorem dX10_ill_0 : decode cX10_ill 0 = .ok (.iload_n 1, 1) := by decide +kernel
theorem dX10_ill_1 : decode cX10_ill 1 = .ok (.invokestatic 155, 3) := by decide +kernel
theorem dX10_ill_4 : decode cX10_ill 4 = .ok (.ifCond .ne 6, 3) := by decide +kernel
theorem dX10_ill_7 : decode cX10_ill 7 = .ok (.bipush (-2), 2) := by decide +kernel
theorem dX10_ill_9 : decode cX10_ill 9 = .ok (.ireturn, 1) := by decide +kernel
theorem dX10_ill_10 : decode cX10_ill 10 = .ok (.iconst 0, 1) := by decide +kernel
theorem dX10_ill_11 : decode cX10_ill 11 = .ok (.istore_n 2, 1) := by decide +kernel
theorem dX10_ill_12 : decode cX10_ill 12 = .ok (.iload_n 2, 1) := by decide +kernel
theorem dX10_ill_13 : decode cX10_ill 13 = .ok (.bipush 60, 2) := by decide +kernel
theorem dX10_ill_15 : decode cX10_ill 15 = .ok (.if_icmp .gt 73, 3) := by decide +kernel
theorem dX10_ill_18 : decode cX10_ill 18 = .ok (.iconst 0, 1) := by decide +kernel
theorem dX10_ill_19 : decode cX10_ill 19 = .ok (.istore_n 3, 1) := by decide +kernel
theorem dX10_ill_20 : decode cX10_ill 20 = .ok (.iload_n 3, 1) := by decide +kernel
theorem dX10_ill_21 : decode cX10_ill 21 = .ok (.aload_n 0, 1) := by decide +kernel
theorem dX10_ill_22 : decode cX10_ill 22 = .ok (.getfield 147, 3) := by decide +kernel
theorem dX10_ill_25 : decode cX10_ill 25 = .ok (.if_icmp .ge 57, 3) := by decide +kernel
theorem dX10_ill_28 : decode cX10_ill 28 = .ok (.aload_n 0, 1) := by decide +kernel
theorem dX10_ill_29 : decode cX10_ill 29 = .ok (.getfield 28, 3) := by decide +kernel
theorem dX10_ill_32 : decode cX10_ill 32 = .ok (.iload_n 3, 1) := by decide +kernel
theorem dX10_ill_33 : decode cX10_ill 33 = .ok (.baload, 1) := by decide +kernel
theorem dX10_ill_34 : decode cX10_ill 34 = .ok (.ifCond .eq 42, 3) := by decide +kernel
theorem dX10_ill_37 : decode cX10_ill 37 = .ok (.iload_n 2, 1) := by decide +kernel
theorem dX10_ill_38 : decode cX10_ill 38 = .ok (.i2l, 1) := by decide +kernel
theorem dX10_ill_39 : decode cX10_ill 39 = .ok (.aload_n 0, 1) := by decide +kernel
theorem dX10_ill_40 : decode cX10_ill 40 = .ok (.getfield 19, 3) := by decide +kernel
theorem dX10_ill_43 : decode cX10_ill 43 = .ok (.iload_n 3, 1) := by decide +kernel
theorem dX10_ill_44 : decode cX10_ill 44 = .ok (.iaload, 1) := by decide +kernel
theorem dX10_ill_45 : decode cX10_ill 45 = .ok (.i2l, 1) := by decide +kernel
theorem dX10_ill_46 : decode cX10_ill 46 = .ok (.aload_n 0, 1) := by decide +kernel
theorem dX10_ill_47 : decode cX10_ill 47 = .ok (.getfield 22, 3) := by decide +kernel
theorem dX10_ill_50 : decode cX10_ill 50 = .ok (.iload_n 3, 1) := by decide +kernel
theorem dX10_ill_51 : decode cX10_ill 51 = .ok (.iaload, 1) := by decide +kernel
theorem dX10_ill_52 : decode cX10_ill 52 = .ok (.i2l, 1) := by decide +kernel
theorem dX10_ill_53 : decode cX10_ill 53 = .ok (.invokestatic 121, 3) := by decide +kernel
theorem dX10_ill_56 : decode cX10_ill 56 = .ok (.ifCond .eq 20, 3) := by decide +kernel
theorem dX10_ill_59 : decode cX10_ill 59 = .ok (.aload_n 0, 1) := by decide +kernel
theorem dX10_ill_60 : decode cX10_ill 60 = .ok (.iload_n 1, 1) := by decide +kernel
theorem dX10_ill_61 : decode cX10_ill 61 = .ok (.aload_n 0, 1) := by decide +kernel
theorem dX10_ill_62 : decode cX10_ill 62 = .ok (.getfield 13, 3) := by decide +kernel
theorem dX10_ill_65 : decode cX10_ill 65 = .ok (.iload_n 3, 1) := by decide +kernel
theorem dX10_ill_66 : decode cX10_ill 66 = .ok (.iaload, 1) := by decide +kernel
theorem dX10_ill_67 : decode cX10_ill 67 = .ok (.iload_n 2, 1) := by decide +kernel
theorem dX10_ill_68 : decode cX10_ill 68 = .ok (.invokevirtual 247, 3) := by decide +kernel
theorem dX10_ill_71 : decode cX10_ill 71 = .ok (.ifCond .eq 5, 3) := by decide +kernel
theorem dX10_ill_74 : decode cX10_ill 74 = .ok (.iload_n 2, 1) := by decide +kernel
theorem dX10_ill_75 : decode cX10_ill 75 = .ok (.ireturn, 1) := by decide +kernel
theorem dX10_ill_76 : decode cX10_ill 76 = .ok (.iinc 3 1, 3) := by decide +kernel
theorem dX10_ill_79 : decode cX10_ill 79 = .ok (.goto (-59), 3) := by decide +kernel
theorem dX10_ill_82 : decode cX10_ill 82 = .ok (.iinc 2 1, 3) := by decide +kernel
theorem dX10_ill_85 : decode cX10_ill 85 = .ok (.goto (-73), 3) := by decide +kernel
theorem dX10_ill_88 : decode cX10_ill 88 = .ok (.iconst (-1), 1) := by decide +kernel
theorem dX10_ill_89 : decode cX10_ill 89 = .ok (.ireturn, 1) := by decide +kernel
theorem dX10_isSent_0 : decode cX10_isSent 0 = .ok (.iload_n 1, 1) := by decide +kernel
theorem dX10_isSent_1 : decode cX10_isSent 1 = .ok (.aload_n 0, 1) := by decide +kernel
theorem dX10_isSent_2 : decode cX10_isSent 2 = .ok (.getfield 231, 3) := by decide +kernel
theorem dX10_isSent_5 : decode cX10_isSent 5 = .ok (.if_icmp .lt 24, 3) := by decide +kernel
theorem dX10_isSent_8 : decode cX10_isSent 8 = .ok (.iload_n 1, 1) := by decide +kernel
theorem dX10_isSent_9 : decode cX10_isSent 9 = .ok (.bipush 24, 2) := by decide +kernel
theorem dX10_isSent_11 : decode cX10_isSent 11 = .ok (.if_icmp .lt 22, 3) := by decide +kernel
theorem dX10_isSent_14 : decode cX10_isSent 14 = .ok (.aload_n 0, 1) := by decide +kernel
theorem dX10_isSent_15 : decode cX10_isSent 15 = .ok (.getfield 260, 3) := by decide +kernel
theorem dX10_isSent_18 : decode cX10_isSent 18 = .ok (.iload_n 1, 1) := by decide +kernel
theorem dX10_isSent_19 : decode cX10_isSent 19 = .ok (.bipush 24, 2) := by decide +kernel
theorem dX10_isSent_21 : decode cX10_isSent 21 = .ok (.isub, 1) := by decide +kernel
theorem dX10_isSent_22 : decode cX10_isSent 22 = .ok (.ishr, 1) := by decide +kernel
theorem dX10_isSent_23 : decode cX10_isSent 23 = .ok (.iconst 1, 1) := by decide +kernel
theorem dX10_isSent_24 : decode cX10_isSent 24 = .ok (.iand, 1) := by decide +kernel
theorem dX10_isSent_25 : decode cX10_isSent 25 = .ok (.iconst 1, 1) := by decide +kernel
theorem dX10_isSent_26 : decode cX10_isSent 26 = .ok (.if_icmp .ne 7, 3) := by decide +kernel
theorem dX10_isSent_29 : decode cX10_isSent 29 = .ok (.iconst 1, 1) := by decide +kernel
theorem dX10_isSent_30 : decode cX10_isSent 30 = .ok (.goto 4, 3) := by decide +kernel
theorem dX10_isSent_33 : decode cX10_isSent 33 = .ok (.iconst 0, 1) := by decide +kernel
theorem dX10_isSent_34 : decode cX10_isSent 34 = .ok (.ireturn, 1) := by decide +kernel
theorem dX10_eyes_0 : decode cX10_eyes 0 = .ok (.iload_n 1, 1) := by decide +kernel
theorem dX10_eyes_1 : decode cX10_eyes 1 = .ok (.invokestatic 215, 3) := by decide +kernel
theorem dX10_eyes_4 : decode cX10_eyes 4 = .ok (.ifCond .eq 10, 3) := by decide +kernel
theorem dX10_eyes_7 : decode cX10_eyes 7 = .ok (.iload_n 2, 1) := by decide +kernel
theorem dX10_eyes_8 : decode cX10_eyes 8 = .ok (.invokestatic 133, 3) := by decide +kernel
theorem dX10_eyes_11 : decode cX10_eyes 11 = .ok (.ifCond .ne 6, 3) := by decide +kernel
theorem dX10_eyes_14 : decode cX10_eyes 14 = .ok (.bipush (-2), 2) := by decide +kernel
theorem dX10_eyes_16 : decode cX10_eyes 16 = .ok (.ireturn, 1) := by decide +kernel
theorem dX10_eyes_17 : decode cX10_eyes 17 = .ok (.iload_n 3, 1) := by decide +kernel
theorem dX10_eyes_18 : decode cX10_eyes 18 = .ok (.invokestatic 142, 3) := by decide +kernel
theorem dX10_eyes_21 : decode cX10_eyes 21 = .ok (.ifCond .eq 17, 3) := by decide +kernel
theorem dX10_eyes_24 : decode cX10_eyes 24 = .ok (.iload 4, 2) := by decide +kernel
theorem dX10_eyes_26 : decode cX10_eyes 26 = .ok (.i2l, 1) := by decide +kernel
theorem dX10_eyes_27 : decode cX10_eyes 27 = .ok (.iload_n 3, 1) := by decide +kernel
theorem dX10_eyes_28 : decode cX10_eyes 28 = .ok (.i2l, 1) := by decide +kernel
theorem dX10_eyes_29 : decode cX10_eyes 29 = .ok (.ldc2_w 127, 3) := by decide +kernel
theorem dX10_eyes_32 : decode cX10_eyes 32 = .ok (.invokestatic 121, 3) := by decide +kernel
theorem dX10_eyes_35 : decode cX10_eyes 35 = .ok (.ifCond .ne 6, 3) := by decide +kernel
theorem dX10_eyes_38 : decode cX10_eyes 38 = .ok (.bipush (-3), 2) := by decide +kernel
theorem dX10_eyes_40 : decode cX10_eyes 40 = .ok (.ireturn, 1) := by decide +kernel
theorem dX10_eyes_41 : decode cX10_eyes 41 = .ok (.aload_n 0, 1) := by decide +kernel
theorem dX10_eyes_42 : decode cX10_eyes 42 = .ok (.getfield 92, 3) := by decide +kernel
theorem dX10_eyes_45 : decode cX10_eyes 45 = .ok (.iload_n 1, 1) := by decide +kernel
theorem dX10_eyes_46 : decode cX10_eyes 46 = .ok (.iaload, 1) := by decide +kernel
theorem dX10_eyes_47 : decode cX10_eyes 47 = .ok (.bipush 6, 2) := by decide +kernel
theorem dX10_eyes_49 : decode cX10_eyes 49 = .ok (.if_icmp .ne 6, 3) := by decide +kernel
theorem dX10_eyes_52 : decode cX10_eyes 52 = .ok (.bipush (-5), 2) := by decide +kernel
theorem dX10_eyes_54 : decode cX10_eyes 54 = .ok (.ireturn, 1) := by decide +kernel
theorem dX10_eyes_55 : decode cX10_eyes 55 = .ok (.bipush 6, 2) := by decide +kernel
theorem dX10_eyes_57 : decode cX10_eyes 57 = .ok (.iload_n 1, 1) := by decide +kernel
theorem dX10_eyes_58 : decode cX10_eyes 58 = .ok (.imul, 1) := by decide +kernel
theorem dX10_eyes_59 : decode cX10_eyes 59 = .ok (.aload_n 0, 1) := by decide +kernel
theorem dX10_eyes_60 : decode cX10_eyes 60 = .ok (.getfield 92, 3) := by decide +kernel
theorem dX10_eyes_63 : decode cX10_eyes 63 = .ok (.iload_n 1, 1) := by decide +kernel
theorem dX10_eyes_64 : decode cX10_eyes 64 = .ok (.iaload, 1) := by decide +kernel
theorem dX10_eyes_65 : decode cX10_eyes 65 = .ok (.iadd, 1) := by decide +kernel
theorem dX10_eyes_66 : decode cX10_eyes 66 = .ok (.istore 5, 2) := by decide +kernel
theorem dX10_eyes_68 : decode cX10_eyes 68 = .ok (.aload_n 0, 1) := by decide +kernel
theorem dX10_eyes_69 : decode cX10_eyes 69 = .ok (.getfield 83, 3) := by decide +kernel
theorem dX10_eyes_72 : decode cX10_eyes 72 = .ok (.iload 5, 2) := by decide +kernel
theorem dX10_eyes_74 : decode cX10_eyes 74 = .ok (.iload_n 2, 1) := by decide +kernel
theorem dX10_eyes_75 : decode cX10_eyes 75 = .ok (.iastore, 1) := by decide +kernel
theorem dX10_eyes_76 : decode cX10_eyes 76 = .ok (.aload_n 0, 1) := by decide +kernel
theorem dX10_eyes_77 : decode cX10_eyes 77 = .ok (.getfield 86, 3) := by decide +kernel
theorem dX10_eyes_80 : decode cX10_eyes 80 = .ok (.iload 5, 2) := by decide +kernel
theorem dX10_eyes_82 : decode cX10_eyes 82 = .ok (.iload_n 3, 1) := by decide +kernel
theorem dX10_eyes_83 : decode cX10_eyes 83 = .ok (.iastore, 1) := by decide +kernel
theorem dX10_eyes_84 : decode cX10_eyes 84 = .ok (.aload_n 0, 1) := by decide +kernel
theorem dX10_eyes_85 : decode cX10_eyes 85 = .ok (.getfield 89, 3) := by decide +kernel
theorem dX10_eyes_88 : decode cX10_eyes 88 = .ok (.iload 5, 2) := by decide +kernel
theorem dX10_eyes_90 : decode cX10_eyes 90 = .ok (.iload 4, 2) := by decide +kernel
theorem dX10_eyes_92 : decode cX10_eyes 92 = .ok (.iastore, 1) := by decide +kernel
theorem dX10_eyes_93 : decode cX10_eyes 93 = .ok (.aload_n 0, 1) := by decide +kernel
theorem dX10_eyes_94 : decode cX10_eyes 94 = .ok (.getfield 92, 3) := by decide +kernel
theorem dX10_eyes_97 : decode cX10_eyes 97 = .ok (.iload_n 1, 1) := by decide +kernel
theorem dX10_eyes_98 : decode cX10_eyes 98 = .ok (.dup2, 1) := by decide +kernel
theorem dX10_eyes_99 : decode cX10_eyes 99 = .ok (.iaload, 1) := by decide +kernel
theorem dX10_eyes_100 : decode cX10_eyes 100 = .ok (.iconst 1, 1) := by decide +kernel
theorem dX10_eyes_101 : decode cX10_eyes 101 = .ok (.iadd, 1) := by decide +kernel
theorem dX10_eyes_102 : decode cX10_eyes 102 = .ok (.iastore, 1) := by decide +kernel
theorem dX10_eyes_103 : decode cX10_eyes 103 = .ok (.aload_n 0, 1) := by decide +kernel
theorem dX10_eyes_104 : decode cX10_eyes 104 = .ok (.getfield 92, 3) := by decide +kernel
theorem dX10_eyes_107 : decode cX10_eyes 107 = .ok (.iload_n 1, 1) := by decide +kernel
theorem dX10_eyes_108 : decode cX10_eyes 108 = .ok (.iaload, 1) := by decide +kernel
theorem dX10_eyes_109 : decode cX10_eyes 109 = .ok (.ireturn, 1) := by decide +kernel
theorem dX10_told_0 : decode cX10_told 0 = .ok (.iload_n 1, 1) := by decide +kernel
theorem dX10_told_1 : decode cX10_told 1 = .ok (.invokestatic 215, 3) := by decide +kernel
theorem dX10_told_4 : decode cX10_told 4 = .ok (.ifCond .ne 6, 3) := by decide +kernel
theorem dX10_told_7 : decode cX10_told 7 = .ok (.bipush (-2), 2) := by decide +kernel
theorem dX10_told_9 : decode cX10_told 9 = .ok (.ireturn, 1) := by decide +kernel
theorem dX10_told_10 : decode cX10_told 10 = .ok (.iload_n 2, 1) := by decide +kernel
theorem dX10_told_11 : decode cX10_told 11 = .ok (.i2l, 1) := by decide +kernel
theorem dX10_told_12 : decode cX10_told 12 = .ok (.lconst 0, 1) := by decide +kernel
theorem dX10_told_13 : decode cX10_told 13 = .ok (.ldc2_w 129, 3) := by decide +kernel
theorem dX10_told_16 : decode cX10_told 16 = .ok (.invokestatic 121, 3) := by decide +kernel
theorem dX10_told_19 : decode cX10_told 19 = .ok (.ifCond .eq 17, 3) := by decide +kernel
theorem dX10_told_22 : decode cX10_told 22 = .ok (.aload_n 0, 1) := by decide +kernel
theorem dX10_told_23 : decode cX10_told 23 = .ok (.getfield 50, 3) := by decide +kernel
theorem dX10_told_26 : decode cX10_told 26 = .ok (.bipush 6, 2) := by decide +kernel
theorem dX10_told_28 : decode cX10_told 28 = .ok (.iload_n 1, 1) := by decide +kernel
theorem dX10_told_29 : decode cX10_told 29 = .ok (.imul, 1) := by decide +kernel
theorem dX10_told_30 : decode cX10_told 30 = .ok (.iload_n 2, 1) := by decide +kernel
theorem dX10_told_31 : decode cX10_told 31 = .ok (.iadd, 1) := by decide +kernel
theorem dX10_told_32 : decode cX10_told 32 = .ok (.iaload, 1) := by decide +kernel
theorem dX10_told_33 : decode cX10_told 33 = .ok (.goto 5, 3) := by decide +kernel
theorem dX10_told_36 : decode cX10_told 36 = .ok (.bipush (-3), 2) := by decide +kernel
theorem dX10_told_38 : decode cX10_told 38 = .ok (.ireturn, 1) := by decide +kernel
theorem dX10_knows_0 : decode cX10_knows 0 = .ok (.iconst 0, 1) := by decide +kernel
theorem dX10_knows_1 : decode cX10_knows 1 = .ok (.istore 5, 2) := by decide +kernel
theorem dX10_knows_3 : decode cX10_knows 3 = .ok (.bipush 6, 2) := by decide +kernel
theorem dX10_knows_5 : decode cX10_knows 5 = .ok (.iload_n 1, 1) := by decide +kernel
theorem dX10_knows_6 : decode cX10_knows 6 = .ok (.imul, 1) := by decide +kernel
theorem dX10_knows_7 : decode cX10_knows 7 = .ok (.istore 6, 2) := by decide +kernel
theorem dX10_knows_9 : decode cX10_knows 9 = .ok (.iload 6, 2) := by decide +kernel
theorem dX10_knows_11 : decode cX10_knows 11 = .ok (.bipush 6, 2) := by decide +kernel
theorem dX10_knows_13 : decode cX10_knows 13 = .ok (.iload_n 1, 1) := by decide +kernel
theorem dX10_knows_14 : decode cX10_knows 14 = .ok (.imul, 1) := by decide +kernel
theorem dX10_knows_15 : decode cX10_knows 15 = .ok (.aload_n 0, 1) := by decide +kernel
theorem dX10_knows_16 : decode cX10_knows 16 = .ok (.getfield 92, 3) := by decide +kernel
theorem dX10_knows_19 : decode cX10_knows 19 = .ok (.iload_n 1, 1) := by decide +kernel
theorem dX10_knows_20 : decode cX10_knows 20 = .ok (.iaload, 1) := by decide +kernel
theorem dX10_knows_21 : decode cX10_knows 21 = .ok (.iadd, 1) := by decide +kernel
theorem dX10_knows_22 : decode cX10_knows 22 = .ok (.if_icmp .ge 62, 3) := by decide +kernel
theorem dX10_knows_25 : decode cX10_knows 25 = .ok (.iload 5, 2) := by decide +kernel
theorem dX10_knows_27 : decode cX10_knows 27 = .ok (.ifCond .ne 44, 3) := by decide +kernel
theorem dX10_knows_30 : decode cX10_knows 30 = .ok (.aload_n 0, 1) := by decide +kernel
theorem dX10_knows_31 : decode cX10_knows 31 = .ok (.getfield 83, 3) := by decide +kernel
theorem dX10_knows_34 : decode cX10_knows 34 = .ok (.iload 6, 2) := by decide +kernel
theorem dX10_knows_36 : decode cX10_knows 36 = .ok (.iaload, 1) := by decide +kernel
theorem dX10_knows_37 : decode cX10_knows 37 = .ok (.iload_n 2, 1) := by decide +kernel
theorem dX10_knows_38 : decode cX10_knows 38 = .ok (.if_icmp .ne 37, 3) := by decide +kernel
theorem dX10_knows_41 : decode cX10_knows 41 = .ok (.iload_n 3, 1) := by decide +kernel
theorem dX10_knows_42 : decode cX10_knows 42 = .ok (.i2l, 1) := by decide +kernel
theorem dX10_knows_43 : decode cX10_knows 43 = .ok (.aload_n 0, 1) := by decide +kernel
theorem dX10_knows_44 : decode cX10_knows 44 = .ok (.getfield 86, 3) := by decide +kernel
theorem dX10_knows_47 : decode cX10_knows 47 = .ok (.iload 6, 2) := by decide +kernel
theorem dX10_knows_49 : decode cX10_knows 49 = .ok (.iaload, 1) := by decide +kernel
theorem dX10_knows_50 : decode cX10_knows 50 = .ok (.i2l, 1) := by decide +kernel
theorem dX10_knows_51 : decode cX10_knows 51 = .ok (.aload_n 0, 1) := by decide +kernel
theorem dX10_knows_52 : decode cX10_knows 52 = .ok (.getfield 89, 3) := by decide +kernel
theorem dX10_knows_55 : decode cX10_knows 55 = .ok (.iload 6, 2) := by decide +kernel
theorem dX10_knows_57 : decode cX10_knows 57 = .ok (.iaload, 1) := by decide +kernel
theorem dX10_knows_58 : decode cX10_knows 58 = .ok (.i2l, 1) := by decide +kernel
theorem dX10_knows_59 : decode cX10_knows 59 = .ok (.invokestatic 121, 3) := by decide +kernel
theorem dX10_knows_62 : decode cX10_knows 62 = .ok (.ifCond .eq 13, 3) := by decide +kernel
theorem dX10_knows_65 : decode cX10_knows 65 = .ok (.iload_n 3, 1) := by decide +kernel
theorem dX10_knows_66 : decode cX10_knows 66 = .ok (.iload 4, 2) := by decide +kernel
theorem dX10_knows_68 : decode cX10_knows 68 = .ok (.if_icmp .gt 7, 3) := by decide +kernel
theorem dX10_knows_71 : decode cX10_knows 71 = .ok (.iconst 1, 1) := by decide +kernel
theorem dX10_knows_72 : decode cX10_knows 72 = .ok (.goto 4, 3) := by decide +kernel
theorem dX10_knows_75 : decode cX10_knows 75 = .ok (.iconst 0, 1) := by decide +kernel
theorem dX10_knows_76 : decode cX10_knows 76 = .ok (.istore 5, 2) := by decide +kernel
theorem dX10_knows_78 : decode cX10_knows 78 = .ok (.iinc 6 1, 3) := by decide +kernel
theorem dX10_knows_81 : decode cX10_knows 81 = .ok (.goto (-72), 3) := by decide +kernel
theorem dX10_knows_84 : decode cX10_knows 84 = .ok (.iload 5, 2) := by decide +kernel
theorem dX10_knows_86 : decode cX10_knows 86 = .ok (.ireturn, 1) := by decide +kernel
theorem dX10_trustOf_0 : decode cX10_trustOf 0 = .ok (.aload_n 0, 1) := by decide +kernel
theorem dX10_trustOf_1 : decode cX10_trustOf 1 = .ok (.getfield 50, 3) := by decide +kernel
theorem dX10_trustOf_4 : decode cX10_trustOf 4 = .ok (.bipush 6, 2) := by decide +kernel
theorem dX10_trustOf_6 : decode cX10_trustOf 6 = .ok (.iload_n 1, 1) := by decide +kernel
theorem dX10_trustOf_7 : decode cX10_trustOf 7 = .ok (.imul, 1) := by decide +kernel
theorem dX10_trustOf_8 : decode cX10_trustOf 8 = .ok (.iconst 0, 1) := by decide +kernel
theorem dX10_trustOf_9 : decode cX10_trustOf 9 = .ok (.iadd, 1) := by decide +kernel
theorem dX10_trustOf_10 : decode cX10_trustOf 10 = .ok (.iaload, 1) := by decide +kernel
theorem dX10_trustOf_11 : decode cX10_trustOf 11 = .ok (.istore 4, 2) := by decide +kernel
theorem dX10_trustOf_13 : decode cX10_trustOf 13 = .ok (.iconst 0, 1) := by decide +kernel
theorem dX10_trustOf_14 : decode cX10_trustOf 14 = .ok (.istore 5, 2) := by decide +kernel
theorem dX10_trustOf_16 : decode cX10_trustOf 16 = .ok (.iload 5, 2) := by decide +kernel
theorem dX10_trustOf_18 : decode cX10_trustOf 18 = .ok (.bipush 24, 2) := by decide +kernel
theorem dX10_trustOf_20 : decode cX10_trustOf 20 = .ok (.aload_n 0, 1) := by decide +kernel
theorem dX10_trustOf_21 : decode cX10_trustOf 21 = .ok (.getfield 263, 3) := by decide +kernel
theorem dX10_trustOf_24 : decode cX10_trustOf 24 = .ok (.iadd, 1) := by decide +kernel
theorem dX10_trustOf_25 : decode cX10_trustOf 25 = .ok (.if_icmp .ge 155, 3) := by decide +kernel
theorem dX10_trustOf_28 : decode cX10_trustOf 28 = .ok (.aload_n 0, 1) := by decide +kernel
theorem dX10_trustOf_29 : decode cX10_trustOf 29 = .ok (.iload 5, 2) := by decide +kernel
theorem dX10_trustOf_31 : decode cX10_trustOf 31 = .ok (.invokevirtual 266, 3) := by decide +kernel
theorem dX10_trustOf_34 : decode cX10_trustOf 34 = .ok (.ifCond .eq 140, 3) := by decide +kernel
theorem dX10_trustOf_37 : decode cX10_trustOf 37 = .ok (.aload_n 0, 1) := by decide +kernel
theorem dX10_trustOf_38 : decode cX10_trustOf 38 = .ok (.getfield 56, 3) := by decide +kernel
theorem dX10_trustOf_41 : decode cX10_trustOf 41 = .ok (.iload 5, 2) := by decide +kernel
theorem dX10_trustOf_43 : decode cX10_trustOf 43 = .ok (.iaload, 1) := by decide +kernel
theorem dX10_trustOf_44 : decode cX10_trustOf 44 = .ok (.iload_n 2, 1) := by decide +kernel
theorem dX10_trustOf_45 : decode cX10_trustOf 45 = .ok (.if_icmp .ne 129, 3) := by decide +kernel
theorem dX10_trustOf_48 : decode cX10_trustOf 48 = .ok (.aload_n 0, 1) := by decide +kernel
theorem dX10_trustOf_49 : decode cX10_trustOf 49 = .ok (.iload 5, 2) := by decide +kernel
theorem dX10_trustOf_51 : decode cX10_trustOf 51 = .ok (.invokevirtual 244, 3) := by decide +kernel
theorem dX10_trustOf_54 : decode cX10_trustOf 54 = .ok (.iload_n 3, 1) := by decide +kernel
theorem dX10_trustOf_55 : decode cX10_trustOf 55 = .ok (.if_icmp .gt 119, 3) := by decide +kernel
theorem dX10_trustOf_58 : decode cX10_trustOf 58 = .ok (.aload_n 0, 1) := by decide +kernel
theorem dX10_trustOf_59 : decode cX10_trustOf 59 = .ok (.iload_n 1, 1) := by decide +kernel
theorem dX10_trustOf_60 : decode cX10_trustOf 60 = .ok (.aload_n 0, 1) := by decide +kernel
theorem dX10_trustOf_61 : decode cX10_trustOf 61 = .ok (.getfield 65, 3) := by decide +kernel
theorem dX10_trustOf_64 : decode cX10_trustOf 64 = .ok (.iload 5, 2) := by decide +kernel
theorem dX10_trustOf_66 : decode cX10_trustOf 66 = .ok (.iaload, 1) := by decide +kernel
theorem dX10_trustOf_67 : decode cX10_trustOf 67 = .ok (.aload_n 0, 1) := by decide +kernel
theorem dX10_trustOf_68 : decode cX10_trustOf 68 = .ok (.getfield 71, 3) := by decide +kernel
theorem dX10_trustOf_71 : decode cX10_trustOf 71 = .ok (.iload 5, 2) := by decide +kernel
theorem dX10_trustOf_73 : decode cX10_trustOf 73 = .ok (.iaload, 1) := by decide +kernel
theorem dX10_trustOf_74 : decode cX10_trustOf 74 = .ok (.iload_n 3, 1) := by decide +kernel
theorem dX10_trustOf_75 : decode cX10_trustOf 75 = .ok (.invokevirtual 269, 3) := by decide +kernel
