theorem dX5_add_42 : decode cX5_add 42 = .ok (.aload_n 0, 1) := by decide +kernel
theorem dX5_add_43 : decode cX5_add 43 = .ok (.dup, 1) := by decide +kernel
theorem dX5_add_44 : decode cX5_add 44 = .ok (.getfield 21, 3) := by decide +kernel
theorem dX5_add_47 : decode cX5_add 47 = .ok (.iconst 1, 1) := by decide +kernel
theorem dX5_add_48 : decode cX5_add 48 = .ok (.iadd, 1) := by decide +kernel
theorem dX5_add_49 : decode cX5_add 49 = .ok (.putfield 21, 3) := by decide +kernel
theorem dX5_add_52 : decode cX5_add 52 = .ok (.aload_n 0, 1) := by decide +kernel
theorem dX5_add_53 : decode cX5_add 53 = .ok (.getfield 21, 3) := by decide +kernel
theorem dX5_add_56 : decode cX5_add 56 = .ok (.ireturn, 1) := by decide +kernel
theorem dX5_fit_0 : decode cX5_fit 0 = .ok (.iconst 0, 1) := by decide +kernel
theorem dX5_fit_1 : decode cX5_fit 1 = .ok (.istore_n 3, 1) := by decide +kernel
theorem dX5_fit_2 : decode cX5_fit 2 = .ok (.iload_n 3, 1) := by decide +kernel
theorem dX5_fit_3 : decode cX5_fit 3 = .ok (.aload_n 0, 1) := by decide +kernel
theorem dX5_fit_4 : decode cX5_fit 4 = .ok (.getfield 21, 3) := by decide +kernel
theorem dX5_fit_7 : decode cX5_fit 7 = .ok (.if_icmp .ge 84, 3) := by decide +kernel
theorem dX5_fit_10 : decode cX5_fit 10 = .ok (.aload_n 0, 1) := by decide +kernel
theorem dX5_fit_11 : decode cX5_fit 11 = .ok (.getfield 18, 3) := by decide +kernel
theorem dX5_fit_14 : decode cX5_fit 14 = .ok (.iload_n 3, 1) := by decide +kernel
theorem dX5_fit_15 : decode cX5_fit 15 = .ok (.iaload, 1) := by decide +kernel
theorem dX5_fit_16 : decode cX5_fit 16 = .ok (.iconst (-1), 1) := by decide +kernel
theorem dX5_fit_17 : decode cX5_fit 17 = .ok (.if_icmp .ne 32, 3) := by decide +kernel
theorem dX5_fit_20 : decode cX5_fit 20 = .ok (.aload_n 2, 1) := by decide +kernel
theorem dX5_fit_21 : decode cX5_fit 21 = .ok (.aload_n 1, 1) := by decide +kernel
theorem dX5_fit_22 : decode cX5_fit 22 = .ok (.aload_n 0, 1) := by decide +kernel
theorem dX5_fit_23 : decode cX5_fit 23 = .ok (.getfield 15, 3) := by decide +kernel
theorem dX5_fit_26 : decode cX5_fit 26 = .ok (.iload_n 3, 1) := by decide +kernel
theorem dX5_fit_27 : decode cX5_fit 27 = .ok (.iaload, 1) := by decide +kernel
theorem dX5_fit_28 : decode cX5_fit 28 = .ok (.aload_n 0, 1) := by decide +kernel
theorem dX5_fit_29 : decode cX5_fit 29 = .ok (.getfield 9, 3) := by decide +kernel
theorem dX5_fit_32 : decode cX5_fit 32 = .ok (.iload_n 3, 1) := by decide +kernel
theorem dX5_fit_33 : decode cX5_fit 33 = .ok (.iaload, 1) := by decide +kernel
theorem dX5_fit_34 : decode cX5_fit 34 = .ok (.invokevirtual 29, 3) := by decide +kernel
theorem dX5_fit_37 : decode cX5_fit 37 = .ok (.iconst (-1), 1) := by decide +kernel
theorem dX5_fit_38 : decode cX5_fit 38 = .ok (.if_icmp .ne 7, 3) := by decide +kernel
theorem dX5_fit_41 : decode cX5_fit 41 = .ok (.iconst 1, 1) := by decide +kernel
theorem dX5_fit_42 : decode cX5_fit 42 = .ok (.goto 34, 3) := by decide +kernel
theorem dX5_fit_45 : decode cX5_fit 45 = .ok (.iconst 0, 1) := by decide +kernel
theorem dX5_fit_46 : decode cX5_fit 46 = .ok (.goto 30, 3) := by decide +kernel
theorem dX5_fit_49 : decode cX5_fit 49 = .ok (.aload_n 2, 1) := by decide +kernel
theorem dX5_fit_50 : decode cX5_fit 50 = .ok (.aload_n 1, 1) := by decide +kernel
theorem dX5_fit_51 : decode cX5_fit 51 = .ok (.aload_n 0, 1) := by decide +kernel
theorem dX5_fit_52 : decode cX5_fit 52 = .ok (.getfield 18, 3) := by decide +kernel
theorem dX5_fit_55 : decode cX5_fit 55 = .ok (.iload_n 3, 1) := by decide +kernel
theorem dX5_fit_56 : decode cX5_fit 56 = .ok (.iaload, 1) := by decide +kernel
theorem dX5_fit_57 : decode cX5_fit 57 = .ok (.aload_n 0, 1) := by decide +kernel
theorem dX5_fit_58 : decode cX5_fit 58 = .ok (.getfield 9, 3) := by decide +kernel
theorem dX5_fit_61 : decode cX5_fit 61 = .ok (.iload_n 3, 1) := by decide +kernel
theorem dX5_fit_62 : decode cX5_fit 62 = .ok (.iaload, 1) := by decide +kernel
theorem dX5_fit_63 : decode cX5_fit 63 = .ok (.invokevirtual 35, 3) := by decide +kernel
theorem dX5_fit_66 : decode cX5_fit 66 = .ok (.bipush 50, 2) := by decide +kernel
theorem dX5_fit_68 : decode cX5_fit 68 = .ok (.if_icmp .lt 7, 3) := by decide +kernel
theorem dX5_fit_71 : decode cX5_fit 71 = .ok (.iconst 1, 1) := by decide +kernel
theorem dX5_fit_72 : decode cX5_fit 72 = .ok (.goto 4, 3) := by decide +kernel
theorem dX5_fit_75 : decode cX5_fit 75 = .ok (.iconst 0, 1) := by decide +kernel
theorem dX5_fit_76 : decode cX5_fit 76 = .ok (.istore 4, 2) := by decide +kernel
theorem dX5_fit_78 : decode cX5_fit 78 = .ok (.iload 4, 2) := by decide +kernel
theorem dX5_fit_80 : decode cX5_fit 80 = .ok (.ifCond .ne 5, 3) := by decide +kernel
theorem dX5_fit_83 : decode cX5_fit 83 = .ok (.iconst 0, 1) := by decide +kernel
theorem dX5_fit_84 : decode cX5_fit 84 = .ok (.ireturn, 1) := by decide +kernel
theorem dX5_fit_85 : decode cX5_fit 85 = .ok (.iinc 3 1, 3) := by decide +kernel
theorem dX5_fit_88 : decode cX5_fit 88 = .ok (.goto (-86), 3) := by decide +kernel
theorem dX5_fit_91 : decode cX5_fit 91 = .ok (.iconst 1, 1) := by decide +kernel
theorem dX5_fit_92 : decode cX5_fit 92 = .ok (.ireturn, 1) := by decide +kernel
theorem dX6_init_0 : decode cX6_init 0 = .ok (.aload_n 0, 1) := by decide +kernel
theorem dX6_init_1 : decode cX6_init 1 = .ok (.invokespecial 3, 3) := by decide +kernel
theorem dX6_init_4 : decode cX6_init 4 = .ok (.aload_n 0, 1) := by decide +kernel
theorem dX6_init_5 : decode cX6_init 5 = .ok (.iconst 4, 1) := by decide +kernel
theorem dX6_init_6 : decode cX6_init 6 = .ok (.newarray .int, 2) := by decide +kernel
theorem dX6_init_8 : decode cX6_init 8 = .ok (.putfield 9, 3) := by decide +kernel
theorem dX6_init_11 : decode cX6_init 11 = .ok (.aload_n 0, 1) := by decide +kernel
theorem dX6_init_12 : decode cX6_init 12 = .ok (.iconst 4, 1) := by decide +kernel
theorem dX6_init_13 : decode cX6_init 13 = .ok (.newarray .int, 2) := by decide +kernel
theorem dX6_init_15 : decode cX6_init 15 = .ok (.putfield 15, 3) := by decide +kernel
theorem dX6_init_18 : decode cX6_init 18 = .ok (.aload_n 0, 1) := by decide +kernel
theorem dX6_init_19 : decode cX6_init 19 = .ok (.iconst 0, 1) := by decide +kernel
theorem dX6_init_20 : decode cX6_init 20 = .ok (.putfield 18, 3) := by decide +kernel
theorem dX6_init_23 : decode cX6_init 23 = .ok (.return_, 1) := by decide +kernel
theorem dX6_add_0 : decode cX6_add 0 = .ok (.aload_n 0, 1) := by decide +kernel
theorem dX6_add_1 : decode cX6_add 1 = .ok (.getfield 18, 3) := by decide +kernel
theorem dX6_add_4 : decode cX6_add 4 = .ok (.iconst 4, 1) := by decide +kernel
theorem dX6_add_5 : decode cX6_add 5 = .ok (.if_icmp .lt 6, 3) := by decide +kernel
theorem dX6_add_8 : decode cX6_add 8 = .ok (.bipush (-5), 2) := by decide +kernel
theorem dX6_add_10 : decode cX6_add 10 = .ok (.ireturn, 1) := by decide +kernel
theorem dX6_add_11 : decode cX6_add 11 = .ok (.aload_n 0, 1) := by decide +kernel
theorem dX6_add_12 : decode cX6_add 12 = .ok (.getfield 9, 3) := by decide +kernel
theorem dX6_add_15 : decode cX6_add 15 = .ok (.aload_n 0, 1) := by decide +kernel
theorem dX6_add_16 : decode cX6_add 16 = .ok (.getfield 18, 3) := by decide +kernel
theorem dX6_add_19 : decode cX6_add 19 = .ok (.iload_n 1, 1) := by decide +kernel
theorem dX6_add_20 : decode cX6_add 20 = .ok (.iastore, 1) := by decide +kernel
theorem dX6_add_21 : decode cX6_add 21 = .ok (.aload_n 0, 1) := by decide +kernel
theorem dX6_add_22 : decode cX6_add 22 = .ok (.getfield 15, 3) := by decide +kernel
theorem dX6_add_25 : decode cX6_add 25 = .ok (.aload_n 0, 1) := by decide +kernel
theorem dX6_add_26 : decode cX6_add 26 = .ok (.getfield 18, 3) := by decide +kernel
theorem dX6_add_29 : decode cX6_add 29 = .ok (.iload_n 2, 1) := by decide +kernel
theorem dX6_add_30 : decode cX6_add 30 = .ok (.iastore, 1) := by decide +kernel
theorem dX6_add_31 : decode cX6_add 31 = .ok (.aload_n 0, 1) := by decide +kernel
theorem dX6_add_32 : decode cX6_add 32 = .ok (.dup, 1) := by decide +kernel
theorem dX6_add_33 : decode cX6_add 33 = .ok (.getfield 18, 3) := by decide +kernel
theorem dX6_add_36 : decode cX6_add 36 = .ok (.iconst 1, 1) := by decide +kernel
theorem dX6_add_37 : decode cX6_add 37 = .ok (.iadd, 1) := by decide +kernel
theorem dX6_add_38 : decode cX6_add 38 = .ok (.putfield 18, 3) := by decide +kernel
theorem dX6_add_41 : decode cX6_add 41 = .ok (.aload_n 0, 1) := by decide +kernel
theorem dX6_add_42 : decode cX6_add 42 = .ok (.getfield 18, 3) := by decide +kernel
theorem dX6_add_45 : decode cX6_add 45 = .ok (.ireturn, 1) := by decide +kernel
theorem dX6_allLines_0 : decode cX6_allLines 0 = .ok (.iconst 1, 1) := by decide +kernel
theorem dX6_allLines_1 : decode cX6_allLines 1 = .ok (.aload_n 0, 1) := by decide +kernel
theorem dX6_allLines_2 : decode cX6_allLines 2 = .ok (.getfield 18, 3) := by decide +kernel
theorem dX6_allLines_5 : decode cX6_allLines 5 = .ok (.ishl, 1) := by decide +kernel
theorem dX6_allLines_6 : decode cX6_allLines 6 = .ok (.iconst 1, 1) := by decide +kernel
theorem dX6_allLines_7 : decode cX6_allLines 7 = .ok (.isub, 1) := by decide +kernel
theorem dX6_allLines_8 : decode cX6_allLines 8 = .ok (.ireturn, 1) := by decide +kernel
theorem dX7_init_0 : decode cX7_init 0 = .ok (.aload_n 0, 1) := by decide +kernel
theorem dX7_init_1 : decode cX7_init 1 = .ok (.invokespecial 3, 3) := by decide +kernel
theorem dX7_init_4 : decode cX7_init 4 = .ok (.aload_n 0, 1) := by decide +kernel
theorem dX7_init_5 : decode cX7_init 5 = .ok (.sipush 160, 3) := by decide +kernel
theorem dX7_init_8 : decode cX7_init 8 = .ok (.newarray .int, 2) := by decide +kernel
theorem dX7_init_10 : decode cX7_init 10 = .ok (.putfield 9, 3) := by decide +kernel
theorem dX7_init_13 : decode cX7_init 13 = .ok (.aload_n 0, 1) := by decide +kernel
theorem dX7_init_14 : decode cX7_init 14 = .ok (.bipush 8, 2) := by decide +kernel
theorem dX7_init_16 : decode cX7_init 16 = .ok (.newarray .int, 2) := by decide +kernel
theorem dX7_init_18 : decode cX7_init 18 = .ok (.putfield 15, 3) := by decide +kernel
theorem dX7_init_21 : decode cX7_init 21 = .ok (.aload_n 0, 1) := by decide +kernel
theorem dX7_init_22 : decode cX7_init 22 = .ok (.bipush 8, 2) := by decide +kernel
theorem dX7_init_24 : decode cX7_init 24 = .ok (.newarray .int, 2) := by decide +kernel
theorem dX7_init_26 : decode cX7_init 26 = .ok (.putfield 18, 3) := by decide +kernel
theorem dX7_init_29 : decode cX7_init 29 = .ok (.aload_n 0, 1) := by decide +kernel
theorem dX7_init_30 : decode cX7_init 30 = .ok (.bipush 8, 2) := by decide +kernel
theorem dX7_init_32 : decode cX7_init 32 = .ok (.newarray .int, 2) := by decide +kernel
theorem dX7_init_34 : decode cX7_init 34 = .ok (.putfield 21, 3) := by decide +kernel
theorem dX7_init_37 : decode cX7_init 37 = .ok (.aload_n 0, 1) := by decide +kernel
theorem dX7_init_38 : decode cX7_init 38 = .ok (.iconst 0, 1) := by decide +kernel
theorem dX7_init_39 : decode cX7_init 39 = .ok (.putfield 24, 3) := by decide +kernel
theorem dX7_init_42 : decode cX7_init 42 = .ok (.aload_n 0, 1) := by decide +kernel
theorem dX7_init_43 : decode cX7_init 43 = .ok (.iconst 0, 1) := by decide +kernel
theorem dX7_init_44 : decode cX7_init 44 = .ok (.putfield 28, 3) := by decide +kernel
theorem dX7_init_47 : decode cX7_init 47 = .ok (.aload_n 0, 1) := by decide +kernel
theorem dX7_init_48 : decode cX7_init 48 = .ok (.iconst 0, 1) := by decide +kernel
theorem dX7_init_49 : decode cX7_init 49 = .ok (.putfield 31, 3) := by decide +kernel
theorem dX7_init_52 : decode cX7_init 52 = .ok (.aload_n 0, 1) := by decide +kernel
theorem dX7_init_53 : decode cX7_init 53 = .ok (.iconst 0, 1) := by decide +kernel
theorem dX7_init_54 : decode cX7_init 54 = .ok (.putfield 34, 3) := by decide +kernel
theorem dX7_init_57 : decode cX7_init 57 = .ok (.return_, 1) := by decide +kernel
theorem dX7_append_0 : decode cX7_append 0 = .ok (.aload_n 0, 1) := by decide +kernel
theorem dX7_append_1 : decode cX7_append 1 = .ok (.getfield 24, 3) := by decide +kernel
theorem dX7_append_4 : decode cX7_append 4 = .ok (.iload_n 3, 1) := by decide +kernel
theorem dX7_append_5 : decode cX7_append 5 = .ok (.iadd, 1) := by decide +kernel
theorem dX7_append_6 : decode cX7_append 6 = .ok (.sipush 160, 3) := by decide +kernel
theorem dX7_append_9 : decode cX7_append 9 = .ok (.if_icmp .le 6, 3) := by decide +kernel
theorem dX7_append_12 : decode cX7_append 12 = .ok (.bipush (-5), 2) := by decide +kernel
theorem dX7_append_14 : decode cX7_append 14 = .ok (.ireturn, 1) := by decide +kernel
theorem dX7_append_15 : decode cX7_append 15 = .ok (.iconst 0, 1) := by decide +kernel
theorem dX7_append_16 : decode cX7_append 16 = .ok (.istore 4, 2) := by decide +kernel
theorem dX7_append_18 : decode cX7_append 18 = .ok (.iload 4, 2) := by decide +kernel
theorem dX7_append_20 : decode cX7_append 20 = .ok (.iload_n 3, 1) := by decide +kernel
theorem dX7_append_21 : decode cX7_append 21 = .ok (.if_icmp .ge 33, 3) := by decide +kernel
theorem dX7_append_24 : decode cX7_append 24 = .ok (.aload_n 0, 1) := by decide +kernel
theorem dX7_append_25 : decode cX7_append 25 = .ok (.getfield 9, 3) := by decide +kernel
theorem dX7_append_28 : decode cX7_append 28 = .ok (.aload_n 0, 1) := by decide +kernel
theorem dX7_append_29 : decode cX7_append 29 = .ok (.getfield 24, 3) := by decide +kernel
theorem dX7_append_32 : decode cX7_append 32 = .ok (.iload 4, 2) := by decide +kernel
theorem dX7_append_34 : decode cX7_append 34 = .ok (.iadd, 1) := by decide +kernel
theorem dX7_append_35 : decode cX7_append 35 = .ok (.lload_n 1, 1) := by decide +kernel
theorem dX7_append_36 : decode cX7_append 36 = .ok (.bipush 8, 2) := by decide +kernel
theorem dX7_append_38 : decode cX7_append 38 = .ok (.iload 4, 2) := by decide +kernel
theorem dX7_append_40 : decode cX7_append 40 = .ok (.imul, 1) := by decide +kernel
theorem dX7_append_41 : decode cX7_append 41 = .ok (.lshr, 1) := by decide +kernel
theorem dX7_append_42 : decode cX7_append 42 = .ok (.ldc2_w 37, 3) := by decide +kernel
theorem dX7_append_45 : decode cX7_append 45 = .ok (.land, 1) := by decide +kernel
theorem dX7_append_46 : decode cX7_append 46 = .ok (.l2i, 1) := by decide +kernel
theorem dX7_append_47 : decode cX7_append 47 = .ok (.iastore, 1) := by decide +kernel
theorem dX7_append_48 : decode cX7_append 48 = .ok (.iinc 4 1, 3) := by decide +kernel
theorem dX7_append_51 : decode cX7_append 51 = .ok (.goto (-33), 3) := by decide +kernel
theorem dX7_append_54 : decode cX7_append 54 = .ok (.aload_n 0, 1) := by decide +kernel
theorem dX7_append_55 : decode cX7_append 55 = .ok (.dup, 1) := by decide +kernel
theorem dX7_append_56 : decode cX7_append 56 = .ok (.getfield 24, 3) := by decide +kernel
theorem dX7_append_59 : decode cX7_append 59 = .ok (.iload_n 3, 1) := by decide +kernel
theorem dX7_append_60 : decode cX7_append 60 = .ok (.iadd, 1) := by decide +kernel
theorem dX7_append_61 : decode cX7_append 61 = .ok (.putfield 24, 3) := by decide +kernel
theorem dX7_append_64 : decode cX7_append 64 = .ok (.aload_n 0, 1) := by decide +kernel
theorem dX7_append_65 : decode cX7_append 65 = .ok (.getfield 24, 3) := by decide +kernel
theorem dX7_append_68 : decode cX7_append 68 = .ok (.ireturn, 1) := by decide +kernel
theorem dX7_empty_0 : decode cX7_empty 0 = .ok (.aload_n 0, 1) := by decide +kernel
theorem dX7_empty_1 : decode cX7_empty 1 = .ok (.getfield 24, 3) := by decide +kernel
theorem dX7_empty_4 : decode cX7_empty 4 = .ok (.istore_n 1, 1) := by decide +kernel
theorem dX7_empty_5 : decode cX7_empty 5 = .ok (.aload_n 0, 1) := by decide +kernel
theorem dX7_empty_6 : decode cX7_empty 6 = .ok (.iconst 0, 1) := by decide +kernel
theorem dX7_empty_7 : decode cX7_empty 7 = .ok (.putfield 24, 3) := by decide +kernel
theorem dX7_empty_10 : decode cX7_empty 10 = .ok (.iload_n 1, 1) := by decide +kernel
theorem dX7_empty_11 : decode cX7_empty 11 = .ok (.ireturn, 1) := by decide +kernel
theorem dX7_firstFault_0 : decode cX7_firstFault 0 = .ok (.aload_n 0, 1) := by decide +kernel
theorem dX7_firstFault_1 : decode cX7_firstFault 1 = .ok (.iconst 0, 1) := by decide +kernel
theorem dX7_firstFault_2 : decode cX7_firstFault 2 = .ok (.putfield 28, 3) := by decide +kernel
theorem dX7_firstFault_5 : decode cX7_firstFault 5 = .ok (.aload_n 0, 1) := by decide +kernel
theorem dX7_firstFault_6 : decode cX7_firstFault 6 = .ok (.iconst 0, 1) := by decide +kernel
theorem dX7_firstFault_7 : decode cX7_firstFault 7 = .ok (.putfield 34, 3) := by decide +kernel
theorem dX7_firstFault_10 : decode cX7_firstFault 10 = .ok (.aload_n 0, 1) := by decide +kernel
theorem dX7_firstFault_11 : decode cX7_firstFault 11 = .ok (.invokevirtual 39, 3) := by decide +kernel
theorem dX7_firstFault_14 : decode cX7_firstFault 14 = .ok (.aload_n 0, 1) := by decide +kernel
theorem dX7_firstFault_15 : decode cX7_firstFault 15 = .ok (.getfield 28, 3) := by decide +kernel
theorem dX7_firstFault_18 : decode cX7_firstFault 18 = .ok (.bipush 8, 2) := by decide +kernel
theorem dX7_firstFault_20 : decode cX7_firstFault 20 = .ok (.if_icmp .ge 75, 3) := by decide +kernel
theorem dX7_firstFault_23 : decode cX7_firstFault 23 = .ok (.iload_n 1, 1) := by decide +kernel
theorem dX7_firstFault_24 : decode cX7_firstFault 24 = .ok (.ifCond .eq 13, 3) := by decide +kernel
theorem dX7_firstFault_27 : decode cX7_firstFault 27 = .ok (.aload_n 0, 1) := by decide +kernel
theorem dX7_firstFault_28 : decode cX7_firstFault 28 = .ok (.invokevirtual 42, 3) := by decide +kernel
theorem dX7_firstFault_31 : decode cX7_firstFault 31 = .ok (.ifCond .eq 13, 3) := by decide +kernel
theorem dX7_firstFault_34 : decode cX7_firstFault 34 = .ok (.goto 15, 3) := by decide +kernel
theorem dX7_firstFault_37 : decode cX7_firstFault 37 = .ok (.aload_n 0, 1) := by decide +kernel
theorem dX7_firstFault_38 : decode cX7_firstFault 38 = .ok (.invokevirtual 46, 3) := by decide +kernel
theorem dX7_firstFault_41 : decode cX7_firstFault 41 = .ok (.ifCond .ne 8, 3) := by decide +kernel
theorem dX7_firstFault_44 : decode cX7_firstFault 44 = .ok (.aload_n 0, 1) := by decide +kernel
theorem dX7_firstFault_45 : decode cX7_firstFault 45 = .ok (.getfield 31, 3) := by decide +kernel
theorem dX7_firstFault_48 : decode cX7_firstFault 48 = .ok (.ireturn, 1) := by decide +kernel
theorem dX7_firstFault_49 : decode cX7_firstFault 49 = .ok (.aload_n 0, 1) := by decide +kernel
theorem dX7_firstFault_50 : decode cX7_firstFault 50 = .ok (.dup, 1) := by decide +kernel
theorem dX7_firstFault_51 : decode cX7_firstFault 51 = .ok (.getfield 28, 3) := by decide +kernel
theorem dX7_firstFault_54 : decode cX7_firstFault 54 = .ok (.iconst 1, 1) := by decide +kernel
theorem dX7_firstFault_55 : decode cX7_firstFault 55 = .ok (.iadd, 1) := by decide +kernel
theorem dX7_firstFault_56 : decode cX7_firstFault 56 = .ok (.putfield 28, 3) := by decide +kernel
theorem dX7_firstFault_59 : decode cX7_firstFault 59 = .ok (.aload_n 0, 1) := by decide +kernel
theorem dX7_firstFault_60 : decode cX7_firstFault 60 = .ok (.getfield 31, 3) := by decide +kernel
theorem dX7_firstFault_63 : decode cX7_firstFault 63 = .ok (.aload_n 0, 1) := by decide +kernel
theorem dX7_firstFault_64 : decode cX7_firstFault 64 = .ok (.getfield 24, 3) := by decide +kernel
theorem dX7_firstFault_67 : decode cX7_firstFault 67 = .ok (.if_icmp .ne 5, 3) := by decide +kernel
theorem dX7_firstFault_70 : decode cX7_firstFault 70 = .ok (.iconst (-1), 1) := by decide +kernel
theorem dX7_firstFault_71 : decode cX7_firstFault 71 = .ok (.ireturn, 1) := by decide +kernel
theorem dX7_firstFault_72 : decode cX7_firstFault 72 = .ok (.aload_n 0, 1) := by decide +kernel
theorem dX7_firstFault_73 : decode cX7_firstFault 73 = .ok (.getfield 28, 3) := by decide +kernel
theorem dX7_firstFault_76 : decode cX7_firstFault 76 = .ok (.bipush 8, 2) := by decide +kernel
theorem dX7_firstFault_78 : decode cX7_firstFault 78 = .ok (.if_icmp .eq 12, 3) := by decide +kernel
theorem dX7_firstFault_81 : decode cX7_firstFault 81 = .ok (.aload_n 0, 1) := by decide +kernel
theorem dX7_firstFault_82 : decode cX7_firstFault 82 = .ok (.ldc 49, 2) := by decide +kernel
theorem dX7_firstFault_84 : decode cX7_firstFault 84 = .ok (.invokevirtual 51, 3) := by decide +kernel
theorem dX7_firstFault_87 : decode cX7_firstFault 87 = .ok (.ifCond .ne (-73), 3) := by decide +kernel
theorem dX7_firstFault_90 : decode cX7_firstFault 90 = .ok (.aload_n 0, 1) := by decide +kernel
theorem dX7_firstFault_91 : decode cX7_firstFault 91 = .ok (.getfield 31, 3) := by decide +kernel
theorem dX7_firstFault_94 : decode cX7_firstFault 94 = .ok (.ireturn, 1) := by decide +kernel
theorem dX7_firstFault_95 : decode cX7_firstFault 95 = .ok (.aload_n 0, 1) := by decide +kernel
theorem dX7_firstFault_96 : decode cX7_firstFault 96 = .ok (.getfield 31, 3) := by decide +kernel
theorem dX7_firstFault_99 : decode cX7_firstFault 99 = .ok (.ireturn, 1) := by decide +kernel
theorem dX7_readLifeLine_0 : decode cX7_readLifeLine 0 = .ok (.aload_n 0, 1) := by decide +kernel
theorem dX7_readLifeLine_1 : decode cX7_readLifeLine 1 = .ok (.ldc 55, 2) := by decide +kernel
theorem dX7_readLifeLine_3 : decode cX7_readLifeLine 3 = .ok (.invokevirtual 51, 3) := by decide +kernel
theorem dX7_readLifeLine_6 : decode cX7_readLifeLine 6 = .ok (.ifCond .ne 5, 3) := by decide +kernel
theorem dX7_readLifeLine_9 : decode cX7_readLifeLine 9 = .ok (.iconst 0, 1) := by decide +kernel
theorem dX7_readLifeLine_10 : decode cX7_readLifeLine 10 = .ok (.ireturn, 1) := by decide +kernel
theorem dX7_readLifeLine_11 : decode cX7_readLifeLine 11 = .ok (.aload_n 0, 1) := by decide +kernel
theorem dX7_readLifeLine_12 : decode cX7_readLifeLine 12 = .ok (.getfield 15, 3) := by decide +kernel
theorem dX7_readLifeLine_15 : decode cX7_readLifeLine 15 = .ok (.aload_n 0, 1) := by decide +kernel
theorem dX7_readLifeLine_16 : decode cX7_readLifeLine 16 = .ok (.getfield 28, 3) := by decide +kernel
theorem dX7_readLifeLine_19 : decode cX7_readLifeLine 19 = .ok (.aload_n 0, 1) := by decide +kernel
theorem dX7_readLifeLine_20 : decode cX7_readLifeLine 20 = .ok (.iconst 0, 1) := by decide +kernel
theorem dX7_readLifeLine_21 : decode cX7_readLifeLine 21 = .ok (.bipush 7, 2) := by decide +kernel
theorem dX7_readLifeLine_23 : decode cX7_readLifeLine 23 = .ok (.invokevirtual 57, 3) := by decide +kernel
theorem dX7_readLifeLine_26 : decode cX7_readLifeLine 26 = .ok (.iastore, 1) := by decide +kernel
theorem dX7_readLifeLine_27 : decode cX7_readLifeLine 27 = .ok (.aload_n 0, 1) := by decide +kernel
theorem dX7_readLifeLine_28 : decode cX7_readLifeLine 28 = .ok (.getfield 15, 3) := by decide +kernel
theorem dX7_readLifeLine_31 : decode cX7_readLifeLine 31 = .ok (.aload_n 0, 1) := by decide +kernel
theorem dX7_readLifeLine_32 : decode cX7_readLifeLine 32 = .ok (.getfield 28, 3) := by decide +kernel
theorem dX7_readLifeLine_35 : decode cX7_readLifeLine 35 = .ok (.iaload, 1) := by decide +kernel
theorem dX7_readLifeLine_36 : decode cX7_readLifeLine 36 = .ok (.iconst (-1), 1) := by decide +kernel
theorem dX7_readLifeLine_37 : decode cX7_readLifeLine 37 = .ok (.if_icmp .eq 12, 3) := by decide +kernel
theorem dX7_readLifeLine_40 : decode cX7_readLifeLine 40 = .ok (.aload_n 0, 1) := by decide +kernel
theorem dX7_readLifeLine_41 : decode cX7_readLifeLine 41 = .ok (.ldc 61, 2) := by decide +kernel
theorem dX7_readLifeLine_43 : decode cX7_readLifeLine 43 = .ok (.invokevirtual 51, 3) := by decide +kernel
theorem dX7_readLifeLine_46 : decode cX7_readLifeLine 46 = .ok (.ifCond .ne 5, 3) := by decide +kernel
theorem dX7_readLifeLine_49 : decode cX7_readLifeLine 49 = .ok (.iconst 0, 1) := by decide +kernel
theorem dX7_readLifeLine_50 : decode cX7_readLifeLine 50 = .ok (.ireturn, 1) := by decide +kernel
theorem dX7_readLifeLine_51 : decode cX7_readLifeLine 51 = .ok (.aload_n 0, 1) := by decide +kernel
theorem dX7_readLifeLine_52 : decode cX7_readLifeLine 52 = .ok (.getfield 18, 3) := by decide +kernel
theorem dX7_readLifeLine_55 : decode cX7_readLifeLine 55 = .ok (.aload_n 0, 1) := by decide +kernel
theorem dX7_readLifeLine_56 : decode cX7_readLifeLine 56 = .ok (.getfield 28, 3) := by decide +kernel
theorem dX7_readLifeLine_59 : decode cX7_readLifeLine 59 = .ok (.aload_n 0, 1) := by decide +kernel
theorem dX7_readLifeLine_60 : decode cX7_readLifeLine 60 = .ok (.iconst 0, 1) := by decide +kernel
theorem dX7_readLifeLine_61 : decode cX7_readLifeLine 61 = .ok (.bipush 60, 2) := by decide +kernel
theorem dX7_readLifeLine_63 : decode cX7_readLifeLine 63 = .ok (.invokevirtual 57, 3) := by decide +kernel
theorem dX7_readLifeLine_66 : decode cX7_readLifeLine 66 = .ok (.iastore, 1) := by decide +kernel
theorem dX7_readLifeLine_67 : decode cX7_readLifeLine 67 = .ok (.aload_n 0, 1) := by decide +kernel
theorem dX7_readLifeLine_68 : decode cX7_readLifeLine 68 = .ok (.getfield 18, 3) := by decide +kernel
theorem dX7_readLifeLine_71 : decode cX7_readLifeLine 71 = .ok (.aload_n 0, 1) := by decide +kernel
theorem dX7_readLifeLine_72 : decode cX7_readLifeLine 72 = .ok (.getfield 28, 3) := by decide +kernel
theorem dX7_readLifeLine_75 : decode cX7_readLifeLine 75 = .ok (.iaload, 1) := by decide +kernel
theorem dX7_readLifeLine_76 : decode cX7_readLifeLine 76 = .ok (.iconst (-1), 1) := by decide +kernel
theorem dX7_readLifeLine_77 : decode cX7_readLifeLine 77 = .ok (.if_icmp .eq 12, 3) := by decide +kernel
theorem dX7_readLifeLine_80 : decode cX7_readLifeLine 80 = .ok (.aload_n 0, 1) := by decide +kernel
theorem dX7_readLifeLine_81 : decode cX7_readLifeLine 81 = .ok (.ldc 63, 2) := by decide +kernel
theorem dX7_readLifeLine_83 : decode cX7_readLifeLine 83 = .ok (.invokevirtual 51, 3) := by decide +kernel
theorem dX7_readLifeLine_86 : decode cX7_readLifeLine 86 = .ok (.ifCond .ne 5, 3) := by decide +kernel
theorem dX7_readLifeLine_89 : decode cX7_readLifeLine 89 = .ok (.iconst 0, 1) := by decide +kernel
theorem dX7_readLifeLine_90 : decode cX7_readLifeLine 90 = .ok (.ireturn, 1) := by decide +kernel
theorem dX7_readLifeLine_91 : decode cX7_readLifeLine 91 = .ok (.aload_n 0, 1) := by decide +kernel
theorem dX7_readLifeLine_92 : decode cX7_readLifeLine 92 = .ok (.getfield 21, 3) := by decide +kernel
theorem dX7_readLifeLine_95 : decode cX7_readLifeLine 95 = .ok (.aload_n 0, 1) := by decide +kernel
theorem dX7_readLifeLine_96 : decode cX7_readLifeLine 96 = .ok (.getfield 28, 3) := by decide +kernel
theorem dX7_readLifeLine_99 : decode cX7_readLifeLine 99 = .ok (.aload_n 0, 1) := by decide +kernel
theorem dX7_readLifeLine_100 : decode cX7_readLifeLine 100 = .ok (.aload_n 0, 1) := by decide +kernel
theorem dX7_readLifeLine_101 : decode cX7_readLifeLine 101 = .ok (.getfield 18, 3) := by decide +kernel
theorem dX7_readLifeLine_104 : decode cX7_readLifeLine 104 = .ok (.aload_n 0, 1) := by decide +kernel
theorem dX7_readLifeLine_105 : decode cX7_readLifeLine 105 = .ok (.getfield 28, 3) := by decide +kernel
theorem dX7_readLifeLine_108 : decode cX7_readLifeLine 108 = .ok (.iaload, 1) := by decide +kernel
theorem dX7_readLifeLine_109 : decode cX7_readLifeLine 109 = .ok (.bipush 60, 2) := by decide +kernel
theorem dX7_readLifeLine_111 : decode cX7_readLifeLine 111 = .ok (.invokevirtual 57, 3) := by decide +kernel
theorem dX7_readLifeLine_114 : decode cX7_readLifeLine 114 = .ok (.iastore, 1) := by decide +kernel
theorem dX7_readLifeLine_115 : decode cX7_readLifeLine 115 = .ok (.aload_n 0, 1) := by decide +kernel
theorem dX7_readLifeLine_116 : decode cX7_readLifeLine 116 = .ok (.getfield 21, 3) := by decide +kernel
theorem dX7_readLifeLine_119 : decode cX7_readLifeLine 119 = .ok (.aload_n 0, 1) := by decide +kernel
theorem dX7_readLifeLine_120 : decode cX7_readLifeLine 120 = .ok (.getfield 28, 3) := by decide +kernel
theorem dX7_readLifeLine_123 : decode cX7_readLifeLine 123 = .ok (.iaload, 1) := by decide +kernel
theorem dX7_readLifeLine_124 : decode cX7_readLifeLine 124 = .ok (.iconst (-1), 1) := by decide +kernel
theorem dX7_readLifeLine_125 : decode cX7_readLifeLine 125 = .ok (.if_icmp .eq 7, 3) := by decide +kernel
theorem dX7_readLifeLine_128 : decode cX7_readLifeLine 128 = .ok (.iconst 1, 1) := by decide +kernel
theorem dX7_readLifeLine_129 : decode cX7_readLifeLine 129 = .ok (.goto 4, 3) := by decide +kernel
theorem dX7_readLifeLine_132 : decode cX7_readLifeLine 132 = .ok (.iconst 0, 1) := by decide +kernel
theorem dX7_readLifeLine_133 : decode cX7_readLifeLine 133 = .ok (.ireturn, 1) := by decide +kernel
theorem dX7_readTableLine_0 : decode cX7_readTableLine 0 = .ok (.iconst 0, 1) := by decide +kernel
theorem dX7_readTableLine_1 : decode cX7_readTableLine 1 = .ok (.istore_n 1, 1) := by decide +kernel
theorem dX7_readTableLine_2 : decode cX7_readTableLine 2 = .ok (.iload_n 1, 1) := by decide +kernel
theorem dX7_readTableLine_3 : decode cX7_readTableLine 3 = .ok (.bipush 6, 2) := by decide +kernel
theorem dX7_readTableLine_5 : decode cX7_readTableLine 5 = .ok (.if_icmp .ge 20, 3) := by decide +kernel
theorem dX7_readTableLine_8 : decode cX7_readTableLine 8 = .ok (.aload_n 0, 1) := by decide +kernel
theorem dX7_readTableLine_9 : decode cX7_readTableLine 9 = .ok (.iload_n 1, 1) := by decide +kernel
theorem dX7_readTableLine_10 : decode cX7_readTableLine 10 = .ok (.invokestatic 65, 3) := by decide +kernel
theorem dX7_readTableLine_13 : decode cX7_readTableLine 13 = .ok (.invokevirtual 51, 3) := by decide +kernel
theorem dX7_readTableLine_16 : decode cX7_readTableLine 16 = .ok (.ifCond .ne 9, 3) := by decide +kernel
theorem dX7_readTableLine_19 : decode cX7_readTableLine 19 = .ok (.iinc 1 1, 3) := by decide +kernel
theorem dX7_readTableLine_22 : decode cX7_readTableLine 22 = .ok (.goto (-20), 3) := by decide +kernel
theorem dX7_readTableLine_25 : decode cX7_readTableLine 25 = .ok (.iload_n 1, 1) := by decide +kernel
theorem dX7_readTableLine_26 : decode cX7_readTableLine 26 = .ok (.bipush 6, 2) := by decide +kernel
theorem dX7_readTableLine_28 : decode cX7_readTableLine 28 = .ok (.if_icmp .ne 5, 3) := by decide +kernel
theorem dX7_readTableLine_31 : decode cX7_readTableLine 31 = .ok (.iconst 0, 1) := by decide +kernel
theorem dX7_readTableLine_32 : decode cX7_readTableLine 32 = .ok (.ireturn, 1) := by decide +kernel
theorem dX7_readTableLine_33 : decode cX7_readTableLine 33 = .ok (.aload_n 0, 1) := by decide +kernel
theorem dX7_readTableLine_34 : decode cX7_readTableLine 34 = .ok (.getfield 15, 3) := by decide +kernel
theorem dX7_readTableLine_37 : decode cX7_readTableLine 37 = .ok (.aload_n 0, 1) := by decide +kernel
theorem dX7_readTableLine_38 : decode cX7_readTableLine 38 = .ok (.getfield 28, 3) := by decide +kernel
theorem dX7_readTableLine_41 : decode cX7_readTableLine 41 = .ok (.iload_n 1, 1) := by decide +kernel
theorem dX7_readTableLine_42 : decode cX7_readTableLine 42 = .ok (.iastore, 1) := by decide +kernel
theorem dX7_readTableLine_43 : decode cX7_readTableLine 43 = .ok (.aload_n 0, 1) := by decide +kernel
theorem dX7_readTableLine_44 : decode cX7_readTableLine 44 = .ok (.getfield 18, 3) := by decide +kernel
theorem dX7_readTableLine_47 : decode cX7_readTableLine 47 = .ok (.aload_n 0, 1) := by decide +kernel
theorem dX7_readTableLine_48 : decode cX7_readTableLine 48 = .ok (.getfield 28, 3) := by decide +kernel
theorem dX7_readTableLine_51 : decode cX7_readTableLine 51 = .ok (.aload_n 0, 1) := by decide +kernel
theorem dX7_readTableLine_52 : decode cX7_readTableLine 52 = .ok (.iconst 0, 1) := by decide +kernel
theorem dX7_readTableLine_53 : decode cX7_readTableLine 53 = .ok (.bipush 99, 2) := by decide +kernel
theorem dX7_readTableLine_55 : decode cX7_readTableLine 55 = .ok (.invokevirtual 57, 3) := by decide +kernel
theorem dX7_readTableLine_58 : decode cX7_readTableLine 58 = .ok (.iastore, 1) := by decide +kernel
theorem dX7_readTableLine_59 : decode cX7_readTableLine 59 = .ok (.aload_n 0, 1) := by decide +kernel
theorem dX7_readTableLine_60 : decode cX7_readTableLine 60 = .ok (.getfield 18, 3) := by decide +kernel
theorem dX7_readTableLine_63 : decode cX7_readTableLine 63 = .ok (.aload_n 0, 1) := by decide +kernel
theorem dX7_readTableLine_64 : decode cX7_readTableLine 64 = .ok (.getfield 28, 3) := by decide +kernel
theorem dX7_readTableLine_67 : decode cX7_readTableLine 67 = .ok (.iaload, 1) := by decide +kernel
theorem dX7_readTableLine_68 : decode cX7_readTableLine 68 = .ok (.iconst (-1), 1) := by decide +kernel
theorem dX7_readTableLine_69 : decode cX7_readTableLine 69 = .ok (.if_icmp .eq 7, 3) := by decide +kernel
theorem dX7_readTableLine_72 : decode cX7_readTableLine 72 = .ok (.iconst 1, 1) := by decide +kernel
theorem dX7_readTableLine_73 : decode cX7_readTableLine 73 = .ok (.goto 4, 3) := by decide +kernel
theorem dX7_readTableLine_76 : decode cX7_readTableLine 76 = .ok (.iconst 0, 1) := by decide +kernel
theorem dX7_readTableLine_77 : decode cX7_readTableLine 77 = .ok (.ireturn, 1) := by decide +kernel
theorem dX7_tableWord_0 : decode cX7_tableWord 0 = .ok (.iload_n 0, 1) := by decide +kernel
theorem dX7_tableWord_1 : decode cX7_tableWord 1 = .ok (.tableswitch 50 0 4 #[35, 38, 41, 44, 47], 35) := by decide +kernel
theorem dX7_tableWord_36 : decode cX7_tableWord 36 = .ok (.ldc 69, 2) := by decide +kernel
theorem dX7_tableWord_38 : decode cX7_tableWord 38 = .ok (.areturn, 1) := by decide +kernel
theorem dX7_tableWord_39 : decode cX7_tableWord 39 = .ok (.ldc 71, 2) := by decide +kernel
theorem dX7_tableWord_41 : decode cX7_tableWord 41 = .ok (.areturn, 1) := by decide +kernel
theorem dX7_tableWord_42 : decode cX7_tableWord 42 = .ok (.ldc 73, 2) := by decide +kernel
theorem dX7_tableWord_44 : decode cX7_tableWord 44 = .ok (.areturn, 1) := by decide +kernel
theorem dX7_tableWord_45 : decode cX7_tableWord 45 = .ok (.ldc 75, 2) := by decide +kernel
theorem dX7_tableWord_47 : decode cX7_tableWord 47 = .ok (.areturn, 1) := by decide +kernel
theorem dX7_tableWord_48 : decode cX7_tableWord 48 = .ok (.ldc 77, 2) := by decide +kernel
theorem dX7_tableWord_50 : decode cX7_tableWord 50 = .ok (.areturn, 1) := by decide +kernel
theorem dX7_tableWord_51 : decode cX7_tableWord 51 = .ok (.ldc 79, 2) := by decide +kernel
theorem dX7_tableWord_53 : decode cX7_tableWord 53 = .ok (.areturn, 1) := by decide +kernel
theorem dX7_passWord_0 : decode cX7_passWord 0 = .ok (.aload_n 0, 1) := by decide +kernel
theorem dX7_passWord_1 : decode cX7_passWord 1 = .ok (.getfield 34, 3) := by decide +kernel
theorem dX7_passWord_4 : decode cX7_passWord 4 = .ok (.aload_n 0, 1) := by decide +kernel
theorem dX7_passWord_5 : decode cX7_passWord 5 = .ok (.getfield 31, 3) := by decide +kernel
theorem dX7_passWord_8 : decode cX7_passWord 8 = .ok (.isub, 1) := by decide +kernel
theorem dX7_passWord_9 : decode cX7_passWord 9 = .ok (.aload_n 1, 1) := by decide +kernel
theorem dX7_passWord_10 : decode cX7_passWord 10 = .ok (.invokevirtual 81, 3) := by decide +kernel
theorem dX7_passWord_13 : decode cX7_passWord 13 = .ok (.if_icmp .eq 5, 3) := by decide +kernel
theorem dX7_passWord_16 : decode cX7_passWord 16 = .ok (.iconst 0, 1) := by decide +kernel
theorem dX7_passWord_17 : decode cX7_passWord 17 = .ok (.ireturn, 1) := by decide +kernel
theorem dX7_passWord_18 : decode cX7_passWord 18 = .ok (.iconst 0, 1) := by decide +kernel
theorem dX7_passWord_19 : decode cX7_passWord 19 = .ok (.istore_n 2, 1) := by decide +kernel
theorem dX7_passWord_20 : decode cX7_passWord 20 = .ok (.iload_n 2, 1) := by decide +kernel
theorem dX7_passWord_21 : decode cX7_passWord 21 = .ok (.aload_n 1, 1) := by decide +kernel
theorem dX7_passWord_22 : decode cX7_passWord 22 = .ok (.invokevirtual 81, 3) := by decide +kernel
theorem dX7_passWord_25 : decode cX7_passWord 25 = .ok (.if_icmp .ge 30, 3) := by decide +kernel
theorem dX7_passWord_28 : decode cX7_passWord 28 = .ok (.aload_n 0, 1) := by decide +kernel
theorem dX7_passWord_29 : decode cX7_passWord 29 = .ok (.getfield 9, 3) := by decide +kernel
theorem dX7_passWord_32 : decode cX7_passWord 32 = .ok (.aload_n 0, 1) := by decide +kernel
theorem dX7_passWord_33 : decode cX7_passWord 33 = .ok (.getfield 31, 3) := by decide +kernel
theorem dX7_passWord_36 : decode cX7_passWord 36 = .ok (.iload_n 2, 1) := by decide +kernel
theorem dX7_passWord_37 : decode cX7_passWord 37 = .ok (.iadd, 1) := by decide +kernel
theorem dX7_passWord_38 : decode cX7_passWord 38 = .ok (.iaload, 1) := by decide +kernel
theorem dX7_passWord_39 : decode cX7_passWord 39 = .ok (.aload_n 1, 1) := by decide +kernel
theorem dX7_passWord_40 : decode cX7_passWord 40 = .ok (.iload_n 2, 1) := by decide +kernel
theorem dX7_passWord_41 : decode cX7_passWord 41 = .ok (.invokevirtual 86, 3) := by decide +kernel
theorem dX7_passWord_44 : decode cX7_passWord 44 = .ok (.if_icmp .eq 5, 3) := by decide +kernel
theorem dX7_passWord_47 : decode cX7_passWord 47 = .ok (.iconst 0, 1) := by decide +kernel
theorem dX7_passWord_48 : decode cX7_passWord 48 = .ok (.ireturn, 1) := by decide +kernel
theorem dX7_passWord_49 : decode cX7_passWord 49 = .ok (.iinc 2 1, 3) := by decide +kernel
theorem dX7_passWord_52 : decode cX7_passWord 52 = .ok (.goto (-32), 3) := by decide +kernel
theorem dX7_passWord_55 : decode cX7_passWord 55 = .ok (.aload_n 0, 1) := by decide +kernel
theorem dX7_passWord_56 : decode cX7_passWord 56 = .ok (.invokevirtual 39, 3) := by decide +kernel
theorem dX7_passWord_59 : decode cX7_passWord 59 = .ok (.iconst 1, 1) := by decide +kernel
theorem dX7_passWord_60 : decode cX7_passWord 60 = .ok (.ireturn, 1) := by decide +kernel
theorem dX7_passNumber_0 : decode cX7_passNumber 0 = .ok (.aload_n 0, 1) := by decide +kernel
theorem dX7_passNumber_1 : decode cX7_passNumber 1 = .ok (.getfield 34, 3) := by decide +kernel
theorem dX7_passNumber_4 : decode cX7_passNumber 4 = .ok (.aload_n 0, 1) := by decide +kernel
theorem dX7_passNumber_5 : decode cX7_passNumber 5 = .ok (.getfield 31, 3) := by decide +kernel
theorem dX7_passNumber_8 : decode cX7_passNumber 8 = .ok (.isub, 1) := by decide +kernel
theorem dX7_passNumber_9 : decode cX7_passNumber 9 = .ok (.istore_n 3, 1) := by decide +kernel
theorem dX7_passNumber_10 : decode cX7_passNumber 10 = .ok (.iload_n 3, 1) := by decide +kernel
theorem dX7_passNumber_11 : decode cX7_passNumber 11 = .ok (.iconst 1, 1) := by decide +kernel
theorem dX7_passNumber_12 : decode cX7_passNumber 12 = .ok (.if_icmp .lt 23, 3) := by decide +kernel
theorem dX7_passNumber_15 : decode cX7_passNumber 15 = .ok (.iload_n 3, 1) := by decide +kernel
theorem dX7_passNumber_16 : decode cX7_passNumber 16 = .ok (.iconst 2, 1) := by decide +kernel
theorem dX7_passNumber_17 : decode cX7_passNumber 17 = .ok (.if_icmp .gt 18, 3) := by decide +kernel
theorem dX7_passNumber_20 : decode cX7_passNumber 20 = .ok (.aload_n 0, 1) := by decide +kernel
theorem dX7_passNumber_21 : decode cX7_passNumber 21 = .ok (.getfield 9, 3) := by decide +kernel
theorem dX7_passNumber_24 : decode cX7_passNumber 24 = .ok (.aload_n 0, 1) := by decide +kernel
theorem dX7_passNumber_25 : decode cX7_passNumber 25 = .ok (.getfield 31, 3) := by decide +kernel
theorem dX7_passNumber_28 : decode cX7_passNumber 28 = .ok (.iaload, 1) := by decide +kernel
theorem dX7_passNumber_29 : decode cX7_passNumber 29 = .ok (.invokestatic 90, 3) := by decide +kernel
theorem dX7_passNumber_32 : decode cX7_passNumber 32 = .ok (.ifCond .ne 5, 3) := by decide +kernel
theorem dX7_passNumber_35 : decode cX7_passNumber 35 = .ok (.iconst (-1), 1) := by decide +kernel
theorem dX7_passNumber_36 : decode cX7_passNumber 36 = .ok (.ireturn, 1) := by decide +kernel
theorem dX7_passNumber_37 : decode cX7_passNumber 37 = .ok (.iconst 0, 1) := by decide +kernel
theorem dX7_passNumber_38 : decode cX7_passNumber 38 = .ok (.istore 4, 2) := by decide +kernel
theorem dX7_passNumber_40 : decode cX7_passNumber 40 = .ok (.aload_n 0, 1) := by decide +kernel
theorem dX7_passNumber_41 : decode cX7_passNumber 41 = .ok (.getfield 31, 3) := by decide +kernel
theorem dX7_passNumber_44 : decode cX7_passNumber 44 = .ok (.istore 5, 2) := by decide +kernel
theorem dX7_passNumber_46 : decode cX7_passNumber 46 = .ok (.iload 5, 2) := by decide +kernel
theorem dX7_passNumber_48 : decode cX7_passNumber 48 = .ok (.aload_n 0, 1) := by decide +kernel
theorem dX7_passNumber_49 : decode cX7_passNumber 49 = .ok (.getfield 34, 3) := by decide +kernel
theorem dX7_passNumber_52 : decode cX7_passNumber 52 = .ok (.if_icmp .ge 27, 3) := by decide +kernel
theorem dX7_passNumber_55 : decode cX7_passNumber 55 = .ok (.iload 4, 2) := by decide +kernel
theorem dX7_passNumber_57 : decode cX7_passNumber 57 = .ok (.bipush 10, 2) := by decide +kernel
theorem dX7_passNumber_59 : decode cX7_passNumber 59 = .ok (.imul, 1) := by decide +kernel
theorem dX7_passNumber_60 : decode cX7_passNumber 60 = .ok (.aload_n 0, 1) := by decide +kernel
theorem dX7_passNumber_61 : decode cX7_passNumber 61 = .ok (.getfield 9, 3) := by decide +kernel
theorem dX7_passNumber_64 : decode cX7_passNumber 64 = .ok (.iload 5, 2) := by decide +kernel
theorem dX7_passNumber_66 : decode cX7_passNumber 66 = .ok (.iaload, 1) := by decide +kernel
theorem dX7_passNumber_67 : decode cX7_passNumber 67 = .ok (.iadd, 1) := by decide +kernel
theorem dX7_passNumber_68 : decode cX7_passNumber 68 = .ok (.bipush 48, 2) := by decide +kernel
theorem dX7_passNumber_70 : decode cX7_passNumber 70 = .ok (.isub, 1) := by decide +kernel
theorem dX7_passNumber_71 : decode cX7_passNumber 71 = .ok (.istore 4, 2) := by decide +kernel
theorem dX7_passNumber_73 : decode cX7_passNumber 73 = .ok (.iinc 5 1, 3) := by decide +kernel
theorem dX7_passNumber_76 : decode cX7_passNumber 76 = .ok (.goto (-30), 3) := by decide +kernel
theorem dX7_passNumber_79 : decode cX7_passNumber 79 = .ok (.iload 4, 2) := by decide +kernel
theorem dX7_passNumber_81 : decode cX7_passNumber 81 = .ok (.iload_n 1, 1) := by decide +kernel
theorem dX7_passNumber_82 : decode cX7_passNumber 82 = .ok (.if_icmp .lt 9, 3) := by decide +kernel
theorem dX7_passNumber_85 : decode cX7_passNumber 85 = .ok (.iload 4, 2) := by decide +kernel
theorem dX7_passNumber_87 : decode cX7_passNumber 87 = .ok (.iload_n 2, 1) := by decide +kernel
theorem dX7_passNumber_88 : decode cX7_passNumber 88 = .ok (.if_icmp .le 5, 3) := by decide +kernel
theorem dX7_passNumber_91 : decode cX7_passNumber 91 = .ok (.iconst (-1), 1) := by decide +kernel
theorem dX7_passNumber_92 : decode cX7_passNumber 92 = .ok (.ireturn, 1) := by decide +kernel
theorem dX7_passNumber_93 : decode cX7_passNumber 93 = .ok (.aload_n 0, 1) := by decide +kernel
theorem dX7_passNumber_94 : decode cX7_passNumber 94 = .ok (.invokevirtual 39, 3) := by decide +kernel
theorem dX7_passNumber_97 : decode cX7_passNumber 97 = .ok (.iload 4, 2) := by decide +kernel
theorem dX7_passNumber_99 : decode cX7_passNumber 99 = .ok (.ireturn, 1) := by decide +kernel
theorem dX7_nextToken_0 : decode cX7_nextToken 0 = .ok (.aload_n 0, 1) := by decide +kernel
theorem dX7_nextToken_1 : decode cX7_nextToken 1 = .ok (.aload_n 0, 1) := by decide +kernel
theorem dX7_nextToken_2 : decode cX7_nextToken 2 = .ok (.getfield 34, 3) := by decide +kernel
theorem dX7_nextToken_5 : decode cX7_nextToken 5 = .ok (.putfield 31, 3) := by decide +kernel
theorem dX7_nextToken_8 : decode cX7_nextToken 8 = .ok (.aload_n 0, 1) := by decide +kernel
theorem dX7_nextToken_9 : decode cX7_nextToken 9 = .ok (.getfield 31, 3) := by decide +kernel
theorem dX7_nextToken_12 : decode cX7_nextToken 12 = .ok (.aload_n 0, 1) := by decide +kernel
theorem dX7_nextToken_13 : decode cX7_nextToken 13 = .ok (.getfield 24, 3) := by decide +kernel
theorem dX7_nextToken_16 : decode cX7_nextToken 16 = .ok (.if_icmp .ge 30, 3) := by decide +kernel
theorem dX7_nextToken_19 : decode cX7_nextToken 19 = .ok (.aload_n 0, 1) := by decide +kernel
theorem dX7_nextToken_20 : decode cX7_nextToken 20 = .ok (.getfield 9, 3) := by decide +kernel
theorem dX7_nextToken_23 : decode cX7_nextToken 23 = .ok (.aload_n 0, 1) := by decide +kernel
theorem dX7_nextToken_24 : decode cX7_nextToken 24 = .ok (.getfield 31, 3) := by decide +kernel
theorem dX7_nextToken_27 : decode cX7_nextToken 27 = .ok (.iaload, 1) := by decide +kernel
theorem dX7_nextToken_28 : decode cX7_nextToken 28 = .ok (.bipush 32, 2) := by decide +kernel
theorem dX7_nextToken_30 : decode cX7_nextToken 30 = .ok (.if_icmp .ne 16, 3) := by decide +kernel
theorem dX7_nextToken_33 : decode cX7_nextToken 33 = .ok (.aload_n 0, 1) := by decide +kernel
theorem dX7_nextToken_34 : decode cX7_nextToken 34 = .ok (.dup, 1) := by decide +kernel
theorem dX7_nextToken_35 : decode cX7_nextToken 35 = .ok (.getfield 31, 3) := by decide +kernel
theorem dX7_nextToken_38 : decode cX7_nextToken 38 = .ok (.iconst 1, 1) := by decide +kernel
theorem dX7_nextToken_39 : decode cX7_nextToken 39 = .ok (.iadd, 1) := by decide +kernel
theorem dX7_nextToken_40 : decode cX7_nextToken 40 = .ok (.putfield 31, 3) := by decide +kernel
theorem dX7_nextToken_43 : decode cX7_nextToken 43 = .ok (.goto (-35), 3) := by decide +kernel
theorem dX7_nextToken_46 : decode cX7_nextToken 46 = .ok (.aload_n 0, 1) := by decide +kernel
theorem dX7_nextToken_47 : decode cX7_nextToken 47 = .ok (.aload_n 0, 1) := by decide +kernel
theorem dX7_nextToken_48 : decode cX7_nextToken 48 = .ok (.getfield 31, 3) := by decide +kernel
theorem dX7_nextToken_51 : decode cX7_nextToken 51 = .ok (.putfield 34, 3) := by decide +kernel
theorem dX7_nextToken_54 : decode cX7_nextToken 54 = .ok (.aload_n 0, 1) := by decide +kernel
theorem dX7_nextToken_55 : decode cX7_nextToken 55 = .ok (.getfield 31, 3) := by decide +kernel
theorem dX7_nextToken_58 : decode cX7_nextToken 58 = .ok (.aload_n 0, 1) := by decide +kernel
theorem dX7_nextToken_59 : decode cX7_nextToken 59 = .ok (.getfield 24, 3) := by decide +kernel
theorem dX7_nextToken_62 : decode cX7_nextToken 62 = .ok (.if_icmp .ne 4, 3) := by decide +kernel
theorem dX7_nextToken_65 : decode cX7_nextToken 65 = .ok (.return_, 1) := by decide +kernel
theorem dX7_nextToken_66 : decode cX7_nextToken 66 = .ok (.aload_n 0, 1) := by decide +kernel
theorem dX7_nextToken_67 : decode cX7_nextToken 67 = .ok (.dup, 1) := by decide +kernel
theorem dX7_nextToken_68 : decode cX7_nextToken 68 = .ok (.getfield 34, 3) := by decide +kernel
theorem dX7_nextToken_71 : decode cX7_nextToken 71 = .ok (.iconst 1, 1) := by decide +kernel
theorem dX7_nextToken_72 : decode cX7_nextToken 72 = .ok (.iadd, 1) := by decide +kernel
theorem dX7_nextToken_73 : decode cX7_nextToken 73 = .ok (.putfield 34, 3) := by decide +kernel
theorem dX7_nextToken_76 : decode cX7_nextToken 76 = .ok (.aload_n 0, 1) := by decide +kernel
theorem dX7_nextToken_77 : decode cX7_nextToken 77 = .ok (.getfield 9, 3) := by decide +kernel
theorem dX7_nextToken_80 : decode cX7_nextToken 80 = .ok (.aload_n 0, 1) := by decide +kernel
theorem dX7_nextToken_81 : decode cX7_nextToken 81 = .ok (.getfield 31, 3) := by decide +kernel
theorem dX7_nextToken_84 : decode cX7_nextToken 84 = .ok (.iaload, 1) := by decide +kernel
theorem dX7_nextToken_85 : decode cX7_nextToken 85 = .ok (.invokestatic 94, 3) := by decide +kernel
theorem dX7_nextToken_88 : decode cX7_nextToken 88 = .ok (.istore_n 1, 1) := by decide +kernel
theorem dX7_nextToken_89 : decode cX7_nextToken 89 = .ok (.aload_n 0, 1) := by decide +kernel
theorem dX7_nextToken_90 : decode cX7_nextToken 90 = .ok (.getfield 9, 3) := by decide +kernel
theorem dX7_nextToken_93 : decode cX7_nextToken 93 = .ok (.aload_n 0, 1) := by decide +kernel
theorem dX7_nextToken_94 : decode cX7_nextToken 94 = .ok (.getfield 31, 3) := by decide +kernel
theorem dX7_nextToken_97 : decode cX7_nextToken 97 = .ok (.iaload, 1) := by decide +kernel
theorem dX7_nextToken_98 : decode cX7_nextToken 98 = .ok (.invokestatic 90, 3) := by decide +kernel
theorem dX7_nextToken_101 : decode cX7_nextToken 101 = .ok (.istore_n 2, 1) := by decide +kernel
theorem dX7_nextToken_102 : decode cX7_nextToken 102 = .ok (.aload_n 0, 1) := by decide +kernel
theorem dX7_nextToken_103 : decode cX7_nextToken 103 = .ok (.getfield 34, 3) := by decide +kernel
theorem dX7_nextToken_106 : decode cX7_nextToken 106 = .ok (.aload_n 0, 1) := by decide +kernel
theorem dX7_nextToken_107 : decode cX7_nextToken 107 = .ok (.getfield 24, 3) := by decide +kernel
theorem dX7_nextToken_110 : decode cX7_nextToken 110 = .ok (.if_icmp .ge 54, 3) := by decide +kernel
theorem dX7_nextToken_113 : decode cX7_nextToken 113 = .ok (.iload_n 1, 1) := by decide +kernel
theorem dX7_nextToken_114 : decode cX7_nextToken 114 = .ok (.ifCond .eq 18, 3) := by decide +kernel
theorem dX7_nextToken_117 : decode cX7_nextToken 117 = .ok (.aload_n 0, 1) := by decide +kernel
theorem dX7_nextToken_118 : decode cX7_nextToken 118 = .ok (.getfield 9, 3) := by decide +kernel
theorem dX7_nextToken_121 : decode cX7_nextToken 121 = .ok (.aload_n 0, 1) := by decide +kernel
theorem dX7_nextToken_122 : decode cX7_nextToken 122 = .ok (.getfield 34, 3) := by decide +kernel
theorem dX7_nextToken_125 : decode cX7_nextToken 125 = .ok (.iaload, 1) := by decide +kernel
theorem dX7_nextToken_126 : decode cX7_nextToken 126 = .ok (.invokestatic 94, 3) := by decide +kernel
theorem dX7_nextToken_129 : decode cX7_nextToken 129 = .ok (.ifCond .ne 22, 3) := by decide +kernel
theorem dX7_nextToken_132 : decode cX7_nextToken 132 = .ok (.iload_n 2, 1) := by decide +kernel
theorem dX7_nextToken_133 : decode cX7_nextToken 133 = .ok (.ifCond .eq 31, 3) := by decide +kernel
theorem dX7_nextToken_136 : decode cX7_nextToken 136 = .ok (.aload_n 0, 1) := by decide +kernel
theorem dX7_nextToken_137 : decode cX7_nextToken 137 = .ok (.getfield 9, 3) := by decide +kernel
theorem dX7_nextToken_140 : decode cX7_nextToken 140 = .ok (.aload_n 0, 1) := by decide +kernel
theorem dX7_nextToken_141 : decode cX7_nextToken 141 = .ok (.getfield 34, 3) := by decide +kernel
theorem dX7_nextToken_144 : decode cX7_nextToken 144 = .ok (.iaload, 1) := by decide +kernel
theorem dX7_nextToken_145 : decode cX7_nextToken 145 = .ok (.invokestatic 90, 3) := by decide +kernel
theorem dX7_nextToken_148 : decode cX7_nextToken 148 = .ok (.ifCond .eq 16, 3) := by decide +kernel
theorem dX7_nextToken_151 : decode cX7_nextToken 151 = .ok (.aload_n 0, 1) := by decide +kernel
theorem dX7_nextToken_152 : decode cX7_nextToken 152 = .ok (.dup, 1) := by decide +kernel
theorem dX7_nextToken_153 : decode cX7_nextToken 153 = .ok (.getfield 34, 3) := by decide +kernel
theorem dX7_nextToken_156 : decode cX7_nextToken 156 = .ok (.iconst 1, 1) := by decide +kernel
theorem dX7_nextToken_157 : decode cX7_nextToken 157 = .ok (.iadd, 1) := by decide +kernel
theorem dX7_nextToken_158 : decode cX7_nextToken 158 = .ok (.putfield 34, 3) := by decide +kernel
theorem dX7_nextToken_161 : decode cX7_nextToken 161 = .ok (.goto (-59), 3) := by decide +kernel
theorem dX7_nextToken_164 : decode cX7_nextToken 164 = .ok (.return_, 1) := by decide +kernel
theorem dX7_isLetter_0 : decode cX7_isLetter 0 = .ok (.iload_n 0, 1) := by decide +kernel
theorem dX7_isLetter_1 : decode cX7_isLetter 1 = .ok (.bipush 97, 2) := by decide +kernel
theorem dX7_isLetter_3 : decode cX7_isLetter 3 = .ok (.if_icmp .lt 13, 3) := by decide +kernel
theorem dX7_isLetter_6 : decode cX7_isLetter 6 = .ok (.iload_n 0, 1) := by decide +kernel
theorem dX7_isLetter_7 : decode cX7_isLetter 7 = .ok (.bipush 122, 2) := by decide +kernel
theorem dX7_isLetter_9 : decode cX7_isLetter 9 = .ok (.if_icmp .gt 7, 3) := by decide +kernel
theorem dX7_isLetter_12 : decode cX7_isLetter 12 = .ok (.iconst 1, 1) := by decide +kernel
theorem dX7_isLetter_13 : decode cX7_isLetter 13 = .ok (.goto 4, 3) := by decide +kernel
theorem dX7_isLetter_16 : decode cX7_isLetter 16 = .ok (.iconst 0, 1) := by decide +kernel
theorem dX7_isLetter_17 : decode cX7_isLetter 17 = .ok (.ireturn, 1) := by decide +kernel
theorem dX7_isDigit_0 : decode cX7_isDigit 0 = .ok (.iload_n 0, 1) := by decide +kernel
theorem dX7_isDigit_1 : decode cX7_isDigit 1 = .ok (.bipush 48, 2) := by decide +kernel
theorem dX7_isDigit_3 : decode cX7_isDigit 3 = .ok (.if_icmp .lt 13, 3) := by decide +kernel
theorem dX7_isDigit_6 : decode cX7_isDigit 6 = .ok (.iload_n 0, 1) := by decide +kernel
theorem dX7_isDigit_7 : decode cX7_isDigit 7 = .ok (.bipush 57, 2) := by decide +kernel
theorem dX7_isDigit_9 : decode cX7_isDigit 9 = .ok (.if_icmp .gt 7, 3) := by decide +kernel
theorem dX7_isDigit_12 : decode cX7_isDigit 12 = .ok (.iconst 1, 1) := by decide +kernel
theorem dX7_isDigit_13 : decode cX7_isDigit 13 = .ok (.goto 4, 3) := by decide +kernel
theorem dX7_isDigit_16 : decode cX7_isDigit 16 = .ok (.iconst 0, 1) := by decide +kernel
theorem dX7_isDigit_17 : decode cX7_isDigit 17 = .ok (.ireturn, 1) := by decide +kernel
theorem dX8_init_0 : decode cX8_init 0 = .ok (.aload_n 0, 1) := by decide +kernel
theorem dX8_init_1 : decode cX8_init 1 = .ok (.invokespecial 3, 3) := by decide +kernel
theorem dX8_init_4 : decode cX8_init 4 = .ok (.aload_n 0, 1) := by decide +kernel
theorem dX8_init_5 : decode cX8_init 5 = .ok (.bipush 8, 2) := by decide +kernel
theorem dX8_init_7 : decode cX8_init 7 = .ok (.newarray .int, 2) := by decide +kernel
theorem dX8_init_9 : decode cX8_init 9 = .ok (.putfield 9, 3) := by decide +kernel
theorem dX8_init_12 : decode cX8_init 12 = .ok (.aload_n 0, 1) := by decide +kernel
theorem dX8_init_13 : decode cX8_init 13 = .ok (.bipush 16, 2) := by decide +kernel
theorem dX8_init_15 : decode cX8_init 15 = .ok (.newarray .int, 2) := by decide +kernel
theorem dX8_init_17 : decode cX8_init 17 = .ok (.putfield 15, 3) := by decide +kernel
theorem dX8_init_20 : decode cX8_init 20 = .ok (.aload_n 0, 1) := by decide +kernel
theorem dX8_init_21 : decode cX8_init 21 = .ok (.bipush 16, 2) := by decide +kernel
theorem dX8_init_23 : decode cX8_init 23 = .ok (.newarray .int, 2) := by decide +kernel
theorem dX8_init_25 : decode cX8_init 25 = .ok (.putfield 18, 3) := by decide +kernel
theorem dX8_init_28 : decode cX8_init 28 = .ok (.aload_n 0, 1) := by decide +kernel
theorem dX8_init_29 : decode cX8_init 29 = .ok (.bipush 16, 2) := by decide +kernel
theorem dX8_init_31 : decode cX8_init 31 = .ok (.newarray .int, 2) := by decide +kernel
theorem dX8_init_33 : decode cX8_init 33 = .ok (.putfield 21, 3) := by decide +kernel
theorem dX8_init_36 : decode cX8_init 36 = .ok (.aload_n 0, 1) := by decide +kernel
theorem dX8_init_37 : decode cX8_init 37 = .ok (.bipush 16, 2) := by decide +kernel
theorem dX8_init_39 : decode cX8_init 39 = .ok (.newarray .int, 2) := by decide +kernel
theorem dX8_init_41 : decode cX8_init 41 = .ok (.putfield 24, 3) := by decide +kernel
theorem dX8_init_44 : decode cX8_init 44 = .ok (.aload_n 0, 1) := by decide +kernel
theorem dX8_init_45 : decode cX8_init 45 = .ok (.bipush 16, 2) := by decide +kernel
theorem dX8_init_47 : decode cX8_init 47 = .ok (.newarray .int, 2) := by decide +kernel
theorem dX8_init_49 : decode cX8_init 49 = .ok (.putfield 27, 3) := by decide +kernel
theorem dX8_init_52 : decode cX8_init 52 = .ok (.aload_n 0, 1) := by decide +kernel
theorem dX8_init_53 : decode cX8_init 53 = .ok (.bipush 16, 2) := by decide +kernel
theorem dX8_init_55 : decode cX8_init 55 = .ok (.newarray .boolean, 2) := by decide +kernel
theorem dX8_init_57 : decode cX8_init 57 = .ok (.putfield 30, 3) := by decide +kernel
theorem dX8_init_60 : decode cX8_init 60 = .ok (.aload_n 0, 1) := by decide +kernel
theorem dX8_init_61 : decode cX8_init 61 = .ok (.iconst 0, 1) := by decide +kernel
theorem dX8_init_62 : decode cX8_init 62 = .ok (.putfield 34, 3) := by decide +kernel
theorem dX8_init_65 : decode cX8_init 65 = .ok (.iconst 0, 1) := by decide +kernel
theorem dX8_init_66 : decode cX8_init 66 = .ok (.istore_n 1, 1) := by decide +kernel
theorem dX8_init_67 : decode cX8_init 67 = .ok (.iload_n 1, 1) := by decide +kernel
theorem dX8_init_68 : decode cX8_init 68 = .ok (.bipush 8, 2) := by decide +kernel
theorem dX8_init_70 : decode cX8_init 70 = .ok (.if_icmp .ge 18, 3) := by decide +kernel
theorem dX8_init_73 : decode cX8_init 73 = .ok (.aload_n 0, 1) := by decide +kernel
theorem dX8_init_74 : decode cX8_init 74 = .ok (.getfield 9, 3) := by decide +kernel
theorem dX8_init_77 : decode cX8_init 77 = .ok (.iload_n 1, 1) := by decide +kernel
theorem dX8_init_78 : decode cX8_init 78 = .ok (.iconst 1, 1) := by decide +kernel
theorem dX8_init_79 : decode cX8_init 79 = .ok (.iload_n 1, 1) := by decide +kernel
theorem dX8_init_80 : decode cX8_init 80 = .ok (.ishl, 1) := by decide +kernel
theorem dX8_init_81 : decode cX8_init 81 = .ok (.iastore, 1) := by decide +kernel
theorem dX8_init_82 : decode cX8_init 82 = .ok (.iinc 1 1, 3) := by decide +kernel
theorem dX8_init_85 : decode cX8_init 85 = .ok (.goto (-18), 3) := by decide +kernel
theorem dX8_init_88 : decode cX8_init 88 = .ok (.return_, 1) := by decide +kernel
theorem dX8_addFact_0 : decode cX8_addFact 0 = .ok (.aload_n 0, 1) := by decide +kernel
theorem dX8_addFact_1 : decode cX8_addFact 1 = .ok (.getfield 34, 3) := by decide +kernel
theorem dX8_addFact_4 : decode cX8_addFact 4 = .ok (.bipush 16, 2) := by decide +kernel
theorem dX8_addFact_6 : decode cX8_addFact 6 = .ok (.if_icmp .lt 6, 3) := by decide +kernel
theorem dX8_addFact_9 : decode cX8_addFact 9 = .ok (.bipush (-5), 2) := by decide +kernel
theorem dX8_addFact_11 : decode cX8_addFact 11 = .ok (.ireturn, 1) := by decide +kernel
theorem dX8_addFact_12 : decode cX8_addFact 12 = .ok (.aload_n 0, 1) := by decide +kernel
theorem dX8_addFact_13 : decode cX8_addFact 13 = .ok (.getfield 15, 3) := by decide +kernel
theorem dX8_addFact_16 : decode cX8_addFact 16 = .ok (.aload_n 0, 1) := by decide +kernel
theorem dX8_addFact_17 : decode cX8_addFact 17 = .ok (.getfield 34, 3) := by decide +kernel
theorem dX8_addFact_20 : decode cX8_addFact 20 = .ok (.iload_n 1, 1) := by decide +kernel
theorem dX8_addFact_21 : decode cX8_addFact 21 = .ok (.iastore, 1) := by decide +kernel
theorem dX8_addFact_22 : decode cX8_addFact 22 = .ok (.aload_n 0, 1) := by decide +kernel
theorem dX8_addFact_23 : decode cX8_addFact 23 = .ok (.getfield 18, 3) := by decide +kernel
theorem dX8_addFact_26 : decode cX8_addFact 26 = .ok (.aload_n 0, 1) := by decide +kernel
theorem dX8_addFact_27 : decode cX8_addFact 27 = .ok (.getfield 34, 3) := by decide +kernel
theorem dX8_addFact_30 : decode cX8_addFact 30 = .ok (.iload_n 2, 1) := by decide +kernel
theorem dX8_addFact_31 : decode cX8_addFact 31 = .ok (.iastore, 1) := by decide +kernel
theorem dX8_addFact_32 : decode cX8_addFact 32 = .ok (.aload_n 0, 1) := by decide +kernel
theorem dX8_addFact_33 : decode cX8_addFact 33 = .ok (.getfield 21, 3) := by decide +kernel
theorem dX8_addFact_36 : decode cX8_addFact 36 = .ok (.aload_n 0, 1) := by decide +kernel
theorem dX8_addFact_37 : decode cX8_addFact 37 = .ok (.getfield 34, 3) := by decide +kernel
theorem dX8_addFact_40 : decode cX8_addFact 40 = .ok (.iload_n 3, 1) := by decide +kernel
theorem dX8_addFact_41 : decode cX8_addFact 41 = .ok (.iastore, 1) := by decide +kernel
theorem dX8_addFact_42 : decode cX8_addFact 42 = .ok (.aload_n 0, 1) := by decide +kernel
theorem dX8_addFact_43 : decode cX8_addFact 43 = .ok (.getfield 24, 3) := by decide +kernel
theorem dX8_addFact_46 : decode cX8_addFact 46 = .ok (.aload_n 0, 1) := by decide +kernel
theorem dX8_addFact_47 : decode cX8_addFact 47 = .ok (.getfield 34, 3) := by decide +kernel
theorem dX8_addFact_50 : decode cX8_addFact 50 = .ok (.iload 4, 2) := by decide +kernel
theorem dX8_addFact_52 : decode cX8_addFact 52 = .ok (.iastore, 1) := by decide +kernel
theorem dX8_addFact_53 : decode cX8_addFact 53 = .ok (.aload_n 0, 1) := by decide +kernel
theorem dX8_addFact_54 : decode cX8_addFact 54 = .ok (.getfield 27, 3) := by decide +kernel
theorem dX8_addFact_57 : decode cX8_addFact 57 = .ok (.aload_n 0, 1) := by decide +kernel
theorem dX8_addFact_58 : decode cX8_addFact 58 = .ok (.getfield 34, 3) := by decide +kernel
theorem dX8_addFact_61 : decode cX8_addFact 61 = .ok (.iload 5, 2) := by decide +kernel
theorem dX8_addFact_63 : decode cX8_addFact 63 = .ok (.iastore, 1) := by decide +kernel
theorem dX8_addFact_64 : decode cX8_addFact 64 = .ok (.aload_n 0, 1) := by decide +kernel
theorem dX8_addFact_65 : decode cX8_addFact 65 = .ok (.getfield 30, 3) := by decide +kernel
theorem dX8_addFact_68 : decode cX8_addFact 68 = .ok (.aload_n 0, 1) := by decide +kernel
theorem dX8_addFact_69 : decode cX8_addFact 69 = .ok (.getfield 34, 3) := by decide +kernel
theorem dX8_addFact_72 : decode cX8_addFact 72 = .ok (.iload 6, 2) := by decide +kernel
theorem dX8_addFact_74 : decode cX8_addFact 74 = .ok (.bastore, 1) := by decide +kernel
theorem dX8_addFact_75 : decode cX8_addFact 75 = .ok (.aload_n 0, 1) := by decide +kernel
theorem dX8_addFact_76 : decode cX8_addFact 76 = .ok (.dup, 1) := by decide +kernel
theorem dX8_addFact_77 : decode cX8_addFact 77 = .ok (.getfield 34, 3) := by decide +kernel
theorem dX8_addFact_80 : decode cX8_addFact 80 = .ok (.iconst 1, 1) := by decide +kernel
theorem dX8_addFact_81 : decode cX8_addFact 81 = .ok (.iadd, 1) := by decide +kernel
theorem dX8_addFact_82 : decode cX8_addFact 82 = .ok (.putfield 34, 3) := by decide +kernel
theorem dX8_addFact_85 : decode cX8_addFact 85 = .ok (.aload_n 0, 1) := by decide +kernel
theorem dX8_addFact_86 : decode cX8_addFact 86 = .ok (.getfield 34, 3) := by decide +kernel
theorem dX8_addFact_89 : decode cX8_addFact 89 = .ok (.iconst 1, 1) := by decide +kernel
theorem dX8_addFact_90 : decode cX8_addFact 90 = .ok (.isub, 1) := by decide +kernel
theorem dX8_addFact_91 : decode cX8_addFact 91 = .ok (.ireturn, 1) := by decide +kernel
theorem dX8_tells_0 : decode cX8_tells 0 = .ok (.aload_n 0, 1) := by decide +kernel
theorem dX8_tells_1 : decode cX8_tells 1 = .ok (.getfield 15, 3) := by decide +kernel
theorem dX8_tells_4 : decode cX8_tells 4 = .ok (.iload_n 1, 1) := by decide +kernel
theorem dX8_tells_5 : decode cX8_tells 5 = .ok (.iaload, 1) := by decide +kernel
theorem dX8_tells_6 : decode cX8_tells 6 = .ok (.iload_n 2, 1) := by decide +kernel
theorem dX8_tells_7 : decode cX8_tells 7 = .ok (.if_icmp .ne 39, 3) := by decide +kernel
theorem dX8_tells_10 : decode cX8_tells 10 = .ok (.aload_n 0, 1) := by decide +kernel
theorem dX8_tells_11 : decode cX8_tells 11 = .ok (.getfield 18, 3) := by decide +kernel
theorem dX8_tells_14 : decode cX8_tells 14 = .ok (.iload_n 1, 1) := by decide +kernel
theorem dX8_tells_15 : decode cX8_tells 15 = .ok (.iaload, 1) := by decide +kernel
theorem dX8_tells_16 : decode cX8_tells 16 = .ok (.iload_n 3, 1) := by decide +kernel
theorem dX8_tells_17 : decode cX8_tells 17 = .ok (.if_icmp .ne 29, 3) := by decide +kernel
theorem dX8_tells_20 : decode cX8_tells 20 = .ok (.aload_n 0, 1) := by decide +kernel
theorem dX8_tells_21 : decode cX8_tells 21 = .ok (.getfield 21, 3) := by decide +kernel
theorem dX8_tells_24 : decode cX8_tells 24 = .ok (.iload_n 1, 1) := by decide +kernel
theorem dX8_tells_25 : decode cX8_tells 25 = .ok (.iaload, 1) := by decide +kernel
theorem dX8_tells_26 : decode cX8_tells 26 = .ok (.iload 4, 2) := by decide +kernel
theorem dX8_tells_28 : decode cX8_tells 28 = .ok (.if_icmp .gt 18, 3) := by decide +kernel
theorem dX8_tells_31 : decode cX8_tells 31 = .ok (.iload 4, 2) := by decide +kernel
theorem dX8_tells_33 : decode cX8_tells 33 = .ok (.aload_n 0, 1) := by decide +kernel
theorem dX8_tells_34 : decode cX8_tells 34 = .ok (.getfield 24, 3) := by decide +kernel
theorem dX8_tells_37 : decode cX8_tells 37 = .ok (.iload_n 1, 1) := by decide +kernel
theorem dX8_tells_38 : decode cX8_tells 38 = .ok (.iaload, 1) := by decide +kernel
theorem dX8_tells_39 : decode cX8_tells 39 = .ok (.if_icmp .gt 7, 3) := by decide +kernel
theorem dX8_tells_42 : decode cX8_tells 42 = .ok (.iconst 1, 1) := by decide +kernel
theorem dX8_tells_43 : decode cX8_tells 43 = .ok (.goto 4, 3) := by decide +kernel
theorem dX8_tells_46 : decode cX8_tells 46 = .ok (.iconst 0, 1) := by decide +kernel
theorem dX8_tells_47 : decode cX8_tells 47 = .ok (.ireturn, 1) := by decide +kernel
theorem dX8_valueOf_0 : decode cX8_valueOf 0 = .ok (.iload_n 1, 1) := by decide +kernel
theorem dX8_valueOf_1 : decode cX8_valueOf 1 = .ok (.invokestatic 38, 3) := by decide +kernel
theorem dX8_valueOf_4 : decode cX8_valueOf 4 = .ok (.istore_n 2, 1) := by decide +kernel
theorem dX8_valueOf_5 : decode cX8_valueOf 5 = .ok (.iload_n 1, 1) := by decide +kernel
theorem dX8_valueOf_6 : decode cX8_valueOf 6 = .ok (.invokestatic 42, 3) := by decide +kernel
theorem dX8_valueOf_9 : decode cX8_valueOf 9 = .ok (.istore_n 3, 1) := by decide +kernel
theorem dX8_valueOf_10 : decode cX8_valueOf 10 = .ok (.iload_n 1, 1) := by decide +kernel
theorem dX8_valueOf_11 : decode cX8_valueOf 11 = .ok (.invokestatic 45, 3) := by decide +kernel
theorem dX8_valueOf_14 : decode cX8_valueOf 14 = .ok (.istore 4, 2) := by decide +kernel
theorem dX8_valueOf_16 : decode cX8_valueOf 16 = .ok (.aload_n 0, 1) := by decide +kernel
theorem dX8_valueOf_17 : decode cX8_valueOf 17 = .ok (.getfield 34, 3) := by decide +kernel
theorem dX8_valueOf_20 : decode cX8_valueOf 20 = .ok (.iconst 1, 1) := by decide +kernel
theorem dX8_valueOf_21 : decode cX8_valueOf 21 = .ok (.isub, 1) := by decide +kernel
theorem dX8_valueOf_22 : decode cX8_valueOf 22 = .ok (.istore 5, 2) := by decide +kernel
theorem dX8_valueOf_24 : decode cX8_valueOf 24 = .ok (.iload 5, 2) := by decide +kernel
theorem dX8_valueOf_26 : decode cX8_valueOf 26 = .ok (.ifCond .lt 30, 3) := by decide +kernel
theorem dX8_valueOf_29 : decode cX8_valueOf 29 = .ok (.aload_n 0, 1) := by decide +kernel
theorem dX8_valueOf_30 : decode cX8_valueOf 30 = .ok (.iload 5, 2) := by decide +kernel
theorem dX8_valueOf_32 : decode cX8_valueOf 32 = .ok (.iload_n 2, 1) := by decide +kernel
theorem dX8_valueOf_33 : decode cX8_valueOf 33 = .ok (.iload_n 3, 1) := by decide +kernel
theorem dX8_valueOf_34 : decode cX8_valueOf 34 = .ok (.iload 4, 2) := by decide +kernel
theorem dX8_valueOf_36 : decode cX8_valueOf 36 = .ok (.invokevirtual 48, 3) := by decide +kernel
theorem dX8_valueOf_39 : decode cX8_valueOf 39 = .ok (.ifCond .eq 11, 3) := by decide +kernel
theorem dX8_valueOf_42 : decode cX8_valueOf 42 = .ok (.aload_n 0, 1) := by decide +kernel
theorem dX8_valueOf_43 : decode cX8_valueOf 43 = .ok (.getfield 27, 3) := by decide +kernel
theorem dX8_valueOf_46 : decode cX8_valueOf 46 = .ok (.iload 5, 2) := by decide +kernel
theorem dX8_valueOf_48 : decode cX8_valueOf 48 = .ok (.iaload, 1) := by decide +kernel
theorem dX8_valueOf_49 : decode cX8_valueOf 49 = .ok (.ireturn, 1) := by decide +kernel
theorem dX8_valueOf_50 : decode cX8_valueOf 50 = .ok (.iinc 5 (-1), 3) := by decide +kernel
theorem dX8_valueOf_53 : decode cX8_valueOf 53 = .ok (.goto (-29), 3) := by decide +kernel
theorem dX8_valueOf_56 : decode cX8_valueOf 56 = .ok (.iconst 0, 1) := by decide +kernel
theorem dX8_valueOf_57 : decode cX8_valueOf 57 = .ok (.ireturn, 1) := by decide +kernel
theorem dX8_seenBy_0 : decode cX8_seenBy 0 = .ok (.aload_n 0, 1) := by decide +kernel
theorem dX8_seenBy_1 : decode cX8_seenBy 1 = .ok (.getfield 9, 3) := by decide +kernel
theorem dX8_seenBy_4 : decode cX8_seenBy 4 = .ok (.aload_n 1, 1) := by decide +kernel
theorem dX8_seenBy_5 : decode cX8_seenBy 5 = .ok (.iload_n 2, 1) := by decide +kernel
theorem dX8_seenBy_6 : decode cX8_seenBy 6 = .ok (.invokevirtual 52, 3) := by decide +kernel
theorem dX8_seenBy_9 : decode cX8_seenBy 9 = .ok (.iaload, 1) := by decide +kernel
theorem dX8_seenBy_10 : decode cX8_seenBy 10 = .ok (.ireturn, 1) := by decide +kernel
theorem dX8_wasSeen_0 : decode cX8_wasSeen 0 = .ok (.aload_n 0, 1) := by decide +kernel
theorem dX8_wasSeen_1 : decode cX8_wasSeen 1 = .ok (.getfield 24, 3) := by decide +kernel
theorem dX8_wasSeen_4 : decode cX8_wasSeen 4 = .ok (.iload_n 1, 1) := by decide +kernel
theorem dX8_wasSeen_5 : decode cX8_wasSeen 5 = .ok (.iaload, 1) := by decide +kernel
theorem dX8_wasSeen_6 : decode cX8_wasSeen 6 = .ok (.iload_n 3, 1) := by decide +kernel
theorem dX8_wasSeen_7 : decode cX8_wasSeen 7 = .ok (.invokestatic 57, 3) := by decide +kernel
theorem dX8_wasSeen_10 : decode cX8_wasSeen 10 = .ok (.istore 4, 2) := by decide +kernel
theorem dX8_wasSeen_12 : decode cX8_wasSeen 12 = .ok (.aload_n 0, 1) := by decide +kernel
theorem dX8_wasSeen_13 : decode cX8_wasSeen 13 = .ok (.getfield 21, 3) := by decide +kernel
theorem dX8_wasSeen_16 : decode cX8_wasSeen 16 = .ok (.iload_n 1, 1) := by decide +kernel
theorem dX8_wasSeen_17 : decode cX8_wasSeen 17 = .ok (.iaload, 1) := by decide +kernel
theorem dX8_wasSeen_18 : decode cX8_wasSeen 18 = .ok (.istore 5, 2) := by decide +kernel
theorem dX8_wasSeen_20 : decode cX8_wasSeen 20 = .ok (.iload 5, 2) := by decide +kernel
theorem dX8_wasSeen_22 : decode cX8_wasSeen 22 = .ok (.iload 4, 2) := by decide +kernel
theorem dX8_wasSeen_24 : decode cX8_wasSeen 24 = .ok (.if_icmp .gt 30, 3) := by decide +kernel
theorem dX8_wasSeen_27 : decode cX8_wasSeen 27 = .ok (.aload_n 0, 1) := by decide +kernel
theorem dX8_wasSeen_28 : decode cX8_wasSeen 28 = .ok (.aload_n 2, 1) := by decide +kernel
theorem dX8_wasSeen_29 : decode cX8_wasSeen 29 = .ok (.iload 5, 2) := by decide +kernel
theorem dX8_wasSeen_31 : decode cX8_wasSeen 31 = .ok (.invokevirtual 63, 3) := by decide +kernel
theorem dX8_wasSeen_34 : decode cX8_wasSeen 34 = .ok (.aload_n 0, 1) := by decide +kernel
theorem dX8_wasSeen_35 : decode cX8_wasSeen 35 = .ok (.getfield 15, 3) := by decide +kernel
theorem dX8_wasSeen_38 : decode cX8_wasSeen 38 = .ok (.iload_n 1, 1) := by decide +kernel
theorem dX8_wasSeen_39 : decode cX8_wasSeen 39 = .ok (.iaload, 1) := by decide +kernel
theorem dX8_wasSeen_40 : decode cX8_wasSeen 40 = .ok (.invokestatic 67, 3) := by decide +kernel
theorem dX8_wasSeen_43 : decode cX8_wasSeen 43 = .ok (.ifCond .eq 5, 3) := by decide +kernel
theorem dX8_wasSeen_46 : decode cX8_wasSeen 46 = .ok (.iconst 1, 1) := by decide +kernel
theorem dX8_wasSeen_47 : decode cX8_wasSeen 47 = .ok (.ireturn, 1) := by decide +kernel
theorem dX8_wasSeen_48 : decode cX8_wasSeen 48 = .ok (.iinc 5 1, 3) := by decide +kernel
theorem dX8_wasSeen_51 : decode cX8_wasSeen 51 = .ok (.goto (-31), 3) := by decide +kernel
theorem dX8_wasSeen_54 : decode cX8_wasSeen 54 = .ok (.iconst 0, 1) := by decide +kernel
theorem dX8_wasSeen_55 : decode cX8_wasSeen 55 = .ok (.ireturn, 1) := by decide +kernel
theorem dX8_showsSecret_0 : decode cX8_showsSecret 0 = .ok (.aload_n 0, 1) := by decide +kernel
theorem dX8_showsSecret_1 : decode cX8_showsSecret 1 = .ok (.aload_n 1, 1) := by decide +kernel
theorem dX8_showsSecret_2 : decode cX8_showsSecret 2 = .ok (.iload_n 2, 1) := by decide +kernel
theorem dX8_showsSecret_3 : decode cX8_showsSecret 3 = .ok (.invokevirtual 63, 3) := by decide +kernel
theorem dX8_showsSecret_6 : decode cX8_showsSecret 6 = .ok (.istore_n 3, 1) := by decide +kernel
theorem dX8_showsSecret_7 : decode cX8_showsSecret 7 = .ok (.iconst 0, 1) := by decide +kernel
theorem dX8_showsSecret_8 : decode cX8_showsSecret 8 = .ok (.istore 4, 2) := by decide +kernel
theorem dX8_showsSecret_10 : decode cX8_showsSecret 10 = .ok (.iload 4, 2) := by decide +kernel
theorem dX8_showsSecret_12 : decode cX8_showsSecret 12 = .ok (.aload_n 0, 1) := by decide +kernel
theorem dX8_showsSecret_13 : decode cX8_showsSecret 13 = .ok (.getfield 34, 3) := by decide +kernel
theorem dX8_showsSecret_16 : decode cX8_showsSecret 16 = .ok (.if_icmp .ge 57, 3) := by decide +kernel
theorem dX8_showsSecret_19 : decode cX8_showsSecret 19 = .ok (.aload_n 0, 1) := by decide +kernel
theorem dX8_showsSecret_20 : decode cX8_showsSecret 20 = .ok (.getfield 30, 3) := by decide +kernel
theorem dX8_showsSecret_23 : decode cX8_showsSecret 23 = .ok (.iload 4, 2) := by decide +kernel
theorem dX8_showsSecret_25 : decode cX8_showsSecret 25 = .ok (.baload, 1) := by decide +kernel
theorem dX8_showsSecret_26 : decode cX8_showsSecret 26 = .ok (.ifCond .eq 41, 3) := by decide +kernel
theorem dX8_showsSecret_29 : decode cX8_showsSecret 29 = .ok (.aload_n 0, 1) := by decide +kernel
theorem dX8_showsSecret_30 : decode cX8_showsSecret 30 = .ok (.getfield 21, 3) := by decide +kernel
theorem dX8_showsSecret_33 : decode cX8_showsSecret 33 = .ok (.iload 4, 2) := by decide +kernel
theorem dX8_showsSecret_35 : decode cX8_showsSecret 35 = .ok (.iaload, 1) := by decide +kernel
theorem dX8_showsSecret_36 : decode cX8_showsSecret 36 = .ok (.iload_n 2, 1) := by decide +kernel
theorem dX8_showsSecret_37 : decode cX8_showsSecret 37 = .ok (.if_icmp .gt 30, 3) := by decide +kernel
theorem dX8_showsSecret_40 : decode cX8_showsSecret 40 = .ok (.iload_n 2, 1) := by decide +kernel
theorem dX8_showsSecret_41 : decode cX8_showsSecret 41 = .ok (.aload_n 0, 1) := by decide +kernel
theorem dX8_showsSecret_42 : decode cX8_showsSecret 42 = .ok (.getfield 24, 3) := by decide +kernel
theorem dX8_showsSecret_45 : decode cX8_showsSecret 45 = .ok (.iload 4, 2) := by decide +kernel
theorem dX8_showsSecret_47 : decode cX8_showsSecret 47 = .ok (.iaload, 1) := by decide +kernel
theorem dX8_showsSecret_48 : decode cX8_showsSecret 48 = .ok (.if_icmp .gt 19, 3) := by decide +kernel
theorem dX8_showsSecret_51 : decode cX8_showsSecret 51 = .ok (.iload_n 3, 1) := by decide +kernel
theorem dX8_showsSecret_52 : decode cX8_showsSecret 52 = .ok (.aload_n 0, 1) := by decide +kernel
theorem dX8_showsSecret_53 : decode cX8_showsSecret 53 = .ok (.getfield 15, 3) := by decide +kernel
theorem dX8_showsSecret_56 : decode cX8_showsSecret 56 = .ok (.iload 4, 2) := by decide +kernel
theorem dX8_showsSecret_58 : decode cX8_showsSecret 58 = .ok (.iaload, 1) := by decide +kernel
theorem dX8_showsSecret_59 : decode cX8_showsSecret 59 = .ok (.invokestatic 67, 3) := by decide +kernel
theorem dX8_showsSecret_62 : decode cX8_showsSecret 62 = .ok (.ifCond .eq 5, 3) := by decide +kernel
theorem dX8_showsSecret_65 : decode cX8_showsSecret 65 = .ok (.iconst 1, 1) := by decide +kernel
theorem dX8_showsSecret_66 : decode cX8_showsSecret 66 = .ok (.ireturn, 1) := by decide +kernel
theorem dX8_showsSecret_67 : decode cX8_showsSecret 67 = .ok (.iinc 4 1, 3) := by decide +kernel
theorem dX8_showsSecret_70 : decode cX8_showsSecret 70 = .ok (.goto (-60), 3) := by decide +kernel
theorem dX8_showsSecret_73 : decode cX8_showsSecret 73 = .ok (.iconst 0, 1) := by decide +kernel
theorem dX8_showsSecret_74 : decode cX8_showsSecret 74 = .ok (.ireturn, 1) := by decide +kernel
theorem dX9_init_0 : decode cX9_init 0 = .ok (.aload_n 0, 1) := by decide +kernel
theorem dX9_init_1 : decode cX9_init 1 = .ok (.invokespecial 3, 3) := by decide +kernel
theorem dX9_init_4 : decode cX9_init 4 = .ok (.new 9, 3) := by decide +kernel
theorem dX9_init_7 : decode cX9_init 7 = .ok (.dup, 1) := by decide +kernel
theorem dX9_init_8 : decode cX9_init 8 = .ok (.invokespecial 11, 3) := by decide +kernel
theorem dX9_init_11 : decode cX9_init 11 = .ok (.astore_n 1, 1) := by decide +kernel
theorem dX9_init_12 : decode cX9_init 12 = .ok (.getstatic 12, 3) := by decide +kernel
theorem dX9_init_15 : decode cX9_init 15 = .ok (.invokevirtual 16, 3) := by decide +kernel
theorem dX9_init_18 : decode cX9_init 18 = .ok (.checkcast 17, 3) := by decide +kernel
theorem dX9_init_21 : decode cX9_init 21 = .ok (.astore_n 2, 1) := by decide +kernel
theorem dX9_init_22 : decode cX9_init 22 = .ok (.new 21, 3) := by decide +kernel
theorem dX9_init_25 : decode cX9_init 25 = .ok (.dup, 1) := by decide +kernel
theorem dX9_init_26 : decode cX9_init 26 = .ok (.bipush 24, 2) := by decide +kernel
theorem dX9_init_28 : decode cX9_init 28 = .ok (.aload_n 2, 1) := by decide +kernel
theorem dX9_init_29 : decode cX9_init 29 = .ok (.invokespecial 23, 3) := by decide +kernel
theorem dX9_init_32 : decode cX9_init 32 = .ok (.astore_n 3, 1) := by decide +kernel
theorem dX9_init_33 : decode cX9_init 33 = .ok (.new 21, 3) := by decide +kernel
theorem dX9_init_36 : decode cX9_init 36 = .ok (.dup, 1) := by decide +kernel
theorem dX9_init_37 : decode cX9_init 37 = .ok (.bipush 10, 2) := by decide +kernel
theorem dX9_init_39 : decode cX9_init 39 = .ok (.aload_n 2, 1) := by decide +kernel
theorem dX9_init_40 : decode cX9_init 40 = .ok (.invokespecial 23, 3) := by decide +kernel
theorem dX9_init_43 : decode cX9_init 43 = .ok (.astore 4, 2) := by decide +kernel
theorem dX9_init_45 : decode cX9_init 45 = .ok (.new 26, 3) := by decide +kernel
theorem dX9_init_48 : decode cX9_init 48 = .ok (.dup, 1) := by decide +kernel
theorem dX9_init_49 : decode cX9_init 49 = .ok (.aload_n 1, 1) := by decide +kernel
theorem dX9_init_50 : decode cX9_init 50 = .ok (.aload_n 3, 1) := by decide +kernel
theorem dX9_init_51 : decode cX9_init 51 = .ok (.invokespecial 28, 3) := by decide +kernel
theorem dX9_init_54 : decode cX9_init 54 = .ok (.astore 5, 2) := by decide +kernel
theorem dX9_init_56 : decode cX9_init 56 = .ok (.bipush 6, 2) := by decide +kernel
theorem dX9_init_58 : decode cX9_init 58 = .ok (.anewarray 31, 3) := by decide +kernel
theorem dX9_init_61 : decode cX9_init 61 = .ok (.astore 6, 2) := by decide +kernel
theorem dX9_init_63 : decode cX9_init 63 = .ok (.iconst 0, 1) := by decide +kernel
theorem dX9_init_64 : decode cX9_init 64 = .ok (.istore 7, 2) := by decide +kernel
theorem dX9_init_66 : decode cX9_init 66 = .ok (.iload 7, 2) := by decide +kernel
theorem dX9_init_68 : decode cX9_init 68 = .ok (.bipush 6, 2) := by decide +kernel
theorem dX9_init_70 : decode cX9_init 70 = .ok (.if_icmp .ge 21, 3) := by decide +kernel
theorem dX9_init_73 : decode cX9_init 73 = .ok (.aload 6, 2) := by decide +kernel
theorem dX9_init_75 : decode cX9_init 75 = .ok (.iload 7, 2) := by decide +kernel
theorem dX9_init_77 : decode cX9_init 77 = .ok (.new 31, 3) := by decide +kernel
theorem dX9_init_80 : decode cX9_init 80 = .ok (.dup, 1) := by decide +kernel
theorem dX9_init_81 : decode cX9_init 81 = .ok (.invokespecial 33, 3) := by decide +kernel
theorem dX9_init_84 : decode cX9_init 84 = .ok (.aastore, 1) := by decide +kernel
theorem dX9_init_85 : decode cX9_init 85 = .ok (.iinc 7 1, 3) := by decide +kernel
theorem dX9_init_88 : decode cX9_init 88 = .ok (.goto (-22), 3) := by decide +kernel
theorem dX9_init_91 : decode cX9_init 91 = .ok (.iconst 2, 1) := by decide +kernel
theorem dX9_init_92 : decode cX9_init 92 = .ok (.anewarray 34, 3) := by decide +kernel
theorem dX9_init_95 : decode cX9_init 95 = .ok (.astore 7, 2) := by decide +kernel
theorem dX9_init_97 : decode cX9_init 97 = .ok (.iconst 0, 1) := by decide +kernel
theorem dX9_init_98 : decode cX9_init 98 = .ok (.istore 8, 2) := by decide +kernel
theorem dX9_init_100 : decode cX9_init 100 = .ok (.iload 8, 2) := by decide +kernel
theorem dX9_init_102 : decode cX9_init 102 = .ok (.iconst 2, 1) := by decide +kernel
theorem dX9_init_103 : decode cX9_init 103 = .ok (.if_icmp .ge 21, 3) := by decide +kernel
theorem dX9_init_106 : decode cX9_init 106 = .ok (.aload 7, 2) := by decide +kernel
theorem dX9_init_108 : decode cX9_init 108 = .ok (.iload 8, 2) := by decide +kernel
theorem dX9_init_110 : decode cX9_init 110 = .ok (.new 34, 3) := by decide +kernel
theorem dX9_init_113 : decode cX9_init 113 = .ok (.dup, 1) := by decide +kernel
theorem dX9_init_114 : decode cX9_init 114 = .ok (.invokespecial 36, 3) := by decide +kernel
theorem dX9_init_117 : decode cX9_init 117 = .ok (.aastore, 1) := by decide +kernel
theorem dX9_init_118 : decode cX9_init 118 = .ok (.iinc 8 1, 3) := by decide +kernel
theorem dX9_init_121 : decode cX9_init 121 = .ok (.goto (-21), 3) := by decide +kernel
theorem dX9_init_124 : decode cX9_init 124 = .ok (.aload_n 0, 1) := by decide +kernel
theorem dX9_init_125 : decode cX9_init 125 = .ok (.aload_n 1, 1) := by decide +kernel
theorem dX9_init_126 : decode cX9_init 126 = .ok (.putfield 37, 3) := by decide +kernel
theorem dX9_init_129 : decode cX9_init 129 = .ok (.aload_n 0, 1) := by decide +kernel
theorem dX9_init_130 : decode cX9_init 130 = .ok (.aload 6, 2) := by decide +kernel
theorem dX9_init_132 : decode cX9_init 132 = .ok (.putfield 41, 3) := by decide +kernel
theorem dX9_init_135 : decode cX9_init 135 = .ok (.aload_n 0, 1) := by decide +kernel
theorem dX9_init_136 : decode cX9_init 136 = .ok (.new 45, 3) := by decide +kernel
theorem dX9_init_139 : decode cX9_init 139 = .ok (.dup, 1) := by decide +kernel
theorem dX9_init_140 : decode cX9_init 140 = .ok (.invokespecial 47, 3) := by decide +kernel
theorem dX9_init_143 : decode cX9_init 143 = .ok (.putfield 48, 3) := by decide +kernel
theorem dX9_init_146 : decode cX9_init 146 = .ok (.aload_n 0, 1) := by decide +kernel
theorem dX9_init_147 : decode cX9_init 147 = .ok (.aload_n 2, 1) := by decide +kernel
theorem dX9_init_148 : decode cX9_init 148 = .ok (.putfield 52, 3) := by decide +kernel
theorem dX9_init_151 : decode cX9_init 151 = .ok (.aload_n 0, 1) := by decide +kernel
theorem dX9_init_152 : decode cX9_init 152 = .ok (.aload_n 3, 1) := by decide +kernel
theorem dX9_init_153 : decode cX9_init 153 = .ok (.putfield 55, 3) := by decide +kernel
theorem dX9_init_156 : decode cX9_init 156 = .ok (.aload_n 0, 1) := by decide +kernel
theorem dX9_init_157 : decode cX9_init 157 = .ok (.aload 4, 2) := by decide +kernel
theorem dX9_init_159 : decode cX9_init 159 = .ok (.putfield 59, 3) := by decide +kernel
theorem dX9_init_162 : decode cX9_init 162 = .ok (.aload_n 0, 1) := by decide +kernel
theorem dX9_init_163 : decode cX9_init 163 = .ok (.aload 7, 2) := by decide +kernel
theorem dX9_init_165 : decode cX9_init 165 = .ok (.putfield 62, 3) := by decide +kernel
theorem dX9_init_168 : decode cX9_init 168 = .ok (.aload_n 0, 1) := by decide +kernel
theorem dX9_init_169 : decode cX9_init 169 = .ok (.new 66, 3) := by decide +kernel
theorem dX9_init_172 : decode cX9_init 172 = .ok (.dup, 1) := by decide +kernel
theorem dX9_init_173 : decode cX9_init 173 = .ok (.invokespecial 68, 3) := by decide +kernel
theorem dX9_init_176 : decode cX9_init 176 = .ok (.putfield 69, 3) := by decide +kernel
theorem dX9_init_179 : decode cX9_init 179 = .ok (.aload_n 0, 1) := by decide +kernel
theorem dX9_init_180 : decode cX9_init 180 = .ok (.aload 5, 2) := by decide +kernel
theorem dX9_init_182 : decode cX9_init 182 = .ok (.putfield 73, 3) := by decide +kernel
theorem dX9_init_185 : decode cX9_init 185 = .ok (.aload_n 0, 1) := by decide +kernel
theorem dX9_init_186 : decode cX9_init 186 = .ok (.new 77, 3) := by decide +kernel
theorem dX9_init_189 : decode cX9_init 189 = .ok (.dup, 1) := by decide +kernel
theorem dX9_init_190 : decode cX9_init 190 = .ok (.aload_n 1, 1) := by decide +kernel
theorem dX9_init_191 : decode cX9_init 191 = .ok (.aload 5, 2) := by decide +kernel
theorem dX9_init_193 : decode cX9_init 193 = .ok (.aload 4, 2) := by decide +kernel
theorem dX9_init_195 : decode cX9_init 195 = .ok (.invokespecial 79, 3) := by decide +kernel
theorem dX9_init_198 : decode cX9_init 198 = .ok (.putfield 82, 3) := by decide +kernel
theorem dX9_init_201 : decode cX9_init 201 = .ok (.aload_n 0, 1) := by decide +kernel
theorem dX9_init_202 : decode cX9_init 202 = .ok (.new 86, 3) := by decide +kernel
theorem dX9_init_205 : decode cX9_init 205 = .ok (.dup, 1) := by decide +kernel
theorem dX9_init_206 : decode cX9_init 206 = .ok (.invokespecial 88, 3) := by decide +kernel
theorem dX9_init_209 : decode cX9_init 209 = .ok (.putfield 89, 3) := by decide +kernel
theorem dX9_init_212 : decode cX9_init 212 = .ok (.return_, 1) := by decide +kernel
theorem dX9_view_0 : decode cX9_view 0 = .ok (.iload_n 1, 1) := by decide +kernel
theorem dX9_view_1 : decode cX9_view 1 = .ok (.bipush 8, 2) := by decide +kernel
theorem dX9_view_3 : decode cX9_view 3 = .ok (.invokestatic 93, 3) := by decide +kernel
theorem dX9_view_6 : decode cX9_view 6 = .ok (.ifCond .ne 6, 3) := by decide +kernel
theorem dX9_view_9 : decode cX9_view 9 = .ok (.bipush (-2), 2) := by decide +kernel
theorem dX9_view_11 : decode cX9_view 11 = .ok (.ireturn, 1) := by decide +kernel
theorem dX9_view_12 : decode cX9_view 12 = .ok (.iload_n 2, 1) := by decide +kernel
theorem dX9_view_13 : decode cX9_view 13 = .ok (.sipush 256, 3) := by decide +kernel
theorem dX9_view_16 : decode cX9_view 16 = .ok (.invokestatic 93, 3) := by decide +kernel
theorem dX9_view_19 : decode cX9_view 19 = .ok (.ifCond .ne 6, 3) := by decide +kernel
theorem dX9_view_22 : decode cX9_view 22 = .ok (.bipush (-3), 2) := by decide +kernel
theorem dX9_view_24 : decode cX9_view 24 = .ok (.ireturn, 1) := by decide +kernel
theorem dX9_view_25 : decode cX9_view 25 = .ok (.aload_n 0, 1) := by decide +kernel
theorem dX9_view_26 : decode cX9_view 26 = .ok (.getfield 37, 3) := by decide +kernel
theorem dX9_view_29 : decode cX9_view 29 = .ok (.getfield 97, 3) := by decide +kernel
theorem dX9_view_32 : decode cX9_view 32 = .ok (.iload_n 1, 1) := by decide +kernel
theorem dX9_view_33 : decode cX9_view 33 = .ok (.iaload, 1) := by decide +kernel
theorem dX9_view_34 : decode cX9_view 34 = .ok (.istore_n 3, 1) := by decide +kernel
theorem dX9_view_35 : decode cX9_view 35 = .ok (.aload_n 0, 1) := by decide +kernel
theorem dX9_view_36 : decode cX9_view 36 = .ok (.getfield 37, 3) := by decide +kernel
theorem dX9_view_39 : decode cX9_view 39 = .ok (.getfield 97, 3) := by decide +kernel
theorem dX9_view_42 : decode cX9_view 42 = .ok (.iload_n 1, 1) := by decide +kernel
theorem dX9_view_43 : decode cX9_view 43 = .ok (.iload_n 2, 1) := by decide +kernel
theorem dX9_view_44 : decode cX9_view 44 = .ok (.iastore, 1) := by decide +kernel
theorem dX9_view_45 : decode cX9_view 45 = .ok (.iload_n 3, 1) := by decide +kernel
theorem dX9_view_46 : decode cX9_view 46 = .ok (.ireturn, 1) := by decide +kernel
theorem dX9_fact_0 : decode cX9_fact 0 = .ok (.iload_n 1, 1) := by decide +kernel
theorem dX9_fact_1 : decode cX9_fact 1 = .ok (.bipush 8, 2) := by decide +kernel
theorem dX9_fact_3 : decode cX9_fact 3 = .ok (.invokestatic 93, 3) := by decide +kernel
theorem dX9_fact_6 : decode cX9_fact 6 = .ok (.ifCond .eq 11, 3) := by decide +kernel
theorem dX9_fact_9 : decode cX9_fact 9 = .ok (.iload_n 2, 1) := by decide +kernel
theorem dX9_fact_10 : decode cX9_fact 10 = .ok (.iconst 4, 1) := by decide +kernel
theorem dX9_fact_11 : decode cX9_fact 11 = .ok (.invokestatic 93, 3) := by decide +kernel
theorem dX9_fact_14 : decode cX9_fact 14 = .ok (.ifCond .ne 6, 3) := by decide +kernel
theorem dX9_fact_17 : decode cX9_fact 17 = .ok (.bipush (-2), 2) := by decide +kernel
theorem dX9_fact_19 : decode cX9_fact 19 = .ok (.ireturn, 1) := by decide +kernel
theorem dX9_fact_20 : decode cX9_fact 20 = .ok (.iload_n 3, 1) := by decide +kernel
theorem dX9_fact_21 : decode cX9_fact 21 = .ok (.iload 4, 2) := by decide +kernel
theorem dX9_fact_23 : decode cX9_fact 23 = .ok (.invokestatic 100, 3) := by decide +kernel
theorem dX9_fact_26 : decode cX9_fact 26 = .ok (.ifCond .eq 16, 3) := by decide +kernel
theorem dX9_fact_29 : decode cX9_fact 29 = .ok (.iload 5, 2) := by decide +kernel
theorem dX9_fact_31 : decode cX9_fact 31 = .ok (.iconst 1, 1) := by decide +kernel
theorem dX9_fact_32 : decode cX9_fact 32 = .ok (.if_icmp .lt 10, 3) := by decide +kernel
theorem dX9_fact_35 : decode cX9_fact 35 = .ok (.iload 5, 2) := by decide +kernel
theorem dX9_fact_37 : decode cX9_fact 37 = .ok (.bipush 9, 2) := by decide +kernel
theorem dX9_fact_39 : decode cX9_fact 39 = .ok (.if_icmp .le 6, 3) := by decide +kernel
theorem dX9_fact_42 : decode cX9_fact 42 = .ok (.bipush (-3), 2) := by decide +kernel
theorem dX9_fact_44 : decode cX9_fact 44 = .ok (.ireturn, 1) := by decide +kernel
theorem dX9_fact_45 : decode cX9_fact 45 = .ok (.aload_n 0, 1) := by decide +kernel
theorem dX9_fact_46 : decode cX9_fact 46 = .ok (.getfield 37, 3) := by decide +kernel
theorem dX9_fact_49 : decode cX9_fact 49 = .ok (.iload_n 1, 1) := by decide +kernel
theorem dX9_fact_50 : decode cX9_fact 50 = .ok (.iload_n 2, 1) := by decide +kernel
theorem dX9_fact_51 : decode cX9_fact 51 = .ok (.iload_n 3, 1) := by decide +kernel
theorem dX9_fact_52 : decode cX9_fact 52 = .ok (.iload 4, 2) := by decide +kernel
theorem dX9_fact_54 : decode cX9_fact 54 = .ok (.iload 5, 2) := by decide +kernel
theorem dX9_fact_56 : decode cX9_fact 56 = .ok (.iload 6, 2) := by decide +kernel
theorem dX9_fact_58 : decode cX9_fact 58 = .ok (.invokevirtual 103, 3) := by decide +kernel
theorem dX9_fact_61 : decode cX9_fact 61 = .ok (.ireturn, 1) := by decide +kernel
theorem dX9_world_0 : decode cX9_world 0 = .ok (.iload_n 1, 1) := by decide +kernel
theorem dX9_world_1 : decode cX9_world 1 = .ok (.iload_n 2, 1) := by decide +kernel
theorem dX9_world_2 : decode cX9_world 2 = .ok (.iload_n 3, 1) := by decide +kernel
theorem dX9_world_3 : decode cX9_world 3 = .ok (.invokestatic 107, 3) := by decide +kernel
theorem dX9_world_6 : decode cX9_world 6 = .ok (.istore 4, 2) := by decide +kernel
theorem dX9_world_8 : decode cX9_world 8 = .ok (.iload 4, 2) := by decide +kernel
theorem dX9_world_10 : decode cX9_world 10 = .ok (.ifCond .eq 8, 3) := by decide +kernel
theorem dX9_world_13 : decode cX9_world 13 = .ok (.iload 4, 2) := by decide +kernel
theorem dX9_world_15 : decode cX9_world 15 = .ok (.goto 16, 3) := by decide +kernel
theorem dX9_world_18 : decode cX9_world 18 = .ok (.aload_n 0, 1) := by decide +kernel
theorem dX9_world_19 : decode cX9_world 19 = .ok (.getfield 37, 3) := by decide +kernel
theorem dX9_world_22 : decode cX9_world 22 = .ok (.iload_n 1, 1) := by decide +kernel
theorem dX9_world_23 : decode cX9_world 23 = .ok (.iload_n 2, 1) := by decide +kernel
theorem dX9_world_24 : decode cX9_world 24 = .ok (.iload_n 3, 1) := by decide +kernel
theorem dX9_world_25 : decode cX9_world 25 = .ok (.invokestatic 111, 3) := by decide +kernel
theorem dX9_world_28 : decode cX9_world 28 = .ok (.invokevirtual 114, 3) := by decide +kernel
theorem dX9_world_31 : decode cX9_world 31 = .ok (.ireturn, 1) := by decide +kernel
theorem dX9_home_0 : decode cX9_home 0 = .ok (.iload_n 1, 1) := by decide +kernel
theorem dX9_home_1 : decode cX9_home 1 = .ok (.bipush 6, 2) := by decide +kernel
theorem dX9_home_3 : decode cX9_home 3 = .ok (.invokestatic 93, 3) := by decide +kernel
theorem dX9_home_6 : decode cX9_home 6 = .ok (.ifCond .eq 12, 3) := by decide +kernel
theorem dX9_home_9 : decode cX9_home 9 = .ok (.iload_n 2, 1) := by decide +kernel
theorem dX9_home_10 : decode cX9_home 10 = .ok (.bipush 8, 2) := by decide +kernel
theorem dX9_home_12 : decode cX9_home 12 = .ok (.invokestatic 93, 3) := by decide +kernel
theorem dX9_home_15 : decode cX9_home 15 = .ok (.ifCond .ne 6, 3) := by decide +kernel
theorem dX9_home_18 : decode cX9_home 18 = .ok (.bipush (-2), 2) := by decide +kernel
theorem dX9_home_20 : decode cX9_home 20 = .ok (.ireturn, 1) := by decide +kernel
theorem dX9_home_21 : decode cX9_home 21 = .ok (.aload_n 0, 1) := by decide +kernel
theorem dX9_home_22 : decode cX9_home 22 = .ok (.getfield 41, 3) := by decide +kernel
theorem dX9_home_25 : decode cX9_home 25 = .ok (.iload_n 1, 1) := by decide +kernel
theorem dX9_home_26 : decode cX9_home 26 = .ok (.aaload, 1) := by decide +kernel
theorem dX9_home_27 : decode cX9_home 27 = .ok (.getfield 118, 3) := by decide +kernel
theorem dX9_home_30 : decode cX9_home 30 = .ok (.istore_n 3, 1) := by decide +kernel
theorem dX9_home_31 : decode cX9_home 31 = .ok (.aload_n 0, 1) := by decide +kernel
theorem dX9_home_32 : decode cX9_home 32 = .ok (.getfield 41, 3) := by decide +kernel
theorem dX9_home_35 : decode cX9_home 35 = .ok (.iload_n 1, 1) := by decide +kernel
theorem dX9_home_36 : decode cX9_home 36 = .ok (.aaload, 1) := by decide +kernel
theorem dX9_home_37 : decode cX9_home 37 = .ok (.iload_n 2, 1) := by decide +kernel
theorem dX9_home_38 : decode cX9_home 38 = .ok (.putfield 118, 3) := by decide +kernel
theorem dX9_home_41 : decode cX9_home 41 = .ok (.iload_n 3, 1) := by decide +kernel
theorem dX9_home_42 : decode cX9_home 42 = .ok (.ireturn, 1) := by decide +kernel
theorem dX9_write_0 : decode cX9_write 0 = .ok (.iload_n 3, 1) := by decide +kernel
theorem dX9_write_1 : decode cX9_write 1 = .ok (.iconst 1, 1) := by decide +kernel
theorem dX9_write_2 : decode cX9_write 2 = .ok (.if_icmp .lt 9, 3) := by decide +kernel
theorem dX9_write_5 : decode cX9_write 5 = .ok (.iload_n 3, 1) := by decide +kernel
theorem dX9_write_6 : decode cX9_write 6 = .ok (.bipush 8, 2) := by decide +kernel
theorem dX9_write_8 : decode cX9_write 8 = .ok (.if_icmp .le 6, 3) := by decide +kernel
theorem dX9_write_11 : decode cX9_write 11 = .ok (.bipush (-3), 2) := by decide +kernel
theorem dX9_write_13 : decode cX9_write 13 = .ok (.ireturn, 1) := by decide +kernel
theorem dX9_write_14 : decode cX9_write 14 = .ok (.aload_n 0, 1) := by decide +kernel
theorem dX9_write_15 : decode cX9_write 15 = .ok (.getfield 48, 3) := by decide +kernel
theorem dX9_write_18 : decode cX9_write 18 = .ok (.lload_n 1, 1) := by decide +kernel
theorem dX9_write_19 : decode cX9_write 19 = .ok (.iload_n 3, 1) := by decide +kernel
theorem dX9_write_20 : decode cX9_write 20 = .ok (.invokevirtual 122, 3) := by decide +kernel
theorem dX9_write_23 : decode cX9_write 23 = .ok (.ireturn, 1) := by decide +kernel
theorem dX9_erase_0 : decode cX9_erase 0 = .ok (.aload_n 0, 1) := by decide +kernel
theorem dX9_erase_1 : decode cX9_erase 1 = .ok (.getfield 48, 3) := by decide +kernel
theorem dX9_erase_4 : decode cX9_erase 4 = .ok (.invokevirtual 126, 3) := by decide +kernel
theorem dX9_erase_7 : decode cX9_erase 7 = .ok (.ireturn, 1) := by decide +kernel
theorem dX9_fault_0 : decode cX9_fault 0 = .ok (.iload_n 1, 1) := by decide +kernel
theorem dX9_fault_1 : decode cX9_fault 1 = .ok (.iconst 2, 1) := by decide +kernel
theorem dX9_fault_2 : decode cX9_fault 2 = .ok (.invokestatic 93, 3) := by decide +kernel
theorem dX9_fault_5 : decode cX9_fault 5 = .ok (.ifCond .ne 6, 3) := by decide +kernel
theorem dX9_fault_8 : decode cX9_fault 8 = .ok (.bipush (-3), 2) := by decide +kernel
theorem dX9_fault_10 : decode cX9_fault 10 = .ok (.ireturn, 1) := by decide +kernel
theorem dX9_fault_11 : decode cX9_fault 11 = .ok (.aload_n 0, 1) := by decide +kernel
theorem dX9_fault_12 : decode cX9_fault 12 = .ok (.getfield 48, 3) := by decide +kernel
theorem dX9_fault_15 : decode cX9_fault 15 = .ok (.iload_n 1, 1) := by decide +kernel
theorem dX9_fault_16 : decode cX9_fault 16 = .ok (.ifCond .ne 7, 3) := by decide +kernel
theorem dX9_fault_19 : decode cX9_fault 19 = .ok (.iconst 1, 1) := by decide +kernel
theorem dX9_fault_20 : decode cX9_fault 20 = .ok (.goto 4, 3) := by decide +kernel
theorem dX9_fault_23 : decode cX9_fault 23 = .ok (.iconst 0, 1) := by decide +kernel
theorem dX9_fault_24 : decode cX9_fault 24 = .ok (.invokevirtual 130, 3) := by decide +kernel
theorem dX9_fault_27 : decode cX9_fault 27 = .ok (.ireturn, 1) := by decide +kernel
theorem dX9_life_0 : decode cX9_life 0 = .ok (.iload_n 1, 1) := by decide +kernel
theorem dX9_life_1 : decode cX9_life 1 = .ok (.bipush 6, 2) := by decide +kernel
theorem dX9_life_3 : decode cX9_life 3 = .ok (.invokestatic 93, 3) := by decide +kernel
theorem dX9_life_6 : decode cX9_life 6 = .ok (.ifCond .ne 6, 3) := by decide +kernel
theorem dX9_life_9 : decode cX9_life 9 = .ok (.bipush (-2), 2) := by decide +kernel
theorem dX9_life_11 : decode cX9_life 11 = .ok (.ireturn, 1) := by decide +kernel
theorem dX9_life_12 : decode cX9_life 12 = .ok (.aload_n 0, 1) := by decide +kernel
theorem dX9_life_13 : decode cX9_life 13 = .ok (.getfield 48, 3) := by decide +kernel
theorem dX9_life_16 : decode cX9_life 16 = .ok (.iconst 1, 1) := by decide +kernel
theorem dX9_life_17 : decode cX9_life 17 = .ok (.invokevirtual 130, 3) := by decide +kernel
theorem dX9_life_20 : decode cX9_life 20 = .ok (.iconst (-1), 1) := by decide +kernel
theorem dX9_life_21 : decode cX9_life 21 = .ok (.if_icmp .eq 6, 3) := by decide +kernel
theorem dX9_life_24 : decode cX9_life 24 = .ok (.bipush (-4), 2) := by decide +kernel
theorem dX9_life_26 : decode cX9_life 26 = .ok (.ireturn, 1) := by decide +kernel
theorem dX9_life_27 : decode cX9_life 27 = .ok (.aload_n 0, 1) := by decide +kernel
theorem dX9_life_28 : decode cX9_life 28 = .ok (.getfield 48, 3) := by decide +kernel
theorem dX9_life_31 : decode cX9_life 31 = .ok (.invokevirtual 126, 3) := by decide +kernel
theorem dX9_life_34 : decode cX9_life 34 = .ok (.pop, 1) := by decide +kernel
theorem dX9_life_35 : decode cX9_life 35 = .ok (.aload_n 0, 1) := by decide +kernel
theorem dX9_life_36 : decode cX9_life 36 = .ok (.getfield 41, 3) := by decide +kernel
theorem dX9_life_39 : decode cX9_life 39 = .ok (.iload_n 1, 1) := by decide +kernel
theorem dX9_life_40 : decode cX9_life 40 = .ok (.aaload, 1) := by decide +kernel
theorem dX9_life_41 : decode cX9_life 41 = .ok (.aload_n 0, 1) := by decide +kernel
theorem dX9_life_42 : decode cX9_life 42 = .ok (.getfield 48, 3) := by decide +kernel
theorem dX9_life_45 : decode cX9_life 45 = .ok (.invokevirtual 134, 3) := by decide +kernel
theorem dX9_life_48 : decode cX9_life 48 = .ok (.ireturn, 1) := by decide +kernel
theorem dX9_table_0 : decode cX9_table 0 = .ok (.iload_n 1, 1) := by decide +kernel
theorem dX9_table_1 : decode cX9_table 1 = .ok (.iconst 2, 1) := by decide +kernel
theorem dX9_table_2 : decode cX9_table 2 = .ok (.invokestatic 93, 3) := by decide +kernel
theorem dX9_table_5 : decode cX9_table 5 = .ok (.ifCond .ne 6, 3) := by decide +kernel
theorem dX9_table_8 : decode cX9_table 8 = .ok (.bipush (-2), 2) := by decide +kernel
theorem dX9_table_10 : decode cX9_table 10 = .ok (.ireturn, 1) := by decide +kernel
theorem dX9_table_11 : decode cX9_table 11 = .ok (.aload_n 0, 1) := by decide +kernel
theorem dX9_table_12 : decode cX9_table 12 = .ok (.getfield 48, 3) := by decide +kernel
theorem dX9_table_15 : decode cX9_table 15 = .ok (.iconst 0, 1) := by decide +kernel
theorem dX9_table_16 : decode cX9_table 16 = .ok (.invokevirtual 130, 3) := by decide +kernel
theorem dX9_table_19 : decode cX9_table 19 = .ok (.iconst (-1), 1) := by decide +kernel
theorem dX9_table_20 : decode cX9_table 20 = .ok (.if_icmp .eq 6, 3) := by decide +kernel
theorem dX9_table_23 : decode cX9_table 23 = .ok (.bipush (-4), 2) := by decide +kernel
theorem dX9_table_25 : decode cX9_table 25 = .ok (.ireturn, 1) := by decide +kernel
theorem dX9_table_26 : decode cX9_table 26 = .ok (.aload_n 0, 1) := by decide +kernel
theorem dX9_table_27 : decode cX9_table 27 = .ok (.getfield 48, 3) := by decide +kernel
theorem dX9_table_30 : decode cX9_table 30 = .ok (.invokevirtual 126, 3) := by decide +kernel
theorem dX9_table_33 : decode cX9_table 33 = .ok (.pop, 1) := by decide +kernel
theorem dX9_table_34 : decode cX9_table 34 = .ok (.aload_n 0, 1) := by decide +kernel
theorem dX9_table_35 : decode cX9_table 35 = .ok (.getfield 62, 3) := by decide +kernel
theorem dX9_table_38 : decode cX9_table 38 = .ok (.iload_n 1, 1) := by decide +kernel
theorem dX9_table_39 : decode cX9_table 39 = .ok (.aaload, 1) := by decide +kernel
theorem dX9_table_40 : decode cX9_table 40 = .ok (.aload_n 0, 1) := by decide +kernel
theorem dX9_table_41 : decode cX9_table 41 = .ok (.getfield 48, 3) := by decide +kernel
theorem dX9_table_44 : decode cX9_table 44 = .ok (.invokevirtual 138, 3) := by decide +kernel
theorem dX9_table_47 : decode cX9_table 47 = .ok (.ireturn, 1) := by decide +kernel
theorem dX9_where_0 : decode cX9_where 0 = .ok (.iload_n 1, 1) := by decide +kernel
theorem dX9_where_1 : decode cX9_where 1 = .ok (.bipush 6, 2) := by decide +kernel
theorem dX9_where_3 : decode cX9_where 3 = .ok (.iload_n 2, 1) := by decide +kernel
theorem dX9_where_4 : decode cX9_where 4 = .ok (.invokestatic 141, 3) := by decide +kernel
theorem dX9_where_7 : decode cX9_where 7 = .ok (.istore_n 3, 1) := by decide +kernel
theorem dX9_where_8 : decode cX9_where 8 = .ok (.iload_n 3, 1) := by decide +kernel
theorem dX9_where_9 : decode cX9_where 9 = .ok (.ifCond .eq 7, 3) := by decide +kernel
theorem dX9_where_12 : decode cX9_where 12 = .ok (.iload_n 3, 1) := by decide +kernel
theorem dX9_where_13 : decode cX9_where 13 = .ok (.goto 13, 3) := by decide +kernel
theorem dX9_where_16 : decode cX9_where 16 = .ok (.aload_n 0, 1) := by decide +kernel
theorem dX9_where_17 : decode cX9_where 17 = .ok (.getfield 41, 3) := by decide +kernel
theorem dX9_where_20 : decode cX9_where 20 = .ok (.iload_n 1, 1) := by decide +kernel
theorem dX9_where_21 : decode cX9_where 21 = .ok (.aaload, 1) := by decide +kernel
theorem dX9_where_22 : decode cX9_where 22 = .ok (.iload_n 2, 1) := by decide +kernel
theorem dX9_where_23 : decode cX9_where 23 = .ok (.invokevirtual 144, 3) := by decide +kernel
theorem dX9_where_26 : decode cX9_where 26 = .ok (.ireturn, 1) := by decide +kernel
theorem dX9_saw_0 : decode cX9_saw 0 = .ok (.iload_n 1, 1) := by decide +kernel
theorem dX9_saw_1 : decode cX9_saw 1 = .ok (.bipush 6, 2) := by decide +kernel
theorem dX9_saw_3 : decode cX9_saw 3 = .ok (.iload_n 2, 1) := by decide +kernel
theorem dX9_saw_4 : decode cX9_saw 4 = .ok (.invokestatic 141, 3) := by decide +kernel
theorem dX9_saw_7 : decode cX9_saw 7 = .ok (.istore_n 3, 1) := by decide +kernel
theorem dX9_saw_8 : decode cX9_saw 8 = .ok (.iload_n 3, 1) := by decide +kernel
theorem dX9_saw_9 : decode cX9_saw 9 = .ok (.ifCond .eq 7, 3) := by decide +kernel
theorem dX9_saw_12 : decode cX9_saw 12 = .ok (.iload_n 3, 1) := by decide +kernel
theorem dX9_saw_13 : decode cX9_saw 13 = .ok (.goto 17, 3) := by decide +kernel
theorem dX9_saw_16 : decode cX9_saw 16 = .ok (.aload_n 0, 1) := by decide +kernel
theorem dX9_saw_17 : decode cX9_saw 17 = .ok (.getfield 37, 3) := by decide +kernel
theorem dX9_saw_20 : decode cX9_saw 20 = .ok (.aload_n 0, 1) := by decide +kernel
theorem dX9_saw_21 : decode cX9_saw 21 = .ok (.getfield 41, 3) := by decide +kernel
theorem dX9_saw_24 : decode cX9_saw 24 = .ok (.iload_n 1, 1) := by decide +kernel
theorem dX9_saw_25 : decode cX9_saw 25 = .ok (.aaload, 1) := by decide +kernel
theorem dX9_saw_26 : decode cX9_saw 26 = .ok (.iload_n 2, 1) := by decide +kernel
theorem dX9_saw_27 : decode cX9_saw 27 = .ok (.invokevirtual 147, 3) := by decide +kernel
theorem dX9_saw_30 : decode cX9_saw 30 = .ok (.ireturn, 1) := by decide +kernel
theorem dX9_post_0 : decode cX9_post 0 = .ok (.iload_n 1, 1) := by decide +kernel
theorem dX9_post_1 : decode cX9_post 1 = .ok (.iconst 3, 1) := by decide +kernel
theorem dX9_post_2 : decode cX9_post 2 = .ok (.invokestatic 93, 3) := by decide +kernel
theorem dX9_post_5 : decode cX9_post 5 = .ok (.ifCond .ne 6, 3) := by decide +kernel
theorem dX9_post_8 : decode cX9_post 8 = .ok (.bipush (-2), 2) := by decide +kernel
theorem dX9_post_10 : decode cX9_post 10 = .ok (.ireturn, 1) := by decide +kernel
theorem dX9_post_11 : decode cX9_post 11 = .ok (.iload_n 2, 1) := by decide +kernel
theorem dX9_post_12 : decode cX9_post 12 = .ok (.ifCond .lt 9, 3) := by decide +kernel
theorem dX9_post_15 : decode cX9_post 15 = .ok (.iload_n 2, 1) := by decide +kernel
theorem dX9_post_16 : decode cX9_post 16 = .ok (.bipush 20, 2) := by decide +kernel
theorem dX9_post_18 : decode cX9_post 18 = .ok (.if_icmp .le 6, 3) := by decide +kernel
theorem dX9_post_21 : decode cX9_post 21 = .ok (.bipush (-3), 2) := by decide +kernel
theorem dX9_post_23 : decode cX9_post 23 = .ok (.ireturn, 1) := by decide +kernel
theorem dX9_post_24 : decode cX9_post 24 = .ok (.aload_n 0, 1) := by decide +kernel
theorem dX9_post_25 : decode cX9_post 25 = .ok (.getfield 52, 3) := by decide +kernel
theorem dX9_post_28 : decode cX9_post 28 = .ok (.iload_n 1, 1) := by decide +kernel
theorem dX9_post_29 : decode cX9_post 29 = .ok (.iaload, 1) := by decide +kernel
theorem dX9_post_30 : decode cX9_post 30 = .ok (.istore_n 3, 1) := by decide +kernel
theorem dX9_post_31 : decode cX9_post 31 = .ok (.aload_n 0, 1) := by decide +kernel
theorem dX9_post_32 : decode cX9_post 32 = .ok (.getfield 52, 3) := by decide +kernel
theorem dX9_post_35 : decode cX9_post 35 = .ok (.iload_n 1, 1) := by decide +kernel
theorem dX9_post_36 : decode cX9_post 36 = .ok (.iload_n 2, 1) := by decide +kernel
theorem dX9_post_37 : decode cX9_post 37 = .ok (.iastore, 1) := by decide +kernel
theorem dX9_post_38 : decode cX9_post 38 = .ok (.iload_n 3, 1) := by decide +kernel
theorem dX9_post_39 : decode cX9_post 39 = .ok (.ireturn, 1) := by decide +kernel
theorem dX9_send_0 : decode cX9_send 0 = .ok (.iload_n 1, 1) := by decide +kernel
theorem dX9_send_1 : decode cX9_send 1 = .ok (.iload_n 2, 1) := by decide +kernel
theorem dX9_send_2 : decode cX9_send 2 = .ok (.iload_n 3, 1) := by decide +kernel
theorem dX9_send_3 : decode cX9_send 3 = .ok (.iload 4, 2) := by decide +kernel
theorem dX9_send_5 : decode cX9_send 5 = .ok (.iload 5, 2) := by decide +kernel
theorem dX9_send_7 : decode cX9_send 7 = .ok (.iload 6, 2) := by decide +kernel
theorem dX9_send_9 : decode cX9_send 9 = .ok (.iload 7, 2) := by decide +kernel
theorem dX9_send_11 : decode cX9_send 11 = .ok (.invokestatic 151, 3) := by decide +kernel
theorem dX9_send_14 : decode cX9_send 14 = .ok (.istore 8, 2) := by decide +kernel
theorem dX9_send_16 : decode cX9_send 16 = .ok (.iload 8, 2) := by decide +kernel
theorem dX9_send_18 : decode cX9_send 18 = .ok (.ifCond .eq 8, 3) := by decide +kernel
theorem dX9_send_21 : decode cX9_send 21 = .ok (.iload 8, 2) := by decide +kernel
theorem dX9_send_23 : decode cX9_send 23 = .ok (.goto 24, 3) := by decide +kernel
theorem dX9_send_26 : decode cX9_send 26 = .ok (.aload_n 0, 1) := by decide +kernel
theorem dX9_send_27 : decode cX9_send 27 = .ok (.getfield 55, 3) := by decide +kernel
theorem dX9_send_30 : decode cX9_send 30 = .ok (.iload_n 1, 1) := by decide +kernel
theorem dX9_send_31 : decode cX9_send 31 = .ok (.iload_n 2, 1) := by decide +kernel
theorem dX9_send_32 : decode cX9_send 32 = .ok (.iload_n 3, 1) := by decide +kernel
theorem dX9_send_33 : decode cX9_send 33 = .ok (.iload 4, 2) := by decide +kernel
theorem dX9_send_35 : decode cX9_send 35 = .ok (.iload 5, 2) := by decide +kernel
theorem dX9_send_37 : decode cX9_send 37 = .ok (.iload 6, 2) := by decide +kernel
theorem dX9_send_39 : decode cX9_send 39 = .ok (.invokestatic 111, 3) := by decide +kernel
theorem dX9_send_42 : decode cX9_send 42 = .ok (.iload 7, 2) := by decide +kernel
theorem dX9_send_44 : decode cX9_send 44 = .ok (.invokevirtual 155, 3) := by decide +kernel
theorem dX9_send_47 : decode cX9_send 47 = .ok (.ireturn, 1) := by decide +kernel
theorem dX9_right_0 : decode cX9_right 0 = .ok (.iload_n 1, 1) := by decide +kernel
theorem dX9_right_1 : decode cX9_right 1 = .ok (.aload_n 0, 1) := by decide +kernel
theorem dX9_right_2 : decode cX9_right 2 = .ok (.getfield 55, 3) := by decide +kernel
theorem dX9_right_5 : decode cX9_right 5 = .ok (.getfield 159, 3) := by decide +kernel
theorem dX9_right_8 : decode cX9_right 8 = .ok (.invokestatic 93, 3) := by decide +kernel
theorem dX9_right_11 : decode cX9_right 11 = .ok (.ifCond .ne 6, 3) := by decide +kernel
theorem dX9_right_14 : decode cX9_right 14 = .ok (.bipush (-2), 2) := by decide +kernel
theorem dX9_right_16 : decode cX9_right 16 = .ok (.ireturn, 1) := by decide +kernel
theorem dX9_right_17 : decode cX9_right 17 = .ok (.aload_n 0, 1) := by decide +kernel
theorem dX9_right_18 : decode cX9_right 18 = .ok (.getfield 37, 3) := by decide +kernel
theorem dX9_right_21 : decode cX9_right 21 = .ok (.aload_n 0, 1) := by decide +kernel
theorem dX9_right_22 : decode cX9_right 22 = .ok (.getfield 55, 3) := by decide +kernel
theorem dX9_right_25 : decode cX9_right 25 = .ok (.getfield 162, 3) := by decide +kernel
theorem dX9_right_28 : decode cX9_right 28 = .ok (.iload_n 1, 1) := by decide +kernel
theorem dX9_right_29 : decode cX9_right 29 = .ok (.iaload, 1) := by decide +kernel
theorem dX9_right_30 : decode cX9_right 30 = .ok (.invokevirtual 114, 3) := by decide +kernel
theorem dX9_right_33 : decode cX9_right 33 = .ok (.aload_n 0, 1) := by decide +kernel
theorem dX9_right_34 : decode cX9_right 34 = .ok (.getfield 55, 3) := by decide +kernel
theorem dX9_right_37 : decode cX9_right 37 = .ok (.getfield 165, 3) := by decide +kernel
theorem dX9_right_40 : decode cX9_right 40 = .ok (.iload_n 1, 1) := by decide +kernel
theorem dX9_right_41 : decode cX9_right 41 = .ok (.iaload, 1) := by decide +kernel
theorem dX9_right_42 : decode cX9_right 42 = .ok (.if_icmp .ne 7, 3) := by decide +kernel
theorem dX9_right_45 : decode cX9_right 45 = .ok (.iconst 1, 1) := by decide +kernel
theorem dX9_right_46 : decode cX9_right 46 = .ok (.goto 4, 3) := by decide +kernel
theorem dX9_right_49 : decode cX9_right 49 = .ok (.iconst 0, 1) := by decide +kernel
theorem dX9_right_50 : decode cX9_right 50 = .ok (.ireturn, 1) := by decide +kernel
theorem dX9_comes_0 : decode cX9_comes 0 = .ok (.iload_n 1, 1) := by decide +kernel
theorem dX9_comes_1 : decode cX9_comes 1 = .ok (.aload_n 0, 1) := by decide +kernel
theorem dX9_comes_2 : decode cX9_comes 2 = .ok (.getfield 55, 3) := by decide +kernel
theorem dX9_comes_5 : decode cX9_comes 5 = .ok (.getfield 159, 3) := by decide +kernel
theorem dX9_comes_8 : decode cX9_comes 8 = .ok (.invokestatic 93, 3) := by decide +kernel
theorem dX9_comes_11 : decode cX9_comes 11 = .ok (.ifCond .eq 14, 3) := by decide +kernel
theorem dX9_comes_14 : decode cX9_comes 14 = .ok (.aload_n 0, 1) := by decide +kernel
theorem dX9_comes_15 : decode cX9_comes 15 = .ok (.getfield 55, 3) := by decide +kernel
theorem dX9_comes_18 : decode cX9_comes 18 = .ok (.iload_n 1, 1) := by decide +kernel
theorem dX9_comes_19 : decode cX9_comes 19 = .ok (.invokevirtual 168, 3) := by decide +kernel
theorem dX9_comes_22 : decode cX9_comes 22 = .ok (.goto 5, 3) := by decide +kernel
theorem dX9_comes_25 : decode cX9_comes 25 = .ok (.bipush (-2), 2) := by decide +kernel
theorem dX9_comes_27 : decode cX9_comes 27 = .ok (.ireturn, 1) := by decide +kernel
theorem dX9_slips_0 : decode cX9_slips 0 = .ok (.iload_n 1, 1) := by decide +kernel
theorem dX9_slips_1 : decode cX9_slips 1 = .ok (.aload_n 0, 1) := by decide +kernel
theorem dX9_slips_2 : decode cX9_slips 2 = .ok (.getfield 55, 3) := by decide +kernel
theorem dX9_slips_5 : decode cX9_slips 5 = .ok (.getfield 159, 3) := by decide +kernel
theorem dX9_slips_8 : decode cX9_slips 8 = .ok (.invokestatic 93, 3) := by decide +kernel
theorem dX9_slips_11 : decode cX9_slips 11 = .ok (.ifCond .ne 6, 3) := by decide +kernel
theorem dX9_slips_14 : decode cX9_slips 14 = .ok (.bipush (-2), 2) := by decide +kernel
theorem dX9_slips_16 : decode cX9_slips 16 = .ok (.ireturn, 1) := by decide +kernel
theorem dX9_slips_17 : decode cX9_slips 17 = .ok (.aload_n 0, 1) := by decide +kernel
theorem dX9_slips_18 : decode cX9_slips 18 = .ok (.getfield 55, 3) := by decide +kernel
theorem dX9_slips_21 : decode cX9_slips 21 = .ok (.getfield 162, 3) := by decide +kernel
theorem dX9_slips_24 : decode cX9_slips 24 = .ok (.iload_n 1, 1) := by decide +kernel
theorem dX9_slips_25 : decode cX9_slips 25 = .ok (.iaload, 1) := by decide +kernel
theorem dX9_slips_26 : decode cX9_slips 26 = .ok (.invokestatic 171, 3) := by decide +kernel
theorem dX9_slips_29 : decode cX9_slips 29 = .ok (.istore_n 2, 1) := by decide +kernel
theorem dX9_slips_30 : decode cX9_slips 30 = .ok (.aload_n 0, 1) := by decide +kernel
theorem dX9_slips_31 : decode cX9_slips 31 = .ok (.getfield 37, 3) := by decide +kernel
theorem dX9_slips_34 : decode cX9_slips 34 = .ok (.aload_n 0, 1) := by decide +kernel
theorem dX9_slips_35 : decode cX9_slips 35 = .ok (.getfield 41, 3) := by decide +kernel
theorem dX9_slips_38 : decode cX9_slips 38 = .ok (.aload_n 0, 1) := by decide +kernel
theorem dX9_slips_39 : decode cX9_slips 39 = .ok (.getfield 55, 3) := by decide +kernel
theorem dX9_slips_42 : decode cX9_slips 42 = .ok (.getfield 174, 3) := by decide +kernel
theorem dX9_slips_45 : decode cX9_slips 45 = .ok (.iload_n 1, 1) := by decide +kernel
theorem dX9_slips_46 : decode cX9_slips 46 = .ok (.iaload, 1) := by decide +kernel
theorem dX9_slips_47 : decode cX9_slips 47 = .ok (.aaload, 1) := by decide +kernel
theorem dX9_slips_48 : decode cX9_slips 48 = .ok (.iload_n 2, 1) := by decide +kernel
theorem dX9_slips_49 : decode cX9_slips 49 = .ok (.invokevirtual 147, 3) := by decide +kernel
theorem dX9_slips_52 : decode cX9_slips 52 = .ok (.istore_n 3, 1) := by decide +kernel
theorem dX9_slips_53 : decode cX9_slips 53 = .ok (.iload_n 3, 1) := by decide +kernel
theorem dX9_slips_54 : decode cX9_slips 54 = .ok (.aload_n 0, 1) := by decide +kernel
theorem dX9_slips_55 : decode cX9_slips 55 = .ok (.getfield 55, 3) := by decide +kernel
theorem dX9_slips_58 : decode cX9_slips 58 = .ok (.getfield 162, 3) := by decide +kernel
theorem dX9_slips_61 : decode cX9_slips 61 = .ok (.iload_n 1, 1) := by decide +kernel
theorem dX9_slips_62 : decode cX9_slips 62 = .ok (.iaload, 1) := by decide +kernel
theorem dX9_slips_63 : decode cX9_slips 63 = .ok (.invokestatic 177, 3) := by decide +kernel
theorem dX9_slips_66 : decode cX9_slips 66 = .ok (.invokestatic 180, 3) := by decide +kernel
theorem dX9_slips_69 : decode cX9_slips 69 = .ok (.ifCond .eq 7, 3) := by decide +kernel
theorem dX9_slips_72 : decode cX9_slips 72 = .ok (.iconst 0, 1) := by decide +kernel
theorem dX9_slips_73 : decode cX9_slips 73 = .ok (.goto 4, 3) := by decide +kernel
theorem dX9_slips_76 : decode cX9_slips 76 = .ok (.iconst 1, 1) := by decide +kernel
theorem dX9_slips_77 : decode cX9_slips 77 = .ok (.istore 4, 2) := by decide +kernel
theorem dX9_slips_79 : decode cX9_slips 79 = .ok (.iload_n 2, 1) := by decide +kernel
theorem dX9_slips_80 : decode cX9_slips 80 = .ok (.aload_n 0, 1) := by decide +kernel
theorem dX9_slips_81 : decode cX9_slips 81 = .ok (.getfield 55, 3) := by decide +kernel
theorem dX9_slips_84 : decode cX9_slips 84 = .ok (.getfield 183, 3) := by decide +kernel
theorem dX9_slips_87 : decode cX9_slips 87 = .ok (.iload_n 1, 1) := by decide +kernel
theorem dX9_slips_88 : decode cX9_slips 88 = .ok (.iaload, 1) := by decide +kernel
theorem dX9_slips_89 : decode cX9_slips 89 = .ok (.if_icmp .le 7, 3) := by decide +kernel
theorem dX9_slips_92 : decode cX9_slips 92 = .ok (.iconst 2, 1) := by decide +kernel
theorem dX9_slips_93 : decode cX9_slips 93 = .ok (.goto 4, 3) := by decide +kernel
theorem dX9_slips_96 : decode cX9_slips 96 = .ok (.iconst 0, 1) := by decide +kernel
theorem dX9_slips_97 : decode cX9_slips 97 = .ok (.istore 5, 2) := by decide +kernel
theorem dX9_slips_99 : decode cX9_slips 99 = .ok (.iload 4, 2) := by decide +kernel
theorem dX9_slips_101 : decode cX9_slips 101 = .ok (.iload 5, 2) := by decide +kernel
theorem dX9_slips_103 : decode cX9_slips 103 = .ok (.ior, 1) := by decide +kernel
theorem dX9_slips_104 : decode cX9_slips 104 = .ok (.aload_n 0, 1) := by decide +kernel
theorem dX9_slips_105 : decode cX9_slips 105 = .ok (.getfield 55, 3) := by decide +kernel
theorem dX9_slips_108 : decode cX9_slips 108 = .ok (.iload_n 1, 1) := by decide +kernel
theorem dX9_slips_109 : decode cX9_slips 109 = .ok (.invokevirtual 186, 3) := by decide +kernel
theorem dX9_slips_112 : decode cX9_slips 112 = .ok (.ior, 1) := by decide +kernel
theorem dX9_slips_113 : decode cX9_slips 113 = .ok (.ireturn, 1) := by decide +kernel
theorem dX9_lacks_0 : decode cX9_lacks 0 = .ok (.iload_n 1, 1) := by decide +kernel
theorem dX9_lacks_1 : decode cX9_lacks 1 = .ok (.bipush 6, 2) := by decide +kernel
theorem dX9_lacks_3 : decode cX9_lacks 3 = .ok (.iload_n 2, 1) := by decide +kernel
theorem dX9_lacks_4 : decode cX9_lacks 4 = .ok (.invokestatic 141, 3) := by decide +kernel
theorem dX9_lacks_7 : decode cX9_lacks 7 = .ok (.istore_n 3, 1) := by decide +kernel
theorem dX9_lacks_8 : decode cX9_lacks 8 = .ok (.iload_n 3, 1) := by decide +kernel
theorem dX9_lacks_9 : decode cX9_lacks 9 = .ok (.ifCond .eq 5, 3) := by decide +kernel
theorem dX9_lacks_12 : decode cX9_lacks 12 = .ok (.iload_n 3, 1) := by decide +kernel
theorem dX9_lacks_13 : decode cX9_lacks 13 = .ok (.ireturn, 1) := by decide +kernel
theorem dX9_lacks_14 : decode cX9_lacks 14 = .ok (.iconst 0, 1) := by decide +kernel
theorem dX9_lacks_15 : decode cX9_lacks 15 = .ok (.istore 4, 2) := by decide +kernel
theorem dX9_lacks_17 : decode cX9_lacks 17 = .ok (.iconst 0, 1) := by decide +kernel
theorem dX9_lacks_18 : decode cX9_lacks 18 = .ok (.istore 5, 2) := by decide +kernel
theorem dX9_lacks_20 : decode cX9_lacks 20 = .ok (.iload 5, 2) := by decide +kernel
theorem dX9_lacks_22 : decode cX9_lacks 22 = .ok (.aload_n 0, 1) := by decide +kernel
theorem dX9_lacks_23 : decode cX9_lacks 23 = .ok (.getfield 37, 3) := by decide +kernel
theorem dX9_lacks_26 : decode cX9_lacks 26 = .ok (.getfield 189, 3) := by decide +kernel
theorem dX9_lacks_29 : decode cX9_lacks 29 = .ok (.if_icmp .ge 55, 3) := by decide +kernel
theorem dX9_lacks_32 : decode cX9_lacks 32 = .ok (.aload_n 0, 1) := by decide +kernel
theorem dX9_lacks_33 : decode cX9_lacks 33 = .ok (.getfield 37, 3) := by decide +kernel
theorem dX9_lacks_36 : decode cX9_lacks 36 = .ok (.iload 5, 2) := by decide +kernel
theorem dX9_lacks_38 : decode cX9_lacks 38 = .ok (.aload_n 0, 1) := by decide +kernel
