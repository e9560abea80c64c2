theorem dX0_init_0 : decode cX0_init 0 = .ok (.aload_n 0, 1) := by decide +kernel
theorem dX0_init_1 : decode cX0_init 1 = .ok (.invokespecial 3, 3) := by decide +kernel
theorem dX0_init_4 : decode cX0_init 4 = .ok (.aload_n 0, 1) := by decide +kernel
theorem dX0_init_5 : decode cX0_init 5 = .ok (.bipush 8, 2) := by decide +kernel
theorem dX0_init_7 : decode cX0_init 7 = .ok (.newarray .int, 2) := by decide +kernel
theorem dX0_init_9 : decode cX0_init 9 = .ok (.putfield 9, 3) := by decide +kernel
theorem dX0_init_12 : decode cX0_init 12 = .ok (.aload_n 0, 1) := by decide +kernel
theorem dX0_init_13 : decode cX0_init 13 = .ok (.bipush 8, 2) := by decide +kernel
theorem dX0_init_15 : decode cX0_init 15 = .ok (.newarray .int, 2) := by decide +kernel
theorem dX0_init_17 : decode cX0_init 17 = .ok (.putfield 15, 3) := by decide +kernel
theorem dX0_init_20 : decode cX0_init 20 = .ok (.aload_n 0, 1) := by decide +kernel
theorem dX0_init_21 : decode cX0_init 21 = .ok (.bipush 8, 2) := by decide +kernel
theorem dX0_init_23 : decode cX0_init 23 = .ok (.newarray .int, 2) := by decide +kernel
theorem dX0_init_25 : decode cX0_init 25 = .ok (.putfield 18, 3) := by decide +kernel
theorem dX0_init_28 : decode cX0_init 28 = .ok (.aload_n 0, 1) := by decide +kernel
theorem dX0_init_29 : decode cX0_init 29 = .ok (.iconst 0, 1) := by decide +kernel
theorem dX0_init_30 : decode cX0_init 30 = .ok (.putfield 21, 3) := by decide +kernel
theorem dX0_init_33 : decode cX0_init 33 = .ok (.aload_n 0, 1) := by decide +kernel
theorem dX0_init_34 : decode cX0_init 34 = .ok (.iconst 0, 1) := by decide +kernel
theorem dX0_init_35 : decode cX0_init 35 = .ok (.putfield 25, 3) := by decide +kernel
theorem dX0_init_38 : decode cX0_init 38 = .ok (.return_, 1) := by decide +kernel
theorem dX0_live_0 : decode cX0_live 0 = .ok (.aload_n 0, 1) := by decide +kernel
theorem dX0_live_1 : decode cX0_live 1 = .ok (.aload_n 1, 1) := by decide +kernel
theorem dX0_live_2 : decode cX0_live 2 = .ok (.getfield 28, 3) := by decide +kernel
theorem dX0_live_5 : decode cX0_live 5 = .ok (.putfield 25, 3) := by decide +kernel
theorem dX0_live_8 : decode cX0_live 8 = .ok (.iconst 0, 1) := by decide +kernel
theorem dX0_live_9 : decode cX0_live 9 = .ok (.istore_n 2, 1) := by decide +kernel
theorem dX0_live_10 : decode cX0_live 10 = .ok (.iload_n 2, 1) := by decide +kernel
theorem dX0_live_11 : decode cX0_live 11 = .ok (.aload_n 0, 1) := by decide +kernel
theorem dX0_live_12 : decode cX0_live 12 = .ok (.getfield 25, 3) := by decide +kernel
theorem dX0_live_15 : decode cX0_live 15 = .ok (.if_icmp .ge 45, 3) := by decide +kernel
theorem dX0_live_18 : decode cX0_live 18 = .ok (.aload_n 0, 1) := by decide +kernel
theorem dX0_live_19 : decode cX0_live 19 = .ok (.getfield 9, 3) := by decide +kernel
theorem dX0_live_22 : decode cX0_live 22 = .ok (.iload_n 2, 1) := by decide +kernel
theorem dX0_live_23 : decode cX0_live 23 = .ok (.aload_n 1, 1) := by decide +kernel
theorem dX0_live_24 : decode cX0_live 24 = .ok (.getfield 31, 3) := by decide +kernel
theorem dX0_live_27 : decode cX0_live 27 = .ok (.iload_n 2, 1) := by decide +kernel
theorem dX0_live_28 : decode cX0_live 28 = .ok (.iaload, 1) := by decide +kernel
theorem dX0_live_29 : decode cX0_live 29 = .ok (.iastore, 1) := by decide +kernel
theorem dX0_live_30 : decode cX0_live 30 = .ok (.aload_n 0, 1) := by decide +kernel
theorem dX0_live_31 : decode cX0_live 31 = .ok (.getfield 15, 3) := by decide +kernel
theorem dX0_live_34 : decode cX0_live 34 = .ok (.iload_n 2, 1) := by decide +kernel
theorem dX0_live_35 : decode cX0_live 35 = .ok (.aload_n 1, 1) := by decide +kernel
theorem dX0_live_36 : decode cX0_live 36 = .ok (.getfield 34, 3) := by decide +kernel
theorem dX0_live_39 : decode cX0_live 39 = .ok (.iload_n 2, 1) := by decide +kernel
theorem dX0_live_40 : decode cX0_live 40 = .ok (.iaload, 1) := by decide +kernel
theorem dX0_live_41 : decode cX0_live 41 = .ok (.iastore, 1) := by decide +kernel
theorem dX0_live_42 : decode cX0_live 42 = .ok (.aload_n 0, 1) := by decide +kernel
theorem dX0_live_43 : decode cX0_live 43 = .ok (.getfield 18, 3) := by decide +kernel
theorem dX0_live_46 : decode cX0_live 46 = .ok (.iload_n 2, 1) := by decide +kernel
theorem dX0_live_47 : decode cX0_live 47 = .ok (.aload_n 1, 1) := by decide +kernel
theorem dX0_live_48 : decode cX0_live 48 = .ok (.getfield 37, 3) := by decide +kernel
theorem dX0_live_51 : decode cX0_live 51 = .ok (.iload_n 2, 1) := by decide +kernel
theorem dX0_live_52 : decode cX0_live 52 = .ok (.iaload, 1) := by decide +kernel
theorem dX0_live_53 : decode cX0_live 53 = .ok (.iastore, 1) := by decide +kernel
theorem dX0_live_54 : decode cX0_live 54 = .ok (.iinc 2 1, 3) := by decide +kernel
theorem dX0_live_57 : decode cX0_live 57 = .ok (.goto (-47), 3) := by decide +kernel
theorem dX0_live_60 : decode cX0_live 60 = .ok (.aload_n 0, 1) := by decide +kernel
theorem dX0_live_61 : decode cX0_live 61 = .ok (.getfield 25, 3) := by decide +kernel
theorem dX0_live_64 : decode cX0_live 64 = .ok (.ireturn, 1) := by decide +kernel
theorem dX0_placeOn_0 : decode cX0_placeOn 0 = .ok (.aload_n 0, 1) := by decide +kernel
theorem dX0_placeOn_1 : decode cX0_placeOn 1 = .ok (.getfield 25, 3) := by decide +kernel
theorem dX0_placeOn_4 : decode cX0_placeOn 4 = .ok (.iconst 1, 1) := by decide +kernel
theorem dX0_placeOn_5 : decode cX0_placeOn 5 = .ok (.isub, 1) := by decide +kernel
theorem dX0_placeOn_6 : decode cX0_placeOn 6 = .ok (.istore_n 2, 1) := by decide +kernel
theorem dX0_placeOn_7 : decode cX0_placeOn 7 = .ok (.iload_n 2, 1) := by decide +kernel
theorem dX0_placeOn_8 : decode cX0_placeOn 8 = .ok (.ifCond .lt 36, 3) := by decide +kernel
theorem dX0_placeOn_11 : decode cX0_placeOn 11 = .ok (.aload_n 0, 1) := by decide +kernel
theorem dX0_placeOn_12 : decode cX0_placeOn 12 = .ok (.getfield 15, 3) := by decide +kernel
theorem dX0_placeOn_15 : decode cX0_placeOn 15 = .ok (.iload_n 2, 1) := by decide +kernel
theorem dX0_placeOn_16 : decode cX0_placeOn 16 = .ok (.iaload, 1) := by decide +kernel
theorem dX0_placeOn_17 : decode cX0_placeOn 17 = .ok (.iload_n 1, 1) := by decide +kernel
theorem dX0_placeOn_18 : decode cX0_placeOn 18 = .ok (.if_icmp .gt 20, 3) := by decide +kernel
theorem dX0_placeOn_21 : decode cX0_placeOn 21 = .ok (.iload_n 1, 1) := by decide +kernel
theorem dX0_placeOn_22 : decode cX0_placeOn 22 = .ok (.aload_n 0, 1) := by decide +kernel
theorem dX0_placeOn_23 : decode cX0_placeOn 23 = .ok (.getfield 18, 3) := by decide +kernel
theorem dX0_placeOn_26 : decode cX0_placeOn 26 = .ok (.iload_n 2, 1) := by decide +kernel
theorem dX0_placeOn_27 : decode cX0_placeOn 27 = .ok (.iaload, 1) := by decide +kernel
theorem dX0_placeOn_28 : decode cX0_placeOn 28 = .ok (.if_icmp .gt 10, 3) := by decide +kernel
theorem dX0_placeOn_31 : decode cX0_placeOn 31 = .ok (.aload_n 0, 1) := by decide +kernel
theorem dX0_placeOn_32 : decode cX0_placeOn 32 = .ok (.getfield 9, 3) := by decide +kernel
theorem dX0_placeOn_35 : decode cX0_placeOn 35 = .ok (.iload_n 2, 1) := by decide +kernel
theorem dX0_placeOn_36 : decode cX0_placeOn 36 = .ok (.iaload, 1) := by decide +kernel
theorem dX0_placeOn_37 : decode cX0_placeOn 37 = .ok (.ireturn, 1) := by decide +kernel
theorem dX0_placeOn_38 : decode cX0_placeOn 38 = .ok (.iinc 2 (-1), 3) := by decide +kernel
theorem dX0_placeOn_41 : decode cX0_placeOn 41 = .ok (.goto (-34), 3) := by decide +kernel
theorem dX0_placeOn_44 : decode cX0_placeOn 44 = .ok (.aload_n 0, 1) := by decide +kernel
theorem dX0_placeOn_45 : decode cX0_placeOn 45 = .ok (.getfield 21, 3) := by decide +kernel
theorem dX0_placeOn_48 : decode cX0_placeOn 48 = .ok (.ireturn, 1) := by decide +kernel
theorem dX1_init_0 : decode cX1_init 0 = .ok (.aload_n 0, 1) := by decide +kernel
theorem dX1_init_1 : decode cX1_init 1 = .ok (.invokespecial 3, 3) := by decide +kernel
theorem dX1_init_4 : decode cX1_init 4 = .ok (.aload_n 0, 1) := by decide +kernel
theorem dX1_init_5 : decode cX1_init 5 = .ok (.iconst 0, 1) := by decide +kernel
theorem dX1_init_6 : decode cX1_init 6 = .ok (.putfield 9, 3) := by decide +kernel
theorem dX1_init_9 : decode cX1_init 9 = .ok (.aload_n 0, 1) := by decide +kernel
theorem dX1_init_10 : decode cX1_init 10 = .ok (.iload_n 1, 1) := by decide +kernel
theorem dX1_init_11 : decode cX1_init 11 = .ok (.putfield 15, 3) := by decide +kernel
theorem dX1_init_14 : decode cX1_init 14 = .ok (.aload_n 0, 1) := by decide +kernel
theorem dX1_init_15 : decode cX1_init 15 = .ok (.aload_n 2, 1) := by decide +kernel
theorem dX1_init_16 : decode cX1_init 16 = .ok (.putfield 18, 3) := by decide +kernel
theorem dX1_init_19 : decode cX1_init 19 = .ok (.aload_n 0, 1) := by decide +kernel
theorem dX1_init_20 : decode cX1_init 20 = .ok (.iload_n 1, 1) := by decide +kernel
theorem dX1_init_21 : decode cX1_init 21 = .ok (.newarray .int, 2) := by decide +kernel
theorem dX1_init_23 : decode cX1_init 23 = .ok (.putfield 22, 3) := by decide +kernel
theorem dX1_init_26 : decode cX1_init 26 = .ok (.aload_n 0, 1) := by decide +kernel
theorem dX1_init_27 : decode cX1_init 27 = .ok (.iload_n 1, 1) := by decide +kernel
theorem dX1_init_28 : decode cX1_init 28 = .ok (.newarray .int, 2) := by decide +kernel
theorem dX1_init_30 : decode cX1_init 30 = .ok (.putfield 25, 3) := by decide +kernel
theorem dX1_init_33 : decode cX1_init 33 = .ok (.aload_n 0, 1) := by decide +kernel
theorem dX1_init_34 : decode cX1_init 34 = .ok (.iload_n 1, 1) := by decide +kernel
theorem dX1_init_35 : decode cX1_init 35 = .ok (.newarray .int, 2) := by decide +kernel
theorem dX1_init_37 : decode cX1_init 37 = .ok (.putfield 28, 3) := by decide +kernel
theorem dX1_init_40 : decode cX1_init 40 = .ok (.aload_n 0, 1) := by decide +kernel
theorem dX1_init_41 : decode cX1_init 41 = .ok (.iload_n 1, 1) := by decide +kernel
theorem dX1_init_42 : decode cX1_init 42 = .ok (.newarray .int, 2) := by decide +kernel
theorem dX1_init_44 : decode cX1_init 44 = .ok (.putfield 31, 3) := by decide +kernel
theorem dX1_init_47 : decode cX1_init 47 = .ok (.aload_n 0, 1) := by decide +kernel
theorem dX1_init_48 : decode cX1_init 48 = .ok (.iload_n 1, 1) := by decide +kernel
theorem dX1_init_49 : decode cX1_init 49 = .ok (.newarray .int, 2) := by decide +kernel
theorem dX1_init_51 : decode cX1_init 51 = .ok (.putfield 34, 3) := by decide +kernel
theorem dX1_init_54 : decode cX1_init 54 = .ok (.return_, 1) := by decide +kernel
theorem dX1_add_0 : decode cX1_add 0 = .ok (.aload_n 0, 1) := by decide +kernel
theorem dX1_add_1 : decode cX1_add 1 = .ok (.getfield 9, 3) := by decide +kernel
theorem dX1_add_4 : decode cX1_add 4 = .ok (.aload_n 0, 1) := by decide +kernel
theorem dX1_add_5 : decode cX1_add 5 = .ok (.getfield 15, 3) := by decide +kernel
theorem dX1_add_8 : decode cX1_add 8 = .ok (.if_icmp .lt 6, 3) := by decide +kernel
theorem dX1_add_11 : decode cX1_add 11 = .ok (.bipush (-5), 2) := by decide +kernel
theorem dX1_add_13 : decode cX1_add 13 = .ok (.ireturn, 1) := by decide +kernel
theorem dX1_add_14 : decode cX1_add 14 = .ok (.aload_n 0, 1) := by decide +kernel
theorem dX1_add_15 : decode cX1_add 15 = .ok (.getfield 22, 3) := by decide +kernel
theorem dX1_add_18 : decode cX1_add 18 = .ok (.aload_n 0, 1) := by decide +kernel
theorem dX1_add_19 : decode cX1_add 19 = .ok (.getfield 9, 3) := by decide +kernel
theorem dX1_add_22 : decode cX1_add 22 = .ok (.iload_n 1, 1) := by decide +kernel
theorem dX1_add_23 : decode cX1_add 23 = .ok (.iastore, 1) := by decide +kernel
theorem dX1_add_24 : decode cX1_add 24 = .ok (.aload_n 0, 1) := by decide +kernel
theorem dX1_add_25 : decode cX1_add 25 = .ok (.getfield 25, 3) := by decide +kernel
theorem dX1_add_28 : decode cX1_add 28 = .ok (.aload_n 0, 1) := by decide +kernel
theorem dX1_add_29 : decode cX1_add 29 = .ok (.getfield 9, 3) := by decide +kernel
theorem dX1_add_32 : decode cX1_add 32 = .ok (.iload_n 2, 1) := by decide +kernel
theorem dX1_add_33 : decode cX1_add 33 = .ok (.iastore, 1) := by decide +kernel
theorem dX1_add_34 : decode cX1_add 34 = .ok (.aload_n 0, 1) := by decide +kernel
theorem dX1_add_35 : decode cX1_add 35 = .ok (.getfield 28, 3) := by decide +kernel
theorem dX1_add_38 : decode cX1_add 38 = .ok (.aload_n 0, 1) := by decide +kernel
theorem dX1_add_39 : decode cX1_add 39 = .ok (.getfield 9, 3) := by decide +kernel
theorem dX1_add_42 : decode cX1_add 42 = .ok (.iload_n 3, 1) := by decide +kernel
theorem dX1_add_43 : decode cX1_add 43 = .ok (.iastore, 1) := by decide +kernel
theorem dX1_add_44 : decode cX1_add 44 = .ok (.aload_n 0, 1) := by decide +kernel
theorem dX1_add_45 : decode cX1_add 45 = .ok (.getfield 31, 3) := by decide +kernel
theorem dX1_add_48 : decode cX1_add 48 = .ok (.aload_n 0, 1) := by decide +kernel
theorem dX1_add_49 : decode cX1_add 49 = .ok (.getfield 9, 3) := by decide +kernel
theorem dX1_add_52 : decode cX1_add 52 = .ok (.iload 4, 2) := by decide +kernel
theorem dX1_add_54 : decode cX1_add 54 = .ok (.iastore, 1) := by decide +kernel
theorem dX1_add_55 : decode cX1_add 55 = .ok (.aload_n 0, 1) := by decide +kernel
theorem dX1_add_56 : decode cX1_add 56 = .ok (.getfield 34, 3) := by decide +kernel
theorem dX1_add_59 : decode cX1_add 59 = .ok (.aload_n 0, 1) := by decide +kernel
theorem dX1_add_60 : decode cX1_add 60 = .ok (.getfield 9, 3) := by decide +kernel
theorem dX1_add_63 : decode cX1_add 63 = .ok (.iload 5, 2) := by decide +kernel
theorem dX1_add_65 : decode cX1_add 65 = .ok (.iastore, 1) := by decide +kernel
theorem dX1_add_66 : decode cX1_add 66 = .ok (.aload_n 0, 1) := by decide +kernel
theorem dX1_add_67 : decode cX1_add 67 = .ok (.dup, 1) := by decide +kernel
theorem dX1_add_68 : decode cX1_add 68 = .ok (.getfield 9, 3) := by decide +kernel
theorem dX1_add_71 : decode cX1_add 71 = .ok (.iconst 1, 1) := by decide +kernel
theorem dX1_add_72 : decode cX1_add 72 = .ok (.iadd, 1) := by decide +kernel
theorem dX1_add_73 : decode cX1_add 73 = .ok (.putfield 9, 3) := by decide +kernel
theorem dX1_add_76 : decode cX1_add 76 = .ok (.aload_n 0, 1) := by decide +kernel
theorem dX1_add_77 : decode cX1_add 77 = .ok (.getfield 9, 3) := by decide +kernel
theorem dX1_add_80 : decode cX1_add 80 = .ok (.iconst 1, 1) := by decide +kernel
theorem dX1_add_81 : decode cX1_add 81 = .ok (.isub, 1) := by decide +kernel
theorem dX1_add_82 : decode cX1_add 82 = .ok (.ireturn, 1) := by decide +kernel
theorem dX1_cameOn_0 : decode cX1_cameOn 0 = .ok (.aload_n 0, 1) := by decide +kernel
theorem dX1_cameOn_1 : decode cX1_cameOn 1 = .ok (.getfield 25, 3) := by decide +kernel
theorem dX1_cameOn_4 : decode cX1_cameOn 4 = .ok (.iload_n 1, 1) := by decide +kernel
theorem dX1_cameOn_5 : decode cX1_cameOn 5 = .ok (.iaload, 1) := by decide +kernel
theorem dX1_cameOn_6 : decode cX1_cameOn 6 = .ok (.aload_n 0, 1) := by decide +kernel
theorem dX1_cameOn_7 : decode cX1_cameOn 7 = .ok (.getfield 18, 3) := by decide +kernel
theorem dX1_cameOn_10 : decode cX1_cameOn 10 = .ok (.aload_n 0, 1) := by decide +kernel
theorem dX1_cameOn_11 : decode cX1_cameOn 11 = .ok (.getfield 28, 3) := by decide +kernel
theorem dX1_cameOn_14 : decode cX1_cameOn 14 = .ok (.iload_n 1, 1) := by decide +kernel
theorem dX1_cameOn_15 : decode cX1_cameOn 15 = .ok (.iaload, 1) := by decide +kernel
theorem dX1_cameOn_16 : decode cX1_cameOn 16 = .ok (.iaload, 1) := by decide +kernel
theorem dX1_cameOn_17 : decode cX1_cameOn 17 = .ok (.iadd, 1) := by decide +kernel
theorem dX1_cameOn_18 : decode cX1_cameOn 18 = .ok (.ireturn, 1) := by decide +kernel
theorem dX1_unlike_0 : decode cX1_unlike 0 = .ok (.iconst 0, 1) := by decide +kernel
theorem dX1_unlike_1 : decode cX1_unlike 1 = .ok (.istore_n 2, 1) := by decide +kernel
theorem dX1_unlike_2 : decode cX1_unlike 2 = .ok (.iconst 0, 1) := by decide +kernel
theorem dX1_unlike_3 : decode cX1_unlike 3 = .ok (.istore_n 3, 1) := by decide +kernel
theorem dX1_unlike_4 : decode cX1_unlike 4 = .ok (.iload_n 3, 1) := by decide +kernel
theorem dX1_unlike_5 : decode cX1_unlike 5 = .ok (.aload_n 0, 1) := by decide +kernel
theorem dX1_unlike_6 : decode cX1_unlike 6 = .ok (.getfield 9, 3) := by decide +kernel
theorem dX1_unlike_9 : decode cX1_unlike 9 = .ok (.if_icmp .ge 63, 3) := by decide +kernel
theorem dX1_unlike_12 : decode cX1_unlike 12 = .ok (.aload_n 0, 1) := by decide +kernel
theorem dX1_unlike_13 : decode cX1_unlike 13 = .ok (.getfield 31, 3) := by decide +kernel
theorem dX1_unlike_16 : decode cX1_unlike 16 = .ok (.iload_n 3, 1) := by decide +kernel
theorem dX1_unlike_17 : decode cX1_unlike 17 = .ok (.iaload, 1) := by decide +kernel
theorem dX1_unlike_18 : decode cX1_unlike 18 = .ok (.aload_n 0, 1) := by decide +kernel
theorem dX1_unlike_19 : decode cX1_unlike 19 = .ok (.getfield 31, 3) := by decide +kernel
theorem dX1_unlike_22 : decode cX1_unlike 22 = .ok (.iload_n 1, 1) := by decide +kernel
theorem dX1_unlike_23 : decode cX1_unlike 23 = .ok (.iaload, 1) := by decide +kernel
theorem dX1_unlike_24 : decode cX1_unlike 24 = .ok (.if_icmp .ne 42, 3) := by decide +kernel
theorem dX1_unlike_27 : decode cX1_unlike 27 = .ok (.aload_n 0, 1) := by decide +kernel
theorem dX1_unlike_28 : decode cX1_unlike 28 = .ok (.getfield 34, 3) := by decide +kernel
theorem dX1_unlike_31 : decode cX1_unlike 31 = .ok (.iload_n 3, 1) := by decide +kernel
theorem dX1_unlike_32 : decode cX1_unlike 32 = .ok (.iaload, 1) := by decide +kernel
theorem dX1_unlike_33 : decode cX1_unlike 33 = .ok (.aload_n 0, 1) := by decide +kernel
theorem dX1_unlike_34 : decode cX1_unlike 34 = .ok (.getfield 34, 3) := by decide +kernel
theorem dX1_unlike_37 : decode cX1_unlike 37 = .ok (.iload_n 1, 1) := by decide +kernel
theorem dX1_unlike_38 : decode cX1_unlike 38 = .ok (.iaload, 1) := by decide +kernel
theorem dX1_unlike_39 : decode cX1_unlike 39 = .ok (.if_icmp .eq 27, 3) := by decide +kernel
theorem dX1_unlike_42 : decode cX1_unlike 42 = .ok (.iload_n 2, 1) := by decide +kernel
theorem dX1_unlike_43 : decode cX1_unlike 43 = .ok (.aload_n 0, 1) := by decide +kernel
theorem dX1_unlike_44 : decode cX1_unlike 44 = .ok (.getfield 22, 3) := by decide +kernel
theorem dX1_unlike_47 : decode cX1_unlike 47 = .ok (.iload_n 3, 1) := by decide +kernel
theorem dX1_unlike_48 : decode cX1_unlike 48 = .ok (.iaload, 1) := by decide +kernel
theorem dX1_unlike_49 : decode cX1_unlike 49 = .ok (.aload_n 0, 1) := by decide +kernel
theorem dX1_unlike_50 : decode cX1_unlike 50 = .ok (.getfield 22, 3) := by decide +kernel
theorem dX1_unlike_53 : decode cX1_unlike 53 = .ok (.iload_n 1, 1) := by decide +kernel
theorem dX1_unlike_54 : decode cX1_unlike 54 = .ok (.iaload, 1) := by decide +kernel
theorem dX1_unlike_55 : decode cX1_unlike 55 = .ok (.if_icmp .ne 7, 3) := by decide +kernel
theorem dX1_unlike_58 : decode cX1_unlike 58 = .ok (.iconst 4, 1) := by decide +kernel
theorem dX1_unlike_59 : decode cX1_unlike 59 = .ok (.goto 5, 3) := by decide +kernel
theorem dX1_unlike_62 : decode cX1_unlike 62 = .ok (.bipush 8, 2) := by decide +kernel
theorem dX1_unlike_64 : decode cX1_unlike 64 = .ok (.ior, 1) := by decide +kernel
theorem dX1_unlike_65 : decode cX1_unlike 65 = .ok (.istore_n 2, 1) := by decide +kernel
theorem dX1_unlike_66 : decode cX1_unlike 66 = .ok (.iinc 3 1, 3) := by decide +kernel
theorem dX1_unlike_69 : decode cX1_unlike 69 = .ok (.goto (-65), 3) := by decide +kernel
theorem dX1_unlike_72 : decode cX1_unlike 72 = .ok (.iload_n 2, 1) := by decide +kernel
theorem dX1_unlike_73 : decode cX1_unlike 73 = .ok (.ireturn, 1) := by decide +kernel
theorem dX1_mention_0 : decode cX1_mention 0 = .ok (.iconst 0, 1) := by decide +kernel
theorem dX1_mention_1 : decode cX1_mention 1 = .ok (.istore 5, 2) := by decide +kernel
theorem dX1_mention_3 : decode cX1_mention 3 = .ok (.iload 5, 2) := by decide +kernel
theorem dX1_mention_5 : decode cX1_mention 5 = .ok (.aload_n 0, 1) := by decide +kernel
theorem dX1_mention_6 : decode cX1_mention 6 = .ok (.getfield 9, 3) := by decide +kernel
theorem dX1_mention_9 : decode cX1_mention 9 = .ok (.if_icmp .ge 72, 3) := by decide +kernel
theorem dX1_mention_12 : decode cX1_mention 12 = .ok (.aload_n 0, 1) := by decide +kernel
theorem dX1_mention_13 : decode cX1_mention 13 = .ok (.getfield 22, 3) := by decide +kernel
theorem dX1_mention_16 : decode cX1_mention 16 = .ok (.iload 5, 2) := by decide +kernel
theorem dX1_mention_18 : decode cX1_mention 18 = .ok (.iaload, 1) := by decide +kernel
theorem dX1_mention_19 : decode cX1_mention 19 = .ok (.iload_n 3, 1) := by decide +kernel
theorem dX1_mention_20 : decode cX1_mention 20 = .ok (.if_icmp .ne 55, 3) := by decide +kernel
theorem dX1_mention_23 : decode cX1_mention 23 = .ok (.aload_n 0, 1) := by decide +kernel
theorem dX1_mention_24 : decode cX1_mention 24 = .ok (.getfield 25, 3) := by decide +kernel
theorem dX1_mention_27 : decode cX1_mention 27 = .ok (.iload 5, 2) := by decide +kernel
theorem dX1_mention_29 : decode cX1_mention 29 = .ok (.iaload, 1) := by decide +kernel
theorem dX1_mention_30 : decode cX1_mention 30 = .ok (.iload 4, 2) := by decide +kernel
theorem dX1_mention_32 : decode cX1_mention 32 = .ok (.if_icmp .gt 43, 3) := by decide +kernel
theorem dX1_mention_35 : decode cX1_mention 35 = .ok (.aload_n 1, 1) := by decide +kernel
theorem dX1_mention_36 : decode cX1_mention 36 = .ok (.iload_n 2, 1) := by decide +kernel
theorem dX1_mention_37 : decode cX1_mention 37 = .ok (.aload_n 0, 1) := by decide +kernel
theorem dX1_mention_38 : decode cX1_mention 38 = .ok (.getfield 31, 3) := by decide +kernel
theorem dX1_mention_41 : decode cX1_mention 41 = .ok (.iload 5, 2) := by decide +kernel
theorem dX1_mention_43 : decode cX1_mention 43 = .ok (.iaload, 1) := by decide +kernel
theorem dX1_mention_44 : decode cX1_mention 44 = .ok (.invokestatic 37, 3) := by decide +kernel
theorem dX1_mention_47 : decode cX1_mention 47 = .ok (.aload_n 0, 1) := by decide +kernel
theorem dX1_mention_48 : decode cX1_mention 48 = .ok (.getfield 31, 3) := by decide +kernel
theorem dX1_mention_51 : decode cX1_mention 51 = .ok (.iload 5, 2) := by decide +kernel
theorem dX1_mention_53 : decode cX1_mention 53 = .ok (.iaload, 1) := by decide +kernel
theorem dX1_mention_54 : decode cX1_mention 54 = .ok (.invokestatic 41, 3) := by decide +kernel
theorem dX1_mention_57 : decode cX1_mention 57 = .ok (.aload_n 0, 1) := by decide +kernel
theorem dX1_mention_58 : decode cX1_mention 58 = .ok (.getfield 31, 3) := by decide +kernel
theorem dX1_mention_61 : decode cX1_mention 61 = .ok (.iload 5, 2) := by decide +kernel
theorem dX1_mention_63 : decode cX1_mention 63 = .ok (.iaload, 1) := by decide +kernel
theorem dX1_mention_64 : decode cX1_mention 64 = .ok (.invokestatic 44, 3) := by decide +kernel
theorem dX1_mention_67 : decode cX1_mention 67 = .ok (.invokevirtual 47, 3) := by decide +kernel
theorem dX1_mention_70 : decode cX1_mention 70 = .ok (.ifCond .eq 5, 3) := by decide +kernel
theorem dX1_mention_73 : decode cX1_mention 73 = .ok (.iconst 1, 1) := by decide +kernel
theorem dX1_mention_74 : decode cX1_mention 74 = .ok (.ireturn, 1) := by decide +kernel
theorem dX1_mention_75 : decode cX1_mention 75 = .ok (.iinc 5 1, 3) := by decide +kernel
theorem dX1_mention_78 : decode cX1_mention 78 = .ok (.goto (-75), 3) := by decide +kernel
theorem dX1_mention_81 : decode cX1_mention 81 = .ok (.iconst 0, 1) := by decide +kernel
theorem dX1_mention_82 : decode cX1_mention 82 = .ok (.ireturn, 1) := by decide +kernel
theorem dX2_init_0 : decode cX2_init 0 = .ok (.aload_n 0, 1) := by decide +kernel
theorem dX2_init_1 : decode cX2_init 1 = .ok (.invokespecial 3, 3) := by decide +kernel
theorem dX2_init_4 : decode cX2_init 4 = .ok (.aload_n 0, 1) := by decide +kernel
theorem dX2_init_5 : decode cX2_init 5 = .ok (.bipush 10, 2) := by decide +kernel
theorem dX2_init_7 : decode cX2_init 7 = .ok (.newarray .int, 2) := by decide +kernel
theorem dX2_init_9 : decode cX2_init 9 = .ok (.putfield 9, 3) := by decide +kernel
theorem dX2_init_12 : decode cX2_init 12 = .ok (.aload_n 0, 1) := by decide +kernel
theorem dX2_init_13 : decode cX2_init 13 = .ok (.bipush 10, 2) := by decide +kernel
theorem dX2_init_15 : decode cX2_init 15 = .ok (.newarray .int, 2) := by decide +kernel
theorem dX2_init_17 : decode cX2_init 17 = .ok (.putfield 15, 3) := by decide +kernel
theorem dX2_init_20 : decode cX2_init 20 = .ok (.aload_n 0, 1) := by decide +kernel
theorem dX2_init_21 : decode cX2_init 21 = .ok (.bipush 10, 2) := by decide +kernel
theorem dX2_init_23 : decode cX2_init 23 = .ok (.newarray .int, 2) := by decide +kernel
theorem dX2_init_25 : decode cX2_init 25 = .ok (.putfield 18, 3) := by decide +kernel
theorem dX2_init_28 : decode cX2_init 28 = .ok (.aload_n 0, 1) := by decide +kernel
theorem dX2_init_29 : decode cX2_init 29 = .ok (.bipush 10, 2) := by decide +kernel
theorem dX2_init_31 : decode cX2_init 31 = .ok (.newarray .int, 2) := by decide +kernel
theorem dX2_init_33 : decode cX2_init 33 = .ok (.putfield 21, 3) := by decide +kernel
theorem dX2_init_36 : decode cX2_init 36 = .ok (.aload_n 0, 1) := by decide +kernel
theorem dX2_init_37 : decode cX2_init 37 = .ok (.bipush 6, 2) := by decide +kernel
theorem dX2_init_39 : decode cX2_init 39 = .ok (.newarray .int, 2) := by decide +kernel
theorem dX2_init_41 : decode cX2_init 41 = .ok (.putfield 24, 3) := by decide +kernel
theorem dX2_init_44 : decode cX2_init 44 = .ok (.aload_n 0, 1) := by decide +kernel
theorem dX2_init_45 : decode cX2_init 45 = .ok (.bipush 40, 2) := by decide +kernel
theorem dX2_init_47 : decode cX2_init 47 = .ok (.newarray .int, 2) := by decide +kernel
theorem dX2_init_49 : decode cX2_init 49 = .ok (.putfield 27, 3) := by decide +kernel
theorem dX2_init_52 : decode cX2_init 52 = .ok (.aload_n 0, 1) := by decide +kernel
theorem dX2_init_53 : decode cX2_init 53 = .ok (.iconst 0, 1) := by decide +kernel
theorem dX2_init_54 : decode cX2_init 54 = .ok (.putfield 30, 3) := by decide +kernel
theorem dX2_init_57 : decode cX2_init 57 = .ok (.aload_n 0, 1) := by decide +kernel
theorem dX2_init_58 : decode cX2_init 58 = .ok (.aload_n 1, 1) := by decide +kernel
theorem dX2_init_59 : decode cX2_init 59 = .ok (.putfield 34, 3) := by decide +kernel
theorem dX2_init_62 : decode cX2_init 62 = .ok (.aload_n 0, 1) := by decide +kernel
theorem dX2_init_63 : decode cX2_init 63 = .ok (.aload_n 2, 1) := by decide +kernel
theorem dX2_init_64 : decode cX2_init 64 = .ok (.putfield 38, 3) := by decide +kernel
theorem dX2_init_67 : decode cX2_init 67 = .ok (.aload_n 0, 1) := by decide +kernel
theorem dX2_init_68 : decode cX2_init 68 = .ok (.aload_n 3, 1) := by decide +kernel
theorem dX2_init_69 : decode cX2_init 69 = .ok (.putfield 42, 3) := by decide +kernel
theorem dX2_init_72 : decode cX2_init 72 = .ok (.return_, 1) := by decide +kernel
theorem dX2_leastRisk_0 : decode cX2_leastRisk 0 = .ok (.aload_n 0, 1) := by decide +kernel
theorem dX2_leastRisk_1 : decode cX2_leastRisk 1 = .ok (.aload_n 1, 1) := by decide +kernel
theorem dX2_leastRisk_2 : decode cX2_leastRisk 2 = .ok (.aload_n 2, 1) := by decide +kernel
theorem dX2_leastRisk_3 : decode cX2_leastRisk 3 = .ok (.iload_n 3, 1) := by decide +kernel
theorem dX2_leastRisk_4 : decode cX2_leastRisk 4 = .ok (.invokevirtual 46, 3) := by decide +kernel
theorem dX2_leastRisk_7 : decode cX2_leastRisk 7 = .ok (.ifCond .ne 5, 3) := by decide +kernel
theorem dX2_leastRisk_10 : decode cX2_leastRisk 10 = .ok (.iconst (-1), 1) := by decide +kernel
theorem dX2_leastRisk_11 : decode cX2_leastRisk 11 = .ok (.ireturn, 1) := by decide +kernel
theorem dX2_leastRisk_12 : decode cX2_leastRisk 12 = .ok (.aload_n 0, 1) := by decide +kernel
theorem dX2_leastRisk_13 : decode cX2_leastRisk 13 = .ok (.aload_n 1, 1) := by decide +kernel
theorem dX2_leastRisk_14 : decode cX2_leastRisk 14 = .ok (.iload_n 3, 1) := by decide +kernel
theorem dX2_leastRisk_15 : decode cX2_leastRisk 15 = .ok (.invokevirtual 50, 3) := by decide +kernel
theorem dX2_leastRisk_18 : decode cX2_leastRisk 18 = .ok (.aload_n 0, 1) := by decide +kernel
theorem dX2_leastRisk_19 : decode cX2_leastRisk 19 = .ok (.aload_n 2, 1) := by decide +kernel
theorem dX2_leastRisk_20 : decode cX2_leastRisk 20 = .ok (.iload_n 3, 1) := by decide +kernel
theorem dX2_leastRisk_21 : decode cX2_leastRisk 21 = .ok (.invokevirtual 54, 3) := by decide +kernel
theorem dX2_leastRisk_24 : decode cX2_leastRisk 24 = .ok (.aload_n 0, 1) := by decide +kernel
theorem dX2_leastRisk_25 : decode cX2_leastRisk 25 = .ok (.aload_n 2, 1) := by decide +kernel
theorem dX2_leastRisk_26 : decode cX2_leastRisk 26 = .ok (.iload_n 3, 1) := by decide +kernel
theorem dX2_leastRisk_27 : decode cX2_leastRisk 27 = .ok (.invokevirtual 58, 3) := by decide +kernel
theorem dX2_leastRisk_30 : decode cX2_leastRisk 30 = .ok (.istore 4, 2) := by decide +kernel
theorem dX2_leastRisk_32 : decode cX2_leastRisk 32 = .ok (.iconst (-1), 1) := by decide +kernel
theorem dX2_leastRisk_33 : decode cX2_leastRisk 33 = .ok (.istore 5, 2) := by decide +kernel
theorem dX2_leastRisk_35 : decode cX2_leastRisk 35 = .ok (.sipush 991, 3) := by decide +kernel
theorem dX2_leastRisk_38 : decode cX2_leastRisk 38 = .ok (.istore 6, 2) := by decide +kernel
theorem dX2_leastRisk_40 : decode cX2_leastRisk 40 = .ok (.iconst 0, 1) := by decide +kernel
theorem dX2_leastRisk_41 : decode cX2_leastRisk 41 = .ok (.istore 7, 2) := by decide +kernel
theorem dX2_leastRisk_43 : decode cX2_leastRisk 43 = .ok (.iload 7, 2) := by decide +kernel
theorem dX2_leastRisk_45 : decode cX2_leastRisk 45 = .ok (.iconst 1, 1) := by decide +kernel
theorem dX2_leastRisk_46 : decode cX2_leastRisk 46 = .ok (.aload_n 0, 1) := by decide +kernel
theorem dX2_leastRisk_47 : decode cX2_leastRisk 47 = .ok (.getfield 42, 3) := by decide +kernel
theorem dX2_leastRisk_50 : decode cX2_leastRisk 50 = .ok (.getfield 62, 3) := by decide +kernel
theorem dX2_leastRisk_53 : decode cX2_leastRisk 53 = .ok (.ishl, 1) := by decide +kernel
theorem dX2_leastRisk_54 : decode cX2_leastRisk 54 = .ok (.if_icmp .ge 62, 3) := by decide +kernel
theorem dX2_leastRisk_57 : decode cX2_leastRisk 57 = .ok (.iload 7, 2) := by decide +kernel
theorem dX2_leastRisk_59 : decode cX2_leastRisk 59 = .ok (.iload 4, 2) := by decide +kernel
theorem dX2_leastRisk_61 : decode cX2_leastRisk 61 = .ok (.iconst (-1), 1) := by decide +kernel
theorem dX2_leastRisk_62 : decode cX2_leastRisk 62 = .ok (.ixor, 1) := by decide +kernel
theorem dX2_leastRisk_63 : decode cX2_leastRisk 63 = .ok (.iand, 1) := by decide +kernel
theorem dX2_leastRisk_64 : decode cX2_leastRisk 64 = .ok (.ifCond .eq 8, 3) := by decide +kernel
theorem dX2_leastRisk_67 : decode cX2_leastRisk 67 = .ok (.iload 6, 2) := by decide +kernel
theorem dX2_leastRisk_69 : decode cX2_leastRisk 69 = .ok (.goto 13, 3) := by decide +kernel
theorem dX2_leastRisk_72 : decode cX2_leastRisk 72 = .ok (.aload_n 0, 1) := by decide +kernel
theorem dX2_leastRisk_73 : decode cX2_leastRisk 73 = .ok (.aload_n 0, 1) := by decide +kernel
theorem dX2_leastRisk_74 : decode cX2_leastRisk 74 = .ok (.getfield 9, 3) := by decide +kernel
theorem dX2_leastRisk_77 : decode cX2_leastRisk 77 = .ok (.iload 7, 2) := by decide +kernel
theorem dX2_leastRisk_79 : decode cX2_leastRisk 79 = .ok (.invokevirtual 67, 3) := by decide +kernel
theorem dX2_leastRisk_82 : decode cX2_leastRisk 82 = .ok (.istore 8, 2) := by decide +kernel
theorem dX2_leastRisk_84 : decode cX2_leastRisk 84 = .ok (.iload 8, 2) := by decide +kernel
theorem dX2_leastRisk_86 : decode cX2_leastRisk 86 = .ok (.iload 6, 2) := by decide +kernel
theorem dX2_leastRisk_88 : decode cX2_leastRisk 88 = .ok (.if_icmp .ge 22, 3) := by decide +kernel
theorem dX2_leastRisk_91 : decode cX2_leastRisk 91 = .ok (.aload_n 0, 1) := by decide +kernel
theorem dX2_leastRisk_92 : decode cX2_leastRisk 92 = .ok (.iload 7, 2) := by decide +kernel
theorem dX2_leastRisk_94 : decode cX2_leastRisk 94 = .ok (.aload_n 1, 1) := by decide +kernel
theorem dX2_leastRisk_95 : decode cX2_leastRisk 95 = .ok (.aload_n 2, 1) := by decide +kernel
theorem dX2_leastRisk_96 : decode cX2_leastRisk 96 = .ok (.invokevirtual 71, 3) := by decide +kernel
theorem dX2_leastRisk_99 : decode cX2_leastRisk 99 = .ok (.ifCond .eq 11, 3) := by decide +kernel
theorem dX2_leastRisk_102 : decode cX2_leastRisk 102 = .ok (.iload 7, 2) := by decide +kernel
theorem dX2_leastRisk_104 : decode cX2_leastRisk 104 = .ok (.istore 5, 2) := by decide +kernel
theorem dX2_leastRisk_106 : decode cX2_leastRisk 106 = .ok (.iload 8, 2) := by decide +kernel
theorem dX2_leastRisk_108 : decode cX2_leastRisk 108 = .ok (.istore 6, 2) := by decide +kernel
theorem dX2_leastRisk_110 : decode cX2_leastRisk 110 = .ok (.iinc 7 1, 3) := by decide +kernel
theorem dX2_leastRisk_113 : decode cX2_leastRisk 113 = .ok (.goto (-70), 3) := by decide +kernel
theorem dX2_leastRisk_116 : decode cX2_leastRisk 116 = .ok (.iload 5, 2) := by decide +kernel
theorem dX2_leastRisk_118 : decode cX2_leastRisk 118 = .ok (.ireturn, 1) := by decide +kernel
theorem dX2_leastCost_0 : decode cX2_leastCost 0 = .ok (.aload_n 0, 1) := by decide +kernel
theorem dX2_leastCost_1 : decode cX2_leastCost 1 = .ok (.aload_n 1, 1) := by decide +kernel
theorem dX2_leastCost_2 : decode cX2_leastCost 2 = .ok (.iload_n 3, 1) := by decide +kernel
theorem dX2_leastCost_3 : decode cX2_leastCost 3 = .ok (.invokevirtual 50, 3) := by decide +kernel
theorem dX2_leastCost_6 : decode cX2_leastCost 6 = .ok (.aload_n 0, 1) := by decide +kernel
theorem dX2_leastCost_7 : decode cX2_leastCost 7 = .ok (.iload_n 2, 1) := by decide +kernel
theorem dX2_leastCost_8 : decode cX2_leastCost 8 = .ok (.invokevirtual 75, 3) := by decide +kernel
theorem dX2_leastCost_11 : decode cX2_leastCost 11 = .ok (.istore 5, 2) := by decide +kernel
theorem dX2_leastCost_13 : decode cX2_leastCost 13 = .ok (.iconst (-1), 1) := by decide +kernel
theorem dX2_leastCost_14 : decode cX2_leastCost 14 = .ok (.istore 6, 2) := by decide +kernel
theorem dX2_leastCost_16 : decode cX2_leastCost 16 = .ok (.sipush 991, 3) := by decide +kernel
theorem dX2_leastCost_19 : decode cX2_leastCost 19 = .ok (.istore 7, 2) := by decide +kernel
theorem dX2_leastCost_21 : decode cX2_leastCost 21 = .ok (.iconst 0, 1) := by decide +kernel
theorem dX2_leastCost_22 : decode cX2_leastCost 22 = .ok (.istore 8, 2) := by decide +kernel
theorem dX2_leastCost_24 : decode cX2_leastCost 24 = .ok (.iload 8, 2) := by decide +kernel
theorem dX2_leastCost_26 : decode cX2_leastCost 26 = .ok (.iconst 1, 1) := by decide +kernel
theorem dX2_leastCost_27 : decode cX2_leastCost 27 = .ok (.aload_n 0, 1) := by decide +kernel
theorem dX2_leastCost_28 : decode cX2_leastCost 28 = .ok (.getfield 42, 3) := by decide +kernel
theorem dX2_leastCost_31 : decode cX2_leastCost 31 = .ok (.getfield 62, 3) := by decide +kernel
theorem dX2_leastCost_34 : decode cX2_leastCost 34 = .ok (.ishl, 1) := by decide +kernel
theorem dX2_leastCost_35 : decode cX2_leastCost 35 = .ok (.if_icmp .ge 76, 3) := by decide +kernel
theorem dX2_leastCost_38 : decode cX2_leastCost 38 = .ok (.iload 8, 2) := by decide +kernel
theorem dX2_leastCost_40 : decode cX2_leastCost 40 = .ok (.iload 5, 2) := by decide +kernel
theorem dX2_leastCost_42 : decode cX2_leastCost 42 = .ok (.iconst (-1), 1) := by decide +kernel
theorem dX2_leastCost_43 : decode cX2_leastCost 43 = .ok (.ixor, 1) := by decide +kernel
theorem dX2_leastCost_44 : decode cX2_leastCost 44 = .ok (.iand, 1) := by decide +kernel
theorem dX2_leastCost_45 : decode cX2_leastCost 45 = .ok (.ifCond .eq 8, 3) := by decide +kernel
theorem dX2_leastCost_48 : decode cX2_leastCost 48 = .ok (.iload 7, 2) := by decide +kernel
theorem dX2_leastCost_50 : decode cX2_leastCost 50 = .ok (.goto 13, 3) := by decide +kernel
theorem dX2_leastCost_53 : decode cX2_leastCost 53 = .ok (.aload_n 0, 1) := by decide +kernel
theorem dX2_leastCost_54 : decode cX2_leastCost 54 = .ok (.aload_n 0, 1) := by decide +kernel
theorem dX2_leastCost_55 : decode cX2_leastCost 55 = .ok (.getfield 15, 3) := by decide +kernel
theorem dX2_leastCost_58 : decode cX2_leastCost 58 = .ok (.iload 8, 2) := by decide +kernel
theorem dX2_leastCost_60 : decode cX2_leastCost 60 = .ok (.invokevirtual 67, 3) := by decide +kernel
theorem dX2_leastCost_63 : decode cX2_leastCost 63 = .ok (.istore 9, 2) := by decide +kernel
theorem dX2_leastCost_65 : decode cX2_leastCost 65 = .ok (.iload 9, 2) := by decide +kernel
theorem dX2_leastCost_67 : decode cX2_leastCost 67 = .ok (.iload 7, 2) := by decide +kernel
theorem dX2_leastCost_69 : decode cX2_leastCost 69 = .ok (.if_icmp .ge 36, 3) := by decide +kernel
theorem dX2_leastCost_72 : decode cX2_leastCost 72 = .ok (.aload_n 0, 1) := by decide +kernel
theorem dX2_leastCost_73 : decode cX2_leastCost 73 = .ok (.getfield 24, 3) := by decide +kernel
theorem dX2_leastCost_76 : decode cX2_leastCost 76 = .ok (.iload_n 2, 1) := by decide +kernel
theorem dX2_leastCost_77 : decode cX2_leastCost 77 = .ok (.iaload, 1) := by decide +kernel
theorem dX2_leastCost_78 : decode cX2_leastCost 78 = .ok (.aload_n 0, 1) := by decide +kernel
theorem dX2_leastCost_79 : decode cX2_leastCost 79 = .ok (.aload_n 0, 1) := by decide +kernel
theorem dX2_leastCost_80 : decode cX2_leastCost 80 = .ok (.getfield 18, 3) := by decide +kernel
theorem dX2_leastCost_83 : decode cX2_leastCost 83 = .ok (.iload 8, 2) := by decide +kernel
theorem dX2_leastCost_85 : decode cX2_leastCost 85 = .ok (.invokevirtual 67, 3) := by decide +kernel
theorem dX2_leastCost_88 : decode cX2_leastCost 88 = .ok (.iadd, 1) := by decide +kernel
theorem dX2_leastCost_89 : decode cX2_leastCost 89 = .ok (.invokestatic 79, 3) := by decide +kernel
theorem dX2_leastCost_92 : decode cX2_leastCost 92 = .ok (.iload 4, 2) := by decide +kernel
theorem dX2_leastCost_94 : decode cX2_leastCost 94 = .ok (.if_icmp .lt 11, 3) := by decide +kernel
theorem dX2_leastCost_97 : decode cX2_leastCost 97 = .ok (.iload 8, 2) := by decide +kernel
theorem dX2_leastCost_99 : decode cX2_leastCost 99 = .ok (.istore 6, 2) := by decide +kernel
theorem dX2_leastCost_101 : decode cX2_leastCost 101 = .ok (.iload 9, 2) := by decide +kernel
theorem dX2_leastCost_103 : decode cX2_leastCost 103 = .ok (.istore 7, 2) := by decide +kernel
theorem dX2_leastCost_105 : decode cX2_leastCost 105 = .ok (.iinc 8 1, 3) := by decide +kernel
theorem dX2_leastCost_108 : decode cX2_leastCost 108 = .ok (.goto (-84), 3) := by decide +kernel
theorem dX2_leastCost_111 : decode cX2_leastCost 111 = .ok (.iload 6, 2) := by decide +kernel
theorem dX2_leastCost_113 : decode cX2_leastCost 113 = .ok (.ireturn, 1) := by decide +kernel
theorem dX2_opensLines_0 : decode cX2_opensLines 0 = .ok (.aload_n 0, 1) := by decide +kernel
theorem dX2_opensLines_1 : decode cX2_opensLines 1 = .ok (.iconst 0, 1) := by decide +kernel
theorem dX2_opensLines_2 : decode cX2_opensLines 2 = .ok (.putfield 30, 3) := by decide +kernel
theorem dX2_opensLines_5 : decode cX2_opensLines 5 = .ok (.iconst 0, 1) := by decide +kernel
theorem dX2_opensLines_6 : decode cX2_opensLines 6 = .ok (.istore 4, 2) := by decide +kernel
theorem dX2_opensLines_8 : decode cX2_opensLines 8 = .ok (.iload 4, 2) := by decide +kernel
theorem dX2_opensLines_10 : decode cX2_opensLines 10 = .ok (.aload_n 2, 1) := by decide +kernel
theorem dX2_opensLines_11 : decode cX2_opensLines 11 = .ok (.getfield 84, 3) := by decide +kernel
theorem dX2_opensLines_14 : decode cX2_opensLines 14 = .ok (.if_icmp .ge 66, 3) := by decide +kernel
theorem dX2_opensLines_17 : decode cX2_opensLines 17 = .ok (.aload_n 1, 1) := by decide +kernel
theorem dX2_opensLines_18 : decode cX2_opensLines 18 = .ok (.aload_n 2, 1) := by decide +kernel
theorem dX2_opensLines_19 : decode cX2_opensLines 19 = .ok (.getfield 87, 3) := by decide +kernel
theorem dX2_opensLines_22 : decode cX2_opensLines 22 = .ok (.iload 4, 2) := by decide +kernel
theorem dX2_opensLines_24 : decode cX2_opensLines 24 = .ok (.iaload, 1) := by decide +kernel
theorem dX2_opensLines_25 : decode cX2_opensLines 25 = .ok (.iload_n 3, 1) := by decide +kernel
theorem dX2_opensLines_26 : decode cX2_opensLines 26 = .ok (.invokevirtual 90, 3) := by decide +kernel
theorem dX2_opensLines_29 : decode cX2_opensLines 29 = .ok (.ifCond .ne 19, 3) := by decide +kernel
theorem dX2_opensLines_32 : decode cX2_opensLines 32 = .ok (.aload_n 0, 1) := by decide +kernel
theorem dX2_opensLines_33 : decode cX2_opensLines 33 = .ok (.dup, 1) := by decide +kernel
theorem dX2_opensLines_34 : decode cX2_opensLines 34 = .ok (.getfield 30, 3) := by decide +kernel
theorem dX2_opensLines_37 : decode cX2_opensLines 37 = .ok (.iconst 1, 1) := by decide +kernel
theorem dX2_opensLines_38 : decode cX2_opensLines 38 = .ok (.iload 4, 2) := by decide +kernel
theorem dX2_opensLines_40 : decode cX2_opensLines 40 = .ok (.ishl, 1) := by decide +kernel
theorem dX2_opensLines_41 : decode cX2_opensLines 41 = .ok (.ior, 1) := by decide +kernel
theorem dX2_opensLines_42 : decode cX2_opensLines 42 = .ok (.putfield 30, 3) := by decide +kernel
theorem dX2_opensLines_45 : decode cX2_opensLines 45 = .ok (.goto 29, 3) := by decide +kernel
theorem dX2_opensLines_48 : decode cX2_opensLines 48 = .ok (.aload_n 0, 1) := by decide +kernel
theorem dX2_opensLines_49 : decode cX2_opensLines 49 = .ok (.getfield 34, 3) := by decide +kernel
theorem dX2_opensLines_52 : decode cX2_opensLines 52 = .ok (.aload_n 2, 1) := by decide +kernel
theorem dX2_opensLines_53 : decode cX2_opensLines 53 = .ok (.getfield 87, 3) := by decide +kernel
theorem dX2_opensLines_56 : decode cX2_opensLines 56 = .ok (.iload 4, 2) := by decide +kernel
theorem dX2_opensLines_58 : decode cX2_opensLines 58 = .ok (.iaload, 1) := by decide +kernel
theorem dX2_opensLines_59 : decode cX2_opensLines 59 = .ok (.invokevirtual 96, 3) := by decide +kernel
theorem dX2_opensLines_62 : decode cX2_opensLines 62 = .ok (.aload_n 2, 1) := by decide +kernel
theorem dX2_opensLines_63 : decode cX2_opensLines 63 = .ok (.getfield 101, 3) := by decide +kernel
theorem dX2_opensLines_66 : decode cX2_opensLines 66 = .ok (.iload 4, 2) := by decide +kernel
theorem dX2_opensLines_68 : decode cX2_opensLines 68 = .ok (.iaload, 1) := by decide +kernel
theorem dX2_opensLines_69 : decode cX2_opensLines 69 = .ok (.if_icmp .eq 5, 3) := by decide +kernel
theorem dX2_opensLines_72 : decode cX2_opensLines 72 = .ok (.iconst 0, 1) := by decide +kernel
theorem dX2_opensLines_73 : decode cX2_opensLines 73 = .ok (.ireturn, 1) := by decide +kernel
theorem dX2_opensLines_74 : decode cX2_opensLines 74 = .ok (.iinc 4 1, 3) := by decide +kernel
theorem dX2_opensLines_77 : decode cX2_opensLines 77 = .ok (.goto (-69), 3) := by decide +kernel
theorem dX2_opensLines_80 : decode cX2_opensLines 80 = .ok (.iconst 1, 1) := by decide +kernel
theorem dX2_opensLines_81 : decode cX2_opensLines 81 = .ok (.ireturn, 1) := by decide +kernel
theorem dX2_sumLetters_0 : decode cX2_sumLetters 0 = .ok (.aload_n 0, 1) := by decide +kernel
theorem dX2_sumLetters_1 : decode cX2_sumLetters 1 = .ok (.getfield 38, 3) := by decide +kernel
theorem dX2_sumLetters_4 : decode cX2_sumLetters 4 = .ok (.aload_n 1, 1) := by decide +kernel
theorem dX2_sumLetters_5 : decode cX2_sumLetters 5 = .ok (.iload_n 2, 1) := by decide +kernel
theorem dX2_sumLetters_6 : decode cX2_sumLetters 6 = .ok (.invokevirtual 104, 3) := by decide +kernel
theorem dX2_sumLetters_9 : decode cX2_sumLetters 9 = .ok (.aload_n 0, 1) := by decide +kernel
theorem dX2_sumLetters_10 : decode cX2_sumLetters 10 = .ok (.getfield 38, 3) := by decide +kernel
theorem dX2_sumLetters_13 : decode cX2_sumLetters 13 = .ok (.getfield 107, 3) := by decide +kernel
theorem dX2_sumLetters_16 : decode cX2_sumLetters 16 = .ok (.iconst 0, 1) := by decide +kernel
theorem dX2_sumLetters_17 : decode cX2_sumLetters 17 = .ok (.aload_n 0, 1) := by decide +kernel
theorem dX2_sumLetters_18 : decode cX2_sumLetters 18 = .ok (.getfield 24, 3) := by decide +kernel
theorem dX2_sumLetters_21 : decode cX2_sumLetters 21 = .ok (.iconst 0, 1) := by decide +kernel
theorem dX2_sumLetters_22 : decode cX2_sumLetters 22 = .ok (.bipush 6, 2) := by decide +kernel
theorem dX2_sumLetters_24 : decode cX2_sumLetters 24 = .ok (.invokestatic 108, 3) := by decide +kernel
theorem dX2_sumLetters_27 : decode cX2_sumLetters 27 = .ok (.iconst 0, 1) := by decide +kernel
theorem dX2_sumLetters_28 : decode cX2_sumLetters 28 = .ok (.istore_n 3, 1) := by decide +kernel
theorem dX2_sumLetters_29 : decode cX2_sumLetters 29 = .ok (.iload_n 3, 1) := by decide +kernel
theorem dX2_sumLetters_30 : decode cX2_sumLetters 30 = .ok (.aload_n 0, 1) := by decide +kernel
theorem dX2_sumLetters_31 : decode cX2_sumLetters 31 = .ok (.getfield 42, 3) := by decide +kernel
theorem dX2_sumLetters_34 : decode cX2_sumLetters 34 = .ok (.getfield 62, 3) := by decide +kernel
theorem dX2_sumLetters_37 : decode cX2_sumLetters 37 = .ok (.if_icmp .ge 29, 3) := by decide +kernel
theorem dX2_sumLetters_40 : decode cX2_sumLetters 40 = .ok (.aload_n 0, 1) := by decide +kernel
theorem dX2_sumLetters_41 : decode cX2_sumLetters 41 = .ok (.getfield 18, 3) := by decide +kernel
theorem dX2_sumLetters_44 : decode cX2_sumLetters 44 = .ok (.iload_n 3, 1) := by decide +kernel
theorem dX2_sumLetters_45 : decode cX2_sumLetters 45 = .ok (.aload_n 0, 1) := by decide +kernel
theorem dX2_sumLetters_46 : decode cX2_sumLetters 46 = .ok (.getfield 38, 3) := by decide +kernel
theorem dX2_sumLetters_49 : decode cX2_sumLetters 49 = .ok (.aload_n 1, 1) := by decide +kernel
theorem dX2_sumLetters_50 : decode cX2_sumLetters 50 = .ok (.aload_n 0, 1) := by decide +kernel
theorem dX2_sumLetters_51 : decode cX2_sumLetters 51 = .ok (.getfield 42, 3) := by decide +kernel
theorem dX2_sumLetters_54 : decode cX2_sumLetters 54 = .ok (.iload_n 3, 1) := by decide +kernel
theorem dX2_sumLetters_55 : decode cX2_sumLetters 55 = .ok (.iload_n 2, 1) := by decide +kernel
theorem dX2_sumLetters_56 : decode cX2_sumLetters 56 = .ok (.invokevirtual 114, 3) := by decide +kernel
theorem dX2_sumLetters_59 : decode cX2_sumLetters 59 = .ok (.iastore, 1) := by decide +kernel
theorem dX2_sumLetters_60 : decode cX2_sumLetters 60 = .ok (.iinc 3 1, 3) := by decide +kernel
theorem dX2_sumLetters_63 : decode cX2_sumLetters 63 = .ok (.goto (-34), 3) := by decide +kernel
theorem dX2_sumLetters_66 : decode cX2_sumLetters 66 = .ok (.return_, 1) := by decide +kernel
theorem dX2_gatherLines_0 : decode cX2_gatherLines 0 = .ok (.iconst 0, 1) := by decide +kernel
theorem dX2_gatherLines_1 : decode cX2_gatherLines 1 = .ok (.istore_n 3, 1) := by decide +kernel
theorem dX2_gatherLines_2 : decode cX2_gatherLines 2 = .ok (.iload_n 3, 1) := by decide +kernel
theorem dX2_gatherLines_3 : decode cX2_gatherLines 3 = .ok (.aload_n 1, 1) := by decide +kernel
theorem dX2_gatherLines_4 : decode cX2_gatherLines 4 = .ok (.getfield 84, 3) := by decide +kernel
theorem dX2_gatherLines_7 : decode cX2_gatherLines 7 = .ok (.if_icmp .ge 44, 3) := by decide +kernel
theorem dX2_gatherLines_10 : decode cX2_gatherLines 10 = .ok (.aload_n 0, 1) := by decide +kernel
theorem dX2_gatherLines_11 : decode cX2_gatherLines 11 = .ok (.getfield 38, 3) := by decide +kernel
theorem dX2_gatherLines_14 : decode cX2_gatherLines 14 = .ok (.aload_n 1, 1) := by decide +kernel
theorem dX2_gatherLines_15 : decode cX2_gatherLines 15 = .ok (.getfield 87, 3) := by decide +kernel
theorem dX2_gatherLines_18 : decode cX2_gatherLines 18 = .ok (.iload_n 3, 1) := by decide +kernel
theorem dX2_gatherLines_19 : decode cX2_gatherLines 19 = .ok (.iaload, 1) := by decide +kernel
theorem dX2_gatherLines_20 : decode cX2_gatherLines 20 = .ok (.iload_n 2, 1) := by decide +kernel
theorem dX2_gatherLines_21 : decode cX2_gatherLines 21 = .ok (.invokevirtual 118, 3) := by decide +kernel
theorem dX2_gatherLines_24 : decode cX2_gatherLines 24 = .ok (.aload_n 0, 1) := by decide +kernel
theorem dX2_gatherLines_25 : decode cX2_gatherLines 25 = .ok (.getfield 38, 3) := by decide +kernel
theorem dX2_gatherLines_28 : decode cX2_gatherLines 28 = .ok (.getfield 122, 3) := by decide +kernel
theorem dX2_gatherLines_31 : decode cX2_gatherLines 31 = .ok (.iconst 0, 1) := by decide +kernel
theorem dX2_gatherLines_32 : decode cX2_gatherLines 32 = .ok (.aload_n 0, 1) := by decide +kernel
theorem dX2_gatherLines_33 : decode cX2_gatherLines 33 = .ok (.getfield 27, 3) := by decide +kernel
theorem dX2_gatherLines_36 : decode cX2_gatherLines 36 = .ok (.iload_n 3, 1) := by decide +kernel
theorem dX2_gatherLines_37 : decode cX2_gatherLines 37 = .ok (.bipush 10, 2) := by decide +kernel
theorem dX2_gatherLines_39 : decode cX2_gatherLines 39 = .ok (.imul, 1) := by decide +kernel
theorem dX2_gatherLines_40 : decode cX2_gatherLines 40 = .ok (.bipush 10, 2) := by decide +kernel
theorem dX2_gatherLines_42 : decode cX2_gatherLines 42 = .ok (.invokestatic 108, 3) := by decide +kernel
theorem dX2_gatherLines_45 : decode cX2_gatherLines 45 = .ok (.iinc 3 1, 3) := by decide +kernel
theorem dX2_gatherLines_48 : decode cX2_gatherLines 48 = .ok (.goto (-46), 3) := by decide +kernel
theorem dX2_gatherLines_51 : decode cX2_gatherLines 51 = .ok (.return_, 1) := by decide +kernel
theorem dX2_usefulForStory_0 : decode cX2_usefulForStory 0 = .ok (.iconst 0, 1) := by decide +kernel
theorem dX2_usefulForStory_1 : decode cX2_usefulForStory 1 = .ok (.istore_n 3, 1) := by decide +kernel
theorem dX2_usefulForStory_2 : decode cX2_usefulForStory 2 = .ok (.iconst 0, 1) := by decide +kernel
theorem dX2_usefulForStory_3 : decode cX2_usefulForStory 3 = .ok (.istore 4, 2) := by decide +kernel
theorem dX2_usefulForStory_5 : decode cX2_usefulForStory 5 = .ok (.iload 4, 2) := by decide +kernel
theorem dX2_usefulForStory_7 : decode cX2_usefulForStory 7 = .ok (.aload_n 0, 1) := by decide +kernel
theorem dX2_usefulForStory_8 : decode cX2_usefulForStory 8 = .ok (.getfield 42, 3) := by decide +kernel
theorem dX2_usefulForStory_11 : decode cX2_usefulForStory 11 = .ok (.getfield 62, 3) := by decide +kernel
theorem dX2_usefulForStory_14 : decode cX2_usefulForStory 14 = .ok (.if_icmp .ge 121, 3) := by decide +kernel
theorem dX2_usefulForStory_17 : decode cX2_usefulForStory 17 = .ok (.aload_n 0, 1) := by decide +kernel
theorem dX2_usefulForStory_18 : decode cX2_usefulForStory 18 = .ok (.getfield 21, 3) := by decide +kernel
theorem dX2_usefulForStory_21 : decode cX2_usefulForStory 21 = .ok (.iload 4, 2) := by decide +kernel
theorem dX2_usefulForStory_23 : decode cX2_usefulForStory 23 = .ok (.iconst 0, 1) := by decide +kernel
theorem dX2_usefulForStory_24 : decode cX2_usefulForStory 24 = .ok (.iastore, 1) := by decide +kernel
theorem dX2_usefulForStory_25 : decode cX2_usefulForStory 25 = .ok (.iconst 0, 1) := by decide +kernel
theorem dX2_usefulForStory_26 : decode cX2_usefulForStory 26 = .ok (.istore 5, 2) := by decide +kernel
theorem dX2_usefulForStory_28 : decode cX2_usefulForStory 28 = .ok (.iload 5, 2) := by decide +kernel
theorem dX2_usefulForStory_30 : decode cX2_usefulForStory 30 = .ok (.aload_n 1, 1) := by decide +kernel
theorem dX2_usefulForStory_31 : decode cX2_usefulForStory 31 = .ok (.getfield 84, 3) := by decide +kernel
theorem dX2_usefulForStory_34 : decode cX2_usefulForStory 34 = .ok (.if_icmp .ge 68, 3) := by decide +kernel
theorem dX2_usefulForStory_37 : decode cX2_usefulForStory 37 = .ok (.aload_n 0, 1) := by decide +kernel
theorem dX2_usefulForStory_38 : decode cX2_usefulForStory 38 = .ok (.getfield 30, 3) := by decide +kernel
theorem dX2_usefulForStory_41 : decode cX2_usefulForStory 41 = .ok (.iload 5, 2) := by decide +kernel
theorem dX2_usefulForStory_43 : decode cX2_usefulForStory 43 = .ok (.invokestatic 123, 3) := by decide +kernel
theorem dX2_usefulForStory_46 : decode cX2_usefulForStory 46 = .ok (.ifCond .eq 50, 3) := by decide +kernel
theorem dX2_usefulForStory_49 : decode cX2_usefulForStory 49 = .ok (.aload_n 0, 1) := by decide +kernel
theorem dX2_usefulForStory_50 : decode cX2_usefulForStory 50 = .ok (.getfield 42, 3) := by decide +kernel
theorem dX2_usefulForStory_53 : decode cX2_usefulForStory 53 = .ok (.getfield 126, 3) := by decide +kernel
theorem dX2_usefulForStory_56 : decode cX2_usefulForStory 56 = .ok (.iload 4, 2) := by decide +kernel
theorem dX2_usefulForStory_58 : decode cX2_usefulForStory 58 = .ok (.iaload, 1) := by decide +kernel
theorem dX2_usefulForStory_59 : decode cX2_usefulForStory 59 = .ok (.aload_n 1, 1) := by decide +kernel
theorem dX2_usefulForStory_60 : decode cX2_usefulForStory 60 = .ok (.getfield 87, 3) := by decide +kernel
theorem dX2_usefulForStory_63 : decode cX2_usefulForStory 63 = .ok (.iload 5, 2) := by decide +kernel
theorem dX2_usefulForStory_65 : decode cX2_usefulForStory 65 = .ok (.iaload, 1) := by decide +kernel
theorem dX2_usefulForStory_66 : decode cX2_usefulForStory 66 = .ok (.if_icmp .ne 30, 3) := by decide +kernel
theorem dX2_usefulForStory_69 : decode cX2_usefulForStory 69 = .ok (.aload_n 0, 1) := by decide +kernel
theorem dX2_usefulForStory_70 : decode cX2_usefulForStory 70 = .ok (.getfield 42, 3) := by decide +kernel
theorem dX2_usefulForStory_73 : decode cX2_usefulForStory 73 = .ok (.iload 4, 2) := by decide +kernel
theorem dX2_usefulForStory_75 : decode cX2_usefulForStory 75 = .ok (.invokevirtual 127, 3) := by decide +kernel
theorem dX2_usefulForStory_78 : decode cX2_usefulForStory 78 = .ok (.iload_n 2, 1) := by decide +kernel
theorem dX2_usefulForStory_79 : decode cX2_usefulForStory 79 = .ok (.if_icmp .gt 17, 3) := by decide +kernel
theorem dX2_usefulForStory_82 : decode cX2_usefulForStory 82 = .ok (.aload_n 0, 1) := by decide +kernel
theorem dX2_usefulForStory_83 : decode cX2_usefulForStory 83 = .ok (.getfield 21, 3) := by decide +kernel
theorem dX2_usefulForStory_86 : decode cX2_usefulForStory 86 = .ok (.iload 4, 2) := by decide +kernel
theorem dX2_usefulForStory_88 : decode cX2_usefulForStory 88 = .ok (.dup2, 1) := by decide +kernel
theorem dX2_usefulForStory_89 : decode cX2_usefulForStory 89 = .ok (.iaload, 1) := by decide +kernel
theorem dX2_usefulForStory_90 : decode cX2_usefulForStory 90 = .ok (.iconst 1, 1) := by decide +kernel
theorem dX2_usefulForStory_91 : decode cX2_usefulForStory 91 = .ok (.iload 5, 2) := by decide +kernel
theorem dX2_usefulForStory_93 : decode cX2_usefulForStory 93 = .ok (.ishl, 1) := by decide +kernel
theorem dX2_usefulForStory_94 : decode cX2_usefulForStory 94 = .ok (.ior, 1) := by decide +kernel
theorem dX2_usefulForStory_95 : decode cX2_usefulForStory 95 = .ok (.iastore, 1) := by decide +kernel
theorem dX2_usefulForStory_96 : decode cX2_usefulForStory 96 = .ok (.iinc 5 1, 3) := by decide +kernel
theorem dX2_usefulForStory_99 : decode cX2_usefulForStory 99 = .ok (.goto (-71), 3) := by decide +kernel
theorem dX2_usefulForStory_102 : decode cX2_usefulForStory 102 = .ok (.aload_n 0, 1) := by decide +kernel
theorem dX2_usefulForStory_103 : decode cX2_usefulForStory 103 = .ok (.getfield 21, 3) := by decide +kernel
theorem dX2_usefulForStory_106 : decode cX2_usefulForStory 106 = .ok (.iload 4, 2) := by decide +kernel
theorem dX2_usefulForStory_108 : decode cX2_usefulForStory 108 = .ok (.iaload, 1) := by decide +kernel
theorem dX2_usefulForStory_109 : decode cX2_usefulForStory 109 = .ok (.ifCond .ne 13, 3) := by decide +kernel
theorem dX2_usefulForStory_112 : decode cX2_usefulForStory 112 = .ok (.aload_n 0, 1) := by decide +kernel
theorem dX2_usefulForStory_113 : decode cX2_usefulForStory 113 = .ok (.getfield 18, 3) := by decide +kernel
theorem dX2_usefulForStory_116 : decode cX2_usefulForStory 116 = .ok (.iload 4, 2) := by decide +kernel
theorem dX2_usefulForStory_118 : decode cX2_usefulForStory 118 = .ok (.iaload, 1) := by decide +kernel
theorem dX2_usefulForStory_119 : decode cX2_usefulForStory 119 = .ok (.ifCond .eq 10, 3) := by decide +kernel
theorem dX2_usefulForStory_122 : decode cX2_usefulForStory 122 = .ok (.iload_n 3, 1) := by decide +kernel
theorem dX2_usefulForStory_123 : decode cX2_usefulForStory 123 = .ok (.iconst 1, 1) := by decide +kernel
theorem dX2_usefulForStory_124 : decode cX2_usefulForStory 124 = .ok (.iload 4, 2) := by decide +kernel
theorem dX2_usefulForStory_126 : decode cX2_usefulForStory 126 = .ok (.ishl, 1) := by decide +kernel
theorem dX2_usefulForStory_127 : decode cX2_usefulForStory 127 = .ok (.ior, 1) := by decide +kernel
theorem dX2_usefulForStory_128 : decode cX2_usefulForStory 128 = .ok (.istore_n 3, 1) := by decide +kernel
theorem dX2_usefulForStory_129 : decode cX2_usefulForStory 129 = .ok (.iinc 4 1, 3) := by decide +kernel
theorem dX2_usefulForStory_132 : decode cX2_usefulForStory 132 = .ok (.goto (-127), 3) := by decide +kernel
theorem dX2_usefulForStory_135 : decode cX2_usefulForStory 135 = .ok (.iload_n 3, 1) := by decide +kernel
theorem dX2_usefulForStory_136 : decode cX2_usefulForStory 136 = .ok (.ireturn, 1) := by decide +kernel
theorem dX2_usefulForTrust_0 : decode cX2_usefulForTrust 0 = .ok (.iconst 0, 1) := by decide +kernel
theorem dX2_usefulForTrust_1 : decode cX2_usefulForTrust 1 = .ok (.istore_n 2, 1) := by decide +kernel
theorem dX2_usefulForTrust_2 : decode cX2_usefulForTrust 2 = .ok (.iconst 0, 1) := by decide +kernel
theorem dX2_usefulForTrust_3 : decode cX2_usefulForTrust 3 = .ok (.istore_n 3, 1) := by decide +kernel
theorem dX2_usefulForTrust_4 : decode cX2_usefulForTrust 4 = .ok (.iload_n 3, 1) := by decide +kernel
theorem dX2_usefulForTrust_5 : decode cX2_usefulForTrust 5 = .ok (.aload_n 0, 1) := by decide +kernel
theorem dX2_usefulForTrust_6 : decode cX2_usefulForTrust 6 = .ok (.getfield 42, 3) := by decide +kernel
theorem dX2_usefulForTrust_9 : decode cX2_usefulForTrust 9 = .ok (.getfield 62, 3) := by decide +kernel
theorem dX2_usefulForTrust_12 : decode cX2_usefulForTrust 12 = .ok (.if_icmp .ge 37, 3) := by decide +kernel
theorem dX2_usefulForTrust_15 : decode cX2_usefulForTrust 15 = .ok (.aload_n 0, 1) := by decide +kernel
theorem dX2_usefulForTrust_16 : decode cX2_usefulForTrust 16 = .ok (.getfield 42, 3) := by decide +kernel
theorem dX2_usefulForTrust_19 : decode cX2_usefulForTrust 19 = .ok (.getfield 130, 3) := by decide +kernel
theorem dX2_usefulForTrust_22 : decode cX2_usefulForTrust 22 = .ok (.iload_n 3, 1) := by decide +kernel
theorem dX2_usefulForTrust_23 : decode cX2_usefulForTrust 23 = .ok (.iaload, 1) := by decide +kernel
theorem dX2_usefulForTrust_24 : decode cX2_usefulForTrust 24 = .ok (.iload_n 1, 1) := by decide +kernel
theorem dX2_usefulForTrust_25 : decode cX2_usefulForTrust 25 = .ok (.if_icmp .ne 18, 3) := by decide +kernel
theorem dX2_usefulForTrust_28 : decode cX2_usefulForTrust 28 = .ok (.aload_n 0, 1) := by decide +kernel
theorem dX2_usefulForTrust_29 : decode cX2_usefulForTrust 29 = .ok (.getfield 18, 3) := by decide +kernel
theorem dX2_usefulForTrust_32 : decode cX2_usefulForTrust 32 = .ok (.iload_n 3, 1) := by decide +kernel
theorem dX2_usefulForTrust_33 : decode cX2_usefulForTrust 33 = .ok (.iaload, 1) := by decide +kernel
theorem dX2_usefulForTrust_34 : decode cX2_usefulForTrust 34 = .ok (.ifCond .le 9, 3) := by decide +kernel
theorem dX2_usefulForTrust_37 : decode cX2_usefulForTrust 37 = .ok (.iload_n 2, 1) := by decide +kernel
theorem dX2_usefulForTrust_38 : decode cX2_usefulForTrust 38 = .ok (.iconst 1, 1) := by decide +kernel
theorem dX2_usefulForTrust_39 : decode cX2_usefulForTrust 39 = .ok (.iload_n 3, 1) := by decide +kernel
theorem dX2_usefulForTrust_40 : decode cX2_usefulForTrust 40 = .ok (.ishl, 1) := by decide +kernel
theorem dX2_usefulForTrust_41 : decode cX2_usefulForTrust 41 = .ok (.ior, 1) := by decide +kernel
theorem dX2_usefulForTrust_42 : decode cX2_usefulForTrust 42 = .ok (.istore_n 2, 1) := by decide +kernel
theorem dX2_usefulForTrust_43 : decode cX2_usefulForTrust 43 = .ok (.iinc 3 1, 3) := by decide +kernel
theorem dX2_usefulForTrust_46 : decode cX2_usefulForTrust 46 = .ok (.goto (-42), 3) := by decide +kernel
theorem dX2_usefulForTrust_49 : decode cX2_usefulForTrust 49 = .ok (.iload_n 2, 1) := by decide +kernel
theorem dX2_usefulForTrust_50 : decode cX2_usefulForTrust 50 = .ok (.ireturn, 1) := by decide +kernel
theorem dX2_addUp_0 : decode cX2_addUp 0 = .ok (.iconst 0, 1) := by decide +kernel
theorem dX2_addUp_1 : decode cX2_addUp 1 = .ok (.istore_n 3, 1) := by decide +kernel
theorem dX2_addUp_2 : decode cX2_addUp 2 = .ok (.iconst 0, 1) := by decide +kernel
theorem dX2_addUp_3 : decode cX2_addUp 3 = .ok (.istore 4, 2) := by decide +kernel
theorem dX2_addUp_5 : decode cX2_addUp 5 = .ok (.iload 4, 2) := by decide +kernel
theorem dX2_addUp_7 : decode cX2_addUp 7 = .ok (.aload_n 0, 1) := by decide +kernel
theorem dX2_addUp_8 : decode cX2_addUp 8 = .ok (.getfield 42, 3) := by decide +kernel
theorem dX2_addUp_11 : decode cX2_addUp 11 = .ok (.getfield 62, 3) := by decide +kernel
theorem dX2_addUp_14 : decode cX2_addUp 14 = .ok (.if_icmp .ge 25, 3) := by decide +kernel
theorem dX2_addUp_17 : decode cX2_addUp 17 = .ok (.iload_n 2, 1) := by decide +kernel
theorem dX2_addUp_18 : decode cX2_addUp 18 = .ok (.iload 4, 2) := by decide +kernel
theorem dX2_addUp_20 : decode cX2_addUp 20 = .ok (.invokestatic 123, 3) := by decide +kernel
theorem dX2_addUp_23 : decode cX2_addUp 23 = .ok (.ifCond .eq 10, 3) := by decide +kernel
theorem dX2_addUp_26 : decode cX2_addUp 26 = .ok (.iload_n 3, 1) := by decide +kernel
theorem dX2_addUp_27 : decode cX2_addUp 27 = .ok (.aload_n 1, 1) := by decide +kernel
theorem dX2_addUp_28 : decode cX2_addUp 28 = .ok (.iload 4, 2) := by decide +kernel
theorem dX2_addUp_30 : decode cX2_addUp 30 = .ok (.iaload, 1) := by decide +kernel
theorem dX2_addUp_31 : decode cX2_addUp 31 = .ok (.iadd, 1) := by decide +kernel
theorem dX2_addUp_32 : decode cX2_addUp 32 = .ok (.istore_n 3, 1) := by decide +kernel
theorem dX2_addUp_33 : decode cX2_addUp 33 = .ok (.iinc 4 1, 3) := by decide +kernel
theorem dX2_addUp_36 : decode cX2_addUp 36 = .ok (.goto (-31), 3) := by decide +kernel
theorem dX2_addUp_39 : decode cX2_addUp 39 = .ok (.iload_n 3, 1) := by decide +kernel
theorem dX2_addUp_40 : decode cX2_addUp 40 = .ok (.ireturn, 1) := by decide +kernel
theorem dX2_holdsWith_0 : decode cX2_holdsWith 0 = .ok (.aload_n 0, 1) := by decide +kernel
theorem dX2_holdsWith_1 : decode cX2_holdsWith 1 = .ok (.getfield 24, 3) := by decide +kernel
theorem dX2_holdsWith_4 : decode cX2_holdsWith 4 = .ok (.iconst 0, 1) := by decide +kernel
theorem dX2_holdsWith_5 : decode cX2_holdsWith 5 = .ok (.aload_n 0, 1) := by decide +kernel
theorem dX2_holdsWith_6 : decode cX2_holdsWith 6 = .ok (.getfield 38, 3) := by decide +kernel
theorem dX2_holdsWith_9 : decode cX2_holdsWith 9 = .ok (.getfield 107, 3) := by decide +kernel
theorem dX2_holdsWith_12 : decode cX2_holdsWith 12 = .ok (.iconst 0, 1) := by decide +kernel
theorem dX2_holdsWith_13 : decode cX2_holdsWith 13 = .ok (.bipush 6, 2) := by decide +kernel
theorem dX2_holdsWith_15 : decode cX2_holdsWith 15 = .ok (.invokestatic 108, 3) := by decide +kernel
theorem dX2_holdsWith_18 : decode cX2_holdsWith 18 = .ok (.iconst 0, 1) := by decide +kernel
theorem dX2_holdsWith_19 : decode cX2_holdsWith 19 = .ok (.istore 4, 2) := by decide +kernel
theorem dX2_holdsWith_21 : decode cX2_holdsWith 21 = .ok (.iload 4, 2) := by decide +kernel
theorem dX2_holdsWith_23 : decode cX2_holdsWith 23 = .ok (.aload_n 0, 1) := by decide +kernel
theorem dX2_holdsWith_24 : decode cX2_holdsWith 24 = .ok (.getfield 42, 3) := by decide +kernel
theorem dX2_holdsWith_27 : decode cX2_holdsWith 27 = .ok (.getfield 62, 3) := by decide +kernel
theorem dX2_holdsWith_30 : decode cX2_holdsWith 30 = .ok (.if_icmp .ge 46, 3) := by decide +kernel
theorem dX2_holdsWith_33 : decode cX2_holdsWith 33 = .ok (.iload_n 1, 1) := by decide +kernel
theorem dX2_holdsWith_34 : decode cX2_holdsWith 34 = .ok (.iload 4, 2) := by decide +kernel
theorem dX2_holdsWith_36 : decode cX2_holdsWith 36 = .ok (.invokestatic 123, 3) := by decide +kernel
theorem dX2_holdsWith_39 : decode cX2_holdsWith 39 = .ok (.ifCond .eq 31, 3) := by decide +kernel
theorem dX2_holdsWith_42 : decode cX2_holdsWith 42 = .ok (.aload_n 0, 1) := by decide +kernel
theorem dX2_holdsWith_43 : decode cX2_holdsWith 43 = .ok (.getfield 38, 3) := by decide +kernel
theorem dX2_holdsWith_46 : decode cX2_holdsWith 46 = .ok (.getfield 107, 3) := by decide +kernel
theorem dX2_holdsWith_49 : decode cX2_holdsWith 49 = .ok (.aload_n 0, 1) := by decide +kernel
theorem dX2_holdsWith_50 : decode cX2_holdsWith 50 = .ok (.getfield 42, 3) := by decide +kernel
theorem dX2_holdsWith_53 : decode cX2_holdsWith 53 = .ok (.getfield 130, 3) := by decide +kernel
theorem dX2_holdsWith_56 : decode cX2_holdsWith 56 = .ok (.iload 4, 2) := by decide +kernel
theorem dX2_holdsWith_58 : decode cX2_holdsWith 58 = .ok (.iaload, 1) := by decide +kernel
theorem dX2_holdsWith_59 : decode cX2_holdsWith 59 = .ok (.dup2, 1) := by decide +kernel
theorem dX2_holdsWith_60 : decode cX2_holdsWith 60 = .ok (.iaload, 1) := by decide +kernel
theorem dX2_holdsWith_61 : decode cX2_holdsWith 61 = .ok (.aload_n 0, 1) := by decide +kernel
theorem dX2_holdsWith_62 : decode cX2_holdsWith 62 = .ok (.getfield 18, 3) := by decide +kernel
theorem dX2_holdsWith_65 : decode cX2_holdsWith 65 = .ok (.iload 4, 2) := by decide +kernel
theorem dX2_holdsWith_67 : decode cX2_holdsWith 67 = .ok (.iaload, 1) := by decide +kernel
theorem dX2_holdsWith_68 : decode cX2_holdsWith 68 = .ok (.iadd, 1) := by decide +kernel
theorem dX2_holdsWith_69 : decode cX2_holdsWith 69 = .ok (.iastore, 1) := by decide +kernel
theorem dX2_holdsWith_70 : decode cX2_holdsWith 70 = .ok (.iinc 4 1, 3) := by decide +kernel
theorem dX2_holdsWith_73 : decode cX2_holdsWith 73 = .ok (.goto (-52), 3) := by decide +kernel
theorem dX2_holdsWith_76 : decode cX2_holdsWith 76 = .ok (.iconst 0, 1) := by decide +kernel
theorem dX2_holdsWith_77 : decode cX2_holdsWith 77 = .ok (.istore 4, 2) := by decide +kernel
theorem dX2_holdsWith_79 : decode cX2_holdsWith 79 = .ok (.iload 4, 2) := by decide +kernel
theorem dX2_holdsWith_81 : decode cX2_holdsWith 81 = .ok (.aload_n 3, 1) := by decide +kernel
theorem dX2_holdsWith_82 : decode cX2_holdsWith 82 = .ok (.getfield 84, 3) := by decide +kernel
theorem dX2_holdsWith_85 : decode cX2_holdsWith 85 = .ok (.if_icmp .ge 48, 3) := by decide +kernel
theorem dX2_holdsWith_88 : decode cX2_holdsWith 88 = .ok (.aload_n 0, 1) := by decide +kernel
theorem dX2_holdsWith_89 : decode cX2_holdsWith 89 = .ok (.getfield 30, 3) := by decide +kernel
theorem dX2_holdsWith_92 : decode cX2_holdsWith 92 = .ok (.iload 4, 2) := by decide +kernel
theorem dX2_holdsWith_94 : decode cX2_holdsWith 94 = .ok (.invokestatic 123, 3) := by decide +kernel
theorem dX2_holdsWith_97 : decode cX2_holdsWith 97 = .ok (.ifCond .eq 30, 3) := by decide +kernel
theorem dX2_holdsWith_100 : decode cX2_holdsWith 100 = .ok (.aload_n 0, 1) := by decide +kernel
theorem dX2_holdsWith_101 : decode cX2_holdsWith 101 = .ok (.iload_n 1, 1) := by decide +kernel
theorem dX2_holdsWith_102 : decode cX2_holdsWith 102 = .ok (.iload 4, 2) := by decide +kernel
theorem dX2_holdsWith_104 : decode cX2_holdsWith 104 = .ok (.invokevirtual 133, 3) := by decide +kernel
theorem dX2_holdsWith_107 : decode cX2_holdsWith 107 = .ok (.aload_n 0, 1) := by decide +kernel
theorem dX2_holdsWith_108 : decode cX2_holdsWith 108 = .ok (.getfield 38, 3) := by decide +kernel
theorem dX2_holdsWith_111 : decode cX2_holdsWith 111 = .ok (.aload_n 2, 1) := by decide +kernel
theorem dX2_holdsWith_112 : decode cX2_holdsWith 112 = .ok (.invokevirtual 136, 3) := by decide +kernel
theorem dX2_holdsWith_115 : decode cX2_holdsWith 115 = .ok (.aload_n 3, 1) := by decide +kernel
theorem dX2_holdsWith_116 : decode cX2_holdsWith 116 = .ok (.getfield 101, 3) := by decide +kernel
theorem dX2_holdsWith_119 : decode cX2_holdsWith 119 = .ok (.iload 4, 2) := by decide +kernel
theorem dX2_holdsWith_121 : decode cX2_holdsWith 121 = .ok (.iaload, 1) := by decide +kernel
theorem dX2_holdsWith_122 : decode cX2_holdsWith 122 = .ok (.if_icmp .eq 5, 3) := by decide +kernel
theorem dX2_holdsWith_125 : decode cX2_holdsWith 125 = .ok (.iconst 0, 1) := by decide +kernel
theorem dX2_holdsWith_126 : decode cX2_holdsWith 126 = .ok (.ireturn, 1) := by decide +kernel
theorem dX2_holdsWith_127 : decode cX2_holdsWith 127 = .ok (.iinc 4 1, 3) := by decide +kernel
theorem dX2_holdsWith_130 : decode cX2_holdsWith 130 = .ok (.goto (-51), 3) := by decide +kernel
theorem dX2_holdsWith_133 : decode cX2_holdsWith 133 = .ok (.iconst 1, 1) := by decide +kernel
theorem dX2_holdsWith_134 : decode cX2_holdsWith 134 = .ok (.ireturn, 1) := by decide +kernel
theorem dX2_gatherWith_0 : decode cX2_gatherWith 0 = .ok (.aload_n 0, 1) := by decide +kernel
theorem dX2_gatherWith_1 : decode cX2_gatherWith 1 = .ok (.getfield 27, 3) := by decide +kernel
theorem dX2_gatherWith_4 : decode cX2_gatherWith 4 = .ok (.iload_n 2, 1) := by decide +kernel
theorem dX2_gatherWith_5 : decode cX2_gatherWith 5 = .ok (.bipush 10, 2) := by decide +kernel
theorem dX2_gatherWith_7 : decode cX2_gatherWith 7 = .ok (.imul, 1) := by decide +kernel
theorem dX2_gatherWith_8 : decode cX2_gatherWith 8 = .ok (.aload_n 0, 1) := by decide +kernel
theorem dX2_gatherWith_9 : decode cX2_gatherWith 9 = .ok (.getfield 38, 3) := by decide +kernel
theorem dX2_gatherWith_12 : decode cX2_gatherWith 12 = .ok (.getfield 122, 3) := by decide +kernel
theorem dX2_gatherWith_15 : decode cX2_gatherWith 15 = .ok (.iconst 0, 1) := by decide +kernel
theorem dX2_gatherWith_16 : decode cX2_gatherWith 16 = .ok (.bipush 10, 2) := by decide +kernel
theorem dX2_gatherWith_18 : decode cX2_gatherWith 18 = .ok (.invokestatic 108, 3) := by decide +kernel
theorem dX2_gatherWith_21 : decode cX2_gatherWith 21 = .ok (.iconst 0, 1) := by decide +kernel
theorem dX2_gatherWith_22 : decode cX2_gatherWith 22 = .ok (.istore_n 3, 1) := by decide +kernel
theorem dX2_gatherWith_23 : decode cX2_gatherWith 23 = .ok (.iload_n 3, 1) := by decide +kernel
theorem dX2_gatherWith_24 : decode cX2_gatherWith 24 = .ok (.aload_n 0, 1) := by decide +kernel
theorem dX2_gatherWith_25 : decode cX2_gatherWith 25 = .ok (.getfield 42, 3) := by decide +kernel
theorem dX2_gatherWith_28 : decode cX2_gatherWith 28 = .ok (.getfield 62, 3) := by decide +kernel
theorem dX2_gatherWith_31 : decode cX2_gatherWith 31 = .ok (.if_icmp .ge 61, 3) := by decide +kernel
theorem dX2_gatherWith_34 : decode cX2_gatherWith 34 = .ok (.iload_n 1, 1) := by decide +kernel
theorem dX2_gatherWith_35 : decode cX2_gatherWith 35 = .ok (.iload_n 3, 1) := by decide +kernel
theorem dX2_gatherWith_36 : decode cX2_gatherWith 36 = .ok (.invokestatic 123, 3) := by decide +kernel
theorem dX2_gatherWith_39 : decode cX2_gatherWith 39 = .ok (.ifCond .eq 47, 3) := by decide +kernel
theorem dX2_gatherWith_42 : decode cX2_gatherWith 42 = .ok (.aload_n 0, 1) := by decide +kernel
theorem dX2_gatherWith_43 : decode cX2_gatherWith 43 = .ok (.getfield 21, 3) := by decide +kernel
theorem dX2_gatherWith_46 : decode cX2_gatherWith 46 = .ok (.iload_n 3, 1) := by decide +kernel
theorem dX2_gatherWith_47 : decode cX2_gatherWith 47 = .ok (.iaload, 1) := by decide +kernel
theorem dX2_gatherWith_48 : decode cX2_gatherWith 48 = .ok (.iload_n 2, 1) := by decide +kernel
theorem dX2_gatherWith_49 : decode cX2_gatherWith 49 = .ok (.invokestatic 123, 3) := by decide +kernel
theorem dX2_gatherWith_52 : decode cX2_gatherWith 52 = .ok (.ifCond .eq 34, 3) := by decide +kernel
theorem dX2_gatherWith_55 : decode cX2_gatherWith 55 = .ok (.aload_n 0, 1) := by decide +kernel
theorem dX2_gatherWith_56 : decode cX2_gatherWith 56 = .ok (.getfield 38, 3) := by decide +kernel
theorem dX2_gatherWith_59 : decode cX2_gatherWith 59 = .ok (.getfield 122, 3) := by decide +kernel
theorem dX2_gatherWith_62 : decode cX2_gatherWith 62 = .ok (.aload_n 0, 1) := by decide +kernel
theorem dX2_gatherWith_63 : decode cX2_gatherWith 63 = .ok (.getfield 42, 3) := by decide +kernel
theorem dX2_gatherWith_66 : decode cX2_gatherWith 66 = .ok (.getfield 140, 3) := by decide +kernel
theorem dX2_gatherWith_69 : decode cX2_gatherWith 69 = .ok (.iload_n 3, 1) := by decide +kernel
theorem dX2_gatherWith_70 : decode cX2_gatherWith 70 = .ok (.iaload, 1) := by decide +kernel
theorem dX2_gatherWith_71 : decode cX2_gatherWith 71 = .ok (.dup2, 1) := by decide +kernel
theorem dX2_gatherWith_72 : decode cX2_gatherWith 72 = .ok (.iaload, 1) := by decide +kernel
theorem dX2_gatherWith_73 : decode cX2_gatherWith 73 = .ok (.iconst 1, 1) := by decide +kernel
theorem dX2_gatherWith_74 : decode cX2_gatherWith 74 = .ok (.aload_n 0, 1) := by decide +kernel
theorem dX2_gatherWith_75 : decode cX2_gatherWith 75 = .ok (.getfield 42, 3) := by decide +kernel
theorem dX2_gatherWith_78 : decode cX2_gatherWith 78 = .ok (.getfield 130, 3) := by decide +kernel
theorem dX2_gatherWith_81 : decode cX2_gatherWith 81 = .ok (.iload_n 3, 1) := by decide +kernel
theorem dX2_gatherWith_82 : decode cX2_gatherWith 82 = .ok (.iaload, 1) := by decide +kernel
theorem dX2_gatherWith_83 : decode cX2_gatherWith 83 = .ok (.ishl, 1) := by decide +kernel
theorem dX2_gatherWith_84 : decode cX2_gatherWith 84 = .ok (.ior, 1) := by decide +kernel
theorem dX2_gatherWith_85 : decode cX2_gatherWith 85 = .ok (.iastore, 1) := by decide +kernel
theorem dX2_gatherWith_86 : decode cX2_gatherWith 86 = .ok (.iinc 3 1, 3) := by decide +kernel
theorem dX2_gatherWith_89 : decode cX2_gatherWith 89 = .ok (.goto (-66), 3) := by decide +kernel
theorem dX2_gatherWith_92 : decode cX2_gatherWith 92 = .ok (.return_, 1) := by decide +kernel
theorem dX3_init_0 : decode cX3_init 0 = .ok (.aload_n 0, 1) := by decide +kernel
theorem dX3_init_1 : decode cX3_init 1 = .ok (.invokespecial 3, 3) := by decide +kernel
theorem dX3_init_4 : decode cX3_init 4 = .ok (.aload_n 0, 1) := by decide +kernel
theorem dX3_init_5 : decode cX3_init 5 = .ok (.getstatic 9, 3) := by decide +kernel
theorem dX3_init_8 : decode cX3_init 8 = .ok (.invokevirtual 13, 3) := by decide +kernel
theorem dX3_init_11 : decode cX3_init 11 = .ok (.checkcast 14, 3) := by decide +kernel
theorem dX3_init_14 : decode cX3_init 14 = .ok (.putfield 18, 3) := by decide +kernel
theorem dX3_init_17 : decode cX3_init 17 = .ok (.aload_n 0, 1) := by decide +kernel
theorem dX3_init_18 : decode cX3_init 18 = .ok (.bipush 6, 2) := by decide +kernel
theorem dX3_init_20 : decode cX3_init 20 = .ok (.newarray .int, 2) := by decide +kernel
theorem dX3_init_22 : decode cX3_init 22 = .ok (.putfield 23, 3) := by decide +kernel
theorem dX3_init_25 : decode cX3_init 25 = .ok (.aload_n 0, 1) := by decide +kernel
theorem dX3_init_26 : decode cX3_init 26 = .ok (.bipush 6, 2) := by decide +kernel
theorem dX3_init_28 : decode cX3_init 28 = .ok (.newarray .int, 2) := by decide +kernel
theorem dX3_init_30 : decode cX3_init 30 = .ok (.putfield 26, 3) := by decide +kernel
theorem dX3_init_33 : decode cX3_init 33 = .ok (.aload_n 0, 1) := by decide +kernel
theorem dX3_init_34 : decode cX3_init 34 = .ok (.bipush 6, 2) := by decide +kernel
theorem dX3_init_36 : decode cX3_init 36 = .ok (.newarray .int, 2) := by decide +kernel
theorem dX3_init_38 : decode cX3_init 38 = .ok (.putfield 29, 3) := by decide +kernel
theorem dX3_init_41 : decode cX3_init 41 = .ok (.aload_n 0, 1) := by decide +kernel
theorem dX3_init_42 : decode cX3_init 42 = .ok (.iconst 0, 1) := by decide +kernel
theorem dX3_init_43 : decode cX3_init 43 = .ok (.putfield 32, 3) := by decide +kernel
theorem dX3_init_46 : decode cX3_init 46 = .ok (.return_, 1) := by decide +kernel
theorem dX3_weighBy_0 : decode cX3_weighBy 0 = .ok (.getstatic 9, 3) := by decide +kernel
theorem dX3_weighBy_3 : decode cX3_weighBy 3 = .ok (.iconst 0, 1) := by decide +kernel
theorem dX3_weighBy_4 : decode cX3_weighBy 4 = .ok (.aload_n 0, 1) := by decide +kernel
theorem dX3_weighBy_5 : decode cX3_weighBy 5 = .ok (.getfield 18, 3) := by decide +kernel
theorem dX3_weighBy_8 : decode cX3_weighBy 8 = .ok (.iconst 0, 1) := by decide +kernel
theorem dX3_weighBy_9 : decode cX3_weighBy 9 = .ok (.bipush 6, 2) := by decide +kernel
theorem dX3_weighBy_11 : decode cX3_weighBy 11 = .ok (.invokestatic 36, 3) := by decide +kernel
theorem dX3_weighBy_14 : decode cX3_weighBy 14 = .ok (.iconst 0, 1) := by decide +kernel
theorem dX3_weighBy_15 : decode cX3_weighBy 15 = .ok (.istore_n 2, 1) := by decide +kernel
theorem dX3_weighBy_16 : decode cX3_weighBy 16 = .ok (.iload_n 2, 1) := by decide +kernel
theorem dX3_weighBy_17 : decode cX3_weighBy 17 = .ok (.aload_n 1, 1) := by decide +kernel
theorem dX3_weighBy_18 : decode cX3_weighBy 18 = .ok (.getfield 42, 3) := by decide +kernel
theorem dX3_weighBy_21 : decode cX3_weighBy 21 = .ok (.if_icmp .ge 26, 3) := by decide +kernel
theorem dX3_weighBy_24 : decode cX3_weighBy 24 = .ok (.aload_n 0, 1) := by decide +kernel
theorem dX3_weighBy_25 : decode cX3_weighBy 25 = .ok (.getfield 18, 3) := by decide +kernel
theorem dX3_weighBy_28 : decode cX3_weighBy 28 = .ok (.aload_n 1, 1) := by decide +kernel
theorem dX3_weighBy_29 : decode cX3_weighBy 29 = .ok (.getfield 47, 3) := by decide +kernel
theorem dX3_weighBy_32 : decode cX3_weighBy 32 = .ok (.iload_n 2, 1) := by decide +kernel
theorem dX3_weighBy_33 : decode cX3_weighBy 33 = .ok (.iaload, 1) := by decide +kernel
theorem dX3_weighBy_34 : decode cX3_weighBy 34 = .ok (.aload_n 1, 1) := by decide +kernel
theorem dX3_weighBy_35 : decode cX3_weighBy 35 = .ok (.getfield 50, 3) := by decide +kernel
theorem dX3_weighBy_38 : decode cX3_weighBy 38 = .ok (.iload_n 2, 1) := by decide +kernel
theorem dX3_weighBy_39 : decode cX3_weighBy 39 = .ok (.iaload, 1) := by decide +kernel
theorem dX3_weighBy_40 : decode cX3_weighBy 40 = .ok (.iastore, 1) := by decide +kernel
theorem dX3_weighBy_41 : decode cX3_weighBy 41 = .ok (.iinc 2 1, 3) := by decide +kernel
theorem dX3_weighBy_44 : decode cX3_weighBy 44 = .ok (.goto (-28), 3) := by decide +kernel
theorem dX3_weighBy_47 : decode cX3_weighBy 47 = .ok (.aload_n 1, 1) := by decide +kernel
theorem dX3_weighBy_48 : decode cX3_weighBy 48 = .ok (.getfield 42, 3) := by decide +kernel
theorem dX3_weighBy_51 : decode cX3_weighBy 51 = .ok (.ireturn, 1) := by decide +kernel
theorem dX3_addEyes_0 : decode cX3_addEyes 0 = .ok (.aload_n 0, 1) := by decide +kernel
theorem dX3_addEyes_1 : decode cX3_addEyes 1 = .ok (.getfield 32, 3) := by decide +kernel
theorem dX3_addEyes_4 : decode cX3_addEyes 4 = .ok (.bipush 6, 2) := by decide +kernel
theorem dX3_addEyes_6 : decode cX3_addEyes 6 = .ok (.if_icmp .lt 6, 3) := by decide +kernel
theorem dX3_addEyes_9 : decode cX3_addEyes 9 = .ok (.bipush (-5), 2) := by decide +kernel
theorem dX3_addEyes_11 : decode cX3_addEyes 11 = .ok (.ireturn, 1) := by decide +kernel
theorem dX3_addEyes_12 : decode cX3_addEyes 12 = .ok (.aload_n 0, 1) := by decide +kernel
theorem dX3_addEyes_13 : decode cX3_addEyes 13 = .ok (.getfield 23, 3) := by decide +kernel
theorem dX3_addEyes_16 : decode cX3_addEyes 16 = .ok (.aload_n 0, 1) := by decide +kernel
theorem dX3_addEyes_17 : decode cX3_addEyes 17 = .ok (.getfield 32, 3) := by decide +kernel
theorem dX3_addEyes_20 : decode cX3_addEyes 20 = .ok (.iload_n 1, 1) := by decide +kernel
theorem dX3_addEyes_21 : decode cX3_addEyes 21 = .ok (.iastore, 1) := by decide +kernel
theorem dX3_addEyes_22 : decode cX3_addEyes 22 = .ok (.aload_n 0, 1) := by decide +kernel
theorem dX3_addEyes_23 : decode cX3_addEyes 23 = .ok (.getfield 26, 3) := by decide +kernel
theorem dX3_addEyes_26 : decode cX3_addEyes 26 = .ok (.aload_n 0, 1) := by decide +kernel
theorem dX3_addEyes_27 : decode cX3_addEyes 27 = .ok (.getfield 32, 3) := by decide +kernel
theorem dX3_addEyes_30 : decode cX3_addEyes 30 = .ok (.iload_n 2, 1) := by decide +kernel
theorem dX3_addEyes_31 : decode cX3_addEyes 31 = .ok (.iastore, 1) := by decide +kernel
theorem dX3_addEyes_32 : decode cX3_addEyes 32 = .ok (.aload_n 0, 1) := by decide +kernel
theorem dX3_addEyes_33 : decode cX3_addEyes 33 = .ok (.getfield 29, 3) := by decide +kernel
theorem dX3_addEyes_36 : decode cX3_addEyes 36 = .ok (.aload_n 0, 1) := by decide +kernel
theorem dX3_addEyes_37 : decode cX3_addEyes 37 = .ok (.getfield 32, 3) := by decide +kernel
theorem dX3_addEyes_40 : decode cX3_addEyes 40 = .ok (.iload_n 3, 1) := by decide +kernel
theorem dX3_addEyes_41 : decode cX3_addEyes 41 = .ok (.iastore, 1) := by decide +kernel
theorem dX3_addEyes_42 : decode cX3_addEyes 42 = .ok (.aload_n 0, 1) := by decide +kernel
theorem dX3_addEyes_43 : decode cX3_addEyes 43 = .ok (.dup, 1) := by decide +kernel
theorem dX3_addEyes_44 : decode cX3_addEyes 44 = .ok (.getfield 32, 3) := by decide +kernel
theorem dX3_addEyes_47 : decode cX3_addEyes 47 = .ok (.iconst 1, 1) := by decide +kernel
theorem dX3_addEyes_48 : decode cX3_addEyes 48 = .ok (.iadd, 1) := by decide +kernel
theorem dX3_addEyes_49 : decode cX3_addEyes 49 = .ok (.putfield 32, 3) := by decide +kernel
theorem dX3_addEyes_52 : decode cX3_addEyes 52 = .ok (.aload_n 0, 1) := by decide +kernel
theorem dX3_addEyes_53 : decode cX3_addEyes 53 = .ok (.getfield 32, 3) := by decide +kernel
theorem dX3_addEyes_56 : decode cX3_addEyes 56 = .ok (.ireturn, 1) := by decide +kernel
theorem dX3_knows_0 : decode cX3_knows 0 = .ok (.iload_n 1, 1) := by decide +kernel
theorem dX3_knows_1 : decode cX3_knows 1 = .ok (.invokestatic 53, 3) := by decide +kernel
theorem dX3_knows_4 : decode cX3_knows 4 = .ok (.istore_n 3, 1) := by decide +kernel
theorem dX3_knows_5 : decode cX3_knows 5 = .ok (.iload_n 1, 1) := by decide +kernel
theorem dX3_knows_6 : decode cX3_knows 6 = .ok (.invokestatic 57, 3) := by decide +kernel
theorem dX3_knows_9 : decode cX3_knows 9 = .ok (.istore 4, 2) := by decide +kernel
theorem dX3_knows_11 : decode cX3_knows 11 = .ok (.iload_n 3, 1) := by decide +kernel
theorem dX3_knows_12 : decode cX3_knows 12 = .ok (.iload_n 2, 1) := by decide +kernel
theorem dX3_knows_13 : decode cX3_knows 13 = .ok (.if_icmp .le 5, 3) := by decide +kernel
theorem dX3_knows_16 : decode cX3_knows 16 = .ok (.iconst 0, 1) := by decide +kernel
theorem dX3_knows_17 : decode cX3_knows 17 = .ok (.ireturn, 1) := by decide +kernel
theorem dX3_knows_18 : decode cX3_knows 18 = .ok (.iconst 0, 1) := by decide +kernel
theorem dX3_knows_19 : decode cX3_knows 19 = .ok (.istore 5, 2) := by decide +kernel
theorem dX3_knows_21 : decode cX3_knows 21 = .ok (.iload 5, 2) := by decide +kernel
theorem dX3_knows_23 : decode cX3_knows 23 = .ok (.aload_n 0, 1) := by decide +kernel
theorem dX3_knows_24 : decode cX3_knows 24 = .ok (.getfield 32, 3) := by decide +kernel
theorem dX3_knows_27 : decode cX3_knows 27 = .ok (.if_icmp .ge 45, 3) := by decide +kernel
theorem dX3_knows_30 : decode cX3_knows 30 = .ok (.aload_n 0, 1) := by decide +kernel
theorem dX3_knows_31 : decode cX3_knows 31 = .ok (.getfield 23, 3) := by decide +kernel
theorem dX3_knows_34 : decode cX3_knows 34 = .ok (.iload 5, 2) := by decide +kernel
theorem dX3_knows_36 : decode cX3_knows 36 = .ok (.iaload, 1) := by decide +kernel
theorem dX3_knows_37 : decode cX3_knows 37 = .ok (.iload 4, 2) := by decide +kernel
theorem dX3_knows_39 : decode cX3_knows 39 = .ok (.if_icmp .ne 27, 3) := by decide +kernel
theorem dX3_knows_42 : decode cX3_knows 42 = .ok (.aload_n 0, 1) := by decide +kernel
theorem dX3_knows_43 : decode cX3_knows 43 = .ok (.getfield 26, 3) := by decide +kernel
theorem dX3_knows_46 : decode cX3_knows 46 = .ok (.iload 5, 2) := by decide +kernel
theorem dX3_knows_48 : decode cX3_knows 48 = .ok (.iaload, 1) := by decide +kernel
theorem dX3_knows_49 : decode cX3_knows 49 = .ok (.iload_n 3, 1) := by decide +kernel
theorem dX3_knows_50 : decode cX3_knows 50 = .ok (.if_icmp .gt 16, 3) := by decide +kernel
theorem dX3_knows_53 : decode cX3_knows 53 = .ok (.iload_n 3, 1) := by decide +kernel
theorem dX3_knows_54 : decode cX3_knows 54 = .ok (.aload_n 0, 1) := by decide +kernel
theorem dX3_knows_55 : decode cX3_knows 55 = .ok (.getfield 29, 3) := by decide +kernel
theorem dX3_knows_58 : decode cX3_knows 58 = .ok (.iload 5, 2) := by decide +kernel
theorem dX3_knows_60 : decode cX3_knows 60 = .ok (.iaload, 1) := by decide +kernel
theorem dX3_knows_61 : decode cX3_knows 61 = .ok (.if_icmp .gt 5, 3) := by decide +kernel
theorem dX3_knows_64 : decode cX3_knows 64 = .ok (.iconst 1, 1) := by decide +kernel
theorem dX3_knows_65 : decode cX3_knows 65 = .ok (.ireturn, 1) := by decide +kernel
theorem dX3_knows_66 : decode cX3_knows 66 = .ok (.iinc 5 1, 3) := by decide +kernel
theorem dX3_knows_69 : decode cX3_knows 69 = .ok (.goto (-48), 3) := by decide +kernel
theorem dX3_knows_72 : decode cX3_knows 72 = .ok (.iconst 0, 1) := by decide +kernel
theorem dX3_knows_73 : decode cX3_knows 73 = .ok (.ireturn, 1) := by decide +kernel
theorem dX4_init_0 : decode cX4_init 0 = .ok (.aload_n 0, 1) := by decide +kernel
theorem dX4_init_1 : decode cX4_init 1 = .ok (.invokespecial 3, 3) := by decide +kernel
theorem dX4_init_4 : decode cX4_init 4 = .ok (.aload_n 0, 1) := by decide +kernel
theorem dX4_init_5 : decode cX4_init 5 = .ok (.bipush 6, 2) := by decide +kernel
theorem dX4_init_7 : decode cX4_init 7 = .ok (.newarray .int, 2) := by decide +kernel
theorem dX4_init_9 : decode cX4_init 9 = .ok (.putfield 9, 3) := by decide +kernel
theorem dX4_init_12 : decode cX4_init 12 = .ok (.aload_n 0, 1) := by decide +kernel
theorem dX4_init_13 : decode cX4_init 13 = .ok (.bipush 10, 2) := by decide +kernel
theorem dX4_init_15 : decode cX4_init 15 = .ok (.newarray .int, 2) := by decide +kernel
theorem dX4_init_17 : decode cX4_init 17 = .ok (.putfield 15, 3) := by decide +kernel
theorem dX4_init_20 : decode cX4_init 20 = .ok (.aload_n 0, 1) := by decide +kernel
theorem dX4_init_21 : decode cX4_init 21 = .ok (.aload_n 1, 1) := by decide +kernel
theorem dX4_init_22 : decode cX4_init 22 = .ok (.putfield 18, 3) := by decide +kernel
theorem dX4_init_25 : decode cX4_init 25 = .ok (.aload_n 0, 1) := by decide +kernel
theorem dX4_init_26 : decode cX4_init 26 = .ok (.aload_n 2, 1) := by decide +kernel
theorem dX4_init_27 : decode cX4_init 27 = .ok (.putfield 22, 3) := by decide +kernel
theorem dX4_init_30 : decode cX4_init 30 = .ok (.return_, 1) := by decide +kernel
theorem dX4_gain_0 : decode cX4_gain 0 = .ok (.aload_n 2, 1) := by decide +kernel
theorem dX4_gain_1 : decode cX4_gain 1 = .ok (.iload_n 3, 1) := by decide +kernel
theorem dX4_gain_2 : decode cX4_gain 2 = .ok (.invokevirtual 26, 3) := by decide +kernel
theorem dX4_gain_5 : decode cX4_gain 5 = .ok (.istore 5, 2) := by decide +kernel
theorem dX4_gain_7 : decode cX4_gain 7 = .ok (.iload 5, 2) := by decide +kernel
theorem dX4_gain_9 : decode cX4_gain 9 = .ok (.iload 4, 2) := by decide +kernel
theorem dX4_gain_11 : decode cX4_gain 11 = .ok (.if_icmp .gt 18, 3) := by decide +kernel
theorem dX4_gain_14 : decode cX4_gain 14 = .ok (.aload_n 1, 1) := by decide +kernel
theorem dX4_gain_15 : decode cX4_gain 15 = .ok (.aload_n 2, 1) := by decide +kernel
theorem dX4_gain_16 : decode cX4_gain 16 = .ok (.getfield 32, 3) := by decide +kernel
theorem dX4_gain_19 : decode cX4_gain 19 = .ok (.iload_n 3, 1) := by decide +kernel
theorem dX4_gain_20 : decode cX4_gain 20 = .ok (.iaload, 1) := by decide +kernel
theorem dX4_gain_21 : decode cX4_gain 21 = .ok (.iload 4, 2) := by decide +kernel
theorem dX4_gain_23 : decode cX4_gain 23 = .ok (.invokevirtual 35, 3) := by decide +kernel
theorem dX4_gain_26 : decode cX4_gain 26 = .ok (.ifCond .ne 5, 3) := by decide +kernel
theorem dX4_gain_29 : decode cX4_gain 29 = .ok (.iconst 0, 1) := by decide +kernel
theorem dX4_gain_30 : decode cX4_gain 30 = .ok (.ireturn, 1) := by decide +kernel
theorem dX4_gain_31 : decode cX4_gain 31 = .ok (.aload_n 0, 1) := by decide +kernel
theorem dX4_gain_32 : decode cX4_gain 32 = .ok (.getfield 18, 3) := by decide +kernel
theorem dX4_gain_35 : decode cX4_gain 35 = .ok (.aload_n 2, 1) := by decide +kernel
theorem dX4_gain_36 : decode cX4_gain 36 = .ok (.getfield 32, 3) := by decide +kernel
theorem dX4_gain_39 : decode cX4_gain 39 = .ok (.iload_n 3, 1) := by decide +kernel
theorem dX4_gain_40 : decode cX4_gain 40 = .ok (.iaload, 1) := by decide +kernel
theorem dX4_gain_41 : decode cX4_gain 41 = .ok (.invokevirtual 41, 3) := by decide +kernel
theorem dX4_gain_44 : decode cX4_gain 44 = .ok (.aload_n 2, 1) := by decide +kernel
theorem dX4_gain_45 : decode cX4_gain 45 = .ok (.getfield 46, 3) := by decide +kernel
theorem dX4_gain_48 : decode cX4_gain 48 = .ok (.iload_n 3, 1) := by decide +kernel
theorem dX4_gain_49 : decode cX4_gain 49 = .ok (.iaload, 1) := by decide +kernel
theorem dX4_gain_50 : decode cX4_gain 50 = .ok (.if_icmp .eq 11, 3) := by decide +kernel
theorem dX4_gain_53 : decode cX4_gain 53 = .ok (.aload_n 1, 1) := by decide +kernel
theorem dX4_gain_54 : decode cX4_gain 54 = .ok (.getfield 49, 3) := by decide +kernel
theorem dX4_gain_57 : decode cX4_gain 57 = .ok (.iconst 2, 1) := by decide +kernel
theorem dX4_gain_58 : decode cX4_gain 58 = .ok (.iaload, 1) := by decide +kernel
theorem dX4_gain_59 : decode cX4_gain 59 = .ok (.ineg, 1) := by decide +kernel
theorem dX4_gain_60 : decode cX4_gain 60 = .ok (.ireturn, 1) := by decide +kernel
theorem dX4_gain_61 : decode cX4_gain 61 = .ok (.iconst 0, 1) := by decide +kernel
theorem dX4_gain_62 : decode cX4_gain 62 = .ok (.iload 5, 2) := by decide +kernel
theorem dX4_gain_64 : decode cX4_gain 64 = .ok (.aload_n 2, 1) := by decide +kernel
theorem dX4_gain_65 : decode cX4_gain 65 = .ok (.getfield 32, 3) := by decide +kernel
theorem dX4_gain_68 : decode cX4_gain 68 = .ok (.iload_n 3, 1) := by decide +kernel
theorem dX4_gain_69 : decode cX4_gain 69 = .ok (.iaload, 1) := by decide +kernel
theorem dX4_gain_70 : decode cX4_gain 70 = .ok (.invokestatic 52, 3) := by decide +kernel
theorem dX4_gain_73 : decode cX4_gain 73 = .ok (.isub, 1) := by decide +kernel
theorem dX4_gain_74 : decode cX4_gain 74 = .ok (.invokestatic 55, 3) := by decide +kernel
theorem dX4_gain_77 : decode cX4_gain 77 = .ok (.istore 6, 2) := by decide +kernel
theorem dX4_gain_79 : decode cX4_gain 79 = .ok (.iconst 0, 1) := by decide +kernel
theorem dX4_gain_80 : decode cX4_gain 80 = .ok (.aload_n 1, 1) := by decide +kernel
theorem dX4_gain_81 : decode cX4_gain 81 = .ok (.getfield 49, 3) := by decide +kernel
theorem dX4_gain_84 : decode cX4_gain 84 = .ok (.iconst 1, 1) := by decide +kernel
theorem dX4_gain_85 : decode cX4_gain 85 = .ok (.iaload, 1) := by decide +kernel
theorem dX4_gain_86 : decode cX4_gain 86 = .ok (.aload_n 1, 1) := by decide +kernel
theorem dX4_gain_87 : decode cX4_gain 87 = .ok (.getfield 49, 3) := by decide +kernel
theorem dX4_gain_90 : decode cX4_gain 90 = .ok (.iconst 3, 1) := by decide +kernel
theorem dX4_gain_91 : decode cX4_gain 91 = .ok (.iaload, 1) := by decide +kernel
theorem dX4_gain_92 : decode cX4_gain 92 = .ok (.iload 6, 2) := by decide +kernel
theorem dX4_gain_94 : decode cX4_gain 94 = .ok (.imul, 1) := by decide +kernel
theorem dX4_gain_95 : decode cX4_gain 95 = .ok (.isub, 1) := by decide +kernel
theorem dX4_gain_96 : decode cX4_gain 96 = .ok (.invokestatic 55, 3) := by decide +kernel
theorem dX4_gain_99 : decode cX4_gain 99 = .ok (.ireturn, 1) := by decide +kernel
theorem dX4_sumTrust_0 : decode cX4_sumTrust 0 = .ok (.iconst 0, 1) := by decide +kernel
theorem dX4_sumTrust_1 : decode cX4_sumTrust 1 = .ok (.istore_n 3, 1) := by decide +kernel
theorem dX4_sumTrust_2 : decode cX4_sumTrust 2 = .ok (.iload_n 3, 1) := by decide +kernel
theorem dX4_sumTrust_3 : decode cX4_sumTrust 3 = .ok (.bipush 6, 2) := by decide +kernel
theorem dX4_sumTrust_5 : decode cX4_sumTrust 5 = .ok (.if_icmp .ge 21, 3) := by decide +kernel
theorem dX4_sumTrust_8 : decode cX4_sumTrust 8 = .ok (.aload_n 0, 1) := by decide +kernel
theorem dX4_sumTrust_9 : decode cX4_sumTrust 9 = .ok (.getfield 9, 3) := by decide +kernel
theorem dX4_sumTrust_12 : decode cX4_sumTrust 12 = .ok (.iload_n 3, 1) := by decide +kernel
theorem dX4_sumTrust_13 : decode cX4_sumTrust 13 = .ok (.aload_n 1, 1) := by decide +kernel
theorem dX4_sumTrust_14 : decode cX4_sumTrust 14 = .ok (.getfield 49, 3) := by decide +kernel
theorem dX4_sumTrust_17 : decode cX4_sumTrust 17 = .ok (.iconst 0, 1) := by decide +kernel
theorem dX4_sumTrust_18 : decode cX4_sumTrust 18 = .ok (.iaload, 1) := by decide +kernel
theorem dX4_sumTrust_19 : decode cX4_sumTrust 19 = .ok (.iastore, 1) := by decide +kernel
theorem dX4_sumTrust_20 : decode cX4_sumTrust 20 = .ok (.iinc 3 1, 3) := by decide +kernel
theorem dX4_sumTrust_23 : decode cX4_sumTrust 23 = .ok (.goto (-21), 3) := by decide +kernel
theorem dX4_sumTrust_26 : decode cX4_sumTrust 26 = .ok (.iconst 0, 1) := by decide +kernel
theorem dX4_sumTrust_27 : decode cX4_sumTrust 27 = .ok (.istore_n 3, 1) := by decide +kernel
theorem dX4_sumTrust_28 : decode cX4_sumTrust 28 = .ok (.iload_n 3, 1) := by decide +kernel
theorem dX4_sumTrust_29 : decode cX4_sumTrust 29 = .ok (.aload_n 0, 1) := by decide +kernel
theorem dX4_sumTrust_30 : decode cX4_sumTrust 30 = .ok (.getfield 22, 3) := by decide +kernel
theorem dX4_sumTrust_33 : decode cX4_sumTrust 33 = .ok (.getfield 61, 3) := by decide +kernel
theorem dX4_sumTrust_36 : decode cX4_sumTrust 36 = .ok (.if_icmp .ge 37, 3) := by decide +kernel
theorem dX4_sumTrust_39 : decode cX4_sumTrust 39 = .ok (.aload_n 0, 1) := by decide +kernel
theorem dX4_sumTrust_40 : decode cX4_sumTrust 40 = .ok (.getfield 9, 3) := by decide +kernel
theorem dX4_sumTrust_43 : decode cX4_sumTrust 43 = .ok (.aload_n 0, 1) := by decide +kernel
theorem dX4_sumTrust_44 : decode cX4_sumTrust 44 = .ok (.getfield 22, 3) := by decide +kernel
theorem dX4_sumTrust_47 : decode cX4_sumTrust 47 = .ok (.getfield 65, 3) := by decide +kernel
theorem dX4_sumTrust_50 : decode cX4_sumTrust 50 = .ok (.iload_n 3, 1) := by decide +kernel
theorem dX4_sumTrust_51 : decode cX4_sumTrust 51 = .ok (.iaload, 1) := by decide +kernel
theorem dX4_sumTrust_52 : decode cX4_sumTrust 52 = .ok (.dup2, 1) := by decide +kernel
theorem dX4_sumTrust_53 : decode cX4_sumTrust 53 = .ok (.iaload, 1) := by decide +kernel
theorem dX4_sumTrust_54 : decode cX4_sumTrust 54 = .ok (.aload_n 0, 1) := by decide +kernel
theorem dX4_sumTrust_55 : decode cX4_sumTrust 55 = .ok (.aload_n 1, 1) := by decide +kernel
theorem dX4_sumTrust_56 : decode cX4_sumTrust 56 = .ok (.aload_n 0, 1) := by decide +kernel
theorem dX4_sumTrust_57 : decode cX4_sumTrust 57 = .ok (.getfield 22, 3) := by decide +kernel
theorem dX4_sumTrust_60 : decode cX4_sumTrust 60 = .ok (.iload_n 3, 1) := by decide +kernel
theorem dX4_sumTrust_61 : decode cX4_sumTrust 61 = .ok (.iload_n 2, 1) := by decide +kernel
theorem dX4_sumTrust_62 : decode cX4_sumTrust 62 = .ok (.invokevirtual 68, 3) := by decide +kernel
theorem dX4_sumTrust_65 : decode cX4_sumTrust 65 = .ok (.iadd, 1) := by decide +kernel
theorem dX4_sumTrust_66 : decode cX4_sumTrust 66 = .ok (.iastore, 1) := by decide +kernel
theorem dX4_sumTrust_67 : decode cX4_sumTrust 67 = .ok (.iinc 3 1, 3) := by decide +kernel
theorem dX4_sumTrust_70 : decode cX4_sumTrust 70 = .ok (.goto (-42), 3) := by decide +kernel
theorem dX4_sumTrust_73 : decode cX4_sumTrust 73 = .ok (.return_, 1) := by decide +kernel
theorem dX4_trustIn_0 : decode cX4_trustIn 0 = .ok (.aload_n 0, 1) := by decide +kernel
theorem dX4_trustIn_1 : decode cX4_trustIn 1 = .ok (.aload_n 1, 1) := by decide +kernel
theorem dX4_trustIn_2 : decode cX4_trustIn 2 = .ok (.iload_n 3, 1) := by decide +kernel
theorem dX4_trustIn_3 : decode cX4_trustIn 3 = .ok (.invokevirtual 72, 3) := by decide +kernel
theorem dX4_trustIn_6 : decode cX4_trustIn 6 = .ok (.aload_n 0, 1) := by decide +kernel
theorem dX4_trustIn_7 : decode cX4_trustIn 7 = .ok (.getfield 9, 3) := by decide +kernel
theorem dX4_trustIn_10 : decode cX4_trustIn 10 = .ok (.iload_n 2, 1) := by decide +kernel
theorem dX4_trustIn_11 : decode cX4_trustIn 11 = .ok (.iaload, 1) := by decide +kernel
theorem dX4_trustIn_12 : decode cX4_trustIn 12 = .ok (.invokestatic 76, 3) := by decide +kernel
theorem dX4_trustIn_15 : decode cX4_trustIn 15 = .ok (.ireturn, 1) := by decide +kernel
theorem dX4_bounded_0 : decode cX4_bounded 0 = .ok (.iconst 0, 1) := by decide +kernel
theorem dX4_bounded_1 : decode cX4_bounded 1 = .ok (.bipush 100, 2) := by decide +kernel
theorem dX4_bounded_3 : decode cX4_bounded 3 = .ok (.iload_n 0, 1) := by decide +kernel
theorem dX4_bounded_4 : decode cX4_bounded 4 = .ok (.invokestatic 79, 3) := by decide +kernel
theorem dX4_bounded_7 : decode cX4_bounded 7 = .ok (.invokestatic 55, 3) := by decide +kernel
theorem dX4_bounded_10 : decode cX4_bounded 10 = .ok (.ireturn, 1) := by decide +kernel
theorem dX4_gather_0 : decode cX4_gather 0 = .ok (.iconst 0, 1) := by decide +kernel
theorem dX4_gather_1 : decode cX4_gather 1 = .ok (.istore_n 3, 1) := by decide +kernel
theorem dX4_gather_2 : decode cX4_gather 2 = .ok (.iload_n 3, 1) := by decide +kernel
theorem dX4_gather_3 : decode cX4_gather 3 = .ok (.bipush 10, 2) := by decide +kernel
theorem dX4_gather_5 : decode cX4_gather 5 = .ok (.if_icmp .ge 16, 3) := by decide +kernel
theorem dX4_gather_8 : decode cX4_gather 8 = .ok (.aload_n 0, 1) := by decide +kernel
theorem dX4_gather_9 : decode cX4_gather 9 = .ok (.getfield 15, 3) := by decide +kernel
theorem dX4_gather_12 : decode cX4_gather 12 = .ok (.iload_n 3, 1) := by decide +kernel
theorem dX4_gather_13 : decode cX4_gather 13 = .ok (.iconst 0, 1) := by decide +kernel
theorem dX4_gather_14 : decode cX4_gather 14 = .ok (.iastore, 1) := by decide +kernel
theorem dX4_gather_15 : decode cX4_gather 15 = .ok (.iinc 3 1, 3) := by decide +kernel
theorem dX4_gather_18 : decode cX4_gather 18 = .ok (.goto (-16), 3) := by decide +kernel
theorem dX4_gather_21 : decode cX4_gather 21 = .ok (.iconst 0, 1) := by decide +kernel
theorem dX4_gather_22 : decode cX4_gather 22 = .ok (.istore_n 3, 1) := by decide +kernel
theorem dX4_gather_23 : decode cX4_gather 23 = .ok (.iload_n 3, 1) := by decide +kernel
theorem dX4_gather_24 : decode cX4_gather 24 = .ok (.aload_n 0, 1) := by decide +kernel
theorem dX4_gather_25 : decode cX4_gather 25 = .ok (.getfield 22, 3) := by decide +kernel
theorem dX4_gather_28 : decode cX4_gather 28 = .ok (.getfield 61, 3) := by decide +kernel
theorem dX4_gather_31 : decode cX4_gather 31 = .ok (.if_icmp .ge 62, 3) := by decide +kernel
theorem dX4_gather_34 : decode cX4_gather 34 = .ok (.aload_n 0, 1) := by decide +kernel
theorem dX4_gather_35 : decode cX4_gather 35 = .ok (.getfield 22, 3) := by decide +kernel
theorem dX4_gather_38 : decode cX4_gather 38 = .ok (.getfield 32, 3) := by decide +kernel
theorem dX4_gather_41 : decode cX4_gather 41 = .ok (.iload_n 3, 1) := by decide +kernel
theorem dX4_gather_42 : decode cX4_gather 42 = .ok (.iaload, 1) := by decide +kernel
theorem dX4_gather_43 : decode cX4_gather 43 = .ok (.iload_n 1, 1) := by decide +kernel
theorem dX4_gather_44 : decode cX4_gather 44 = .ok (.if_icmp .ne 43, 3) := by decide +kernel
theorem dX4_gather_47 : decode cX4_gather 47 = .ok (.aload_n 0, 1) := by decide +kernel
theorem dX4_gather_48 : decode cX4_gather 48 = .ok (.getfield 22, 3) := by decide +kernel
theorem dX4_gather_51 : decode cX4_gather 51 = .ok (.iload_n 3, 1) := by decide +kernel
theorem dX4_gather_52 : decode cX4_gather 52 = .ok (.invokevirtual 26, 3) := by decide +kernel
theorem dX4_gather_55 : decode cX4_gather 55 = .ok (.iload_n 2, 1) := by decide +kernel
theorem dX4_gather_56 : decode cX4_gather 56 = .ok (.if_icmp .gt 31, 3) := by decide +kernel
theorem dX4_gather_59 : decode cX4_gather 59 = .ok (.aload_n 0, 1) := by decide +kernel
theorem dX4_gather_60 : decode cX4_gather 60 = .ok (.getfield 15, 3) := by decide +kernel
theorem dX4_gather_63 : decode cX4_gather 63 = .ok (.aload_n 0, 1) := by decide +kernel
theorem dX4_gather_64 : decode cX4_gather 64 = .ok (.getfield 22, 3) := by decide +kernel
theorem dX4_gather_67 : decode cX4_gather 67 = .ok (.getfield 46, 3) := by decide +kernel
theorem dX4_gather_70 : decode cX4_gather 70 = .ok (.iload_n 3, 1) := by decide +kernel
theorem dX4_gather_71 : decode cX4_gather 71 = .ok (.iaload, 1) := by decide +kernel
theorem dX4_gather_72 : decode cX4_gather 72 = .ok (.dup2, 1) := by decide +kernel
theorem dX4_gather_73 : decode cX4_gather 73 = .ok (.iaload, 1) := by decide +kernel
theorem dX4_gather_74 : decode cX4_gather 74 = .ok (.iconst 1, 1) := by decide +kernel
theorem dX4_gather_75 : decode cX4_gather 75 = .ok (.aload_n 0, 1) := by decide +kernel
theorem dX4_gather_76 : decode cX4_gather 76 = .ok (.getfield 22, 3) := by decide +kernel
theorem dX4_gather_79 : decode cX4_gather 79 = .ok (.getfield 65, 3) := by decide +kernel
theorem dX4_gather_82 : decode cX4_gather 82 = .ok (.iload_n 3, 1) := by decide +kernel
theorem dX4_gather_83 : decode cX4_gather 83 = .ok (.iaload, 1) := by decide +kernel
theorem dX4_gather_84 : decode cX4_gather 84 = .ok (.ishl, 1) := by decide +kernel
theorem dX4_gather_85 : decode cX4_gather 85 = .ok (.ior, 1) := by decide +kernel
theorem dX4_gather_86 : decode cX4_gather 86 = .ok (.iastore, 1) := by decide +kernel
theorem dX4_gather_87 : decode cX4_gather 87 = .ok (.iinc 3 1, 3) := by decide +kernel
theorem dX4_gather_90 : decode cX4_gather 90 = .ok (.goto (-67), 3) := by decide +kernel
theorem dX4_gather_93 : decode cX4_gather 93 = .ok (.return_, 1) := by decide +kernel
theorem dX4_weigh_0 : decode cX4_weigh 0 = .ok (.aload_n 0, 1) := by decide +kernel
theorem dX4_weigh_1 : decode cX4_weigh 1 = .ok (.getfield 15, 3) := by decide +kernel
theorem dX4_weigh_4 : decode cX4_weigh 4 = .ok (.iload_n 2, 1) := by decide +kernel
theorem dX4_weigh_5 : decode cX4_weigh 5 = .ok (.iaload, 1) := by decide +kernel
theorem dX4_weigh_6 : decode cX4_weigh 6 = .ok (.ifCond .ne 5, 3) := by decide +kernel
theorem dX4_weigh_9 : decode cX4_weigh 9 = .ok (.iconst 0, 1) := by decide +kernel
theorem dX4_weigh_10 : decode cX4_weigh 10 = .ok (.ireturn, 1) := by decide +kernel
theorem dX4_weigh_11 : decode cX4_weigh 11 = .ok (.aload_n 1, 1) := by decide +kernel
theorem dX4_weigh_12 : decode cX4_weigh 12 = .ok (.getfield 49, 3) := by decide +kernel
theorem dX4_weigh_15 : decode cX4_weigh 15 = .ok (.iconst 4, 1) := by decide +kernel
theorem dX4_weigh_16 : decode cX4_weigh 16 = .ok (.iaload, 1) := by decide +kernel
theorem dX4_weigh_17 : decode cX4_weigh 17 = .ok (.aload_n 0, 1) := by decide +kernel
theorem dX4_weigh_18 : decode cX4_weigh 18 = .ok (.getfield 15, 3) := by decide +kernel
theorem dX4_weigh_21 : decode cX4_weigh 21 = .ok (.iload_n 2, 1) := by decide +kernel
theorem dX4_weigh_22 : decode cX4_weigh 22 = .ok (.iaload, 1) := by decide +kernel
theorem dX4_weigh_23 : decode cX4_weigh 23 = .ok (.invokestatic 82, 3) := by decide +kernel
theorem dX4_weigh_26 : decode cX4_weigh 26 = .ok (.iconst 1, 1) := by decide +kernel
theorem dX4_weigh_27 : decode cX4_weigh 27 = .ok (.isub, 1) := by decide +kernel
theorem dX4_weigh_28 : decode cX4_weigh 28 = .ok (.imul, 1) := by decide +kernel
theorem dX4_weigh_29 : decode cX4_weigh 29 = .ok (.istore_n 3, 1) := by decide +kernel
theorem dX4_weigh_30 : decode cX4_weigh 30 = .ok (.iconst 0, 1) := by decide +kernel
theorem dX4_weigh_31 : decode cX4_weigh 31 = .ok (.istore 4, 2) := by decide +kernel
theorem dX4_weigh_33 : decode cX4_weigh 33 = .ok (.iload 4, 2) := by decide +kernel
theorem dX4_weigh_35 : decode cX4_weigh 35 = .ok (.bipush 6, 2) := by decide +kernel
theorem dX4_weigh_37 : decode cX4_weigh 37 = .ok (.if_icmp .ge 36, 3) := by decide +kernel
theorem dX4_weigh_40 : decode cX4_weigh 40 = .ok (.aload_n 0, 1) := by decide +kernel
theorem dX4_weigh_41 : decode cX4_weigh 41 = .ok (.getfield 15, 3) := by decide +kernel
theorem dX4_weigh_44 : decode cX4_weigh 44 = .ok (.iload_n 2, 1) := by decide +kernel
theorem dX4_weigh_45 : decode cX4_weigh 45 = .ok (.iaload, 1) := by decide +kernel
theorem dX4_weigh_46 : decode cX4_weigh 46 = .ok (.iload 4, 2) := by decide +kernel
theorem dX4_weigh_48 : decode cX4_weigh 48 = .ok (.invokestatic 87, 3) := by decide +kernel
theorem dX4_weigh_51 : decode cX4_weigh 51 = .ok (.ifCond .eq 16, 3) := by decide +kernel
theorem dX4_weigh_54 : decode cX4_weigh 54 = .ok (.iload_n 3, 1) := by decide +kernel
theorem dX4_weigh_55 : decode cX4_weigh 55 = .ok (.aload_n 0, 1) := by decide +kernel
theorem dX4_weigh_56 : decode cX4_weigh 56 = .ok (.getfield 9, 3) := by decide +kernel
theorem dX4_weigh_59 : decode cX4_weigh 59 = .ok (.iload 4, 2) := by decide +kernel
theorem dX4_weigh_61 : decode cX4_weigh 61 = .ok (.iaload, 1) := by decide +kernel
theorem dX4_weigh_62 : decode cX4_weigh 62 = .ok (.invokestatic 76, 3) := by decide +kernel
theorem dX4_weigh_65 : decode cX4_weigh 65 = .ok (.iadd, 1) := by decide +kernel
theorem dX4_weigh_66 : decode cX4_weigh 66 = .ok (.istore_n 3, 1) := by decide +kernel
theorem dX4_weigh_67 : decode cX4_weigh 67 = .ok (.iinc 4 1, 3) := by decide +kernel
theorem dX4_weigh_70 : decode cX4_weigh 70 = .ok (.goto (-37), 3) := by decide +kernel
theorem dX4_weigh_73 : decode cX4_weigh 73 = .ok (.iload_n 3, 1) := by decide +kernel
theorem dX4_weigh_74 : decode cX4_weigh 74 = .ok (.ireturn, 1) := by decide +kernel
theorem dX4_heaviest_0 : decode cX4_heaviest 0 = .ok (.iconst (-1), 1) := by decide +kernel
theorem dX4_heaviest_1 : decode cX4_heaviest 1 = .ok (.istore_n 2, 1) := by decide +kernel
theorem dX4_heaviest_2 : decode cX4_heaviest 2 = .ok (.iconst (-1), 1) := by decide +kernel
theorem dX4_heaviest_3 : decode cX4_heaviest 3 = .ok (.istore_n 3, 1) := by decide +kernel
theorem dX4_heaviest_4 : decode cX4_heaviest 4 = .ok (.iconst 0, 1) := by decide +kernel
theorem dX4_heaviest_5 : decode cX4_heaviest 5 = .ok (.istore 4, 2) := by decide +kernel
theorem dX4_heaviest_7 : decode cX4_heaviest 7 = .ok (.iload 4, 2) := by decide +kernel
theorem dX4_heaviest_9 : decode cX4_heaviest 9 = .ok (.bipush 10, 2) := by decide +kernel
theorem dX4_heaviest_11 : decode cX4_heaviest 11 = .ok (.if_icmp .ge 40, 3) := by decide +kernel
theorem dX4_heaviest_14 : decode cX4_heaviest 14 = .ok (.aload_n 0, 1) := by decide +kernel
theorem dX4_heaviest_15 : decode cX4_heaviest 15 = .ok (.getfield 15, 3) := by decide +kernel
theorem dX4_heaviest_18 : decode cX4_heaviest 18 = .ok (.iload 4, 2) := by decide +kernel
theorem dX4_heaviest_20 : decode cX4_heaviest 20 = .ok (.iaload, 1) := by decide +kernel
theorem dX4_heaviest_21 : decode cX4_heaviest 21 = .ok (.ifCond .eq 24, 3) := by decide +kernel
theorem dX4_heaviest_24 : decode cX4_heaviest 24 = .ok (.aload_n 0, 1) := by decide +kernel
theorem dX4_heaviest_25 : decode cX4_heaviest 25 = .ok (.aload_n 1, 1) := by decide +kernel
theorem dX4_heaviest_26 : decode cX4_heaviest 26 = .ok (.iload 4, 2) := by decide +kernel
theorem dX4_heaviest_28 : decode cX4_heaviest 28 = .ok (.invokevirtual 90, 3) := by decide +kernel
theorem dX4_heaviest_31 : decode cX4_heaviest 31 = .ok (.istore 5, 2) := by decide +kernel
theorem dX4_heaviest_33 : decode cX4_heaviest 33 = .ok (.iload 5, 2) := by decide +kernel
theorem dX4_heaviest_35 : decode cX4_heaviest 35 = .ok (.iload_n 3, 1) := by decide +kernel
theorem dX4_heaviest_36 : decode cX4_heaviest 36 = .ok (.if_icmp .le 9, 3) := by decide +kernel
theorem dX4_heaviest_39 : decode cX4_heaviest 39 = .ok (.iload 5, 2) := by decide +kernel
theorem dX4_heaviest_41 : decode cX4_heaviest 41 = .ok (.istore_n 3, 1) := by decide +kernel
theorem dX4_heaviest_42 : decode cX4_heaviest 42 = .ok (.iload 4, 2) := by decide +kernel
theorem dX4_heaviest_44 : decode cX4_heaviest 44 = .ok (.istore_n 2, 1) := by decide +kernel
theorem dX4_heaviest_45 : decode cX4_heaviest 45 = .ok (.iinc 4 1, 3) := by decide +kernel
theorem dX4_heaviest_48 : decode cX4_heaviest 48 = .ok (.goto (-41), 3) := by decide +kernel
theorem dX4_heaviest_51 : decode cX4_heaviest 51 = .ok (.iload_n 3, 1) := by decide +kernel
theorem dX4_heaviest_52 : decode cX4_heaviest 52 = .ok (.aload_n 1, 1) := by decide +kernel
theorem dX4_heaviest_53 : decode cX4_heaviest 53 = .ok (.getfield 49, 3) := by decide +kernel
theorem dX4_heaviest_56 : decode cX4_heaviest 56 = .ok (.iconst 5, 1) := by decide +kernel
theorem dX4_heaviest_57 : decode cX4_heaviest 57 = .ok (.iaload, 1) := by decide +kernel
theorem dX4_heaviest_58 : decode cX4_heaviest 58 = .ok (.if_icmp .lt 7, 3) := by decide +kernel
theorem dX4_heaviest_61 : decode cX4_heaviest 61 = .ok (.iload_n 2, 1) := by decide +kernel
theorem dX4_heaviest_62 : decode cX4_heaviest 62 = .ok (.goto 4, 3) := by decide +kernel
theorem dX4_heaviest_65 : decode cX4_heaviest 65 = .ok (.iconst (-1), 1) := by decide +kernel
theorem dX4_heaviest_66 : decode cX4_heaviest 66 = .ok (.ireturn, 1) := by decide +kernel
theorem dX4_conclude_0 : decode cX4_conclude 0 = .ok (.aload_n 0, 1) := by decide +kernel
theorem dX4_conclude_1 : decode cX4_conclude 1 = .ok (.aload_n 1, 1) := by decide +kernel
theorem dX4_conclude_2 : decode cX4_conclude 2 = .ok (.iload_n 3, 1) := by decide +kernel
theorem dX4_conclude_3 : decode cX4_conclude 3 = .ok (.invokevirtual 72, 3) := by decide +kernel
theorem dX4_conclude_6 : decode cX4_conclude 6 = .ok (.aload_n 0, 1) := by decide +kernel
theorem dX4_conclude_7 : decode cX4_conclude 7 = .ok (.aload_n 1, 1) := by decide +kernel
theorem dX4_conclude_8 : decode cX4_conclude 8 = .ok (.iload_n 2, 1) := by decide +kernel
theorem dX4_conclude_9 : decode cX4_conclude 9 = .ok (.iload_n 3, 1) := by decide +kernel
theorem dX4_conclude_10 : decode cX4_conclude 10 = .ok (.invokevirtual 94, 3) := by decide +kernel
theorem dX4_conclude_13 : decode cX4_conclude 13 = .ok (.ireturn, 1) := by decide +kernel
theorem dX4_judge_0 : decode cX4_judge 0 = .ok (.aload_n 1, 1) := by decide +kernel
theorem dX4_judge_1 : decode cX4_judge 1 = .ok (.iload_n 2, 1) := by decide +kernel
theorem dX4_judge_2 : decode cX4_judge 2 = .ok (.iload_n 3, 1) := by decide +kernel
theorem dX4_judge_3 : decode cX4_judge 3 = .ok (.invokevirtual 35, 3) := by decide +kernel
theorem dX4_judge_6 : decode cX4_judge 6 = .ok (.ifCond .eq 12, 3) := by decide +kernel
theorem dX4_judge_9 : decode cX4_judge 9 = .ok (.aload_n 0, 1) := by decide +kernel
theorem dX4_judge_10 : decode cX4_judge 10 = .ok (.getfield 18, 3) := by decide +kernel
theorem dX4_judge_13 : decode cX4_judge 13 = .ok (.iload_n 2, 1) := by decide +kernel
theorem dX4_judge_14 : decode cX4_judge 14 = .ok (.invokevirtual 41, 3) := by decide +kernel
theorem dX4_judge_17 : decode cX4_judge 17 = .ok (.ireturn, 1) := by decide +kernel
theorem dX4_judge_18 : decode cX4_judge 18 = .ok (.aload_n 0, 1) := by decide +kernel
theorem dX4_judge_19 : decode cX4_judge 19 = .ok (.iload_n 2, 1) := by decide +kernel
theorem dX4_judge_20 : decode cX4_judge 20 = .ok (.iload_n 3, 1) := by decide +kernel
theorem dX4_judge_21 : decode cX4_judge 21 = .ok (.invokevirtual 98, 3) := by decide +kernel
theorem dX4_judge_24 : decode cX4_judge 24 = .ok (.aload_n 0, 1) := by decide +kernel
theorem dX4_judge_25 : decode cX4_judge 25 = .ok (.aload_n 1, 1) := by decide +kernel
theorem dX4_judge_26 : decode cX4_judge 26 = .ok (.invokevirtual 102, 3) := by decide +kernel
theorem dX4_judge_29 : decode cX4_judge 29 = .ok (.ireturn, 1) := by decide +kernel
theorem dX4_heldLines_0 : decode cX4_heldLines 0 = .ok (.aload_n 0, 1) := by decide +kernel
theorem dX4_heldLines_1 : decode cX4_heldLines 1 = .ok (.aload_n 1, 1) := by decide +kernel
theorem dX4_heldLines_2 : decode cX4_heldLines 2 = .ok (.iload_n 3, 1) := by decide +kernel
theorem dX4_heldLines_3 : decode cX4_heldLines 3 = .ok (.invokevirtual 72, 3) := by decide +kernel
theorem dX4_heldLines_6 : decode cX4_heldLines 6 = .ok (.iconst 0, 1) := by decide +kernel
theorem dX4_heldLines_7 : decode cX4_heldLines 7 = .ok (.istore 4, 2) := by decide +kernel
theorem dX4_heldLines_9 : decode cX4_heldLines 9 = .ok (.iconst 0, 1) := by decide +kernel
theorem dX4_heldLines_10 : decode cX4_heldLines 10 = .ok (.istore 5, 2) := by decide +kernel
theorem dX4_heldLines_12 : decode cX4_heldLines 12 = .ok (.iload 5, 2) := by decide +kernel
theorem dX4_heldLines_14 : decode cX4_heldLines 14 = .ok (.aload_n 2, 1) := by decide +kernel
theorem dX4_heldLines_15 : decode cX4_heldLines 15 = .ok (.getfield 106, 3) := by decide +kernel
theorem dX4_heldLines_18 : decode cX4_heldLines 18 = .ok (.if_icmp .ge 41, 3) := by decide +kernel
theorem dX4_heldLines_21 : decode cX4_heldLines 21 = .ok (.aload_n 0, 1) := by decide +kernel
theorem dX4_heldLines_22 : decode cX4_heldLines 22 = .ok (.aload_n 1, 1) := by decide +kernel
theorem dX4_heldLines_23 : decode cX4_heldLines 23 = .ok (.aload_n 2, 1) := by decide +kernel
theorem dX4_heldLines_24 : decode cX4_heldLines 24 = .ok (.getfield 109, 3) := by decide +kernel
theorem dX4_heldLines_27 : decode cX4_heldLines 27 = .ok (.iload 5, 2) := by decide +kernel
theorem dX4_heldLines_29 : decode cX4_heldLines 29 = .ok (.iaload, 1) := by decide +kernel
theorem dX4_heldLines_30 : decode cX4_heldLines 30 = .ok (.iload_n 3, 1) := by decide +kernel
theorem dX4_heldLines_31 : decode cX4_heldLines 31 = .ok (.invokevirtual 94, 3) := by decide +kernel
theorem dX4_heldLines_34 : decode cX4_heldLines 34 = .ok (.aload_n 2, 1) := by decide +kernel
theorem dX4_heldLines_35 : decode cX4_heldLines 35 = .ok (.getfield 110, 3) := by decide +kernel
theorem dX4_heldLines_38 : decode cX4_heldLines 38 = .ok (.iload 5, 2) := by decide +kernel
theorem dX4_heldLines_40 : decode cX4_heldLines 40 = .ok (.iaload, 1) := by decide +kernel
theorem dX4_heldLines_41 : decode cX4_heldLines 41 = .ok (.if_icmp .ne 12, 3) := by decide +kernel
theorem dX4_heldLines_44 : decode cX4_heldLines 44 = .ok (.iload 4, 2) := by decide +kernel
theorem dX4_heldLines_46 : decode cX4_heldLines 46 = .ok (.iconst 1, 1) := by decide +kernel
theorem dX4_heldLines_47 : decode cX4_heldLines 47 = .ok (.iload 5, 2) := by decide +kernel
theorem dX4_heldLines_49 : decode cX4_heldLines 49 = .ok (.ishl, 1) := by decide +kernel
theorem dX4_heldLines_50 : decode cX4_heldLines 50 = .ok (.ior, 1) := by decide +kernel
theorem dX4_heldLines_51 : decode cX4_heldLines 51 = .ok (.istore 4, 2) := by decide +kernel
theorem dX4_heldLines_53 : decode cX4_heldLines 53 = .ok (.iinc 5 1, 3) := by decide +kernel
theorem dX4_heldLines_56 : decode cX4_heldLines 56 = .ok (.goto (-44), 3) := by decide +kernel
theorem dX4_heldLines_59 : decode cX4_heldLines 59 = .ok (.iload 4, 2) := by decide +kernel
theorem dX4_heldLines_61 : decode cX4_heldLines 61 = .ok (.ireturn, 1) := by decide +kernel
theorem dX5_init_0 : decode cX5_init 0 = .ok (.aload_n 0, 1) := by decide +kernel
theorem dX5_init_1 : decode cX5_init 1 = .ok (.invokespecial 3, 3) := by decide +kernel
theorem dX5_init_4 : decode cX5_init 4 = .ok (.aload_n 0, 1) := by decide +kernel
theorem dX5_init_5 : decode cX5_init 5 = .ok (.bipush 12, 2) := by decide +kernel
theorem dX5_init_7 : decode cX5_init 7 = .ok (.newarray .int, 2) := by decide +kernel
theorem dX5_init_9 : decode cX5_init 9 = .ok (.putfield 9, 3) := by decide +kernel
theorem dX5_init_12 : decode cX5_init 12 = .ok (.aload_n 0, 1) := by decide +kernel
theorem dX5_init_13 : decode cX5_init 13 = .ok (.bipush 12, 2) := by decide +kernel
theorem dX5_init_15 : decode cX5_init 15 = .ok (.newarray .int, 2) := by decide +kernel
theorem dX5_init_17 : decode cX5_init 17 = .ok (.putfield 15, 3) := by decide +kernel
theorem dX5_init_20 : decode cX5_init 20 = .ok (.aload_n 0, 1) := by decide +kernel
theorem dX5_init_21 : decode cX5_init 21 = .ok (.bipush 12, 2) := by decide +kernel
theorem dX5_init_23 : decode cX5_init 23 = .ok (.newarray .int, 2) := by decide +kernel
theorem dX5_init_25 : decode cX5_init 25 = .ok (.putfield 18, 3) := by decide +kernel
theorem dX5_init_28 : decode cX5_init 28 = .ok (.aload_n 0, 1) := by decide +kernel
theorem dX5_init_29 : decode cX5_init 29 = .ok (.iconst 0, 1) := by decide +kernel
theorem dX5_init_30 : decode cX5_init 30 = .ok (.putfield 21, 3) := by decide +kernel
theorem dX5_init_33 : decode cX5_init 33 = .ok (.return_, 1) := by decide +kernel
theorem dX5_addQuestion_0 : decode cX5_addQuestion 0 = .ok (.aload_n 0, 1) := by decide +kernel
theorem dX5_addQuestion_1 : decode cX5_addQuestion 1 = .ok (.iload_n 1, 1) := by decide +kernel
theorem dX5_addQuestion_2 : decode cX5_addQuestion 2 = .ok (.iload_n 2, 1) := by decide +kernel
theorem dX5_addQuestion_3 : decode cX5_addQuestion 3 = .ok (.iconst (-1), 1) := by decide +kernel
theorem dX5_addQuestion_4 : decode cX5_addQuestion 4 = .ok (.invokevirtual 25, 3) := by decide +kernel
theorem dX5_addQuestion_7 : decode cX5_addQuestion 7 = .ok (.ireturn, 1) := by decide +kernel
theorem dX5_addPay_0 : decode cX5_addPay 0 = .ok (.aload_n 0, 1) := by decide +kernel
theorem dX5_addPay_1 : decode cX5_addPay 1 = .ok (.iload_n 1, 1) := by decide +kernel
theorem dX5_addPay_2 : decode cX5_addPay 2 = .ok (.iconst 0, 1) := by decide +kernel
theorem dX5_addPay_3 : decode cX5_addPay 3 = .ok (.iload_n 2, 1) := by decide +kernel
theorem dX5_addPay_4 : decode cX5_addPay 4 = .ok (.invokevirtual 25, 3) := by decide +kernel
theorem dX5_addPay_7 : decode cX5_addPay 7 = .ok (.ireturn, 1) := by decide +kernel
theorem dX5_add_0 : decode cX5_add 0 = .ok (.aload_n 0, 1) := by decide +kernel
theorem dX5_add_1 : decode cX5_add 1 = .ok (.getfield 21, 3) := by decide +kernel
theorem dX5_add_4 : decode cX5_add 4 = .ok (.bipush 12, 2) := by decide +kernel
theorem dX5_add_6 : decode cX5_add 6 = .ok (.if_icmp .lt 6, 3) := by decide +kernel
theorem dX5_add_9 : decode cX5_add 9 = .ok (.bipush (-5), 2) := by decide +kernel
theorem dX5_add_11 : decode cX5_add 11 = .ok (.ireturn, 1) := by decide +kernel
theorem dX5_add_12 : decode cX5_add 12 = .ok (.aload_n 0, 1) := by decide +kernel
theorem dX5_add_13 : decode cX5_add 13 = .ok (.getfield 9, 3) := by decide +kernel
theorem dX5_add_16 : decode cX5_add 16 = .ok (.aload_n 0, 1) := by decide +kernel
theorem dX5_add_17 : decode cX5_add 17 = .ok (.getfield 21, 3) := by decide +kernel
theorem dX5_add_20 : decode cX5_add 20 = .ok (.iload_n 1, 1) := by decide +kernel
theorem dX5_add_21 : decode cX5_add 21 = .ok (.iastore, 1) := by decide +kernel
theorem dX5_add_22 : decode cX5_add 22 = .ok (.aload_n 0, 1) := by decide +kernel
theorem dX5_add_23 : decode cX5_add 23 = .ok (.getfield 15, 3) := by decide +kernel
theorem dX5_add_26 : decode cX5_add 26 = .ok (.aload_n 0, 1) := by decide +kernel
theorem dX5_add_27 : decode cX5_add 27 = .ok (.getfield 21, 3) := by decide +kernel
theorem dX5_add_30 : decode cX5_add 30 = .ok (.iload_n 2, 1) := by decide +kernel
theorem dX5_add_31 : decode cX5_add 31 = .ok (.iastore, 1) := by decide +kernel
theorem dX5_add_32 : decode cX5_add 32 = .ok (.aload_n 0, 1) := by decide +kernel
theorem dX5_add_33 : decode cX5_add 33 = .ok (.getfield 18, 3) := by decide +kernel
theorem dX5_add_36 : decode cX5_add 36 = .ok (.aload_n 0, 1) := by decide +kernel
theorem dX5_add_37 : decode cX5_add 37 = .ok (.getfield 21, 3) := by decide +kernel
theorem dX5_add_40 : decode cX5_add 40 = .ok (.iload_n 3, 1) := by decide +kernel
theorem dX5_add_41 : decode cX5_add 41 = .ok (.iastore, 1) := by decide +kernel
