theorem dX9_lacks_39 : decode cX9_lacks 39 = .ok (.getfield 41, 3) := by decide +kernel
theorem dX9_lacks_42 : decode cX9_lacks 42 = .ok (.iload_n 1, 1) := by decide +kernel
theorem dX9_lacks_43 : decode cX9_lacks 43 = .ok (.aaload, 1) := by decide +kernel
theorem dX9_lacks_44 : decode cX9_lacks 44 = .ok (.iload_n 2, 1) := by decide +kernel
theorem dX9_lacks_45 : decode cX9_lacks 45 = .ok (.invokevirtual 192, 3) := by decide +kernel
theorem dX9_lacks_48 : decode cX9_lacks 48 = .ok (.ifCond .eq 30, 3) := by decide +kernel
theorem dX9_lacks_51 : decode cX9_lacks 51 = .ok (.aload_n 0, 1) := by decide +kernel
theorem dX9_lacks_52 : decode cX9_lacks 52 = .ok (.getfield 55, 3) := by decide +kernel
theorem dX9_lacks_55 : decode cX9_lacks 55 = .ok (.aload_n 0, 1) := by decide +kernel
theorem dX9_lacks_56 : decode cX9_lacks 56 = .ok (.getfield 37, 3) := by decide +kernel
theorem dX9_lacks_59 : decode cX9_lacks 59 = .ok (.iload 5, 2) := by decide +kernel
theorem dX9_lacks_61 : decode cX9_lacks 61 = .ok (.iload_n 1, 1) := by decide +kernel
theorem dX9_lacks_62 : decode cX9_lacks 62 = .ok (.iload_n 2, 1) := by decide +kernel
theorem dX9_lacks_63 : decode cX9_lacks 63 = .ok (.invokevirtual 196, 3) := by decide +kernel
theorem dX9_lacks_66 : decode cX9_lacks 66 = .ok (.ifCond .ne 12, 3) := by decide +kernel
theorem dX9_lacks_69 : decode cX9_lacks 69 = .ok (.iload 4, 2) := by decide +kernel
theorem dX9_lacks_71 : decode cX9_lacks 71 = .ok (.iconst 1, 1) := by decide +kernel
theorem dX9_lacks_72 : decode cX9_lacks 72 = .ok (.iload 5, 2) := by decide +kernel
theorem dX9_lacks_74 : decode cX9_lacks 74 = .ok (.ishl, 1) := by decide +kernel
theorem dX9_lacks_75 : decode cX9_lacks 75 = .ok (.ior, 1) := by decide +kernel
theorem dX9_lacks_76 : decode cX9_lacks 76 = .ok (.istore 4, 2) := by decide +kernel
theorem dX9_lacks_78 : decode cX9_lacks 78 = .ok (.iinc 5 1, 3) := by decide +kernel
theorem dX9_lacks_81 : decode cX9_lacks 81 = .ok (.goto (-61), 3) := by decide +kernel
theorem dX9_lacks_84 : decode cX9_lacks 84 = .ok (.iload 4, 2) := by decide +kernel
theorem dX9_lacks_86 : decode cX9_lacks 86 = .ok (.ireturn, 1) := by decide +kernel
theorem dX9_ill_0 : decode cX9_ill 0 = .ok (.iload_n 1, 1) := by decide +kernel
theorem dX9_ill_1 : decode cX9_ill 1 = .ok (.bipush 6, 2) := by decide +kernel
theorem dX9_ill_3 : decode cX9_ill 3 = .ok (.invokestatic 93, 3) := by decide +kernel
theorem dX9_ill_6 : decode cX9_ill 6 = .ok (.ifCond .ne 6, 3) := by decide +kernel
theorem dX9_ill_9 : decode cX9_ill 9 = .ok (.bipush (-2), 2) := by decide +kernel
theorem dX9_ill_11 : decode cX9_ill 11 = .ok (.ireturn, 1) := by decide +kernel
theorem dX9_ill_12 : decode cX9_ill 12 = .ok (.iconst 0, 1) := by decide +kernel
theorem dX9_ill_13 : decode cX9_ill 13 = .ok (.istore_n 2, 1) := by decide +kernel
theorem dX9_ill_14 : decode cX9_ill 14 = .ok (.iload_n 2, 1) := by decide +kernel
theorem dX9_ill_15 : decode cX9_ill 15 = .ok (.bipush 60, 2) := by decide +kernel
theorem dX9_ill_17 : decode cX9_ill 17 = .ok (.if_icmp .gt 28, 3) := by decide +kernel
theorem dX9_ill_20 : decode cX9_ill 20 = .ok (.aload_n 0, 1) := by decide +kernel
theorem dX9_ill_21 : decode cX9_ill 21 = .ok (.getfield 37, 3) := by decide +kernel
theorem dX9_ill_24 : decode cX9_ill 24 = .ok (.aload_n 0, 1) := by decide +kernel
theorem dX9_ill_25 : decode cX9_ill 25 = .ok (.getfield 41, 3) := by decide +kernel
theorem dX9_ill_28 : decode cX9_ill 28 = .ok (.iload_n 1, 1) := by decide +kernel
theorem dX9_ill_29 : decode cX9_ill 29 = .ok (.aaload, 1) := by decide +kernel
theorem dX9_ill_30 : decode cX9_ill 30 = .ok (.iload_n 2, 1) := by decide +kernel
theorem dX9_ill_31 : decode cX9_ill 31 = .ok (.invokevirtual 200, 3) := by decide +kernel
theorem dX9_ill_34 : decode cX9_ill 34 = .ok (.ifCond .eq 5, 3) := by decide +kernel
theorem dX9_ill_37 : decode cX9_ill 37 = .ok (.iload_n 2, 1) := by decide +kernel
theorem dX9_ill_38 : decode cX9_ill 38 = .ok (.ireturn, 1) := by decide +kernel
theorem dX9_ill_39 : decode cX9_ill 39 = .ok (.iinc 2 1, 3) := by decide +kernel
theorem dX9_ill_42 : decode cX9_ill 42 = .ok (.goto (-28), 3) := by decide +kernel
theorem dX9_ill_45 : decode cX9_ill 45 = .ok (.iconst (-1), 1) := by decide +kernel
theorem dX9_ill_46 : decode cX9_ill 46 = .ok (.ireturn, 1) := by decide +kernel
theorem dX9_eyes_0 : decode cX9_eyes 0 = .ok (.iload_n 1, 1) := by decide +kernel
theorem dX9_eyes_1 : decode cX9_eyes 1 = .ok (.iconst 2, 1) := by decide +kernel
theorem dX9_eyes_2 : decode cX9_eyes 2 = .ok (.invokestatic 93, 3) := by decide +kernel
theorem dX9_eyes_5 : decode cX9_eyes 5 = .ok (.ifCond .eq 12, 3) := by decide +kernel
theorem dX9_eyes_8 : decode cX9_eyes 8 = .ok (.iload_n 2, 1) := by decide +kernel
theorem dX9_eyes_9 : decode cX9_eyes 9 = .ok (.bipush 8, 2) := by decide +kernel
theorem dX9_eyes_11 : decode cX9_eyes 11 = .ok (.invokestatic 93, 3) := by decide +kernel
theorem dX9_eyes_14 : decode cX9_eyes 14 = .ok (.ifCond .ne 6, 3) := by decide +kernel
theorem dX9_eyes_17 : decode cX9_eyes 17 = .ok (.bipush (-2), 2) := by decide +kernel
theorem dX9_eyes_19 : decode cX9_eyes 19 = .ok (.ireturn, 1) := by decide +kernel
theorem dX9_eyes_20 : decode cX9_eyes 20 = .ok (.iload_n 3, 1) := by decide +kernel
theorem dX9_eyes_21 : decode cX9_eyes 21 = .ok (.iload 4, 2) := by decide +kernel
theorem dX9_eyes_23 : decode cX9_eyes 23 = .ok (.invokestatic 100, 3) := by decide +kernel
theorem dX9_eyes_26 : decode cX9_eyes 26 = .ok (.ifCond .ne 6, 3) := by decide +kernel
theorem dX9_eyes_29 : decode cX9_eyes 29 = .ok (.bipush (-3), 2) := by decide +kernel
theorem dX9_eyes_31 : decode cX9_eyes 31 = .ok (.ireturn, 1) := by decide +kernel
theorem dX9_eyes_32 : decode cX9_eyes 32 = .ok (.aload_n 0, 1) := by decide +kernel
theorem dX9_eyes_33 : decode cX9_eyes 33 = .ok (.getfield 62, 3) := by decide +kernel
theorem dX9_eyes_36 : decode cX9_eyes 36 = .ok (.iload_n 1, 1) := by decide +kernel
theorem dX9_eyes_37 : decode cX9_eyes 37 = .ok (.aaload, 1) := by decide +kernel
theorem dX9_eyes_38 : decode cX9_eyes 38 = .ok (.iload_n 2, 1) := by decide +kernel
theorem dX9_eyes_39 : decode cX9_eyes 39 = .ok (.iload_n 3, 1) := by decide +kernel
theorem dX9_eyes_40 : decode cX9_eyes 40 = .ok (.iload 4, 2) := by decide +kernel
theorem dX9_eyes_42 : decode cX9_eyes 42 = .ok (.invokevirtual 204, 3) := by decide +kernel
theorem dX9_eyes_45 : decode cX9_eyes 45 = .ok (.ireturn, 1) := by decide +kernel
theorem dX9_told_0 : decode cX9_told 0 = .ok (.iload_n 1, 1) := by decide +kernel
theorem dX9_told_1 : decode cX9_told 1 = .ok (.iconst 2, 1) := by decide +kernel
theorem dX9_told_2 : decode cX9_told 2 = .ok (.invokestatic 93, 3) := by decide +kernel
theorem dX9_told_5 : decode cX9_told 5 = .ok (.ifCond .ne 6, 3) := by decide +kernel
theorem dX9_told_8 : decode cX9_told 8 = .ok (.bipush (-2), 2) := by decide +kernel
theorem dX9_told_10 : decode cX9_told 10 = .ok (.ireturn, 1) := by decide +kernel
theorem dX9_told_11 : decode cX9_told 11 = .ok (.iload_n 2, 1) := by decide +kernel
theorem dX9_told_12 : decode cX9_told 12 = .ok (.bipush 6, 2) := by decide +kernel
theorem dX9_told_14 : decode cX9_told 14 = .ok (.invokestatic 93, 3) := by decide +kernel
theorem dX9_told_17 : decode cX9_told 17 = .ok (.ifCond .eq 17, 3) := by decide +kernel
theorem dX9_told_20 : decode cX9_told 20 = .ok (.aload_n 0, 1) := by decide +kernel
theorem dX9_told_21 : decode cX9_told 21 = .ok (.getfield 62, 3) := by decide +kernel
theorem dX9_told_24 : decode cX9_told 24 = .ok (.iload_n 1, 1) := by decide +kernel
theorem dX9_told_25 : decode cX9_told 25 = .ok (.aaload, 1) := by decide +kernel
theorem dX9_told_26 : decode cX9_told 26 = .ok (.getfield 207, 3) := by decide +kernel
theorem dX9_told_29 : decode cX9_told 29 = .ok (.iload_n 2, 1) := by decide +kernel
theorem dX9_told_30 : decode cX9_told 30 = .ok (.iaload, 1) := by decide +kernel
theorem dX9_told_31 : decode cX9_told 31 = .ok (.goto 5, 3) := by decide +kernel
theorem dX9_told_34 : decode cX9_told 34 = .ok (.bipush (-3), 2) := by decide +kernel
theorem dX9_told_36 : decode cX9_told 36 = .ok (.ireturn, 1) := by decide +kernel
theorem dX9_trust_0 : decode cX9_trust 0 = .ok (.iload_n 1, 1) := by decide +kernel
theorem dX9_trust_1 : decode cX9_trust 1 = .ok (.iconst 2, 1) := by decide +kernel
theorem dX9_trust_2 : decode cX9_trust 2 = .ok (.invokestatic 93, 3) := by decide +kernel
theorem dX9_trust_5 : decode cX9_trust 5 = .ok (.ifCond .eq 12, 3) := by decide +kernel
theorem dX9_trust_8 : decode cX9_trust 8 = .ok (.iload_n 2, 1) := by decide +kernel
theorem dX9_trust_9 : decode cX9_trust 9 = .ok (.bipush 6, 2) := by decide +kernel
theorem dX9_trust_11 : decode cX9_trust 11 = .ok (.invokestatic 93, 3) := by decide +kernel
theorem dX9_trust_14 : decode cX9_trust 14 = .ok (.ifCond .ne 6, 3) := by decide +kernel
theorem dX9_trust_17 : decode cX9_trust 17 = .ok (.bipush (-2), 2) := by decide +kernel
theorem dX9_trust_19 : decode cX9_trust 19 = .ok (.ireturn, 1) := by decide +kernel
theorem dX9_trust_20 : decode cX9_trust 20 = .ok (.iload_n 3, 1) := by decide +kernel
theorem dX9_trust_21 : decode cX9_trust 21 = .ok (.bipush 61, 2) := by decide +kernel
theorem dX9_trust_23 : decode cX9_trust 23 = .ok (.invokestatic 93, 3) := by decide +kernel
theorem dX9_trust_26 : decode cX9_trust 26 = .ok (.ifCond .eq 21, 3) := by decide +kernel
theorem dX9_trust_29 : decode cX9_trust 29 = .ok (.aload_n 0, 1) := by decide +kernel
theorem dX9_trust_30 : decode cX9_trust 30 = .ok (.getfield 73, 3) := by decide +kernel
theorem dX9_trust_33 : decode cX9_trust 33 = .ok (.aload_n 0, 1) := by decide +kernel
theorem dX9_trust_34 : decode cX9_trust 34 = .ok (.getfield 62, 3) := by decide +kernel
theorem dX9_trust_37 : decode cX9_trust 37 = .ok (.iload_n 1, 1) := by decide +kernel
theorem dX9_trust_38 : decode cX9_trust 38 = .ok (.aaload, 1) := by decide +kernel
theorem dX9_trust_39 : decode cX9_trust 39 = .ok (.iload_n 2, 1) := by decide +kernel
theorem dX9_trust_40 : decode cX9_trust 40 = .ok (.iload_n 3, 1) := by decide +kernel
theorem dX9_trust_41 : decode cX9_trust 41 = .ok (.invokevirtual 210, 3) := by decide +kernel
theorem dX9_trust_44 : decode cX9_trust 44 = .ok (.goto 5, 3) := by decide +kernel
theorem dX9_trust_47 : decode cX9_trust 47 = .ok (.bipush (-3), 2) := by decide +kernel
theorem dX9_trust_49 : decode cX9_trust 49 = .ok (.ireturn, 1) := by decide +kernel
theorem dX9_concluded_0 : decode cX9_concluded 0 = .ok (.iload_n 1, 1) := by decide +kernel
theorem dX9_concluded_1 : decode cX9_concluded 1 = .ok (.iload_n 2, 1) := by decide +kernel
theorem dX9_concluded_2 : decode cX9_concluded 2 = .ok (.iload_n 3, 1) := by decide +kernel
theorem dX9_concluded_3 : decode cX9_concluded 3 = .ok (.iload 4, 2) := by decide +kernel
theorem dX9_concluded_5 : decode cX9_concluded 5 = .ok (.iload 5, 2) := by decide +kernel
theorem dX9_concluded_7 : decode cX9_concluded 7 = .ok (.invokestatic 214, 3) := by decide +kernel
theorem dX9_concluded_10 : decode cX9_concluded 10 = .ok (.istore 6, 2) := by decide +kernel
theorem dX9_concluded_12 : decode cX9_concluded 12 = .ok (.iload 6, 2) := by decide +kernel
theorem dX9_concluded_14 : decode cX9_concluded 14 = .ok (.ifCond .eq 8, 3) := by decide +kernel
theorem dX9_concluded_17 : decode cX9_concluded 17 = .ok (.iload 6, 2) := by decide +kernel
theorem dX9_concluded_19 : decode cX9_concluded 19 = .ok (.goto 25, 3) := by decide +kernel
theorem dX9_concluded_22 : decode cX9_concluded 22 = .ok (.aload_n 0, 1) := by decide +kernel
theorem dX9_concluded_23 : decode cX9_concluded 23 = .ok (.getfield 73, 3) := by decide +kernel
theorem dX9_concluded_26 : decode cX9_concluded 26 = .ok (.aload_n 0, 1) := by decide +kernel
theorem dX9_concluded_27 : decode cX9_concluded 27 = .ok (.getfield 62, 3) := by decide +kernel
theorem dX9_concluded_30 : decode cX9_concluded 30 = .ok (.iload_n 1, 1) := by decide +kernel
theorem dX9_concluded_31 : decode cX9_concluded 31 = .ok (.aaload, 1) := by decide +kernel
theorem dX9_concluded_32 : decode cX9_concluded 32 = .ok (.iload_n 2, 1) := by decide +kernel
theorem dX9_concluded_33 : decode cX9_concluded 33 = .ok (.iload_n 3, 1) := by decide +kernel
theorem dX9_concluded_34 : decode cX9_concluded 34 = .ok (.iload 4, 2) := by decide +kernel
theorem dX9_concluded_36 : decode cX9_concluded 36 = .ok (.invokestatic 111, 3) := by decide +kernel
theorem dX9_concluded_39 : decode cX9_concluded 39 = .ok (.iload 5, 2) := by decide +kernel
theorem dX9_concluded_41 : decode cX9_concluded 41 = .ok (.invokevirtual 217, 3) := by decide +kernel
theorem dX9_concluded_44 : decode cX9_concluded 44 = .ok (.ireturn, 1) := by decide +kernel
theorem dX9_weight_0 : decode cX9_weight 0 = .ok (.iload_n 1, 1) := by decide +kernel
theorem dX9_weight_1 : decode cX9_weight 1 = .ok (.iload_n 2, 1) := by decide +kernel
theorem dX9_weight_2 : decode cX9_weight 2 = .ok (.iload_n 3, 1) := by decide +kernel
theorem dX9_weight_3 : decode cX9_weight 3 = .ok (.iload 4, 2) := by decide +kernel
theorem dX9_weight_5 : decode cX9_weight 5 = .ok (.iload 6, 2) := by decide +kernel
theorem dX9_weight_7 : decode cX9_weight 7 = .ok (.invokestatic 214, 3) := by decide +kernel
theorem dX9_weight_10 : decode cX9_weight 10 = .ok (.istore 7, 2) := by decide +kernel
theorem dX9_weight_12 : decode cX9_weight 12 = .ok (.iload 7, 2) := by decide +kernel
theorem dX9_weight_14 : decode cX9_weight 14 = .ok (.ifCond .eq 6, 3) := by decide +kernel
theorem dX9_weight_17 : decode cX9_weight 17 = .ok (.iload 7, 2) := by decide +kernel
theorem dX9_weight_19 : decode cX9_weight 19 = .ok (.ireturn, 1) := by decide +kernel
theorem dX9_weight_20 : decode cX9_weight 20 = .ok (.iload 5, 2) := by decide +kernel
theorem dX9_weight_22 : decode cX9_weight 22 = .ok (.bipush 10, 2) := by decide +kernel
theorem dX9_weight_24 : decode cX9_weight 24 = .ok (.invokestatic 93, 3) := by decide +kernel
theorem dX9_weight_27 : decode cX9_weight 27 = .ok (.ifCond .ne 6, 3) := by decide +kernel
theorem dX9_weight_30 : decode cX9_weight 30 = .ok (.bipush (-3), 2) := by decide +kernel
theorem dX9_weight_32 : decode cX9_weight 32 = .ok (.ireturn, 1) := by decide +kernel
theorem dX9_weight_33 : decode cX9_weight 33 = .ok (.aload_n 0, 1) := by decide +kernel
theorem dX9_weight_34 : decode cX9_weight 34 = .ok (.getfield 73, 3) := by decide +kernel
theorem dX9_weight_37 : decode cX9_weight 37 = .ok (.aload_n 0, 1) := by decide +kernel
theorem dX9_weight_38 : decode cX9_weight 38 = .ok (.getfield 62, 3) := by decide +kernel
theorem dX9_weight_41 : decode cX9_weight 41 = .ok (.iload_n 1, 1) := by decide +kernel
theorem dX9_weight_42 : decode cX9_weight 42 = .ok (.aaload, 1) := by decide +kernel
theorem dX9_weight_43 : decode cX9_weight 43 = .ok (.iload 6, 2) := by decide +kernel
theorem dX9_weight_45 : decode cX9_weight 45 = .ok (.invokevirtual 220, 3) := by decide +kernel
theorem dX9_weight_48 : decode cX9_weight 48 = .ok (.aload_n 0, 1) := by decide +kernel
theorem dX9_weight_49 : decode cX9_weight 49 = .ok (.getfield 73, 3) := by decide +kernel
theorem dX9_weight_52 : decode cX9_weight 52 = .ok (.iload_n 2, 1) := by decide +kernel
theorem dX9_weight_53 : decode cX9_weight 53 = .ok (.iload_n 3, 1) := by decide +kernel
theorem dX9_weight_54 : decode cX9_weight 54 = .ok (.iload 4, 2) := by decide +kernel
theorem dX9_weight_56 : decode cX9_weight 56 = .ok (.invokestatic 111, 3) := by decide +kernel
theorem dX9_weight_59 : decode cX9_weight 59 = .ok (.iload 6, 2) := by decide +kernel
theorem dX9_weight_61 : decode cX9_weight 61 = .ok (.invokevirtual 224, 3) := by decide +kernel
theorem dX9_weight_64 : decode cX9_weight 64 = .ok (.aload_n 0, 1) := by decide +kernel
theorem dX9_weight_65 : decode cX9_weight 65 = .ok (.getfield 73, 3) := by decide +kernel
theorem dX9_weight_68 : decode cX9_weight 68 = .ok (.aload_n 0, 1) := by decide +kernel
theorem dX9_weight_69 : decode cX9_weight 69 = .ok (.getfield 62, 3) := by decide +kernel
theorem dX9_weight_72 : decode cX9_weight 72 = .ok (.iload_n 1, 1) := by decide +kernel
theorem dX9_weight_73 : decode cX9_weight 73 = .ok (.aaload, 1) := by decide +kernel
theorem dX9_weight_74 : decode cX9_weight 74 = .ok (.iload 5, 2) := by decide +kernel
theorem dX9_weight_76 : decode cX9_weight 76 = .ok (.invokevirtual 228, 3) := by decide +kernel
theorem dX9_weight_79 : decode cX9_weight 79 = .ok (.ireturn, 1) := by decide +kernel
theorem dX9_story_0 : decode cX9_story 0 = .ok (.iload_n 1, 1) := by decide +kernel
theorem dX9_story_1 : decode cX9_story 1 = .ok (.iload_n 2, 1) := by decide +kernel
theorem dX9_story_2 : decode cX9_story 2 = .ok (.iload_n 3, 1) := by decide +kernel
theorem dX9_story_3 : decode cX9_story 3 = .ok (.invokestatic 107, 3) := by decide +kernel
theorem dX9_story_6 : decode cX9_story 6 = .ok (.istore 5, 2) := by decide +kernel
theorem dX9_story_8 : decode cX9_story 8 = .ok (.iload 5, 2) := by decide +kernel
theorem dX9_story_10 : decode cX9_story 10 = .ok (.ifCond .eq 6, 3) := by decide +kernel
theorem dX9_story_13 : decode cX9_story 13 = .ok (.iload 5, 2) := by decide +kernel
theorem dX9_story_15 : decode cX9_story 15 = .ok (.ireturn, 1) := by decide +kernel
theorem dX9_story_16 : decode cX9_story 16 = .ok (.iload 4, 2) := by decide +kernel
theorem dX9_story_18 : decode cX9_story 18 = .ok (.bipush 10, 2) := by decide +kernel
theorem dX9_story_20 : decode cX9_story 20 = .ok (.invokestatic 93, 3) := by decide +kernel
theorem dX9_story_23 : decode cX9_story 23 = .ok (.ifCond .eq 21, 3) := by decide +kernel
theorem dX9_story_26 : decode cX9_story 26 = .ok (.aload_n 0, 1) := by decide +kernel
theorem dX9_story_27 : decode cX9_story 27 = .ok (.getfield 69, 3) := by decide +kernel
theorem dX9_story_30 : decode cX9_story 30 = .ok (.iload_n 1, 1) := by decide +kernel
theorem dX9_story_31 : decode cX9_story 31 = .ok (.iload_n 2, 1) := by decide +kernel
theorem dX9_story_32 : decode cX9_story 32 = .ok (.iload_n 3, 1) := by decide +kernel
theorem dX9_story_33 : decode cX9_story 33 = .ok (.invokestatic 111, 3) := by decide +kernel
theorem dX9_story_36 : decode cX9_story 36 = .ok (.iload 4, 2) := by decide +kernel
theorem dX9_story_38 : decode cX9_story 38 = .ok (.invokevirtual 232, 3) := by decide +kernel
theorem dX9_story_41 : decode cX9_story 41 = .ok (.goto 5, 3) := by decide +kernel
theorem dX9_story_44 : decode cX9_story 44 = .ok (.bipush (-3), 2) := by decide +kernel
theorem dX9_story_46 : decode cX9_story 46 = .ok (.ireturn, 1) := by decide +kernel
theorem dX9_holds_0 : decode cX9_holds 0 = .ok (.iload_n 1, 1) := by decide +kernel
theorem dX9_holds_1 : decode cX9_holds 1 = .ok (.iconst 2, 1) := by decide +kernel
theorem dX9_holds_2 : decode cX9_holds 2 = .ok (.iload_n 2, 1) := by decide +kernel
theorem dX9_holds_3 : decode cX9_holds 3 = .ok (.invokestatic 141, 3) := by decide +kernel
theorem dX9_holds_6 : decode cX9_holds 6 = .ok (.istore_n 3, 1) := by decide +kernel
theorem dX9_holds_7 : decode cX9_holds 7 = .ok (.iload_n 3, 1) := by decide +kernel
theorem dX9_holds_8 : decode cX9_holds 8 = .ok (.ifCond .eq 7, 3) := by decide +kernel
theorem dX9_holds_11 : decode cX9_holds 11 = .ok (.iload_n 3, 1) := by decide +kernel
theorem dX9_holds_12 : decode cX9_holds 12 = .ok (.goto 21, 3) := by decide +kernel
theorem dX9_holds_15 : decode cX9_holds 15 = .ok (.aload_n 0, 1) := by decide +kernel
theorem dX9_holds_16 : decode cX9_holds 16 = .ok (.getfield 73, 3) := by decide +kernel
theorem dX9_holds_19 : decode cX9_holds 19 = .ok (.aload_n 0, 1) := by decide +kernel
theorem dX9_holds_20 : decode cX9_holds 20 = .ok (.getfield 62, 3) := by decide +kernel
theorem dX9_holds_23 : decode cX9_holds 23 = .ok (.iload_n 1, 1) := by decide +kernel
theorem dX9_holds_24 : decode cX9_holds 24 = .ok (.aaload, 1) := by decide +kernel
theorem dX9_holds_25 : decode cX9_holds 25 = .ok (.aload_n 0, 1) := by decide +kernel
theorem dX9_holds_26 : decode cX9_holds 26 = .ok (.getfield 69, 3) := by decide +kernel
theorem dX9_holds_29 : decode cX9_holds 29 = .ok (.iload_n 2, 1) := by decide +kernel
theorem dX9_holds_30 : decode cX9_holds 30 = .ok (.invokevirtual 235, 3) := by decide +kernel
theorem dX9_holds_33 : decode cX9_holds 33 = .ok (.ireturn, 1) := by decide +kernel
theorem dX9_keeps_0 : decode cX9_keeps 0 = .ok (.iload_n 1, 1) := by decide +kernel
theorem dX9_keeps_1 : decode cX9_keeps 1 = .ok (.iconst 2, 1) := by decide +kernel
theorem dX9_keeps_2 : decode cX9_keeps 2 = .ok (.iload_n 2, 1) := by decide +kernel
theorem dX9_keeps_3 : decode cX9_keeps 3 = .ok (.invokestatic 141, 3) := by decide +kernel
theorem dX9_keeps_6 : decode cX9_keeps 6 = .ok (.istore_n 3, 1) := by decide +kernel
theorem dX9_keeps_7 : decode cX9_keeps 7 = .ok (.iload_n 3, 1) := by decide +kernel
theorem dX9_keeps_8 : decode cX9_keeps 8 = .ok (.ifCond .eq 5, 3) := by decide +kernel
theorem dX9_keeps_11 : decode cX9_keeps 11 = .ok (.iload_n 3, 1) := by decide +kernel
theorem dX9_keeps_12 : decode cX9_keeps 12 = .ok (.ireturn, 1) := by decide +kernel
theorem dX9_keeps_13 : decode cX9_keeps 13 = .ok (.iload_n 2, 1) := by decide +kernel
theorem dX9_keeps_14 : decode cX9_keeps 14 = .ok (.istore 4, 2) := by decide +kernel
theorem dX9_keeps_16 : decode cX9_keeps 16 = .ok (.iload 4, 2) := by decide +kernel
theorem dX9_keeps_18 : decode cX9_keeps 18 = .ok (.bipush 60, 2) := by decide +kernel
theorem dX9_keeps_20 : decode cX9_keeps 20 = .ok (.if_icmp .gt 38, 3) := by decide +kernel
theorem dX9_keeps_23 : decode cX9_keeps 23 = .ok (.aload_n 0, 1) := by decide +kernel
theorem dX9_keeps_24 : decode cX9_keeps 24 = .ok (.getfield 73, 3) := by decide +kernel
theorem dX9_keeps_27 : decode cX9_keeps 27 = .ok (.aload_n 0, 1) := by decide +kernel
theorem dX9_keeps_28 : decode cX9_keeps 28 = .ok (.getfield 62, 3) := by decide +kernel
theorem dX9_keeps_31 : decode cX9_keeps 31 = .ok (.iload_n 1, 1) := by decide +kernel
theorem dX9_keeps_32 : decode cX9_keeps 32 = .ok (.aaload, 1) := by decide +kernel
theorem dX9_keeps_33 : decode cX9_keeps 33 = .ok (.aload_n 0, 1) := by decide +kernel
theorem dX9_keeps_34 : decode cX9_keeps 34 = .ok (.getfield 69, 3) := by decide +kernel
theorem dX9_keeps_37 : decode cX9_keeps 37 = .ok (.iload 4, 2) := by decide +kernel
theorem dX9_keeps_39 : decode cX9_keeps 39 = .ok (.invokevirtual 235, 3) := by decide +kernel
theorem dX9_keeps_42 : decode cX9_keeps 42 = .ok (.aload_n 0, 1) := by decide +kernel
theorem dX9_keeps_43 : decode cX9_keeps 43 = .ok (.getfield 69, 3) := by decide +kernel
theorem dX9_keeps_46 : decode cX9_keeps 46 = .ok (.invokevirtual 239, 3) := by decide +kernel
theorem dX9_keeps_49 : decode cX9_keeps 49 = .ok (.if_icmp .ne 9, 3) := by decide +kernel
theorem dX9_keeps_52 : decode cX9_keeps 52 = .ok (.iinc 4 1, 3) := by decide +kernel
theorem dX9_keeps_55 : decode cX9_keeps 55 = .ok (.goto (-39), 3) := by decide +kernel
theorem dX9_keeps_58 : decode cX9_keeps 58 = .ok (.iload 4, 2) := by decide +kernel
theorem dX9_keeps_60 : decode cX9_keeps 60 = .ok (.iload_n 2, 1) := by decide +kernel
theorem dX9_keeps_61 : decode cX9_keeps 61 = .ok (.isub, 1) := by decide +kernel
theorem dX9_keeps_62 : decode cX9_keeps 62 = .ok (.ireturn, 1) := by decide +kernel
theorem dX9_draft_0 : decode cX9_draft 0 = .ok (.iload_n 1, 1) := by decide +kernel
theorem dX9_draft_1 : decode cX9_draft 1 = .ok (.iload_n 2, 1) := by decide +kernel
theorem dX9_draft_2 : decode cX9_draft 2 = .ok (.iload_n 3, 1) := by decide +kernel
theorem dX9_draft_3 : decode cX9_draft 3 = .ok (.iload 4, 2) := by decide +kernel
theorem dX9_draft_5 : decode cX9_draft 5 = .ok (.iload 5, 2) := by decide +kernel
theorem dX9_draft_7 : decode cX9_draft 7 = .ok (.iload 6, 2) := by decide +kernel
theorem dX9_draft_9 : decode cX9_draft 9 = .ok (.iload 7, 2) := by decide +kernel
theorem dX9_draft_11 : decode cX9_draft 11 = .ok (.invokestatic 151, 3) := by decide +kernel
theorem dX9_draft_14 : decode cX9_draft 14 = .ok (.istore 8, 2) := by decide +kernel
theorem dX9_draft_16 : decode cX9_draft 16 = .ok (.iload 8, 2) := by decide +kernel
theorem dX9_draft_18 : decode cX9_draft 18 = .ok (.ifCond .eq 8, 3) := by decide +kernel
theorem dX9_draft_21 : decode cX9_draft 21 = .ok (.iload 8, 2) := by decide +kernel
theorem dX9_draft_23 : decode cX9_draft 23 = .ok (.goto 24, 3) := by decide +kernel
theorem dX9_draft_26 : decode cX9_draft 26 = .ok (.aload_n 0, 1) := by decide +kernel
theorem dX9_draft_27 : decode cX9_draft 27 = .ok (.getfield 59, 3) := by decide +kernel
theorem dX9_draft_30 : decode cX9_draft 30 = .ok (.iload_n 1, 1) := by decide +kernel
theorem dX9_draft_31 : decode cX9_draft 31 = .ok (.iload_n 2, 1) := by decide +kernel
theorem dX9_draft_32 : decode cX9_draft 32 = .ok (.iload_n 3, 1) := by decide +kernel
theorem dX9_draft_33 : decode cX9_draft 33 = .ok (.iload 4, 2) := by decide +kernel
theorem dX9_draft_35 : decode cX9_draft 35 = .ok (.iload 5, 2) := by decide +kernel
theorem dX9_draft_37 : decode cX9_draft 37 = .ok (.iload 6, 2) := by decide +kernel
theorem dX9_draft_39 : decode cX9_draft 39 = .ok (.invokestatic 111, 3) := by decide +kernel
theorem dX9_draft_42 : decode cX9_draft 42 = .ok (.iload 7, 2) := by decide +kernel
theorem dX9_draft_44 : decode cX9_draft 44 = .ok (.invokevirtual 155, 3) := by decide +kernel
theorem dX9_draft_47 : decode cX9_draft 47 = .ok (.ireturn, 1) := by decide +kernel
theorem dX9_mark_0 : decode cX9_mark 0 = .ok (.iload_n 1, 1) := by decide +kernel
theorem dX9_mark_1 : decode cX9_mark 1 = .ok (.aload_n 0, 1) := by decide +kernel
theorem dX9_mark_2 : decode cX9_mark 2 = .ok (.getfield 59, 3) := by decide +kernel
theorem dX9_mark_5 : decode cX9_mark 5 = .ok (.getfield 159, 3) := by decide +kernel
theorem dX9_mark_8 : decode cX9_mark 8 = .ok (.invokestatic 93, 3) := by decide +kernel
theorem dX9_mark_11 : decode cX9_mark 11 = .ok (.ifCond .ne 6, 3) := by decide +kernel
theorem dX9_mark_14 : decode cX9_mark 14 = .ok (.bipush (-2), 2) := by decide +kernel
theorem dX9_mark_16 : decode cX9_mark 16 = .ok (.ireturn, 1) := by decide +kernel
theorem dX9_mark_17 : decode cX9_mark 17 = .ok (.iload_n 2, 1) := by decide +kernel
theorem dX9_mark_18 : decode cX9_mark 18 = .ok (.iconst 2, 1) := by decide +kernel
theorem dX9_mark_19 : decode cX9_mark 19 = .ok (.invokestatic 93, 3) := by decide +kernel
theorem dX9_mark_22 : decode cX9_mark 22 = .ok (.ifCond .eq 13, 3) := by decide +kernel
theorem dX9_mark_25 : decode cX9_mark 25 = .ok (.iload_n 3, 1) := by decide +kernel
theorem dX9_mark_26 : decode cX9_mark 26 = .ok (.ifCond .lt 9, 3) := by decide +kernel
theorem dX9_mark_29 : decode cX9_mark 29 = .ok (.iload_n 3, 1) := by decide +kernel
theorem dX9_mark_30 : decode cX9_mark 30 = .ok (.bipush 99, 2) := by decide +kernel
theorem dX9_mark_32 : decode cX9_mark 32 = .ok (.if_icmp .le 6, 3) := by decide +kernel
theorem dX9_mark_35 : decode cX9_mark 35 = .ok (.bipush (-3), 2) := by decide +kernel
theorem dX9_mark_37 : decode cX9_mark 37 = .ok (.ireturn, 1) := by decide +kernel
theorem dX9_mark_38 : decode cX9_mark 38 = .ok (.iload_n 2, 1) := by decide +kernel
theorem dX9_mark_39 : decode cX9_mark 39 = .ok (.ifCond .ne 13, 3) := by decide +kernel
theorem dX9_mark_42 : decode cX9_mark 42 = .ok (.aload_n 0, 1) := by decide +kernel
theorem dX9_mark_43 : decode cX9_mark 43 = .ok (.getfield 82, 3) := by decide +kernel
theorem dX9_mark_46 : decode cX9_mark 46 = .ok (.getfield 242, 3) := by decide +kernel
theorem dX9_mark_49 : decode cX9_mark 49 = .ok (.goto 10, 3) := by decide +kernel
theorem dX9_mark_52 : decode cX9_mark 52 = .ok (.aload_n 0, 1) := by decide +kernel
theorem dX9_mark_53 : decode cX9_mark 53 = .ok (.getfield 82, 3) := by decide +kernel
theorem dX9_mark_56 : decode cX9_mark 56 = .ok (.getfield 245, 3) := by decide +kernel
theorem dX9_mark_59 : decode cX9_mark 59 = .ok (.astore 4, 2) := by decide +kernel
theorem dX9_mark_61 : decode cX9_mark 61 = .ok (.aload 4, 2) := by decide +kernel
theorem dX9_mark_63 : decode cX9_mark 63 = .ok (.iload_n 1, 1) := by decide +kernel
theorem dX9_mark_64 : decode cX9_mark 64 = .ok (.iaload, 1) := by decide +kernel
theorem dX9_mark_65 : decode cX9_mark 65 = .ok (.istore 5, 2) := by decide +kernel
theorem dX9_mark_67 : decode cX9_mark 67 = .ok (.aload 4, 2) := by decide +kernel
theorem dX9_mark_69 : decode cX9_mark 69 = .ok (.iload_n 1, 1) := by decide +kernel
theorem dX9_mark_70 : decode cX9_mark 70 = .ok (.iload_n 3, 1) := by decide +kernel
theorem dX9_mark_71 : decode cX9_mark 71 = .ok (.iastore, 1) := by decide +kernel
theorem dX9_mark_72 : decode cX9_mark 72 = .ok (.iload 5, 2) := by decide +kernel
theorem dX9_mark_74 : decode cX9_mark 74 = .ok (.ireturn, 1) := by decide +kernel
theorem dX9_make_0 : decode cX9_make 0 = .ok (.iload_n 1, 1) := by decide +kernel
theorem dX9_make_1 : decode cX9_make 1 = .ok (.bipush 61, 2) := by decide +kernel
theorem dX9_make_3 : decode cX9_make 3 = .ok (.invokestatic 93, 3) := by decide +kernel
theorem dX9_make_6 : decode cX9_make 6 = .ok (.ifCond .eq 24, 3) := by decide +kernel
theorem dX9_make_9 : decode cX9_make 9 = .ok (.aload_n 0, 1) := by decide +kernel
theorem dX9_make_10 : decode cX9_make 10 = .ok (.getfield 82, 3) := by decide +kernel
theorem dX9_make_13 : decode cX9_make 13 = .ok (.aload_n 0, 1) := by decide +kernel
theorem dX9_make_14 : decode cX9_make 14 = .ok (.getfield 62, 3) := by decide +kernel
theorem dX9_make_17 : decode cX9_make 17 = .ok (.iconst 0, 1) := by decide +kernel
theorem dX9_make_18 : decode cX9_make 18 = .ok (.aaload, 1) := by decide +kernel
theorem dX9_make_19 : decode cX9_make 19 = .ok (.aload_n 0, 1) := by decide +kernel
theorem dX9_make_20 : decode cX9_make 20 = .ok (.getfield 69, 3) := by decide +kernel
theorem dX9_make_23 : decode cX9_make 23 = .ok (.iload_n 1, 1) := by decide +kernel
theorem dX9_make_24 : decode cX9_make 24 = .ok (.invokevirtual 248, 3) := by decide +kernel
theorem dX9_make_27 : decode cX9_make 27 = .ok (.goto 5, 3) := by decide +kernel
theorem dX9_make_30 : decode cX9_make 30 = .ok (.bipush (-3), 2) := by decide +kernel
theorem dX9_make_32 : decode cX9_make 32 = .ok (.ireturn, 1) := by decide +kernel
theorem dX9_buy_0 : decode cX9_buy 0 = .ok (.iload_n 1, 1) := by decide +kernel
theorem dX9_buy_1 : decode cX9_buy 1 = .ok (.bipush 6, 2) := by decide +kernel
theorem dX9_buy_3 : decode cX9_buy 3 = .ok (.invokestatic 93, 3) := by decide +kernel
theorem dX9_buy_6 : decode cX9_buy 6 = .ok (.ifCond .ne 6, 3) := by decide +kernel
theorem dX9_buy_9 : decode cX9_buy 9 = .ok (.bipush (-2), 2) := by decide +kernel
theorem dX9_buy_11 : decode cX9_buy 11 = .ok (.ireturn, 1) := by decide +kernel
theorem dX9_buy_12 : decode cX9_buy 12 = .ok (.iload_n 2, 1) := by decide +kernel
theorem dX9_buy_13 : decode cX9_buy 13 = .ok (.bipush 61, 2) := by decide +kernel
theorem dX9_buy_15 : decode cX9_buy 15 = .ok (.invokestatic 93, 3) := by decide +kernel
theorem dX9_buy_18 : decode cX9_buy 18 = .ok (.ifCond .eq 13, 3) := by decide +kernel
theorem dX9_buy_21 : decode cX9_buy 21 = .ok (.iload_n 3, 1) := by decide +kernel
theorem dX9_buy_22 : decode cX9_buy 22 = .ok (.ifCond .lt 9, 3) := by decide +kernel
theorem dX9_buy_25 : decode cX9_buy 25 = .ok (.iload_n 3, 1) := by decide +kernel
theorem dX9_buy_26 : decode cX9_buy 26 = .ok (.bipush 100, 2) := by decide +kernel
theorem dX9_buy_28 : decode cX9_buy 28 = .ok (.if_icmp .le 6, 3) := by decide +kernel
theorem dX9_buy_31 : decode cX9_buy 31 = .ok (.bipush (-3), 2) := by decide +kernel
theorem dX9_buy_33 : decode cX9_buy 33 = .ok (.ireturn, 1) := by decide +kernel
theorem dX9_buy_34 : decode cX9_buy 34 = .ok (.aload_n 0, 1) := by decide +kernel
theorem dX9_buy_35 : decode cX9_buy 35 = .ok (.getfield 82, 3) := by decide +kernel
theorem dX9_buy_38 : decode cX9_buy 38 = .ok (.aload_n 0, 1) := by decide +kernel
theorem dX9_buy_39 : decode cX9_buy 39 = .ok (.getfield 62, 3) := by decide +kernel
theorem dX9_buy_42 : decode cX9_buy 42 = .ok (.iconst 0, 1) := by decide +kernel
theorem dX9_buy_43 : decode cX9_buy 43 = .ok (.aaload, 1) := by decide +kernel
theorem dX9_buy_44 : decode cX9_buy 44 = .ok (.iload_n 1, 1) := by decide +kernel
theorem dX9_buy_45 : decode cX9_buy 45 = .ok (.iload_n 2, 1) := by decide +kernel
theorem dX9_buy_46 : decode cX9_buy 46 = .ok (.iload_n 3, 1) := by decide +kernel
theorem dX9_buy_47 : decode cX9_buy 47 = .ok (.invokevirtual 251, 3) := by decide +kernel
theorem dX9_buy_50 : decode cX9_buy 50 = .ok (.ireturn, 1) := by decide +kernel
theorem dX9_question_0 : decode cX9_question 0 = .ok (.iload_n 2, 1) := by decide +kernel
theorem dX9_question_1 : decode cX9_question 1 = .ok (.iload_n 3, 1) := by decide +kernel
theorem dX9_question_2 : decode cX9_question 2 = .ok (.iload 4, 2) := by decide +kernel
theorem dX9_question_4 : decode cX9_question 4 = .ok (.invokestatic 107, 3) := by decide +kernel
theorem dX9_question_7 : decode cX9_question 7 = .ok (.istore 5, 2) := by decide +kernel
theorem dX9_question_9 : decode cX9_question 9 = .ok (.iload 5, 2) := by decide +kernel
theorem dX9_question_11 : decode cX9_question 11 = .ok (.ifCond .eq 6, 3) := by decide +kernel
theorem dX9_question_14 : decode cX9_question 14 = .ok (.iload 5, 2) := by decide +kernel
theorem dX9_question_16 : decode cX9_question 16 = .ok (.ireturn, 1) := by decide +kernel
theorem dX9_question_17 : decode cX9_question 17 = .ok (.iload_n 1, 1) := by decide +kernel
theorem dX9_question_18 : decode cX9_question 18 = .ok (.bipush 61, 2) := by decide +kernel
theorem dX9_question_20 : decode cX9_question 20 = .ok (.invokestatic 93, 3) := by decide +kernel
theorem dX9_question_23 : decode cX9_question 23 = .ok (.ifCond .eq 21, 3) := by decide +kernel
theorem dX9_question_26 : decode cX9_question 26 = .ok (.aload_n 0, 1) := by decide +kernel
theorem dX9_question_27 : decode cX9_question 27 = .ok (.getfield 89, 3) := by decide +kernel
theorem dX9_question_30 : decode cX9_question 30 = .ok (.iload_n 1, 1) := by decide +kernel
theorem dX9_question_31 : decode cX9_question 31 = .ok (.iload_n 2, 1) := by decide +kernel
theorem dX9_question_32 : decode cX9_question 32 = .ok (.iload_n 3, 1) := by decide +kernel
theorem dX9_question_33 : decode cX9_question 33 = .ok (.iload 4, 2) := by decide +kernel
theorem dX9_question_35 : decode cX9_question 35 = .ok (.invokestatic 111, 3) := by decide +kernel
theorem dX9_question_38 : decode cX9_question 38 = .ok (.invokevirtual 255, 3) := by decide +kernel
theorem dX9_question_41 : decode cX9_question 41 = .ok (.goto 5, 3) := by decide +kernel
theorem dX9_question_44 : decode cX9_question 44 = .ok (.bipush (-3), 2) := by decide +kernel
theorem dX9_question_46 : decode cX9_question 46 = .ok (.ireturn, 1) := by decide +kernel
theorem dX9_pay_0 : decode cX9_pay 0 = .ok (.iload_n 2, 1) := by decide +kernel
theorem dX9_pay_1 : decode cX9_pay 1 = .ok (.bipush 6, 2) := by decide +kernel
theorem dX9_pay_3 : decode cX9_pay 3 = .ok (.iload_n 1, 1) := by decide +kernel
theorem dX9_pay_4 : decode cX9_pay 4 = .ok (.invokestatic 141, 3) := by decide +kernel
theorem dX9_pay_7 : decode cX9_pay 7 = .ok (.istore_n 3, 1) := by decide +kernel
theorem dX9_pay_8 : decode cX9_pay 8 = .ok (.iload_n 3, 1) := by decide +kernel
theorem dX9_pay_9 : decode cX9_pay 9 = .ok (.ifCond .eq 7, 3) := by decide +kernel
theorem dX9_pay_12 : decode cX9_pay 12 = .ok (.iload_n 3, 1) := by decide +kernel
theorem dX9_pay_13 : decode cX9_pay 13 = .ok (.goto 12, 3) := by decide +kernel
theorem dX9_pay_16 : decode cX9_pay 16 = .ok (.aload_n 0, 1) := by decide +kernel
theorem dX9_pay_17 : decode cX9_pay 17 = .ok (.getfield 89, 3) := by decide +kernel
theorem dX9_pay_20 : decode cX9_pay 20 = .ok (.iload_n 1, 1) := by decide +kernel
theorem dX9_pay_21 : decode cX9_pay 21 = .ok (.iload_n 2, 1) := by decide +kernel
theorem dX9_pay_22 : decode cX9_pay 22 = .ok (.invokevirtual 258, 3) := by decide +kernel
theorem dX9_pay_25 : decode cX9_pay 25 = .ok (.ireturn, 1) := by decide +kernel
theorem dX9_which_0 : decode cX9_which 0 = .ok (.iconst 0, 1) := by decide +kernel
theorem dX9_which_1 : decode cX9_which 1 = .ok (.istore_n 1, 1) := by decide +kernel
theorem dX9_which_2 : decode cX9_which 2 = .ok (.iconst 0, 1) := by decide +kernel
theorem dX9_which_3 : decode cX9_which 3 = .ok (.istore_n 2, 1) := by decide +kernel
theorem dX9_which_4 : decode cX9_which 4 = .ok (.iload_n 2, 1) := by decide +kernel
theorem dX9_which_5 : decode cX9_which 5 = .ok (.iconst 2, 1) := by decide +kernel
theorem dX9_which_6 : decode cX9_which 6 = .ok (.if_icmp .ge 35, 3) := by decide +kernel
theorem dX9_which_9 : decode cX9_which 9 = .ok (.aload_n 0, 1) := by decide +kernel
theorem dX9_which_10 : decode cX9_which 10 = .ok (.getfield 89, 3) := by decide +kernel
theorem dX9_which_13 : decode cX9_which 13 = .ok (.aload_n 0, 1) := by decide +kernel
theorem dX9_which_14 : decode cX9_which 14 = .ok (.getfield 62, 3) := by decide +kernel
theorem dX9_which_17 : decode cX9_which 17 = .ok (.iload_n 2, 1) := by decide +kernel
theorem dX9_which_18 : decode cX9_which 18 = .ok (.aaload, 1) := by decide +kernel
theorem dX9_which_19 : decode cX9_which 19 = .ok (.aload_n 0, 1) := by decide +kernel
theorem dX9_which_20 : decode cX9_which 20 = .ok (.getfield 73, 3) := by decide +kernel
theorem dX9_which_23 : decode cX9_which 23 = .ok (.invokevirtual 261, 3) := by decide +kernel
theorem dX9_which_26 : decode cX9_which 26 = .ok (.ifCond .eq 9, 3) := by decide +kernel
theorem dX9_which_29 : decode cX9_which 29 = .ok (.iload_n 1, 1) := by decide +kernel
theorem dX9_which_30 : decode cX9_which 30 = .ok (.iconst 1, 1) := by decide +kernel
theorem dX9_which_31 : decode cX9_which 31 = .ok (.iload_n 2, 1) := by decide +kernel
theorem dX9_which_32 : decode cX9_which 32 = .ok (.ishl, 1) := by decide +kernel
theorem dX9_which_33 : decode cX9_which 33 = .ok (.ior, 1) := by decide +kernel
theorem dX9_which_34 : decode cX9_which 34 = .ok (.istore_n 1, 1) := by decide +kernel
theorem dX9_which_35 : decode cX9_which 35 = .ok (.iinc 2 1, 3) := by decide +kernel
theorem dX9_which_38 : decode cX9_which 38 = .ok (.goto (-34), 3) := by decide +kernel
theorem dX9_which_41 : decode cX9_which 41 = .ok (.iload_n 1, 1) := by decide +kernel
theorem dX9_which_42 : decode cX9_which 42 = .ok (.ireturn, 1) := by decide +kernel
theorem dX9_warning_0 : decode cX9_warning 0 = .ok (.iload_n 1, 1) := by decide +kernel
theorem dX9_warning_1 : decode cX9_warning 1 = .ok (.iconst 3, 1) := by decide +kernel
theorem dX9_warning_2 : decode cX9_warning 2 = .ok (.iload_n 2, 1) := by decide +kernel
theorem dX9_warning_3 : decode cX9_warning 3 = .ok (.invokestatic 141, 3) := by decide +kernel
theorem dX9_warning_6 : decode cX9_warning 6 = .ok (.istore 4, 2) := by decide +kernel
theorem dX9_warning_8 : decode cX9_warning 8 = .ok (.iload 4, 2) := by decide +kernel
theorem dX9_warning_10 : decode cX9_warning 10 = .ok (.ifCond .eq 6, 3) := by decide +kernel
theorem dX9_warning_13 : decode cX9_warning 13 = .ok (.iload 4, 2) := by decide +kernel
theorem dX9_warning_15 : decode cX9_warning 15 = .ok (.ireturn, 1) := by decide +kernel
theorem dX9_warning_16 : decode cX9_warning 16 = .ok (.iload_n 3, 1) := by decide +kernel
theorem dX9_warning_17 : decode cX9_warning 17 = .ok (.iconst 2, 1) := by decide +kernel
theorem dX9_warning_18 : decode cX9_warning 18 = .ok (.invokestatic 93, 3) := by decide +kernel
theorem dX9_warning_21 : decode cX9_warning 21 = .ok (.ifCond .ne 6, 3) := by decide +kernel
theorem dX9_warning_24 : decode cX9_warning 24 = .ok (.bipush (-3), 2) := by decide +kernel
theorem dX9_warning_26 : decode cX9_warning 26 = .ok (.ireturn, 1) := by decide +kernel
theorem dX9_warning_27 : decode cX9_warning 27 = .ok (.iload_n 2, 1) := by decide +kernel
theorem dX9_warning_28 : decode cX9_warning 28 = .ok (.aload_n 0, 1) := by decide +kernel
theorem dX9_warning_29 : decode cX9_warning 29 = .ok (.getfield 52, 3) := by decide +kernel
theorem dX9_warning_32 : decode cX9_warning 32 = .ok (.iload_n 1, 1) := by decide +kernel
theorem dX9_warning_33 : decode cX9_warning 33 = .ok (.iaload, 1) := by decide +kernel
theorem dX9_warning_34 : decode cX9_warning 34 = .ok (.isub, 1) := by decide +kernel
theorem dX9_warning_35 : decode cX9_warning 35 = .ok (.istore 5, 2) := by decide +kernel
theorem dX9_warning_37 : decode cX9_warning 37 = .ok (.iconst 0, 1) := by decide +kernel
theorem dX9_warning_38 : decode cX9_warning 38 = .ok (.iload_n 3, 1) := by decide +kernel
theorem dX9_warning_39 : decode cX9_warning 39 = .ok (.ifCond .ne 8, 3) := by decide +kernel
theorem dX9_warning_42 : decode cX9_warning 42 = .ok (.iload 5, 2) := by decide +kernel
theorem dX9_warning_44 : decode cX9_warning 44 = .ok (.goto 6, 3) := by decide +kernel
theorem dX9_warning_47 : decode cX9_warning 47 = .ok (.iload 5, 2) := by decide +kernel
theorem dX9_warning_49 : decode cX9_warning 49 = .ok (.ineg, 1) := by decide +kernel
theorem dX9_warning_50 : decode cX9_warning 50 = .ok (.invokestatic 265, 3) := by decide +kernel
theorem dX9_warning_53 : decode cX9_warning 53 = .ok (.ireturn, 1) := by decide +kernel
theorem dX9_count_0 : decode cX9_count 0 = .ok (.iload_n 1, 1) := by decide +kernel
theorem dX9_count_1 : decode cX9_count 1 = .ok (.tableswitch 111 0 6 #[43, 51, 59, 67, 75, 83, 91], 43) := by decide +kernel
theorem dX9_count_44 : decode cX9_count 44 = .ok (.aload_n 0, 1) := by decide +kernel
theorem dX9_count_45 : decode cX9_count 45 = .ok (.getfield 37, 3) := by decide +kernel
theorem dX9_count_48 : decode cX9_count 48 = .ok (.getfield 189, 3) := by decide +kernel
theorem dX9_count_51 : decode cX9_count 51 = .ok (.ireturn, 1) := by decide +kernel
theorem dX9_count_52 : decode cX9_count 52 = .ok (.aload_n 0, 1) := by decide +kernel
theorem dX9_count_53 : decode cX9_count 53 = .ok (.getfield 48, 3) := by decide +kernel
theorem dX9_count_56 : decode cX9_count 56 = .ok (.getfield 270, 3) := by decide +kernel
theorem dX9_count_59 : decode cX9_count 59 = .ok (.ireturn, 1) := by decide +kernel
theorem dX9_count_60 : decode cX9_count 60 = .ok (.aload_n 0, 1) := by decide +kernel
theorem dX9_count_61 : decode cX9_count 61 = .ok (.getfield 55, 3) := by decide +kernel
theorem dX9_count_64 : decode cX9_count 64 = .ok (.getfield 159, 3) := by decide +kernel
theorem dX9_count_67 : decode cX9_count 67 = .ok (.ireturn, 1) := by decide +kernel
theorem dX9_count_68 : decode cX9_count 68 = .ok (.aload_n 0, 1) := by decide +kernel
theorem dX9_count_69 : decode cX9_count 69 = .ok (.getfield 69, 3) := by decide +kernel
theorem dX9_count_72 : decode cX9_count 72 = .ok (.getfield 273, 3) := by decide +kernel
theorem dX9_count_75 : decode cX9_count 75 = .ok (.ireturn, 1) := by decide +kernel
theorem dX9_count_76 : decode cX9_count 76 = .ok (.aload_n 0, 1) := by decide +kernel
theorem dX9_count_77 : decode cX9_count 77 = .ok (.getfield 59, 3) := by decide +kernel
theorem dX9_count_80 : decode cX9_count 80 = .ok (.getfield 159, 3) := by decide +kernel
theorem dX9_count_83 : decode cX9_count 83 = .ok (.ireturn, 1) := by decide +kernel
theorem dX9_count_84 : decode cX9_count 84 = .ok (.aload_n 0, 1) := by decide +kernel
theorem dX9_count_85 : decode cX9_count 85 = .ok (.getfield 89, 3) := by decide +kernel
theorem dX9_count_88 : decode cX9_count 88 = .ok (.getfield 274, 3) := by decide +kernel
theorem dX9_count_91 : decode cX9_count 91 = .ok (.ireturn, 1) := by decide +kernel
theorem dX9_count_92 : decode cX9_count 92 = .ok (.aload_n 0, 1) := by decide +kernel
theorem dX9_count_93 : decode cX9_count 93 = .ok (.getfield 62, 3) := by decide +kernel
theorem dX9_count_96 : decode cX9_count 96 = .ok (.iconst 0, 1) := by decide +kernel
theorem dX9_count_97 : decode cX9_count 97 = .ok (.aaload, 1) := by decide +kernel
theorem dX9_count_98 : decode cX9_count 98 = .ok (.getfield 275, 3) := by decide +kernel
theorem dX9_count_101 : decode cX9_count 101 = .ok (.aload_n 0, 1) := by decide +kernel
theorem dX9_count_102 : decode cX9_count 102 = .ok (.getfield 62, 3) := by decide +kernel
theorem dX9_count_105 : decode cX9_count 105 = .ok (.iconst 1, 1) := by decide +kernel
theorem dX9_count_106 : decode cX9_count 106 = .ok (.aaload, 1) := by decide +kernel
theorem dX9_count_107 : decode cX9_count 107 = .ok (.getfield 275, 3) := by decide +kernel
theorem dX9_count_110 : decode cX9_count 110 = .ok (.iadd, 1) := by decide +kernel
theorem dX9_count_111 : decode cX9_count 111 = .ok (.ireturn, 1) := by decide +kernel
theorem dX9_count_112 : decode cX9_count 112 = .ok (.bipush (-3), 2) := by decide +kernel
theorem dX9_count_114 : decode cX9_count 114 = .ok (.ireturn, 1) := by decide +kernel
theorem dX9_isBelow_0 : decode cX9_isBelow 0 = .ok (.iload_n 0, 1) := by decide +kernel
theorem dX9_isBelow_1 : decode cX9_isBelow 1 = .ok (.ifCond .lt 12, 3) := by decide +kernel
theorem dX9_isBelow_4 : decode cX9_isBelow 4 = .ok (.iload_n 0, 1) := by decide +kernel
theorem dX9_isBelow_5 : decode cX9_isBelow 5 = .ok (.iload_n 1, 1) := by decide +kernel
theorem dX9_isBelow_6 : decode cX9_isBelow 6 = .ok (.if_icmp .ge 7, 3) := by decide +kernel
theorem dX9_isBelow_9 : decode cX9_isBelow 9 = .ok (.iconst 1, 1) := by decide +kernel
theorem dX9_isBelow_10 : decode cX9_isBelow 10 = .ok (.goto 4, 3) := by decide +kernel
theorem dX9_isBelow_13 : decode cX9_isBelow 13 = .ok (.iconst 0, 1) := by decide +kernel
theorem dX9_isBelow_14 : decode cX9_isBelow 14 = .ok (.ireturn, 1) := by decide +kernel
theorem dX9_isSpan_0 : decode cX9_isSpan 0 = .ok (.iload_n 0, 1) := by decide +kernel
theorem dX9_isSpan_1 : decode cX9_isSpan 1 = .ok (.bipush 61, 2) := by decide +kernel
theorem dX9_isSpan_3 : decode cX9_isSpan 3 = .ok (.invokestatic 93, 3) := by decide +kernel
theorem dX9_isSpan_6 : decode cX9_isSpan 6 = .ok (.ifCond .eq 21, 3) := by decide +kernel
theorem dX9_isSpan_9 : decode cX9_isSpan 9 = .ok (.iload_n 1, 1) := by decide +kernel
theorem dX9_isSpan_10 : decode cX9_isSpan 10 = .ok (.bipush 61, 2) := by decide +kernel
theorem dX9_isSpan_12 : decode cX9_isSpan 12 = .ok (.invokestatic 93, 3) := by decide +kernel
theorem dX9_isSpan_15 : decode cX9_isSpan 15 = .ok (.ifCond .eq 12, 3) := by decide +kernel
theorem dX9_isSpan_18 : decode cX9_isSpan 18 = .ok (.iload_n 0, 1) := by decide +kernel
theorem dX9_isSpan_19 : decode cX9_isSpan 19 = .ok (.iload_n 1, 1) := by decide +kernel
theorem dX9_isSpan_20 : decode cX9_isSpan 20 = .ok (.if_icmp .gt 7, 3) := by decide +kernel
theorem dX9_isSpan_23 : decode cX9_isSpan 23 = .ok (.iconst 1, 1) := by decide +kernel
theorem dX9_isSpan_24 : decode cX9_isSpan 24 = .ok (.goto 4, 3) := by decide +kernel
theorem dX9_isSpan_27 : decode cX9_isSpan 27 = .ok (.iconst 0, 1) := by decide +kernel
theorem dX9_isSpan_28 : decode cX9_isSpan 28 = .ok (.ireturn, 1) := by decide +kernel
theorem dX9_hasBit_0 : decode cX9_hasBit 0 = .ok (.iload_n 0, 1) := by decide +kernel
theorem dX9_hasBit_1 : decode cX9_hasBit 1 = .ok (.iload_n 1, 1) := by decide +kernel
theorem dX9_hasBit_2 : decode cX9_hasBit 2 = .ok (.ishr, 1) := by decide +kernel
theorem dX9_hasBit_3 : decode cX9_hasBit 3 = .ok (.iconst 1, 1) := by decide +kernel
theorem dX9_hasBit_4 : decode cX9_hasBit 4 = .ok (.iand, 1) := by decide +kernel
theorem dX9_hasBit_5 : decode cX9_hasBit 5 = .ok (.ifCond .eq 7, 3) := by decide +kernel
theorem dX9_hasBit_8 : decode cX9_hasBit 8 = .ok (.iconst 1, 1) := by decide +kernel
theorem dX9_hasBit_9 : decode cX9_hasBit 9 = .ok (.goto 4, 3) := by decide +kernel
theorem dX9_hasBit_12 : decode cX9_hasBit 12 = .ok (.iconst 0, 1) := by decide +kernel
theorem dX9_hasBit_13 : decode cX9_hasBit 13 = .ok (.ireturn, 1) := by decide +kernel
theorem dX9_refuseDayOf_0 : decode cX9_refuseDayOf 0 = .ok (.iload_n 0, 1) := by decide +kernel
theorem dX9_refuseDayOf_1 : decode cX9_refuseDayOf 1 = .ok (.iload_n 1, 1) := by decide +kernel
theorem dX9_refuseDayOf_2 : decode cX9_refuseDayOf 2 = .ok (.invokestatic 93, 3) := by decide +kernel
theorem dX9_refuseDayOf_5 : decode cX9_refuseDayOf 5 = .ok (.ifCond .ne 6, 3) := by decide +kernel
theorem dX9_refuseDayOf_8 : decode cX9_refuseDayOf 8 = .ok (.bipush (-2), 2) := by decide +kernel
theorem dX9_refuseDayOf_10 : decode cX9_refuseDayOf 10 = .ok (.ireturn, 1) := by decide +kernel
theorem dX9_refuseDayOf_11 : decode cX9_refuseDayOf 11 = .ok (.iload_n 2, 1) := by decide +kernel
theorem dX9_refuseDayOf_12 : decode cX9_refuseDayOf 12 = .ok (.bipush 61, 2) := by decide +kernel
theorem dX9_refuseDayOf_14 : decode cX9_refuseDayOf 14 = .ok (.invokestatic 93, 3) := by decide +kernel
theorem dX9_refuseDayOf_17 : decode cX9_refuseDayOf 17 = .ok (.ifCond .eq 7, 3) := by decide +kernel
theorem dX9_refuseDayOf_20 : decode cX9_refuseDayOf 20 = .ok (.iconst 0, 1) := by decide +kernel
theorem dX9_refuseDayOf_21 : decode cX9_refuseDayOf 21 = .ok (.goto 5, 3) := by decide +kernel
theorem dX9_refuseDayOf_24 : decode cX9_refuseDayOf 24 = .ok (.bipush (-3), 2) := by decide +kernel
theorem dX9_refuseDayOf_26 : decode cX9_refuseDayOf 26 = .ok (.ireturn, 1) := by decide +kernel
theorem dX9_refuseTopic_0 : decode cX9_refuseTopic 0 = .ok (.iload_n 0, 1) := by decide +kernel
theorem dX9_refuseTopic_1 : decode cX9_refuseTopic 1 = .ok (.bipush 8, 2) := by decide +kernel
theorem dX9_refuseTopic_3 : decode cX9_refuseTopic 3 = .ok (.invokestatic 93, 3) := by decide +kernel
theorem dX9_refuseTopic_6 : decode cX9_refuseTopic 6 = .ok (.ifCond .eq 11, 3) := by decide +kernel
theorem dX9_refuseTopic_9 : decode cX9_refuseTopic 9 = .ok (.iload_n 1, 1) := by decide +kernel
theorem dX9_refuseTopic_10 : decode cX9_refuseTopic 10 = .ok (.iconst 4, 1) := by decide +kernel
theorem dX9_refuseTopic_11 : decode cX9_refuseTopic 11 = .ok (.invokestatic 93, 3) := by decide +kernel
theorem dX9_refuseTopic_14 : decode cX9_refuseTopic 14 = .ok (.ifCond .ne 6, 3) := by decide +kernel
theorem dX9_refuseTopic_17 : decode cX9_refuseTopic 17 = .ok (.bipush (-2), 2) := by decide +kernel
theorem dX9_refuseTopic_19 : decode cX9_refuseTopic 19 = .ok (.ireturn, 1) := by decide +kernel
theorem dX9_refuseTopic_20 : decode cX9_refuseTopic 20 = .ok (.iload_n 2, 1) := by decide +kernel
theorem dX9_refuseTopic_21 : decode cX9_refuseTopic 21 = .ok (.bipush 61, 2) := by decide +kernel
theorem dX9_refuseTopic_23 : decode cX9_refuseTopic 23 = .ok (.invokestatic 93, 3) := by decide +kernel
theorem dX9_refuseTopic_26 : decode cX9_refuseTopic 26 = .ok (.ifCond .eq 7, 3) := by decide +kernel
theorem dX9_refuseTopic_29 : decode cX9_refuseTopic 29 = .ok (.iconst 0, 1) := by decide +kernel
theorem dX9_refuseTopic_30 : decode cX9_refuseTopic 30 = .ok (.goto 5, 3) := by decide +kernel
theorem dX9_refuseTopic_33 : decode cX9_refuseTopic 33 = .ok (.bipush (-3), 2) := by decide +kernel
theorem dX9_refuseTopic_35 : decode cX9_refuseTopic 35 = .ok (.ireturn, 1) := by decide +kernel
theorem dX9_refuseReading_0 : decode cX9_refuseReading 0 = .ok (.iload_n 0, 1) := by decide +kernel
theorem dX9_refuseReading_1 : decode cX9_refuseReading 1 = .ok (.iconst 2, 1) := by decide +kernel
theorem dX9_refuseReading_2 : decode cX9_refuseReading 2 = .ok (.invokestatic 93, 3) := by decide +kernel
theorem dX9_refuseReading_5 : decode cX9_refuseReading 5 = .ok (.ifCond .ne 6, 3) := by decide +kernel
theorem dX9_refuseReading_8 : decode cX9_refuseReading 8 = .ok (.bipush (-2), 2) := by decide +kernel
theorem dX9_refuseReading_10 : decode cX9_refuseReading 10 = .ok (.ireturn, 1) := by decide +kernel
theorem dX9_refuseReading_11 : decode cX9_refuseReading 11 = .ok (.iload_n 1, 1) := by decide +kernel
theorem dX9_refuseReading_12 : decode cX9_refuseReading 12 = .ok (.iload_n 2, 1) := by decide +kernel
theorem dX9_refuseReading_13 : decode cX9_refuseReading 13 = .ok (.iload_n 3, 1) := by decide +kernel
theorem dX9_refuseReading_14 : decode cX9_refuseReading 14 = .ok (.invokestatic 107, 3) := by decide +kernel
theorem dX9_refuseReading_17 : decode cX9_refuseReading 17 = .ok (.istore 5, 2) := by decide +kernel
theorem dX9_refuseReading_19 : decode cX9_refuseReading 19 = .ok (.iload 5, 2) := by decide +kernel
theorem dX9_refuseReading_21 : decode cX9_refuseReading 21 = .ok (.ifCond .ne 18, 3) := by decide +kernel
theorem dX9_refuseReading_24 : decode cX9_refuseReading 24 = .ok (.iload 4, 2) := by decide +kernel
theorem dX9_refuseReading_26 : decode cX9_refuseReading 26 = .ok (.bipush 61, 2) := by decide +kernel
theorem dX9_refuseReading_28 : decode cX9_refuseReading 28 = .ok (.invokestatic 93, 3) := by decide +kernel
theorem dX9_refuseReading_31 : decode cX9_refuseReading 31 = .ok (.ifCond .ne 8, 3) := by decide +kernel
theorem dX9_refuseReading_34 : decode cX9_refuseReading 34 = .ok (.bipush (-3), 2) := by decide +kernel
theorem dX9_refuseReading_36 : decode cX9_refuseReading 36 = .ok (.goto 5, 3) := by decide +kernel
theorem dX9_refuseReading_39 : decode cX9_refuseReading 39 = .ok (.iload 5, 2) := by decide +kernel
theorem dX9_refuseReading_41 : decode cX9_refuseReading 41 = .ok (.ireturn, 1) := by decide +kernel
theorem dX9_refuseLetter_0 : decode cX9_refuseLetter 0 = .ok (.iload_n 0, 1) := by decide +kernel
theorem dX9_refuseLetter_1 : decode cX9_refuseLetter 1 = .ok (.bipush 6, 2) := by decide +kernel
theorem dX9_refuseLetter_3 : decode cX9_refuseLetter 3 = .ok (.invokestatic 93, 3) := by decide +kernel
theorem dX9_refuseLetter_6 : decode cX9_refuseLetter 6 = .ok (.ifCond .eq 11, 3) := by decide +kernel
theorem dX9_refuseLetter_9 : decode cX9_refuseLetter 9 = .ok (.iload_n 2, 1) := by decide +kernel
theorem dX9_refuseLetter_10 : decode cX9_refuseLetter 10 = .ok (.iconst 3, 1) := by decide +kernel
theorem dX9_refuseLetter_11 : decode cX9_refuseLetter 11 = .ok (.invokestatic 93, 3) := by decide +kernel
theorem dX9_refuseLetter_14 : decode cX9_refuseLetter 14 = .ok (.ifCond .ne 6, 3) := by decide +kernel
theorem dX9_refuseLetter_17 : decode cX9_refuseLetter 17 = .ok (.bipush (-2), 2) := by decide +kernel
theorem dX9_refuseLetter_19 : decode cX9_refuseLetter 19 = .ok (.ireturn, 1) := by decide +kernel
theorem dX9_refuseLetter_20 : decode cX9_refuseLetter 20 = .ok (.iload_n 3, 1) := by decide +kernel
theorem dX9_refuseLetter_21 : decode cX9_refuseLetter 21 = .ok (.iload 4, 2) := by decide +kernel
theorem dX9_refuseLetter_23 : decode cX9_refuseLetter 23 = .ok (.iload 5, 2) := by decide +kernel
theorem dX9_refuseLetter_25 : decode cX9_refuseLetter 25 = .ok (.invokestatic 107, 3) := by decide +kernel
theorem dX9_refuseLetter_28 : decode cX9_refuseLetter 28 = .ok (.istore 7, 2) := by decide +kernel
theorem dX9_refuseLetter_30 : decode cX9_refuseLetter 30 = .ok (.iload 7, 2) := by decide +kernel
theorem dX9_refuseLetter_32 : decode cX9_refuseLetter 32 = .ok (.ifCond .ne 27, 3) := by decide +kernel
theorem dX9_refuseLetter_35 : decode cX9_refuseLetter 35 = .ok (.iload_n 1, 1) := by decide +kernel
theorem dX9_refuseLetter_36 : decode cX9_refuseLetter 36 = .ok (.bipush 61, 2) := by decide +kernel
theorem dX9_refuseLetter_38 : decode cX9_refuseLetter 38 = .ok (.invokestatic 93, 3) := by decide +kernel
theorem dX9_refuseLetter_41 : decode cX9_refuseLetter 41 = .ok (.ifCond .eq 13, 3) := by decide +kernel
theorem dX9_refuseLetter_44 : decode cX9_refuseLetter 44 = .ok (.iload 6, 2) := by decide +kernel
theorem dX9_refuseLetter_46 : decode cX9_refuseLetter 46 = .ok (.bipush 10, 2) := by decide +kernel
theorem dX9_refuseLetter_48 : decode cX9_refuseLetter 48 = .ok (.invokestatic 93, 3) := by decide +kernel
theorem dX9_refuseLetter_51 : decode cX9_refuseLetter 51 = .ok (.ifCond .ne 8, 3) := by decide +kernel
theorem dX9_refuseLetter_54 : decode cX9_refuseLetter 54 = .ok (.bipush (-3), 2) := by decide +kernel
theorem dX9_refuseLetter_56 : decode cX9_refuseLetter 56 = .ok (.goto 5, 3) := by decide +kernel
theorem dX9_refuseLetter_59 : decode cX9_refuseLetter 59 = .ok (.iload 7, 2) := by decide +kernel
theorem dX9_refuseLetter_61 : decode cX9_refuseLetter 61 = .ok (.ireturn, 1) := by decide +kernel
theorem dX9_topicOf_0 : decode cX9_topicOf 0 = .ok (.iload_n 0, 1) := by decide +kernel
theorem dX9_topicOf_1 : decode cX9_topicOf 1 = .ok (.iconst 4, 1) := by decide +kernel
theorem dX9_topicOf_2 : decode cX9_topicOf 2 = .ok (.imul, 1) := by decide +kernel
theorem dX9_topicOf_3 : decode cX9_topicOf 3 = .ok (.iload_n 1, 1) := by decide +kernel
theorem dX9_topicOf_4 : decode cX9_topicOf 4 = .ok (.iadd, 1) := by decide +kernel
theorem dX9_topicOf_5 : decode cX9_topicOf 5 = .ok (.bipush 61, 2) := by decide +kernel
theorem dX9_topicOf_7 : decode cX9_topicOf 7 = .ok (.imul, 1) := by decide +kernel
theorem dX9_topicOf_8 : decode cX9_topicOf 8 = .ok (.iload_n 2, 1) := by decide +kernel
theorem dX9_topicOf_9 : decode cX9_topicOf 9 = .ok (.iadd, 1) := by decide +kernel
theorem dX9_topicOf_10 : decode cX9_topicOf 10 = .ok (.ireturn, 1) := by decide +kernel
theorem dX9_placeOf_0 : decode cX9_placeOf 0 = .ok (.iload_n 0, 1) := by decide +kernel
theorem dX9_placeOf_1 : decode cX9_placeOf 1 = .ok (.sipush 244, 3) := by decide +kernel
theorem dX9_placeOf_4 : decode cX9_placeOf 4 = .ok (.idiv, 1) := by decide +kernel
theorem dX9_placeOf_5 : decode cX9_placeOf 5 = .ok (.ireturn, 1) := by decide +kernel
theorem dX9_kindOf_0 : decode cX9_kindOf 0 = .ok (.iload_n 0, 1) := by decide +kernel
theorem dX9_kindOf_1 : decode cX9_kindOf 1 = .ok (.bipush 61, 2) := by decide +kernel
theorem dX9_kindOf_3 : decode cX9_kindOf 3 = .ok (.idiv, 1) := by decide +kernel
theorem dX9_kindOf_4 : decode cX9_kindOf 4 = .ok (.iconst 4, 1) := by decide +kernel
theorem dX9_kindOf_5 : decode cX9_kindOf 5 = .ok (.irem, 1) := by decide +kernel
theorem dX9_kindOf_6 : decode cX9_kindOf 6 = .ok (.ireturn, 1) := by decide +kernel
theorem dX9_dayOf_0 : decode cX9_dayOf 0 = .ok (.iload_n 0, 1) := by decide +kernel
theorem dX9_dayOf_1 : decode cX9_dayOf 1 = .ok (.bipush 61, 2) := by decide +kernel
theorem dX9_dayOf_3 : decode cX9_dayOf 3 = .ok (.irem, 1) := by decide +kernel
theorem dX9_dayOf_4 : decode cX9_dayOf 4 = .ok (.ireturn, 1) := by decide +kernel
theorem dX10_init_0 : decode cX10_init 0 = .ok (.aload_n 0, 1) := by decide +kernel
theorem dX10_init_1 : decode cX10_init 1 = .ok (.invokespecial 1, 3) := by decide +kernel
theorem dX10_init_4 : decode cX10_init 4 = .ok (.aload_n 0, 1) := by decide +kernel
theorem dX10_init_5 : decode cX10_init 5 = .ok (.bipush 8, 2) := by decide +kernel
theorem dX10_init_7 : decode cX10_init 7 = .ok (.newarray .int, 2) := by decide +kernel
theorem dX10_init_9 : decode cX10_init 9 = .ok (.dup, 1) := by decide +kernel
theorem dX10_init_10 : decode cX10_init 10 = .ok (.iconst 0, 1) := by decide +kernel
theorem dX10_init_11 : decode cX10_init 11 = .ok (.iconst 1, 1) := by decide +kernel
theorem dX10_init_12 : decode cX10_init 12 = .ok (.iastore, 1) := by decide +kernel
theorem dX10_init_13 : decode cX10_init 13 = .ok (.dup, 1) := by decide +kernel
theorem dX10_init_14 : decode cX10_init 14 = .ok (.iconst 1, 1) := by decide +kernel
theorem dX10_init_15 : decode cX10_init 15 = .ok (.iconst 2, 1) := by decide +kernel
theorem dX10_init_16 : decode cX10_init 16 = .ok (.iastore, 1) := by decide +kernel
theorem dX10_init_17 : decode cX10_init 17 = .ok (.dup, 1) := by decide +kernel
theorem dX10_init_18 : decode cX10_init 18 = .ok (.iconst 2, 1) := by decide +kernel
theorem dX10_init_19 : decode cX10_init 19 = .ok (.iconst 4, 1) := by decide +kernel
theorem dX10_init_20 : decode cX10_init 20 = .ok (.iastore, 1) := by decide +kernel
theorem dX10_init_21 : decode cX10_init 21 = .ok (.dup, 1) := by decide +kernel
theorem dX10_init_22 : decode cX10_init 22 = .ok (.iconst 3, 1) := by decide +kernel
theorem dX10_init_23 : decode cX10_init 23 = .ok (.bipush 8, 2) := by decide +kernel
theorem dX10_init_25 : decode cX10_init 25 = .ok (.iastore, 1) := by decide +kernel
theorem dX10_init_26 : decode cX10_init 26 = .ok (.dup, 1) := by decide +kernel
theorem dX10_init_27 : decode cX10_init 27 = .ok (.iconst 4, 1) := by decide +kernel
theorem dX10_init_28 : decode cX10_init 28 = .ok (.bipush 16, 2) := by decide +kernel
theorem dX10_init_30 : decode cX10_init 30 = .ok (.iastore, 1) := by decide +kernel
theorem dX10_init_31 : decode cX10_init 31 = .ok (.dup, 1) := by decide +kernel
theorem dX10_init_32 : decode cX10_init 32 = .ok (.iconst 5, 1) := by decide +kernel
theorem dX10_init_33 : decode cX10_init 33 = .ok (.bipush 32, 2) := by decide +kernel
theorem dX10_init_35 : decode cX10_init 35 = .ok (.iastore, 1) := by decide +kernel
theorem dX10_init_36 : decode cX10_init 36 = .ok (.dup, 1) := by decide +kernel
theorem dX10_init_37 : decode cX10_init 37 = .ok (.bipush 6, 2) := by decide +kernel
theorem dX10_init_39 : decode cX10_init 39 = .ok (.bipush 64, 2) := by decide +kernel
theorem dX10_init_41 : decode cX10_init 41 = .ok (.iastore, 1) := by decide +kernel
theorem dX10_init_42 : decode cX10_init 42 = .ok (.dup, 1) := by decide +kernel
theorem dX10_init_43 : decode cX10_init 43 = .ok (.bipush 7, 2) := by decide +kernel
theorem dX10_init_45 : decode cX10_init 45 = .ok (.sipush 128, 3) := by decide +kernel
theorem dX10_init_48 : decode cX10_init 48 = .ok (.iastore, 1) := by decide +kernel
theorem dX10_init_49 : decode cX10_init 49 = .ok (.putfield 7, 3) := by decide +kernel
theorem dX10_init_52 : decode cX10_init 52 = .ok (.aload_n 0, 1) := by decide +kernel
theorem dX10_init_53 : decode cX10_init 53 = .ok (.bipush 16, 2) := by decide +kernel
theorem dX10_init_55 : decode cX10_init 55 = .ok (.newarray .int, 2) := by decide +kernel
theorem dX10_init_57 : decode cX10_init 57 = .ok (.putfield 13, 3) := by decide +kernel
theorem dX10_init_60 : decode cX10_init 60 = .ok (.aload_n 0, 1) := by decide +kernel
theorem dX10_init_61 : decode cX10_init 61 = .ok (.bipush 16, 2) := by decide +kernel
theorem dX10_init_63 : decode cX10_init 63 = .ok (.newarray .int, 2) := by decide +kernel
theorem dX10_init_65 : decode cX10_init 65 = .ok (.putfield 16, 3) := by decide +kernel
theorem dX10_init_68 : decode cX10_init 68 = .ok (.aload_n 0, 1) := by decide +kernel
theorem dX10_init_69 : decode cX10_init 69 = .ok (.bipush 16, 2) := by decide +kernel
theorem dX10_init_71 : decode cX10_init 71 = .ok (.newarray .int, 2) := by decide +kernel
theorem dX10_init_73 : decode cX10_init 73 = .ok (.putfield 19, 3) := by decide +kernel
theorem dX10_init_76 : decode cX10_init 76 = .ok (.aload_n 0, 1) := by decide +kernel
theorem dX10_init_77 : decode cX10_init 77 = .ok (.bipush 16, 2) := by decide +kernel
theorem dX10_init_79 : decode cX10_init 79 = .ok (.newarray .int, 2) := by decide +kernel
theorem dX10_init_81 : decode cX10_init 81 = .ok (.putfield 22, 3) := by decide +kernel
theorem dX10_init_84 : decode cX10_init 84 = .ok (.aload_n 0, 1) := by decide +kernel
theorem dX10_init_85 : decode cX10_init 85 = .ok (.bipush 16, 2) := by decide +kernel
theorem dX10_init_87 : decode cX10_init 87 = .ok (.newarray .int, 2) := by decide +kernel
theorem dX10_init_89 : decode cX10_init 89 = .ok (.putfield 25, 3) := by decide +kernel
theorem dX10_init_92 : decode cX10_init 92 = .ok (.aload_n 0, 1) := by decide +kernel
theorem dX10_init_93 : decode cX10_init 93 = .ok (.bipush 16, 2) := by decide +kernel
theorem dX10_init_95 : decode cX10_init 95 = .ok (.newarray .boolean, 2) := by decide +kernel
theorem dX10_init_97 : decode cX10_init 97 = .ok (.putfield 28, 3) := by decide +kernel
theorem dX10_init_100 : decode cX10_init 100 = .ok (.aload_n 0, 1) := by decide +kernel
theorem dX10_init_101 : decode cX10_init 101 = .ok (.bipush 6, 2) := by decide +kernel
theorem dX10_init_103 : decode cX10_init 103 = .ok (.newarray .int, 2) := by decide +kernel
theorem dX10_init_105 : decode cX10_init 105 = .ok (.putfield 32, 3) := by decide +kernel
theorem dX10_init_108 : decode cX10_init 108 = .ok (.aload_n 0, 1) := by decide +kernel
theorem dX10_init_109 : decode cX10_init 109 = .ok (.sipush 160, 3) := by decide +kernel
theorem dX10_init_112 : decode cX10_init 112 = .ok (.newarray .int, 2) := by decide +kernel
theorem dX10_init_114 : decode cX10_init 114 = .ok (.putfield 35, 3) := by decide +kernel
theorem dX10_init_117 : decode cX10_init 117 = .ok (.aload_n 0, 1) := by decide +kernel
theorem dX10_init_118 : decode cX10_init 118 = .ok (.bipush 7, 2) := by decide +kernel
theorem dX10_init_120 : decode cX10_init 120 = .ok (.newarray .int, 2) := by decide +kernel
theorem dX10_init_122 : decode cX10_init 122 = .ok (.putfield 38, 3) := by decide +kernel
theorem dX10_init_125 : decode cX10_init 125 = .ok (.aload_n 0, 1) := by decide +kernel
theorem dX10_init_126 : decode cX10_init 126 = .ok (.bipush 56, 2) := by decide +kernel
theorem dX10_init_128 : decode cX10_init 128 = .ok (.newarray .int, 2) := by decide +kernel
theorem dX10_init_130 : decode cX10_init 130 = .ok (.putfield 41, 3) := by decide +kernel
theorem dX10_init_133 : decode cX10_init 133 = .ok (.aload_n 0, 1) := by decide +kernel
theorem dX10_init_134 : decode cX10_init 134 = .ok (.bipush 56, 2) := by decide +kernel
theorem dX10_init_136 : decode cX10_init 136 = .ok (.newarray .int, 2) := by decide +kernel
theorem dX10_init_138 : decode cX10_init 138 = .ok (.putfield 44, 3) := by decide +kernel
theorem dX10_init_141 : decode cX10_init 141 = .ok (.aload_n 0, 1) := by decide +kernel
theorem dX10_init_142 : decode cX10_init 142 = .ok (.bipush 56, 2) := by decide +kernel
theorem dX10_init_144 : decode cX10_init 144 = .ok (.newarray .int, 2) := by decide +kernel
theorem dX10_init_146 : decode cX10_init 146 = .ok (.putfield 47, 3) := by decide +kernel
theorem dX10_init_149 : decode cX10_init 149 = .ok (.aload_n 0, 1) := by decide +kernel
theorem dX10_init_150 : decode cX10_init 150 = .ok (.bipush 18, 2) := by decide +kernel
theorem dX10_init_152 : decode cX10_init 152 = .ok (.newarray .int, 2) := by decide +kernel
theorem dX10_init_154 : decode cX10_init 154 = .ok (.dup, 1) := by decide +kernel
theorem dX10_init_155 : decode cX10_init 155 = .ok (.iconst 0, 1) := by decide +kernel
theorem dX10_init_156 : decode cX10_init 156 = .ok (.bipush 50, 2) := by decide +kernel
theorem dX10_init_158 : decode cX10_init 158 = .ok (.iastore, 1) := by decide +kernel
theorem dX10_init_159 : decode cX10_init 159 = .ok (.dup, 1) := by decide +kernel
theorem dX10_init_160 : decode cX10_init 160 = .ok (.iconst 1, 1) := by decide +kernel
theorem dX10_init_161 : decode cX10_init 161 = .ok (.bipush 10, 2) := by decide +kernel
theorem dX10_init_163 : decode cX10_init 163 = .ok (.iastore, 1) := by decide +kernel
theorem dX10_init_164 : decode cX10_init 164 = .ok (.dup, 1) := by decide +kernel
theorem dX10_init_165 : decode cX10_init 165 = .ok (.iconst 2, 1) := by decide +kernel
theorem dX10_init_166 : decode cX10_init 166 = .ok (.bipush 30, 2) := by decide +kernel
theorem dX10_init_168 : decode cX10_init 168 = .ok (.iastore, 1) := by decide +kernel
theorem dX10_init_169 : decode cX10_init 169 = .ok (.dup, 1) := by decide +kernel
theorem dX10_init_170 : decode cX10_init 170 = .ok (.iconst 3, 1) := by decide +kernel
theorem dX10_init_171 : decode cX10_init 171 = .ok (.iconst 0, 1) := by decide +kernel
theorem dX10_init_172 : decode cX10_init 172 = .ok (.iastore, 1) := by decide +kernel
theorem dX10_init_173 : decode cX10_init 173 = .ok (.dup, 1) := by decide +kernel
theorem dX10_init_174 : decode cX10_init 174 = .ok (.iconst 4, 1) := by decide +kernel
theorem dX10_init_175 : decode cX10_init 175 = .ok (.iconst 0, 1) := by decide +kernel
theorem dX10_init_176 : decode cX10_init 176 = .ok (.iastore, 1) := by decide +kernel
theorem dX10_init_177 : decode cX10_init 177 = .ok (.dup, 1) := by decide +kernel
theorem dX10_init_178 : decode cX10_init 178 = .ok (.iconst 5, 1) := by decide +kernel
theorem dX10_init_179 : decode cX10_init 179 = .ok (.bipush 40, 2) := by decide +kernel
theorem dX10_init_181 : decode cX10_init 181 = .ok (.iastore, 1) := by decide +kernel
theorem dX10_init_182 : decode cX10_init 182 = .ok (.dup, 1) := by decide +kernel
theorem dX10_init_183 : decode cX10_init 183 = .ok (.bipush 6, 2) := by decide +kernel
theorem dX10_init_185 : decode cX10_init 185 = .ok (.bipush 50, 2) := by decide +kernel
theorem dX10_init_187 : decode cX10_init 187 = .ok (.iastore, 1) := by decide +kernel
theorem dX10_init_188 : decode cX10_init 188 = .ok (.dup, 1) := by decide +kernel
theorem dX10_init_189 : decode cX10_init 189 = .ok (.bipush 7, 2) := by decide +kernel
theorem dX10_init_191 : decode cX10_init 191 = .ok (.bipush 10, 2) := by decide +kernel
theorem dX10_init_193 : decode cX10_init 193 = .ok (.iastore, 1) := by decide +kernel
theorem dX10_init_194 : decode cX10_init 194 = .ok (.dup, 1) := by decide +kernel
theorem dX10_init_195 : decode cX10_init 195 = .ok (.bipush 8, 2) := by decide +kernel
theorem dX10_init_197 : decode cX10_init 197 = .ok (.bipush 30, 2) := by decide +kernel
theorem dX10_init_199 : decode cX10_init 199 = .ok (.iastore, 1) := by decide +kernel
theorem dX10_init_200 : decode cX10_init 200 = .ok (.dup, 1) := by decide +kernel
theorem dX10_init_201 : decode cX10_init 201 = .ok (.bipush 9, 2) := by decide +kernel
theorem dX10_init_203 : decode cX10_init 203 = .ok (.iconst 0, 1) := by decide +kernel
theorem dX10_init_204 : decode cX10_init 204 = .ok (.iastore, 1) := by decide +kernel
theorem dX10_init_205 : decode cX10_init 205 = .ok (.dup, 1) := by decide +kernel
theorem dX10_init_206 : decode cX10_init 206 = .ok (.bipush 10, 2) := by decide +kernel
theorem dX10_init_208 : decode cX10_init 208 = .ok (.iconst 0, 1) := by decide +kernel
theorem dX10_init_209 : decode cX10_init 209 = .ok (.iastore, 1) := by decide +kernel
theorem dX10_init_210 : decode cX10_init 210 = .ok (.dup, 1) := by decide +kernel
theorem dX10_init_211 : decode cX10_init 211 = .ok (.bipush 11, 2) := by decide +kernel
theorem dX10_init_213 : decode cX10_init 213 = .ok (.bipush 40, 2) := by decide +kernel
theorem dX10_init_215 : decode cX10_init 215 = .ok (.iastore, 1) := by decide +kernel
theorem dX10_init_216 : decode cX10_init 216 = .ok (.dup, 1) := by decide +kernel
theorem dX10_init_217 : decode cX10_init 217 = .ok (.bipush 12, 2) := by decide +kernel
theorem dX10_init_219 : decode cX10_init 219 = .ok (.bipush 50, 2) := by decide +kernel
theorem dX10_init_221 : decode cX10_init 221 = .ok (.iastore, 1) := by decide +kernel
theorem dX10_init_222 : decode cX10_init 222 = .ok (.dup, 1) := by decide +kernel
theorem dX10_init_223 : decode cX10_init 223 = .ok (.bipush 13, 2) := by decide +kernel
theorem dX10_init_225 : decode cX10_init 225 = .ok (.bipush 10, 2) := by decide +kernel
theorem dX10_init_227 : decode cX10_init 227 = .ok (.iastore, 1) := by decide +kernel
theorem dX10_init_228 : decode cX10_init 228 = .ok (.dup, 1) := by decide +kernel
theorem dX10_init_229 : decode cX10_init 229 = .ok (.bipush 14, 2) := by decide +kernel
theorem dX10_init_231 : decode cX10_init 231 = .ok (.bipush 30, 2) := by decide +kernel
theorem dX10_init_233 : decode cX10_init 233 = .ok (.iastore, 1) := by decide +kernel
theorem dX10_init_234 : decode cX10_init 234 = .ok (.dup, 1) := by decide +kernel
theorem dX10_init_235 : decode cX10_init 235 = .ok (.bipush 15, 2) := by decide +kernel
theorem dX10_init_237 : decode cX10_init 237 = .ok (.iconst 0, 1) := by decide +kernel
theorem dX10_init_238 : decode cX10_init 238 = .ok (.iastore, 1) := by decide +kernel
theorem dX10_init_239 : decode cX10_init 239 = .ok (.dup, 1) := by decide +kernel
theorem dX10_init_240 : decode cX10_init 240 = .ok (.bipush 16, 2) := by decide +kernel
theorem dX10_init_242 : decode cX10_init 242 = .ok (.iconst 0, 1) := by decide +kernel
theorem dX10_init_243 : decode cX10_init 243 = .ok (.iastore, 1) := by decide +kernel
theorem dX10_init_244 : decode cX10_init 244 = .ok (.dup, 1) := by decide +kernel
theorem dX10_init_245 : decode cX10_init 245 = .ok (.bipush 17, 2) := by decide +kernel
theorem dX10_init_247 : decode cX10_init 247 = .ok (.bipush 40, 2) := by decide +kernel
theorem dX10_init_249 : decode cX10_init 249 = .ok (.iastore, 1) := by decide +kernel
theorem dX10_init_250 : decode cX10_init 250 = .ok (.putfield 50, 3) := by decide +kernel
theorem dX10_init_253 : decode cX10_init 253 = .ok (.aload_n 0, 1) := by decide +kernel
theorem dX10_init_254 : decode cX10_init 254 = .ok (.iconst 3, 1) := by decide +kernel
theorem dX10_init_255 : decode cX10_init 255 = .ok (.newarray .int, 2) := by decide +kernel
theorem dX10_init_257 : decode cX10_init 257 = .ok (.dup, 1) := by decide +kernel
theorem dX10_init_258 : decode cX10_init 258 = .ok (.iconst 0, 1) := by decide +kernel
theorem dX10_init_259 : decode cX10_init 259 = .ok (.iconst 3, 1) := by decide +kernel
theorem dX10_init_260 : decode cX10_init 260 = .ok (.iastore, 1) := by decide +kernel
theorem dX10_init_261 : decode cX10_init 261 = .ok (.dup, 1) := by decide +kernel
theorem dX10_init_262 : decode cX10_init 262 = .ok (.iconst 1, 1) := by decide +kernel
theorem dX10_init_263 : decode cX10_init 263 = .ok (.iconst 0, 1) := by decide +kernel
theorem dX10_init_264 : decode cX10_init 264 = .ok (.iastore, 1) := by decide +kernel
theorem dX10_init_265 : decode cX10_init 265 = .ok (.dup, 1) := by decide +kernel
theorem dX10_init_266 : decode cX10_init 266 = .ok (.iconst 2, 1) := by decide +kernel
theorem dX10_init_267 : decode cX10_init 267 = .ok (.bipush 9, 2) := by decide +kernel
theorem dX10_init_269 : decode cX10_init 269 = .ok (.iastore, 1) := by decide +kernel
theorem dX10_init_270 : decode cX10_init 270 = .ok (.putfield 53, 3) := by decide +kernel
theorem dX10_init_273 : decode cX10_init 273 = .ok (.aload_n 0, 1) := by decide +kernel
theorem dX10_init_274 : decode cX10_init 274 = .ok (.bipush 34, 2) := by decide +kernel
theorem dX10_init_276 : decode cX10_init 276 = .ok (.newarray .int, 2) := by decide +kernel
theorem dX10_init_278 : decode cX10_init 278 = .ok (.putfield 56, 3) := by decide +kernel
theorem dX10_init_281 : decode cX10_init 281 = .ok (.aload_n 0, 1) := by decide +kernel
theorem dX10_init_282 : decode cX10_init 282 = .ok (.bipush 34, 2) := by decide +kernel
theorem dX10_init_284 : decode cX10_init 284 = .ok (.newarray .int, 2) := by decide +kernel
theorem dX10_init_286 : decode cX10_init 286 = .ok (.putfield 59, 3) := by decide +kernel
theorem dX10_init_289 : decode cX10_init 289 = .ok (.aload_n 0, 1) := by decide +kernel
theorem dX10_init_290 : decode cX10_init 290 = .ok (.bipush 34, 2) := by decide +kernel
theorem dX10_init_292 : decode cX10_init 292 = .ok (.newarray .int, 2) := by decide +kernel
theorem dX10_init_294 : decode cX10_init 294 = .ok (.putfield 62, 3) := by decide +kernel
theorem dX10_init_297 : decode cX10_init 297 = .ok (.aload_n 0, 1) := by decide +kernel
theorem dX10_init_298 : decode cX10_init 298 = .ok (.bipush 34, 2) := by decide +kernel
theorem dX10_init_300 : decode cX10_init 300 = .ok (.newarray .int, 2) := by decide +kernel
theorem dX10_init_302 : decode cX10_init 302 = .ok (.putfield 65, 3) := by decide +kernel
theorem dX10_init_305 : decode cX10_init 305 = .ok (.aload_n 0, 1) := by decide +kernel
theorem dX10_init_306 : decode cX10_init 306 = .ok (.bipush 34, 2) := by decide +kernel
theorem dX10_init_308 : decode cX10_init 308 = .ok (.newarray .int, 2) := by decide +kernel
theorem dX10_init_310 : decode cX10_init 310 = .ok (.putfield 68, 3) := by decide +kernel
theorem dX10_init_313 : decode cX10_init 313 = .ok (.aload_n 0, 1) := by decide +kernel
theorem dX10_init_314 : decode cX10_init 314 = .ok (.bipush 34, 2) := by decide +kernel
theorem dX10_init_316 : decode cX10_init 316 = .ok (.newarray .int, 2) := by decide +kernel
theorem dX10_init_318 : decode cX10_init 318 = .ok (.putfield 71, 3) := by decide +kernel
theorem dX10_init_321 : decode cX10_init 321 = .ok (.aload_n 0, 1) := by decide +kernel
theorem dX10_init_322 : decode cX10_init 322 = .ok (.bipush 34, 2) := by decide +kernel
theorem dX10_init_324 : decode cX10_init 324 = .ok (.newarray .int, 2) := by decide +kernel
theorem dX10_init_326 : decode cX10_init 326 = .ok (.putfield 74, 3) := by decide +kernel
theorem dX10_init_329 : decode cX10_init 329 = .ok (.aload_n 0, 1) := by decide +kernel
theorem dX10_init_330 : decode cX10_init 330 = .ok (.bipush 10, 2) := by decide +kernel
theorem dX10_init_332 : decode cX10_init 332 = .ok (.newarray .int, 2) := by decide +kernel
theorem dX10_init_334 : decode cX10_init 334 = .ok (.putfield 77, 3) := by decide +kernel
theorem dX10_init_337 : decode cX10_init 337 = .ok (.aload_n 0, 1) := by decide +kernel
theorem dX10_init_338 : decode cX10_init 338 = .ok (.bipush 10, 2) := by decide +kernel
theorem dX10_init_340 : decode cX10_init 340 = .ok (.newarray .int, 2) := by decide +kernel
theorem dX10_init_342 : decode cX10_init 342 = .ok (.putfield 80, 3) := by decide +kernel
theorem dX10_init_345 : decode cX10_init 345 = .ok (.aload_n 0, 1) := by decide +kernel
theorem dX10_init_346 : decode cX10_init 346 = .ok (.bipush 12, 2) := by decide +kernel
theorem dX10_init_348 : decode cX10_init 348 = .ok (.newarray .int, 2) := by decide +kernel
theorem dX10_init_350 : decode cX10_init 350 = .ok (.putfield 83, 3) := by decide +kernel
theorem dX10_init_353 : decode cX10_init 353 = .ok (.aload_n 0, 1) := by decide +kernel
theorem dX10_init_354 : decode cX10_init 354 = .ok (.bipush 12, 2) := by decide +kernel
theorem dX10_init_356 : decode cX10_init 356 = .ok (.newarray .int, 2) := by decide +kernel
theorem dX10_init_358 : decode cX10_init 358 = .ok (.putfield 86, 3) := by decide +kernel
theorem dX10_init_361 : decode cX10_init 361 = .ok (.aload_n 0, 1) := by decide +kernel
theorem dX10_init_362 : decode cX10_init 362 = .ok (.bipush 12, 2) := by decide +kernel
theorem dX10_init_364 : decode cX10_init 364 = .ok (.newarray .int, 2) := by decide +kernel
theorem dX10_init_366 : decode cX10_init 366 = .ok (.putfield 89, 3) := by decide +kernel
theorem dX10_init_369 : decode cX10_init 369 = .ok (.aload_n 0, 1) := by decide +kernel
theorem dX10_init_370 : decode cX10_init 370 = .ok (.iconst 2, 1) := by decide +kernel
theorem dX10_init_371 : decode cX10_init 371 = .ok (.newarray .int, 2) := by decide +kernel
theorem dX10_init_373 : decode cX10_init 373 = .ok (.putfield 92, 3) := by decide +kernel
theorem dX10_init_376 : decode cX10_init 376 = .ok (.aload_n 0, 1) := by decide +kernel
theorem dX10_init_377 : decode cX10_init 377 = .ok (.iconst 4, 1) := by decide +kernel
theorem dX10_init_378 : decode cX10_init 378 = .ok (.newarray .int, 2) := by decide +kernel
theorem dX10_init_380 : decode cX10_init 380 = .ok (.putfield 95, 3) := by decide +kernel
theorem dX10_init_383 : decode cX10_init 383 = .ok (.aload_n 0, 1) := by decide +kernel
theorem dX10_init_384 : decode cX10_init 384 = .ok (.iconst 4, 1) := by decide +kernel
theorem dX10_init_385 : decode cX10_init 385 = .ok (.newarray .int, 2) := by decide +kernel
theorem dX10_init_387 : decode cX10_init 387 = .ok (.putfield 98, 3) := by decide +kernel
theorem dX10_init_390 : decode cX10_init 390 = .ok (.aload_n 0, 1) := by decide +kernel
theorem dX10_init_391 : decode cX10_init 391 = .ok (.iconst 4, 1) := by decide +kernel
theorem dX10_init_392 : decode cX10_init 392 = .ok (.newarray .int, 2) := by decide +kernel
theorem dX10_init_394 : decode cX10_init 394 = .ok (.putfield 101, 3) := by decide +kernel
theorem dX10_init_397 : decode cX10_init 397 = .ok (.aload_n 0, 1) := by decide +kernel
theorem dX10_init_398 : decode cX10_init 398 = .ok (.iconst 4, 1) := by decide +kernel
theorem dX10_init_399 : decode cX10_init 399 = .ok (.newarray .int, 2) := by decide +kernel
theorem dX10_init_401 : decode cX10_init 401 = .ok (.putfield 104, 3) := by decide +kernel
theorem dX10_init_404 : decode cX10_init 404 = .ok (.aload_n 0, 1) := by decide +kernel
theorem dX10_init_405 : decode cX10_init 405 = .ok (.bipush 12, 2) := by decide +kernel
theorem dX10_init_407 : decode cX10_init 407 = .ok (.newarray .int, 2) := by decide +kernel
theorem dX10_init_409 : decode cX10_init 409 = .ok (.putfield 107, 3) := by decide +kernel
theorem dX10_init_412 : decode cX10_init 412 = .ok (.aload_n 0, 1) := by decide +kernel
theorem dX10_init_413 : decode cX10_init 413 = .ok (.bipush 12, 2) := by decide +kernel
theorem dX10_init_415 : decode cX10_init 415 = .ok (.newarray .int, 2) := by decide +kernel
theorem dX10_init_417 : decode cX10_init 417 = .ok (.putfield 110, 3) := by decide +kernel
theorem dX10_init_420 : decode cX10_init 420 = .ok (.aload_n 0, 1) := by decide +kernel
theorem dX10_init_421 : decode cX10_init 421 = .ok (.bipush 12, 2) := by decide +kernel
theorem dX10_init_423 : decode cX10_init 423 = .ok (.newarray .int, 2) := by decide +kernel
theorem dX10_init_425 : decode cX10_init 425 = .ok (.putfield 113, 3) := by decide +kernel
theorem dX10_init_428 : decode cX10_init 428 = .ok (.aload_n 0, 1) := by decide +kernel
theorem dX10_init_429 : decode cX10_init 429 = .ok (.bipush 12, 2) := by decide +kernel
theorem dX10_init_431 : decode cX10_init 431 = .ok (.newarray .int, 2) := by decide +kernel
theorem dX10_init_433 : decode cX10_init 433 = .ok (.putfield 116, 3) := by decide +kernel
theorem dX10_init_436 : decode cX10_init 436 = .ok (.return_, 1) := by decide +kernel
theorem dX10_in_0 : decode cX10_in 0 = .ok (.lload_n 0, 1) := by decide +kernel
theorem dX10_in_1 : decode cX10_in 1 = .ok (.lload_n 2, 1) := by decide +kernel
theorem dX10_in_2 : decode cX10_in 2 = .ok (.lcmp, 1) := by decide +kernel
theorem dX10_in_3 : decode cX10_in 3 = .ok (.ifCond .lt 14, 3) := by decide +kernel
theorem dX10_in_6 : decode cX10_in 6 = .ok (.lload_n 0, 1) := by decide +kernel
theorem dX10_in_7 : decode cX10_in 7 = .ok (.lload 4, 2) := by decide +kernel
theorem dX10_in_9 : decode cX10_in 9 = .ok (.lcmp, 1) := by decide +kernel
theorem dX10_in_10 : decode cX10_in 10 = .ok (.ifCond .gt 7, 3) := by decide +kernel
theorem dX10_in_13 : decode cX10_in 13 = .ok (.iconst 1, 1) := by decide +kernel
theorem dX10_in_14 : decode cX10_in 14 = .ok (.goto 4, 3) := by decide +kernel
theorem dX10_in_17 : decode cX10_in 17 = .ok (.iconst 0, 1) := by decide +kernel
theorem dX10_in_18 : decode cX10_in 18 = .ok (.ireturn, 1) := by decide +kernel
theorem dX10_isPlace_0 : decode cX10_isPlace 0 = .ok (.iload_n 0, 1) := by decide +kernel
theorem dX10_isPlace_1 : decode cX10_isPlace 1 = .ok (.i2l, 1) := by decide +kernel
theorem dX10_isPlace_2 : decode cX10_isPlace 2 = .ok (.lconst 0, 1) := by decide +kernel
theorem dX10_isPlace_3 : decode cX10_isPlace 3 = .ok (.ldc2_w 119, 3) := by decide +kernel
theorem dX10_isPlace_6 : decode cX10_isPlace 6 = .ok (.invokestatic 121, 3) := by decide +kernel
theorem dX10_isPlace_9 : decode cX10_isPlace 9 = .ok (.ireturn, 1) := by decide +kernel
theorem dX10_isKind_0 : decode cX10_isKind 0 = .ok (.iload_n 0, 1) := by decide +kernel
theorem dX10_isKind_1 : decode cX10_isKind 1 = .ok (.i2l, 1) := by decide +kernel
theorem dX10_isKind_2 : decode cX10_isKind 2 = .ok (.lconst 0, 1) := by decide +kernel
theorem dX10_isKind_3 : decode cX10_isKind 3 = .ok (.ldc2_w 125, 3) := by decide +kernel
theorem dX10_isKind_6 : decode cX10_isKind 6 = .ok (.invokestatic 121, 3) := by decide +kernel
theorem dX10_isKind_9 : decode cX10_isKind 9 = .ok (.ireturn, 1) := by decide +kernel
theorem dX10_isDay_0 : decode cX10_isDay 0 = .ok (.iload_n 0, 1) := by decide +kernel
theorem dX10_isDay_1 : decode cX10_isDay 1 = .ok (.i2l, 1) := by decide +kernel
theorem dX10_isDay_2 : decode cX10_isDay 2 = .ok (.lconst 0, 1) := by decide +kernel
theorem dX10_isDay_3 : decode cX10_isDay 3 = .ok (.ldc2_w 127, 3) := by decide +kernel
theorem dX10_isDay_6 : decode cX10_isDay 6 = .ok (.invokestatic 121, 3) := by decide +kernel
theorem dX10_isDay_9 : decode cX10_isDay 9 = .ok (.ireturn, 1) := by decide +kernel
theorem dX10_isAgent_0 : decode cX10_isAgent 0 = .ok (.iload_n 0, 1) := by decide +kernel
theorem dX10_isAgent_1 : decode cX10_isAgent 1 = .ok (.i2l, 1) := by decide +kernel
theorem dX10_isAgent_2 : decode cX10_isAgent 2 = .ok (.lconst 0, 1) := by decide +kernel
theorem dX10_isAgent_3 : decode cX10_isAgent 3 = .ok (.ldc2_w 129, 3) := by decide +kernel
theorem dX10_isAgent_6 : decode cX10_isAgent 6 = .ok (.invokestatic 121, 3) := by decide +kernel
theorem dX10_isAgent_9 : decode cX10_isAgent 9 = .ok (.ireturn, 1) := by decide +kernel
theorem dX10_isReader_0 : decode cX10_isReader 0 = .ok (.iload_n 0, 1) := by decide +kernel
theorem dX10_isReader_1 : decode cX10_isReader 1 = .ok (.i2l, 1) := by decide +kernel
theorem dX10_isReader_2 : decode cX10_isReader 2 = .ok (.lconst 0, 1) := by decide +kernel
theorem dX10_isReader_3 : decode cX10_isReader 3 = .ok (.lconst 1, 1) := by decide +kernel
theorem dX10_isReader_4 : decode cX10_isReader 4 = .ok (.invokestatic 121, 3) := by decide +kernel
theorem dX10_isReader_7 : decode cX10_isReader 7 = .ok (.ireturn, 1) := by decide +kernel
theorem dX10_isWay_0 : decode cX10_isWay 0 = .ok (.iload_n 0, 1) := by decide +kernel
theorem dX10_isWay_1 : decode cX10_isWay 1 = .ok (.i2l, 1) := by decide +kernel
theorem dX10_isWay_2 : decode cX10_isWay 2 = .ok (.lconst 0, 1) := by decide +kernel
theorem dX10_isWay_3 : decode cX10_isWay 3 = .ok (.ldc2_w 131, 3) := by decide +kernel
theorem dX10_isWay_6 : decode cX10_isWay 6 = .ok (.invokestatic 121, 3) := by decide +kernel
theorem dX10_isWay_9 : decode cX10_isWay 9 = .ok (.ireturn, 1) := by decide +kernel
theorem dX10_view_0 : decode cX10_view 0 = .ok (.iload_n 1, 1) := by decide +kernel
theorem dX10_view_1 : decode cX10_view 1 = .ok (.invokestatic 133, 3) := by decide +kernel
theorem dX10_view_4 : decode cX10_view 4 = .ok (.ifCond .ne 6, 3) := by decide +kernel
theorem dX10_view_7 : decode cX10_view 7 = .ok (.bipush (-2), 2) := by decide +kernel
theorem dX10_view_9 : decode cX10_view 9 = .ok (.ireturn, 1) := by decide +kernel
theorem dX10_view_10 : decode cX10_view 10 = .ok (.iload_n 2, 1) := by decide +kernel
theorem dX10_view_11 : decode cX10_view 11 = .ok (.i2l, 1) := by decide +kernel
theorem dX10_view_12 : decode cX10_view 12 = .ok (.lconst 0, 1) := by decide +kernel
theorem dX10_view_13 : decode cX10_view 13 = .ok (.ldc2_w 137, 3) := by decide +kernel
theorem dX10_view_16 : decode cX10_view 16 = .ok (.invokestatic 121, 3) := by decide +kernel
theorem dX10_view_19 : decode cX10_view 19 = .ok (.ifCond .ne 6, 3) := by decide +kernel
theorem dX10_view_22 : decode cX10_view 22 = .ok (.bipush (-3), 2) := by decide +kernel
theorem dX10_view_24 : decode cX10_view 24 = .ok (.ireturn, 1) := by decide +kernel
theorem dX10_view_25 : decode cX10_view 25 = .ok (.aload_n 0, 1) := by decide +kernel
theorem dX10_view_26 : decode cX10_view 26 = .ok (.getfield 7, 3) := by decide +kernel
theorem dX10_view_29 : decode cX10_view 29 = .ok (.iload_n 1, 1) := by decide +kernel
theorem dX10_view_30 : decode cX10_view 30 = .ok (.iaload, 1) := by decide +kernel
theorem dX10_view_31 : decode cX10_view 31 = .ok (.istore_n 3, 1) := by decide +kernel
theorem dX10_view_32 : decode cX10_view 32 = .ok (.aload_n 0, 1) := by decide +kernel
theorem dX10_view_33 : decode cX10_view 33 = .ok (.getfield 7, 3) := by decide +kernel
theorem dX10_view_36 : decode cX10_view 36 = .ok (.iload_n 1, 1) := by decide +kernel
theorem dX10_view_37 : decode cX10_view 37 = .ok (.iload_n 2, 1) := by decide +kernel
theorem dX10_view_38 : decode cX10_view 38 = .ok (.iastore, 1) := by decide +kernel
theorem dX10_view_39 : decode cX10_view 39 = .ok (.iload_n 3, 1) := by decide +kernel
theorem dX10_view_40 : decode cX10_view 40 = .ok (.ireturn, 1) := by decide +kernel
theorem dX10_fact_0 : decode cX10_fact 0 = .ok (.iload_n 1, 1) := by decide +kernel
theorem dX10_fact_1 : decode cX10_fact 1 = .ok (.invokestatic 133, 3) := by decide +kernel
theorem dX10_fact_4 : decode cX10_fact 4 = .ok (.ifCond .eq 10, 3) := by decide +kernel
theorem dX10_fact_7 : decode cX10_fact 7 = .ok (.iload_n 2, 1) := by decide +kernel
theorem dX10_fact_8 : decode cX10_fact 8 = .ok (.invokestatic 139, 3) := by decide +kernel
theorem dX10_fact_11 : decode cX10_fact 11 = .ok (.ifCond .ne 6, 3) := by decide +kernel
theorem dX10_fact_14 : decode cX10_fact 14 = .ok (.bipush (-2), 2) := by decide +kernel
theorem dX10_fact_16 : decode cX10_fact 16 = .ok (.ireturn, 1) := by decide +kernel
theorem dX10_fact_17 : decode cX10_fact 17 = .ok (.iload_n 3, 1) := by decide +kernel
theorem dX10_fact_18 : decode cX10_fact 18 = .ok (.invokestatic 142, 3) := by decide +kernel
theorem dX10_fact_21 : decode cX10_fact 21 = .ok (.ifCond .eq 30, 3) := by decide +kernel
theorem dX10_fact_24 : decode cX10_fact 24 = .ok (.iload 4, 2) := by decide +kernel
theorem dX10_fact_26 : decode cX10_fact 26 = .ok (.i2l, 1) := by decide +kernel
theorem dX10_fact_27 : decode cX10_fact 27 = .ok (.iload_n 3, 1) := by decide +kernel
theorem dX10_fact_28 : decode cX10_fact 28 = .ok (.i2l, 1) := by decide +kernel
theorem dX10_fact_29 : decode cX10_fact 29 = .ok (.ldc2_w 127, 3) := by decide +kernel
theorem dX10_fact_32 : decode cX10_fact 32 = .ok (.invokestatic 121, 3) := by decide +kernel
theorem dX10_fact_35 : decode cX10_fact 35 = .ok (.ifCond .eq 16, 3) := by decide +kernel
theorem dX10_fact_38 : decode cX10_fact 38 = .ok (.iload 5, 2) := by decide +kernel
theorem dX10_fact_40 : decode cX10_fact 40 = .ok (.i2l, 1) := by decide +kernel
theorem dX10_fact_41 : decode cX10_fact 41 = .ok (.lconst 1, 1) := by decide +kernel
theorem dX10_fact_42 : decode cX10_fact 42 = .ok (.ldc2_w 145, 3) := by decide +kernel
theorem dX10_fact_45 : decode cX10_fact 45 = .ok (.invokestatic 121, 3) := by decide +kernel
theorem dX10_fact_48 : decode cX10_fact 48 = .ok (.ifCond .ne 6, 3) := by decide +kernel
theorem dX10_fact_51 : decode cX10_fact 51 = .ok (.bipush (-3), 2) := by decide +kernel
theorem dX10_fact_53 : decode cX10_fact 53 = .ok (.ireturn, 1) := by decide +kernel
theorem dX10_fact_54 : decode cX10_fact 54 = .ok (.aload_n 0, 1) := by decide +kernel
theorem dX10_fact_55 : decode cX10_fact 55 = .ok (.getfield 147, 3) := by decide +kernel
theorem dX10_fact_58 : decode cX10_fact 58 = .ok (.bipush 16, 2) := by decide +kernel
theorem dX10_fact_60 : decode cX10_fact 60 = .ok (.if_icmp .ne 6, 3) := by decide +kernel
theorem dX10_fact_63 : decode cX10_fact 63 = .ok (.bipush (-5), 2) := by decide +kernel
theorem dX10_fact_65 : decode cX10_fact 65 = .ok (.ireturn, 1) := by decide +kernel
theorem dX10_fact_66 : decode cX10_fact 66 = .ok (.aload_n 0, 1) := by decide +kernel
theorem dX10_fact_67 : decode cX10_fact 67 = .ok (.getfield 13, 3) := by decide +kernel
theorem dX10_fact_70 : decode cX10_fact 70 = .ok (.aload_n 0, 1) := by decide +kernel
theorem dX10_fact_71 : decode cX10_fact 71 = .ok (.getfield 147, 3) := by decide +kernel
theorem dX10_fact_74 : decode cX10_fact 74 = .ok (.iload_n 1, 1) := by decide +kernel
theorem dX10_fact_75 : decode cX10_fact 75 = .ok (.iastore, 1) := by decide +kernel
theorem dX10_fact_76 : decode cX10_fact 76 = .ok (.aload_n 0, 1) := by decide +kernel
theorem dX10_fact_77 : decode cX10_fact 77 = .ok (.getfield 16, 3) := by decide +kernel
theorem dX10_fact_80 : decode cX10_fact 80 = .ok (.aload_n 0, 1) := by decide +kernel
theorem dX10_fact_81 : decode cX10_fact 81 = .ok (.getfield 147, 3) := by decide +kernel
theorem dX10_fact_84 : decode cX10_fact 84 = .ok (.iload_n 2, 1) := by decide +kernel
theorem dX10_fact_85 : decode cX10_fact 85 = .ok (.iastore, 1) := by decide +kernel
theorem dX10_fact_86 : decode cX10_fact 86 = .ok (.aload_n 0, 1) := by decide +kernel
theorem dX10_fact_87 : decode cX10_fact 87 = .ok (.getfield 19, 3) := by decide +kernel
theorem dX10_fact_90 : decode cX10_fact 90 = .ok (.aload_n 0, 1) := by decide +kernel
theorem dX10_fact_91 : decode cX10_fact 91 = .ok (.getfield 147, 3) := by decide +kernel
theorem dX10_fact_94 : decode cX10_fact 94 = .ok (.iload_n 3, 1) := by decide +kernel
theorem dX10_fact_95 : decode cX10_fact 95 = .ok (.iastore, 1) := by decide +kernel
theorem dX10_fact_96 : decode cX10_fact 96 = .ok (.aload_n 0, 1) := by decide +kernel
theorem dX10_fact_97 : decode cX10_fact 97 = .ok (.getfield 22, 3) := by decide +kernel
theorem dX10_fact_100 : decode cX10_fact 100 = .ok (.aload_n 0, 1) := by decide +kernel
theorem dX10_fact_101 : decode cX10_fact 101 = .ok (.getfield 147, 3) := by decide +kernel
theorem dX10_fact_104 : decode cX10_fact 104 = .ok (.iload 4, 2) := by decide +kernel
theorem dX10_fact_106 : decode cX10_fact 106 = .ok (.iastore, 1) := by decide +kernel
theorem dX10_fact_107 : decode cX10_fact 107 = .ok (.aload_n 0, 1) := by decide +kernel
theorem dX10_fact_108 : decode cX10_fact 108 = .ok (.getfield 25, 3) := by decide +kernel
theorem dX10_fact_111 : decode cX10_fact 111 = .ok (.aload_n 0, 1) := by decide +kernel
theorem dX10_fact_112 : decode cX10_fact 112 = .ok (.getfield 147, 3) := by decide +kernel
theorem dX10_fact_115 : decode cX10_fact 115 = .ok (.iload 5, 2) := by decide +kernel
theorem dX10_fact_117 : decode cX10_fact 117 = .ok (.iastore, 1) := by decide +kernel
theorem dX10_fact_118 : decode cX10_fact 118 = .ok (.aload_n 0, 1) := by decide +kernel
theorem dX10_fact_119 : decode cX10_fact 119 = .ok (.getfield 28, 3) := by decide +kernel
theorem dX10_fact_122 : decode cX10_fact 122 = .ok (.aload_n 0, 1) := by decide +kernel
theorem dX10_fact_123 : decode cX10_fact 123 = .ok (.getfield 147, 3) := by decide +kernel
theorem dX10_fact_126 : decode cX10_fact 126 = .ok (.iload 6, 2) := by decide +kernel
theorem dX10_fact_128 : decode cX10_fact 128 = .ok (.bastore, 1) := by decide +kernel
theorem dX10_fact_129 : decode cX10_fact 129 = .ok (.aload_n 0, 1) := by decide +kernel
theorem dX10_fact_130 : decode cX10_fact 130 = .ok (.dup, 1) := by decide +kernel
theorem dX10_fact_131 : decode cX10_fact 131 = .ok (.getfield 147, 3) := by decide +kernel
theorem dX10_fact_134 : decode cX10_fact 134 = .ok (.iconst 1, 1) := by decide +kernel
theorem dX10_fact_135 : decode cX10_fact 135 = .ok (.iadd, 1) := by decide +kernel
theorem dX10_fact_136 : decode cX10_fact 136 = .ok (.putfield 147, 3) := by decide +kernel
theorem dX10_fact_139 : decode cX10_fact 139 = .ok (.aload_n 0, 1) := by decide +kernel
theorem dX10_fact_140 : decode cX10_fact 140 = .ok (.getfield 147, 3) := by decide +kernel
theorem dX10_fact_143 : decode cX10_fact 143 = .ok (.iconst 1, 1) := by decide +kernel
theorem dX10_fact_144 : decode cX10_fact 144 = .ok (.isub, 1) := by decide +kernel
theorem dX10_fact_145 : decode cX10_fact 145 = .ok (.ireturn, 1) := by decide +kernel
theorem dX10_worldOf_0 : decode cX10_worldOf 0 = .ok (.iconst 0, 1) := by decide +kernel
theorem dX10_worldOf_1 : decode cX10_worldOf 1 = .ok (.istore 4, 2) := by decide +kernel
theorem dX10_worldOf_3 : decode cX10_worldOf 3 = .ok (.iconst 0, 1) := by decide +kernel
theorem dX10_worldOf_4 : decode cX10_worldOf 4 = .ok (.istore 5, 2) := by decide +kernel
theorem dX10_worldOf_6 : decode cX10_worldOf 6 = .ok (.iload 5, 2) := by decide +kernel
theorem dX10_worldOf_8 : decode cX10_worldOf 8 = .ok (.aload_n 0, 1) := by decide +kernel
theorem dX10_worldOf_9 : decode cX10_worldOf 9 = .ok (.getfield 147, 3) := by decide +kernel
theorem dX10_worldOf_12 : decode cX10_worldOf 12 = .ok (.if_icmp .ge 69, 3) := by decide +kernel
theorem dX10_worldOf_15 : decode cX10_worldOf 15 = .ok (.aload_n 0, 1) := by decide +kernel
theorem dX10_worldOf_16 : decode cX10_worldOf 16 = .ok (.getfield 13, 3) := by decide +kernel
theorem dX10_worldOf_19 : decode cX10_worldOf 19 = .ok (.iload 5, 2) := by decide +kernel
theorem dX10_worldOf_21 : decode cX10_worldOf 21 = .ok (.iaload, 1) := by decide +kernel
theorem dX10_worldOf_22 : decode cX10_worldOf 22 = .ok (.iload_n 1, 1) := by decide +kernel
theorem dX10_worldOf_23 : decode cX10_worldOf 23 = .ok (.if_icmp .ne 48, 3) := by decide +kernel
theorem dX10_worldOf_26 : decode cX10_worldOf 26 = .ok (.aload_n 0, 1) := by decide +kernel
theorem dX10_worldOf_27 : decode cX10_worldOf 27 = .ok (.getfield 16, 3) := by decide +kernel
theorem dX10_worldOf_30 : decode cX10_worldOf 30 = .ok (.iload 5, 2) := by decide +kernel
theorem dX10_worldOf_32 : decode cX10_worldOf 32 = .ok (.iaload, 1) := by decide +kernel
theorem dX10_worldOf_33 : decode cX10_worldOf 33 = .ok (.iload_n 2, 1) := by decide +kernel
theorem dX10_worldOf_34 : decode cX10_worldOf 34 = .ok (.if_icmp .ne 37, 3) := by decide +kernel
theorem dX10_worldOf_37 : decode cX10_worldOf 37 = .ok (.iload_n 3, 1) := by decide +kernel
theorem dX10_worldOf_38 : decode cX10_worldOf 38 = .ok (.i2l, 1) := by decide +kernel
theorem dX10_worldOf_39 : decode cX10_worldOf 39 = .ok (.aload_n 0, 1) := by decide +kernel
theorem dX10_worldOf_40 : decode cX10_worldOf 40 = .ok (.getfield 19, 3) := by decide +kernel
theorem dX10_worldOf_43 : decode cX10_worldOf 43 = .ok (.iload 5, 2) := by decide +kernel
theorem dX10_worldOf_45 : decode cX10_worldOf 45 = .ok (.iaload, 1) := by decide +kernel
theorem dX10_worldOf_46 : decode cX10_worldOf 46 = .ok (.i2l, 1) := by decide +kernel
theorem dX10_worldOf_47 : decode cX10_worldOf 47 = .ok (.aload_n 0, 1) := by decide +kernel
theorem dX10_worldOf_48 : decode cX10_worldOf 48 = .ok (.getfield 22, 3) := by decide +kernel
theorem dX10_worldOf_51 : decode cX10_worldOf 51 = .ok (.iload 5, 2) := by decide +kernel
theorem dX10_worldOf_53 : decode cX10_worldOf 53 = .ok (.iaload, 1) := by decide +kernel
theorem dX10_worldOf_54 : decode cX10_worldOf 54 = .ok (.i2l, 1) := by decide +kernel
theorem dX10_worldOf_55 : decode cX10_worldOf 55 = .ok (.invokestatic 121, 3) := by decide +kernel
theorem dX10_worldOf_58 : decode cX10_worldOf 58 = .ok (.ifCond .eq 13, 3) := by decide +kernel
theorem dX10_worldOf_61 : decode cX10_worldOf 61 = .ok (.aload_n 0, 1) := by decide +kernel
theorem dX10_worldOf_62 : decode cX10_worldOf 62 = .ok (.getfield 25, 3) := by decide +kernel
theorem dX10_worldOf_65 : decode cX10_worldOf 65 = .ok (.iload 5, 2) := by decide +kernel
theorem dX10_worldOf_67 : decode cX10_worldOf 67 = .ok (.iaload, 1) := by decide +kernel
theorem dX10_worldOf_68 : decode cX10_worldOf 68 = .ok (.goto 5, 3) := by decide +kernel
theorem dX10_worldOf_71 : decode cX10_worldOf 71 = .ok (.iload 4, 2) := by decide +kernel
theorem dX10_worldOf_73 : decode cX10_worldOf 73 = .ok (.istore 4, 2) := by decide +kernel
theorem dX10_worldOf_75 : decode cX10_worldOf 75 = .ok (.iinc 5 1, 3) := by decide +kernel
theorem dX10_worldOf_78 : decode cX10_worldOf 78 = .ok (.goto (-72), 3) := by decide +kernel
theorem dX10_worldOf_81 : decode cX10_worldOf 81 = .ok (.iload 4, 2) := by decide +kernel
theorem dX10_worldOf_83 : decode cX10_worldOf 83 = .ok (.ireturn, 1) := by decide +kernel
theorem dX10_world_0 : decode cX10_world 0 = .ok (.iload_n 1, 1) := by decide +kernel
theorem dX10_world_1 : decode cX10_world 1 = .ok (.invokestatic 133, 3) := by decide +kernel
theorem dX10_world_4 : decode cX10_world 4 = .ok (.ifCond .eq 10, 3) := by decide +kernel
theorem dX10_world_7 : decode cX10_world 7 = .ok (.iload_n 2, 1) := by decide +kernel
theorem dX10_world_8 : decode cX10_world 8 = .ok (.invokestatic 139, 3) := by decide +kernel
theorem dX10_world_11 : decode cX10_world 11 = .ok (.ifCond .ne 6, 3) := by decide +kernel
theorem dX10_world_14 : decode cX10_world 14 = .ok (.bipush (-2), 2) := by decide +kernel
theorem dX10_world_16 : decode cX10_world 16 = .ok (.ireturn, 1) := by decide +kernel
theorem dX10_world_17 : decode cX10_world 17 = .ok (.iload_n 3, 1) := by decide +kernel
theorem dX10_world_18 : decode cX10_world 18 = .ok (.invokestatic 142, 3) := by decide +kernel
theorem dX10_world_21 : decode cX10_world 21 = .ok (.ifCond .eq 13, 3) := by decide +kernel
theorem dX10_world_24 : decode cX10_world 24 = .ok (.aload_n 0, 1) := by decide +kernel
theorem dX10_world_25 : decode cX10_world 25 = .ok (.iload_n 1, 1) := by decide +kernel
theorem dX10_world_26 : decode cX10_world 26 = .ok (.iload_n 2, 1) := by decide +kernel
theorem dX10_world_27 : decode cX10_world 27 = .ok (.iload_n 3, 1) := by decide +kernel
theorem dX10_world_28 : decode cX10_world 28 = .ok (.invokevirtual 151, 3) := by decide +kernel
theorem dX10_world_31 : decode cX10_world 31 = .ok (.goto 5, 3) := by decide +kernel
theorem dX10_world_34 : decode cX10_world 34 = .ok (.bipush (-3), 2) := by decide +kernel
theorem dX10_world_36 : decode cX10_world 36 = .ok (.ireturn, 1) := by decide +kernel
theorem dX10_home_0 : decode cX10_home 0 = .ok (.iload_n 1, 1) := by decide +kernel
theorem dX10_home_1 : decode cX10_home 1 = .ok (.invokestatic 155, 3) := by decide +kernel
theorem dX10_home_4 : decode cX10_home 4 = .ok (.ifCond .eq 10, 3) := by decide +kernel
theorem dX10_home_7 : decode cX10_home 7 = .ok (.iload_n 2, 1) := by decide +kernel
theorem dX10_home_8 : decode cX10_home 8 = .ok (.invokestatic 133, 3) := by decide +kernel
theorem dX10_home_11 : decode cX10_home 11 = .ok (.ifCond .ne 6, 3) := by decide +kernel
theorem dX10_home_14 : decode cX10_home 14 = .ok (.bipush (-2), 2) := by decide +kernel
theorem dX10_home_16 : decode cX10_home 16 = .ok (.ireturn, 1) := by decide +kernel
theorem dX10_home_17 : decode cX10_home 17 = .ok (.aload_n 0, 1) := by decide +kernel
theorem dX10_home_18 : decode cX10_home 18 = .ok (.getfield 32, 3) := by decide +kernel
theorem dX10_home_21 : decode cX10_home 21 = .ok (.iload_n 1, 1) := by decide +kernel
theorem dX10_home_22 : decode cX10_home 22 = .ok (.iaload, 1) := by decide +kernel
theorem dX10_home_23 : decode cX10_home 23 = .ok (.istore_n 3, 1) := by decide +kernel
theorem dX10_home_24 : decode cX10_home 24 = .ok (.aload_n 0, 1) := by decide +kernel
theorem dX10_home_25 : decode cX10_home 25 = .ok (.getfield 32, 3) := by decide +kernel
theorem dX10_home_28 : decode cX10_home 28 = .ok (.iload_n 1, 1) := by decide +kernel
theorem dX10_home_29 : decode cX10_home 29 = .ok (.iload_n 2, 1) := by decide +kernel
theorem dX10_home_30 : decode cX10_home 30 = .ok (.iastore, 1) := by decide +kernel
theorem dX10_home_31 : decode cX10_home 31 = .ok (.iload_n 3, 1) := by decide +kernel
theorem dX10_home_32 : decode cX10_home 32 = .ok (.ireturn, 1) := by decide +kernel
theorem dX10_write_0 : decode cX10_write 0 = .ok (.iload_n 3, 1) := by decide +kernel
theorem dX10_write_1 : decode cX10_write 1 = .ok (.i2l, 1) := by decide +kernel
theorem dX10_write_2 : decode cX10_write 2 = .ok (.lconst 1, 1) := by decide +kernel
theorem dX10_write_3 : decode cX10_write 3 = .ok (.ldc2_w 158, 3) := by decide +kernel
theorem dX10_write_6 : decode cX10_write 6 = .ok (.invokestatic 121, 3) := by decide +kernel
theorem dX10_write_9 : decode cX10_write 9 = .ok (.ifCond .ne 6, 3) := by decide +kernel
theorem dX10_write_12 : decode cX10_write 12 = .ok (.bipush (-3), 2) := by decide +kernel
theorem dX10_write_14 : decode cX10_write 14 = .ok (.ireturn, 1) := by decide +kernel
theorem dX10_write_15 : decode cX10_write 15 = .ok (.aload_n 0, 1) := by decide +kernel
theorem dX10_write_16 : decode cX10_write 16 = .ok (.getfield 160, 3) := by decide +kernel
theorem dX10_write_19 : decode cX10_write 19 = .ok (.iload_n 3, 1) := by decide +kernel
theorem dX10_write_20 : decode cX10_write 20 = .ok (.iadd, 1) := by decide +kernel
theorem dX10_write_21 : decode cX10_write 21 = .ok (.sipush 160, 3) := by decide +kernel
theorem dX10_write_24 : decode cX10_write 24 = .ok (.if_icmp .le 6, 3) := by decide +kernel
theorem dX10_write_27 : decode cX10_write 27 = .ok (.bipush (-5), 2) := by decide +kernel
theorem dX10_write_29 : decode cX10_write 29 = .ok (.ireturn, 1) := by decide +kernel
theorem dX10_write_30 : decode cX10_write 30 = .ok (.iconst 0, 1) := by decide +kernel
theorem dX10_write_31 : decode cX10_write 31 = .ok (.istore 4, 2) := by decide +kernel
theorem dX10_write_33 : decode cX10_write 33 = .ok (.iload 4, 2) := by decide +kernel
theorem dX10_write_35 : decode cX10_write 35 = .ok (.iload_n 3, 1) := by decide +kernel
theorem dX10_write_36 : decode cX10_write 36 = .ok (.if_icmp .ge 40, 3) := by decide +kernel
theorem dX10_write_39 : decode cX10_write 39 = .ok (.aload_n 0, 1) := by decide +kernel
theorem dX10_write_40 : decode cX10_write 40 = .ok (.getfield 35, 3) := by decide +kernel
theorem dX10_write_43 : decode cX10_write 43 = .ok (.aload_n 0, 1) := by decide +kernel
theorem dX10_write_44 : decode cX10_write 44 = .ok (.getfield 160, 3) := by decide +kernel
theorem dX10_write_47 : decode cX10_write 47 = .ok (.lload_n 1, 1) := by decide +kernel
theorem dX10_write_48 : decode cX10_write 48 = .ok (.bipush 8, 2) := by decide +kernel
theorem dX10_write_50 : decode cX10_write 50 = .ok (.iload 4, 2) := by decide +kernel
theorem dX10_write_52 : decode cX10_write 52 = .ok (.imul, 1) := by decide +kernel
theorem dX10_write_53 : decode cX10_write 53 = .ok (.lshr, 1) := by decide +kernel
theorem dX10_write_54 : decode cX10_write 54 = .ok (.ldc2_w 137, 3) := by decide +kernel
theorem dX10_write_57 : decode cX10_write 57 = .ok (.land, 1) := by decide +kernel
theorem dX10_write_58 : decode cX10_write 58 = .ok (.l2i, 1) := by decide +kernel
theorem dX10_write_59 : decode cX10_write 59 = .ok (.iastore, 1) := by decide +kernel
theorem dX10_write_60 : decode cX10_write 60 = .ok (.aload_n 0, 1) := by decide +kernel
theorem dX10_write_61 : decode cX10_write 61 = .ok (.dup, 1) := by decide +kernel
theorem dX10_write_62 : decode cX10_write 62 = .ok (.getfield 160, 3) := by decide +kernel
theorem dX10_write_65 : decode cX10_write 65 = .ok (.iconst 1, 1) := by decide +kernel
theorem dX10_write_66 : decode cX10_write 66 = .ok (.iadd, 1) := by decide +kernel
theorem dX10_write_67 : decode cX10_write 67 = .ok (.putfield 160, 3) := by decide +kernel
theorem dX10_write_70 : decode cX10_write 70 = .ok (.iinc 4 1, 3) := by decide +kernel
theorem dX10_write_73 : decode cX10_write 73 = .ok (.goto (-40), 3) := by decide +kernel
theorem dX10_write_76 : decode cX10_write 76 = .ok (.aload_n 0, 1) := by decide +kernel
theorem dX10_write_77 : decode cX10_write 77 = .ok (.getfield 160, 3) := by decide +kernel
theorem dX10_write_80 : decode cX10_write 80 = .ok (.ireturn, 1) := by decide +kernel
theorem dX10_erase_0 : decode cX10_erase 0 = .ok (.aload_n 0, 1) := by decide +kernel
theorem dX10_erase_1 : decode cX10_erase 1 = .ok (.getfield 160, 3) := by decide +kernel
theorem dX10_erase_4 : decode cX10_erase 4 = .ok (.istore_n 1, 1) := by decide +kernel
theorem dX10_erase_5 : decode cX10_erase 5 = .ok (.aload_n 0, 1) := by decide +kernel
theorem dX10_erase_6 : decode cX10_erase 6 = .ok (.iconst 0, 1) := by decide +kernel
theorem dX10_erase_7 : decode cX10_erase 7 = .ok (.putfield 160, 3) := by decide +kernel
theorem dX10_erase_10 : decode cX10_erase 10 = .ok (.iload_n 1, 1) := by decide +kernel
theorem dX10_erase_11 : decode cX10_erase 11 = .ok (.ireturn, 1) := by decide +kernel
theorem dX10_sort_0 : decode cX10_sort 0 = .ok (.iload_n 0, 1) := by decide +kernel
theorem dX10_sort_1 : decode cX10_sort 1 = .ok (.bipush 97, 2) := by decide +kernel
theorem dX10_sort_3 : decode cX10_sort 3 = .ok (.if_icmp .lt 13, 3) := by decide +kernel
theorem dX10_sort_6 : decode cX10_sort 6 = .ok (.iload_n 0, 1) := by decide +kernel
theorem dX10_sort_7 : decode cX10_sort 7 = .ok (.bipush 122, 2) := by decide +kernel
theorem dX10_sort_9 : decode cX10_sort 9 = .ok (.if_icmp .gt 7, 3) := by decide +kernel
theorem dX10_sort_12 : decode cX10_sort 12 = .ok (.iconst 1, 1) := by decide +kernel
theorem dX10_sort_13 : decode cX10_sort 13 = .ok (.goto 20, 3) := by decide +kernel
theorem dX10_sort_16 : decode cX10_sort 16 = .ok (.iload_n 0, 1) := by decide +kernel
theorem dX10_sort_17 : decode cX10_sort 17 = .ok (.bipush 48, 2) := by decide +kernel
theorem dX10_sort_19 : decode cX10_sort 19 = .ok (.if_icmp .lt 13, 3) := by decide +kernel
theorem dX10_sort_22 : decode cX10_sort 22 = .ok (.iload_n 0, 1) := by decide +kernel
theorem dX10_sort_23 : decode cX10_sort 23 = .ok (.bipush 57, 2) := by decide +kernel
theorem dX10_sort_25 : decode cX10_sort 25 = .ok (.if_icmp .gt 7, 3) := by decide +kernel
theorem dX10_sort_28 : decode cX10_sort 28 = .ok (.iconst 2, 1) := by decide +kernel
theorem dX10_sort_29 : decode cX10_sort 29 = .ok (.goto 4, 3) := by decide +kernel
theorem dX10_sort_32 : decode cX10_sort 32 = .ok (.iconst 0, 1) := by decide +kernel
theorem dX10_sort_33 : decode cX10_sort 33 = .ok (.ireturn, 1) := by decide +kernel
theorem dX10_token_0 : decode cX10_token 0 = .ok (.aload_n 0, 1) := by decide +kernel
theorem dX10_token_1 : decode cX10_token 1 = .ok (.getfield 163, 3) := by decide +kernel
theorem dX10_token_4 : decode cX10_token 4 = .ok (.aload_n 0, 1) := by decide +kernel
theorem dX10_token_5 : decode cX10_token 5 = .ok (.getfield 160, 3) := by decide +kernel
theorem dX10_token_8 : decode cX10_token 8 = .ok (.if_icmp .ge 30, 3) := by decide +kernel
theorem dX10_token_11 : decode cX10_token 11 = .ok (.aload_n 0, 1) := by decide +kernel
theorem dX10_token_12 : decode cX10_token 12 = .ok (.getfield 35, 3) := by decide +kernel
theorem dX10_token_15 : decode cX10_token 15 = .ok (.aload_n 0, 1) := by decide +kernel
theorem dX10_token_16 : decode cX10_token 16 = .ok (.getfield 163, 3) := by decide +kernel
theorem dX10_token_19 : decode cX10_token 19 = .ok (.iaload, 1) := by decide +kernel
theorem dX10_token_20 : decode cX10_token 20 = .ok (.bipush 32, 2) := by decide +kernel
theorem dX10_token_22 : decode cX10_token 22 = .ok (.if_icmp .ne 16, 3) := by decide +kernel
theorem dX10_token_25 : decode cX10_token 25 = .ok (.aload_n 0, 1) := by decide +kernel
theorem dX10_token_26 : decode cX10_token 26 = .ok (.dup, 1) := by decide +kernel
theorem dX10_token_27 : decode cX10_token 27 = .ok (.getfield 163, 3) := by decide +kernel
theorem dX10_token_30 : decode cX10_token 30 = .ok (.iconst 1, 1) := by decide +kernel
theorem dX10_token_31 : decode cX10_token 31 = .ok (.iadd, 1) := by decide +kernel
theorem dX10_token_32 : decode cX10_token 32 = .ok (.putfield 163, 3) := by decide +kernel
theorem dX10_token_35 : decode cX10_token 35 = .ok (.goto (-35), 3) := by decide +kernel
theorem dX10_token_38 : decode cX10_token 38 = .ok (.aload_n 0, 1) := by decide +kernel
theorem dX10_token_39 : decode cX10_token 39 = .ok (.aload_n 0, 1) := by decide +kernel
theorem dX10_token_40 : decode cX10_token 40 = .ok (.getfield 163, 3) := by decide +kernel
theorem dX10_token_43 : decode cX10_token 43 = .ok (.putfield 166, 3) := by decide +kernel
theorem dX10_token_46 : decode cX10_token 46 = .ok (.aload_n 0, 1) := by decide +kernel
theorem dX10_token_47 : decode cX10_token 47 = .ok (.dup, 1) := by decide +kernel
theorem dX10_token_48 : decode cX10_token 48 = .ok (.getfield 163, 3) := by decide +kernel
theorem dX10_token_51 : decode cX10_token 51 = .ok (.aload_n 0, 1) := by decide +kernel
theorem dX10_token_52 : decode cX10_token 52 = .ok (.getfield 163, 3) := by decide +kernel
theorem dX10_token_55 : decode cX10_token 55 = .ok (.aload_n 0, 1) := by decide +kernel
theorem dX10_token_56 : decode cX10_token 56 = .ok (.getfield 160, 3) := by decide +kernel
theorem dX10_token_59 : decode cX10_token 59 = .ok (.if_icmp .ge 7, 3) := by decide +kernel
theorem dX10_token_62 : decode cX10_token 62 = .ok (.iconst 1, 1) := by decide +kernel
theorem dX10_token_63 : decode cX10_token 63 = .ok (.goto 4, 3) := by decide +kernel
theorem dX10_token_66 : decode cX10_token 66 = .ok (.iconst 0, 1) := by decide +kernel
theorem dX10_token_67 : decode cX10_token 67 = .ok (.iadd, 1) := by decide +kernel
theorem dX10_token_68 : decode cX10_token 68 = .ok (.putfield 163, 3) := by decide +kernel
theorem dX10_token_71 : decode cX10_token 71 = .ok (.aload_n 0, 1) := by decide +kernel
theorem dX10_token_72 : decode cX10_token 72 = .ok (.getfield 163, 3) := by decide +kernel
theorem dX10_token_75 : decode cX10_token 75 = .ok (.aload_n 0, 1) := by decide +kernel
theorem dX10_token_76 : decode cX10_token 76 = .ok (.getfield 160, 3) := by decide +kernel
theorem dX10_token_79 : decode cX10_token 79 = .ok (.if_icmp .ge 58, 3) := by decide +kernel
theorem dX10_token_82 : decode cX10_token 82 = .ok (.aload_n 0, 1) := by decide +kernel
theorem dX10_token_83 : decode cX10_token 83 = .ok (.getfield 35, 3) := by decide +kernel
theorem dX10_token_86 : decode cX10_token 86 = .ok (.aload_n 0, 1) := by decide +kernel
theorem dX10_token_87 : decode cX10_token 87 = .ok (.getfield 166, 3) := by decide +kernel
theorem dX10_token_90 : decode cX10_token 90 = .ok (.iaload, 1) := by decide +kernel
theorem dX10_token_91 : decode cX10_token 91 = .ok (.invokestatic 169, 3) := by decide +kernel
theorem dX10_token_94 : decode cX10_token 94 = .ok (.ifCond .le 43, 3) := by decide +kernel
theorem dX10_token_97 : decode cX10_token 97 = .ok (.aload_n 0, 1) := by decide +kernel
theorem dX10_token_98 : decode cX10_token 98 = .ok (.getfield 35, 3) := by decide +kernel
theorem dX10_token_101 : decode cX10_token 101 = .ok (.aload_n 0, 1) := by decide +kernel
theorem dX10_token_102 : decode cX10_token 102 = .ok (.getfield 163, 3) := by decide +kernel
theorem dX10_token_105 : decode cX10_token 105 = .ok (.iaload, 1) := by decide +kernel
theorem dX10_token_106 : decode cX10_token 106 = .ok (.invokestatic 169, 3) := by decide +kernel
theorem dX10_token_109 : decode cX10_token 109 = .ok (.aload_n 0, 1) := by decide +kernel
theorem dX10_token_110 : decode cX10_token 110 = .ok (.getfield 35, 3) := by decide +kernel
theorem dX10_token_113 : decode cX10_token 113 = .ok (.aload_n 0, 1) := by decide +kernel
theorem dX10_token_114 : decode cX10_token 114 = .ok (.getfield 166, 3) := by decide +kernel
theorem dX10_token_117 : decode cX10_token 117 = .ok (.iaload, 1) := by decide +kernel
theorem dX10_token_118 : decode cX10_token 118 = .ok (.invokestatic 169, 3) := by decide +kernel
theorem dX10_token_121 : decode cX10_token 121 = .ok (.if_icmp .ne 16, 3) := by decide +kernel
theorem dX10_token_124 : decode cX10_token 124 = .ok (.aload_n 0, 1) := by decide +kernel
theorem dX10_token_125 : decode cX10_token 125 = .ok (.dup, 1) := by decide +kernel
theorem dX10_token_126 : decode cX10_token 126 = .ok (.getfield 163, 3) := by decide +kernel
theorem dX10_token_129 : decode cX10_token 129 = .ok (.iconst 1, 1) := by decide +kernel
theorem dX10_token_130 : decode cX10_token 130 = .ok (.iadd, 1) := by decide +kernel
theorem dX10_token_131 : decode cX10_token 131 = .ok (.putfield 163, 3) := by decide +kernel
theorem dX10_token_134 : decode cX10_token 134 = .ok (.goto (-63), 3) := by decide +kernel
theorem dX10_token_137 : decode cX10_token 137 = .ok (.aload_n 0, 1) := by decide +kernel
theorem dX10_token_138 : decode cX10_token 138 = .ok (.aload_n 0, 1) := by decide +kernel
theorem dX10_token_139 : decode cX10_token 139 = .ok (.getfield 163, 3) := by decide +kernel
theorem dX10_token_142 : decode cX10_token 142 = .ok (.putfield 173, 3) := by decide +kernel
theorem dX10_token_145 : decode cX10_token 145 = .ok (.return_, 1) := by decide +kernel
theorem dX10_isWord_0 : decode cX10_isWord 0 = .ok (.aload_n 0, 1) := by decide +kernel
theorem dX10_isWord_1 : decode cX10_isWord 1 = .ok (.getfield 173, 3) := by decide +kernel
theorem dX10_isWord_4 : decode cX10_isWord 4 = .ok (.aload_n 0, 1) := by decide +kernel
theorem dX10_isWord_5 : decode cX10_isWord 5 = .ok (.getfield 166, 3) := by decide +kernel
theorem dX10_isWord_8 : decode cX10_isWord 8 = .ok (.isub, 1) := by decide +kernel
