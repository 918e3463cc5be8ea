theorem dX6_forget_13 : decode cX6_forget 13 = .ok (.isub, 1) := by decide +kernel
theorem dX6_forget_14 : decode cX6_forget 14 = .ok (.putfield 35, 3) := by decide +kernel
theorem dX6_forget_17 : decode cX6_forget 17 = .ok (.aload_n 0, 1) := by decide +kernel
theorem dX6_forget_18 : decode cX6_forget 18 = .ok (.invokevirtual 67, 3) := by decide +kernel
theorem dX6_forget_21 : decode cX6_forget 21 = .ok (.return_, 1) := by decide +kernel
theorem dX6_costBetween_0 : decode cX6_costBetween 0 = .ok (.aload_n 0, 1) := by decide +kernel
theorem dX6_costBetween_1 : decode cX6_costBetween 1 = .ok (.getfield 38, 3) := by decide +kernel
theorem dX6_costBetween_4 : decode cX6_costBetween 4 = .ok (.iload_n 1, 1) := by decide +kernel
theorem dX6_costBetween_5 : decode cX6_costBetween 5 = .ok (.bipush 7, 2) := by decide +kernel
theorem dX6_costBetween_7 : decode cX6_costBetween 7 = .ok (.imul, 1) := by decide +kernel
theorem dX6_costBetween_8 : decode cX6_costBetween 8 = .ok (.iload_n 2, 1) := by decide +kernel
theorem dX6_costBetween_9 : decode cX6_costBetween 9 = .ok (.iadd, 1) := by decide +kernel
theorem dX6_costBetween_10 : decode cX6_costBetween 10 = .ok (.iaload, 1) := by decide +kernel
theorem dX6_costBetween_11 : decode cX6_costBetween 11 = .ok (.istore_n 3, 1) := by decide +kernel
theorem dX6_costBetween_12 : decode cX6_costBetween 12 = .ok (.iload_n 3, 1) := by decide +kernel
theorem dX6_costBetween_13 : decode cX6_costBetween 13 = .ok (.ldc 74, 2) := by decide +kernel
theorem dX6_costBetween_15 : decode cX6_costBetween 15 = .ok (.if_icmp .lt 7, 3) := by decide +kernel
theorem dX6_costBetween_18 : decode cX6_costBetween 18 = .ok (.iconst (-1), 1) := by decide +kernel
theorem dX6_costBetween_19 : decode cX6_costBetween 19 = .ok (.goto 7, 3) := by decide +kernel
theorem dX6_costBetween_22 : decode cX6_costBetween 22 = .ok (.iload_n 3, 1) := by decide +kernel
theorem dX6_costBetween_23 : decode cX6_costBetween 23 = .ok (.bipush 8, 2) := by decide +kernel
theorem dX6_costBetween_25 : decode cX6_costBetween 25 = .ok (.idiv, 1) := by decide +kernel
theorem dX6_costBetween_26 : decode cX6_costBetween 26 = .ok (.ireturn, 1) := by decide +kernel
theorem dX6_stepsBetween_0 : decode cX6_stepsBetween 0 = .ok (.aload_n 0, 1) := by decide +kernel
theorem dX6_stepsBetween_1 : decode cX6_stepsBetween 1 = .ok (.getfield 38, 3) := by decide +kernel
theorem dX6_stepsBetween_4 : decode cX6_stepsBetween 4 = .ok (.iload_n 1, 1) := by decide +kernel
theorem dX6_stepsBetween_5 : decode cX6_stepsBetween 5 = .ok (.bipush 7, 2) := by decide +kernel
theorem dX6_stepsBetween_7 : decode cX6_stepsBetween 7 = .ok (.imul, 1) := by decide +kernel
theorem dX6_stepsBetween_8 : decode cX6_stepsBetween 8 = .ok (.iload_n 2, 1) := by decide +kernel
theorem dX6_stepsBetween_9 : decode cX6_stepsBetween 9 = .ok (.iadd, 1) := by decide +kernel
theorem dX6_stepsBetween_10 : decode cX6_stepsBetween 10 = .ok (.iaload, 1) := by decide +kernel
theorem dX6_stepsBetween_11 : decode cX6_stepsBetween 11 = .ok (.bipush 8, 2) := by decide +kernel
theorem dX6_stepsBetween_13 : decode cX6_stepsBetween 13 = .ok (.irem, 1) := by decide +kernel
theorem dX6_stepsBetween_14 : decode cX6_stepsBetween 14 = .ok (.ireturn, 1) := by decide +kernel
theorem dX6_stepAt_0 : decode cX6_stepAt 0 = .ok (.iload_n 1, 1) := by decide +kernel
theorem dX6_stepAt_1 : decode cX6_stepAt 1 = .ok (.istore 4, 2) := by decide +kernel
theorem dX6_stepAt_3 : decode cX6_stepAt 3 = .ok (.iconst 0, 1) := by decide +kernel
theorem dX6_stepAt_4 : decode cX6_stepAt 4 = .ok (.istore 5, 2) := by decide +kernel
theorem dX6_stepAt_6 : decode cX6_stepAt 6 = .ok (.iload 5, 2) := by decide +kernel
theorem dX6_stepAt_8 : decode cX6_stepAt 8 = .ok (.bipush 7, 2) := by decide +kernel
theorem dX6_stepAt_10 : decode cX6_stepAt 10 = .ok (.if_icmp .ge 53, 3) := by decide +kernel
theorem dX6_stepAt_13 : decode cX6_stepAt 13 = .ok (.iload 4, 2) := by decide +kernel
theorem dX6_stepAt_15 : decode cX6_stepAt 15 = .ok (.iload_n 2, 1) := by decide +kernel
theorem dX6_stepAt_16 : decode cX6_stepAt 16 = .ok (.if_icmp .eq 47, 3) := by decide +kernel
theorem dX6_stepAt_19 : decode cX6_stepAt 19 = .ok (.aload_n 0, 1) := by decide +kernel
theorem dX6_stepAt_20 : decode cX6_stepAt 20 = .ok (.getfield 41, 3) := by decide +kernel
theorem dX6_stepAt_23 : decode cX6_stepAt 23 = .ok (.iload 4, 2) := by decide +kernel
theorem dX6_stepAt_25 : decode cX6_stepAt 25 = .ok (.bipush 7, 2) := by decide +kernel
theorem dX6_stepAt_27 : decode cX6_stepAt 27 = .ok (.imul, 1) := by decide +kernel
theorem dX6_stepAt_28 : decode cX6_stepAt 28 = .ok (.iload_n 2, 1) := by decide +kernel
theorem dX6_stepAt_29 : decode cX6_stepAt 29 = .ok (.iadd, 1) := by decide +kernel
theorem dX6_stepAt_30 : decode cX6_stepAt 30 = .ok (.iaload, 1) := by decide +kernel
theorem dX6_stepAt_31 : decode cX6_stepAt 31 = .ok (.istore 6, 2) := by decide +kernel
theorem dX6_stepAt_33 : decode cX6_stepAt 33 = .ok (.iload 6, 2) := by decide +kernel
theorem dX6_stepAt_35 : decode cX6_stepAt 35 = .ok (.iconst (-1), 1) := by decide +kernel
theorem dX6_stepAt_36 : decode cX6_stepAt 36 = .ok (.if_icmp .eq 9, 3) := by decide +kernel
theorem dX6_stepAt_39 : decode cX6_stepAt 39 = .ok (.iload 5, 2) := by decide +kernel
theorem dX6_stepAt_41 : decode cX6_stepAt 41 = .ok (.iload_n 3, 1) := by decide +kernel
theorem dX6_stepAt_42 : decode cX6_stepAt 42 = .ok (.if_icmp .ne 6, 3) := by decide +kernel
theorem dX6_stepAt_45 : decode cX6_stepAt 45 = .ok (.iload 6, 2) := by decide +kernel
theorem dX6_stepAt_47 : decode cX6_stepAt 47 = .ok (.ireturn, 1) := by decide +kernel
theorem dX6_stepAt_48 : decode cX6_stepAt 48 = .ok (.aload_n 0, 1) := by decide +kernel
theorem dX6_stepAt_49 : decode cX6_stepAt 49 = .ok (.getfield 15, 3) := by decide +kernel
theorem dX6_stepAt_52 : decode cX6_stepAt 52 = .ok (.iload 6, 2) := by decide +kernel
theorem dX6_stepAt_54 : decode cX6_stepAt 54 = .ok (.iaload, 1) := by decide +kernel
theorem dX6_stepAt_55 : decode cX6_stepAt 55 = .ok (.istore 4, 2) := by decide +kernel
theorem dX6_stepAt_57 : decode cX6_stepAt 57 = .ok (.iinc 5 1, 3) := by decide +kernel
theorem dX6_stepAt_60 : decode cX6_stepAt 60 = .ok (.goto (-54), 3) := by decide +kernel
theorem dX6_stepAt_63 : decode cX6_stepAt 63 = .ok (.iconst (-1), 1) := by decide +kernel
theorem dX6_stepAt_64 : decode cX6_stepAt 64 = .ok (.ireturn, 1) := by decide +kernel
theorem dX6_carry_0 : decode cX6_carry 0 = .ok (.aload_n 0, 1) := by decide +kernel
theorem dX6_carry_1 : decode cX6_carry 1 = .ok (.lload_n 3, 1) := by decide +kernel
theorem dX6_carry_2 : decode cX6_carry 2 = .ok (.putfield 44, 3) := by decide +kernel
theorem dX6_carry_5 : decode cX6_carry 5 = .ok (.iload_n 1, 1) := by decide +kernel
theorem dX6_carry_6 : decode cX6_carry 6 = .ok (.istore 5, 2) := by decide +kernel
theorem dX6_carry_8 : decode cX6_carry 8 = .ok (.iconst 0, 1) := by decide +kernel
theorem dX6_carry_9 : decode cX6_carry 9 = .ok (.istore 6, 2) := by decide +kernel
theorem dX6_carry_11 : decode cX6_carry 11 = .ok (.iload 6, 2) := by decide +kernel
theorem dX6_carry_13 : decode cX6_carry 13 = .ok (.bipush 7, 2) := by decide +kernel
theorem dX6_carry_15 : decode cX6_carry 15 = .ok (.if_icmp .ge 65, 3) := by decide +kernel
theorem dX6_carry_18 : decode cX6_carry 18 = .ok (.iload 5, 2) := by decide +kernel
theorem dX6_carry_20 : decode cX6_carry 20 = .ok (.iload_n 2, 1) := by decide +kernel
theorem dX6_carry_21 : decode cX6_carry 21 = .ok (.if_icmp .eq 59, 3) := by decide +kernel
theorem dX6_carry_24 : decode cX6_carry 24 = .ok (.aload_n 0, 1) := by decide +kernel
theorem dX6_carry_25 : decode cX6_carry 25 = .ok (.getfield 41, 3) := by decide +kernel
theorem dX6_carry_28 : decode cX6_carry 28 = .ok (.iload 5, 2) := by decide +kernel
theorem dX6_carry_30 : decode cX6_carry 30 = .ok (.bipush 7, 2) := by decide +kernel
theorem dX6_carry_32 : decode cX6_carry 32 = .ok (.imul, 1) := by decide +kernel
theorem dX6_carry_33 : decode cX6_carry 33 = .ok (.iload_n 2, 1) := by decide +kernel
theorem dX6_carry_34 : decode cX6_carry 34 = .ok (.iadd, 1) := by decide +kernel
theorem dX6_carry_35 : decode cX6_carry 35 = .ok (.iaload, 1) := by decide +kernel
theorem dX6_carry_36 : decode cX6_carry 36 = .ok (.istore 7, 2) := by decide +kernel
theorem dX6_carry_38 : decode cX6_carry 38 = .ok (.aload_n 0, 1) := by decide +kernel
theorem dX6_carry_39 : decode cX6_carry 39 = .ok (.iload 7, 2) := by decide +kernel
theorem dX6_carry_41 : decode cX6_carry 41 = .ok (.putfield 48, 3) := by decide +kernel
theorem dX6_carry_44 : decode cX6_carry 44 = .ok (.iload 7, 2) := by decide +kernel
theorem dX6_carry_46 : decode cX6_carry 46 = .ok (.iconst (-1), 1) := by decide +kernel
theorem dX6_carry_47 : decode cX6_carry 47 = .ok (.if_icmp .eq 16, 3) := by decide +kernel
theorem dX6_carry_50 : decode cX6_carry 50 = .ok (.aload_n 0, 1) := by decide +kernel
theorem dX6_carry_51 : decode cX6_carry 51 = .ok (.iload 7, 2) := by decide +kernel
theorem dX6_carry_53 : decode cX6_carry 53 = .ok (.aload_n 0, 1) := by decide +kernel
theorem dX6_carry_54 : decode cX6_carry 54 = .ok (.getfield 44, 3) := by decide +kernel
theorem dX6_carry_57 : decode cX6_carry 57 = .ok (.invokevirtual 75, 3) := by decide +kernel
theorem dX6_carry_60 : decode cX6_carry 60 = .ok (.ifCond .ne 5, 3) := by decide +kernel
theorem dX6_carry_63 : decode cX6_carry 63 = .ok (.iconst 0, 1) := by decide +kernel
theorem dX6_carry_64 : decode cX6_carry 64 = .ok (.ireturn, 1) := by decide +kernel
theorem dX6_carry_65 : decode cX6_carry 65 = .ok (.aload_n 0, 1) := by decide +kernel
theorem dX6_carry_66 : decode cX6_carry 66 = .ok (.getfield 15, 3) := by decide +kernel
theorem dX6_carry_69 : decode cX6_carry 69 = .ok (.iload 7, 2) := by decide +kernel
theorem dX6_carry_71 : decode cX6_carry 71 = .ok (.iaload, 1) := by decide +kernel
theorem dX6_carry_72 : decode cX6_carry 72 = .ok (.istore 5, 2) := by decide +kernel
theorem dX6_carry_74 : decode cX6_carry 74 = .ok (.iinc 6 1, 3) := by decide +kernel
theorem dX6_carry_77 : decode cX6_carry 77 = .ok (.goto (-66), 3) := by decide +kernel
theorem dX6_carry_80 : decode cX6_carry 80 = .ok (.iconst 1, 1) := by decide +kernel
theorem dX6_carry_81 : decode cX6_carry 81 = .ok (.ireturn, 1) := by decide +kernel
theorem dX6_follow_0 : decode cX6_follow 0 = .ok (.iload_n 1, 1) := by decide +kernel
theorem dX6_follow_1 : decode cX6_follow 1 = .ok (.bipush 7, 2) := by decide +kernel
theorem dX6_follow_3 : decode cX6_follow 3 = .ok (.if_icmp .ne 21, 3) := by decide +kernel
theorem dX6_follow_6 : decode cX6_follow 6 = .ok (.aload_n 0, 1) := by decide +kernel
theorem dX6_follow_7 : decode cX6_follow 7 = .ok (.lload_n 2, 1) := by decide +kernel
theorem dX6_follow_8 : decode cX6_follow 8 = .ok (.lconst 0, 1) := by decide +kernel
theorem dX6_follow_9 : decode cX6_follow 9 = .ok (.lcmp, 1) := by decide +kernel
theorem dX6_follow_10 : decode cX6_follow 10 = .ok (.ifCond .ne 7, 3) := by decide +kernel
theorem dX6_follow_13 : decode cX6_follow 13 = .ok (.lconst 0, 1) := by decide +kernel
theorem dX6_follow_14 : decode cX6_follow 14 = .ok (.goto 4, 3) := by decide +kernel
theorem dX6_follow_17 : decode cX6_follow 17 = .ok (.lconst 1, 1) := by decide +kernel
theorem dX6_follow_18 : decode cX6_follow 18 = .ok (.putfield 44, 3) := by decide +kernel
theorem dX6_follow_21 : decode cX6_follow 21 = .ok (.goto 66, 3) := by decide +kernel
theorem dX6_follow_24 : decode cX6_follow 24 = .ok (.iload_n 1, 1) := by decide +kernel
theorem dX6_follow_25 : decode cX6_follow 25 = .ok (.bipush 9, 2) := by decide +kernel
theorem dX6_follow_27 : decode cX6_follow 27 = .ok (.if_icmp .ne 15, 3) := by decide +kernel
theorem dX6_follow_30 : decode cX6_follow 30 = .ok (.aload_n 0, 1) := by decide +kernel
theorem dX6_follow_31 : decode cX6_follow 31 = .ok (.lload_n 2, 1) := by decide +kernel
theorem dX6_follow_32 : decode cX6_follow 32 = .ok (.ldc2_w 79, 3) := by decide +kernel
theorem dX6_follow_35 : decode cX6_follow 35 = .ok (.ldiv, 1) := by decide +kernel
theorem dX6_follow_36 : decode cX6_follow 36 = .ok (.putfield 44, 3) := by decide +kernel
theorem dX6_follow_39 : decode cX6_follow 39 = .ok (.goto 48, 3) := by decide +kernel
theorem dX6_follow_42 : decode cX6_follow 42 = .ok (.lload_n 2, 1) := by decide +kernel
theorem dX6_follow_43 : decode cX6_follow 43 = .ok (.aload_n 0, 1) := by decide +kernel
theorem dX6_follow_44 : decode cX6_follow 44 = .ok (.getfield 21, 3) := by decide +kernel
theorem dX6_follow_47 : decode cX6_follow 47 = .ok (.iload_n 1, 1) := by decide +kernel
theorem dX6_follow_48 : decode cX6_follow 48 = .ok (.iaload, 1) := by decide +kernel
theorem dX6_follow_49 : decode cX6_follow 49 = .ok (.aload_n 0, 1) := by decide +kernel
theorem dX6_follow_50 : decode cX6_follow 50 = .ok (.getfield 24, 3) := by decide +kernel
theorem dX6_follow_53 : decode cX6_follow 53 = .ok (.iload_n 1, 1) := by decide +kernel
theorem dX6_follow_54 : decode cX6_follow 54 = .ok (.iaload, 1) := by decide +kernel
theorem dX6_follow_55 : decode cX6_follow 55 = .ok (.invokestatic 81, 3) := by decide +kernel
theorem dX6_follow_58 : decode cX6_follow 58 = .ok (.ifCond .eq 27, 3) := by decide +kernel
theorem dX6_follow_61 : decode cX6_follow 61 = .ok (.aload_n 0, 1) := by decide +kernel
theorem dX6_follow_62 : decode cX6_follow 62 = .ok (.lload_n 2, 1) := by decide +kernel
theorem dX6_follow_63 : decode cX6_follow 63 = .ok (.aload_n 0, 1) := by decide +kernel
theorem dX6_follow_64 : decode cX6_follow 64 = .ok (.getfield 21, 3) := by decide +kernel
theorem dX6_follow_67 : decode cX6_follow 67 = .ok (.iload_n 1, 1) := by decide +kernel
theorem dX6_follow_68 : decode cX6_follow 68 = .ok (.iaload, 1) := by decide +kernel
theorem dX6_follow_69 : decode cX6_follow 69 = .ok (.i2l, 1) := by decide +kernel
theorem dX6_follow_70 : decode cX6_follow 70 = .ok (.lmul, 1) := by decide +kernel
theorem dX6_follow_71 : decode cX6_follow 71 = .ok (.aload_n 0, 1) := by decide +kernel
theorem dX6_follow_72 : decode cX6_follow 72 = .ok (.getfield 24, 3) := by decide +kernel
theorem dX6_follow_75 : decode cX6_follow 75 = .ok (.iload_n 1, 1) := by decide +kernel
theorem dX6_follow_76 : decode cX6_follow 76 = .ok (.iaload, 1) := by decide +kernel
theorem dX6_follow_77 : decode cX6_follow 77 = .ok (.i2l, 1) := by decide +kernel
theorem dX6_follow_78 : decode cX6_follow 78 = .ok (.ladd, 1) := by decide +kernel
theorem dX6_follow_79 : decode cX6_follow 79 = .ok (.putfield 44, 3) := by decide +kernel
theorem dX6_follow_82 : decode cX6_follow 82 = .ok (.goto 5, 3) := by decide +kernel
theorem dX6_follow_85 : decode cX6_follow 85 = .ok (.iconst 0, 1) := by decide +kernel
theorem dX6_follow_86 : decode cX6_follow 86 = .ok (.ireturn, 1) := by decide +kernel
theorem dX6_follow_87 : decode cX6_follow 87 = .ok (.aload_n 0, 1) := by decide +kernel
theorem dX6_follow_88 : decode cX6_follow 88 = .ok (.getfield 15, 3) := by decide +kernel
theorem dX6_follow_91 : decode cX6_follow 91 = .ok (.iload_n 1, 1) := by decide +kernel
theorem dX6_follow_92 : decode cX6_follow 92 = .ok (.iaload, 1) := by decide +kernel
theorem dX6_follow_93 : decode cX6_follow 93 = .ok (.aload_n 0, 1) := by decide +kernel
theorem dX6_follow_94 : decode cX6_follow 94 = .ok (.getfield 44, 3) := by decide +kernel
theorem dX6_follow_97 : decode cX6_follow 97 = .ok (.invokestatic 85, 3) := by decide +kernel
theorem dX6_follow_100 : decode cX6_follow 100 = .ok (.ireturn, 1) := by decide +kernel
theorem dX6_keep_0 : decode cX6_keep 0 = .ok (.aload_n 0, 1) := by decide +kernel
theorem dX6_keep_1 : decode cX6_keep 1 = .ok (.getfield 11, 3) := by decide +kernel
theorem dX6_keep_4 : decode cX6_keep 4 = .ok (.aload_n 0, 1) := by decide +kernel
theorem dX6_keep_5 : decode cX6_keep 5 = .ok (.getfield 31, 3) := by decide +kernel
theorem dX6_keep_8 : decode cX6_keep 8 = .ok (.iload_n 1, 1) := by decide +kernel
theorem dX6_keep_9 : decode cX6_keep 9 = .ok (.iastore, 1) := by decide +kernel
theorem dX6_keep_10 : decode cX6_keep 10 = .ok (.aload_n 0, 1) := by decide +kernel
theorem dX6_keep_11 : decode cX6_keep 11 = .ok (.getfield 15, 3) := by decide +kernel
theorem dX6_keep_14 : decode cX6_keep 14 = .ok (.aload_n 0, 1) := by decide +kernel
theorem dX6_keep_15 : decode cX6_keep 15 = .ok (.getfield 31, 3) := by decide +kernel
theorem dX6_keep_18 : decode cX6_keep 18 = .ok (.iload_n 2, 1) := by decide +kernel
theorem dX6_keep_19 : decode cX6_keep 19 = .ok (.iastore, 1) := by decide +kernel
theorem dX6_keep_20 : decode cX6_keep 20 = .ok (.aload_n 0, 1) := by decide +kernel
theorem dX6_keep_21 : decode cX6_keep 21 = .ok (.getfield 18, 3) := by decide +kernel
theorem dX6_keep_24 : decode cX6_keep 24 = .ok (.aload_n 0, 1) := by decide +kernel
theorem dX6_keep_25 : decode cX6_keep 25 = .ok (.getfield 31, 3) := by decide +kernel
theorem dX6_keep_28 : decode cX6_keep 28 = .ok (.iload_n 3, 1) := by decide +kernel
theorem dX6_keep_29 : decode cX6_keep 29 = .ok (.iastore, 1) := by decide +kernel
theorem dX6_keep_30 : decode cX6_keep 30 = .ok (.aload_n 0, 1) := by decide +kernel
theorem dX6_keep_31 : decode cX6_keep 31 = .ok (.getfield 21, 3) := by decide +kernel
theorem dX6_keep_34 : decode cX6_keep 34 = .ok (.aload_n 0, 1) := by decide +kernel
theorem dX6_keep_35 : decode cX6_keep 35 = .ok (.getfield 31, 3) := by decide +kernel
theorem dX6_keep_38 : decode cX6_keep 38 = .ok (.iload 4, 2) := by decide +kernel
theorem dX6_keep_40 : decode cX6_keep 40 = .ok (.iastore, 1) := by decide +kernel
theorem dX6_keep_41 : decode cX6_keep 41 = .ok (.aload_n 0, 1) := by decide +kernel
theorem dX6_keep_42 : decode cX6_keep 42 = .ok (.getfield 24, 3) := by decide +kernel
theorem dX6_keep_45 : decode cX6_keep 45 = .ok (.aload_n 0, 1) := by decide +kernel
theorem dX6_keep_46 : decode cX6_keep 46 = .ok (.getfield 31, 3) := by decide +kernel
theorem dX6_keep_49 : decode cX6_keep 49 = .ok (.iload 5, 2) := by decide +kernel
theorem dX6_keep_51 : decode cX6_keep 51 = .ok (.iastore, 1) := by decide +kernel
theorem dX6_keep_52 : decode cX6_keep 52 = .ok (.aload_n 0, 1) := by decide +kernel
theorem dX6_keep_53 : decode cX6_keep 53 = .ok (.getfield 27, 3) := by decide +kernel
theorem dX6_keep_56 : decode cX6_keep 56 = .ok (.aload_n 0, 1) := by decide +kernel
theorem dX6_keep_57 : decode cX6_keep 57 = .ok (.getfield 31, 3) := by decide +kernel
theorem dX6_keep_60 : decode cX6_keep 60 = .ok (.iconst 1, 1) := by decide +kernel
theorem dX6_keep_61 : decode cX6_keep 61 = .ok (.bastore, 1) := by decide +kernel
theorem dX6_keep_62 : decode cX6_keep 62 = .ok (.aload_n 0, 1) := by decide +kernel
theorem dX6_keep_63 : decode cX6_keep 63 = .ok (.dup, 1) := by decide +kernel
theorem dX6_keep_64 : decode cX6_keep 64 = .ok (.getfield 31, 3) := by decide +kernel
theorem dX6_keep_67 : decode cX6_keep 67 = .ok (.iconst 1, 1) := by decide +kernel
theorem dX6_keep_68 : decode cX6_keep 68 = .ok (.iadd, 1) := by decide +kernel
theorem dX6_keep_69 : decode cX6_keep 69 = .ok (.putfield 31, 3) := by decide +kernel
theorem dX6_keep_72 : decode cX6_keep 72 = .ok (.aload_n 0, 1) := by decide +kernel
theorem dX6_keep_73 : decode cX6_keep 73 = .ok (.dup, 1) := by decide +kernel
theorem dX6_keep_74 : decode cX6_keep 74 = .ok (.getfield 35, 3) := by decide +kernel
theorem dX6_keep_77 : decode cX6_keep 77 = .ok (.iconst 1, 1) := by decide +kernel
theorem dX6_keep_78 : decode cX6_keep 78 = .ok (.iadd, 1) := by decide +kernel
theorem dX6_keep_79 : decode cX6_keep 79 = .ok (.putfield 35, 3) := by decide +kernel
theorem dX6_keep_82 : decode cX6_keep 82 = .ok (.return_, 1) := by decide +kernel
theorem dX6_measure_0 : decode cX6_measure 0 = .ok (.aload_n 0, 1) := by decide +kernel
theorem dX6_measure_1 : decode cX6_measure 1 = .ok (.getfield 38, 3) := by decide +kernel
theorem dX6_measure_4 : decode cX6_measure 4 = .ok (.ldc 74, 2) := by decide +kernel
theorem dX6_measure_6 : decode cX6_measure 6 = .ok (.invokestatic 88, 3) := by decide +kernel
theorem dX6_measure_9 : decode cX6_measure 9 = .ok (.iconst 0, 1) := by decide +kernel
theorem dX6_measure_10 : decode cX6_measure 10 = .ok (.istore_n 1, 1) := by decide +kernel
theorem dX6_measure_11 : decode cX6_measure 11 = .ok (.iload_n 1, 1) := by decide +kernel
theorem dX6_measure_12 : decode cX6_measure 12 = .ok (.bipush 7, 2) := by decide +kernel
theorem dX6_measure_14 : decode cX6_measure 14 = .ok (.if_icmp .ge 21, 3) := by decide +kernel
theorem dX6_measure_17 : decode cX6_measure 17 = .ok (.aload_n 0, 1) := by decide +kernel
theorem dX6_measure_18 : decode cX6_measure 18 = .ok (.getfield 38, 3) := by decide +kernel
theorem dX6_measure_21 : decode cX6_measure 21 = .ok (.iload_n 1, 1) := by decide +kernel
theorem dX6_measure_22 : decode cX6_measure 22 = .ok (.bipush 7, 2) := by decide +kernel
theorem dX6_measure_24 : decode cX6_measure 24 = .ok (.imul, 1) := by decide +kernel
theorem dX6_measure_25 : decode cX6_measure 25 = .ok (.iload_n 1, 1) := by decide +kernel
theorem dX6_measure_26 : decode cX6_measure 26 = .ok (.iadd, 1) := by decide +kernel
theorem dX6_measure_27 : decode cX6_measure 27 = .ok (.iconst 0, 1) := by decide +kernel
theorem dX6_measure_28 : decode cX6_measure 28 = .ok (.iastore, 1) := by decide +kernel
theorem dX6_measure_29 : decode cX6_measure 29 = .ok (.iinc 1 1, 3) := by decide +kernel
theorem dX6_measure_32 : decode cX6_measure 32 = .ok (.goto (-21), 3) := by decide +kernel
theorem dX6_measure_35 : decode cX6_measure 35 = .ok (.iconst 0, 1) := by decide +kernel
theorem dX6_measure_36 : decode cX6_measure 36 = .ok (.istore_n 1, 1) := by decide +kernel
theorem dX6_measure_37 : decode cX6_measure 37 = .ok (.iload_n 1, 1) := by decide +kernel
theorem dX6_measure_38 : decode cX6_measure 38 = .ok (.aload_n 0, 1) := by decide +kernel
theorem dX6_measure_39 : decode cX6_measure 39 = .ok (.getfield 31, 3) := by decide +kernel
theorem dX6_measure_42 : decode cX6_measure 42 = .ok (.if_icmp .ge 55, 3) := by decide +kernel
theorem dX6_measure_45 : decode cX6_measure 45 = .ok (.aload_n 0, 1) := by decide +kernel
theorem dX6_measure_46 : decode cX6_measure 46 = .ok (.getfield 27, 3) := by decide +kernel
theorem dX6_measure_49 : decode cX6_measure 49 = .ok (.iload_n 1, 1) := by decide +kernel
theorem dX6_measure_50 : decode cX6_measure 50 = .ok (.baload, 1) := by decide +kernel
theorem dX6_measure_51 : decode cX6_measure 51 = .ok (.ifCond .eq 40, 3) := by decide +kernel
theorem dX6_measure_54 : decode cX6_measure 54 = .ok (.aload_n 0, 1) := by decide +kernel
theorem dX6_measure_55 : decode cX6_measure 55 = .ok (.getfield 11, 3) := by decide +kernel
theorem dX6_measure_58 : decode cX6_measure 58 = .ok (.iload_n 1, 1) := by decide +kernel
theorem dX6_measure_59 : decode cX6_measure 59 = .ok (.iaload, 1) := by decide +kernel
theorem dX6_measure_60 : decode cX6_measure 60 = .ok (.bipush 7, 2) := by decide +kernel
theorem dX6_measure_62 : decode cX6_measure 62 = .ok (.imul, 1) := by decide +kernel
theorem dX6_measure_63 : decode cX6_measure 63 = .ok (.aload_n 0, 1) := by decide +kernel
theorem dX6_measure_64 : decode cX6_measure 64 = .ok (.getfield 15, 3) := by decide +kernel
theorem dX6_measure_67 : decode cX6_measure 67 = .ok (.iload_n 1, 1) := by decide +kernel
theorem dX6_measure_68 : decode cX6_measure 68 = .ok (.iaload, 1) := by decide +kernel
theorem dX6_measure_69 : decode cX6_measure 69 = .ok (.iadd, 1) := by decide +kernel
theorem dX6_measure_70 : decode cX6_measure 70 = .ok (.istore_n 2, 1) := by decide +kernel
theorem dX6_measure_71 : decode cX6_measure 71 = .ok (.aload_n 0, 1) := by decide +kernel
theorem dX6_measure_72 : decode cX6_measure 72 = .ok (.getfield 38, 3) := by decide +kernel
theorem dX6_measure_75 : decode cX6_measure 75 = .ok (.iload_n 2, 1) := by decide +kernel
theorem dX6_measure_76 : decode cX6_measure 76 = .ok (.aload_n 0, 1) := by decide +kernel
theorem dX6_measure_77 : decode cX6_measure 77 = .ok (.getfield 38, 3) := by decide +kernel
theorem dX6_measure_80 : decode cX6_measure 80 = .ok (.iload_n 2, 1) := by decide +kernel
theorem dX6_measure_81 : decode cX6_measure 81 = .ok (.iaload, 1) := by decide +kernel
theorem dX6_measure_82 : decode cX6_measure 82 = .ok (.aload_n 0, 1) := by decide +kernel
theorem dX6_measure_83 : decode cX6_measure 83 = .ok (.iload_n 1, 1) := by decide +kernel
theorem dX6_measure_84 : decode cX6_measure 84 = .ok (.invokevirtual 94, 3) := by decide +kernel
theorem dX6_measure_87 : decode cX6_measure 87 = .ok (.invokestatic 98, 3) := by decide +kernel
theorem dX6_measure_90 : decode cX6_measure 90 = .ok (.iastore, 1) := by decide +kernel
theorem dX6_measure_91 : decode cX6_measure 91 = .ok (.iinc 1 1, 3) := by decide +kernel
theorem dX6_measure_94 : decode cX6_measure 94 = .ok (.goto (-57), 3) := by decide +kernel
theorem dX6_measure_97 : decode cX6_measure 97 = .ok (.iconst 0, 1) := by decide +kernel
theorem dX6_measure_98 : decode cX6_measure 98 = .ok (.istore_n 1, 1) := by decide +kernel
theorem dX6_measure_99 : decode cX6_measure 99 = .ok (.iload_n 1, 1) := by decide +kernel
theorem dX6_measure_100 : decode cX6_measure 100 = .ok (.bipush 7, 2) := by decide +kernel
theorem dX6_measure_102 : decode cX6_measure 102 = .ok (.if_icmp .ge 14, 3) := by decide +kernel
theorem dX6_measure_105 : decode cX6_measure 105 = .ok (.aload_n 0, 1) := by decide +kernel
theorem dX6_measure_106 : decode cX6_measure 106 = .ok (.iload_n 1, 1) := by decide +kernel
theorem dX6_measure_107 : decode cX6_measure 107 = .ok (.invokevirtual 104, 3) := by decide +kernel
theorem dX6_measure_110 : decode cX6_measure 110 = .ok (.iinc 1 1, 3) := by decide +kernel
theorem dX6_measure_113 : decode cX6_measure 113 = .ok (.goto (-14), 3) := by decide +kernel
theorem dX6_measure_116 : decode cX6_measure 116 = .ok (.iconst 0, 1) := by decide +kernel
theorem dX6_measure_117 : decode cX6_measure 117 = .ok (.istore_n 1, 1) := by decide +kernel
theorem dX6_measure_118 : decode cX6_measure 118 = .ok (.iload_n 1, 1) := by decide +kernel
theorem dX6_measure_119 : decode cX6_measure 119 = .ok (.bipush 49, 2) := by decide +kernel
theorem dX6_measure_121 : decode cX6_measure 121 = .ok (.if_icmp .ge 27, 3) := by decide +kernel
theorem dX6_measure_124 : decode cX6_measure 124 = .ok (.aload_n 0, 1) := by decide +kernel
theorem dX6_measure_125 : decode cX6_measure 125 = .ok (.getfield 41, 3) := by decide +kernel
theorem dX6_measure_128 : decode cX6_measure 128 = .ok (.iload_n 1, 1) := by decide +kernel
theorem dX6_measure_129 : decode cX6_measure 129 = .ok (.aload_n 0, 1) := by decide +kernel
theorem dX6_measure_130 : decode cX6_measure 130 = .ok (.iload_n 1, 1) := by decide +kernel
theorem dX6_measure_131 : decode cX6_measure 131 = .ok (.bipush 7, 2) := by decide +kernel
theorem dX6_measure_133 : decode cX6_measure 133 = .ok (.idiv, 1) := by decide +kernel
theorem dX6_measure_134 : decode cX6_measure 134 = .ok (.iload_n 1, 1) := by decide +kernel
theorem dX6_measure_135 : decode cX6_measure 135 = .ok (.bipush 7, 2) := by decide +kernel
theorem dX6_measure_137 : decode cX6_measure 137 = .ok (.irem, 1) := by decide +kernel
theorem dX6_measure_138 : decode cX6_measure 138 = .ok (.invokevirtual 108, 3) := by decide +kernel
theorem dX6_measure_141 : decode cX6_measure 141 = .ok (.iastore, 1) := by decide +kernel
theorem dX6_measure_142 : decode cX6_measure 142 = .ok (.iinc 1 1, 3) := by decide +kernel
theorem dX6_measure_145 : decode cX6_measure 145 = .ok (.goto (-27), 3) := by decide +kernel
theorem dX6_measure_148 : decode cX6_measure 148 = .ok (.return_, 1) := by decide +kernel
theorem dX6_weightOf_0 : decode cX6_weightOf 0 = .ok (.bipush 8, 2) := by decide +kernel
theorem dX6_weightOf_2 : decode cX6_weightOf 2 = .ok (.aload_n 0, 1) := by decide +kernel
theorem dX6_weightOf_3 : decode cX6_weightOf 3 = .ok (.getfield 18, 3) := by decide +kernel
theorem dX6_weightOf_6 : decode cX6_weightOf 6 = .ok (.iload_n 1, 1) := by decide +kernel
theorem dX6_weightOf_7 : decode cX6_weightOf 7 = .ok (.iaload, 1) := by decide +kernel
theorem dX6_weightOf_8 : decode cX6_weightOf 8 = .ok (.imul, 1) := by decide +kernel
theorem dX6_weightOf_9 : decode cX6_weightOf 9 = .ok (.iconst 1, 1) := by decide +kernel
theorem dX6_weightOf_10 : decode cX6_weightOf 10 = .ok (.iadd, 1) := by decide +kernel
theorem dX6_weightOf_11 : decode cX6_weightOf 11 = .ok (.ireturn, 1) := by decide +kernel
theorem dX6_shortenBy_0 : decode cX6_shortenBy 0 = .ok (.iconst 0, 1) := by decide +kernel
theorem dX6_shortenBy_1 : decode cX6_shortenBy 1 = .ok (.istore_n 2, 1) := by decide +kernel
theorem dX6_shortenBy_2 : decode cX6_shortenBy 2 = .ok (.iload_n 2, 1) := by decide +kernel
theorem dX6_shortenBy_3 : decode cX6_shortenBy 3 = .ok (.bipush 49, 2) := by decide +kernel
theorem dX6_shortenBy_5 : decode cX6_shortenBy 5 = .ok (.if_icmp .ge 59, 3) := by decide +kernel
theorem dX6_shortenBy_8 : decode cX6_shortenBy 8 = .ok (.aload_n 0, 1) := by decide +kernel
theorem dX6_shortenBy_9 : decode cX6_shortenBy 9 = .ok (.getfield 38, 3) := by decide +kernel
theorem dX6_shortenBy_12 : decode cX6_shortenBy 12 = .ok (.iload_n 2, 1) := by decide +kernel
theorem dX6_shortenBy_13 : decode cX6_shortenBy 13 = .ok (.bipush 7, 2) := by decide +kernel
theorem dX6_shortenBy_15 : decode cX6_shortenBy 15 = .ok (.idiv, 1) := by decide +kernel
theorem dX6_shortenBy_16 : decode cX6_shortenBy 16 = .ok (.bipush 7, 2) := by decide +kernel
theorem dX6_shortenBy_18 : decode cX6_shortenBy 18 = .ok (.imul, 1) := by decide +kernel
theorem dX6_shortenBy_19 : decode cX6_shortenBy 19 = .ok (.iload_n 1, 1) := by decide +kernel
theorem dX6_shortenBy_20 : decode cX6_shortenBy 20 = .ok (.iadd, 1) := by decide +kernel
theorem dX6_shortenBy_21 : decode cX6_shortenBy 21 = .ok (.iaload, 1) := by decide +kernel
theorem dX6_shortenBy_22 : decode cX6_shortenBy 22 = .ok (.istore_n 3, 1) := by decide +kernel
theorem dX6_shortenBy_23 : decode cX6_shortenBy 23 = .ok (.aload_n 0, 1) := by decide +kernel
theorem dX6_shortenBy_24 : decode cX6_shortenBy 24 = .ok (.getfield 38, 3) := by decide +kernel
theorem dX6_shortenBy_27 : decode cX6_shortenBy 27 = .ok (.iload_n 1, 1) := by decide +kernel
theorem dX6_shortenBy_28 : decode cX6_shortenBy 28 = .ok (.bipush 7, 2) := by decide +kernel
theorem dX6_shortenBy_30 : decode cX6_shortenBy 30 = .ok (.imul, 1) := by decide +kernel
theorem dX6_shortenBy_31 : decode cX6_shortenBy 31 = .ok (.iload_n 2, 1) := by decide +kernel
theorem dX6_shortenBy_32 : decode cX6_shortenBy 32 = .ok (.bipush 7, 2) := by decide +kernel
theorem dX6_shortenBy_34 : decode cX6_shortenBy 34 = .ok (.irem, 1) := by decide +kernel
theorem dX6_shortenBy_35 : decode cX6_shortenBy 35 = .ok (.iadd, 1) := by decide +kernel
theorem dX6_shortenBy_36 : decode cX6_shortenBy 36 = .ok (.iaload, 1) := by decide +kernel
theorem dX6_shortenBy_37 : decode cX6_shortenBy 37 = .ok (.istore 4, 2) := by decide +kernel
theorem dX6_shortenBy_39 : decode cX6_shortenBy 39 = .ok (.aload_n 0, 1) := by decide +kernel
theorem dX6_shortenBy_40 : decode cX6_shortenBy 40 = .ok (.getfield 38, 3) := by decide +kernel
theorem dX6_shortenBy_43 : decode cX6_shortenBy 43 = .ok (.iload_n 2, 1) := by decide +kernel
theorem dX6_shortenBy_44 : decode cX6_shortenBy 44 = .ok (.aload_n 0, 1) := by decide +kernel
theorem dX6_shortenBy_45 : decode cX6_shortenBy 45 = .ok (.getfield 38, 3) := by decide +kernel
theorem dX6_shortenBy_48 : decode cX6_shortenBy 48 = .ok (.iload_n 2, 1) := by decide +kernel
theorem dX6_shortenBy_49 : decode cX6_shortenBy 49 = .ok (.iaload, 1) := by decide +kernel
theorem dX6_shortenBy_50 : decode cX6_shortenBy 50 = .ok (.iload_n 3, 1) := by decide +kernel
theorem dX6_shortenBy_51 : decode cX6_shortenBy 51 = .ok (.iload 4, 2) := by decide +kernel
theorem dX6_shortenBy_53 : decode cX6_shortenBy 53 = .ok (.iadd, 1) := by decide +kernel
theorem dX6_shortenBy_54 : decode cX6_shortenBy 54 = .ok (.invokestatic 98, 3) := by decide +kernel
theorem dX6_shortenBy_57 : decode cX6_shortenBy 57 = .ok (.iastore, 1) := by decide +kernel
theorem dX6_shortenBy_58 : decode cX6_shortenBy 58 = .ok (.iinc 2 1, 3) := by decide +kernel
theorem dX6_shortenBy_61 : decode cX6_shortenBy 61 = .ok (.goto (-59), 3) := by decide +kernel
theorem dX6_shortenBy_64 : decode cX6_shortenBy 64 = .ok (.return_, 1) := by decide +kernel
theorem dX6_firstOf_0 : decode cX6_firstOf 0 = .ok (.aload_n 0, 1) := by decide +kernel
theorem dX6_firstOf_1 : decode cX6_firstOf 1 = .ok (.getfield 38, 3) := by decide +kernel
theorem dX6_firstOf_4 : decode cX6_firstOf 4 = .ok (.iload_n 1, 1) := by decide +kernel
theorem dX6_firstOf_5 : decode cX6_firstOf 5 = .ok (.bipush 7, 2) := by decide +kernel
theorem dX6_firstOf_7 : decode cX6_firstOf 7 = .ok (.imul, 1) := by decide +kernel
theorem dX6_firstOf_8 : decode cX6_firstOf 8 = .ok (.iload_n 2, 1) := by decide +kernel
theorem dX6_firstOf_9 : decode cX6_firstOf 9 = .ok (.iadd, 1) := by decide +kernel
theorem dX6_firstOf_10 : decode cX6_firstOf 10 = .ok (.iaload, 1) := by decide +kernel
theorem dX6_firstOf_11 : decode cX6_firstOf 11 = .ok (.istore_n 3, 1) := by decide +kernel
theorem dX6_firstOf_12 : decode cX6_firstOf 12 = .ok (.iconst 0, 1) := by decide +kernel
theorem dX6_firstOf_13 : decode cX6_firstOf 13 = .ok (.istore 4, 2) := by decide +kernel
theorem dX6_firstOf_15 : decode cX6_firstOf 15 = .ok (.iload 4, 2) := by decide +kernel
theorem dX6_firstOf_17 : decode cX6_firstOf 17 = .ok (.aload_n 0, 1) := by decide +kernel
theorem dX6_firstOf_18 : decode cX6_firstOf 18 = .ok (.getfield 31, 3) := by decide +kernel
theorem dX6_firstOf_21 : decode cX6_firstOf 21 = .ok (.if_icmp .ge 67, 3) := by decide +kernel
theorem dX6_firstOf_24 : decode cX6_firstOf 24 = .ok (.iload_n 3, 1) := by decide +kernel
theorem dX6_firstOf_25 : decode cX6_firstOf 25 = .ok (.ldc 74, 2) := by decide +kernel
theorem dX6_firstOf_27 : decode cX6_firstOf 27 = .ok (.if_icmp .ge 61, 3) := by decide +kernel
theorem dX6_firstOf_30 : decode cX6_firstOf 30 = .ok (.aload_n 0, 1) := by decide +kernel
theorem dX6_firstOf_31 : decode cX6_firstOf 31 = .ok (.getfield 27, 3) := by decide +kernel
theorem dX6_firstOf_34 : decode cX6_firstOf 34 = .ok (.iload 4, 2) := by decide +kernel
theorem dX6_firstOf_36 : decode cX6_firstOf 36 = .ok (.baload, 1) := by decide +kernel
theorem dX6_firstOf_37 : decode cX6_firstOf 37 = .ok (.ifCond .eq 45, 3) := by decide +kernel
theorem dX6_firstOf_40 : decode cX6_firstOf 40 = .ok (.aload_n 0, 1) := by decide +kernel
theorem dX6_firstOf_41 : decode cX6_firstOf 41 = .ok (.getfield 11, 3) := by decide +kernel
theorem dX6_firstOf_44 : decode cX6_firstOf 44 = .ok (.iload 4, 2) := by decide +kernel
theorem dX6_firstOf_46 : decode cX6_firstOf 46 = .ok (.iaload, 1) := by decide +kernel
theorem dX6_firstOf_47 : decode cX6_firstOf 47 = .ok (.iload_n 1, 1) := by decide +kernel
theorem dX6_firstOf_48 : decode cX6_firstOf 48 = .ok (.if_icmp .ne 34, 3) := by decide +kernel
theorem dX6_firstOf_51 : decode cX6_firstOf 51 = .ok (.aload_n 0, 1) := by decide +kernel
theorem dX6_firstOf_52 : decode cX6_firstOf 52 = .ok (.iload 4, 2) := by decide +kernel
theorem dX6_firstOf_54 : decode cX6_firstOf 54 = .ok (.invokevirtual 94, 3) := by decide +kernel
theorem dX6_firstOf_57 : decode cX6_firstOf 57 = .ok (.aload_n 0, 1) := by decide +kernel
theorem dX6_firstOf_58 : decode cX6_firstOf 58 = .ok (.getfield 38, 3) := by decide +kernel
theorem dX6_firstOf_61 : decode cX6_firstOf 61 = .ok (.aload_n 0, 1) := by decide +kernel
theorem dX6_firstOf_62 : decode cX6_firstOf 62 = .ok (.getfield 15, 3) := by decide +kernel
theorem dX6_firstOf_65 : decode cX6_firstOf 65 = .ok (.iload 4, 2) := by decide +kernel
theorem dX6_firstOf_67 : decode cX6_firstOf 67 = .ok (.iaload, 1) := by decide +kernel
theorem dX6_firstOf_68 : decode cX6_firstOf 68 = .ok (.bipush 7, 2) := by decide +kernel
