theorem dX6_forget_13 : decode cX6_forget 13 = .ok (.isub, 1) := by decide +kernel
theorem dX6_forget_14 : decode cX6_forget 14 = .ok (.putfield 35, 3) := by decide +kernel
theorem dX6_forget_17 : decode cX6_forget 17 = .ok (.aload_n 0, 1) := by decide +kernel
theorem dX6_forget_18 : decode cX6_forget 18 = .ok (.invokevirtual 67, 3) := by decide +kernel
theorem dX6_forget_21 : decode cX6_forget 21 = .ok (.return_, 1) := by decide +kernel
theorem dX6_costBetween_0 : decode cX6_costBetween 0 = .ok (.aload_n 0, 1) := by decide +kernel
theorem dX6_costBetween_1 : decode cX6_costBetween 1 = .ok (.getfield 38, 3) := by decide +kernel
theorem dX6_costBetween_4 : decode cX6_costBetween 4 = .ok (.iload_n 1, 1) := by decide +kernel
theorem dX6_costBetween_5 : decode cX6_costBetween 5 = .ok (.bipush 7, 2) := by decide +kernel
theorem dX6_costBetween_7 : decode cX6_costBetween 7 = .ok (.imul, 1) := by decide +kernel
theorem dX6_costBetween_8 : decode cX6_costBetween 8 = .ok (.iload_n 2, 1) := by decide +kernel
theorem dX6_costBetween_9 : decode cX6_costBetween 9 = .ok (.iadd, 1) := by decide +kernel
theorem dX6_costBetween_10 : decode cX6_costBetween 10 = .ok (.iaload, 1) := by decide +kernel
theorem dX6_costBetween_11 : decode cX6_costBetween 11 = .ok (.istore_n 3, 1) := by decide +kernel
theorem dX6_costBetween_12 : decode cX6_costBetween 12 = .ok (.iload_n 3, 1) := by decide +kernel
theorem dX6_costBetween_13 : decode cX6_costBetween 13 = .ok (.ldc 74, 2) := by decide +kernel
theorem dX6_costBetween_15 : decode cX6_costBetween 15 = .ok (.if_icmp .lt 7, 3) := by decide +kernel
theorem dX6_costBetween_18 : decode cX6_costBetween 18 = .ok (.iconst (-1), 1) := by decide +kernel
theorem dX6_costBetween_19 : decode cX6_costBetween 19 = .ok (.goto 7, 3) := by decide +kernel
theorem dX6_costBetween_22 : decode cX6_costBetween 22 = .ok (.iload_n 3, 1) := by decide +kernel
theorem dX6_costBetween_23 : decode cX6_costBetween 23 = .ok (.bipush 8, 2) := by decide +kernel
theorem dX6_costBetween_25 : decode cX6_costBetween 25 = .ok (.idiv, 1) := by decide +kernel
theorem dX6_costBetween_26 : decode cX6_costBetween 26 = .ok (.ireturn, 1) := by decide +kernel
theorem dX6_stepsBetween_0 : decode cX6_stepsBetween 0 = .ok (.aload_n 0, 1) := by decide +kernel
theorem dX6_stepsBetween_1 : decode cX6_stepsBetween 1 = .ok (.getfield 38, 3) := by decide +kernel
theorem dX6_stepsBetween_4 : decode cX6_stepsBetween 4 = .ok (.iload_n 1, 1) := by decide +kernel
theorem dX6_stepsBetween_5 : decode cX6_stepsBetween 5 = .ok (.bipush 7, 2) := by decide +kernel
theorem dX6_stepsBetween_7 : decode cX6_stepsBetween 7 = .ok (.imul, 1) := by decide +kernel
theorem dX6_stepsBetween_8 : decode cX6_stepsBetween 8 = .ok (.iload_n 2, 1) := by decide +kernel
theorem dX6_stepsBetween_9 : decode cX6_stepsBetween 9 = .ok (.iadd, 1) := by decide +kernel
theorem dX6_stepsBetween_10 : decode cX6_stepsBetween 10 = .ok (.iaload, 1) := by decide +kernel
theorem dX6_stepsBetween_11 : decode cX6_stepsBetween 11 = .ok (.bipush 8, 2) := by decide +kernel
theorem dX6_stepsBetween_13 : decode cX6_stepsBetween 13 = .ok (.irem, 1) := by decide +kernel
theorem dX6_stepsBetween_14 : decode cX6_stepsBetween 14 = .ok (.ireturn, 1) := by decide +kernel
theorem dX6_stepAt_0 : decode cX6_stepAt 0 = .ok (.iload_n 1, 1) := by decide +kernel
theorem dX6_stepAt_1 : decode cX6_stepAt 1 = .ok (.istore 4, 2) := by decide +kernel
theorem dX6_stepAt_3 : decode cX6_stepAt 3 = .ok (.iconst 0, 1) := by decide +kernel
theorem dX6_stepAt_4 : decode cX6_stepAt 4 = .ok (.istore 5, 2) := by decide +kernel
theorem dX6_stepAt_6 : decode cX6_stepAt 6 = .ok (.iload 5, 2) := by decide +kernel
theorem dX6_stepAt_8 : decode cX6_stepAt 8 = .ok (.bipush 7, 2) := by decide +kernel
theorem dX6_stepAt_10 : decode cX6_stepAt 10 = .ok (.if_icmp .ge 53, 3) := by decide +kernel
theorem dX6_stepAt_13 : decode cX6_stepAt 13 = .ok (.iload 4, 2) := by decide +kernel
theorem dX6_stepAt_15 : decode cX6_stepAt 15 = .ok (.iload_n 2, 1) := by decide +kernel
theorem dX6_stepAt_16 : decode cX6_stepAt 16 = .ok (.if_icmp .eq 47, 3) := by decide +kernel
theorem dX6_stepAt_19 : decode cX6_stepAt 19 = .ok (.aload_n 0, 1) := by decide +kernel
theorem dX6_stepAt_20 : decode cX6_stepAt 20 = .ok (.getfield 41, 3) := by decide +kernel
theorem dX6_stepAt_23 : decode cX6_stepAt 23 = .ok (.iload 4, 2) := by decide +kernel
theorem dX6_stepAt_25 : decode cX6_stepAt 25 = .ok (.bipush 7, 2) := by decide +kernel
theorem dX6_stepAt_27 : decode cX6_stepAt 27 = .ok (.imul, 1) := by decide +kernel
theorem dX6_stepAt_28 : decode cX6_stepAt 28 = .ok (.iload_n 2, 1) := by decide +kernel
theorem dX6_stepAt_29 : decode cX6_stepAt 29 = .ok (.iadd, 1) := by decide +kernel
theorem dX6_stepAt_30 : decode cX6_stepAt 30 = .ok (.iaload, 1) := by decide +kernel
theorem dX6_stepAt_31 : decode cX6_stepAt 31 = .ok (.istore 6, 2) := by decide +kernel
theorem dX6_stepAt_33 : decode cX6_stepAt 33 = .ok (.iload 6, 2) := by decide +kernel
theorem dX6_stepAt_35 : decode cX6_stepAt 35 = .ok (.iconst (-1), 1) := by decide +kernel
theorem dX6_stepAt_36 : decode cX6_stepAt 36 = .ok (.if_icmp .eq 9, 3) := by decide +kernel
theorem dX6_stepAt_39 : decode cX6_stepAt 39 = .ok (.iload 5, 2) := by decide +kernel
theorem dX6_stepAt_41 : decode cX6_stepAt 41 = .ok (.iload_n 3, 1) := by decide +kernel
theorem dX6_stepAt_42 : decode cX6_stepAt 42 = .ok (.if_icmp .ne 6, 3) := by decide +kernel
theorem dX6_stepAt_45 : decode cX6_stepAt 45 = .ok (.iload 6, 2) := by decide +kernel
theorem dX6_stepAt_47 : decode cX6_stepAt 47 = .ok (.ireturn, 1) := by decide +kernel
theorem dX6_stepAt_48 : decode cX6_stepAt 48 = .ok (.aload_n 0, 1) := by decide +kernel
theorem dX6_stepAt_49 : decode cX6_stepAt 49 = .ok (.getfield 15, 3) := by decide +kernel
theorem dX6_stepAt_52 : decode cX6_stepAt 52 = .ok (.iload 6, 2) := by decide +kernel
theorem dX6_stepAt_54 : decode cX6_stepAt 54 = .ok (.iaload, 1) := by decide +kernel
theorem dX6_stepAt_55 : decode cX6_stepAt 55 = .ok (.istore 4, 2) := by decide +kernel
theorem dX6_stepAt_57 : decode cX6_stepAt 57 = .ok (.iinc 5 1, 3) := by decide +kernel
theorem dX6_stepAt_60 : decode cX6_stepAt 60 = .ok (.goto (-54), 3) := by decide +kernel
theorem dX6_stepAt_63 : decode cX6_stepAt 63 = .ok (.iconst (-1), 1) := by decide +kernel
theorem dX6_stepAt_64 : decode cX6_stepAt 64 = .ok (.ireturn, 1) := by decide +kernel
theorem dX6_carry_0 : decode cX6_carry 0 = .ok (.aload_n 0, 1) := by decide +kernel
theorem dX6_carry_1 : decode cX6_carry 1 = .ok (.lload_n 3, 1) := by decide +kernel
theorem dX6_carry_2 : decode cX6_carry 2 = .ok (.putfield 44, 3) := by decide +kernel
theorem dX6_carry_5 : decode cX6_carry 5 = .ok (.iload_n 1, 1) := by decide +kernel
theorem dX6_carry_6 : decode cX6_carry 6 = .ok (.istore 5, 2) := by decide +kernel
theorem dX6_carry_8 : decode cX6_carry 8 = .ok (.iconst 0, 1) := by decide +kernel
theorem dX6_carry_9 : decode cX6_carry 9 = .ok (.istore 6, 2) := by decide +kernel
theorem dX6_carry_11 : decode cX6_carry 11 = .ok (.iload 6, 2) := by decide +kernel
theorem dX6_carry_13 : decode cX6_carry 13 = .ok (.bipush 7, 2) := by decide +kernel
theorem dX6_carry_15 : decode cX6_carry 15 = .ok (.if_icmp .ge 65, 3) := by decide +kernel
theorem dX6_carry_18 : decode cX6_carry 18 = .ok (.iload 5, 2) := by decide +kernel
theorem dX6_carry_20 : decode cX6_carry 20 = .ok (.iload_n 2, 1) := by decide +kernel
theorem dX6_carry_21 : decode cX6_carry 21 = .ok (.if_icmp .eq 59, 3) := by decide +kernel
theorem dX6_carry_24 : decode cX6_carry 24 = .ok (.aload_n 0, 1) := by decide +kernel
theorem dX6_carry_25 : decode cX6_carry 25 = .ok (.getfield 41, 3) := by decide +kernel
theorem dX6_carry_28 : decode cX6_carry 28 = .ok (.iload 5, 2) := by decide +kernel
theorem dX6_carry_30 : decode cX6_carry 30 = .ok (.bipush 7, 2) := by decide +kernel
theorem dX6_carry_32 : decode cX6_carry 32 = .ok (.imul, 1) := by decide +kernel
theorem dX6_carry_33 : decode cX6_carry 33 = .ok (.iload_n 2, 1) := by decide +kernel
theorem dX6_carry_34 : decode cX6_carry 34 = .ok (.iadd, 1) := by decide +kernel
theorem dX6_carry_35 : decode cX6_carry 35 = .ok (.iaload, 1) := by decide +kernel
theorem dX6_carry_36 : decode cX6_carry 36 = .ok (.istore 7, 2) := by decide +kernel
theorem dX6_carry_38 : decode cX6_carry 38 = .ok (.aload_n 0, 1) := by decide +kernel
theorem dX6_carry_39 : decode cX6_carry 39 = .ok (.iload 7, 2) := by decide +kernel
theorem dX6_carry_41 : decode cX6_carry 41 = .ok (.putfield 48, 3) := by decide +kernel
theorem dX6_carry_44 : decode cX6_carry 44 = .ok (.iload 7, 2) := by decide +kernel
theorem dX6_carry_46 : decode cX6_carry 46 = .ok (.iconst (-1), 1) := by decide +kernel
theorem dX6_carry_47 : decode cX6_carry 47 = .ok (.if_icmp .eq 16, 3) := by decide +kernel
theorem dX6_carry_50 : decode cX6_carry 50 = .ok (.aload_n 0, 1) := by decide +kernel
theorem dX6_carry_51 : decode cX6_carry 51 = .ok (.iload 7, 2) := by decide +kernel
theorem dX6_carry_53 : decode cX6_carry 53 = .ok (.aload_n 0, 1) := by decide +kernel
theorem dX6_carry_54 : decode cX6_carry 54 = .ok (.getfield 44, 3) := by decide +kernel
theorem dX6_carry_57 : decode cX6_carry 57 = .ok (.invokevirtual 75, 3) := by decide +kernel
theorem dX6_carry_60 : decode cX6_carry 60 = .ok (.ifCond .ne 5, 3) := by decide +kernel
theorem dX6_carry_63 : decode cX6_carry 63 = .ok (.iconst 0, 1) := by decide +kernel
theorem dX6_carry_64 : decode cX6_carry 64 = .ok (.ireturn, 1) := by decide +kernel
theorem dX6_carry_65 : decode cX6_carry 65 = .ok (.aload_n 0, 1) := by decide +kernel
theorem dX6_carry_66 : decode cX6_carry 66 = .ok (.getfield 15, 3) := by decide +kernel
theorem dX6_carry_69 : decode cX6_carry 69 = .ok (.iload 7, 2) := by decide +kernel
theorem dX6_carry_71 : decode cX6_carry 71 = .ok (.iaload, 1) := by decide +kernel
theorem dX6_carry_72 : decode cX6_carry 72 = .ok (.istore 5, 2) := by decide +kernel
theorem dX6_carry_74 : decode cX6_carry 74 = .ok (.iinc 6 1, 3) := by decide +kernel
theorem dX6_carry_77 : decode cX6_carry 77 = .ok (.goto (-66), 3) := by decide +kernel
theorem dX6_carry_80 : decode cX6_carry 80 = .ok (.iconst 1, 1) := by decide +kernel
theorem dX6_carry_81 : decode cX6_carry 81 = .ok (.ireturn, 1) := by decide +kernel
theorem dX6_follow_0 : decode cX6_follow 0 = .ok (.iload_n 1, 1) := by decide +kernel
theorem dX6_follow_1 : decode cX6_follow 1 = .ok (.bipush 7, 2) := by decide +kernel
theorem dX6_follow_3 : decode cX6_follow 3 = .ok (.if_icmp .ne 21, 3) := by decide +kernel
theorem dX6_follow_6 : decode cX6_follow 6 = .ok (.aload_n 0, 1) := by decide +kernel
theorem dX6_follow_7 : decode cX6_follow 7 = .ok (.lload_n 2, 1) := by decide +kernel
theorem dX6_follow_8 : decode cX6_follow 8 = .ok (.lconst 0, 1) := by decide +kernel
theorem dX6_follow_9 : decode cX6_follow 9 = .ok (.lcmp, 1) := by decide +kernel
theorem dX6_follow_10 : decode cX6_follow 10 = .ok (.ifCond .ne 7, 3) := by decide +kernel
theorem dX6_follow_13 : decode cX6_follow 13 = .ok (.lconst 0, 1) := by decide +kernel
theorem dX6_follow_14 : decode cX6_follow 14 = .ok (.goto 4, 3) := by decide +kernel
theorem dX6_follow_17 : decode cX6_follow 17 = .ok (.lconst 1, 1) := by decide +kernel
theorem dX6_follow_18 : decode cX6_follow 18 = .ok (.putfield 44, 3) := by decide +kernel
theorem dX6_follow_21 : decode cX6_follow 21 = .ok (.goto 66, 3) := by decide +kernel
theorem dX6_follow_24 : decode cX6_follow 24 = .ok (.iload_n 1, 1) := by decide +kernel
theorem dX6_follow_25 : decode cX6_follow 25 = .ok (.bipush 9, 2) := by decide +kernel
theorem dX6_follow_27 : decode cX6_follow 27 = .ok (.if_icmp .ne 15, 3) := by decide +kernel
theorem dX6_follow_30 : decode cX6_follow 30 = .ok (.aload_n 0, 1) := by decide +kernel
theorem dX6_follow_31 : decode cX6_follow 31 = .ok (.lload_n 2, 1) := by decide +kernel
theorem dX6_follow_32 : decode cX6_follow 32 = .ok (.ldc2_w 79, 3) := by decide +kernel
theorem dX6_follow_35 : decode cX6_follow 35 = .ok (.ldiv, 1) := by decide +kernel
theorem dX6_follow_36 : decode cX6_follow 36 = .ok (.putfield 44, 3) := by decide +kernel
theorem dX6_follow_39 : decode cX6_follow 39 = .ok (.goto 48, 3) := by decide +kernel
theorem dX6_follow_42 : decode cX6_follow 42 = .ok (.lload_n 2, 1) := by decide +kernel
theorem dX6_follow_43 : decode cX6_follow 43 = .ok (.aload_n 0, 1) := by decide +kernel
theorem dX6_follow_44 : decode cX6_follow 44 = .ok (.getfield 21, 3) := by decide +kernel
theorem dX6_follow_47 : decode cX6_follow 47 = .ok (.iload_n 1, 1) := by decide +kernel
theorem dX6_follow_48 : decode cX6_follow 48 = .ok (.iaload, 1) := by decide +kernel
theorem dX6_follow_49 : decode cX6_follow 49 = .ok (.aload_n 0, 1) := by decide +kernel
theorem dX6_follow_50 : decode cX6_follow 50 = .ok (.getfield 24, 3) := by decide +kernel
theorem dX6_follow_53 : decode cX6_follow 53 = .ok (.iload_n 1, 1) := by decide +kernel
theorem dX6_follow_54 : decode cX6_follow 54 = .ok (.iaload, 1) := by decide +kernel
theorem dX6_follow_55 : decode cX6_follow 55 = .ok (.invokestatic 81, 3) := by decide +kernel
theorem dX6_follow_58 : decode cX6_follow 58 = .ok (.ifCond .eq 27, 3) := by decide +kernel
theorem dX6_follow_61 : decode cX6_follow 61 = .ok (.aload_n 0, 1) := by decide +kernel
theorem dX6_follow_62 : decode cX6_follow 62 = .ok (.lload_n 2, 1) := by decide +kernel
theorem dX6_follow_63 : decode cX6_follow 63 = .ok (.aload_n 0, 1) := by decide +kernel
theorem dX6_follow_64 : decode cX6_follow 64 = .ok (.getfield 21, 3) := by decide +kernel
theorem dX6_follow_67 : decode cX6_follow 67 = .ok (.iload_n 1, 1) := by decide +kernel
theorem dX6_follow_68 : decode cX6_follow 68 = .ok (.iaload, 1) := by decide +kernel
theorem dX6_follow_69 : decode cX6_follow 69 = .ok (.i2l, 1) := by decide +kernel
theorem dX6_follow_70 : decode cX6_follow 70 = .ok (.lmul, 1) := by decide +kernel
theorem dX6_follow_71 : decode cX6_follow 71 = .ok (.aload_n 0, 1) := by decide +kernel
theorem dX6_follow_72 : decode cX6_follow 72 = .ok (.getfield 24, 3) := by decide +kernel
theorem dX6_follow_75 : decode cX6_follow 75 = .ok (.iload_n 1, 1) := by decide +kernel
theorem dX6_follow_76 : decode cX6_follow 76 = .ok (.iaload, 1) := by decide +kernel
theorem dX6_follow_77 : decode cX6_follow 77 = .ok (.i2l, 1) := by decide +kernel
theorem dX6_follow_78 : decode cX6_follow 78 = .ok (.ladd, 1) := by decide +kernel
theorem dX6_follow_79 : decode cX6_follow 79 = .ok (.putfield 44, 3) := by decide +kernel
theorem dX6_follow_82 : decode cX6_follow 82 = .ok (.goto 5, 3) := by decide +kernel
theorem dX6_follow_85 : decode cX6_follow 85 = .ok (.iconst 0, 1) := by decide +kernel
theorem dX6_follow_86 : decode cX6_follow 86 = .ok (.ireturn, 1) := by decide +kernel
theorem dX6_follow_87 : decode cX6_follow 87 = .ok (.aload_n 0, 1) := by decide +kernel
theorem dX6_follow_88 : decode cX6_follow 88 = .ok (.getfield 15, 3) := by decide +kernel
theorem dX6_follow_91 : decode cX6_follow 91 = .ok (.iload_n 1, 1) := by decide +kernel
theorem dX6_follow_92 : decode cX6_follow 92 = .ok (.iaload, 1) := by decide +kernel
theorem dX6_follow_93 : decode cX6_follow 93 = .ok (.aload_n 0, 1) := by decide +kernel
theorem dX6_follow_94 : decode cX6_follow 94 = .ok (.getfield 44, 3) := by decide +kernel
theorem dX6_follow_97 : decode cX6_follow 97 = .ok (.invokestatic 85, 3) := by decide +kernel
theorem dX6_follow_100 : decode cX6_follow 100 = .ok (.ireturn, 1) := by decide +kernel
theorem dX6_keep_0 : decode cX6_keep 0 = .ok (.aload_n 0, 1) := by decide +kernel
theorem dX6_keep_1 : decode cX6_keep 1 = .ok (.getfield 11, 3) := by decide +kernel
theorem dX6_keep_4 : decode cX6_keep 4 = .ok (.aload_n 0, 1) := by decide +kernel
theorem dX6_keep_5 : decode cX6_keep 5 = .ok (.getfield 31, 3) := by decide +kernel
theorem dX6_keep_8 : decode cX6_keep 8 = .ok (.iload_n 1, 1) := by decide +kernel
theorem dX6_keep_9 : decode cX6_keep 9 = .ok (.iastore, 1) := by decide +kernel
theorem dX6_keep_10 : decode cX6_keep 10 = .ok (.aload_n 0, 1) := by decide +kernel
theorem dX6_keep_11 : decode cX6_keep 11 = .ok (.getfield 15, 3) := by decide +kernel
theorem dX6_keep_14 : decode cX6_keep 14 = .ok (.aload_n 0, 1) := by decide +kernel
theorem dX6_keep_15 : decode cX6_keep 15 = .ok (.getfield 31, 3) := by decide +kernel
theorem dX6_keep_18 : decode cX6_keep 18 = .ok (.iload_n 2, 1) := by decide +kernel
theorem dX6_keep_19 : decode cX6_keep 19 = .ok (.iastore, 1) := by decide +kernel
theorem dX6_keep_20 : decode cX6_keep 20 = .ok (.aload_n 0, 1) := by decide +kernel
theorem dX6_keep_21 : decode cX6_keep 21 = .ok (.getfield 18, 3) := by decide +kernel
theorem dX6_keep_24 : decode cX6_keep 24 = .ok (.aload_n 0, 1) := by decide +kernel
theorem dX6_keep_25 : decode cX6_keep 25 = .ok (.getfield 31, 3) := by decide +kernel
theorem dX6_keep_28 : decode cX6_keep 28 = .ok (.iload_n 3, 1) := by decide +kernel
theorem dX6_keep_29 : decode cX6_keep 29 = .ok (.iastore, 1) := by decide +kernel
theorem dX6_keep_30 : decode cX6_keep 30 = .ok (.aload_n 0, 1) := by decide +kernel
theorem dX6_keep_31 : decode cX6_keep 31 = .ok (.getfield 21, 3) := by decide +kernel
theorem dX6_keep_34 : decode cX6_keep 34 = .ok (.aload_n 0, 1) := by decide +kernel
theorem dX6_keep_35 : decode cX6_keep 35 = .ok (.getfield 31, 3) := by decide +kernel
theorem dX6_keep_38 : decode cX6_keep 38 = .ok (.iload 4, 2) := by decide +kernel
theorem dX6_keep_40 : decode cX6_keep 40 = .ok (.iastore, 1) := by decide +kernel
theorem dX6_keep_41 : decode cX6_keep 41 = .ok (.aload_n 0, 1) := by decide +kernel
theorem dX6_keep_42 : decode cX6_keep 42 = .ok (.getfield 24, 3) := by decide +kernel
theorem dX6_keep_45 : decode cX6_keep 45 = .ok (.aload_n 0, 1) := by decide +kernel
theorem dX6_keep_46 : decode cX6_keep 46 = .ok (.getfield 31, 3) := by decide +kernel
theorem dX6_keep_49 : decode cX6_keep 49 = .ok (.iload 5, 2) := by decide +kernel
theorem dX6_keep_51 : decode cX6_keep 51 = .ok (.iastore, 1) := by decide +kernel
theorem dX6_keep_52 : decode cX6_keep 52 = .ok (.aload_n 0, 1) := by decide +kernel
theorem dX6_keep_53 : decode cX6_keep 53 = .ok (.getfield 27, 3) := by decide +kernel
theorem dX6_keep_56 : decode cX6_keep 56 = .ok (.aload_n 0, 1) := by decide +kernel
theorem dX6_keep_57 : decode cX6_keep 57 = .ok (.getfield 31, 3) := by decide +kernel
theorem dX6_keep_60 : decode cX6_keep 60 = .ok (.iconst 1, 1) := by decide +kernel
theorem dX6_keep_61 : decode cX6_keep 61 = .ok (.bastore, 1) := by decide +kernel
theorem dX6_keep_62 : decode cX6_keep 62 = .ok (.aload_n 0, 1) := by decide +kernel
theorem dX6_keep_63 : decode cX6_keep 63 = .ok (.dup, 1) := by decide +kernel
theorem dX6_keep_64 : decode cX6_keep 64 = .ok (.getfield 31, 3) := by decide +kernel
theorem dX6_keep_67 : decode cX6_keep 67 = .ok (.iconst 1, 1) := by decide +kernel
theorem dX6_keep_68 : decode cX6_keep 68 = .ok (.iadd, 1) := by decide +kernel
theorem dX6_keep_69 : decode cX6_keep 69 = .ok (.putfield 31, 3) := by decide +kernel
theorem dX6_keep_72 : decode cX6_keep 72 = .ok (.aload_n 0, 1) := by decide +kernel
theorem dX6_keep_73 : decode cX6_keep 73 = .ok (.dup, 1) := by decide +kernel
theorem dX6_keep_74 : decode cX6_keep 74 = .ok (.getfield 35, 3) := by decide +kernel
theorem dX6_keep_77 : decode cX6_keep 77 = .ok (.iconst 1, 1) := by decide +kernel
theorem dX6_keep_78 : decode cX6_keep 78 = .ok (.iadd, 1) := by decide +kernel
theorem dX6_keep_79 : decode cX6_keep 79 = .ok (.putfield 35, 3) := by decide +kernel
theorem dX6_keep_82 : decode cX6_keep 82 = .ok (.return_, 1) := by decide +kernel
theorem dX6_measure_0 : decode cX6_measure 0 = .ok (.aload_n 0, 1) := by decide +kernel
theorem dX6_measure_1 : decode cX6_measure 1 = .ok (.getfield 38, 3) := by decide +kernel
theorem dX6_measure_4 : decode cX6_measure 4 = .ok (.ldc 74, 2) := by decide +kernel
theorem dX6_measure_6 : decode cX6_measure 6 = .ok (.invokestatic 88, 3) := by decide +kernel
theorem dX6_measure_9 : decode cX6_measure 9 = .ok (.iconst 0, 1) := by decide +kernel
theorem dX6_measure_10 : decode cX6_measure 10 = .ok (.istore_n 1, 1) := by decide +kernel
theorem dX6_measure_11 : decode cX6_measure 11 = .ok (.iload_n 1, 1) := by decide +kernel
theorem dX6_measure_12 : decode cX6_measure 12 = .ok (.bipush 7, 2) := by decide +kernel
theorem dX6_measure_14 : decode cX6_measure 14 = .ok (.if_icmp .ge 21, 3) := by decide +kernel
theorem dX6_measure_17 : decode cX6_measure 17 = .ok (.aload_n 0, 1) := by decide +kernel
theorem dX6_measure_18 : decode cX6_measure 18 = .ok (.getfield 38, 3) := by decide +kernel
theorem dX6_measure_21 : decode cX6_measure 21 = .ok (.iload_n 1, 1) := by decide +kernel
theorem dX6_measure_22 : decode cX6_measure 22 = .ok (.bipush 7, 2) := by decide +kernel
theorem dX6_measure_24 : decode cX6_measure 24 = .ok (.imul, 1) := by decide +kernel
theorem dX6_measure_25 : decode cX6_measure 25 = .ok (.iload_n 1, 1) := by decide +kernel
theorem dX6_measure_26 : decode cX6_measure 26 = .ok (.iadd, 1) := by decide +kernel
theorem dX6_measure_27 : decode cX6_measure 27 = .ok (.iconst 0, 1) := by decide +kernel
theorem dX6_measure_28 : decode cX6_measure 28 = .ok (.iastore, 1) := by decide +kernel
theorem dX6_measure_29 : decode cX6_measure 29 = .ok (.iinc 1 1, 3) := by decide +kernel
theorem dX6_measure_32 : decode cX6_measure 32 = .ok (.goto (-21), 3) := by decide +kernel
theorem dX6_measure_35 : decode cX6_measure 35 = .ok (.iconst 0, 1) := by decide +kernel
theorem dX6_measure_36 : decode cX6_measure 36 = .ok (.istore_n 1, 1) := by decide +kernel
theorem dX6_measure_37 : decode cX6_measure 37 = .ok (.iload_n 1, 1) := by decide +kernel
theorem dX6_measure_38 : decode cX6_measure 38 = .ok (.aload_n 0, 1) := by decide +kernel
theorem dX6_measure_39 : decode cX6_measure 39 = .ok (.getfield 31, 3) := by decide +kernel
theorem dX6_measure_42 : decode cX6_measure 42 = .ok (.if_icmp .ge 55, 3) := by decide +kernel
theorem dX6_measure_45 : decode cX6_measure 45 = .ok (.aload_n 0, 1) := by decide +kernel
theorem dX6_measure_46 : decode cX6_measure 46 = .ok (.getfield 27, 3) := by decide +kernel
theorem dX6_measure_49 : decode cX6_measure 49 = .ok (.iload_n 1, 1) := by decide +kernel
theorem dX6_measure_50 : decode cX6_measure 50 = .ok (.baload, 1) := by decide +kernel
theorem dX6_measure_51 : decode cX6_measure 51 = .ok (.ifCond .eq 40, 3) := by decide +kernel
theorem dX6_measure_54 : decode cX6_measure 54 = .ok (.aload_n 0, 1) := by decide +kernel
theorem dX6_measure_55 : decode cX6_measure 55 = .ok (.getfield 11, 3) := by decide +kernel
theorem dX6_measure_58 : decode cX6_measure 58 = .ok (.iload_n 1, 1) := by decide +kernel
theorem dX6_measure_59 : decode cX6_measure 59 = .ok (.iaload, 1) := by decide +kernel
theorem dX6_measure_60 : decode cX6_measure 60 = .ok (.bipush 7, 2) := by decide +kernel
theorem dX6_measure_62 : decode cX6_measure 62 = .ok (.imul, 1) := by decide +kernel
theorem dX6_measure_63 : decode cX6_measure 63 = .ok (.aload_n 0, 1) := by decide +kernel
theorem dX6_measure_64 : decode cX6_measure 64 = .ok (.getfield 15, 3) := by decide +kernel
theorem dX6_measure_67 : decode cX6_measure 67 = .ok (.iload_n 1, 1) := by decide +kernel
theorem dX6_measure_68 : decode cX6_measure 68 = .ok (.iaload, 1) := by decide +kernel
theorem dX6_measure_69 : decode cX6_measure 69 = .ok (.iadd, 1) := by decide +kernel
theorem dX6_measure_70 : decode cX6_measure 70 = .ok (.istore_n 2, 1) := by decide +kernel
theorem dX6_measure_71 : decode cX6_measure 71 = .ok (.aload_n 0, 1) := by decide +kernel
theorem dX6_measure_72 : decode cX6_measure 72 = .ok (.getfield 38, 3) := by decide +kernel
theorem dX6_measure_75 : decode cX6_measure 75 = .ok (.iload_n 2, 1) := by decide +kernel
theorem dX6_measure_76 : decode cX6_measure 76 = .ok (.aload_n 0, 1) := by decide +kernel
theorem dX6_measure_77 : decode cX6_measure 77 = .ok (.getfield 38, 3) := by decide +kernel
theorem dX6_measure_80 : decode cX6_measure 80 = .ok (.iload_n 2, 1) := by decide +kernel
theorem dX6_measure_81 : decode cX6_measure 81 = .ok (.iaload, 1) := by decide +kernel
theorem dX6_measure_82 : decode cX6_measure 82 = .ok (.aload_n 0, 1) := by decide +kernel
theorem dX6_measure_83 : decode cX6_measure 83 = .ok (.iload_n 1, 1) := by decide +kernel
theorem dX6_measure_84 : decode cX6_measure 84 = .ok (.invokevirtual 94, 3) := by decide +kernel
theorem dX6_measure_87 : decode cX6_measure 87 = .ok (.invokestatic 98, 3) := by decide +kernel
theorem dX6_measure_90 : decode cX6_measure 90 = .ok (.iastore, 1) := by decide +kernel
theorem dX6_measure_91 : decode cX6_measure 91 = .ok (.iinc 1 1, 3) := by decide +kernel
theorem dX6_measure_94 : decode cX6_measure 94 = .ok (.goto (-57), 3) := by decide +kernel
theorem dX6_measure_97 : decode cX6_measure 97 = .ok (.iconst 0, 1) := by decide +kernel
theorem dX6_measure_98 : decode cX6_measure 98 = .ok (.istore_n 1, 1) := by decide +kernel
theorem dX6_measure_99 : decode cX6_measure 99 = .ok (.iload_n 1, 1) := by decide +kernel
theorem dX6_measure_100 : decode cX6_measure 100 = .ok (.bipush 7, 2) := by decide +kernel
theorem dX6_measure_102 : decode cX6_measure 102 = .ok (.if_icmp .ge 14, 3) := by decide +kernel
theorem dX6_measure_105 : decode cX6_measure 105 = .ok (.aload_n 0, 1) := by decide +kernel
theorem dX6_measure_106 : decode cX6_measure 106 = .ok (.iload_n 1, 1) := by decide +kernel
theorem dX6_measure_107 : decode cX6_measure 107 = .ok (.invokevirtual 104, 3) := by decide +kernel
theorem dX6_measure_110 : decode cX6_measure 110 = .ok (.iinc 1 1, 3) := by decide +kernel
theorem dX6_measure_113 : decode cX6_measure 113 = .ok (.goto (-14), 3) := by decide +kernel
theorem dX6_measure_116 : decode cX6_measure 116 = .ok (.iconst 0, 1) := by decide +kernel
theorem dX6_measure_117 : decode cX6_measure 117 = .ok (.istore_n 1, 1) := by decide +kernel
theorem dX6_measure_118 : decode cX6_measure 118 = .ok (.iload_n 1, 1) := by decide +kernel
theorem dX6_measure_119 : decode cX6_measure 119 = .ok (.bipush 49, 2) := by decide +kernel
theorem dX6_measure_121 : decode cX6_measure 121 = .ok (.if_icmp .ge 27, 3) := by decide +kernel
theorem dX6_measure_124 : decode cX6_measure 124 = .ok (.aload_n 0, 1) := by decide +kernel
theorem dX6_measure_125 : decode cX6_measure 125 = .ok (.getfield 41, 3) := by decide +kernel
theorem dX6_measure_128 : decode cX6_measure 128 = .ok (.iload_n 1, 1) := by decide +kernel
theorem dX6_measure_129 : decode cX6_measure 129 = .ok (.aload_n 0, 1) := by decide +kernel
theorem dX6_measure_130 : decode cX6_measure 130 = .ok (.iload_n 1, 1) := by decide +kernel
theorem dX6_measure_131 : decode cX6_measure 131 = .ok (.bipush 7, 2) := by decide +kernel
theorem dX6_measure_133 : decode cX6_measure 133 = .ok (.idiv, 1) := by decide +kernel
theorem dX6_measure_134 : decode cX6_measure 134 = .ok (.iload_n 1, 1) := by decide +kernel
theorem dX6_measure_135 : decode cX6_measure 135 = .ok (.bipush 7, 2) := by decide +kernel
theorem dX6_measure_137 : decode cX6_measure 137 = .ok (.irem, 1) := by decide +kernel
theorem dX6_measure_138 : decode cX6_measure 138 = .ok (.invokevirtual 108, 3) := by decide +kernel
theorem dX6_measure_141 : decode cX6_measure 141 = .ok (.iastore, 1) := by decide +kernel
theorem dX6_measure_142 : decode cX6_measure 142 = .ok (.iinc 1 1, 3) := by decide +kernel
theorem dX6_measure_145 : decode cX6_measure 145 = .ok (.goto (-27), 3) := by decide +kernel
theorem dX6_measure_148 : decode cX6_measure 148 = .ok (.return_, 1) := by decide +kernel
theorem dX6_weightOf_0 : decode cX6_weightOf 0 = .ok (.bipush 8, 2) := by decide +kernel
theorem dX6_weightOf_2 : decode cX6_weightOf 2 = .ok (.aload_n 0, 1) := by decide +kernel
theorem dX6_weightOf_3 : decode cX6_weightOf 3 = .ok (.getfield 18, 3) := by decide +kernel
theorem dX6_weightOf_6 : decode cX6_weightOf 6 = .ok (.iload_n 1, 1) := by decide +kernel
theorem dX6_weightOf_7 : decode cX6_weightOf 7 = .ok (.iaload, 1) := by decide +kernel
theorem dX6_weightOf_8 : decode cX6_weightOf 8 = .ok (.imul, 1) := by decide +kernel
theorem dX6_weightOf_9 : decode cX6_weightOf 9 = .ok (.iconst 1, 1) := by decide +kernel
theorem dX6_weightOf_10 : decode cX6_weightOf 10 = .ok (.iadd, 1) := by decide +kernel
theorem dX6_weightOf_11 : decode cX6_weightOf 11 = .ok (.ireturn, 1) := by decide +kernel
theorem dX6_shortenBy_0 : decode cX6_shortenBy 0 = .ok (.iconst 0, 1) := by decide +kernel
theorem dX6_shortenBy_1 : decode cX6_shortenBy 1 = .ok (.istore_n 2, 1) := by decide +kernel
theorem dX6_shortenBy_2 : decode cX6_shortenBy 2 = .ok (.iload_n 2, 1) := by decide +kernel
theorem dX6_shortenBy_3 : decode cX6_shortenBy 3 = .ok (.bipush 49, 2) := by decide +kernel
theorem dX6_shortenBy_5 : decode cX6_shortenBy 5 = .ok (.if_icmp .ge 59, 3) := by decide +kernel
theorem dX6_shortenBy_8 : decode cX6_shortenBy 8 = .ok (.aload_n 0, 1) := by decide +kernel
theorem dX6_shortenBy_9 : decode cX6_shortenBy 9 = .ok (.getfield 38, 3) := by decide +kernel
theorem dX6_shortenBy_12 : decode cX6_shortenBy 12 = .ok (.iload_n 2, 1) := by decide +kernel
theorem dX6_shortenBy_13 : decode cX6_shortenBy 13 = .ok (.bipush 7, 2) := by decide +kernel
theorem dX6_shortenBy_15 : decode cX6_shortenBy 15 = .ok (.idiv, 1) := by decide +kernel
theorem dX6_shortenBy_16 : decode cX6_shortenBy 16 = .ok (.bipush 7, 2) := by decide +kernel
theorem dX6_shortenBy_18 : decode cX6_shortenBy 18 = .ok (.imul, 1) := by decide +kernel
theorem dX6_shortenBy_19 : decode cX6_shortenBy 19 = .ok (.iload_n 1, 1) := by decide +kernel
theorem dX6_shortenBy_20 : decode cX6_shortenBy 20 = .ok (.iadd, 1) := by decide +kernel
theorem dX6_shortenBy_21 : decode cX6_shortenBy 21 = .ok (.iaload, 1) := by decide +kernel
theorem dX6_shortenBy_22 : decode cX6_shortenBy 22 = .ok (.istore_n 3, 1) := by decide +kernel
theorem dX6_shortenBy_23 : decode cX6_shortenBy 23 = .ok (.aload_n 0, 1) := by decide +kernel
theorem dX6_shortenBy_24 : decode cX6_shortenBy 24 = .ok (.getfield 38, 3) := by decide +kernel
theorem dX6_shortenBy_27 : decode cX6_shortenBy 27 = .ok (.iload_n 1, 1) := by decide +kernel
theorem dX6_shortenBy_28 : decode cX6_shortenBy 28 = .ok (.bipush 7, 2) := by decide +kernel
theorem dX6_shortenBy_30 : decode cX6_shortenBy 30 = .ok (.imul, 1) := by decide +kernel
theorem dX6_shortenBy_31 : decode cX6_shortenBy 31 = .ok (.iload_n 2, 1) := by decide +kernel
theorem dX6_shortenBy_32 : decode cX6_shortenBy 32 = .ok (.bipush 7, 2) := by decide +kernel
theorem dX6_shortenBy_34 : decode cX6_shortenBy 34 = .ok (.irem, 1) := by decide +kernel
theorem dX6_shortenBy_35 : decode cX6_shortenBy 35 = .ok (.iadd, 1) := by decide +kernel
theorem dX6_shortenBy_36 : decode cX6_shortenBy 36 = .ok (.iaload, 1) := by decide +kernel
theorem dX6_shortenBy_37 : decode cX6_shortenBy 37 = .ok (.istore 4, 2) := by decide +kernel
theorem dX6_shortenBy_39 : decode cX6_shortenBy 39 = .ok (.aload_n 0, 1) := by decide +kernel
theorem dX6_shortenBy_40 : decode cX6_shortenBy 40 = .ok (.getfield 38, 3) := by decide +kernel
theorem dX6_shortenBy_43 : decode cX6_shortenBy 43 = .ok (.iload_n 2, 1) := by decide +kernel
theorem dX6_shortenBy_44 : decode cX6_shortenBy 44 = .ok (.aload_n 0, 1) := by decide +kernel
theorem dX6_shortenBy_45 : decode cX6_shortenBy 45 = .ok (.getfield 38, 3) := by decide +kernel
theorem dX6_shortenBy_48 : decode cX6_shortenBy 48 = .ok (.iload_n 2, 1) := by decide +kernel
theorem dX6_shortenBy_49 : decode cX6_shortenBy 49 = .ok (.iaload, 1) := by decide +kernel
theorem dX6_shortenBy_50 : decode cX6_shortenBy 50 = .ok (.iload_n 3, 1) := by decide +kernel
theorem dX6_shortenBy_51 : decode cX6_shortenBy 51 = .ok (.iload 4, 2) := by decide +kernel
theorem dX6_shortenBy_53 : decode cX6_shortenBy 53 = .ok (.iadd, 1) := by decide +kernel
theorem dX6_shortenBy_54 : decode cX6_shortenBy 54 = .ok (.invokestatic 98, 3) := by decide +kernel
theorem dX6_shortenBy_57 : decode cX6_shortenBy 57 = .ok (.iastore, 1) := by decide +kernel
theorem dX6_shortenBy_58 : decode cX6_shortenBy 58 = .ok (.iinc 2 1, 3) := by decide +kernel
theorem dX6_shortenBy_61 : decode cX6_shortenBy 61 = .ok (.goto (-59), 3) := by decide +kernel
theorem dX6_shortenBy_64 : decode cX6_shortenBy 64 = .ok (.return_, 1) := by decide +kernel
theorem dX6_firstOf_0 : decode cX6_firstOf 0 = .ok (.aload_n 0, 1) := by decide +kernel
theorem dX6_firstOf_1 : decode cX6_firstOf 1 = .ok (.getfield 38, 3) := by decide +kernel
theorem dX6_firstOf_4 : decode cX6_firstOf 4 = .ok (.iload_n 1, 1) := by decide +kernel
theorem dX6_firstOf_5 : decode cX6_firstOf 5 = .ok (.bipush 7, 2) := by decide +kernel
theorem dX6_firstOf_7 : decode cX6_firstOf 7 = .ok (.imul, 1) := by decide +kernel
theorem dX6_firstOf_8 : decode cX6_firstOf 8 = .ok (.iload_n 2, 1) := by decide +kernel
theorem dX6_firstOf_9 : decode cX6_firstOf 9 = .ok (.iadd, 1) := by decide +kernel
theorem dX6_firstOf_10 : decode cX6_firstOf 10 = .ok (.iaload, 1) := by decide +kernel
theorem dX6_firstOf_11 : decode cX6_firstOf 11 = .ok (.istore_n 3, 1) := by decide +kernel
theorem dX6_firstOf_12 : decode cX6_firstOf 12 = .ok (.iconst 0, 1) := by decide +kernel
theorem dX6_firstOf_13 : decode cX6_firstOf 13 = .ok (.istore 4, 2) := by decide +kernel
theorem dX6_firstOf_15 : decode cX6_firstOf 15 = .ok (.iload 4, 2) := by decide +kernel
theorem dX6_firstOf_17 : decode cX6_firstOf 17 = .ok (.aload_n 0, 1) := by decide +kernel
theorem dX6_firstOf_18 : decode cX6_firstOf 18 = .ok (.getfield 31, 3) := by decide +kernel
theorem dX6_firstOf_21 : decode cX6_firstOf 21 = .ok (.if_icmp .ge 67, 3) := by decide +kernel
theorem dX6_firstOf_24 : decode cX6_firstOf 24 = .ok (.iload_n 3, 1) := by decide +kernel
theorem dX6_firstOf_25 : decode cX6_firstOf 25 = .ok (.ldc 74, 2) := by decide +kernel
theorem dX6_firstOf_27 : decode cX6_firstOf 27 = .ok (.if_icmp .ge 61, 3) := by decide +kernel
theorem dX6_firstOf_30 : decode cX6_firstOf 30 = .ok (.aload_n 0, 1) := by decide +kernel
theorem dX6_firstOf_31 : decode cX6_firstOf 31 = .ok (.getfield 27, 3) := by decide +kernel
theorem dX6_firstOf_34 : decode cX6_firstOf 34 = .ok (.iload 4, 2) := by decide +kernel
theorem dX6_firstOf_36 : decode cX6_firstOf 36 = .ok (.baload, 1) := by decide +kernel
theorem dX6_firstOf_37 : decode cX6_firstOf 37 = .ok (.ifCond .eq 45, 3) := by decide +kernel
theorem dX6_firstOf_40 : decode cX6_firstOf 40 = .ok (.aload_n 0, 1) := by decide +kernel
theorem dX6_firstOf_41 : decode cX6_firstOf 41 = .ok (.getfield 11, 3) := by decide +kernel
theorem dX6_firstOf_44 : decode cX6_firstOf 44 = .ok (.iload 4, 2) := by decide +kernel
theorem dX6_firstOf_46 : decode cX6_firstOf 46 = .ok (.iaload, 1) := by decide +kernel
theorem dX6_firstOf_47 : decode cX6_firstOf 47 = .ok (.iload_n 1, 1) := by decide +kernel
theorem dX6_firstOf_48 : decode cX6_firstOf 48 = .ok (.if_icmp .ne 34, 3) := by decide +kernel
theorem dX6_firstOf_51 : decode cX6_firstOf 51 = .ok (.aload_n 0, 1) := by decide +kernel
theorem dX6_firstOf_52 : decode cX6_firstOf 52 = .ok (.iload 4, 2) := by decide +kernel
theorem dX6_firstOf_54 : decode cX6_firstOf 54 = .ok (.invokevirtual 94, 3) := by decide +kernel
theorem dX6_firstOf_57 : decode cX6_firstOf 57 = .ok (.aload_n 0, 1) := by decide +kernel
theorem dX6_firstOf_58 : decode cX6_firstOf 58 = .ok (.getfield 38, 3) := by decide +kernel
theorem dX6_firstOf_61 : decode cX6_firstOf 61 = .ok (.aload_n 0, 1) := by decide +kernel
theorem dX6_firstOf_62 : decode cX6_firstOf 62 = .ok (.getfield 15, 3) := by decide +kernel
theorem dX6_firstOf_65 : decode cX6_firstOf 65 = .ok (.iload 4, 2) := by decide +kernel
theorem dX6_firstOf_67 : decode cX6_firstOf 67 = .ok (.iaload, 1) := by decide +kernel
theorem dX6_firstOf_68 : decode cX6_firstOf 68 = .ok (.bipush 7, 2) := by decide +kernel
theorem dX6_firstOf_70 : decode cX6_firstOf 70 = .ok (.imul, 1) := by decide +kernel
theorem dX6_firstOf_71 : decode cX6_firstOf 71 = .ok (.iload_n 2, 1) := by decide +kernel
theorem dX6_firstOf_72 : decode cX6_firstOf 72 = .ok (.iadd, 1) := by decide +kernel
theorem dX6_firstOf_73 : decode cX6_firstOf 73 = .ok (.iaload, 1) := by decide +kernel
theorem dX6_firstOf_74 : decode cX6_firstOf 74 = .ok (.iadd, 1) := by decide +kernel
theorem dX6_firstOf_75 : decode cX6_firstOf 75 = .ok (.iload_n 3, 1) := by decide +kernel
theorem dX6_firstOf_76 : decode cX6_firstOf 76 = .ok (.if_icmp .ne 6, 3) := by decide +kernel
theorem dX6_firstOf_79 : decode cX6_firstOf 79 = .ok (.iload 4, 2) := by decide +kernel
theorem dX6_firstOf_81 : decode cX6_firstOf 81 = .ok (.ireturn, 1) := by decide +kernel
theorem dX6_firstOf_82 : decode cX6_firstOf 82 = .ok (.iinc 4 1, 3) := by decide +kernel
theorem dX6_firstOf_85 : decode cX6_firstOf 85 = .ok (.goto (-70), 3) := by decide +kernel
theorem dX6_firstOf_88 : decode cX6_firstOf 88 = .ok (.iconst (-1), 1) := by decide +kernel
theorem dX6_firstOf_89 : decode cX6_firstOf 89 = .ok (.ireturn, 1) := by decide +kernel
theorem dX7_init_0 : decode cX7_init 0 = .ok (.aload_n 0, 1) := by decide +kernel
theorem dX7_init_1 : decode cX7_init 1 = .ok (.invokespecial 3, 3) := by decide +kernel
theorem dX7_init_4 : decode cX7_init 4 = .ok (.aload_n 0, 1) := by decide +kernel
theorem dX7_init_5 : decode cX7_init 5 = .ok (.bipush 6, 2) := by decide +kernel
theorem dX7_init_7 : decode cX7_init 7 = .ok (.anewarray 9, 3) := by decide +kernel
theorem dX7_init_10 : decode cX7_init 10 = .ok (.putfield 11, 3) := by decide +kernel
theorem dX7_init_13 : decode cX7_init 13 = .ok (.aload_n 0, 1) := by decide +kernel
theorem dX7_init_14 : decode cX7_init 14 = .ok (.iconst 0, 1) := by decide +kernel
theorem dX7_init_15 : decode cX7_init 15 = .ok (.putfield 17, 3) := by decide +kernel
theorem dX7_init_18 : decode cX7_init 18 = .ok (.iconst 0, 1) := by decide +kernel
theorem dX7_init_19 : decode cX7_init 19 = .ok (.istore_n 1, 1) := by decide +kernel
theorem dX7_init_20 : decode cX7_init 20 = .ok (.iload_n 1, 1) := by decide +kernel
theorem dX7_init_21 : decode cX7_init 21 = .ok (.bipush 6, 2) := by decide +kernel
theorem dX7_init_23 : decode cX7_init 23 = .ok (.if_icmp .ge 22, 3) := by decide +kernel
theorem dX7_init_26 : decode cX7_init 26 = .ok (.aload_n 0, 1) := by decide +kernel
theorem dX7_init_27 : decode cX7_init 27 = .ok (.getfield 11, 3) := by decide +kernel
theorem dX7_init_30 : decode cX7_init 30 = .ok (.iload_n 1, 1) := by decide +kernel
theorem dX7_init_31 : decode cX7_init 31 = .ok (.new 9, 3) := by decide +kernel
theorem dX7_init_34 : decode cX7_init 34 = .ok (.dup, 1) := by decide +kernel
theorem dX7_init_35 : decode cX7_init 35 = .ok (.invokespecial 21, 3) := by decide +kernel
theorem dX7_init_38 : decode cX7_init 38 = .ok (.aastore, 1) := by decide +kernel
theorem dX7_init_39 : decode cX7_init 39 = .ok (.iinc 1 1, 3) := by decide +kernel
theorem dX7_init_42 : decode cX7_init 42 = .ok (.goto (-22), 3) := by decide +kernel
theorem dX7_init_45 : decode cX7_init 45 = .ok (.return_, 1) := by decide +kernel
theorem dX7_has_0 : decode cX7_has 0 = .ok (.iload_n 1, 1) := by decide +kernel
theorem dX7_has_1 : decode cX7_has 1 = .ok (.iconst 0, 1) := by decide +kernel
theorem dX7_has_2 : decode cX7_has 2 = .ok (.aload_n 0, 1) := by decide +kernel
theorem dX7_has_3 : decode cX7_has 3 = .ok (.getfield 17, 3) := by decide +kernel
theorem dX7_has_6 : decode cX7_has 6 = .ok (.iconst 1, 1) := by decide +kernel
theorem dX7_has_7 : decode cX7_has 7 = .ok (.isub, 1) := by decide +kernel
theorem dX7_has_8 : decode cX7_has 8 = .ok (.invokestatic 22, 3) := by decide +kernel
theorem dX7_has_11 : decode cX7_has 11 = .ok (.ireturn, 1) := by decide +kernel
theorem dX7_add_0 : decode cX7_add 0 = .ok (.aload_n 0, 1) := by decide +kernel
theorem dX7_add_1 : decode cX7_add 1 = .ok (.getfield 11, 3) := by decide +kernel
theorem dX7_add_4 : decode cX7_add 4 = .ok (.aload_n 0, 1) := by decide +kernel
theorem dX7_add_5 : decode cX7_add 5 = .ok (.getfield 17, 3) := by decide +kernel
theorem dX7_add_8 : decode cX7_add 8 = .ok (.aaload, 1) := by decide +kernel
theorem dX7_add_9 : decode cX7_add 9 = .ok (.iload_n 1, 1) := by decide +kernel
theorem dX7_add_10 : decode cX7_add 10 = .ok (.iload_n 2, 1) := by decide +kernel
theorem dX7_add_11 : decode cX7_add 11 = .ok (.invokevirtual 26, 3) := by decide +kernel
theorem dX7_add_14 : decode cX7_add 14 = .ok (.aload_n 0, 1) := by decide +kernel
theorem dX7_add_15 : decode cX7_add 15 = .ok (.dup, 1) := by decide +kernel
theorem dX7_add_16 : decode cX7_add 16 = .ok (.getfield 17, 3) := by decide +kernel
theorem dX7_add_19 : decode cX7_add 19 = .ok (.iconst 1, 1) := by decide +kernel
theorem dX7_add_20 : decode cX7_add 20 = .ok (.iadd, 1) := by decide +kernel
theorem dX7_add_21 : decode cX7_add 21 = .ok (.putfield 17, 3) := by decide +kernel
theorem dX7_add_24 : decode cX7_add 24 = .ok (.aload_n 0, 1) := by decide +kernel
theorem dX7_add_25 : decode cX7_add 25 = .ok (.getfield 17, 3) := by decide +kernel
theorem dX7_add_28 : decode cX7_add 28 = .ok (.iconst 1, 1) := by decide +kernel
theorem dX7_add_29 : decode cX7_add 29 = .ok (.isub, 1) := by decide +kernel
theorem dX7_add_30 : decode cX7_add 30 = .ok (.ireturn, 1) := by decide +kernel
theorem dX8_init_0 : decode cX8_init 0 = .ok (.aload_n 0, 1) := by decide +kernel
theorem dX8_init_1 : decode cX8_init 1 = .ok (.invokespecial 3, 3) := by decide +kernel
theorem dX8_init_4 : decode cX8_init 4 = .ok (.aload_n 0, 1) := by decide +kernel
theorem dX8_init_5 : decode cX8_init 5 = .ok (.bipush 20, 2) := by decide +kernel
theorem dX8_init_7 : decode cX8_init 7 = .ok (.newarray .int, 2) := by decide +kernel
theorem dX8_init_9 : decode cX8_init 9 = .ok (.putfield 9, 3) := by decide +kernel
theorem dX8_init_12 : decode cX8_init 12 = .ok (.aload_n 0, 1) := by decide +kernel
theorem dX8_init_13 : decode cX8_init 13 = .ok (.bipush 60, 2) := by decide +kernel
theorem dX8_init_15 : decode cX8_init 15 = .ok (.newarray .long, 2) := by decide +kernel
theorem dX8_init_17 : decode cX8_init 17 = .ok (.putfield 15, 3) := by decide +kernel
theorem dX8_init_20 : decode cX8_init 20 = .ok (.aload_n 0, 1) := by decide +kernel
theorem dX8_init_21 : decode cX8_init 21 = .ok (.iconst 0, 1) := by decide +kernel
theorem dX8_init_22 : decode cX8_init 22 = .ok (.putfield 19, 3) := by decide +kernel
theorem dX8_init_25 : decode cX8_init 25 = .ok (.return_, 1) := by decide +kernel
theorem dX8_has_0 : decode cX8_has 0 = .ok (.iload_n 1, 1) := by decide +kernel
theorem dX8_has_1 : decode cX8_has 1 = .ok (.iconst 0, 1) := by decide +kernel
theorem dX8_has_2 : decode cX8_has 2 = .ok (.aload_n 0, 1) := by decide +kernel
theorem dX8_has_3 : decode cX8_has 3 = .ok (.getfield 19, 3) := by decide +kernel
theorem dX8_has_6 : decode cX8_has 6 = .ok (.iconst 1, 1) := by decide +kernel
theorem dX8_has_7 : decode cX8_has 7 = .ok (.isub, 1) := by decide +kernel
theorem dX8_has_8 : decode cX8_has 8 = .ok (.invokestatic 23, 3) := by decide +kernel
theorem dX8_has_11 : decode cX8_has 11 = .ok (.ireturn, 1) := by decide +kernel
theorem dX8_add_0 : decode cX8_add 0 = .ok (.aload_n 0, 1) := by decide +kernel
theorem dX8_add_1 : decode cX8_add 1 = .ok (.getfield 9, 3) := by decide +kernel
theorem dX8_add_4 : decode cX8_add 4 = .ok (.aload_n 0, 1) := by decide +kernel
theorem dX8_add_5 : decode cX8_add 5 = .ok (.getfield 19, 3) := by decide +kernel
theorem dX8_add_8 : decode cX8_add 8 = .ok (.iload_n 1, 1) := by decide +kernel
theorem dX8_add_9 : decode cX8_add 9 = .ok (.iastore, 1) := by decide +kernel
theorem dX8_add_10 : decode cX8_add 10 = .ok (.aload_n 0, 1) := by decide +kernel
theorem dX8_add_11 : decode cX8_add 11 = .ok (.dup, 1) := by decide +kernel
theorem dX8_add_12 : decode cX8_add 12 = .ok (.getfield 19, 3) := by decide +kernel
theorem dX8_add_15 : decode cX8_add 15 = .ok (.iconst 1, 1) := by decide +kernel
theorem dX8_add_16 : decode cX8_add 16 = .ok (.iadd, 1) := by decide +kernel
theorem dX8_add_17 : decode cX8_add 17 = .ok (.putfield 19, 3) := by decide +kernel
theorem dX8_add_20 : decode cX8_add 20 = .ok (.aload_n 0, 1) := by decide +kernel
theorem dX8_add_21 : decode cX8_add 21 = .ok (.getfield 19, 3) := by decide +kernel
theorem dX8_add_24 : decode cX8_add 24 = .ok (.iconst 1, 1) := by decide +kernel
theorem dX8_add_25 : decode cX8_add 25 = .ok (.isub, 1) := by decide +kernel
theorem dX8_add_26 : decode cX8_add 26 = .ok (.ireturn, 1) := by decide +kernel
theorem dX9_init_0 : decode cX9_init 0 = .ok (.aload_n 0, 1) := by decide +kernel
theorem dX9_init_1 : decode cX9_init 1 = .ok (.invokespecial 3, 3) := by decide +kernel
theorem dX9_init_4 : decode cX9_init 4 = .ok (.aload_n 0, 1) := by decide +kernel
theorem dX9_init_5 : decode cX9_init 5 = .ok (.bipush 100, 2) := by decide +kernel
theorem dX9_init_7 : decode cX9_init 7 = .ok (.newarray .int, 2) := by decide +kernel
theorem dX9_init_9 : decode cX9_init 9 = .ok (.putfield 9, 3) := by decide +kernel
theorem dX9_init_12 : decode cX9_init 12 = .ok (.aload_n 0, 1) := by decide +kernel
theorem dX9_init_13 : decode cX9_init 13 = .ok (.bipush 10, 2) := by decide +kernel
theorem dX9_init_15 : decode cX9_init 15 = .ok (.newarray .int, 2) := by decide +kernel
theorem dX9_init_17 : decode cX9_init 17 = .ok (.putfield 15, 3) := by decide +kernel
theorem dX9_init_20 : decode cX9_init 20 = .ok (.aload_n 0, 1) := by decide +kernel
theorem dX9_init_21 : decode cX9_init 21 = .ok (.iconst 0, 1) := by decide +kernel
theorem dX9_init_22 : decode cX9_init 22 = .ok (.putfield 18, 3) := by decide +kernel
theorem dX9_init_25 : decode cX9_init 25 = .ok (.aload_n 0, 1) := by decide +kernel
theorem dX9_init_26 : decode cX9_init 26 = .ok (.iconst 0, 1) := by decide +kernel
theorem dX9_init_27 : decode cX9_init 27 = .ok (.putfield 22, 3) := by decide +kernel
theorem dX9_init_30 : decode cX9_init 30 = .ok (.aload_n 0, 1) := by decide +kernel
theorem dX9_init_31 : decode cX9_init 31 = .ok (.bipush 10, 2) := by decide +kernel
theorem dX9_init_33 : decode cX9_init 33 = .ok (.newarray .int, 2) := by decide +kernel
theorem dX9_init_35 : decode cX9_init 35 = .ok (.putfield 25, 3) := by decide +kernel
theorem dX9_init_38 : decode cX9_init 38 = .ok (.aload_n 0, 1) := by decide +kernel
theorem dX9_init_39 : decode cX9_init 39 = .ok (.aload_n 1, 1) := by decide +kernel
theorem dX9_init_40 : decode cX9_init 40 = .ok (.putfield 28, 3) := by decide +kernel
theorem dX9_init_43 : decode cX9_init 43 = .ok (.aload_n 0, 1) := by decide +kernel
theorem dX9_init_44 : decode cX9_init 44 = .ok (.aload_n 2, 1) := by decide +kernel
theorem dX9_init_45 : decode cX9_init 45 = .ok (.putfield 32, 3) := by decide +kernel
theorem dX9_init_48 : decode cX9_init 48 = .ok (.aload_n 0, 1) := by decide +kernel
theorem dX9_init_49 : decode cX9_init 49 = .ok (.invokevirtual 36, 3) := by decide +kernel
theorem dX9_init_52 : decode cX9_init 52 = .ok (.return_, 1) := by decide +kernel
theorem dX9_forgetAll_0 : decode cX9_forgetAll 0 = .ok (.aload_n 0, 1) := by decide +kernel
theorem dX9_forgetAll_1 : decode cX9_forgetAll 1 = .ok (.getfield 9, 3) := by decide +kernel
theorem dX9_forgetAll_4 : decode cX9_forgetAll 4 = .ok (.iconst (-1), 1) := by decide +kernel
theorem dX9_forgetAll_5 : decode cX9_forgetAll 5 = .ok (.invokestatic 39, 3) := by decide +kernel
theorem dX9_forgetAll_8 : decode cX9_forgetAll 8 = .ok (.return_, 1) := by decide +kernel
theorem dX9_forgetFace_0 : decode cX9_forgetFace 0 = .ok (.iconst 0, 1) := by decide +kernel
theorem dX9_forgetFace_1 : decode cX9_forgetFace 1 = .ok (.istore_n 2, 1) := by decide +kernel
theorem dX9_forgetFace_2 : decode cX9_forgetFace 2 = .ok (.iload_n 2, 1) := by decide +kernel
theorem dX9_forgetFace_3 : decode cX9_forgetFace 3 = .ok (.bipush 10, 2) := by decide +kernel
theorem dX9_forgetFace_5 : decode cX9_forgetFace 5 = .ok (.if_icmp .ge 33, 3) := by decide +kernel
theorem dX9_forgetFace_8 : decode cX9_forgetFace 8 = .ok (.aload_n 0, 1) := by decide +kernel
theorem dX9_forgetFace_9 : decode cX9_forgetFace 9 = .ok (.getfield 9, 3) := by decide +kernel
theorem dX9_forgetFace_12 : decode cX9_forgetFace 12 = .ok (.iload_n 1, 1) := by decide +kernel
theorem dX9_forgetFace_13 : decode cX9_forgetFace 13 = .ok (.bipush 10, 2) := by decide +kernel
theorem dX9_forgetFace_15 : decode cX9_forgetFace 15 = .ok (.imul, 1) := by decide +kernel
theorem dX9_forgetFace_16 : decode cX9_forgetFace 16 = .ok (.iload_n 2, 1) := by decide +kernel
theorem dX9_forgetFace_17 : decode cX9_forgetFace 17 = .ok (.iadd, 1) := by decide +kernel
theorem dX9_forgetFace_18 : decode cX9_forgetFace 18 = .ok (.iconst (-1), 1) := by decide +kernel
theorem dX9_forgetFace_19 : decode cX9_forgetFace 19 = .ok (.iastore, 1) := by decide +kernel
theorem dX9_forgetFace_20 : decode cX9_forgetFace 20 = .ok (.aload_n 0, 1) := by decide +kernel
theorem dX9_forgetFace_21 : decode cX9_forgetFace 21 = .ok (.getfield 9, 3) := by decide +kernel
theorem dX9_forgetFace_24 : decode cX9_forgetFace 24 = .ok (.iload_n 2, 1) := by decide +kernel
theorem dX9_forgetFace_25 : decode cX9_forgetFace 25 = .ok (.bipush 10, 2) := by decide +kernel
theorem dX9_forgetFace_27 : decode cX9_forgetFace 27 = .ok (.imul, 1) := by decide +kernel
theorem dX9_forgetFace_28 : decode cX9_forgetFace 28 = .ok (.iload_n 1, 1) := by decide +kernel
theorem dX9_forgetFace_29 : decode cX9_forgetFace 29 = .ok (.iadd, 1) := by decide +kernel
theorem dX9_forgetFace_30 : decode cX9_forgetFace 30 = .ok (.iconst (-1), 1) := by decide +kernel
theorem dX9_forgetFace_31 : decode cX9_forgetFace 31 = .ok (.iastore, 1) := by decide +kernel
theorem dX9_forgetFace_32 : decode cX9_forgetFace 32 = .ok (.iinc 2 1, 3) := by decide +kernel
theorem dX9_forgetFace_35 : decode cX9_forgetFace 35 = .ok (.goto (-33), 3) := by decide +kernel
theorem dX9_forgetFace_38 : decode cX9_forgetFace 38 = .ok (.return_, 1) := by decide +kernel
theorem dX9_find_0 : decode cX9_find 0 = .ok (.aload_n 0, 1) := by decide +kernel
theorem dX9_find_1 : decode cX9_find 1 = .ok (.invokevirtual 45, 3) := by decide +kernel
theorem dX9_find_4 : decode cX9_find 4 = .ok (.aload_n 0, 1) := by decide +kernel
theorem dX9_find_5 : decode cX9_find 5 = .ok (.iload_n 2, 1) := by decide +kernel
theorem dX9_find_6 : decode cX9_find 6 = .ok (.invokevirtual 48, 3) := by decide +kernel
theorem dX9_find_9 : decode cX9_find 9 = .ok (.aload_n 0, 1) := by decide +kernel
theorem dX9_find_10 : decode cX9_find 10 = .ok (.iconst 0, 1) := by decide +kernel
theorem dX9_find_11 : decode cX9_find 11 = .ok (.putfield 22, 3) := by decide +kernel
theorem dX9_find_14 : decode cX9_find 14 = .ok (.aload_n 0, 1) := by decide +kernel
theorem dX9_find_15 : decode cX9_find 15 = .ok (.getfield 15, 3) := by decide +kernel
theorem dX9_find_18 : decode cX9_find 18 = .ok (.iload_n 1, 1) := by decide +kernel
theorem dX9_find_19 : decode cX9_find 19 = .ok (.iaload, 1) := by decide +kernel
theorem dX9_find_20 : decode cX9_find 20 = .ok (.ldc 52, 2) := by decide +kernel
theorem dX9_find_22 : decode cX9_find 22 = .ok (.if_icmp .lt 5, 3) := by decide +kernel
theorem dX9_find_25 : decode cX9_find 25 = .ok (.iconst 0, 1) := by decide +kernel
theorem dX9_find_26 : decode cX9_find 26 = .ok (.ireturn, 1) := by decide +kernel
theorem dX9_find_27 : decode cX9_find 27 = .ok (.aload_n 0, 1) := by decide +kernel
theorem dX9_find_28 : decode cX9_find 28 = .ok (.aload_n 0, 1) := by decide +kernel
theorem dX9_find_29 : decode cX9_find 29 = .ok (.getfield 15, 3) := by decide +kernel
theorem dX9_find_32 : decode cX9_find 32 = .ok (.iload_n 1, 1) := by decide +kernel
theorem dX9_find_33 : decode cX9_find 33 = .ok (.iaload, 1) := by decide +kernel
theorem dX9_find_34 : decode cX9_find 34 = .ok (.bipush 16, 2) := by decide +kernel
theorem dX9_find_36 : decode cX9_find 36 = .ok (.idiv, 1) := by decide +kernel
theorem dX9_find_37 : decode cX9_find 37 = .ok (.putfield 18, 3) := by decide +kernel
theorem dX9_find_40 : decode cX9_find 40 = .ok (.iload_n 1, 1) := by decide +kernel
theorem dX9_find_41 : decode cX9_find 41 = .ok (.istore_n 3, 1) := by decide +kernel
theorem dX9_find_42 : decode cX9_find 42 = .ok (.iconst 0, 1) := by decide +kernel
theorem dX9_find_43 : decode cX9_find 43 = .ok (.istore 4, 2) := by decide +kernel
theorem dX9_find_45 : decode cX9_find 45 = .ok (.iload 4, 2) := by decide +kernel
theorem dX9_find_47 : decode cX9_find 47 = .ok (.bipush 10, 2) := by decide +kernel
theorem dX9_find_49 : decode cX9_find 49 = .ok (.if_icmp .ge 47, 3) := by decide +kernel
theorem dX9_find_52 : decode cX9_find 52 = .ok (.iload_n 3, 1) := by decide +kernel
theorem dX9_find_53 : decode cX9_find 53 = .ok (.iconst (-1), 1) := by decide +kernel
theorem dX9_find_54 : decode cX9_find 54 = .ok (.if_icmp .eq 42, 3) := by decide +kernel
theorem dX9_find_57 : decode cX9_find 57 = .ok (.aload_n 0, 1) := by decide +kernel
theorem dX9_find_58 : decode cX9_find 58 = .ok (.getfield 25, 3) := by decide +kernel
theorem dX9_find_61 : decode cX9_find 61 = .ok (.iload 4, 2) := by decide +kernel
theorem dX9_find_63 : decode cX9_find 63 = .ok (.iload_n 3, 1) := by decide +kernel
theorem dX9_find_64 : decode cX9_find 64 = .ok (.iastore, 1) := by decide +kernel
theorem dX9_find_65 : decode cX9_find 65 = .ok (.aload_n 0, 1) := by decide +kernel
theorem dX9_find_66 : decode cX9_find 66 = .ok (.dup, 1) := by decide +kernel
theorem dX9_find_67 : decode cX9_find 67 = .ok (.getfield 22, 3) := by decide +kernel
theorem dX9_find_70 : decode cX9_find 70 = .ok (.iconst 1, 1) := by decide +kernel
theorem dX9_find_71 : decode cX9_find 71 = .ok (.iadd, 1) := by decide +kernel
theorem dX9_find_72 : decode cX9_find 72 = .ok (.putfield 22, 3) := by decide +kernel
theorem dX9_find_75 : decode cX9_find 75 = .ok (.iload_n 3, 1) := by decide +kernel
theorem dX9_find_76 : decode cX9_find 76 = .ok (.iload_n 2, 1) := by decide +kernel
theorem dX9_find_77 : decode cX9_find 77 = .ok (.if_icmp .ne 7, 3) := by decide +kernel
theorem dX9_find_80 : decode cX9_find 80 = .ok (.iconst (-1), 1) := by decide +kernel
theorem dX9_find_81 : decode cX9_find 81 = .ok (.goto 8, 3) := by decide +kernel
theorem dX9_find_84 : decode cX9_find 84 = .ok (.aload_n 0, 1) := by decide +kernel
theorem dX9_find_85 : decode cX9_find 85 = .ok (.iload_n 3, 1) := by decide +kernel
theorem dX9_find_86 : decode cX9_find 86 = .ok (.invokevirtual 53, 3) := by decide +kernel
theorem dX9_find_89 : decode cX9_find 89 = .ok (.istore_n 3, 1) := by decide +kernel
theorem dX9_find_90 : decode cX9_find 90 = .ok (.iinc 4 1, 3) := by decide +kernel
theorem dX9_find_93 : decode cX9_find 93 = .ok (.goto (-48), 3) := by decide +kernel
theorem dX9_find_96 : decode cX9_find 96 = .ok (.iconst 1, 1) := by decide +kernel
theorem dX9_find_97 : decode cX9_find 97 = .ok (.ireturn, 1) := by decide +kernel
theorem dX9_weigh_0 : decode cX9_weigh 0 = .ok (.iconst 0, 1) := by decide +kernel
theorem dX9_weigh_1 : decode cX9_weigh 1 = .ok (.istore_n 1, 1) := by decide +kernel
theorem dX9_weigh_2 : decode cX9_weigh 2 = .ok (.iload_n 1, 1) := by decide +kernel
theorem dX9_weigh_3 : decode cX9_weigh 3 = .ok (.bipush 100, 2) := by decide +kernel
theorem dX9_weigh_5 : decode cX9_weigh 5 = .ok (.if_icmp .ge 97, 3) := by decide +kernel
theorem dX9_weigh_8 : decode cX9_weigh 8 = .ok (.aload_n 0, 1) := by decide +kernel
theorem dX9_weigh_9 : decode cX9_weigh 9 = .ok (.getfield 9, 3) := by decide +kernel
theorem dX9_weigh_12 : decode cX9_weigh 12 = .ok (.iload_n 1, 1) := by decide +kernel
theorem dX9_weigh_13 : decode cX9_weigh 13 = .ok (.iaload, 1) := by decide +kernel
theorem dX9_weigh_14 : decode cX9_weigh 14 = .ok (.iconst (-1), 1) := by decide +kernel
theorem dX9_weigh_15 : decode cX9_weigh 15 = .ok (.if_icmp .ne 81, 3) := by decide +kernel
theorem dX9_weigh_18 : decode cX9_weigh 18 = .ok (.aload_n 0, 1) := by decide +kernel
theorem dX9_weigh_19 : decode cX9_weigh 19 = .ok (.getfield 32, 3) := by decide +kernel
theorem dX9_weigh_22 : decode cX9_weigh 22 = .ok (.bipush 10, 2) := by decide +kernel
theorem dX9_weigh_24 : decode cX9_weigh 24 = .ok (.iload_n 1, 1) := by decide +kernel
theorem dX9_weigh_25 : decode cX9_weigh 25 = .ok (.bipush 10, 2) := by decide +kernel
theorem dX9_weigh_27 : decode cX9_weigh 27 = .ok (.idiv, 1) := by decide +kernel
theorem dX9_weigh_28 : decode cX9_weigh 28 = .ok (.iadd, 1) := by decide +kernel
theorem dX9_weigh_29 : decode cX9_weigh 29 = .ok (.aaload, 1) := by decide +kernel
theorem dX9_weigh_30 : decode cX9_weigh 30 = .ok (.astore_n 2, 1) := by decide +kernel
theorem dX9_weigh_31 : decode cX9_weigh 31 = .ok (.aload_n 0, 1) := by decide +kernel
theorem dX9_weigh_32 : decode cX9_weigh 32 = .ok (.getfield 32, 3) := by decide +kernel
theorem dX9_weigh_35 : decode cX9_weigh 35 = .ok (.bipush 10, 2) := by decide +kernel
theorem dX9_weigh_37 : decode cX9_weigh 37 = .ok (.iload_n 1, 1) := by decide +kernel
theorem dX9_weigh_38 : decode cX9_weigh 38 = .ok (.bipush 10, 2) := by decide +kernel
theorem dX9_weigh_40 : decode cX9_weigh 40 = .ok (.irem, 1) := by decide +kernel
theorem dX9_weigh_41 : decode cX9_weigh 41 = .ok (.iadd, 1) := by decide +kernel
theorem dX9_weigh_42 : decode cX9_weigh 42 = .ok (.aaload, 1) := by decide +kernel
theorem dX9_weigh_43 : decode cX9_weigh 43 = .ok (.astore_n 3, 1) := by decide +kernel
theorem dX9_weigh_44 : decode cX9_weigh 44 = .ok (.iload_n 1, 1) := by decide +kernel
theorem dX9_weigh_45 : decode cX9_weigh 45 = .ok (.bipush 10, 2) := by decide +kernel
theorem dX9_weigh_47 : decode cX9_weigh 47 = .ok (.idiv, 1) := by decide +kernel
theorem dX9_weigh_48 : decode cX9_weigh 48 = .ok (.iload_n 1, 1) := by decide +kernel
theorem dX9_weigh_49 : decode cX9_weigh 49 = .ok (.bipush 10, 2) := by decide +kernel
theorem dX9_weigh_51 : decode cX9_weigh 51 = .ok (.irem, 1) := by decide +kernel
theorem dX9_weigh_52 : decode cX9_weigh 52 = .ok (.if_icmp .ne 8, 3) := by decide +kernel
theorem dX9_weigh_55 : decode cX9_weigh 55 = .ok (.bipush (-6), 2) := by decide +kernel
theorem dX9_weigh_57 : decode cX9_weigh 57 = .ok (.goto 12, 3) := by decide +kernel
theorem dX9_weigh_60 : decode cX9_weigh 60 = .ok (.aload_n 0, 1) := by decide +kernel
theorem dX9_weigh_61 : decode cX9_weigh 61 = .ok (.getfield 28, 3) := by decide +kernel
theorem dX9_weigh_64 : decode cX9_weigh 64 = .ok (.aload_n 3, 1) := by decide +kernel
theorem dX9_weigh_65 : decode cX9_weigh 65 = .ok (.aload_n 2, 1) := by decide +kernel
theorem dX9_weigh_66 : decode cX9_weigh 66 = .ok (.invokevirtual 57, 3) := by decide +kernel
theorem dX9_weigh_69 : decode cX9_weigh 69 = .ok (.istore 4, 2) := by decide +kernel
theorem dX9_weigh_71 : decode cX9_weigh 71 = .ok (.aload_n 0, 1) := by decide +kernel
theorem dX9_weigh_72 : decode cX9_weigh 72 = .ok (.getfield 9, 3) := by decide +kernel
theorem dX9_weigh_75 : decode cX9_weigh 75 = .ok (.iload_n 1, 1) := by decide +kernel
theorem dX9_weigh_76 : decode cX9_weigh 76 = .ok (.iload 4, 2) := by decide +kernel
theorem dX9_weigh_78 : decode cX9_weigh 78 = .ok (.bipush (-6), 2) := by decide +kernel
theorem dX9_weigh_80 : decode cX9_weigh 80 = .ok (.if_icmp .ne 8, 3) := by decide +kernel
theorem dX9_weigh_83 : decode cX9_weigh 83 = .ok (.ldc 52, 2) := by decide +kernel
theorem dX9_weigh_85 : decode cX9_weigh 85 = .ok (.goto 10, 3) := by decide +kernel
theorem dX9_weigh_88 : decode cX9_weigh 88 = .ok (.bipush 16, 2) := by decide +kernel
theorem dX9_weigh_90 : decode cX9_weigh 90 = .ok (.iload 4, 2) := by decide +kernel
theorem dX9_weigh_92 : decode cX9_weigh 92 = .ok (.imul, 1) := by decide +kernel
theorem dX9_weigh_93 : decode cX9_weigh 93 = .ok (.iconst 1, 1) := by decide +kernel
theorem dX9_weigh_94 : decode cX9_weigh 94 = .ok (.iadd, 1) := by decide +kernel
theorem dX9_weigh_95 : decode cX9_weigh 95 = .ok (.iastore, 1) := by decide +kernel
theorem dX9_weigh_96 : decode cX9_weigh 96 = .ok (.iinc 1 1, 3) := by decide +kernel
theorem dX9_weigh_99 : decode cX9_weigh 99 = .ok (.goto (-97), 3) := by decide +kernel
theorem dX9_weigh_102 : decode cX9_weigh 102 = .ok (.return_, 1) := by decide +kernel
theorem dX9_measure_0 : decode cX9_measure 0 = .ok (.aload_n 0, 1) := by decide +kernel
theorem dX9_measure_1 : decode cX9_measure 1 = .ok (.getfield 15, 3) := by decide +kernel
theorem dX9_measure_4 : decode cX9_measure 4 = .ok (.ldc 52, 2) := by decide +kernel
theorem dX9_measure_6 : decode cX9_measure 6 = .ok (.invokestatic 39, 3) := by decide +kernel
theorem dX9_measure_9 : decode cX9_measure 9 = .ok (.aload_n 0, 1) := by decide +kernel
theorem dX9_measure_10 : decode cX9_measure 10 = .ok (.getfield 15, 3) := by decide +kernel
theorem dX9_measure_13 : decode cX9_measure 13 = .ok (.iload_n 1, 1) := by decide +kernel
theorem dX9_measure_14 : decode cX9_measure 14 = .ok (.iconst 0, 1) := by decide +kernel
theorem dX9_measure_15 : decode cX9_measure 15 = .ok (.iastore, 1) := by decide +kernel
theorem dX9_measure_16 : decode cX9_measure 16 = .ok (.iconst 1, 1) := by decide +kernel
theorem dX9_measure_17 : decode cX9_measure 17 = .ok (.istore_n 2, 1) := by decide +kernel
theorem dX9_measure_18 : decode cX9_measure 18 = .ok (.iconst 0, 1) := by decide +kernel
theorem dX9_measure_19 : decode cX9_measure 19 = .ok (.istore_n 3, 1) := by decide +kernel
theorem dX9_measure_20 : decode cX9_measure 20 = .ok (.iload_n 3, 1) := by decide +kernel
theorem dX9_measure_21 : decode cX9_measure 21 = .ok (.bipush 10, 2) := by decide +kernel
theorem dX9_measure_23 : decode cX9_measure 23 = .ok (.if_icmp .ge 50, 3) := by decide +kernel
theorem dX9_measure_26 : decode cX9_measure 26 = .ok (.iload_n 2, 1) := by decide +kernel
theorem dX9_measure_27 : decode cX9_measure 27 = .ok (.ifCond .eq 46, 3) := by decide +kernel
theorem dX9_measure_30 : decode cX9_measure 30 = .ok (.iconst 0, 1) := by decide +kernel
theorem dX9_measure_31 : decode cX9_measure 31 = .ok (.istore_n 2, 1) := by decide +kernel
theorem dX9_measure_32 : decode cX9_measure 32 = .ok (.iconst 0, 1) := by decide +kernel
theorem dX9_measure_33 : decode cX9_measure 33 = .ok (.istore 4, 2) := by decide +kernel
theorem dX9_measure_35 : decode cX9_measure 35 = .ok (.iload 4, 2) := by decide +kernel
theorem dX9_measure_37 : decode cX9_measure 37 = .ok (.bipush 10, 2) := by decide +kernel
theorem dX9_measure_39 : decode cX9_measure 39 = .ok (.if_icmp .ge 28, 3) := by decide +kernel
theorem dX9_measure_42 : decode cX9_measure 42 = .ok (.aload_n 0, 1) := by decide +kernel
theorem dX9_measure_43 : decode cX9_measure 43 = .ok (.iload 4, 2) := by decide +kernel
theorem dX9_measure_45 : decode cX9_measure 45 = .ok (.invokevirtual 63, 3) := by decide +kernel
theorem dX9_measure_48 : decode cX9_measure 48 = .ok (.ifCond .ne 7, 3) := by decide +kernel
theorem dX9_measure_51 : decode cX9_measure 51 = .ok (.iload_n 2, 1) := by decide +kernel
theorem dX9_measure_52 : decode cX9_measure 52 = .ok (.ifCond .eq 7, 3) := by decide +kernel
theorem dX9_measure_55 : decode cX9_measure 55 = .ok (.iconst 1, 1) := by decide +kernel
theorem dX9_measure_56 : decode cX9_measure 56 = .ok (.goto 4, 3) := by decide +kernel
theorem dX9_measure_59 : decode cX9_measure 59 = .ok (.iconst 0, 1) := by decide +kernel
theorem dX9_measure_60 : decode cX9_measure 60 = .ok (.istore_n 2, 1) := by decide +kernel
theorem dX9_measure_61 : decode cX9_measure 61 = .ok (.iinc 4 1, 3) := by decide +kernel
theorem dX9_measure_64 : decode cX9_measure 64 = .ok (.goto (-29), 3) := by decide +kernel
theorem dX9_measure_67 : decode cX9_measure 67 = .ok (.iinc 3 1, 3) := by decide +kernel
theorem dX9_measure_70 : decode cX9_measure 70 = .ok (.goto (-50), 3) := by decide +kernel
theorem dX9_measure_73 : decode cX9_measure 73 = .ok (.return_, 1) := by decide +kernel
theorem dX9_shorten_0 : decode cX9_shorten 0 = .ok (.aload_n 0, 1) := by decide +kernel
theorem dX9_shorten_1 : decode cX9_shorten 1 = .ok (.getfield 15, 3) := by decide +kernel
theorem dX9_shorten_4 : decode cX9_shorten 4 = .ok (.iload_n 1, 1) := by decide +kernel
theorem dX9_shorten_5 : decode cX9_shorten 5 = .ok (.iaload, 1) := by decide +kernel
theorem dX9_shorten_6 : decode cX9_shorten 6 = .ok (.istore_n 2, 1) := by decide +kernel
theorem dX9_shorten_7 : decode cX9_shorten 7 = .ok (.iconst 0, 1) := by decide +kernel
theorem dX9_shorten_8 : decode cX9_shorten 8 = .ok (.istore_n 3, 1) := by decide +kernel
theorem dX9_shorten_9 : decode cX9_shorten 9 = .ok (.iload_n 3, 1) := by decide +kernel
theorem dX9_shorten_10 : decode cX9_shorten 10 = .ok (.bipush 10, 2) := by decide +kernel
theorem dX9_shorten_12 : decode cX9_shorten 12 = .ok (.if_icmp .ge 42, 3) := by decide +kernel
theorem dX9_shorten_15 : decode cX9_shorten 15 = .ok (.aload_n 0, 1) := by decide +kernel
theorem dX9_shorten_16 : decode cX9_shorten 16 = .ok (.getfield 15, 3) := by decide +kernel
theorem dX9_shorten_19 : decode cX9_shorten 19 = .ok (.iload_n 1, 1) := by decide +kernel
theorem dX9_shorten_20 : decode cX9_shorten 20 = .ok (.aload_n 0, 1) := by decide +kernel
theorem dX9_shorten_21 : decode cX9_shorten 21 = .ok (.getfield 15, 3) := by decide +kernel
theorem dX9_shorten_24 : decode cX9_shorten 24 = .ok (.iload_n 1, 1) := by decide +kernel
theorem dX9_shorten_25 : decode cX9_shorten 25 = .ok (.iaload, 1) := by decide +kernel
theorem dX9_shorten_26 : decode cX9_shorten 26 = .ok (.aload_n 0, 1) := by decide +kernel
theorem dX9_shorten_27 : decode cX9_shorten 27 = .ok (.getfield 9, 3) := by decide +kernel
theorem dX9_shorten_30 : decode cX9_shorten 30 = .ok (.iload_n 1, 1) := by decide +kernel
theorem dX9_shorten_31 : decode cX9_shorten 31 = .ok (.bipush 10, 2) := by decide +kernel
theorem dX9_shorten_33 : decode cX9_shorten 33 = .ok (.imul, 1) := by decide +kernel
theorem dX9_shorten_34 : decode cX9_shorten 34 = .ok (.iload_n 3, 1) := by decide +kernel
theorem dX9_shorten_35 : decode cX9_shorten 35 = .ok (.iadd, 1) := by decide +kernel
theorem dX9_shorten_36 : decode cX9_shorten 36 = .ok (.iaload, 1) := by decide +kernel
theorem dX9_shorten_37 : decode cX9_shorten 37 = .ok (.aload_n 0, 1) := by decide +kernel
theorem dX9_shorten_38 : decode cX9_shorten 38 = .ok (.getfield 15, 3) := by decide +kernel
theorem dX9_shorten_41 : decode cX9_shorten 41 = .ok (.iload_n 3, 1) := by decide +kernel
theorem dX9_shorten_42 : decode cX9_shorten 42 = .ok (.iaload, 1) := by decide +kernel
theorem dX9_shorten_43 : decode cX9_shorten 43 = .ok (.iadd, 1) := by decide +kernel
theorem dX9_shorten_44 : decode cX9_shorten 44 = .ok (.invokestatic 67, 3) := by decide +kernel
theorem dX9_shorten_47 : decode cX9_shorten 47 = .ok (.iastore, 1) := by decide +kernel
theorem dX9_shorten_48 : decode cX9_shorten 48 = .ok (.iinc 3 1, 3) := by decide +kernel
theorem dX9_shorten_51 : decode cX9_shorten 51 = .ok (.goto (-42), 3) := by decide +kernel
theorem dX9_shorten_54 : decode cX9_shorten 54 = .ok (.aload_n 0, 1) := by decide +kernel
theorem dX9_shorten_55 : decode cX9_shorten 55 = .ok (.getfield 15, 3) := by decide +kernel
theorem dX9_shorten_58 : decode cX9_shorten 58 = .ok (.iload_n 1, 1) := by decide +kernel
theorem dX9_shorten_59 : decode cX9_shorten 59 = .ok (.iaload, 1) := by decide +kernel
theorem dX9_shorten_60 : decode cX9_shorten 60 = .ok (.iload_n 2, 1) := by decide +kernel
theorem dX9_shorten_61 : decode cX9_shorten 61 = .ok (.if_icmp .ge 7, 3) := by decide +kernel
theorem dX9_shorten_64 : decode cX9_shorten 64 = .ok (.iconst 1, 1) := by decide +kernel
theorem dX9_shorten_65 : decode cX9_shorten 65 = .ok (.goto 4, 3) := by decide +kernel
theorem dX9_shorten_68 : decode cX9_shorten 68 = .ok (.iconst 0, 1) := by decide +kernel
theorem dX9_shorten_69 : decode cX9_shorten 69 = .ok (.ireturn, 1) := by decide +kernel
theorem dX9_nextOf_0 : decode cX9_nextOf 0 = .ok (.iconst 0, 1) := by decide +kernel
theorem dX9_nextOf_1 : decode cX9_nextOf 1 = .ok (.istore_n 2, 1) := by decide +kernel
theorem dX9_nextOf_2 : decode cX9_nextOf 2 = .ok (.iload_n 2, 1) := by decide +kernel
theorem dX9_nextOf_3 : decode cX9_nextOf 3 = .ok (.bipush 10, 2) := by decide +kernel
theorem dX9_nextOf_5 : decode cX9_nextOf 5 = .ok (.if_icmp .ge 38, 3) := by decide +kernel
theorem dX9_nextOf_8 : decode cX9_nextOf 8 = .ok (.aload_n 0, 1) := by decide +kernel
theorem dX9_nextOf_9 : decode cX9_nextOf 9 = .ok (.getfield 9, 3) := by decide +kernel
theorem dX9_nextOf_12 : decode cX9_nextOf 12 = .ok (.iload_n 1, 1) := by decide +kernel
theorem dX9_nextOf_13 : decode cX9_nextOf 13 = .ok (.bipush 10, 2) := by decide +kernel
theorem dX9_nextOf_15 : decode cX9_nextOf 15 = .ok (.imul, 1) := by decide +kernel
theorem dX9_nextOf_16 : decode cX9_nextOf 16 = .ok (.iload_n 2, 1) := by decide +kernel
theorem dX9_nextOf_17 : decode cX9_nextOf 17 = .ok (.iadd, 1) := by decide +kernel
theorem dX9_nextOf_18 : decode cX9_nextOf 18 = .ok (.iaload, 1) := by decide +kernel
theorem dX9_nextOf_19 : decode cX9_nextOf 19 = .ok (.aload_n 0, 1) := by decide +kernel
theorem dX9_nextOf_20 : decode cX9_nextOf 20 = .ok (.getfield 15, 3) := by decide +kernel
theorem dX9_nextOf_23 : decode cX9_nextOf 23 = .ok (.iload_n 2, 1) := by decide +kernel
theorem dX9_nextOf_24 : decode cX9_nextOf 24 = .ok (.iaload, 1) := by decide +kernel
theorem dX9_nextOf_25 : decode cX9_nextOf 25 = .ok (.iadd, 1) := by decide +kernel
theorem dX9_nextOf_26 : decode cX9_nextOf 26 = .ok (.aload_n 0, 1) := by decide +kernel
theorem dX9_nextOf_27 : decode cX9_nextOf 27 = .ok (.getfield 15, 3) := by decide +kernel
theorem dX9_nextOf_30 : decode cX9_nextOf 30 = .ok (.iload_n 1, 1) := by decide +kernel
theorem dX9_nextOf_31 : decode cX9_nextOf 31 = .ok (.iaload, 1) := by decide +kernel
theorem dX9_nextOf_32 : decode cX9_nextOf 32 = .ok (.if_icmp .ne 5, 3) := by decide +kernel
theorem dX9_nextOf_35 : decode cX9_nextOf 35 = .ok (.iload_n 2, 1) := by decide +kernel
theorem dX9_nextOf_36 : decode cX9_nextOf 36 = .ok (.ireturn, 1) := by decide +kernel
theorem dX9_nextOf_37 : decode cX9_nextOf 37 = .ok (.iinc 2 1, 3) := by decide +kernel
theorem dX9_nextOf_40 : decode cX9_nextOf 40 = .ok (.goto (-38), 3) := by decide +kernel
theorem dX9_nextOf_43 : decode cX9_nextOf 43 = .ok (.iconst (-1), 1) := by decide +kernel
theorem dX9_nextOf_44 : decode cX9_nextOf 44 = .ok (.ireturn, 1) := by decide +kernel
theorem dX10_init_0 : decode cX10_init 0 = .ok (.aload_n 0, 1) := by decide +kernel
theorem dX10_init_1 : decode cX10_init 1 = .ok (.invokespecial 3, 3) := by decide +kernel
theorem dX10_init_4 : decode cX10_init 4 = .ok (.aload_n 0, 1) := by decide +kernel
theorem dX10_init_5 : decode cX10_init 5 = .ok (.new 9, 3) := by decide +kernel
theorem dX10_init_8 : decode cX10_init 8 = .ok (.dup, 1) := by decide +kernel
theorem dX10_init_9 : decode cX10_init 9 = .ok (.invokespecial 11, 3) := by decide +kernel
theorem dX10_init_12 : decode cX10_init 12 = .ok (.putfield 12, 3) := by decide +kernel
theorem dX10_init_15 : decode cX10_init 15 = .ok (.aload_n 0, 1) := by decide +kernel
theorem dX10_init_16 : decode cX10_init 16 = .ok (.new 16, 3) := by decide +kernel
theorem dX10_init_19 : decode cX10_init 19 = .ok (.dup, 1) := by decide +kernel
theorem dX10_init_20 : decode cX10_init 20 = .ok (.invokespecial 18, 3) := by decide +kernel
theorem dX10_init_23 : decode cX10_init 23 = .ok (.putfield 19, 3) := by decide +kernel
theorem dX10_init_26 : decode cX10_init 26 = .ok (.aload_n 0, 1) := by decide +kernel
theorem dX10_init_27 : decode cX10_init 27 = .ok (.new 23, 3) := by decide +kernel
theorem dX10_init_30 : decode cX10_init 30 = .ok (.dup, 1) := by decide +kernel
theorem dX10_init_31 : decode cX10_init 31 = .ok (.invokespecial 25, 3) := by decide +kernel
theorem dX10_init_34 : decode cX10_init 34 = .ok (.putfield 26, 3) := by decide +kernel
theorem dX10_init_37 : decode cX10_init 37 = .ok (.aload_n 0, 1) := by decide +kernel
theorem dX10_init_38 : decode cX10_init 38 = .ok (.new 30, 3) := by decide +kernel
theorem dX10_init_41 : decode cX10_init 41 = .ok (.dup, 1) := by decide +kernel
theorem dX10_init_42 : decode cX10_init 42 = .ok (.aload_n 0, 1) := by decide +kernel
theorem dX10_init_43 : decode cX10_init 43 = .ok (.getfield 12, 3) := by decide +kernel
theorem dX10_init_46 : decode cX10_init 46 = .ok (.aload_n 0, 1) := by decide +kernel
theorem dX10_init_47 : decode cX10_init 47 = .ok (.getfield 19, 3) := by decide +kernel
theorem dX10_init_50 : decode cX10_init 50 = .ok (.aload_n 0, 1) := by decide +kernel
theorem dX10_init_51 : decode cX10_init 51 = .ok (.getfield 26, 3) := by decide +kernel
theorem dX10_init_54 : decode cX10_init 54 = .ok (.invokespecial 32, 3) := by decide +kernel
theorem dX10_init_57 : decode cX10_init 57 = .ok (.putfield 35, 3) := by decide +kernel
theorem dX10_init_60 : decode cX10_init 60 = .ok (.aload_n 0, 1) := by decide +kernel
theorem dX10_init_61 : decode cX10_init 61 = .ok (.bipush 20, 2) := by decide +kernel
theorem dX10_init_63 : decode cX10_init 63 = .ok (.anewarray 39, 3) := by decide +kernel
theorem dX10_init_66 : decode cX10_init 66 = .ok (.putfield 41, 3) := by decide +kernel
theorem dX10_init_69 : decode cX10_init 69 = .ok (.aload_n 0, 1) := by decide +kernel
theorem dX10_init_70 : decode cX10_init 70 = .ok (.new 45, 3) := by decide +kernel
theorem dX10_init_73 : decode cX10_init 73 = .ok (.dup, 1) := by decide +kernel
theorem dX10_init_74 : decode cX10_init 74 = .ok (.aload_n 0, 1) := by decide +kernel
theorem dX10_init_75 : decode cX10_init 75 = .ok (.getfield 35, 3) := by decide +kernel
theorem dX10_init_78 : decode cX10_init 78 = .ok (.aload_n 0, 1) := by decide +kernel
theorem dX10_init_79 : decode cX10_init 79 = .ok (.getfield 41, 3) := by decide +kernel
theorem dX10_init_82 : decode cX10_init 82 = .ok (.invokespecial 47, 3) := by decide +kernel
theorem dX10_init_85 : decode cX10_init 85 = .ok (.putfield 50, 3) := by decide +kernel
theorem dX10_init_88 : decode cX10_init 88 = .ok (.aload_n 0, 1) := by decide +kernel
theorem dX10_init_89 : decode cX10_init 89 = .ok (.new 54, 3) := by decide +kernel
theorem dX10_init_92 : decode cX10_init 92 = .ok (.dup, 1) := by decide +kernel
theorem dX10_init_93 : decode cX10_init 93 = .ok (.invokespecial 56, 3) := by decide +kernel
theorem dX10_init_96 : decode cX10_init 96 = .ok (.putfield 57, 3) := by decide +kernel
theorem dX10_init_99 : decode cX10_init 99 = .ok (.aload_n 0, 1) := by decide +kernel
theorem dX10_init_100 : decode cX10_init 100 = .ok (.new 61, 3) := by decide +kernel
theorem dX10_init_103 : decode cX10_init 103 = .ok (.dup, 1) := by decide +kernel
theorem dX10_init_104 : decode cX10_init 104 = .ok (.invokespecial 63, 3) := by decide +kernel
theorem dX10_init_107 : decode cX10_init 107 = .ok (.putfield 64, 3) := by decide +kernel
theorem dX10_init_110 : decode cX10_init 110 = .ok (.aload_n 0, 1) := by decide +kernel
theorem dX10_init_111 : decode cX10_init 111 = .ok (.new 68, 3) := by decide +kernel
theorem dX10_init_114 : decode cX10_init 114 = .ok (.dup, 1) := by decide +kernel
theorem dX10_init_115 : decode cX10_init 115 = .ok (.aload_n 0, 1) := by decide +kernel
theorem dX10_init_116 : decode cX10_init 116 = .ok (.getfield 12, 3) := by decide +kernel
theorem dX10_init_119 : decode cX10_init 119 = .ok (.aload_n 0, 1) := by decide +kernel
theorem dX10_init_120 : decode cX10_init 120 = .ok (.getfield 26, 3) := by decide +kernel
theorem dX10_init_123 : decode cX10_init 123 = .ok (.aload_n 0, 1) := by decide +kernel
theorem dX10_init_124 : decode cX10_init 124 = .ok (.getfield 35, 3) := by decide +kernel
theorem dX10_init_127 : decode cX10_init 127 = .ok (.aload_n 0, 1) := by decide +kernel
theorem dX10_init_128 : decode cX10_init 128 = .ok (.getfield 64, 3) := by decide +kernel
theorem dX10_init_131 : decode cX10_init 131 = .ok (.invokespecial 70, 3) := by decide +kernel
theorem dX10_init_134 : decode cX10_init 134 = .ok (.putfield 73, 3) := by decide +kernel
theorem dX10_init_137 : decode cX10_init 137 = .ok (.iconst 0, 1) := by decide +kernel
theorem dX10_init_138 : decode cX10_init 138 = .ok (.istore_n 1, 1) := by decide +kernel
theorem dX10_init_139 : decode cX10_init 139 = .ok (.iload_n 1, 1) := by decide +kernel
theorem dX10_init_140 : decode cX10_init 140 = .ok (.bipush 20, 2) := by decide +kernel
theorem dX10_init_142 : decode cX10_init 142 = .ok (.if_icmp .ge 22, 3) := by decide +kernel
theorem dX10_init_145 : decode cX10_init 145 = .ok (.aload_n 0, 1) := by decide +kernel
theorem dX10_init_146 : decode cX10_init 146 = .ok (.getfield 41, 3) := by decide +kernel
theorem dX10_init_149 : decode cX10_init 149 = .ok (.iload_n 1, 1) := by decide +kernel
theorem dX10_init_150 : decode cX10_init 150 = .ok (.new 39, 3) := by decide +kernel
theorem dX10_init_153 : decode cX10_init 153 = .ok (.dup, 1) := by decide +kernel
theorem dX10_init_154 : decode cX10_init 154 = .ok (.invokespecial 77, 3) := by decide +kernel
theorem dX10_init_157 : decode cX10_init 157 = .ok (.aastore, 1) := by decide +kernel
theorem dX10_init_158 : decode cX10_init 158 = .ok (.iinc 1 1, 3) := by decide +kernel
theorem dX10_init_161 : decode cX10_init 161 = .ok (.goto (-22), 3) := by decide +kernel
theorem dX10_init_164 : decode cX10_init 164 = .ok (.return_, 1) := by decide +kernel
theorem dX10_rule_0 : decode cX10_rule 0 = .ok (.iload_n 1, 1) := by decide +kernel
theorem dX10_rule_1 : decode cX10_rule 1 = .ok (.invokestatic 78, 3) := by decide +kernel
theorem dX10_rule_4 : decode cX10_rule 4 = .ok (.ifCond .eq 25, 3) := by decide +kernel
theorem dX10_rule_7 : decode cX10_rule 7 = .ok (.iload_n 2, 1) := by decide +kernel
theorem dX10_rule_8 : decode cX10_rule 8 = .ok (.invokestatic 78, 3) := by decide +kernel
theorem dX10_rule_11 : decode cX10_rule 11 = .ok (.ifCond .eq 18, 3) := by decide +kernel
theorem dX10_rule_14 : decode cX10_rule 14 = .ok (.iload_n 1, 1) := by decide +kernel
theorem dX10_rule_15 : decode cX10_rule 15 = .ok (.iload_n 2, 1) := by decide +kernel
theorem dX10_rule_16 : decode cX10_rule 16 = .ok (.if_icmp .eq 13, 3) := by decide +kernel
theorem dX10_rule_19 : decode cX10_rule 19 = .ok (.iload_n 3, 1) := by decide +kernel
theorem dX10_rule_20 : decode cX10_rule 20 = .ok (.iconst 1, 1) := by decide +kernel
theorem dX10_rule_21 : decode cX10_rule 21 = .ok (.bipush 50, 2) := by decide +kernel
theorem dX10_rule_23 : decode cX10_rule 23 = .ok (.invokestatic 82, 3) := by decide +kernel
theorem dX10_rule_26 : decode cX10_rule 26 = .ok (.ifCond .ne 6, 3) := by decide +kernel
theorem dX10_rule_29 : decode cX10_rule 29 = .ok (.bipush (-3), 2) := by decide +kernel
theorem dX10_rule_31 : decode cX10_rule 31 = .ok (.ireturn, 1) := by decide +kernel
theorem dX10_rule_32 : decode cX10_rule 32 = .ok (.iload 4, 2) := by decide +kernel
theorem dX10_rule_34 : decode cX10_rule 34 = .ok (.ifCond .lt 27, 3) := by decide +kernel
theorem dX10_rule_37 : decode cX10_rule 37 = .ok (.iload 4, 2) := by decide +kernel
theorem dX10_rule_39 : decode cX10_rule 39 = .ok (.sipush 10000, 3) := by decide +kernel
theorem dX10_rule_42 : decode cX10_rule 42 = .ok (.idiv, 1) := by decide +kernel
theorem dX10_rule_43 : decode cX10_rule 43 = .ok (.sipush 2000, 3) := by decide +kernel
theorem dX10_rule_46 : decode cX10_rule 46 = .ok (.if_icmp .gt 15, 3) := by decide +kernel
theorem dX10_rule_49 : decode cX10_rule 49 = .ok (.iload 4, 2) := by decide +kernel
theorem dX10_rule_51 : decode cX10_rule 51 = .ok (.sipush 10000, 3) := by decide +kernel
theorem dX10_rule_54 : decode cX10_rule 54 = .ok (.irem, 1) := by decide +kernel
theorem dX10_rule_55 : decode cX10_rule 55 = .ok (.sipush 2000, 3) := by decide +kernel
theorem dX10_rule_58 : decode cX10_rule 58 = .ok (.if_icmp .le 6, 3) := by decide +kernel
theorem dX10_rule_61 : decode cX10_rule 61 = .ok (.bipush (-3), 2) := by decide +kernel
theorem dX10_rule_63 : decode cX10_rule 63 = .ok (.ireturn, 1) := by decide +kernel
theorem dX10_rule_64 : decode cX10_rule 64 = .ok (.aload_n 0, 1) := by decide +kernel
theorem dX10_rule_65 : decode cX10_rule 65 = .ok (.getfield 12, 3) := by decide +kernel
theorem dX10_rule_68 : decode cX10_rule 68 = .ok (.invokevirtual 86, 3) := by decide +kernel
theorem dX10_rule_71 : decode cX10_rule 71 = .ok (.ifCond .ne 6, 3) := by decide +kernel
theorem dX10_rule_74 : decode cX10_rule 74 = .ok (.bipush (-5), 2) := by decide +kernel
theorem dX10_rule_76 : decode cX10_rule 76 = .ok (.ireturn, 1) := by decide +kernel
theorem dX10_rule_77 : decode cX10_rule 77 = .ok (.aload_n 0, 1) := by decide +kernel
theorem dX10_rule_78 : decode cX10_rule 78 = .ok (.getfield 50, 3) := by decide +kernel
theorem dX10_rule_81 : decode cX10_rule 81 = .ok (.invokevirtual 90, 3) := by decide +kernel
theorem dX10_rule_84 : decode cX10_rule 84 = .ok (.aload_n 0, 1) := by decide +kernel
theorem dX10_rule_85 : decode cX10_rule 85 = .ok (.getfield 12, 3) := by decide +kernel
theorem dX10_rule_88 : decode cX10_rule 88 = .ok (.iload_n 1, 1) := by decide +kernel
theorem dX10_rule_89 : decode cX10_rule 89 = .ok (.iload_n 2, 1) := by decide +kernel
theorem dX10_rule_90 : decode cX10_rule 90 = .ok (.iload_n 3, 1) := by decide +kernel
theorem dX10_rule_91 : decode cX10_rule 91 = .ok (.iload 4, 2) := by decide +kernel
theorem dX10_rule_93 : decode cX10_rule 93 = .ok (.sipush 10000, 3) := by decide +kernel
theorem dX10_rule_96 : decode cX10_rule 96 = .ok (.idiv, 1) := by decide +kernel
theorem dX10_rule_97 : decode cX10_rule 97 = .ok (.sipush 1000, 3) := by decide +kernel
theorem dX10_rule_100 : decode cX10_rule 100 = .ok (.isub, 1) := by decide +kernel
theorem dX10_rule_101 : decode cX10_rule 101 = .ok (.iload 4, 2) := by decide +kernel
theorem dX10_rule_103 : decode cX10_rule 103 = .ok (.sipush 10000, 3) := by decide +kernel
theorem dX10_rule_106 : decode cX10_rule 106 = .ok (.irem, 1) := by decide +kernel
theorem dX10_rule_107 : decode cX10_rule 107 = .ok (.sipush 1000, 3) := by decide +kernel
theorem dX10_rule_110 : decode cX10_rule 110 = .ok (.isub, 1) := by decide +kernel
theorem dX10_rule_111 : decode cX10_rule 111 = .ok (.invokevirtual 93, 3) := by decide +kernel
theorem dX10_rule_114 : decode cX10_rule 114 = .ok (.ireturn, 1) := by decide +kernel
theorem dX10_drop_0 : decode cX10_drop 0 = .ok (.aload_n 0, 1) := by decide +kernel
theorem dX10_drop_1 : decode cX10_drop 1 = .ok (.getfield 12, 3) := by decide +kernel
theorem dX10_drop_4 : decode cX10_drop 4 = .ok (.iload_n 1, 1) := by decide +kernel
theorem dX10_drop_5 : decode cX10_drop 5 = .ok (.invokevirtual 97, 3) := by decide +kernel
theorem dX10_drop_8 : decode cX10_drop 8 = .ok (.ifCond .ne 6, 3) := by decide +kernel
theorem dX10_drop_11 : decode cX10_drop 11 = .ok (.bipush (-2), 2) := by decide +kernel
theorem dX10_drop_13 : decode cX10_drop 13 = .ok (.ireturn, 1) := by decide +kernel
theorem dX10_drop_14 : decode cX10_drop 14 = .ok (.aload_n 0, 1) := by decide +kernel
theorem dX10_drop_15 : decode cX10_drop 15 = .ok (.getfield 12, 3) := by decide +kernel
theorem dX10_drop_18 : decode cX10_drop 18 = .ok (.iload_n 1, 1) := by decide +kernel
theorem dX10_drop_19 : decode cX10_drop 19 = .ok (.invokevirtual 100, 3) := by decide +kernel
theorem dX10_drop_22 : decode cX10_drop 22 = .ok (.aload_n 0, 1) := by decide +kernel
theorem dX10_drop_23 : decode cX10_drop 23 = .ok (.getfield 50, 3) := by decide +kernel
theorem dX10_drop_26 : decode cX10_drop 26 = .ok (.invokevirtual 90, 3) := by decide +kernel
theorem dX10_drop_29 : decode cX10_drop 29 = .ok (.iconst 1, 1) := by decide +kernel
theorem dX10_drop_30 : decode cX10_drop 30 = .ok (.ireturn, 1) := by decide +kernel
theorem dX10_turning_0 : decode cX10_turning 0 = .ok (.iload_n 1, 1) := by decide +kernel
theorem dX10_turning_1 : decode cX10_turning 1 = .ok (.invokestatic 78, 3) := by decide +kernel
theorem dX10_turning_4 : decode cX10_turning 4 = .ok (.ifCond .eq 14, 3) := by decide +kernel
theorem dX10_turning_7 : decode cX10_turning 7 = .ok (.iload_n 2, 1) := by decide +kernel
theorem dX10_turning_8 : decode cX10_turning 8 = .ok (.invokestatic 78, 3) := by decide +kernel
theorem dX10_turning_11 : decode cX10_turning 11 = .ok (.ifCond .eq 7, 3) := by decide +kernel
theorem dX10_turning_14 : decode cX10_turning 14 = .ok (.iload_n 3, 1) := by decide +kernel
theorem dX10_turning_15 : decode cX10_turning 15 = .ok (.ifCond .ge 6, 3) := by decide +kernel
theorem dX10_turning_18 : decode cX10_turning 18 = .ok (.bipush (-3), 2) := by decide +kernel
theorem dX10_turning_20 : decode cX10_turning 20 = .ok (.ireturn, 1) := by decide +kernel
theorem dX10_turning_21 : decode cX10_turning 21 = .ok (.aload_n 0, 1) := by decide +kernel
theorem dX10_turning_22 : decode cX10_turning 22 = .ok (.getfield 12, 3) := by decide +kernel
theorem dX10_turning_25 : decode cX10_turning 25 = .ok (.iload_n 1, 1) := by decide +kernel
theorem dX10_turning_26 : decode cX10_turning 26 = .ok (.iload_n 2, 1) := by decide +kernel
theorem dX10_turning_27 : decode cX10_turning 27 = .ok (.invokevirtual 104, 3) := by decide +kernel
theorem dX10_turning_30 : decode cX10_turning 30 = .ok (.istore 4, 2) := by decide +kernel
theorem dX10_turning_32 : decode cX10_turning 32 = .ok (.iload_n 3, 1) := by decide +kernel
theorem dX10_turning_33 : decode cX10_turning 33 = .ok (.ifCond .eq 9, 3) := by decide +kernel
theorem dX10_turning_36 : decode cX10_turning 36 = .ok (.iload 4, 2) := by decide +kernel
theorem dX10_turning_38 : decode cX10_turning 38 = .ok (.iconst (-1), 1) := by decide +kernel
theorem dX10_turning_39 : decode cX10_turning 39 = .ok (.if_icmp .ne 6, 3) := by decide +kernel
theorem dX10_turning_42 : decode cX10_turning 42 = .ok (.iload 4, 2) := by decide +kernel
theorem dX10_turning_44 : decode cX10_turning 44 = .ok (.ireturn, 1) := by decide +kernel
theorem dX10_turning_45 : decode cX10_turning 45 = .ok (.iload_n 3, 1) := by decide +kernel
theorem dX10_turning_46 : decode cX10_turning 46 = .ok (.iconst 1, 1) := by decide +kernel
theorem dX10_turning_47 : decode cX10_turning 47 = .ok (.if_icmp .ne 15, 3) := by decide +kernel
theorem dX10_turning_50 : decode cX10_turning 50 = .ok (.aload_n 0, 1) := by decide +kernel
theorem dX10_turning_51 : decode cX10_turning 51 = .ok (.getfield 12, 3) := by decide +kernel
theorem dX10_turning_54 : decode cX10_turning 54 = .ok (.iload_n 1, 1) := by decide +kernel
theorem dX10_turning_55 : decode cX10_turning 55 = .ok (.iload_n 2, 1) := by decide +kernel
theorem dX10_turning_56 : decode cX10_turning 56 = .ok (.invokevirtual 108, 3) := by decide +kernel
theorem dX10_turning_59 : decode cX10_turning 59 = .ok (.goto 15, 3) := by decide +kernel
theorem dX10_turning_62 : decode cX10_turning 62 = .ok (.aload_n 0, 1) := by decide +kernel
theorem dX10_turning_63 : decode cX10_turning 63 = .ok (.getfield 12, 3) := by decide +kernel
theorem dX10_turning_66 : decode cX10_turning 66 = .ok (.iload_n 1, 1) := by decide +kernel
theorem dX10_turning_67 : decode cX10_turning 67 = .ok (.iload_n 2, 1) := by decide +kernel
theorem dX10_turning_68 : decode cX10_turning 68 = .ok (.iload_n 3, 1) := by decide +kernel
theorem dX10_turning_69 : decode cX10_turning 69 = .ok (.iconst 2, 1) := by decide +kernel
theorem dX10_turning_70 : decode cX10_turning 70 = .ok (.isub, 1) := by decide +kernel
theorem dX10_turning_71 : decode cX10_turning 71 = .ok (.invokevirtual 111, 3) := by decide +kernel
theorem dX10_turning_74 : decode cX10_turning 74 = .ok (.ireturn, 1) := by decide +kernel
theorem dX10_turn_0 : decode cX10_turn 0 = .ok (.iload_n 1, 1) := by decide +kernel
theorem dX10_turn_1 : decode cX10_turn 1 = .ok (.invokestatic 78, 3) := by decide +kernel
theorem dX10_turn_4 : decode cX10_turn 4 = .ok (.ifCond .eq 10, 3) := by decide +kernel
theorem dX10_turn_7 : decode cX10_turn 7 = .ok (.iload_n 2, 1) := by decide +kernel
theorem dX10_turn_8 : decode cX10_turn 8 = .ok (.invokestatic 78, 3) := by decide +kernel
theorem dX10_turn_11 : decode cX10_turn 11 = .ok (.ifCond .ne 6, 3) := by decide +kernel
theorem dX10_turn_14 : decode cX10_turn 14 = .ok (.bipush (-3), 2) := by decide +kernel
theorem dX10_turn_16 : decode cX10_turn 16 = .ok (.ireturn, 1) := by decide +kernel
theorem dX10_turn_17 : decode cX10_turn 17 = .ok (.aload_n 0, 1) := by decide +kernel
theorem dX10_turn_18 : decode cX10_turn 18 = .ok (.getfield 12, 3) := by decide +kernel
theorem dX10_turn_21 : decode cX10_turn 21 = .ok (.iload_n 1, 1) := by decide +kernel
theorem dX10_turn_22 : decode cX10_turn 22 = .ok (.iload_n 2, 1) := by decide +kernel
theorem dX10_turn_23 : decode cX10_turn 23 = .ok (.invokevirtual 104, 3) := by decide +kernel
theorem dX10_turn_26 : decode cX10_turn 26 = .ok (.iconst (-1), 1) := by decide +kernel
theorem dX10_turn_27 : decode cX10_turn 27 = .ok (.if_icmp .ne 5, 3) := by decide +kernel
theorem dX10_turn_30 : decode cX10_turn 30 = .ok (.iconst (-1), 1) := by decide +kernel
theorem dX10_turn_31 : decode cX10_turn 31 = .ok (.ireturn, 1) := by decide +kernel
theorem dX10_turn_32 : decode cX10_turn 32 = .ok (.iload_n 1, 1) := by decide +kernel
theorem dX10_turn_33 : decode cX10_turn 33 = .ok (.lload_n 3, 1) := by decide +kernel
theorem dX10_turn_34 : decode cX10_turn 34 = .ok (.invokestatic 115, 3) := by decide +kernel
theorem dX10_turn_37 : decode cX10_turn 37 = .ok (.ifCond .ne 15, 3) := by decide +kernel
theorem dX10_turn_40 : decode cX10_turn 40 = .ok (.aload_n 0, 1) := by decide +kernel
theorem dX10_turn_41 : decode cX10_turn 41 = .ok (.getfield 64, 3) := by decide +kernel
theorem dX10_turn_44 : decode cX10_turn 44 = .ok (.iconst 0, 1) := by decide +kernel
theorem dX10_turn_45 : decode cX10_turn 45 = .ok (.iconst (-1), 1) := by decide +kernel
theorem dX10_turn_46 : decode cX10_turn 46 = .ok (.invokevirtual 119, 3) := by decide +kernel
theorem dX10_turn_49 : decode cX10_turn 49 = .ok (.bipush (-7), 2) := by decide +kernel
theorem dX10_turn_51 : decode cX10_turn 51 = .ok (.ireturn, 1) := by decide +kernel
theorem dX10_turn_52 : decode cX10_turn 52 = .ok (.aload_n 0, 1) := by decide +kernel
theorem dX10_turn_53 : decode cX10_turn 53 = .ok (.getfield 12, 3) := by decide +kernel
theorem dX10_turn_56 : decode cX10_turn 56 = .ok (.iload_n 1, 1) := by decide +kernel
theorem dX10_turn_57 : decode cX10_turn 57 = .ok (.iload_n 2, 1) := by decide +kernel
theorem dX10_turn_58 : decode cX10_turn 58 = .ok (.lload_n 3, 1) := by decide +kernel
theorem dX10_turn_59 : decode cX10_turn 59 = .ok (.invokevirtual 123, 3) := by decide +kernel
theorem dX10_turn_62 : decode cX10_turn 62 = .ok (.ifCond .ne 21, 3) := by decide +kernel
theorem dX10_turn_65 : decode cX10_turn 65 = .ok (.aload_n 0, 1) := by decide +kernel
theorem dX10_turn_66 : decode cX10_turn 66 = .ok (.getfield 64, 3) := by decide +kernel
theorem dX10_turn_69 : decode cX10_turn 69 = .ok (.iconst 1, 1) := by decide +kernel
theorem dX10_turn_70 : decode cX10_turn 70 = .ok (.aload_n 0, 1) := by decide +kernel
theorem dX10_turn_71 : decode cX10_turn 71 = .ok (.getfield 12, 3) := by decide +kernel
theorem dX10_turn_74 : decode cX10_turn 74 = .ok (.getfield 127, 3) := by decide +kernel
theorem dX10_turn_77 : decode cX10_turn 77 = .ok (.invokevirtual 119, 3) := by decide +kernel
theorem dX10_turn_80 : decode cX10_turn 80 = .ok (.bipush (-7), 2) := by decide +kernel
theorem dX10_turn_82 : decode cX10_turn 82 = .ok (.ireturn, 1) := by decide +kernel
theorem dX10_turn_83 : decode cX10_turn 83 = .ok (.aload_n 0, 1) := by decide +kernel
theorem dX10_turn_84 : decode cX10_turn 84 = .ok (.getfield 64, 3) := by decide +kernel
theorem dX10_turn_87 : decode cX10_turn 87 = .ok (.aload_n 0, 1) := by decide +kernel
theorem dX10_turn_88 : decode cX10_turn 88 = .ok (.getfield 12, 3) := by decide +kernel
theorem dX10_turn_91 : decode cX10_turn 91 = .ok (.getfield 131, 3) := by decide +kernel
theorem dX10_turn_94 : decode cX10_turn 94 = .ok (.putfield 135, 3) := by decide +kernel
theorem dX10_turn_97 : decode cX10_turn 97 = .ok (.iconst 0, 1) := by decide +kernel
theorem dX10_turn_98 : decode cX10_turn 98 = .ok (.ireturn, 1) := by decide +kernel
theorem dX10_ask_0 : decode cX10_ask 0 = .ok (.iload_n 1, 1) := by decide +kernel
theorem dX10_ask_1 : decode cX10_ask 1 = .ok (.iconst 0, 1) := by decide +kernel
theorem dX10_ask_2 : decode cX10_ask 2 = .ok (.bipush 9, 2) := by decide +kernel
theorem dX10_ask_4 : decode cX10_ask 4 = .ok (.invokestatic 82, 3) := by decide +kernel
theorem dX10_ask_7 : decode cX10_ask 7 = .ok (.ifCond .eq 17, 3) := by decide +kernel
theorem dX10_ask_10 : decode cX10_ask 10 = .ok (.iload_n 2, 1) := by decide +kernel
theorem dX10_ask_11 : decode cX10_ask 11 = .ok (.invokestatic 136, 3) := by decide +kernel
theorem dX10_ask_14 : decode cX10_ask 14 = .ok (.ifCond .eq 10, 3) := by decide +kernel
theorem dX10_ask_17 : decode cX10_ask 17 = .ok (.iload_n 3, 1) := by decide +kernel
theorem dX10_ask_18 : decode cX10_ask 18 = .ok (.invokestatic 139, 3) := by decide +kernel
theorem dX10_ask_21 : decode cX10_ask 21 = .ok (.ifCond .ne 6, 3) := by decide +kernel
theorem dX10_ask_24 : decode cX10_ask 24 = .ok (.bipush (-3), 2) := by decide +kernel
theorem dX10_ask_26 : decode cX10_ask 26 = .ok (.ireturn, 1) := by decide +kernel
theorem dX10_ask_27 : decode cX10_ask 27 = .ok (.aload_n 0, 1) := by decide +kernel
theorem dX10_ask_28 : decode cX10_ask 28 = .ok (.getfield 41, 3) := by decide +kernel
theorem dX10_ask_31 : decode cX10_ask 31 = .ok (.bipush 10, 2) := by decide +kernel
theorem dX10_ask_33 : decode cX10_ask 33 = .ok (.iload_n 1, 1) := by decide +kernel
theorem dX10_ask_34 : decode cX10_ask 34 = .ok (.iadd, 1) := by decide +kernel
theorem dX10_ask_35 : decode cX10_ask 35 = .ok (.aaload, 1) := by decide +kernel
theorem dX10_ask_36 : decode cX10_ask 36 = .ok (.astore 4, 2) := by decide +kernel
theorem dX10_ask_38 : decode cX10_ask 38 = .ok (.aload 4, 2) := by decide +kernel
theorem dX10_ask_40 : decode cX10_ask 40 = .ok (.getfield 142, 3) := by decide +kernel
theorem dX10_ask_43 : decode cX10_ask 43 = .ok (.bipush 6, 2) := by decide +kernel
theorem dX10_ask_45 : decode cX10_ask 45 = .ok (.if_icmp .lt 6, 3) := by decide +kernel
theorem dX10_ask_48 : decode cX10_ask 48 = .ok (.bipush (-5), 2) := by decide +kernel
theorem dX10_ask_50 : decode cX10_ask 50 = .ok (.ireturn, 1) := by decide +kernel
theorem dX10_ask_51 : decode cX10_ask 51 = .ok (.aload_n 0, 1) := by decide +kernel
theorem dX10_ask_52 : decode cX10_ask 52 = .ok (.getfield 50, 3) := by decide +kernel
theorem dX10_ask_55 : decode cX10_ask 55 = .ok (.iload_n 1, 1) := by decide +kernel
theorem dX10_ask_56 : decode cX10_ask 56 = .ok (.invokevirtual 145, 3) := by decide +kernel
theorem dX10_ask_59 : decode cX10_ask 59 = .ok (.aload 4, 2) := by decide +kernel
theorem dX10_ask_61 : decode cX10_ask 61 = .ok (.iload_n 2, 1) := by decide +kernel
theorem dX10_ask_62 : decode cX10_ask 62 = .ok (.iload_n 3, 1) := by decide +kernel
theorem dX10_ask_63 : decode cX10_ask 63 = .ok (.invokevirtual 148, 3) := by decide +kernel
theorem dX10_ask_66 : decode cX10_ask 66 = .ok (.ireturn, 1) := by decide +kernel
theorem dX10_offer_0 : decode cX10_offer 0 = .ok (.iload_n 1, 1) := by decide +kernel
theorem dX10_offer_1 : decode cX10_offer 1 = .ok (.iconst 0, 1) := by decide +kernel
theorem dX10_offer_2 : decode cX10_offer 2 = .ok (.bipush 9, 2) := by decide +kernel
theorem dX10_offer_4 : decode cX10_offer 4 = .ok (.invokestatic 82, 3) := by decide +kernel
theorem dX10_offer_7 : decode cX10_offer 7 = .ok (.ifCond .eq 17, 3) := by decide +kernel
theorem dX10_offer_10 : decode cX10_offer 10 = .ok (.iload_n 2, 1) := by decide +kernel
theorem dX10_offer_11 : decode cX10_offer 11 = .ok (.invokestatic 136, 3) := by decide +kernel
theorem dX10_offer_14 : decode cX10_offer 14 = .ok (.ifCond .eq 10, 3) := by decide +kernel
theorem dX10_offer_17 : decode cX10_offer 17 = .ok (.iload_n 3, 1) := by decide +kernel
theorem dX10_offer_18 : decode cX10_offer 18 = .ok (.invokestatic 139, 3) := by decide +kernel
theorem dX10_offer_21 : decode cX10_offer 21 = .ok (.ifCond .ne 6, 3) := by decide +kernel
theorem dX10_offer_24 : decode cX10_offer 24 = .ok (.bipush (-3), 2) := by decide +kernel
theorem dX10_offer_26 : decode cX10_offer 26 = .ok (.ireturn, 1) := by decide +kernel
theorem dX10_offer_27 : decode cX10_offer 27 = .ok (.aload_n 0, 1) := by decide +kernel
theorem dX10_offer_28 : decode cX10_offer 28 = .ok (.getfield 41, 3) := by decide +kernel
theorem dX10_offer_31 : decode cX10_offer 31 = .ok (.iload_n 1, 1) := by decide +kernel
theorem dX10_offer_32 : decode cX10_offer 32 = .ok (.aaload, 1) := by decide +kernel
theorem dX10_offer_33 : decode cX10_offer 33 = .ok (.getfield 142, 3) := by decide +kernel
theorem dX10_offer_36 : decode cX10_offer 36 = .ok (.bipush 6, 2) := by decide +kernel
theorem dX10_offer_38 : decode cX10_offer 38 = .ok (.if_icmp .lt 8, 3) := by decide +kernel
theorem dX10_offer_41 : decode cX10_offer 41 = .ok (.bipush (-5), 2) := by decide +kernel
theorem dX10_offer_43 : decode cX10_offer 43 = .ok (.goto 14, 3) := by decide +kernel
theorem dX10_offer_46 : decode cX10_offer 46 = .ok (.aload_n 0, 1) := by decide +kernel
theorem dX10_offer_47 : decode cX10_offer 47 = .ok (.getfield 41, 3) := by decide +kernel
theorem dX10_offer_50 : decode cX10_offer 50 = .ok (.iload_n 1, 1) := by decide +kernel
theorem dX10_offer_51 : decode cX10_offer 51 = .ok (.aaload, 1) := by decide +kernel
theorem dX10_offer_52 : decode cX10_offer 52 = .ok (.iload_n 2, 1) := by decide +kernel
theorem dX10_offer_53 : decode cX10_offer 53 = .ok (.iload_n 3, 1) := by decide +kernel
theorem dX10_offer_54 : decode cX10_offer 54 = .ok (.invokevirtual 148, 3) := by decide +kernel
theorem dX10_offer_57 : decode cX10_offer 57 = .ok (.ireturn, 1) := by decide +kernel
theorem dX10_work_0 : decode cX10_work 0 = .ok (.iload_n 1, 1) := by decide +kernel
theorem dX10_work_1 : decode cX10_work 1 = .ok (.iconst 0, 1) := by decide +kernel
theorem dX10_work_2 : decode cX10_work 2 = .ok (.bipush 9, 2) := by decide +kernel
theorem dX10_work_4 : decode cX10_work 4 = .ok (.invokestatic 82, 3) := by decide +kernel
theorem dX10_work_7 : decode cX10_work 7 = .ok (.ifCond .eq 12, 3) := by decide +kernel
theorem dX10_work_10 : decode cX10_work 10 = .ok (.iload_n 3, 1) := by decide +kernel
theorem dX10_work_11 : decode cX10_work 11 = .ok (.iconst 0, 1) := by decide +kernel
theorem dX10_work_12 : decode cX10_work 12 = .ok (.iconst 2, 1) := by decide +kernel
theorem dX10_work_13 : decode cX10_work 13 = .ok (.invokestatic 82, 3) := by decide +kernel
theorem dX10_work_16 : decode cX10_work 16 = .ok (.ifCond .ne 6, 3) := by decide +kernel
theorem dX10_work_19 : decode cX10_work 19 = .ok (.bipush (-3), 2) := by decide +kernel
theorem dX10_work_21 : decode cX10_work 21 = .ok (.ireturn, 1) := by decide +kernel
theorem dX10_work_22 : decode cX10_work 22 = .ok (.iload_n 3, 1) := by decide +kernel
theorem dX10_work_23 : decode cX10_work 23 = .ok (.ifCond .ne 13, 3) := by decide +kernel
theorem dX10_work_26 : decode cX10_work 26 = .ok (.iload 4, 2) := by decide +kernel
theorem dX10_work_28 : decode cX10_work 28 = .ok (.iconst (-1), 1) := by decide +kernel
theorem dX10_work_29 : decode cX10_work 29 = .ok (.if_icmp .ne 7, 3) := by decide +kernel
theorem dX10_work_32 : decode cX10_work 32 = .ok (.iconst 1, 1) := by decide +kernel
theorem dX10_work_33 : decode cX10_work 33 = .ok (.goto 4, 3) := by decide +kernel
theorem dX10_work_36 : decode cX10_work 36 = .ok (.iconst 0, 1) := by decide +kernel
theorem dX10_work_37 : decode cX10_work 37 = .ok (.istore 6, 2) := by decide +kernel
theorem dX10_work_39 : decode cX10_work 39 = .ok (.iload 6, 2) := by decide +kernel
theorem dX10_work_41 : decode cX10_work 41 = .ok (.ifCond .ne 16, 3) := by decide +kernel
theorem dX10_work_44 : decode cX10_work 44 = .ok (.iload 4, 2) := by decide +kernel
theorem dX10_work_46 : decode cX10_work 46 = .ok (.iconst 0, 1) := by decide +kernel
theorem dX10_work_47 : decode cX10_work 47 = .ok (.iconst 2, 1) := by decide +kernel
theorem dX10_work_48 : decode cX10_work 48 = .ok (.invokestatic 82, 3) := by decide +kernel
theorem dX10_work_51 : decode cX10_work 51 = .ok (.ifCond .ne 6, 3) := by decide +kernel
theorem dX10_work_54 : decode cX10_work 54 = .ok (.bipush (-3), 2) := by decide +kernel
theorem dX10_work_56 : decode cX10_work 56 = .ok (.ireturn, 1) := by decide +kernel
theorem dX10_work_57 : decode cX10_work 57 = .ok (.iload_n 3, 1) := by decide +kernel
theorem dX10_work_58 : decode cX10_work 58 = .ok (.ifCond .ne 20, 3) := by decide +kernel
theorem dX10_work_61 : decode cX10_work 61 = .ok (.iload 5, 2) := by decide +kernel
theorem dX10_work_63 : decode cX10_work 63 = .ok (.sipush (-1000), 3) := by decide +kernel
theorem dX10_work_66 : decode cX10_work 66 = .ok (.sipush 1000, 3) := by decide +kernel
theorem dX10_work_69 : decode cX10_work 69 = .ok (.invokestatic 82, 3) := by decide +kernel
theorem dX10_work_72 : decode cX10_work 72 = .ok (.ifCond .ne 6, 3) := by decide +kernel
theorem dX10_work_75 : decode cX10_work 75 = .ok (.bipush (-3), 2) := by decide +kernel
theorem dX10_work_77 : decode cX10_work 77 = .ok (.ireturn, 1) := by decide +kernel
theorem dX10_work_78 : decode cX10_work 78 = .ok (.aload_n 0, 1) := by decide +kernel
theorem dX10_work_79 : decode cX10_work 79 = .ok (.getfield 41, 3) := by decide +kernel
theorem dX10_work_82 : decode cX10_work 82 = .ok (.iload_n 1, 1) := by decide +kernel
theorem dX10_work_83 : decode cX10_work 83 = .ok (.aaload, 1) := by decide +kernel
theorem dX10_work_84 : decode cX10_work 84 = .ok (.iload_n 2, 1) := by decide +kernel
theorem dX10_work_85 : decode cX10_work 85 = .ok (.invokevirtual 151, 3) := by decide +kernel
theorem dX10_work_88 : decode cX10_work 88 = .ok (.ifCond .ne 6, 3) := by decide +kernel
theorem dX10_work_91 : decode cX10_work 91 = .ok (.bipush (-2), 2) := by decide +kernel
theorem dX10_work_93 : decode cX10_work 93 = .ok (.ireturn, 1) := by decide +kernel
theorem dX10_work_94 : decode cX10_work 94 = .ok (.aload_n 0, 1) := by decide +kernel
theorem dX10_work_95 : decode cX10_work 95 = .ok (.getfield 41, 3) := by decide +kernel
theorem dX10_work_98 : decode cX10_work 98 = .ok (.iload_n 1, 1) := by decide +kernel
theorem dX10_work_99 : decode cX10_work 99 = .ok (.aaload, 1) := by decide +kernel
theorem dX10_work_100 : decode cX10_work 100 = .ok (.getfield 154, 3) := by decide +kernel
theorem dX10_work_103 : decode cX10_work 103 = .ok (.iload_n 2, 1) := by decide +kernel
theorem dX10_work_104 : decode cX10_work 104 = .ok (.aaload, 1) := by decide +kernel
theorem dX10_work_105 : decode cX10_work 105 = .ok (.iload_n 3, 1) := by decide +kernel
theorem dX10_work_106 : decode cX10_work 106 = .ok (.iload 4, 2) := by decide +kernel
theorem dX10_work_108 : decode cX10_work 108 = .ok (.iload 5, 2) := by decide +kernel
theorem dX10_work_110 : decode cX10_work 110 = .ok (.invokevirtual 158, 3) := by decide +kernel
theorem dX10_work_113 : decode cX10_work 113 = .ok (.iconst 0, 1) := by decide +kernel
theorem dX10_work_114 : decode cX10_work 114 = .ok (.ireturn, 1) := by decide +kernel
theorem dX10_times_0 : decode cX10_times 0 = .ok (.iload_n 1, 1) := by decide +kernel
theorem dX10_times_1 : decode cX10_times 1 = .ok (.iconst 0, 1) := by decide +kernel
theorem dX10_times_2 : decode cX10_times 2 = .ok (.bipush 9, 2) := by decide +kernel
theorem dX10_times_4 : decode cX10_times 4 = .ok (.invokestatic 82, 3) := by decide +kernel
theorem dX10_times_7 : decode cX10_times 7 = .ok (.ifCond .ne 6, 3) := by decide +kernel
theorem dX10_times_10 : decode cX10_times 10 = .ok (.bipush (-3), 2) := by decide +kernel
theorem dX10_times_12 : decode cX10_times 12 = .ok (.ireturn, 1) := by decide +kernel
theorem dX10_times_13 : decode cX10_times 13 = .ok (.aload_n 0, 1) := by decide +kernel
theorem dX10_times_14 : decode cX10_times 14 = .ok (.getfield 41, 3) := by decide +kernel
theorem dX10_times_17 : decode cX10_times 17 = .ok (.iload_n 1, 1) := by decide +kernel
theorem dX10_times_18 : decode cX10_times 18 = .ok (.aaload, 1) := by decide +kernel
theorem dX10_times_19 : decode cX10_times 19 = .ok (.iload_n 2, 1) := by decide +kernel
theorem dX10_times_20 : decode cX10_times 20 = .ok (.invokevirtual 151, 3) := by decide +kernel
theorem dX10_times_23 : decode cX10_times 23 = .ok (.ifCond .ne 6, 3) := by decide +kernel
theorem dX10_times_26 : decode cX10_times 26 = .ok (.bipush (-2), 2) := by decide +kernel
theorem dX10_times_28 : decode cX10_times 28 = .ok (.ireturn, 1) := by decide +kernel
theorem dX10_times_29 : decode cX10_times 29 = .ok (.aload_n 0, 1) := by decide +kernel
theorem dX10_times_30 : decode cX10_times 30 = .ok (.getfield 41, 3) := by decide +kernel
theorem dX10_times_33 : decode cX10_times 33 = .ok (.iload_n 1, 1) := by decide +kernel
theorem dX10_times_34 : decode cX10_times 34 = .ok (.aaload, 1) := by decide +kernel
theorem dX10_times_35 : decode cX10_times 35 = .ok (.getfield 154, 3) := by decide +kernel
theorem dX10_times_38 : decode cX10_times 38 = .ok (.iload_n 2, 1) := by decide +kernel
theorem dX10_times_39 : decode cX10_times 39 = .ok (.aaload, 1) := by decide +kernel
theorem dX10_times_40 : decode cX10_times 40 = .ok (.astore 5, 2) := by decide +kernel
theorem dX10_times_42 : decode cX10_times 42 = .ok (.iload_n 3, 1) := by decide +kernel
theorem dX10_times_43 : decode cX10_times 43 = .ok (.iconst 0, 1) := by decide +kernel
theorem dX10_times_44 : decode cX10_times 44 = .ok (.aload 5, 2) := by decide +kernel
theorem dX10_times_46 : decode cX10_times 46 = .ok (.getfield 164, 3) := by decide +kernel
theorem dX10_times_49 : decode cX10_times 49 = .ok (.iconst 1, 1) := by decide +kernel
theorem dX10_times_50 : decode cX10_times 50 = .ok (.isub, 1) := by decide +kernel
theorem dX10_times_51 : decode cX10_times 51 = .ok (.invokestatic 82, 3) := by decide +kernel
theorem dX10_times_54 : decode cX10_times 54 = .ok (.ifCond .eq 17, 3) := by decide +kernel
theorem dX10_times_57 : decode cX10_times 57 = .ok (.iload 4, 2) := by decide +kernel
theorem dX10_times_59 : decode cX10_times 59 = .ok (.sipush (-1000), 3) := by decide +kernel
theorem dX10_times_62 : decode cX10_times 62 = .ok (.sipush 1000, 3) := by decide +kernel
