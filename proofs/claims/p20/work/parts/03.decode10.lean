theorem dX11_turning_44 : decode cX11_turning 44 = .ok (.iload_n 2, 1) := by decide +kernel
theorem dX11_turning_45 : decode cX11_turning 45 = .ok (.iadd, 1) := by decide +kernel
theorem dX11_turning_46 : decode cX11_turning 46 = .ok (.istore 4, 2) := by decide +kernel
theorem dX11_turning_48 : decode cX11_turning 48 = .ok (.aload_n 0, 1) := by decide +kernel
theorem dX11_turning_49 : decode cX11_turning 49 = .ok (.getfield 75, 3) := by decide +kernel
theorem dX11_turning_52 : decode cX11_turning 52 = .ok (.iload 4, 2) := by decide +kernel
theorem dX11_turning_54 : decode cX11_turning 54 = .ok (.iaload, 1) := by decide +kernel
theorem dX11_turning_55 : decode cX11_turning 55 = .ok (.ldc 180, 2) := by decide +kernel
theorem dX11_turning_57 : decode cX11_turning 57 = .ok (.if_icmp .lt 5, 3) := by decide +kernel
theorem dX11_turning_60 : decode cX11_turning 60 = .ok (.iconst (-1), 1) := by decide +kernel
theorem dX11_turning_61 : decode cX11_turning 61 = .ok (.ireturn, 1) := by decide +kernel
theorem dX11_turning_62 : decode cX11_turning 62 = .ok (.iload_n 3, 1) := by decide +kernel
theorem dX11_turning_63 : decode cX11_turning 63 = .ok (.ifCond .ne 13, 3) := by decide +kernel
theorem dX11_turning_66 : decode cX11_turning 66 = .ok (.aload_n 0, 1) := by decide +kernel
theorem dX11_turning_67 : decode cX11_turning 67 = .ok (.getfield 75, 3) := by decide +kernel
theorem dX11_turning_70 : decode cX11_turning 70 = .ok (.iload 4, 2) := by decide +kernel
theorem dX11_turning_72 : decode cX11_turning 72 = .ok (.iaload, 1) := by decide +kernel
theorem dX11_turning_73 : decode cX11_turning 73 = .ok (.goto 49, 3) := by decide +kernel
theorem dX11_turning_76 : decode cX11_turning 76 = .ok (.iload_n 3, 1) := by decide +kernel
theorem dX11_turning_77 : decode cX11_turning 77 = .ok (.iconst 1, 1) := by decide +kernel
theorem dX11_turning_78 : decode cX11_turning 78 = .ok (.if_icmp .ne 13, 3) := by decide +kernel
theorem dX11_turning_81 : decode cX11_turning 81 = .ok (.aload_n 0, 1) := by decide +kernel
theorem dX11_turning_82 : decode cX11_turning 82 = .ok (.getfield 78, 3) := by decide +kernel
theorem dX11_turning_85 : decode cX11_turning 85 = .ok (.iload 4, 2) := by decide +kernel
theorem dX11_turning_87 : decode cX11_turning 87 = .ok (.iaload, 1) := by decide +kernel
theorem dX11_turning_88 : decode cX11_turning 88 = .ok (.goto 34, 3) := by decide +kernel
theorem dX11_turning_91 : decode cX11_turning 91 = .ok (.iload_n 3, 1) := by decide +kernel
theorem dX11_turning_92 : decode cX11_turning 92 = .ok (.iconst 2, 1) := by decide +kernel
theorem dX11_turning_93 : decode cX11_turning 93 = .ok (.isub, 1) := by decide +kernel
theorem dX11_turning_94 : decode cX11_turning 94 = .ok (.aload_n 0, 1) := by decide +kernel
theorem dX11_turning_95 : decode cX11_turning 95 = .ok (.getfield 78, 3) := by decide +kernel
theorem dX11_turning_98 : decode cX11_turning 98 = .ok (.iload 4, 2) := by decide +kernel
theorem dX11_turning_100 : decode cX11_turning 100 = .ok (.iaload, 1) := by decide +kernel
theorem dX11_turning_101 : decode cX11_turning 101 = .ok (.if_icmp .ge 20, 3) := by decide +kernel
theorem dX11_turning_104 : decode cX11_turning 104 = .ok (.aload_n 0, 1) := by decide +kernel
theorem dX11_turning_105 : decode cX11_turning 105 = .ok (.getfield 81, 3) := by decide +kernel
theorem dX11_turning_108 : decode cX11_turning 108 = .ok (.bipush 6, 2) := by decide +kernel
theorem dX11_turning_110 : decode cX11_turning 110 = .ok (.iload 4, 2) := by decide +kernel
theorem dX11_turning_112 : decode cX11_turning 112 = .ok (.imul, 1) := by decide +kernel
theorem dX11_turning_113 : decode cX11_turning 113 = .ok (.iload_n 3, 1) := by decide +kernel
theorem dX11_turning_114 : decode cX11_turning 114 = .ok (.iadd, 1) := by decide +kernel
theorem dX11_turning_115 : decode cX11_turning 115 = .ok (.iconst 2, 1) := by decide +kernel
theorem dX11_turning_116 : decode cX11_turning 116 = .ok (.isub, 1) := by decide +kernel
theorem dX11_turning_117 : decode cX11_turning 117 = .ok (.iaload, 1) := by decide +kernel
theorem dX11_turning_118 : decode cX11_turning 118 = .ok (.goto 4, 3) := by decide +kernel
theorem dX11_turning_121 : decode cX11_turning 121 = .ok (.iconst (-1), 1) := by decide +kernel
theorem dX11_turning_122 : decode cX11_turning 122 = .ok (.ireturn, 1) := by decide +kernel
theorem dX11_fail_0 : decode cX11_fail 0 = .ok (.aload_n 0, 1) := by decide +kernel
theorem dX11_fail_1 : decode cX11_fail 1 = .ok (.iconst 1, 1) := by decide +kernel
theorem dX11_fail_2 : decode cX11_fail 2 = .ok (.putfield 192, 3) := by decide +kernel
theorem dX11_fail_5 : decode cX11_fail 5 = .ok (.aload_n 0, 1) := by decide +kernel
theorem dX11_fail_6 : decode cX11_fail 6 = .ok (.iload_n 1, 1) := by decide +kernel
theorem dX11_fail_7 : decode cX11_fail 7 = .ok (.putfield 196, 3) := by decide +kernel
theorem dX11_fail_10 : decode cX11_fail 10 = .ok (.aload_n 0, 1) := by decide +kernel
theorem dX11_fail_11 : decode cX11_fail 11 = .ok (.iload_n 2, 1) := by decide +kernel
theorem dX11_fail_12 : decode cX11_fail 12 = .ok (.putfield 199, 3) := by decide +kernel
theorem dX11_fail_15 : decode cX11_fail 15 = .ok (.return_, 1) := by decide +kernel
theorem dX11_turnIt_0 : decode cX11_turnIt 0 = .ok (.bipush 7, 2) := by decide +kernel
theorem dX11_turnIt_2 : decode cX11_turnIt 2 = .ok (.iload_n 1, 1) := by decide +kernel
theorem dX11_turnIt_3 : decode cX11_turnIt 3 = .ok (.imul, 1) := by decide +kernel
theorem dX11_turnIt_4 : decode cX11_turnIt 4 = .ok (.iload_n 2, 1) := by decide +kernel
theorem dX11_turnIt_5 : decode cX11_turnIt 5 = .ok (.iadd, 1) := by decide +kernel
theorem dX11_turnIt_6 : decode cX11_turnIt 6 = .ok (.istore 6, 2) := by decide +kernel
theorem dX11_turnIt_8 : decode cX11_turnIt 8 = .ok (.aload_n 0, 1) := by decide +kernel
theorem dX11_turnIt_9 : decode cX11_turnIt 9 = .ok (.lload_n 3, 1) := by decide +kernel
theorem dX11_turnIt_10 : decode cX11_turnIt 10 = .ok (.putfield 202, 3) := by decide +kernel
theorem dX11_turnIt_13 : decode cX11_turnIt 13 = .ok (.iconst 0, 1) := by decide +kernel
theorem dX11_turnIt_14 : decode cX11_turnIt 14 = .ok (.istore 7, 2) := by decide +kernel
theorem dX11_turnIt_16 : decode cX11_turnIt 16 = .ok (.iload 7, 2) := by decide +kernel
theorem dX11_turnIt_18 : decode cX11_turnIt 18 = .ok (.aload_n 0, 1) := by decide +kernel
theorem dX11_turnIt_19 : decode cX11_turnIt 19 = .ok (.getfield 78, 3) := by decide +kernel
theorem dX11_turnIt_22 : decode cX11_turnIt 22 = .ok (.iload 6, 2) := by decide +kernel
theorem dX11_turnIt_24 : decode cX11_turnIt 24 = .ok (.iaload, 1) := by decide +kernel
theorem dX11_turnIt_25 : decode cX11_turnIt 25 = .ok (.if_icmp .ge 55, 3) := by decide +kernel
theorem dX11_turnIt_28 : decode cX11_turnIt 28 = .ok (.aload_n 0, 1) := by decide +kernel
theorem dX11_turnIt_29 : decode cX11_turnIt 29 = .ok (.getfield 81, 3) := by decide +kernel
theorem dX11_turnIt_32 : decode cX11_turnIt 32 = .ok (.bipush 6, 2) := by decide +kernel
theorem dX11_turnIt_34 : decode cX11_turnIt 34 = .ok (.iload 6, 2) := by decide +kernel
theorem dX11_turnIt_36 : decode cX11_turnIt 36 = .ok (.imul, 1) := by decide +kernel
theorem dX11_turnIt_37 : decode cX11_turnIt 37 = .ok (.iload 7, 2) := by decide +kernel
theorem dX11_turnIt_39 : decode cX11_turnIt 39 = .ok (.iadd, 1) := by decide +kernel
theorem dX11_turnIt_40 : decode cX11_turnIt 40 = .ok (.iaload, 1) := by decide +kernel
theorem dX11_turnIt_41 : decode cX11_turnIt 41 = .ok (.istore 8, 2) := by decide +kernel
theorem dX11_turnIt_43 : decode cX11_turnIt 43 = .ok (.aload_n 0, 1) := by decide +kernel
theorem dX11_turnIt_44 : decode cX11_turnIt 44 = .ok (.iload 8, 2) := by decide +kernel
theorem dX11_turnIt_46 : decode cX11_turnIt 46 = .ok (.aload_n 0, 1) := by decide +kernel
theorem dX11_turnIt_47 : decode cX11_turnIt 47 = .ok (.getfield 202, 3) := by decide +kernel
theorem dX11_turnIt_50 : decode cX11_turnIt 50 = .ok (.invokevirtual 205, 3) := by decide +kernel
theorem dX11_turnIt_53 : decode cX11_turnIt 53 = .ok (.ifCond .ne 13, 3) := by decide +kernel
theorem dX11_turnIt_56 : decode cX11_turnIt 56 = .ok (.aload_n 0, 1) := by decide +kernel
theorem dX11_turnIt_57 : decode cX11_turnIt 57 = .ok (.iload 5, 2) := by decide +kernel
theorem dX11_turnIt_59 : decode cX11_turnIt 59 = .ok (.iload 8, 2) := by decide +kernel
theorem dX11_turnIt_61 : decode cX11_turnIt 61 = .ok (.invokevirtual 208, 3) := by decide +kernel
theorem dX11_turnIt_64 : decode cX11_turnIt 64 = .ok (.iconst 0, 1) := by decide +kernel
theorem dX11_turnIt_65 : decode cX11_turnIt 65 = .ok (.ireturn, 1) := by decide +kernel
theorem dX11_turnIt_66 : decode cX11_turnIt 66 = .ok (.aload_n 0, 1) := by decide +kernel
theorem dX11_turnIt_67 : decode cX11_turnIt 67 = .ok (.aload_n 0, 1) := by decide +kernel
theorem dX11_turnIt_68 : decode cX11_turnIt 68 = .ok (.getfield 158, 3) := by decide +kernel
theorem dX11_turnIt_71 : decode cX11_turnIt 71 = .ok (.putfield 202, 3) := by decide +kernel
theorem dX11_turnIt_74 : decode cX11_turnIt 74 = .ok (.iinc 7 1, 3) := by decide +kernel
theorem dX11_turnIt_77 : decode cX11_turnIt 77 = .ok (.goto (-61), 3) := by decide +kernel
theorem dX11_turnIt_80 : decode cX11_turnIt 80 = .ok (.iconst 1, 1) := by decide +kernel
theorem dX11_turnIt_81 : decode cX11_turnIt 81 = .ok (.ireturn, 1) := by decide +kernel
theorem dX11_turn_0 : decode cX11_turn 0 = .ok (.aload_n 0, 1) := by decide +kernel
theorem dX11_turn_1 : decode cX11_turn 1 = .ok (.iconst 0, 1) := by decide +kernel
theorem dX11_turn_2 : decode cX11_turn 2 = .ok (.putfield 131, 3) := by decide +kernel
theorem dX11_turn_5 : decode cX11_turn 5 = .ok (.iload_n 1, 1) := by decide +kernel
theorem dX11_turn_6 : decode cX11_turn 6 = .ok (.i2l, 1) := by decide +kernel
theorem dX11_turn_7 : decode cX11_turn 7 = .ok (.lconst 0, 1) := by decide +kernel
theorem dX11_turn_8 : decode cX11_turn 8 = .ok (.ldc2_w 150, 3) := by decide +kernel
theorem dX11_turn_11 : decode cX11_turn 11 = .ok (.invokestatic 138, 3) := by decide +kernel
theorem dX11_turn_14 : decode cX11_turn 14 = .ok (.ifCond .eq 15, 3) := by decide +kernel
theorem dX11_turn_17 : decode cX11_turn 17 = .ok (.iload_n 2, 1) := by decide +kernel
theorem dX11_turn_18 : decode cX11_turn 18 = .ok (.i2l, 1) := by decide +kernel
theorem dX11_turn_19 : decode cX11_turn 19 = .ok (.lconst 0, 1) := by decide +kernel
theorem dX11_turn_20 : decode cX11_turn 20 = .ok (.ldc2_w 150, 3) := by decide +kernel
theorem dX11_turn_23 : decode cX11_turn 23 = .ok (.invokestatic 138, 3) := by decide +kernel
theorem dX11_turn_26 : decode cX11_turn 26 = .ok (.ifCond .ne 6, 3) := by decide +kernel
theorem dX11_turn_29 : decode cX11_turn 29 = .ok (.bipush (-3), 2) := by decide +kernel
theorem dX11_turn_31 : decode cX11_turn 31 = .ok (.ireturn, 1) := by decide +kernel
theorem dX11_turn_32 : decode cX11_turn 32 = .ok (.aload_n 0, 1) := by decide +kernel
theorem dX11_turn_33 : decode cX11_turn 33 = .ok (.invokevirtual 189, 3) := by decide +kernel
theorem dX11_turn_36 : decode cX11_turn 36 = .ok (.aload_n 0, 1) := by decide +kernel
theorem dX11_turn_37 : decode cX11_turn 37 = .ok (.getfield 75, 3) := by decide +kernel
theorem dX11_turn_40 : decode cX11_turn 40 = .ok (.bipush 7, 2) := by decide +kernel
theorem dX11_turn_42 : decode cX11_turn 42 = .ok (.iload_n 1, 1) := by decide +kernel
theorem dX11_turn_43 : decode cX11_turn 43 = .ok (.imul, 1) := by decide +kernel
theorem dX11_turn_44 : decode cX11_turn 44 = .ok (.iload_n 2, 1) := by decide +kernel
theorem dX11_turn_45 : decode cX11_turn 45 = .ok (.iadd, 1) := by decide +kernel
theorem dX11_turn_46 : decode cX11_turn 46 = .ok (.iaload, 1) := by decide +kernel
theorem dX11_turn_47 : decode cX11_turn 47 = .ok (.ldc 180, 2) := by decide +kernel
theorem dX11_turn_49 : decode cX11_turn 49 = .ok (.if_icmp .lt 5, 3) := by decide +kernel
theorem dX11_turn_52 : decode cX11_turn 52 = .ok (.iconst (-1), 1) := by decide +kernel
theorem dX11_turn_53 : decode cX11_turn 53 = .ok (.ireturn, 1) := by decide +kernel
theorem dX11_turn_54 : decode cX11_turn 54 = .ok (.iload_n 1, 1) := by decide +kernel
theorem dX11_turn_55 : decode cX11_turn 55 = .ok (.lload_n 3, 1) := by decide +kernel
theorem dX11_turn_56 : decode cX11_turn 56 = .ok (.invokestatic 176, 3) := by decide +kernel
theorem dX11_turn_59 : decode cX11_turn 59 = .ok (.ifCond .ne 12, 3) := by decide +kernel
theorem dX11_turn_62 : decode cX11_turn 62 = .ok (.aload_n 0, 1) := by decide +kernel
theorem dX11_turn_63 : decode cX11_turn 63 = .ok (.iconst 0, 1) := by decide +kernel
theorem dX11_turn_64 : decode cX11_turn 64 = .ok (.iconst (-1), 1) := by decide +kernel
theorem dX11_turn_65 : decode cX11_turn 65 = .ok (.invokevirtual 208, 3) := by decide +kernel
theorem dX11_turn_68 : decode cX11_turn 68 = .ok (.bipush (-7), 2) := by decide +kernel
theorem dX11_turn_70 : decode cX11_turn 70 = .ok (.ireturn, 1) := by decide +kernel
theorem dX11_turn_71 : decode cX11_turn 71 = .ok (.aload_n 0, 1) := by decide +kernel
theorem dX11_turn_72 : decode cX11_turn 72 = .ok (.iload_n 1, 1) := by decide +kernel
theorem dX11_turn_73 : decode cX11_turn 73 = .ok (.iload_n 2, 1) := by decide +kernel
theorem dX11_turn_74 : decode cX11_turn 74 = .ok (.lload_n 3, 1) := by decide +kernel
theorem dX11_turn_75 : decode cX11_turn 75 = .ok (.iconst 1, 1) := by decide +kernel
theorem dX11_turn_76 : decode cX11_turn 76 = .ok (.invokevirtual 212, 3) := by decide +kernel
theorem dX11_turn_79 : decode cX11_turn 79 = .ok (.ifCond .ne 6, 3) := by decide +kernel
theorem dX11_turn_82 : decode cX11_turn 82 = .ok (.bipush (-7), 2) := by decide +kernel
theorem dX11_turn_84 : decode cX11_turn 84 = .ok (.ireturn, 1) := by decide +kernel
theorem dX11_turn_85 : decode cX11_turn 85 = .ok (.aload_n 0, 1) := by decide +kernel
theorem dX11_turn_86 : decode cX11_turn 86 = .ok (.aload_n 0, 1) := by decide +kernel
theorem dX11_turn_87 : decode cX11_turn 87 = .ok (.getfield 202, 3) := by decide +kernel
theorem dX11_turn_90 : decode cX11_turn 90 = .ok (.putfield 216, 3) := by decide +kernel
theorem dX11_turn_93 : decode cX11_turn 93 = .ok (.iconst 0, 1) := by decide +kernel
theorem dX11_turn_94 : decode cX11_turn 94 = .ok (.ireturn, 1) := by decide +kernel
theorem dX11_add_0 : decode cX11_add 0 = .ok (.iload_n 2, 1) := by decide +kernel
theorem dX11_add_1 : decode cX11_add 1 = .ok (.i2l, 1) := by decide +kernel
theorem dX11_add_2 : decode cX11_add 2 = .ok (.lconst 0, 1) := by decide +kernel
theorem dX11_add_3 : decode cX11_add 3 = .ok (.ldc2_w 219, 3) := by decide +kernel
theorem dX11_add_6 : decode cX11_add 6 = .ok (.invokestatic 138, 3) := by decide +kernel
theorem dX11_add_9 : decode cX11_add 9 = .ok (.ifCond .eq 16, 3) := by decide +kernel
theorem dX11_add_12 : decode cX11_add 12 = .ok (.iload_n 3, 1) := by decide +kernel
theorem dX11_add_13 : decode cX11_add 13 = .ok (.ifCond .lt 12, 3) := by decide +kernel
theorem dX11_add_16 : decode cX11_add 16 = .ok (.iload_n 3, 1) := by decide +kernel
theorem dX11_add_17 : decode cX11_add 17 = .ok (.bipush 8, 2) := by decide +kernel
theorem dX11_add_19 : decode cX11_add 19 = .ok (.irem, 1) := by decide +kernel
theorem dX11_add_20 : decode cX11_add 20 = .ok (.bipush 7, 2) := by decide +kernel
theorem dX11_add_22 : decode cX11_add 22 = .ok (.if_icmp .ne 6, 3) := by decide +kernel
theorem dX11_add_25 : decode cX11_add 25 = .ok (.bipush (-3), 2) := by decide +kernel
theorem dX11_add_27 : decode cX11_add 27 = .ok (.ireturn, 1) := by decide +kernel
theorem dX11_add_28 : decode cX11_add 28 = .ok (.iconst 0, 1) := by decide +kernel
theorem dX11_add_29 : decode cX11_add 29 = .ok (.istore 4, 2) := by decide +kernel
theorem dX11_add_31 : decode cX11_add 31 = .ok (.iload_n 3, 1) := by decide +kernel
theorem dX11_add_32 : decode cX11_add 32 = .ok (.bipush 8, 2) := by decide +kernel
theorem dX11_add_34 : decode cX11_add 34 = .ok (.idiv, 1) := by decide +kernel
theorem dX11_add_35 : decode cX11_add 35 = .ok (.istore 5, 2) := by decide +kernel
theorem dX11_add_37 : decode cX11_add 37 = .ok (.iload 5, 2) := by decide +kernel
theorem dX11_add_39 : decode cX11_add 39 = .ok (.ifCond .le 33, 3) := by decide +kernel
theorem dX11_add_42 : decode cX11_add 42 = .ok (.iload 5, 2) := by decide +kernel
theorem dX11_add_44 : decode cX11_add 44 = .ok (.bipush 8, 2) := by decide +kernel
theorem dX11_add_46 : decode cX11_add 46 = .ok (.irem, 1) := by decide +kernel
theorem dX11_add_47 : decode cX11_add 47 = .ok (.ifCond .eq 9, 3) := by decide +kernel
theorem dX11_add_50 : decode cX11_add 50 = .ok (.iload 4, 2) := by decide +kernel
theorem dX11_add_52 : decode cX11_add 52 = .ok (.iconst 4, 1) := by decide +kernel
theorem dX11_add_53 : decode cX11_add 53 = .ok (.if_icmp .ne 6, 3) := by decide +kernel
theorem dX11_add_56 : decode cX11_add 56 = .ok (.bipush (-3), 2) := by decide +kernel
theorem dX11_add_58 : decode cX11_add 58 = .ok (.ireturn, 1) := by decide +kernel
theorem dX11_add_59 : decode cX11_add 59 = .ok (.iload 5, 2) := by decide +kernel
theorem dX11_add_61 : decode cX11_add 61 = .ok (.bipush 8, 2) := by decide +kernel
theorem dX11_add_63 : decode cX11_add 63 = .ok (.idiv, 1) := by decide +kernel
theorem dX11_add_64 : decode cX11_add 64 = .ok (.istore 5, 2) := by decide +kernel
theorem dX11_add_66 : decode cX11_add 66 = .ok (.iinc 4 1, 3) := by decide +kernel
theorem dX11_add_69 : decode cX11_add 69 = .ok (.goto (-32), 3) := by decide +kernel
theorem dX11_add_72 : decode cX11_add 72 = .ok (.aload_n 0, 1) := by decide +kernel
theorem dX11_add_73 : decode cX11_add 73 = .ok (.getfield 29, 3) := by decide +kernel
theorem dX11_add_76 : decode cX11_add 76 = .ok (.iload_n 1, 1) := by decide +kernel
theorem dX11_add_77 : decode cX11_add 77 = .ok (.iaload, 1) := by decide +kernel
theorem dX11_add_78 : decode cX11_add 78 = .ok (.bipush 6, 2) := by decide +kernel
theorem dX11_add_80 : decode cX11_add 80 = .ok (.if_icmp .ne 6, 3) := by decide +kernel
theorem dX11_add_83 : decode cX11_add 83 = .ok (.bipush (-5), 2) := by decide +kernel
theorem dX11_add_85 : decode cX11_add 85 = .ok (.ireturn, 1) := by decide +kernel
theorem dX11_add_86 : decode cX11_add 86 = .ok (.bipush 6, 2) := by decide +kernel
theorem dX11_add_88 : decode cX11_add 88 = .ok (.iload_n 1, 1) := by decide +kernel
theorem dX11_add_89 : decode cX11_add 89 = .ok (.imul, 1) := by decide +kernel
theorem dX11_add_90 : decode cX11_add 90 = .ok (.aload_n 0, 1) := by decide +kernel
theorem dX11_add_91 : decode cX11_add 91 = .ok (.getfield 29, 3) := by decide +kernel
theorem dX11_add_94 : decode cX11_add 94 = .ok (.iload_n 1, 1) := by decide +kernel
theorem dX11_add_95 : decode cX11_add 95 = .ok (.iaload, 1) := by decide +kernel
theorem dX11_add_96 : decode cX11_add 96 = .ok (.iadd, 1) := by decide +kernel
theorem dX11_add_97 : decode cX11_add 97 = .ok (.istore 6, 2) := by decide +kernel
theorem dX11_add_99 : decode cX11_add 99 = .ok (.aload_n 0, 1) := by decide +kernel
theorem dX11_add_100 : decode cX11_add 100 = .ok (.getfield 32, 3) := by decide +kernel
theorem dX11_add_103 : decode cX11_add 103 = .ok (.iload 6, 2) := by decide +kernel
theorem dX11_add_105 : decode cX11_add 105 = .ok (.iload_n 2, 1) := by decide +kernel
theorem dX11_add_106 : decode cX11_add 106 = .ok (.iastore, 1) := by decide +kernel
theorem dX11_add_107 : decode cX11_add 107 = .ok (.aload_n 0, 1) := by decide +kernel
theorem dX11_add_108 : decode cX11_add 108 = .ok (.getfield 41, 3) := by decide +kernel
theorem dX11_add_111 : decode cX11_add 111 = .ok (.iload 6, 2) := by decide +kernel
theorem dX11_add_113 : decode cX11_add 113 = .ok (.iload_n 3, 1) := by decide +kernel
theorem dX11_add_114 : decode cX11_add 114 = .ok (.bipush 8, 2) := by decide +kernel
theorem dX11_add_116 : decode cX11_add 116 = .ok (.irem, 1) := by decide +kernel
theorem dX11_add_117 : decode cX11_add 117 = .ok (.iastore, 1) := by decide +kernel
theorem dX11_add_118 : decode cX11_add 118 = .ok (.aload_n 0, 1) := by decide +kernel
theorem dX11_add_119 : decode cX11_add 119 = .ok (.getfield 35, 3) := by decide +kernel
theorem dX11_add_122 : decode cX11_add 122 = .ok (.iload 6, 2) := by decide +kernel
theorem dX11_add_124 : decode cX11_add 124 = .ok (.iload 4, 2) := by decide +kernel
theorem dX11_add_126 : decode cX11_add 126 = .ok (.iastore, 1) := by decide +kernel
theorem dX11_add_127 : decode cX11_add 127 = .ok (.iload_n 3, 1) := by decide +kernel
theorem dX11_add_128 : decode cX11_add 128 = .ok (.bipush 8, 2) := by decide +kernel
theorem dX11_add_130 : decode cX11_add 130 = .ok (.idiv, 1) := by decide +kernel
theorem dX11_add_131 : decode cX11_add 131 = .ok (.istore 5, 2) := by decide +kernel
theorem dX11_add_133 : decode cX11_add 133 = .ok (.iconst 0, 1) := by decide +kernel
theorem dX11_add_134 : decode cX11_add 134 = .ok (.istore 7, 2) := by decide +kernel
theorem dX11_add_136 : decode cX11_add 136 = .ok (.iload 7, 2) := by decide +kernel
theorem dX11_add_138 : decode cX11_add 138 = .ok (.iconst 4, 1) := by decide +kernel
theorem dX11_add_139 : decode cX11_add 139 = .ok (.if_icmp .ge 59, 3) := by decide +kernel
theorem dX11_add_142 : decode cX11_add 142 = .ok (.aload_n 0, 1) := by decide +kernel
theorem dX11_add_143 : decode cX11_add 143 = .ok (.getfield 38, 3) := by decide +kernel
theorem dX11_add_146 : decode cX11_add 146 = .ok (.iconst 4, 1) := by decide +kernel
theorem dX11_add_147 : decode cX11_add 147 = .ok (.iload 6, 2) := by decide +kernel
theorem dX11_add_149 : decode cX11_add 149 = .ok (.imul, 1) := by decide +kernel
theorem dX11_add_150 : decode cX11_add 150 = .ok (.iload 7, 2) := by decide +kernel
theorem dX11_add_152 : decode cX11_add 152 = .ok (.iadd, 1) := by decide +kernel
theorem dX11_add_153 : decode cX11_add 153 = .ok (.iload 7, 2) := by decide +kernel
theorem dX11_add_155 : decode cX11_add 155 = .ok (.iload 4, 2) := by decide +kernel
theorem dX11_add_157 : decode cX11_add 157 = .ok (.if_icmp .ge 13, 3) := by decide +kernel
theorem dX11_add_160 : decode cX11_add 160 = .ok (.iload 5, 2) := by decide +kernel
theorem dX11_add_162 : decode cX11_add 162 = .ok (.bipush 8, 2) := by decide +kernel
theorem dX11_add_164 : decode cX11_add 164 = .ok (.irem, 1) := by decide +kernel
theorem dX11_add_165 : decode cX11_add 165 = .ok (.iconst 1, 1) := by decide +kernel
theorem dX11_add_166 : decode cX11_add 166 = .ok (.isub, 1) := by decide +kernel
theorem dX11_add_167 : decode cX11_add 167 = .ok (.goto 4, 3) := by decide +kernel
theorem dX11_add_170 : decode cX11_add 170 = .ok (.iconst 0, 1) := by decide +kernel
theorem dX11_add_171 : decode cX11_add 171 = .ok (.iastore, 1) := by decide +kernel
theorem dX11_add_172 : decode cX11_add 172 = .ok (.aload_n 0, 1) := by decide +kernel
theorem dX11_add_173 : decode cX11_add 173 = .ok (.getfield 53, 3) := by decide +kernel
theorem dX11_add_176 : decode cX11_add 176 = .ok (.iconst 4, 1) := by decide +kernel
theorem dX11_add_177 : decode cX11_add 177 = .ok (.iload 6, 2) := by decide +kernel
theorem dX11_add_179 : decode cX11_add 179 = .ok (.imul, 1) := by decide +kernel
theorem dX11_add_180 : decode cX11_add 180 = .ok (.iload 7, 2) := by decide +kernel
theorem dX11_add_182 : decode cX11_add 182 = .ok (.iadd, 1) := by decide +kernel
theorem dX11_add_183 : decode cX11_add 183 = .ok (.iconst 1, 1) := by decide +kernel
theorem dX11_add_184 : decode cX11_add 184 = .ok (.iastore, 1) := by decide +kernel
theorem dX11_add_185 : decode cX11_add 185 = .ok (.iload 5, 2) := by decide +kernel
theorem dX11_add_187 : decode cX11_add 187 = .ok (.bipush 8, 2) := by decide +kernel
theorem dX11_add_189 : decode cX11_add 189 = .ok (.idiv, 1) := by decide +kernel
theorem dX11_add_190 : decode cX11_add 190 = .ok (.istore 5, 2) := by decide +kernel
theorem dX11_add_192 : decode cX11_add 192 = .ok (.iinc 7 1, 3) := by decide +kernel
theorem dX11_add_195 : decode cX11_add 195 = .ok (.goto (-59), 3) := by decide +kernel
theorem dX11_add_198 : decode cX11_add 198 = .ok (.aload_n 0, 1) := by decide +kernel
theorem dX11_add_199 : decode cX11_add 199 = .ok (.getfield 44, 3) := by decide +kernel
theorem dX11_add_202 : decode cX11_add 202 = .ok (.iload 6, 2) := by decide +kernel
theorem dX11_add_204 : decode cX11_add 204 = .ok (.iconst 0, 1) := by decide +kernel
theorem dX11_add_205 : decode cX11_add 205 = .ok (.iastore, 1) := by decide +kernel
theorem dX11_add_206 : decode cX11_add 206 = .ok (.aload_n 0, 1) := by decide +kernel
theorem dX11_add_207 : decode cX11_add 207 = .ok (.getfield 47, 3) := by decide +kernel
theorem dX11_add_210 : decode cX11_add 210 = .ok (.iload 6, 2) := by decide +kernel
theorem dX11_add_212 : decode cX11_add 212 = .ok (.iconst (-1), 1) := by decide +kernel
theorem dX11_add_213 : decode cX11_add 213 = .ok (.iastore, 1) := by decide +kernel
theorem dX11_add_214 : decode cX11_add 214 = .ok (.aload_n 0, 1) := by decide +kernel
theorem dX11_add_215 : decode cX11_add 215 = .ok (.getfield 50, 3) := by decide +kernel
theorem dX11_add_218 : decode cX11_add 218 = .ok (.iload 6, 2) := by decide +kernel
theorem dX11_add_220 : decode cX11_add 220 = .ok (.iconst 0, 1) := by decide +kernel
theorem dX11_add_221 : decode cX11_add 221 = .ok (.iastore, 1) := by decide +kernel
theorem dX11_add_222 : decode cX11_add 222 = .ok (.aload_n 0, 1) := by decide +kernel
theorem dX11_add_223 : decode cX11_add 223 = .ok (.getfield 29, 3) := by decide +kernel
theorem dX11_add_226 : decode cX11_add 226 = .ok (.iload_n 1, 1) := by decide +kernel
theorem dX11_add_227 : decode cX11_add 227 = .ok (.dup2, 1) := by decide +kernel
theorem dX11_add_228 : decode cX11_add 228 = .ok (.iaload, 1) := by decide +kernel
theorem dX11_add_229 : decode cX11_add 229 = .ok (.iconst 1, 1) := by decide +kernel
theorem dX11_add_230 : decode cX11_add 230 = .ok (.iadd, 1) := by decide +kernel
theorem dX11_add_231 : decode cX11_add 231 = .ok (.iastore, 1) := by decide +kernel
theorem dX11_add_232 : decode cX11_add 232 = .ok (.aload_n 0, 1) := by decide +kernel
theorem dX11_add_233 : decode cX11_add 233 = .ok (.getfield 29, 3) := by decide +kernel
theorem dX11_add_236 : decode cX11_add 236 = .ok (.iload_n 1, 1) := by decide +kernel
theorem dX11_add_237 : decode cX11_add 237 = .ok (.iaload, 1) := by decide +kernel
theorem dX11_add_238 : decode cX11_add 238 = .ok (.iconst 1, 1) := by decide +kernel
theorem dX11_add_239 : decode cX11_add 239 = .ok (.isub, 1) := by decide +kernel
theorem dX11_add_240 : decode cX11_add 240 = .ok (.ireturn, 1) := by decide +kernel
theorem dX11_ask_0 : decode cX11_ask 0 = .ok (.aload_n 0, 1) := by decide +kernel
theorem dX11_ask_1 : decode cX11_ask 1 = .ok (.iconst 0, 1) := by decide +kernel
theorem dX11_ask_2 : decode cX11_ask 2 = .ok (.putfield 131, 3) := by decide +kernel
theorem dX11_ask_5 : decode cX11_ask 5 = .ok (.iload_n 1, 1) := by decide +kernel
theorem dX11_ask_6 : decode cX11_ask 6 = .ok (.i2l, 1) := by decide +kernel
theorem dX11_ask_7 : decode cX11_ask 7 = .ok (.lconst 0, 1) := by decide +kernel
theorem dX11_ask_8 : decode cX11_ask 8 = .ok (.ldc2_w 221, 3) := by decide +kernel
theorem dX11_ask_11 : decode cX11_ask 11 = .ok (.invokestatic 138, 3) := by decide +kernel
theorem dX11_ask_14 : decode cX11_ask 14 = .ok (.ifCond .eq 16, 3) := by decide +kernel
theorem dX11_ask_17 : decode cX11_ask 17 = .ok (.aload_n 0, 1) := by decide +kernel
theorem dX11_ask_18 : decode cX11_ask 18 = .ok (.bipush 10, 2) := by decide +kernel
theorem dX11_ask_20 : decode cX11_ask 20 = .ok (.iload_n 1, 1) := by decide +kernel
theorem dX11_ask_21 : decode cX11_ask 21 = .ok (.iadd, 1) := by decide +kernel
theorem dX11_ask_22 : decode cX11_ask 22 = .ok (.iload_n 2, 1) := by decide +kernel
theorem dX11_ask_23 : decode cX11_ask 23 = .ok (.iload_n 3, 1) := by decide +kernel
theorem dX11_ask_24 : decode cX11_ask 24 = .ok (.invokevirtual 223, 3) := by decide +kernel
theorem dX11_ask_27 : decode cX11_ask 27 = .ok (.goto 5, 3) := by decide +kernel
theorem dX11_ask_30 : decode cX11_ask 30 = .ok (.bipush (-3), 2) := by decide +kernel
theorem dX11_ask_32 : decode cX11_ask 32 = .ok (.ireturn, 1) := by decide +kernel
theorem dX11_offer_0 : decode cX11_offer 0 = .ok (.aload_n 0, 1) := by decide +kernel
theorem dX11_offer_1 : decode cX11_offer 1 = .ok (.iconst 0, 1) := by decide +kernel
theorem dX11_offer_2 : decode cX11_offer 2 = .ok (.putfield 131, 3) := by decide +kernel
theorem dX11_offer_5 : decode cX11_offer 5 = .ok (.iload_n 1, 1) := by decide +kernel
theorem dX11_offer_6 : decode cX11_offer 6 = .ok (.i2l, 1) := by decide +kernel
theorem dX11_offer_7 : decode cX11_offer 7 = .ok (.lconst 0, 1) := by decide +kernel
theorem dX11_offer_8 : decode cX11_offer 8 = .ok (.ldc2_w 221, 3) := by decide +kernel
theorem dX11_offer_11 : decode cX11_offer 11 = .ok (.invokestatic 138, 3) := by decide +kernel
theorem dX11_offer_14 : decode cX11_offer 14 = .ok (.ifCond .eq 13, 3) := by decide +kernel
theorem dX11_offer_17 : decode cX11_offer 17 = .ok (.aload_n 0, 1) := by decide +kernel
theorem dX11_offer_18 : decode cX11_offer 18 = .ok (.iload_n 1, 1) := by decide +kernel
theorem dX11_offer_19 : decode cX11_offer 19 = .ok (.iload_n 2, 1) := by decide +kernel
theorem dX11_offer_20 : decode cX11_offer 20 = .ok (.iload_n 3, 1) := by decide +kernel
theorem dX11_offer_21 : decode cX11_offer 21 = .ok (.invokevirtual 223, 3) := by decide +kernel
theorem dX11_offer_24 : decode cX11_offer 24 = .ok (.goto 5, 3) := by decide +kernel
theorem dX11_offer_27 : decode cX11_offer 27 = .ok (.bipush (-3), 2) := by decide +kernel
theorem dX11_offer_29 : decode cX11_offer 29 = .ok (.ireturn, 1) := by decide +kernel
theorem dX11_isMember_0 : decode cX11_isMember 0 = .ok (.iload_n 2, 1) := by decide +kernel
theorem dX11_isMember_1 : decode cX11_isMember 1 = .ok (.i2l, 1) := by decide +kernel
theorem dX11_isMember_2 : decode cX11_isMember 2 = .ok (.lconst 0, 1) := by decide +kernel
theorem dX11_isMember_3 : decode cX11_isMember 3 = .ok (.aload_n 0, 1) := by decide +kernel
theorem dX11_isMember_4 : decode cX11_isMember 4 = .ok (.getfield 29, 3) := by decide +kernel
theorem dX11_isMember_7 : decode cX11_isMember 7 = .ok (.iload_n 1, 1) := by decide +kernel
theorem dX11_isMember_8 : decode cX11_isMember 8 = .ok (.iaload, 1) := by decide +kernel
theorem dX11_isMember_9 : decode cX11_isMember 9 = .ok (.iconst 1, 1) := by decide +kernel
theorem dX11_isMember_10 : decode cX11_isMember 10 = .ok (.isub, 1) := by decide +kernel
theorem dX11_isMember_11 : decode cX11_isMember 11 = .ok (.i2l, 1) := by decide +kernel
theorem dX11_isMember_12 : decode cX11_isMember 12 = .ok (.invokestatic 138, 3) := by decide +kernel
theorem dX11_isMember_15 : decode cX11_isMember 15 = .ok (.ireturn, 1) := by decide +kernel
theorem dX11_work_0 : decode cX11_work 0 = .ok (.aload_n 0, 1) := by decide +kernel
theorem dX11_work_1 : decode cX11_work 1 = .ok (.iconst 0, 1) := by decide +kernel
theorem dX11_work_2 : decode cX11_work 2 = .ok (.putfield 131, 3) := by decide +kernel
theorem dX11_work_5 : decode cX11_work 5 = .ok (.iload_n 1, 1) := by decide +kernel
theorem dX11_work_6 : decode cX11_work 6 = .ok (.i2l, 1) := by decide +kernel
theorem dX11_work_7 : decode cX11_work 7 = .ok (.lconst 0, 1) := by decide +kernel
theorem dX11_work_8 : decode cX11_work 8 = .ok (.ldc2_w 221, 3) := by decide +kernel
theorem dX11_work_11 : decode cX11_work 11 = .ok (.invokestatic 138, 3) := by decide +kernel
theorem dX11_work_14 : decode cX11_work 14 = .ok (.ifCond .eq 57, 3) := by decide +kernel
theorem dX11_work_17 : decode cX11_work 17 = .ok (.iload_n 3, 1) := by decide +kernel
theorem dX11_work_18 : decode cX11_work 18 = .ok (.i2l, 1) := by decide +kernel
theorem dX11_work_19 : decode cX11_work 19 = .ok (.lconst 0, 1) := by decide +kernel
theorem dX11_work_20 : decode cX11_work 20 = .ok (.ldc2_w 227, 3) := by decide +kernel
theorem dX11_work_23 : decode cX11_work 23 = .ok (.invokestatic 138, 3) := by decide +kernel
theorem dX11_work_26 : decode cX11_work 26 = .ok (.ifCond .eq 45, 3) := by decide +kernel
theorem dX11_work_29 : decode cX11_work 29 = .ok (.iload 4, 2) := by decide +kernel
theorem dX11_work_31 : decode cX11_work 31 = .ok (.i2l, 1) := by decide +kernel
theorem dX11_work_32 : decode cX11_work 32 = .ok (.iload_n 3, 1) := by decide +kernel
theorem dX11_work_33 : decode cX11_work 33 = .ok (.ifCond .ne 9, 3) := by decide +kernel
theorem dX11_work_36 : decode cX11_work 36 = .ok (.ldc2_w 229, 3) := by decide +kernel
theorem dX11_work_39 : decode cX11_work 39 = .ok (.goto 4, 3) := by decide +kernel
theorem dX11_work_42 : decode cX11_work 42 = .ok (.lconst 0, 1) := by decide +kernel
theorem dX11_work_43 : decode cX11_work 43 = .ok (.ldc2_w 227, 3) := by decide +kernel
theorem dX11_work_46 : decode cX11_work 46 = .ok (.invokestatic 138, 3) := by decide +kernel
theorem dX11_work_49 : decode cX11_work 49 = .ok (.ifCond .eq 22, 3) := by decide +kernel
theorem dX11_work_52 : decode cX11_work 52 = .ok (.iload_n 3, 1) := by decide +kernel
theorem dX11_work_53 : decode cX11_work 53 = .ok (.ifCond .ne 21, 3) := by decide +kernel
theorem dX11_work_56 : decode cX11_work 56 = .ok (.iload 5, 2) := by decide +kernel
theorem dX11_work_58 : decode cX11_work 58 = .ok (.i2l, 1) := by decide +kernel
theorem dX11_work_59 : decode cX11_work 59 = .ok (.ldc2_w 231, 3) := by decide +kernel
theorem dX11_work_62 : decode cX11_work 62 = .ok (.ldc2_w 233, 3) := by decide +kernel
theorem dX11_work_65 : decode cX11_work 65 = .ok (.invokestatic 138, 3) := by decide +kernel
theorem dX11_work_68 : decode cX11_work 68 = .ok (.ifCond .ne 6, 3) := by decide +kernel
theorem dX11_work_71 : decode cX11_work 71 = .ok (.bipush (-3), 2) := by decide +kernel
theorem dX11_work_73 : decode cX11_work 73 = .ok (.ireturn, 1) := by decide +kernel
theorem dX11_work_74 : decode cX11_work 74 = .ok (.aload_n 0, 1) := by decide +kernel
theorem dX11_work_75 : decode cX11_work 75 = .ok (.iload_n 1, 1) := by decide +kernel
theorem dX11_work_76 : decode cX11_work 76 = .ok (.iload_n 2, 1) := by decide +kernel
theorem dX11_work_77 : decode cX11_work 77 = .ok (.invokevirtual 235, 3) := by decide +kernel
theorem dX11_work_80 : decode cX11_work 80 = .ok (.ifCond .ne 6, 3) := by decide +kernel
theorem dX11_work_83 : decode cX11_work 83 = .ok (.bipush (-2), 2) := by decide +kernel
theorem dX11_work_85 : decode cX11_work 85 = .ok (.ireturn, 1) := by decide +kernel
theorem dX11_work_86 : decode cX11_work 86 = .ok (.bipush 6, 2) := by decide +kernel
theorem dX11_work_88 : decode cX11_work 88 = .ok (.iload_n 1, 1) := by decide +kernel
theorem dX11_work_89 : decode cX11_work 89 = .ok (.imul, 1) := by decide +kernel
theorem dX11_work_90 : decode cX11_work 90 = .ok (.iload_n 2, 1) := by decide +kernel
theorem dX11_work_91 : decode cX11_work 91 = .ok (.iadd, 1) := by decide +kernel
theorem dX11_work_92 : decode cX11_work 92 = .ok (.istore 6, 2) := by decide +kernel
theorem dX11_work_94 : decode cX11_work 94 = .ok (.aload_n 0, 1) := by decide +kernel
