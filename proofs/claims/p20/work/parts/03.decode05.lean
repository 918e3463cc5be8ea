theorem dX10_init_9 : decode cX10_init 9 = .ok (.invokespecial 11, 3) := by decide +kernel
theorem dX10_init_12 : decode cX10_init 12 = .ok (.putfield 12, 3) := by decide +kernel
theorem dX10_init_15 : decode cX10_init 15 = .ok (.aload_n 0, 1) := by decide +kernel
theorem dX10_init_16 : decode cX10_init 16 = .ok (.new 16, 3) := by decide +kernel
theorem dX10_init_19 : decode cX10_init 19 = .ok (.dup, 1) := by decide +kernel
theorem dX10_init_20 : decode cX10_init 20 = .ok (.invokespecial 18, 3) := by decide +kernel
theorem dX10_init_23 : decode cX10_init 23 = .ok (.putfield 19, 3) := by decide +kernel
theorem dX10_init_26 : decode cX10_init 26 = .ok (.aload_n 0, 1) := by decide +kernel
theorem dX10_init_27 : decode cX10_init 27 = .ok (.new 23, 3) := by decide +kernel
theorem dX10_init_30 : decode cX10_init 30 = .ok (.dup, 1) := by decide +kernel
theorem dX10_init_31 : decode cX10_init 31 = .ok (.invokespecial 25, 3) := by decide +kernel
theorem dX10_init_34 : decode cX10_init 34 = .ok (.putfield 26, 3) := by decide +kernel
theorem dX10_init_37 : decode cX10_init 37 = .ok (.aload_n 0, 1) := by decide +kernel
theorem dX10_init_38 : decode cX10_init 38 = .ok (.new 30, 3) := by decide +kernel
theorem dX10_init_41 : decode cX10_init 41 = .ok (.dup, 1) := by decide +kernel
theorem dX10_init_42 : decode cX10_init 42 = .ok (.aload_n 0, 1) := by decide +kernel
theorem dX10_init_43 : decode cX10_init 43 = .ok (.getfield 12, 3) := by decide +kernel
theorem dX10_init_46 : decode cX10_init 46 = .ok (.aload_n 0, 1) := by decide +kernel
theorem dX10_init_47 : decode cX10_init 47 = .ok (.getfield 19, 3) := by decide +kernel
theorem dX10_init_50 : decode cX10_init 50 = .ok (.aload_n 0, 1) := by decide +kernel
theorem dX10_init_51 : decode cX10_init 51 = .ok (.getfield 26, 3) := by decide +kernel
theorem dX10_init_54 : decode cX10_init 54 = .ok (.invokespecial 32, 3) := by decide +kernel
theorem dX10_init_57 : decode cX10_init 57 = .ok (.putfield 35, 3) := by decide +kernel
theorem dX10_init_60 : decode cX10_init 60 = .ok (.aload_n 0, 1) := by decide +kernel
theorem dX10_init_61 : decode cX10_init 61 = .ok (.bipush 20, 2) := by decide +kernel
theorem dX10_init_63 : decode cX10_init 63 = .ok (.anewarray 39, 3) := by decide +kernel
theorem dX10_init_66 : decode cX10_init 66 = .ok (.putfield 41, 3) := by decide +kernel
theorem dX10_init_69 : decode cX10_init 69 = .ok (.aload_n 0, 1) := by decide +kernel
theorem dX10_init_70 : decode cX10_init 70 = .ok (.new 45, 3) := by decide +kernel
theorem dX10_init_73 : decode cX10_init 73 = .ok (.dup, 1) := by decide +kernel
theorem dX10_init_74 : decode cX10_init 74 = .ok (.aload_n 0, 1) := by decide +kernel
theorem dX10_init_75 : decode cX10_init 75 = .ok (.getfield 35, 3) := by decide +kernel
theorem dX10_init_78 : decode cX10_init 78 = .ok (.aload_n 0, 1) := by decide +kernel
theorem dX10_init_79 : decode cX10_init 79 = .ok (.getfield 41, 3) := by decide +kernel
theorem dX10_init_82 : decode cX10_init 82 = .ok (.invokespecial 47, 3) := by decide +kernel
theorem dX10_init_85 : decode cX10_init 85 = .ok (.putfield 50, 3) := by decide +kernel
theorem dX10_init_88 : decode cX10_init 88 = .ok (.aload_n 0, 1) := by decide +kernel
theorem dX10_init_89 : decode cX10_init 89 = .ok (.new 54, 3) := by decide +kernel
theorem dX10_init_92 : decode cX10_init 92 = .ok (.dup, 1) := by decide +kernel
theorem dX10_init_93 : decode cX10_init 93 = .ok (.invokespecial 56, 3) := by decide +kernel
theorem dX10_init_96 : decode cX10_init 96 = .ok (.putfield 57, 3) := by decide +kernel
theorem dX10_init_99 : decode cX10_init 99 = .ok (.aload_n 0, 1) := by decide +kernel
theorem dX10_init_100 : decode cX10_init 100 = .ok (.new 61, 3) := by decide +kernel
theorem dX10_init_103 : decode cX10_init 103 = .ok (.dup, 1) := by decide +kernel
theorem dX10_init_104 : decode cX10_init 104 = .ok (.invokespecial 63, 3) := by decide +kernel
theorem dX10_init_107 : decode cX10_init 107 = .ok (.putfield 64, 3) := by decide +kernel
theorem dX10_init_110 : decode cX10_init 110 = .ok (.aload_n 0, 1) := by decide +kernel
theorem dX10_init_111 : decode cX10_init 111 = .ok (.new 68, 3) := by decide +kernel
theorem dX10_init_114 : decode cX10_init 114 = .ok (.dup, 1) := by decide +kernel
theorem dX10_init_115 : decode cX10_init 115 = .ok (.aload_n 0, 1) := by decide +kernel
theorem dX10_init_116 : decode cX10_init 116 = .ok (.getfield 12, 3) := by decide +kernel
theorem dX10_init_119 : decode cX10_init 119 = .ok (.aload_n 0, 1) := by decide +kernel
theorem dX10_init_120 : decode cX10_init 120 = .ok (.getfield 26, 3) := by decide +kernel
theorem dX10_init_123 : decode cX10_init 123 = .ok (.aload_n 0, 1) := by decide +kernel
theorem dX10_init_124 : decode cX10_init 124 = .ok (.getfield 35, 3) := by decide +kernel
theorem dX10_init_127 : decode cX10_init 127 = .ok (.aload_n 0, 1) := by decide +kernel
theorem dX10_init_128 : decode cX10_init 128 = .ok (.getfield 64, 3) := by decide +kernel
theorem dX10_init_131 : decode cX10_init 131 = .ok (.invokespecial 70, 3) := by decide +kernel
theorem dX10_init_134 : decode cX10_init 134 = .ok (.putfield 73, 3) := by decide +kernel
theorem dX10_init_137 : decode cX10_init 137 = .ok (.iconst 0, 1) := by decide +kernel
theorem dX10_init_138 : decode cX10_init 138 = .ok (.istore_n 1, 1) := by decide +kernel
theorem dX10_init_139 : decode cX10_init 139 = .ok (.iload_n 1, 1) := by decide +kernel
theorem dX10_init_140 : decode cX10_init 140 = .ok (.bipush 20, 2) := by decide +kernel
theorem dX10_init_142 : decode cX10_init 142 = .ok (.if_icmp .ge 22, 3) := by decide +kernel
theorem dX10_init_145 : decode cX10_init 145 = .ok (.aload_n 0, 1) := by decide +kernel
theorem dX10_init_146 : decode cX10_init 146 = .ok (.getfield 41, 3) := by decide +kernel
theorem dX10_init_149 : decode cX10_init 149 = .ok (.iload_n 1, 1) := by decide +kernel
theorem dX10_init_150 : decode cX10_init 150 = .ok (.new 39, 3) := by decide +kernel
theorem dX10_init_153 : decode cX10_init 153 = .ok (.dup, 1) := by decide +kernel
theorem dX10_init_154 : decode cX10_init 154 = .ok (.invokespecial 77, 3) := by decide +kernel
theorem dX10_init_157 : decode cX10_init 157 = .ok (.aastore, 1) := by decide +kernel
theorem dX10_init_158 : decode cX10_init 158 = .ok (.iinc 1 1, 3) := by decide +kernel
theorem dX10_init_161 : decode cX10_init 161 = .ok (.goto (-22), 3) := by decide +kernel
theorem dX10_init_164 : decode cX10_init 164 = .ok (.return_, 1) := by decide +kernel
theorem dX10_rule_0 : decode cX10_rule 0 = .ok (.iload_n 1, 1) := by decide +kernel
theorem dX10_rule_1 : decode cX10_rule 1 = .ok (.invokestatic 78, 3) := by decide +kernel
theorem dX10_rule_4 : decode cX10_rule 4 = .ok (.ifCond .eq 25, 3) := by decide +kernel
theorem dX10_rule_7 : decode cX10_rule 7 = .ok (.iload_n 2, 1) := by decide +kernel
theorem dX10_rule_8 : decode cX10_rule 8 = .ok (.invokestatic 78, 3) := by decide +kernel
theorem dX10_rule_11 : decode cX10_rule 11 = .ok (.ifCond .eq 18, 3) := by decide +kernel
theorem dX10_rule_14 : decode cX10_rule 14 = .ok (.iload_n 1, 1) := by decide +kernel
theorem dX10_rule_15 : decode cX10_rule 15 = .ok (.iload_n 2, 1) := by decide +kernel
theorem dX10_rule_16 : decode cX10_rule 16 = .ok (.if_icmp .eq 13, 3) := by decide +kernel
theorem dX10_rule_19 : decode cX10_rule 19 = .ok (.iload_n 3, 1) := by decide +kernel
theorem dX10_rule_20 : decode cX10_rule 20 = .ok (.iconst 1, 1) := by decide +kernel
theorem dX10_rule_21 : decode cX10_rule 21 = .ok (.bipush 50, 2) := by decide +kernel
theorem dX10_rule_23 : decode cX10_rule 23 = .ok (.invokestatic 82, 3) := by decide +kernel
theorem dX10_rule_26 : decode cX10_rule 26 = .ok (.ifCond .ne 6, 3) := by decide +kernel
theorem dX10_rule_29 : decode cX10_rule 29 = .ok (.bipush (-3), 2) := by decide +kernel
theorem dX10_rule_31 : decode cX10_rule 31 = .ok (.ireturn, 1) := by decide +kernel
theorem dX10_rule_32 : decode cX10_rule 32 = .ok (.iload 4, 2) := by decide +kernel
theorem dX10_rule_34 : decode cX10_rule 34 = .ok (.ifCond .lt 27, 3) := by decide +kernel
theorem dX10_rule_37 : decode cX10_rule 37 = .ok (.iload 4, 2) := by decide +kernel
theorem dX10_rule_39 : decode cX10_rule 39 = .ok (.sipush 10000, 3) := by decide +kernel
theorem dX10_rule_42 : decode cX10_rule 42 = .ok (.idiv, 1) := by decide +kernel
theorem dX10_rule_43 : decode cX10_rule 43 = .ok (.sipush 2000, 3) := by decide +kernel
theorem dX10_rule_46 : decode cX10_rule 46 = .ok (.if_icmp .gt 15, 3) := by decide +kernel
theorem dX10_rule_49 : decode cX10_rule 49 = .ok (.iload 4, 2) := by decide +kernel
theorem dX10_rule_51 : decode cX10_rule 51 = .ok (.sipush 10000, 3) := by decide +kernel
theorem dX10_rule_54 : decode cX10_rule 54 = .ok (.irem, 1) := by decide +kernel
theorem dX10_rule_55 : decode cX10_rule 55 = .ok (.sipush 2000, 3) := by decide +kernel
theorem dX10_rule_58 : decode cX10_rule 58 = .ok (.if_icmp .le 6, 3) := by decide +kernel
theorem dX10_rule_61 : decode cX10_rule 61 = .ok (.bipush (-3), 2) := by decide +kernel
theorem dX10_rule_63 : decode cX10_rule 63 = .ok (.ireturn, 1) := by decide +kernel
theorem dX10_rule_64 : decode cX10_rule 64 = .ok (.aload_n 0, 1) := by decide +kernel
theorem dX10_rule_65 : decode cX10_rule 65 = .ok (.getfield 12, 3) := by decide +kernel
theorem dX10_rule_68 : decode cX10_rule 68 = .ok (.invokevirtual 86, 3) := by decide +kernel
theorem dX10_rule_71 : decode cX10_rule 71 = .ok (.ifCond .ne 6, 3) := by decide +kernel
theorem dX10_rule_74 : decode cX10_rule 74 = .ok (.bipush (-5), 2) := by decide +kernel
theorem dX10_rule_76 : decode cX10_rule 76 = .ok (.ireturn, 1) := by decide +kernel
theorem dX10_rule_77 : decode cX10_rule 77 = .ok (.aload_n 0, 1) := by decide +kernel
theorem dX10_rule_78 : decode cX10_rule 78 = .ok (.getfield 50, 3) := by decide +kernel
theorem dX10_rule_81 : decode cX10_rule 81 = .ok (.invokevirtual 90, 3) := by decide +kernel
theorem dX10_rule_84 : decode cX10_rule 84 = .ok (.aload_n 0, 1) := by decide +kernel
theorem dX10_rule_85 : decode cX10_rule 85 = .ok (.getfield 12, 3) := by decide +kernel
theorem dX10_rule_88 : decode cX10_rule 88 = .ok (.iload_n 1, 1) := by decide +kernel
theorem dX10_rule_89 : decode cX10_rule 89 = .ok (.iload_n 2, 1) := by decide +kernel
theorem dX10_rule_90 : decode cX10_rule 90 = .ok (.iload_n 3, 1) := by decide +kernel
theorem dX10_rule_91 : decode cX10_rule 91 = .ok (.iload 4, 2) := by decide +kernel
theorem dX10_rule_93 : decode cX10_rule 93 = .ok (.sipush 10000, 3) := by decide +kernel
theorem dX10_rule_96 : decode cX10_rule 96 = .ok (.idiv, 1) := by decide +kernel
theorem dX10_rule_97 : decode cX10_rule 97 = .ok (.sipush 1000, 3) := by decide +kernel
theorem dX10_rule_100 : decode cX10_rule 100 = .ok (.isub, 1) := by decide +kernel
theorem dX10_rule_101 : decode cX10_rule 101 = .ok (.iload 4, 2) := by decide +kernel
theorem dX10_rule_103 : decode cX10_rule 103 = .ok (.sipush 10000, 3) := by decide +kernel
theorem dX10_rule_106 : decode cX10_rule 106 = .ok (.irem, 1) := by decide +kernel
theorem dX10_rule_107 : decode cX10_rule 107 = .ok (.sipush 1000, 3) := by decide +kernel
theorem dX10_rule_110 : decode cX10_rule 110 = .ok (.isub, 1) := by decide +kernel
theorem dX10_rule_111 : decode cX10_rule 111 = .ok (.invokevirtual 93, 3) := by decide +kernel
theorem dX10_rule_114 : decode cX10_rule 114 = .ok (.ireturn, 1) := by decide +kernel
theorem dX10_drop_0 : decode cX10_drop 0 = .ok (.aload_n 0, 1) := by decide +kernel
theorem dX10_drop_1 : decode cX10_drop 1 = .ok (.getfield 12, 3) := by decide +kernel
theorem dX10_drop_4 : decode cX10_drop 4 = .ok (.iload_n 1, 1) := by decide +kernel
theorem dX10_drop_5 : decode cX10_drop 5 = .ok (.invokevirtual 97, 3) := by decide +kernel
theorem dX10_drop_8 : decode cX10_drop 8 = .ok (.ifCond .ne 6, 3) := by decide +kernel
theorem dX10_drop_11 : decode cX10_drop 11 = .ok (.bipush (-2), 2) := by decide +kernel
theorem dX10_drop_13 : decode cX10_drop 13 = .ok (.ireturn, 1) := by decide +kernel
theorem dX10_drop_14 : decode cX10_drop 14 = .ok (.aload_n 0, 1) := by decide +kernel
theorem dX10_drop_15 : decode cX10_drop 15 = .ok (.getfield 12, 3) := by decide +kernel
theorem dX10_drop_18 : decode cX10_drop 18 = .ok (.iload_n 1, 1) := by decide +kernel
theorem dX10_drop_19 : decode cX10_drop 19 = .ok (.invokevirtual 100, 3) := by decide +kernel
theorem dX10_drop_22 : decode cX10_drop 22 = .ok (.aload_n 0, 1) := by decide +kernel
theorem dX10_drop_23 : decode cX10_drop 23 = .ok (.getfield 50, 3) := by decide +kernel
theorem dX10_drop_26 : decode cX10_drop 26 = .ok (.invokevirtual 90, 3) := by decide +kernel
theorem dX10_drop_29 : decode cX10_drop 29 = .ok (.iconst 1, 1) := by decide +kernel
theorem dX10_drop_30 : decode cX10_drop 30 = .ok (.ireturn, 1) := by decide +kernel
theorem dX10_turning_0 : decode cX10_turning 0 = .ok (.iload_n 1, 1) := by decide +kernel
theorem dX10_turning_1 : decode cX10_turning 1 = .ok (.invokestatic 78, 3) := by decide +kernel
theorem dX10_turning_4 : decode cX10_turning 4 = .ok (.ifCond .eq 14, 3) := by decide +kernel
theorem dX10_turning_7 : decode cX10_turning 7 = .ok (.iload_n 2, 1) := by decide +kernel
theorem dX10_turning_8 : decode cX10_turning 8 = .ok (.invokestatic 78, 3) := by decide +kernel
theorem dX10_turning_11 : decode cX10_turning 11 = .ok (.ifCond .eq 7, 3) := by decide +kernel
theorem dX10_turning_14 : decode cX10_turning 14 = .ok (.iload_n 3, 1) := by decide +kernel
theorem dX10_turning_15 : decode cX10_turning 15 = .ok (.ifCond .ge 6, 3) := by decide +kernel
theorem dX10_turning_18 : decode cX10_turning 18 = .ok (.bipush (-3), 2) := by decide +kernel
theorem dX10_turning_20 : decode cX10_turning 20 = .ok (.ireturn, 1) := by decide +kernel
theorem dX10_turning_21 : decode cX10_turning 21 = .ok (.aload_n 0, 1) := by decide +kernel
theorem dX10_turning_22 : decode cX10_turning 22 = .ok (.getfield 12, 3) := by decide +kernel
theorem dX10_turning_25 : decode cX10_turning 25 = .ok (.iload_n 1, 1) := by decide +kernel
theorem dX10_turning_26 : decode cX10_turning 26 = .ok (.iload_n 2, 1) := by decide +kernel
theorem dX10_turning_27 : decode cX10_turning 27 = .ok (.invokevirtual 104, 3) := by decide +kernel
theorem dX10_turning_30 : decode cX10_turning 30 = .ok (.istore 4, 2) := by decide +kernel
theorem dX10_turning_32 : decode cX10_turning 32 = .ok (.iload_n 3, 1) := by decide +kernel
theorem dX10_turning_33 : decode cX10_turning 33 = .ok (.ifCond .eq 9, 3) := by decide +kernel
theorem dX10_turning_36 : decode cX10_turning 36 = .ok (.iload 4, 2) := by decide +kernel
theorem dX10_turning_38 : decode cX10_turning 38 = .ok (.iconst (-1), 1) := by decide +kernel
theorem dX10_turning_39 : decode cX10_turning 39 = .ok (.if_icmp .ne 6, 3) := by decide +kernel
theorem dX10_turning_42 : decode cX10_turning 42 = .ok (.iload 4, 2) := by decide +kernel
theorem dX10_turning_44 : decode cX10_turning 44 = .ok (.ireturn, 1) := by decide +kernel
theorem dX10_turning_45 : decode cX10_turning 45 = .ok (.iload_n 3, 1) := by decide +kernel
theorem dX10_turning_46 : decode cX10_turning 46 = .ok (.iconst 1, 1) := by decide +kernel
theorem dX10_turning_47 : decode cX10_turning 47 = .ok (.if_icmp .ne 15, 3) := by decide +kernel
theorem dX10_turning_50 : decode cX10_turning 50 = .ok (.aload_n 0, 1) := by decide +kernel
theorem dX10_turning_51 : decode cX10_turning 51 = .ok (.getfield 12, 3) := by decide +kernel
theorem dX10_turning_54 : decode cX10_turning 54 = .ok (.iload_n 1, 1) := by decide +kernel
theorem dX10_turning_55 : decode cX10_turning 55 = .ok (.iload_n 2, 1) := by decide +kernel
theorem dX10_turning_56 : decode cX10_turning 56 = .ok (.invokevirtual 108, 3) := by decide +kernel
theorem dX10_turning_59 : decode cX10_turning 59 = .ok (.goto 15, 3) := by decide +kernel
theorem dX10_turning_62 : decode cX10_turning 62 = .ok (.aload_n 0, 1) := by decide +kernel
theorem dX10_turning_63 : decode cX10_turning 63 = .ok (.getfield 12, 3) := by decide +kernel
theorem dX10_turning_66 : decode cX10_turning 66 = .ok (.iload_n 1, 1) := by decide +kernel
theorem dX10_turning_67 : decode cX10_turning 67 = .ok (.iload_n 2, 1) := by decide +kernel
theorem dX10_turning_68 : decode cX10_turning 68 = .ok (.iload_n 3, 1) := by decide +kernel
theorem dX10_turning_69 : decode cX10_turning 69 = .ok (.iconst 2, 1) := by decide +kernel
theorem dX10_turning_70 : decode cX10_turning 70 = .ok (.isub, 1) := by decide +kernel
theorem dX10_turning_71 : decode cX10_turning 71 = .ok (.invokevirtual 111, 3) := by decide +kernel
theorem dX10_turning_74 : decode cX10_turning 74 = .ok (.ireturn, 1) := by decide +kernel
theorem dX10_turn_0 : decode cX10_turn 0 = .ok (.iload_n 1, 1) := by decide +kernel
theorem dX10_turn_1 : decode cX10_turn 1 = .ok (.invokestatic 78, 3) := by decide +kernel
theorem dX10_turn_4 : decode cX10_turn 4 = .ok (.ifCond .eq 10, 3) := by decide +kernel
theorem dX10_turn_7 : decode cX10_turn 7 = .ok (.iload_n 2, 1) := by decide +kernel
theorem dX10_turn_8 : decode cX10_turn 8 = .ok (.invokestatic 78, 3) := by decide +kernel
theorem dX10_turn_11 : decode cX10_turn 11 = .ok (.ifCond .ne 6, 3) := by decide +kernel
theorem dX10_turn_14 : decode cX10_turn 14 = .ok (.bipush (-3), 2) := by decide +kernel
theorem dX10_turn_16 : decode cX10_turn 16 = .ok (.ireturn, 1) := by decide +kernel
theorem dX10_turn_17 : decode cX10_turn 17 = .ok (.aload_n 0, 1) := by decide +kernel
theorem dX10_turn_18 : decode cX10_turn 18 = .ok (.getfield 12, 3) := by decide +kernel
theorem dX10_turn_21 : decode cX10_turn 21 = .ok (.iload_n 1, 1) := by decide +kernel
theorem dX10_turn_22 : decode cX10_turn 22 = .ok (.iload_n 2, 1) := by decide +kernel
theorem dX10_turn_23 : decode cX10_turn 23 = .ok (.invokevirtual 104, 3) := by decide +kernel
theorem dX10_turn_26 : decode cX10_turn 26 = .ok (.iconst (-1), 1) := by decide +kernel
theorem dX10_turn_27 : decode cX10_turn 27 = .ok (.if_icmp .ne 5, 3) := by decide +kernel
theorem dX10_turn_30 : decode cX10_turn 30 = .ok (.iconst (-1), 1) := by decide +kernel
theorem dX10_turn_31 : decode cX10_turn 31 = .ok (.ireturn, 1) := by decide +kernel
theorem dX10_turn_32 : decode cX10_turn 32 = .ok (.iload_n 1, 1) := by decide +kernel
theorem dX10_turn_33 : decode cX10_turn 33 = .ok (.lload_n 3, 1) := by decide +kernel
theorem dX10_turn_34 : decode cX10_turn 34 = .ok (.invokestatic 115, 3) := by decide +kernel
theorem dX10_turn_37 : decode cX10_turn 37 = .ok (.ifCond .ne 15, 3) := by decide +kernel
theorem dX10_turn_40 : decode cX10_turn 40 = .ok (.aload_n 0, 1) := by decide +kernel
theorem dX10_turn_41 : decode cX10_turn 41 = .ok (.getfield 64, 3) := by decide +kernel
theorem dX10_turn_44 : decode cX10_turn 44 = .ok (.iconst 0, 1) := by decide +kernel
theorem dX10_turn_45 : decode cX10_turn 45 = .ok (.iconst (-1), 1) := by decide +kernel
theorem dX10_turn_46 : decode cX10_turn 46 = .ok (.invokevirtual 119, 3) := by decide +kernel
theorem dX10_turn_49 : decode cX10_turn 49 = .ok (.bipush (-7), 2) := by decide +kernel
theorem dX10_turn_51 : decode cX10_turn 51 = .ok (.ireturn, 1) := by decide +kernel
theorem dX10_turn_52 : decode cX10_turn 52 = .ok (.aload_n 0, 1) := by decide +kernel
theorem dX10_turn_53 : decode cX10_turn 53 = .ok (.getfield 12, 3) := by decide +kernel
theorem dX10_turn_56 : decode cX10_turn 56 = .ok (.iload_n 1, 1) := by decide +kernel
theorem dX10_turn_57 : decode cX10_turn 57 = .ok (.iload_n 2, 1) := by decide +kernel
theorem dX10_turn_58 : decode cX10_turn 58 = .ok (.lload_n 3, 1) := by decide +kernel
theorem dX10_turn_59 : decode cX10_turn 59 = .ok (.invokevirtual 123, 3) := by decide +kernel
theorem dX10_turn_62 : decode cX10_turn 62 = .ok (.ifCond .ne 21, 3) := by decide +kernel
theorem dX10_turn_65 : decode cX10_turn 65 = .ok (.aload_n 0, 1) := by decide +kernel
theorem dX10_turn_66 : decode cX10_turn 66 = .ok (.getfield 64, 3) := by decide +kernel
theorem dX10_turn_69 : decode cX10_turn 69 = .ok (.iconst 1, 1) := by decide +kernel
theorem dX10_turn_70 : decode cX10_turn 70 = .ok (.aload_n 0, 1) := by decide +kernel
theorem dX10_turn_71 : decode cX10_turn 71 = .ok (.getfield 12, 3) := by decide +kernel
theorem dX10_turn_74 : decode cX10_turn 74 = .ok (.getfield 127, 3) := by decide +kernel
theorem dX10_turn_77 : decode cX10_turn 77 = .ok (.invokevirtual 119, 3) := by decide +kernel
theorem dX10_turn_80 : decode cX10_turn 80 = .ok (.bipush (-7), 2) := by decide +kernel
theorem dX10_turn_82 : decode cX10_turn 82 = .ok (.ireturn, 1) := by decide +kernel
theorem dX10_turn_83 : decode cX10_turn 83 = .ok (.aload_n 0, 1) := by decide +kernel
theorem dX10_turn_84 : decode cX10_turn 84 = .ok (.getfield 64, 3) := by decide +kernel
theorem dX10_turn_87 : decode cX10_turn 87 = .ok (.aload_n 0, 1) := by decide +kernel
theorem dX10_turn_88 : decode cX10_turn 88 = .ok (.getfield 12, 3) := by decide +kernel
theorem dX10_turn_91 : decode cX10_turn 91 = .ok (.getfield 131, 3) := by decide +kernel
theorem dX10_turn_94 : decode cX10_turn 94 = .ok (.putfield 135, 3) := by decide +kernel
theorem dX10_turn_97 : decode cX10_turn 97 = .ok (.iconst 0, 1) := by decide +kernel
theorem dX10_turn_98 : decode cX10_turn 98 = .ok (.ireturn, 1) := by decide +kernel
theorem dX10_ask_0 : decode cX10_ask 0 = .ok (.iload_n 1, 1) := by decide +kernel
theorem dX10_ask_1 : decode cX10_ask 1 = .ok (.iconst 0, 1) := by decide +kernel
theorem dX10_ask_2 : decode cX10_ask 2 = .ok (.bipush 9, 2) := by decide +kernel
theorem dX10_ask_4 : decode cX10_ask 4 = .ok (.invokestatic 82, 3) := by decide +kernel
theorem dX10_ask_7 : decode cX10_ask 7 = .ok (.ifCond .eq 17, 3) := by decide +kernel
theorem dX10_ask_10 : decode cX10_ask 10 = .ok (.iload_n 2, 1) := by decide +kernel
theorem dX10_ask_11 : decode cX10_ask 11 = .ok (.invokestatic 136, 3) := by decide +kernel
theorem dX10_ask_14 : decode cX10_ask 14 = .ok (.ifCond .eq 10, 3) := by decide +kernel
theorem dX10_ask_17 : decode cX10_ask 17 = .ok (.iload_n 3, 1) := by decide +kernel
theorem dX10_ask_18 : decode cX10_ask 18 = .ok (.invokestatic 139, 3) := by decide +kernel
theorem dX10_ask_21 : decode cX10_ask 21 = .ok (.ifCond .ne 6, 3) := by decide +kernel
theorem dX10_ask_24 : decode cX10_ask 24 = .ok (.bipush (-3), 2) := by decide +kernel
theorem dX10_ask_26 : decode cX10_ask 26 = .ok (.ireturn, 1) := by decide +kernel
theorem dX10_ask_27 : decode cX10_ask 27 = .ok (.aload_n 0, 1) := by decide +kernel
theorem dX10_ask_28 : decode cX10_ask 28 = .ok (.getfield 41, 3) := by decide +kernel
theorem dX10_ask_31 : decode cX10_ask 31 = .ok (.bipush 10, 2) := by decide +kernel
theorem dX10_ask_33 : decode cX10_ask 33 = .ok (.iload_n 1, 1) := by decide +kernel
theorem dX10_ask_34 : decode cX10_ask 34 = .ok (.iadd, 1) := by decide +kernel
theorem dX10_ask_35 : decode cX10_ask 35 = .ok (.aaload, 1) := by decide +kernel
theorem dX10_ask_36 : decode cX10_ask 36 = .ok (.astore 4, 2) := by decide +kernel
theorem dX10_ask_38 : decode cX10_ask 38 = .ok (.aload 4, 2) := by decide +kernel
theorem dX10_ask_40 : decode cX10_ask 40 = .ok (.getfield 142, 3) := by decide +kernel
theorem dX10_ask_43 : decode cX10_ask 43 = .ok (.bipush 6, 2) := by decide +kernel
theorem dX10_ask_45 : decode cX10_ask 45 = .ok (.if_icmp .lt 6, 3) := by decide +kernel
theorem dX10_ask_48 : decode cX10_ask 48 = .ok (.bipush (-5), 2) := by decide +kernel
theorem dX10_ask_50 : decode cX10_ask 50 = .ok (.ireturn, 1) := by decide +kernel
theorem dX10_ask_51 : decode cX10_ask 51 = .ok (.aload_n 0, 1) := by decide +kernel
theorem dX10_ask_52 : decode cX10_ask 52 = .ok (.getfield 50, 3) := by decide +kernel
theorem dX10_ask_55 : decode cX10_ask 55 = .ok (.iload_n 1, 1) := by decide +kernel
theorem dX10_ask_56 : decode cX10_ask 56 = .ok (.invokevirtual 145, 3) := by decide +kernel
theorem dX10_ask_59 : decode cX10_ask 59 = .ok (.aload 4, 2) := by decide +kernel
theorem dX10_ask_61 : decode cX10_ask 61 = .ok (.iload_n 2, 1) := by decide +kernel
theorem dX10_ask_62 : decode cX10_ask 62 = .ok (.iload_n 3, 1) := by decide +kernel
theorem dX10_ask_63 : decode cX10_ask 63 = .ok (.invokevirtual 148, 3) := by decide +kernel
theorem dX10_ask_66 : decode cX10_ask 66 = .ok (.ireturn, 1) := by decide +kernel
theorem dX10_offer_0 : decode cX10_offer 0 = .ok (.iload_n 1, 1) := by decide +kernel
theorem dX10_offer_1 : decode cX10_offer 1 = .ok (.iconst 0, 1) := by decide +kernel
theorem dX10_offer_2 : decode cX10_offer 2 = .ok (.bipush 9, 2) := by decide +kernel
theorem dX10_offer_4 : decode cX10_offer 4 = .ok (.invokestatic 82, 3) := by decide +kernel
theorem dX10_offer_7 : decode cX10_offer 7 = .ok (.ifCond .eq 17, 3) := by decide +kernel
theorem dX10_offer_10 : decode cX10_offer 10 = .ok (.iload_n 2, 1) := by decide +kernel
theorem dX10_offer_11 : decode cX10_offer 11 = .ok (.invokestatic 136, 3) := by decide +kernel
theorem dX10_offer_14 : decode cX10_offer 14 = .ok (.ifCond .eq 10, 3) := by decide +kernel
theorem dX10_offer_17 : decode cX10_offer 17 = .ok (.iload_n 3, 1) := by decide +kernel
theorem dX10_offer_18 : decode cX10_offer 18 = .ok (.invokestatic 139, 3) := by decide +kernel
theorem dX10_offer_21 : decode cX10_offer 21 = .ok (.ifCond .ne 6, 3) := by decide +kernel
theorem dX10_offer_24 : decode cX10_offer 24 = .ok (.bipush (-3), 2) := by decide +kernel
theorem dX10_offer_26 : decode cX10_offer 26 = .ok (.ireturn, 1) := by decide +kernel
theorem dX10_offer_27 : decode cX10_offer 27 = .ok (.aload_n 0, 1) := by decide +kernel
theorem dX10_offer_28 : decode cX10_offer 28 = .ok (.getfield 41, 3) := by decide +kernel
theorem dX10_offer_31 : decode cX10_offer 31 = .ok (.iload_n 1, 1) := by decide +kernel
theorem dX10_offer_32 : decode cX10_offer 32 = .ok (.aaload, 1) := by decide +kernel
theorem dX10_offer_33 : decode cX10_offer 33 = .ok (.getfield 142, 3) := by decide +kernel
theorem dX10_offer_36 : decode cX10_offer 36 = .ok (.bipush 6, 2) := by decide +kernel
theorem dX10_offer_38 : decode cX10_offer 38 = .ok (.if_icmp .lt 8, 3) := by decide +kernel
theorem dX10_offer_41 : decode cX10_offer 41 = .ok (.bipush (-5), 2) := by decide +kernel
theorem dX10_offer_43 : decode cX10_offer 43 = .ok (.goto 14, 3) := by decide +kernel
theorem dX10_offer_46 : decode cX10_offer 46 = .ok (.aload_n 0, 1) := by decide +kernel
theorem dX10_offer_47 : decode cX10_offer 47 = .ok (.getfield 41, 3) := by decide +kernel
theorem dX10_offer_50 : decode cX10_offer 50 = .ok (.iload_n 1, 1) := by decide +kernel
theorem dX10_offer_51 : decode cX10_offer 51 = .ok (.aaload, 1) := by decide +kernel
theorem dX10_offer_52 : decode cX10_offer 52 = .ok (.iload_n 2, 1) := by decide +kernel
theorem dX10_offer_53 : decode cX10_offer 53 = .ok (.iload_n 3, 1) := by decide +kernel
theorem dX10_offer_54 : decode cX10_offer 54 = .ok (.invokevirtual 148, 3) := by decide +kernel
theorem dX10_offer_57 : decode cX10_offer 57 = .ok (.ireturn, 1) := by decide +kernel
theorem dX10_work_0 : decode cX10_work 0 = .ok (.iload_n 1, 1) := by decide +kernel
theorem dX10_work_1 : decode cX10_work 1 = .ok (.iconst 0, 1) := by decide +kernel
theorem dX10_work_2 : decode cX10_work 2 = .ok (.bipush 9, 2) := by decide +kernel
theorem dX10_work_4 : decode cX10_work 4 = .ok (.invokestatic 82, 3) := by decide +kernel
theorem dX10_work_7 : decode cX10_work 7 = .ok (.ifCond .eq 12, 3) := by decide +kernel
theorem dX10_work_10 : decode cX10_work 10 = .ok (.iload_n 3, 1) := by decide +kernel
theorem dX10_work_11 : decode cX10_work 11 = .ok (.iconst 0, 1) := by decide +kernel
theorem dX10_work_12 : decode cX10_work 12 = .ok (.iconst 2, 1) := by decide +kernel
theorem dX10_work_13 : decode cX10_work 13 = .ok (.invokestatic 82, 3) := by decide +kernel
theorem dX10_work_16 : decode cX10_work 16 = .ok (.ifCond .ne 6, 3) := by decide +kernel
theorem dX10_work_19 : decode cX10_work 19 = .ok (.bipush (-3), 2) := by decide +kernel
theorem dX10_work_21 : decode cX10_work 21 = .ok (.ireturn, 1) := by decide +kernel
theorem dX10_work_22 : decode cX10_work 22 = .ok (.iload_n 3, 1) := by decide +kernel
theorem dX10_work_23 : decode cX10_work 23 = .ok (.ifCond .ne 13, 3) := by decide +kernel
theorem dX10_work_26 : decode cX10_work 26 = .ok (.iload 4, 2) := by decide +kernel
theorem dX10_work_28 : decode cX10_work 28 = .ok (.iconst (-1), 1) := by decide +kernel
theorem dX10_work_29 : decode cX10_work 29 = .ok (.if_icmp .ne 7, 3) := by decide +kernel
theorem dX10_work_32 : decode cX10_work 32 = .ok (.iconst 1, 1) := by decide +kernel
theorem dX10_work_33 : decode cX10_work 33 = .ok (.goto 4, 3) := by decide +kernel
theorem dX10_work_36 : decode cX10_work 36 = .ok (.iconst 0, 1) := by decide +kernel
theorem dX10_work_37 : decode cX10_work 37 = .ok (.istore 6, 2) := by decide +kernel
theorem dX10_work_39 : decode cX10_work 39 = .ok (.iload 6, 2) := by decide +kernel
theorem dX10_work_41 : decode cX10_work 41 = .ok (.ifCond .ne 16, 3) := by decide +kernel
theorem dX10_work_44 : decode cX10_work 44 = .ok (.iload 4, 2) := by decide +kernel
theorem dX10_work_46 : decode cX10_work 46 = .ok (.iconst 0, 1) := by decide +kernel
theorem dX10_work_47 : decode cX10_work 47 = .ok (.iconst 2, 1) := by decide +kernel
theorem dX10_work_48 : decode cX10_work 48 = .ok (.invokestatic 82, 3) := by decide +kernel
theorem dX10_work_51 : decode cX10_work 51 = .ok (.ifCond .ne 6, 3) := by decide +kernel
theorem dX10_work_54 : decode cX10_work 54 = .ok (.bipush (-3), 2) := by decide +kernel
theorem dX10_work_56 : decode cX10_work 56 = .ok (.ireturn, 1) := by decide +kernel
theorem dX10_work_57 : decode cX10_work 57 = .ok (.iload_n 3, 1) := by decide +kernel
theorem dX10_work_58 : decode cX10_work 58 = .ok (.ifCond .ne 20, 3) := by decide +kernel
theorem dX10_work_61 : decode cX10_work 61 = .ok (.iload 5, 2) := by decide +kernel
theorem dX10_work_63 : decode cX10_work 63 = .ok (.sipush (-1000), 3) := by decide +kernel
theorem dX10_work_66 : decode cX10_work 66 = .ok (.sipush 1000, 3) := by decide +kernel
theorem dX10_work_69 : decode cX10_work 69 = .ok (.invokestatic 82, 3) := by decide +kernel
theorem dX10_work_72 : decode cX10_work 72 = .ok (.ifCond .ne 6, 3) := by decide +kernel
theorem dX10_work_75 : decode cX10_work 75 = .ok (.bipush (-3), 2) := by decide +kernel
theorem dX10_work_77 : decode cX10_work 77 = .ok (.ireturn, 1) := by decide +kernel
theorem dX10_work_78 : decode cX10_work 78 = .ok (.aload_n 0, 1) := by decide +kernel
theorem dX10_work_79 : decode cX10_work 79 = .ok (.getfield 41, 3) := by decide +kernel
theorem dX10_work_82 : decode cX10_work 82 = .ok (.iload_n 1, 1) := by decide +kernel
theorem dX10_work_83 : decode cX10_work 83 = .ok (.aaload, 1) := by decide +kernel
theorem dX10_work_84 : decode cX10_work 84 = .ok (.iload_n 2, 1) := by decide +kernel
theorem dX10_work_85 : decode cX10_work 85 = .ok (.invokevirtual 151, 3) := by decide +kernel
theorem dX10_work_88 : decode cX10_work 88 = .ok (.ifCond .ne 6, 3) := by decide +kernel
theorem dX10_work_91 : decode cX10_work 91 = .ok (.bipush (-2), 2) := by decide +kernel
theorem dX10_work_93 : decode cX10_work 93 = .ok (.ireturn, 1) := by decide +kernel
theorem dX10_work_94 : decode cX10_work 94 = .ok (.aload_n 0, 1) := by decide +kernel
theorem dX10_work_95 : decode cX10_work 95 = .ok (.getfield 41, 3) := by decide +kernel
theorem dX10_work_98 : decode cX10_work 98 = .ok (.iload_n 1, 1) := by decide +kernel
theorem dX10_work_99 : decode cX10_work 99 = .ok (.aaload, 1) := by decide +kernel
theorem dX10_work_100 : decode cX10_work 100 = .ok (.getfield 154, 3) := by decide +kernel
theorem dX10_work_103 : decode cX10_work 103 = .ok (.iload_n 2, 1) := by decide +kernel
theorem dX10_work_104 : decode cX10_work 104 = .ok (.aaload, 1) := by decide +kernel
theorem dX10_work_105 : decode cX10_work 105 = .ok (.iload_n 3, 1) := by decide +kernel
theorem dX10_work_106 : decode cX10_work 106 = .ok (.iload 4, 2) := by decide +kernel
theorem dX10_work_108 : decode cX10_work 108 = .ok (.iload 5, 2) := by decide +kernel
theorem dX10_work_110 : decode cX10_work 110 = .ok (.invokevirtual 158, 3) := by decide +kernel
theorem dX10_work_113 : decode cX10_work 113 = .ok (.iconst 0, 1) := by decide +kernel
theorem dX10_work_114 : decode cX10_work 114 = .ok (.ireturn, 1) := by decide +kernel
theorem dX10_times_0 : decode cX10_times 0 = .ok (.iload_n 1, 1) := by decide +kernel
theorem dX10_times_1 : decode cX10_times 1 = .ok (.iconst 0, 1) := by decide +kernel
theorem dX10_times_2 : decode cX10_times 2 = .ok (.bipush 9, 2) := by decide +kernel
theorem dX10_times_4 : decode cX10_times 4 = .ok (.invokestatic 82, 3) := by decide +kernel
theorem dX10_times_7 : decode cX10_times 7 = .ok (.ifCond .ne 6, 3) := by decide +kernel
theorem dX10_times_10 : decode cX10_times 10 = .ok (.bipush (-3), 2) := by decide +kernel
theorem dX10_times_12 : decode cX10_times 12 = .ok (.ireturn, 1) := by decide +kernel
theorem dX10_times_13 : decode cX10_times 13 = .ok (.aload_n 0, 1) := by decide +kernel
theorem dX10_times_14 : decode cX10_times 14 = .ok (.getfield 41, 3) := by decide +kernel
theorem dX10_times_17 : decode cX10_times 17 = .ok (.iload_n 1, 1) := by decide +kernel
theorem dX10_times_18 : decode cX10_times 18 = .ok (.aaload, 1) := by decide +kernel
theorem dX10_times_19 : decode cX10_times 19 = .ok (.iload_n 2, 1) := by decide +kernel
theorem dX10_times_20 : decode cX10_times 20 = .ok (.invokevirtual 151, 3) := by decide +kernel
theorem dX10_times_23 : decode cX10_times 23 = .ok (.ifCond .ne 6, 3) := by decide +kernel
theorem dX10_times_26 : decode cX10_times 26 = .ok (.bipush (-2), 2) := by decide +kernel
theorem dX10_times_28 : decode cX10_times 28 = .ok (.ireturn, 1) := by decide +kernel
theorem dX10_times_29 : decode cX10_times 29 = .ok (.aload_n 0, 1) := by decide +kernel
theorem dX10_times_30 : decode cX10_times 30 = .ok (.getfield 41, 3) := by decide +kernel
theorem dX10_times_33 : decode cX10_times 33 = .ok (.iload_n 1, 1) := by decide +kernel
theorem dX10_times_34 : decode cX10_times 34 = .ok (.aaload, 1) := by decide +kernel
theorem dX10_times_35 : decode cX10_times 35 = .ok (.getfield 154, 3) := by decide +kernel
theorem dX10_times_38 : decode cX10_times 38 = .ok (.iload_n 2, 1) := by decide +kernel
theorem dX10_times_39 : decode cX10_times 39 = .ok (.aaload, 1) := by decide +kernel
theorem dX10_times_40 : decode cX10_times 40 = .ok (.astore 5, 2) := by decide +kernel
theorem dX10_times_42 : decode cX10_times 42 = .ok (.iload_n 3, 1) := by decide +kernel
theorem dX10_times_43 : decode cX10_times 43 = .ok (.iconst 0, 1) := by decide +kernel
theorem dX10_times_44 : decode cX10_times 44 = .ok (.aload 5, 2) := by decide +kernel
theorem dX10_times_46 : decode cX10_times 46 = .ok (.getfield 164, 3) := by decide +kernel
theorem dX10_times_49 : decode cX10_times 49 = .ok (.iconst 1, 1) := by decide +kernel
theorem dX10_times_50 : decode cX10_times 50 = .ok (.isub, 1) := by decide +kernel
theorem dX10_times_51 : decode cX10_times 51 = .ok (.invokestatic 82, 3) := by decide +kernel
theorem dX10_times_54 : decode cX10_times 54 = .ok (.ifCond .eq 17, 3) := by decide +kernel
theorem dX10_times_57 : decode cX10_times 57 = .ok (.iload 4, 2) := by decide +kernel
theorem dX10_times_59 : decode cX10_times 59 = .ok (.sipush (-1000), 3) := by decide +kernel
theorem dX10_times_62 : decode cX10_times 62 = .ok (.sipush 1000, 3) := by decide +kernel
